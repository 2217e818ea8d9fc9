section
-- ===== PART A: goes FIRST, ahead of the names: the tables' words, and 'selects' of the private methods out of them =====
/-- a private method of a class that the tables say can be made, by its rows of tables_1 -/
def lw_okq (q : MethodName × Nat) : Prop := (q.1.cls ≠ "java/lang/invoke/MethodHandle" ∧ q.1.cls ≠ "java/lang/invoke/VarHandle") ∧ Cond.instantiable q.1.cls q.2 ∈ tables_1 ∧ Cond.privateMethod q.1 ∈ tables_1 ∧ Cond.instanceMethod q.1 ∈ tables_1
theorem lw_p0 : lw_okq (⟨"ThumbLinker", "layOutLines", "()Z"⟩, 6) := ⟨⟨by decide +kernel, by decide +kernel⟩, List.mem_of_getElem? (i := 27) (by decide +kernel), List.mem_of_getElem? (i := 344) (by decide +kernel), List.mem_of_getElem? (i := 345) (by decide +kernel)⟩
theorem lw_p1 : lw_okq (⟨"ThumbLinker", "tellGlobals", "()Z"⟩, 6) := ⟨⟨by decide +kernel, by decide +kernel⟩, List.mem_of_getElem? (i := 27) (by decide +kernel), List.mem_of_getElem? (i := 364) (by decide +kernel), List.mem_of_getElem? (i := 365) (by decide +kernel)⟩
theorem lw_p2 : lw_okq (⟨"ThumbLinker", "findRoom", "()Z"⟩, 6) := ⟨⟨by decide +kernel, by decide +kernel⟩, List.mem_of_getElem? (i := 27) (by decide +kernel), List.mem_of_getElem? (i := 377) (by decide +kernel), List.mem_of_getElem? (i := 378) (by decide +kernel)⟩
theorem lw_p3 : lw_okq (⟨"ThumbLinker$Layout", "line", "(II)I"⟩, 4) := ⟨⟨by decide +kernel, by decide +kernel⟩, List.mem_of_getElem? (i := 241) (by decide +kernel), List.mem_of_getElem? (i := 385) (by decide +kernel), List.mem_of_getElem? (i := 386) (by decide +kernel)⟩
theorem lw_p4 : lw_okq (⟨"ThumbLinker", "writeLines", "()Z"⟩, 6) := ⟨⟨by decide +kernel, by decide +kernel⟩, List.mem_of_getElem? (i := 27) (by decide +kernel), List.mem_of_getElem? (i := 393) (by decide +kernel), List.mem_of_getElem? (i := 394) (by decide +kernel)⟩
theorem lw_p5 : lw_okq (⟨"ThumbLinker$Build", "writeWord", "(LThumbLinker$Statement;II)I"⟩, 3) := ⟨⟨by decide +kernel, by decide +kernel⟩, List.mem_of_getElem? (i := 202) (by decide +kernel), List.mem_of_getElem? (i := 401) (by decide +kernel), List.mem_of_getElem? (i := 402) (by decide +kernel)⟩
theorem lw_p6 : lw_okq (⟨"ThumbLinker$Build", "resolve", "(IJ)I"⟩, 3) := ⟨⟨by decide +kernel, by decide +kernel⟩, List.mem_of_getElem? (i := 202) (by decide +kernel), List.mem_of_getElem? (i := 405) (by decide +kernel), List.mem_of_getElem? (i := 406) (by decide +kernel)⟩
theorem lw_p7 : lw_okq (⟨"ThumbLinker$Build", "writeInstruction", "(LThumbLinker$Statement;II)I"⟩, 3) := ⟨⟨by decide +kernel, by decide +kernel⟩, List.mem_of_getElem? (i := 202) (by decide +kernel), List.mem_of_getElem? (i := 428) (by decide +kernel), List.mem_of_getElem? (i := 429) (by decide +kernel)⟩
theorem lw_p8 : lw_okq (⟨"ThumbLinker$Build", "writeCall", "(III)V"⟩, 3) := ⟨⟨by decide +kernel, by decide +kernel⟩, List.mem_of_getElem? (i := 202) (by decide +kernel), List.mem_of_getElem? (i := 438) (by decide +kernel), List.mem_of_getElem? (i := 439) (by decide +kernel)⟩
theorem lw_p9 : lw_okq (⟨"ThumbLinker", "writeVectors", "()Z"⟩, 6) := ⟨⟨by decide +kernel, by decide +kernel⟩, List.mem_of_getElem? (i := 27) (by decide +kernel), List.mem_of_getElem? (i := 446) (by decide +kernel), List.mem_of_getElem? (i := 447) (by decide +kernel)⟩
theorem lw_p10 : lw_okq (⟨"ThumbLinker$Image", "bodyCharacter", "(II)C"⟩, 2) := ⟨⟨by decide +kernel, by decide +kernel⟩, List.mem_of_getElem? (i := 267) (by decide +kernel), List.mem_of_getElem? (i := 520) (by decide +kernel), List.mem_of_getElem? (i := 521) (by decide +kernel)⟩
theorem lw_p11 : lw_okq (⟨"ThumbLinker$Image", "recordByte", "(III)I"⟩, 2) := ⟨⟨by decide +kernel, by decide +kernel⟩, List.mem_of_getElem? (i := 267) (by decide +kernel), List.mem_of_getElem? (i := 527) (by decide +kernel), List.mem_of_getElem? (i := 528) (by decide +kernel)⟩
theorem lw_p12 : lw_okq (⟨"ThumbLinker$Image", "plainRecordByte", "(III)I"⟩, 2) := ⟨⟨by decide +kernel, by decide +kernel⟩, List.mem_of_getElem? (i := 267) (by decide +kernel), List.mem_of_getElem? (i := 531) (by decide +kernel), List.mem_of_getElem? (i := 532) (by decide +kernel)⟩
theorem lw_p13 : lw_okq (⟨"java/lang/Throwable", "fillInStackTrace", "(I)Ljava/lang/Throwable;"⟩, 6) := ⟨⟨by decide +kernel, by decide +kernel⟩, List.mem_of_getElem? (i := 586) (by decide +kernel), List.mem_of_getElem? (i := 584) (by decide +kernel), List.mem_of_getElem? (i := 585) (by decide +kernel)⟩
theorem lw_p14 : lw_okq (⟨"ThumbLinker$Parser", "label", "(LThumbLinker$Statement;)V"⟩, 1) := ⟨⟨by decide +kernel, by decide +kernel⟩, List.mem_of_getElem? (i := 142) (by decide +kernel), List.mem_of_getElem? (i := 669) (by decide +kernel), List.mem_of_getElem? (i := 670) (by decide +kernel)⟩
theorem lw_p15 : lw_okq (⟨"ThumbLinker$Parser", "directive", "(LThumbLinker$Mnemonic;LThumbLinker$Statement;)V"⟩, 1) := ⟨⟨by decide +kernel, by decide +kernel⟩, List.mem_of_getElem? (i := 142) (by decide +kernel), List.mem_of_getElem? (i := 716) (by decide +kernel), List.mem_of_getElem? (i := 717) (by decide +kernel)⟩
def lw_privs_1 : List (MethodName × Nat) := [(⟨"ThumbLinker", "layOutLines", "()Z"⟩, 6), (⟨"ThumbLinker", "tellGlobals", "()Z"⟩, 6), (⟨"ThumbLinker", "findRoom", "()Z"⟩, 6), (⟨"ThumbLinker$Layout", "line", "(II)I"⟩, 4), (⟨"ThumbLinker", "writeLines", "()Z"⟩, 6), (⟨"ThumbLinker$Build", "writeWord", "(LThumbLinker$Statement;II)I"⟩, 3), (⟨"ThumbLinker$Build", "resolve", "(IJ)I"⟩, 3), (⟨"ThumbLinker$Build", "writeInstruction", "(LThumbLinker$Statement;II)I"⟩, 3), (⟨"ThumbLinker$Build", "writeCall", "(III)V"⟩, 3), (⟨"ThumbLinker", "writeVectors", "()Z"⟩, 6), (⟨"ThumbLinker$Image", "bodyCharacter", "(II)C"⟩, 2), (⟨"ThumbLinker$Image", "recordByte", "(III)I"⟩, 2), (⟨"ThumbLinker$Image", "plainRecordByte", "(III)I"⟩, 2), (⟨"java/lang/Throwable", "fillInStackTrace", "(I)Ljava/lang/Throwable;"⟩, 6), (⟨"ThumbLinker$Parser", "label", "(LThumbLinker$Statement;)V"⟩, 1), (⟨"ThumbLinker$Parser", "directive", "(LThumbLinker$Mnemonic;LThumbLinker$Statement;)V"⟩, 1)]
theorem lw_r1 : ∀ q ∈ lw_privs_1, lw_okq q := List.forall_mem_cons.mpr ⟨lw_p0, List.forall_mem_cons.mpr ⟨lw_p1, List.forall_mem_cons.mpr ⟨lw_p2, List.forall_mem_cons.mpr ⟨lw_p3, List.forall_mem_cons.mpr ⟨lw_p4, List.forall_mem_cons.mpr ⟨lw_p5, List.forall_mem_cons.mpr ⟨lw_p6, List.forall_mem_cons.mpr ⟨lw_p7, List.forall_mem_cons.mpr ⟨lw_p8, List.forall_mem_cons.mpr ⟨lw_p9, List.forall_mem_cons.mpr ⟨lw_p10, List.forall_mem_cons.mpr ⟨lw_p11, List.forall_mem_cons.mpr ⟨lw_p12, List.forall_mem_cons.mpr ⟨lw_p13, List.forall_mem_cons.mpr ⟨lw_p14, List.forall_mem_cons.mpr ⟨lw_p15, fun _ h => absurd h List.not_mem_nil⟩⟩⟩⟩⟩⟩⟩⟩⟩⟩⟩⟩⟩⟩⟩⟩
theorem lw_p16 : lw_okq (⟨"ThumbLinker$Parser", "reference", "(LThumbLinker$Statement;)V"⟩, 1) := ⟨⟨by decide +kernel, by decide +kernel⟩, List.mem_of_getElem? (i := 142) (by decide +kernel), List.mem_of_getElem? (i := 720) (by decide +kernel), List.mem_of_getElem? (i := 721) (by decide +kernel)⟩
theorem lw_p17 : lw_okq (⟨"ThumbLinker$Parser", "value", "(LThumbLinker$Statement;)V"⟩, 1) := ⟨⟨by decide +kernel, by decide +kernel⟩, List.mem_of_getElem? (i := 142) (by decide +kernel), List.mem_of_getElem? (i := 730) (by decide +kernel), List.mem_of_getElem? (i := 731) (by decide +kernel)⟩
theorem lw_p18 : lw_okq (⟨"ThumbLinker$Parser", "instruction", "(LThumbLinker$Mnemonic;LThumbLinker$Statement;)V"⟩, 1) := ⟨⟨by decide +kernel, by decide +kernel⟩, List.mem_of_getElem? (i := 142) (by decide +kernel), List.mem_of_getElem? (i := 748) (by decide +kernel), List.mem_of_getElem? (i := 749) (by decide +kernel)⟩
theorem lw_p19 : lw_okq (⟨"ThumbLinker$Parser", "move", "(LThumbLinker$Mnemonic;)I"⟩, 1) := ⟨⟨by decide +kernel, by decide +kernel⟩, List.mem_of_getElem? (i := 142) (by decide +kernel), List.mem_of_getElem? (i := 752) (by decide +kernel), List.mem_of_getElem? (i := 753) (by decide +kernel)⟩
theorem lw_p20 : lw_okq (⟨"ThumbLinker$Parser", "firstRegister", "()I"⟩, 1) := ⟨⟨by decide +kernel, by decide +kernel⟩, List.mem_of_getElem? (i := 142) (by decide +kernel), List.mem_of_getElem? (i := 756) (by decide +kernel), List.mem_of_getElem? (i := 757) (by decide +kernel)⟩
theorem lw_p21 : lw_okq (⟨"ThumbLinker$Parser", "sum", "(LThumbLinker$Mnemonic;)I"⟩, 1) := ⟨⟨by decide +kernel, by decide +kernel⟩, List.mem_of_getElem? (i := 142) (by decide +kernel), List.mem_of_getElem? (i := 772) (by decide +kernel), List.mem_of_getElem? (i := 773) (by decide +kernel)⟩
theorem lw_p22 : lw_okq (⟨"ThumbLinker$Parser", "shift", "(LThumbLinker$Mnemonic;)I"⟩, 1) := ⟨⟨by decide +kernel, by decide +kernel⟩, List.mem_of_getElem? (i := 142) (by decide +kernel), List.mem_of_getElem? (i := 776) (by decide +kernel), List.mem_of_getElem? (i := 777) (by decide +kernel)⟩
theorem lw_p23 : lw_okq (⟨"ThumbLinker$Parser", "pair", "(LThumbLinker$Mnemonic;)I"⟩, 1) := ⟨⟨by decide +kernel, by decide +kernel⟩, List.mem_of_getElem? (i := 142) (by decide +kernel), List.mem_of_getElem? (i := 780) (by decide +kernel), List.mem_of_getElem? (i := 781) (by decide +kernel)⟩
theorem lw_p24 : lw_okq (⟨"ThumbLinker$Parser", "memory", "(I)I"⟩, 1) := ⟨⟨by decide +kernel, by decide +kernel⟩, List.mem_of_getElem? (i := 142) (by decide +kernel), List.mem_of_getElem? (i := 785) (by decide +kernel), List.mem_of_getElem? (i := 786) (by decide +kernel)⟩
theorem lw_p25 : lw_okq (⟨"ThumbLinker$Parser", "list", "(Ljava/lang/String;)I"⟩, 1) := ⟨⟨by decide +kernel, by decide +kernel⟩, List.mem_of_getElem? (i := 142) (by decide +kernel), List.mem_of_getElem? (i := 790) (by decide +kernel), List.mem_of_getElem? (i := 791) (by decide +kernel)⟩
theorem lw_p26 : lw_okq (⟨"ThumbLinker$Parser", "exchanged", "()I"⟩, 1) := ⟨⟨by decide +kernel, by decide +kernel⟩, List.mem_of_getElem? (i := 142) (by decide +kernel), List.mem_of_getElem? (i := 797) (by decide +kernel), List.mem_of_getElem? (i := 798) (by decide +kernel)⟩
theorem lw_p27 : lw_okq (⟨"ThumbLinkerModel", "forget", "()V"⟩, 40) := ⟨⟨by decide +kernel, by decide +kernel⟩, List.mem_of_getElem? (i := 840) (by decide +kernel), List.mem_of_getElem? (i := 846) (by decide +kernel), List.mem_of_getElem? (i := 847) (by decide +kernel)⟩
theorem lw_p28 : lw_okq (⟨"ThumbLinkerModel", "put", "(II)V"⟩, 40) := ⟨⟨by decide +kernel, by decide +kernel⟩, List.mem_of_getElem? (i := 840) (by decide +kernel), List.mem_of_getElem? (i := 979) (by decide +kernel), List.mem_of_getElem? (i := 980) (by decide +kernel)⟩
theorem lw_p29 : lw_okq (⟨"ThumbLinkerModel", "refused", "(I)Z"⟩, 40) := ⟨⟨by decide +kernel, by decide +kernel⟩, List.mem_of_getElem? (i := 840) (by decide +kernel), List.mem_of_getElem? (i := 983) (by decide +kernel), List.mem_of_getElem? (i := 984) (by decide +kernel)⟩
theorem lw_p30 : lw_okq (⟨"ThumbLinkerModel", "store", "(I)V"⟩, 40) := ⟨⟨by decide +kernel, by decide +kernel⟩, List.mem_of_getElem? (i := 840) (by decide +kernel), List.mem_of_getElem? (i := 998) (by decide +kernel), List.mem_of_getElem? (i := 999) (by decide +kernel)⟩
theorem lw_p31 : lw_okq (⟨"ThumbLinkerModel", "firstPass", "()I"⟩, 40) := ⟨⟨by decide +kernel, by decide +kernel⟩, List.mem_of_getElem? (i := 840) (by decide +kernel), List.mem_of_getElem? (i := 1014) (by decide +kernel), List.mem_of_getElem? (i := 1015) (by decide +kernel)⟩
def lw_privs_2 : List (MethodName × Nat) := [(⟨"ThumbLinker$Parser", "reference", "(LThumbLinker$Statement;)V"⟩, 1), (⟨"ThumbLinker$Parser", "value", "(LThumbLinker$Statement;)V"⟩, 1), (⟨"ThumbLinker$Parser", "instruction", "(LThumbLinker$Mnemonic;LThumbLinker$Statement;)V"⟩, 1), (⟨"ThumbLinker$Parser", "move", "(LThumbLinker$Mnemonic;)I"⟩, 1), (⟨"ThumbLinker$Parser", "firstRegister", "()I"⟩, 1), (⟨"ThumbLinker$Parser", "sum", "(LThumbLinker$Mnemonic;)I"⟩, 1), (⟨"ThumbLinker$Parser", "shift", "(LThumbLinker$Mnemonic;)I"⟩, 1), (⟨"ThumbLinker$Parser", "pair", "(LThumbLinker$Mnemonic;)I"⟩, 1), (⟨"ThumbLinker$Parser", "memory", "(I)I"⟩, 1), (⟨"ThumbLinker$Parser", "list", "(Ljava/lang/String;)I"⟩, 1), (⟨"ThumbLinker$Parser", "exchanged", "()I"⟩, 1), (⟨"ThumbLinkerModel", "forget", "()V"⟩, 40), (⟨"ThumbLinkerModel", "put", "(II)V"⟩, 40), (⟨"ThumbLinkerModel", "refused", "(I)Z"⟩, 40), (⟨"ThumbLinkerModel", "store", "(I)V"⟩, 40), (⟨"ThumbLinkerModel", "firstPass", "()I"⟩, 40)]
theorem lw_r2 : ∀ q ∈ lw_privs_2, lw_okq q := List.forall_mem_cons.mpr ⟨lw_p16, List.forall_mem_cons.mpr ⟨lw_p17, List.forall_mem_cons.mpr ⟨lw_p18, List.forall_mem_cons.mpr ⟨lw_p19, List.forall_mem_cons.mpr ⟨lw_p20, List.forall_mem_cons.mpr ⟨lw_p21, List.forall_mem_cons.mpr ⟨lw_p22, List.forall_mem_cons.mpr ⟨lw_p23, List.forall_mem_cons.mpr ⟨lw_p24, List.forall_mem_cons.mpr ⟨lw_p25, List.forall_mem_cons.mpr ⟨lw_p26, List.forall_mem_cons.mpr ⟨lw_p27, List.forall_mem_cons.mpr ⟨lw_p28, List.forall_mem_cons.mpr ⟨lw_p29, List.forall_mem_cons.mpr ⟨lw_p30, List.forall_mem_cons.mpr ⟨lw_p31, fun _ h => absurd h List.not_mem_nil⟩⟩⟩⟩⟩⟩⟩⟩⟩⟩⟩⟩⟩⟩⟩⟩
theorem lw_p32 : lw_okq (⟨"ThumbLinkerModel", "read", "(IIZ)V"⟩, 40) := ⟨⟨by decide +kernel, by decide +kernel⟩, List.mem_of_getElem? (i := 840) (by decide +kernel), List.mem_of_getElem? (i := 1018) (by decide +kernel), List.mem_of_getElem? (i := 1019) (by decide +kernel)⟩
theorem lw_p33 : lw_okq (⟨"ThumbLinkerModel", "next", "()C"⟩, 40) := ⟨⟨by decide +kernel, by decide +kernel⟩, List.mem_of_getElem? (i := 840) (by decide +kernel), List.mem_of_getElem? (i := 1022) (by decide +kernel), List.mem_of_getElem? (i := 1023) (by decide +kernel)⟩
theorem lw_p34 : lw_okq (⟨"ThumbLinkerModel", "wordEnd", "()I"⟩, 40) := ⟨⟨by decide +kernel, by decide +kernel⟩, List.mem_of_getElem? (i := 840) (by decide +kernel), List.mem_of_getElem? (i := 1026) (by decide +kernel), List.mem_of_getElem? (i := 1027) (by decide +kernel)⟩
theorem lw_p35 : lw_okq (⟨"ThumbLinkerModel", "isName", "(II)Z"⟩, 40) := ⟨⟨by decide +kernel, by decide +kernel⟩, List.mem_of_getElem? (i := 840) (by decide +kernel), List.mem_of_getElem? (i := 1039) (by decide +kernel), List.mem_of_getElem? (i := 1040) (by decide +kernel)⟩
theorem lw_p36 : lw_okq (⟨"ThumbLinkerModel", "isTwice", "(I)Z"⟩, 40) := ⟨⟨by decide +kernel, by decide +kernel⟩, List.mem_of_getElem? (i := 840) (by decide +kernel), List.mem_of_getElem? (i := 1043) (by decide +kernel), List.mem_of_getElem? (i := 1044) (by decide +kernel)⟩
theorem lw_p37 : lw_okq (⟨"ThumbLinkerModel", "labelOf", "(IIII)I"⟩, 40) := ⟨⟨by decide +kernel, by decide +kernel⟩, List.mem_of_getElem? (i := 840) (by decide +kernel), List.mem_of_getElem? (i := 1047) (by decide +kernel), List.mem_of_getElem? (i := 1048) (by decide +kernel)⟩
theorem lw_p38 : lw_okq (⟨"ThumbLinkerModel", "wrong", "(II)V"⟩, 40) := ⟨⟨by decide +kernel, by decide +kernel⟩, List.mem_of_getElem? (i := 840) (by decide +kernel), List.mem_of_getElem? (i := 1051) (by decide +kernel), List.mem_of_getElem? (i := 1052) (by decide +kernel)⟩
theorem lw_p39 : lw_okq (⟨"ThumbLinkerModel", "directive", "(II)Z"⟩, 40) := ⟨⟨by decide +kernel, by decide +kernel⟩, List.mem_of_getElem? (i := 840) (by decide +kernel), List.mem_of_getElem? (i := 1055) (by decide +kernel), List.mem_of_getElem? (i := 1056) (by decide +kernel)⟩
theorem lw_p40 : lw_okq (⟨"ThumbLinkerModel", "isWord", "(IIJ)Z"⟩, 40) := ⟨⟨by decide +kernel, by decide +kernel⟩, List.mem_of_getElem? (i := 840) (by decide +kernel), List.mem_of_getElem? (i := 1060) (by decide +kernel), List.mem_of_getElem? (i := 1061) (by decide +kernel)⟩
theorem lw_p41 : lw_okq (⟨"ThumbLinkerModel", "readName", "()V"⟩, 40) := ⟨⟨by decide +kernel, by decide +kernel⟩, List.mem_of_getElem? (i := 840) (by decide +kernel), List.mem_of_getElem? (i := 1068) (by decide +kernel), List.mem_of_getElem? (i := 1069) (by decide +kernel)⟩
theorem lw_p42 : lw_okq (⟨"ThumbLinkerModel", "word", "()V"⟩, 40) := ⟨⟨by decide +kernel, by decide +kernel⟩, List.mem_of_getElem? (i := 840) (by decide +kernel), List.mem_of_getElem? (i := 1073) (by decide +kernel), List.mem_of_getElem? (i := 1074) (by decide +kernel)⟩
theorem lw_p43 : lw_okq (⟨"ThumbLinkerModel", "readNumber", "(III)I"⟩, 40) := ⟨⟨by decide +kernel, by decide +kernel⟩, List.mem_of_getElem? (i := 840) (by decide +kernel), List.mem_of_getElem? (i := 1077) (by decide +kernel), List.mem_of_getElem? (i := 1078) (by decide +kernel)⟩
theorem lw_p44 : lw_okq (⟨"ThumbLinkerModel", "digits", "()I"⟩, 40) := ⟨⟨by decide +kernel, by decide +kernel⟩, List.mem_of_getElem? (i := 840) (by decide +kernel), List.mem_of_getElem? (i := 1081) (by decide +kernel), List.mem_of_getElem? (i := 1082) (by decide +kernel)⟩
theorem lw_p45 : lw_okq (⟨"ThumbLinkerModel", "takes", "(C)Z"⟩, 40) := ⟨⟨by decide +kernel, by decide +kernel⟩, List.mem_of_getElem? (i := 840) (by decide +kernel), List.mem_of_getElem? (i := 1085) (by decide +kernel), List.mem_of_getElem? (i := 1086) (by decide +kernel)⟩
theorem lw_p46 : lw_okq (⟨"ThumbLinkerModel", "simple", "(II)Z"⟩, 40) := ⟨⟨by decide +kernel, by decide +kernel⟩, List.mem_of_getElem? (i := 840) (by decide +kernel), List.mem_of_getElem? (i := 1092) (by decide +kernel), List.mem_of_getElem? (i := 1093) (by decide +kernel)⟩
theorem lw_p47 : lw_okq (⟨"ThumbLinkerModel", "plain", "(I)V"⟩, 40) := ⟨⟨by decide +kernel, by decide +kernel⟩, List.mem_of_getElem? (i := 840) (by decide +kernel), List.mem_of_getElem? (i := 1098) (by decide +kernel), List.mem_of_getElem? (i := 1099) (by decide +kernel)⟩
def lw_privs_3 : List (MethodName × Nat) := [(⟨"ThumbLinkerModel", "read", "(IIZ)V"⟩, 40), (⟨"ThumbLinkerModel", "next", "()C"⟩, 40), (⟨"ThumbLinkerModel", "wordEnd", "()I"⟩, 40), (⟨"ThumbLinkerModel", "isName", "(II)Z"⟩, 40), (⟨"ThumbLinkerModel", "isTwice", "(I)Z"⟩, 40), (⟨"ThumbLinkerModel", "labelOf", "(IIII)I"⟩, 40), (⟨"ThumbLinkerModel", "wrong", "(II)V"⟩, 40), (⟨"ThumbLinkerModel", "directive", "(II)Z"⟩, 40), (⟨"ThumbLinkerModel", "isWord", "(IIJ)Z"⟩, 40), (⟨"ThumbLinkerModel", "readName", "()V"⟩, 40), (⟨"ThumbLinkerModel", "word", "()V"⟩, 40), (⟨"ThumbLinkerModel", "readNumber", "(III)I"⟩, 40), (⟨"ThumbLinkerModel", "digits", "()I"⟩, 40), (⟨"ThumbLinkerModel", "takes", "(C)Z"⟩, 40), (⟨"ThumbLinkerModel", "simple", "(II)Z"⟩, 40), (⟨"ThumbLinkerModel", "plain", "(I)V"⟩, 40)]
theorem lw_r3 : ∀ q ∈ lw_privs_3, lw_okq q := List.forall_mem_cons.mpr ⟨lw_p32, List.forall_mem_cons.mpr ⟨lw_p33, List.forall_mem_cons.mpr ⟨lw_p34, List.forall_mem_cons.mpr ⟨lw_p35, List.forall_mem_cons.mpr ⟨lw_p36, List.forall_mem_cons.mpr ⟨lw_p37, List.forall_mem_cons.mpr ⟨lw_p38, List.forall_mem_cons.mpr ⟨lw_p39, List.forall_mem_cons.mpr ⟨lw_p40, List.forall_mem_cons.mpr ⟨lw_p41, List.forall_mem_cons.mpr ⟨lw_p42, List.forall_mem_cons.mpr ⟨lw_p43, List.forall_mem_cons.mpr ⟨lw_p44, List.forall_mem_cons.mpr ⟨lw_p45, List.forall_mem_cons.mpr ⟨lw_p46, List.forall_mem_cons.mpr ⟨lw_p47, fun _ h => absurd h List.not_mem_nil⟩⟩⟩⟩⟩⟩⟩⟩⟩⟩⟩⟩⟩⟩⟩⟩
theorem lw_p48 : lw_okq (⟨"ThumbLinkerModel", "oneOrNumber", "(II)V"⟩, 40) := ⟨⟨by decide +kernel, by decide +kernel⟩, List.mem_of_getElem? (i := 840) (by decide +kernel), List.mem_of_getElem? (i := 1103) (by decide +kernel), List.mem_of_getElem? (i := 1104) (by decide +kernel)⟩
theorem lw_p49 : lw_okq (⟨"ThumbLinkerModel", "register", "()I"⟩, 40) := ⟨⟨by decide +kernel, by decide +kernel⟩, List.mem_of_getElem? (i := 840) (by decide +kernel), List.mem_of_getElem? (i := 1107) (by decide +kernel), List.mem_of_getElem? (i := 1108) (by decide +kernel)⟩
theorem lw_p50 : lw_okq (⟨"ThumbLinkerModel", "want", "(C)V"⟩, 40) := ⟨⟨by decide +kernel, by decide +kernel⟩, List.mem_of_getElem? (i := 840) (by decide +kernel), List.mem_of_getElem? (i := 1111) (by decide +kernel), List.mem_of_getElem? (i := 1112) (by decide +kernel)⟩
theorem lw_p51 : lw_okq (⟨"ThumbLinkerModel", "immediate", "(III)I"⟩, 40) := ⟨⟨by decide +kernel, by decide +kernel⟩, List.mem_of_getElem? (i := 840) (by decide +kernel), List.mem_of_getElem? (i := 1115) (by decide +kernel), List.mem_of_getElem? (i := 1116) (by decide +kernel)⟩
theorem lw_p52 : lw_okq (⟨"ThumbLinkerModel", "sums", "(II)V"⟩, 40) := ⟨⟨by decide +kernel, by decide +kernel⟩, List.mem_of_getElem? (i := 840) (by decide +kernel), List.mem_of_getElem? (i := 1121) (by decide +kernel), List.mem_of_getElem? (i := 1122) (by decide +kernel)⟩
theorem lw_p53 : lw_okq (⟨"ThumbLinkerModel", "shifts", "(III)V"⟩, 40) := ⟨⟨by decide +kernel, by decide +kernel⟩, List.mem_of_getElem? (i := 840) (by decide +kernel), List.mem_of_getElem? (i := 1127) (by decide +kernel), List.mem_of_getElem? (i := 1128) (by decide +kernel)⟩
theorem lw_p54 : lw_okq (⟨"ThumbLinkerModel", "pairOf", "(II)I"⟩, 40) := ⟨⟨by decide +kernel, by decide +kernel⟩, List.mem_of_getElem? (i := 840) (by decide +kernel), List.mem_of_getElem? (i := 1133) (by decide +kernel), List.mem_of_getElem? (i := 1134) (by decide +kernel)⟩
theorem lw_p55 : lw_okq (⟨"ThumbLinkerModel", "two", "(I)V"⟩, 40) := ⟨⟨by decide +kernel, by decide +kernel⟩, List.mem_of_getElem? (i := 840) (by decide +kernel), List.mem_of_getElem? (i := 1147) (by decide +kernel), List.mem_of_getElem? (i := 1148) (by decide +kernel)⟩
theorem lw_p56 : lw_okq (⟨"ThumbLinkerModel", "other", "(II)Z"⟩, 40) := ⟨⟨by decide +kernel, by decide +kernel⟩, List.mem_of_getElem? (i := 840) (by decide +kernel), List.mem_of_getElem? (i := 1151) (by decide +kernel), List.mem_of_getElem? (i := 1152) (by decide +kernel)⟩
theorem lw_p57 : lw_okq (⟨"ThumbLinkerModel", "memory", "(IIZ)V"⟩, 40) := ⟨⟨by decide +kernel, by decide +kernel⟩, List.mem_of_getElem? (i := 840) (by decide +kernel), List.mem_of_getElem? (i := 1156) (by decide +kernel), List.mem_of_getElem? (i := 1157) (by decide +kernel)⟩
theorem lw_p58 : lw_okq (⟨"ThumbLinkerModel", "listed", "(IJ)V"⟩, 40) := ⟨⟨by decide +kernel, by decide +kernel⟩, List.mem_of_getElem? (i := 840) (by decide +kernel), List.mem_of_getElem? (i := 1166) (by decide +kernel), List.mem_of_getElem? (i := 1167) (by decide +kernel)⟩
theorem lw_p59 : lw_okq (⟨"ThumbLinkerModel", "jump", "(II)V"⟩, 40) := ⟨⟨by decide +kernel, by decide +kernel⟩, List.mem_of_getElem? (i := 840) (by decide +kernel), List.mem_of_getElem? (i := 1175) (by decide +kernel), List.mem_of_getElem? (i := 1176) (by decide +kernel)⟩
theorem lw_p60 : lw_okq (⟨"ThumbLinkerModel", "condition", "(II)I"⟩, 40) := ⟨⟨by decide +kernel, by decide +kernel⟩, List.mem_of_getElem? (i := 840) (by decide +kernel), List.mem_of_getElem? (i := 1181) (by decide +kernel), List.mem_of_getElem? (i := 1182) (by decide +kernel)⟩
theorem lw_p61 : lw_okq (⟨"ThumbLinkerModel", "report", "(IIII)I"⟩, 40) := ⟨⟨by decide +kernel, by decide +kernel⟩, List.mem_of_getElem? (i := 840) (by decide +kernel), List.mem_of_getElem? (i := 1186) (by decide +kernel), List.mem_of_getElem? (i := 1187) (by decide +kernel)⟩
theorem lw_p62 : lw_okq (⟨"ThumbLinkerModel", "addLabel", "(I)V"⟩, 40) := ⟨⟨by decide +kernel, by decide +kernel⟩, List.mem_of_getElem? (i := 840) (by decide +kernel), List.mem_of_getElem? (i := 1190) (by decide +kernel), List.mem_of_getElem? (i := 1191) (by decide +kernel)⟩
theorem lw_p63 : lw_okq (⟨"ThumbLinkerModel", "lay", "(I)I"⟩, 40) := ⟨⟨by decide +kernel, by decide +kernel⟩, List.mem_of_getElem? (i := 840) (by decide +kernel), List.mem_of_getElem? (i := 1194) (by decide +kernel), List.mem_of_getElem? (i := 1195) (by decide +kernel)⟩
def lw_privs_4 : List (MethodName × Nat) := [(⟨"ThumbLinkerModel", "oneOrNumber", "(II)V"⟩, 40), (⟨"ThumbLinkerModel", "register", "()I"⟩, 40), (⟨"ThumbLinkerModel", "want", "(C)V"⟩, 40), (⟨"ThumbLinkerModel", "immediate", "(III)I"⟩, 40), (⟨"ThumbLinkerModel", "sums", "(II)V"⟩, 40), (⟨"ThumbLinkerModel", "shifts", "(III)V"⟩, 40), (⟨"ThumbLinkerModel", "pairOf", "(II)I"⟩, 40), (⟨"ThumbLinkerModel", "two", "(I)V"⟩, 40), (⟨"ThumbLinkerModel", "other", "(II)Z"⟩, 40), (⟨"ThumbLinkerModel", "memory", "(IIZ)V"⟩, 40), (⟨"ThumbLinkerModel", "listed", "(IJ)V"⟩, 40), (⟨"ThumbLinkerModel", "jump", "(II)V"⟩, 40), (⟨"ThumbLinkerModel", "condition", "(II)I"⟩, 40), (⟨"ThumbLinkerModel", "report", "(IIII)I"⟩, 40), (⟨"ThumbLinkerModel", "addLabel", "(I)V"⟩, 40), (⟨"ThumbLinkerModel", "lay", "(I)I"⟩, 40)]
theorem lw_r4 : ∀ q ∈ lw_privs_4, lw_okq q := List.forall_mem_cons.mpr ⟨lw_p48, List.forall_mem_cons.mpr ⟨lw_p49, List.forall_mem_cons.mpr ⟨lw_p50, List.forall_mem_cons.mpr ⟨lw_p51, List.forall_mem_cons.mpr ⟨lw_p52, List.forall_mem_cons.mpr ⟨lw_p53, List.forall_mem_cons.mpr ⟨lw_p54, List.forall_mem_cons.mpr ⟨lw_p55, List.forall_mem_cons.mpr ⟨lw_p56, List.forall_mem_cons.mpr ⟨lw_p57, List.forall_mem_cons.mpr ⟨lw_p58, List.forall_mem_cons.mpr ⟨lw_p59, List.forall_mem_cons.mpr ⟨lw_p60, List.forall_mem_cons.mpr ⟨lw_p61, List.forall_mem_cons.mpr ⟨lw_p62, List.forall_mem_cons.mpr ⟨lw_p63, fun _ h => absurd h List.not_mem_nil⟩⟩⟩⟩⟩⟩⟩⟩⟩⟩⟩⟩⟩⟩⟩⟩
theorem lw_p64 : lw_okq (⟨"ThumbLinkerModel", "putByte", "(II)V"⟩, 40) := ⟨⟨by decide +kernel, by decide +kernel⟩, List.mem_of_getElem? (i := 840) (by decide +kernel), List.mem_of_getElem? (i := 1198) (by decide +kernel), List.mem_of_getElem? (i := 1199) (by decide +kernel)⟩
theorem lw_p65 : lw_okq (⟨"ThumbLinkerModel", "putMany", "(III)V"⟩, 40) := ⟨⟨by decide +kernel, by decide +kernel⟩, List.mem_of_getElem? (i := 840) (by decide +kernel), List.mem_of_getElem? (i := 1202) (by decide +kernel), List.mem_of_getElem? (i := 1203) (by decide +kernel)⟩
theorem lw_p66 : lw_okq (⟨"ThumbLinkerModel", "secondPass", "()I"⟩, 40) := ⟨⟨by decide +kernel, by decide +kernel⟩, List.mem_of_getElem? (i := 840) (by decide +kernel), List.mem_of_getElem? (i := 1206) (by decide +kernel), List.mem_of_getElem? (i := 1207) (by decide +kernel)⟩
theorem lw_p67 : lw_okq (⟨"ThumbLinkerModel", "isGlobalName", "(II)Z"⟩, 40) := ⟨⟨by decide +kernel, by decide +kernel⟩, List.mem_of_getElem? (i := 840) (by decide +kernel), List.mem_of_getElem? (i := 1210) (by decide +kernel), List.mem_of_getElem? (i := 1211) (by decide +kernel)⟩
theorem lw_p68 : lw_okq (⟨"ThumbLinkerModel", "globalOf", "(II)I"⟩, 40) := ⟨⟨by decide +kernel, by decide +kernel⟩, List.mem_of_getElem? (i := 840) (by decide +kernel), List.mem_of_getElem? (i := 1214) (by decide +kernel), List.mem_of_getElem? (i := 1215) (by decide +kernel)⟩
theorem lw_p69 : lw_okq (⟨"ThumbLinkerModel", "place", "(IIZ)I"⟩, 40) := ⟨⟨by decide +kernel, by decide +kernel⟩, List.mem_of_getElem? (i := 840) (by decide +kernel), List.mem_of_getElem? (i := 1218) (by decide +kernel), List.mem_of_getElem? (i := 1219) (by decide +kernel)⟩
theorem lw_p70 : lw_okq (⟨"ThumbLinkerModel", "thirdPass", "()I"⟩, 40) := ⟨⟨by decide +kernel, by decide +kernel⟩, List.mem_of_getElem? (i := 840) (by decide +kernel), List.mem_of_getElem? (i := 1227) (by decide +kernel), List.mem_of_getElem? (i := 1228) (by decide +kernel)⟩
theorem lw_p71 : lw_okq (⟨"ThumbLinkerModel", "resolve", "(IIII)Z"⟩, 40) := ⟨⟨by decide +kernel, by decide +kernel⟩, List.mem_of_getElem? (i := 840) (by decide +kernel), List.mem_of_getElem? (i := 1231) (by decide +kernel), List.mem_of_getElem? (i := 1232) (by decide +kernel)⟩
theorem lw_p72 : lw_okq (⟨"ThumbLinkerModel", "addressOf", "(I)I"⟩, 40) := ⟨⟨by decide +kernel, by decide +kernel⟩, List.mem_of_getElem? (i := 840) (by decide +kernel), List.mem_of_getElem? (i := 1235) (by decide +kernel), List.mem_of_getElem? (i := 1236) (by decide +kernel)⟩
theorem lw_p73 : lw_okq (⟨"ThumbLinkerModel", "setHalf", "(III)V"⟩, 40) := ⟨⟨by decide +kernel, by decide +kernel⟩, List.mem_of_getElem? (i := 840) (by decide +kernel), List.mem_of_getElem? (i := 1239) (by decide +kernel), List.mem_of_getElem? (i := 1240) (by decide +kernel)⟩
theorem lw_p74 : lw_okq (⟨"ThumbLinkerModel", "sizeOf", "(I)I"⟩, 40) := ⟨⟨by decide +kernel, by decide +kernel⟩, List.mem_of_getElem? (i := 840) (by decide +kernel), List.mem_of_getElem? (i := 1246) (by decide +kernel), List.mem_of_getElem? (i := 1247) (by decide +kernel)⟩
theorem lw_p75 : lw_okq (⟨"ThumbLinkerModel", "mainAddress", "()I"⟩, 40) := ⟨⟨by decide +kernel, by decide +kernel⟩, List.mem_of_getElem? (i := 840) (by decide +kernel), List.mem_of_getElem? (i := 1250) (by decide +kernel), List.mem_of_getElem? (i := 1251) (by decide +kernel)⟩
theorem lw_p76 : lw_okq (⟨"ThumbLinkerModel", "finish", "(II)V"⟩, 40) := ⟨⟨by decide +kernel, by decide +kernel⟩, List.mem_of_getElem? (i := 840) (by decide +kernel), List.mem_of_getElem? (i := 1254) (by decide +kernel), List.mem_of_getElem? (i := 1255) (by decide +kernel)⟩
theorem lw_p77 : lw_okq (⟨"ThumbLinkerModel", "setWord", "(II)V"⟩, 40) := ⟨⟨by decide +kernel, by decide +kernel⟩, List.mem_of_getElem? (i := 840) (by decide +kernel), List.mem_of_getElem? (i := 1258) (by decide +kernel), List.mem_of_getElem? (i := 1259) (by decide +kernel)⟩
theorem lw_p78 : lw_okq (⟨"ThumbLinkerModel", "write", "()V"⟩, 40) := ⟨⟨by decide +kernel, by decide +kernel⟩, List.mem_of_getElem? (i := 840) (by decide +kernel), List.mem_of_getElem? (i := 1262) (by decide +kernel), List.mem_of_getElem? (i := 1263) (by decide +kernel)⟩
theorem lw_p79 : lw_okq (⟨"ThumbLinkerModel", "record", "(IIII)V"⟩, 40) := ⟨⟨by decide +kernel, by decide +kernel⟩, List.mem_of_getElem? (i := 840) (by decide +kernel), List.mem_of_getElem? (i := 1266) (by decide +kernel), List.mem_of_getElem? (i := 1267) (by decide +kernel)⟩
def lw_privs_5 : List (MethodName × Nat) := [(⟨"ThumbLinkerModel", "putByte", "(II)V"⟩, 40), (⟨"ThumbLinkerModel", "putMany", "(III)V"⟩, 40), (⟨"ThumbLinkerModel", "secondPass", "()I"⟩, 40), (⟨"ThumbLinkerModel", "isGlobalName", "(II)Z"⟩, 40), (⟨"ThumbLinkerModel", "globalOf", "(II)I"⟩, 40), (⟨"ThumbLinkerModel", "place", "(IIZ)I"⟩, 40), (⟨"ThumbLinkerModel", "thirdPass", "()I"⟩, 40), (⟨"ThumbLinkerModel", "resolve", "(IIII)Z"⟩, 40), (⟨"ThumbLinkerModel", "addressOf", "(I)I"⟩, 40), (⟨"ThumbLinkerModel", "setHalf", "(III)V"⟩, 40), (⟨"ThumbLinkerModel", "sizeOf", "(I)I"⟩, 40), (⟨"ThumbLinkerModel", "mainAddress", "()I"⟩, 40), (⟨"ThumbLinkerModel", "finish", "(II)V"⟩, 40), (⟨"ThumbLinkerModel", "setWord", "(II)V"⟩, 40), (⟨"ThumbLinkerModel", "write", "()V"⟩, 40), (⟨"ThumbLinkerModel", "record", "(IIII)V"⟩, 40)]
theorem lw_r5 : ∀ q ∈ lw_privs_5, lw_okq q := List.forall_mem_cons.mpr ⟨lw_p64, List.forall_mem_cons.mpr ⟨lw_p65, List.forall_mem_cons.mpr ⟨lw_p66, List.forall_mem_cons.mpr ⟨lw_p67, List.forall_mem_cons.mpr ⟨lw_p68, List.forall_mem_cons.mpr ⟨lw_p69, List.forall_mem_cons.mpr ⟨lw_p70, List.forall_mem_cons.mpr ⟨lw_p71, List.forall_mem_cons.mpr ⟨lw_p72, List.forall_mem_cons.mpr ⟨lw_p73, List.forall_mem_cons.mpr ⟨lw_p74, List.forall_mem_cons.mpr ⟨lw_p75, List.forall_mem_cons.mpr ⟨lw_p76, List.forall_mem_cons.mpr ⟨lw_p77, List.forall_mem_cons.mpr ⟨lw_p78, List.forall_mem_cons.mpr ⟨lw_p79, fun _ h => absurd h List.not_mem_nil⟩⟩⟩⟩⟩⟩⟩⟩⟩⟩⟩⟩⟩⟩⟩⟩
theorem lw_p80 : lw_okq (⟨"ThumbLinkerModel", "putHex", "(I)V"⟩, 40) := ⟨⟨by decide +kernel, by decide +kernel⟩, List.mem_of_getElem? (i := 840) (by decide +kernel), List.mem_of_getElem? (i := 1270) (by decide +kernel), List.mem_of_getElem? (i := 1271) (by decide +kernel)⟩
def lw_privs_6 : List (MethodName × Nat) := [(⟨"ThumbLinkerModel", "putHex", "(I)V"⟩, 40)]
theorem lw_r6 : ∀ q ∈ lw_privs_6, lw_okq q := List.forall_mem_cons.mpr ⟨lw_p80, fun _ h => absurd h List.not_mem_nil⟩
def lw_privs : List (MethodName × Nat) := lw_privs_1 ++ (lw_privs_2 ++ (lw_privs_3 ++ (lw_privs_4 ++ (lw_privs_5 ++ (lw_privs_6)))))
def lw_tbl : List Cond := k2_sels lw_privs ++ tables_1
theorem lw_privs_ok : ∀ q ∈ lw_privs, lw_okq q := by
  show ∀ q ∈ lw_privs_1 ++ (lw_privs_2 ++ (lw_privs_3 ++ (lw_privs_4 ++ (lw_privs_5 ++ (lw_privs_6))))), lw_okq q
  exact List.forall_mem_append.mpr ⟨lw_r1, List.forall_mem_append.mpr ⟨lw_r2, List.forall_mem_append.mpr ⟨lw_r3, List.forall_mem_append.mpr ⟨lw_r4, List.forall_mem_append.mpr ⟨lw_r5, lw_r6⟩⟩⟩⟩⟩
end
section
def RX0 : String := "ThumbLinker$Build"
def TX0 : u_T := fun k => match k with
  | 0 => ("ThumbLinker$Build", "labels", "LThumbLinker$Labels;", true)
  | 1 => ("ThumbLinker$Build", "layout", "LThumbLinker$Layout;", true)
  | _ => ("ThumbLinker$Build", "image", "LThumbLinker$Image;", true)
def tyX0 : Nat → FieldType := fun k => match k with
  | 0 => .object "ThumbLinker$Labels"
  | 1 => .object "ThumbLinker$Layout"
  | _ => .object "ThumbLinker$Image"
abbrev wsX00 : List Cond := u_ws RX0 TX0 3
theorem nmX0 : ∀ a, a < 3 → ∀ b, b < 3 → a ≠ b → (TX0 a).2.1 ≠ (TX0 b).2.1 := by decide +kernel
theorem tyX0_ok : ∀ k, k < 3 → parseFieldDescriptor (TX0 k).2.2.1 = some (tyX0 k) := by decide +kernel
abbrev cX0_init : ByteArray := prog_2_method_1_code
def yX0_init : MethodName := ⟨RX0, "<init>", "()V"⟩
abbrev cX0_clear : ByteArray := prog_2_method_2_code
def yX0_clear : MethodName := ⟨RX0, "clear", "()V"⟩
abbrev cX0_addressOf : ByteArray := prog_2_method_3_code
def yX0_addressOf : MethodName := ⟨RX0, "addressOf", "(I)I"⟩
abbrev cX0_layOut : ByteArray := prog_2_method_4_code
def yX0_layOut : MethodName := ⟨RX0, "layOut", "(LThumbLinker$Statement;II)I"⟩
abbrev cX0_write : ByteArray := prog_2_method_5_code
def yX0_write : MethodName := ⟨RX0, "write", "(LThumbLinker$Statement;I)I"⟩
abbrev cX0_writeWord : ByteArray := prog_2_method_6_code
def yX0_writeWord : MethodName := ⟨RX0, "writeWord", "(LThumbLinker$Statement;II)I"⟩
abbrev cX0_writeInstruction : ByteArray := prog_2_method_7_code
def yX0_writeInstruction : MethodName := ⟨RX0, "writeInstruction", "(LThumbLinker$Statement;II)I"⟩
abbrev cX0_resolve : ByteArray := prog_2_method_8_code
def yX0_resolve : MethodName := ⟨RX0, "resolve", "(IJ)I"⟩
abbrev cX0_reaches : ByteArray := prog_2_method_9_code
def yX0_reaches : MethodName := ⟨RX0, "reaches", "(IIZ)Z"⟩
abbrev cX0_distanceBits : ByteArray := prog_2_method_10_code
def yX0_distanceBits : MethodName := ⟨RX0, "distanceBits", "(II)I"⟩
abbrev cX0_writeCall : ByteArray := prog_2_method_11_code
def yX0_writeCall : MethodName := ⟨RX0, "writeCall", "(III)V"⟩
def RX1 : String := "ThumbLinker$Fault"
def TX1 : u_T := fun k => match k with
  | 0 => ("ThumbLinker$Fault", "kind", "I", false)
  | 1 => ("ThumbLinker$Fault", "module", "I", false)
  | 2 => ("ThumbLinker$Fault", "line", "I", false)
  | _ => ("ThumbLinker$Fault", "place", "I", false)
def tyX1 : Nat → FieldType := fun k => match k with
  | 0 => .int
  | 1 => .int
  | 2 => .int
  | _ => .int
abbrev wsX10 : List Cond := u_ws RX1 TX1 4
theorem nmX1 : ∀ a, a < 4 → ∀ b, b < 4 → a ≠ b → (TX1 a).2.1 ≠ (TX1 b).2.1 := by decide +kernel
theorem tyX1_ok : ∀ k, k < 4 → parseFieldDescriptor (TX1 k).2.2.1 = some (tyX1 k) := by decide +kernel
abbrev cX1_init : ByteArray := prog_3_method_1_code
def yX1_init : MethodName := ⟨RX1, "<init>", "()V"⟩
abbrev cX1_forget : ByteArray := prog_3_method_2_code
def yX1_forget : MethodName := ⟨RX1, "forget", "()V"⟩
abbrev cX1_tell : ByteArray := prog_3_method_3_code
def yX1_tell : MethodName := ⟨RX1, "tell", "(IIII)Z"⟩
def RX2 : String := "ThumbLinker$Image"
def TX2 : u_T := fun k => match k with
  | 0 => ("ThumbLinker$Image", "bytes", "[B", true)
  | _ => ("ThumbLinker$Image", "length", "I", false)
def tyX2 : Nat → FieldType := fun k => match k with
  | 0 => .array .byte
  | _ => .int
abbrev wsX20 : List Cond := u_ws RX2 TX2 2
theorem nmX2 : ∀ a, a < 2 → ∀ b, b < 2 → a ≠ b → (TX2 a).2.1 ≠ (TX2 b).2.1 := by decide +kernel
theorem tyX2_ok : ∀ k, k < 2 → parseFieldDescriptor (TX2 k).2.2.1 = some (tyX2 k) := by decide +kernel
abbrev cX2_init : ByteArray := prog_4_method_1_code
def yX2_init : MethodName := ⟨RX2, "<init>", "()V"⟩
abbrev cX2_clear : ByteArray := prog_4_method_2_code
def yX2_clear : MethodName := ⟨RX2, "clear", "()V"⟩
abbrev cX2_putByte : ByteArray := prog_4_method_3_code
def yX2_putByte : MethodName := ⟨RX2, "putByte", "(II)V"⟩
abbrev cX2_putHalf : ByteArray := prog_4_method_4_code
def yX2_putHalf : MethodName := ⟨RX2, "putHalf", "(II)V"⟩
abbrev cX2_putWord : ByteArray := prog_4_method_5_code
def yX2_putWord : MethodName := ⟨RX2, "putWord", "(II)V"⟩
abbrev cX2_byteAt : ByteArray := prog_4_method_6_code
def yX2_byteAt : MethodName := ⟨RX2, "byteAt", "(I)I"⟩
abbrev cX2_recordCharacter : ByteArray := prog_4_method_7_code
def yX2_recordCharacter : MethodName := ⟨RX2, "recordCharacter", "(I)C"⟩
abbrev cX2_bodyCharacter : ByteArray := prog_4_method_8_code
def yX2_bodyCharacter : MethodName := ⟨RX2, "bodyCharacter", "(II)C"⟩
abbrev cX2_recordByte : ByteArray := prog_4_method_9_code
def yX2_recordByte : MethodName := ⟨RX2, "recordByte", "(III)I"⟩
abbrev cX2_plainRecordByte : ByteArray := prog_4_method_10_code
def yX2_plainRecordByte : MethodName := ⟨RX2, "plainRecordByte", "(III)I"⟩
def RX3 : String := "ThumbLinker$Labels"
def TX3 : u_T := fun k => match k with
  | 0 => ("ThumbLinker$Labels", "names", "[J", true)
  | 1 => ("ThumbLinker$Labels", "global", "[Z", true)
  | 2 => ("ThumbLinker$Labels", "modules", "[I", true)
  | 3 => ("ThumbLinker$Labels", "sections", "[I", true)
  | 4 => ("ThumbLinker$Labels", "offsets", "[I", true)
  | _ => ("ThumbLinker$Labels", "count", "I", false)
def tyX3 : Nat → FieldType := fun k => match k with
  | 0 => .array .long
  | 1 => .array .boolean
  | 2 => .array .int
  | 3 => .array .int
  | 4 => .array .int
  | _ => .int
abbrev wsX30 : List Cond := u_ws RX3 TX3 6
theorem nmX3 : ∀ a, a < 6 → ∀ b, b < 6 → a ≠ b → (TX3 a).2.1 ≠ (TX3 b).2.1 := by decide +kernel
theorem tyX3_ok : ∀ k, k < 6 → parseFieldDescriptor (TX3 k).2.2.1 = some (tyX3 k) := by decide +kernel
abbrev cX3_init : ByteArray := prog_5_method_1_code
def yX3_init : MethodName := ⟨RX3, "<init>", "()V"⟩
abbrev cX3_append : ByteArray := prog_5_method_2_code
def yX3_append : MethodName := ⟨RX3, "append", "(JIII)V"⟩
abbrev cX3_find : ByteArray := prog_5_method_3_code
def yX3_find : MethodName := ⟨RX3, "find", "(IJ)I"⟩
abbrev cX3_findGlobal : ByteArray := prog_5_method_4_code
def yX3_findGlobal : MethodName := ⟨RX3, "findGlobal", "(J)I"⟩
abbrev cX3_makeGlobal : ByteArray := prog_5_method_5_code
def yX3_makeGlobal : MethodName := ⟨RX3, "makeGlobal", "(IJ)I"⟩
def RX4 : String := "ThumbLinker$Layout"
def TX4 : u_T := fun k => match k with
  | 0 => ("ThumbLinker$Layout", "sizes", "[[I", true)
  | 1 => ("ThumbLinker$Layout", "addresses", "[[I", true)
  | 2 => ("ThumbLinker$Layout", "dataInFlash", "[I", true)
  | _ => ("ThumbLinker$Layout", "flashEnd", "I", false)
def tyX4 : Nat → FieldType := fun k => match k with
  | 0 => .array (.array .int)
  | 1 => .array (.array .int)
  | 2 => .array .int
  | _ => .int
abbrev wsX40 : List Cond := u_ws RX4 TX4 4
theorem nmX4 : ∀ a, a < 4 → ∀ b, b < 4 → a ≠ b → (TX4 a).2.1 ≠ (TX4 b).2.1 := by decide +kernel
theorem tyX4_ok : ∀ k, k < 4 → parseFieldDescriptor (TX4 k).2.2.1 = some (tyX4 k) := by decide +kernel
abbrev cX4_init : ByteArray := prog_6_method_1_code
def yX4_init : MethodName := ⟨RX4, "<init>", "()V"⟩
abbrev cX4_clear : ByteArray := prog_6_method_2_code
def yX4_clear : MethodName := ⟨RX4, "clear", "()V"⟩
abbrev cX4_arrange : ByteArray := prog_6_method_3_code
def yX4_arrange : MethodName := ⟨RX4, "arrange", "()Z"⟩
abbrev cX4_line : ByteArray := prog_6_method_4_code
def yX4_line : MethodName := ⟨RX4, "line", "(II)I"⟩
abbrev cX4_nextFour : ByteArray := prog_6_method_5_code
def yX4_nextFour : MethodName := ⟨RX4, "nextFour", "(I)I"⟩
def RX5 : String := "ThumbLinker$Mnemonic"
def TX5 : u_T := fun k => match k with
  | _ => ("", "", "", false)
def tyX5 : Nat → FieldType := fun k => match k with
  | _ => .int
abbrev wsX50 : List Cond := u_ws RX5 TX5 0
theorem nmX5 : ∀ a, a < 0 → ∀ b, b < 0 → a ≠ b → (TX5 a).2.1 ≠ (TX5 b).2.1 := by decide +kernel
theorem tyX5_ok : ∀ k, k < 0 → parseFieldDescriptor (TX5 k).2.2.1 = some (tyX5 k) := by decide +kernel
def RX6 : String := "ThumbLinker$Parser"
def TX6 : u_T := fun k => match k with
  | _ => ("ThumbLinker$Parser", "scan", "LThumbLinker$Scanner;", true)
def tyX6 : Nat → FieldType := fun k => match k with
  | _ => .object "ThumbLinker$Scanner"
abbrev wsX60 : List Cond := u_ws RX6 TX6 1
theorem nmX6 : ∀ a, a < 1 → ∀ b, b < 1 → a ≠ b → (TX6 a).2.1 ≠ (TX6 b).2.1 := by decide +kernel
theorem tyX6_ok : ∀ k, k < 1 → parseFieldDescriptor (TX6 k).2.2.1 = some (tyX6 k) := by decide +kernel
abbrev cX6_init : ByteArray := prog_8_method_1_code
def yX6_init : MethodName := ⟨RX6, "<init>", "()V"⟩
abbrev cX6_parse : ByteArray := prog_8_method_2_code
def yX6_parse : MethodName := ⟨RX6, "parse", "(LThumbLinker$Text;LThumbLinker$Statement;)V"⟩
abbrev cX6_label : ByteArray := prog_8_method_3_code
def yX6_label : MethodName := ⟨RX6, "label", "(LThumbLinker$Statement;)V"⟩
abbrev cX6_directive : ByteArray := prog_8_method_4_code
def yX6_directive : MethodName := ⟨RX6, "directive", "(LThumbLinker$Mnemonic;LThumbLinker$Statement;)V"⟩
abbrev cX6_reference : ByteArray := prog_8_method_5_code
def yX6_reference : MethodName := ⟨RX6, "reference", "(LThumbLinker$Statement;)V"⟩
abbrev cX6_value : ByteArray := prog_8_method_6_code
def yX6_value : MethodName := ⟨RX6, "value", "(LThumbLinker$Statement;)V"⟩
abbrev cX6_instruction : ByteArray := prog_8_method_7_code
def yX6_instruction : MethodName := ⟨RX6, "instruction", "(LThumbLinker$Mnemonic;LThumbLinker$Statement;)V"⟩
abbrev cX6_firstRegister : ByteArray := prog_8_method_8_code
def yX6_firstRegister : MethodName := ⟨RX6, "firstRegister", "()I"⟩
abbrev cX6_move : ByteArray := prog_8_method_9_code
def yX6_move : MethodName := ⟨RX6, "move", "(LThumbLinker$Mnemonic;)I"⟩
abbrev cX6_sum : ByteArray := prog_8_method_10_code
def yX6_sum : MethodName := ⟨RX6, "sum", "(LThumbLinker$Mnemonic;)I"⟩
abbrev cX6_shift : ByteArray := prog_8_method_11_code
def yX6_shift : MethodName := ⟨RX6, "shift", "(LThumbLinker$Mnemonic;)I"⟩
abbrev cX6_pair : ByteArray := prog_8_method_12_code
def yX6_pair : MethodName := ⟨RX6, "pair", "(LThumbLinker$Mnemonic;)I"⟩
abbrev cX6_memory : ByteArray := prog_8_method_13_code
def yX6_memory : MethodName := ⟨RX6, "memory", "(I)I"⟩
abbrev cX6_list : ByteArray := prog_8_method_14_code
def yX6_list : MethodName := ⟨RX6, "list", "(Ljava/lang/String;)I"⟩
abbrev cX6_exchanged : ByteArray := prog_8_method_15_code
def yX6_exchanged : MethodName := ⟨RX6, "exchanged", "()I"⟩
def RX7 : String := "ThumbLinker$Scanner"
def TX7 : u_T := fun k => match k with
  | 0 => ("ThumbLinker$Scanner", "line", "LThumbLinker$Text;", false)
  | 1 => ("ThumbLinker$Scanner", "end", "I", false)
  | 2 => ("ThumbLinker$Scanner", "start", "I", false)
  | 3 => ("ThumbLinker$Scanner", "fault", "I", false)
  | _ => ("ThumbLinker$Scanner", "faultPlace", "I", false)
def tyX7 : Nat → FieldType := fun k => match k with
  | 0 => .object "ThumbLinker$Text"
  | 1 => .int
  | 2 => .int
  | 3 => .int
  | _ => .int
abbrev wsX70 : List Cond := u_ws RX7 TX7 5
theorem nmX7 : ∀ a, a < 5 → ∀ b, b < 5 → a ≠ b → (TX7 a).2.1 ≠ (TX7 b).2.1 := by decide +kernel
theorem tyX7_ok : ∀ k, k < 5 → parseFieldDescriptor (TX7 k).2.2.1 = some (tyX7 k) := by decide +kernel
abbrev cX7_init : ByteArray := prog_9_method_1_code
def yX7_init : MethodName := ⟨RX7, "<init>", "()V"⟩
abbrev cX7_begin : ByteArray := prog_9_method_2_code
def yX7_begin : MethodName := ⟨RX7, "begin", "(LThumbLinker$Text;)V"⟩
abbrev cX7_step : ByteArray := prog_9_method_3_code
def yX7_step : MethodName := ⟨RX7, "step", "()V"⟩
abbrev cX7_stepBackTo : ByteArray := prog_9_method_4_code
def yX7_stepBackTo : MethodName := ⟨RX7, "stepBackTo", "(I)V"⟩
abbrev cX7_fail : ByteArray := prog_9_method_5_code
def yX7_fail : MethodName := ⟨RX7, "fail", "(II)V"⟩
abbrev cX7_atEnd : ByteArray := prog_9_method_6_code
def yX7_atEnd : MethodName := ⟨RX7, "atEnd", "()Z"⟩
abbrev cX7_sees : ByteArray := prog_9_method_7_code
def yX7_sees : MethodName := ⟨RX7, "sees", "(C)Z"⟩
abbrev cX7_seesLetter : ByteArray := prog_9_method_8_code
def yX7_seesLetter : MethodName := ⟨RX7, "seesLetter", "()Z"⟩
abbrev cX7_seesWord : ByteArray := prog_9_method_9_code
def yX7_seesWord : MethodName := ⟨RX7, "seesWord", "(Ljava/lang/String;)Z"⟩
abbrev cX7_seenMnemonic : ByteArray := prog_9_method_10_code
def yX7_seenMnemonic : MethodName := ⟨RX7, "seenMnemonic", "()LThumbLinker$Mnemonic;"⟩
abbrev cX7_seenRegister : ByteArray := prog_9_method_11_code
def yX7_seenRegister : MethodName := ⟨RX7, "seenRegister", "()I"⟩
abbrev cX7_seenName : ByteArray := prog_9_method_12_code
def yX7_seenName : MethodName := ⟨RX7, "seenName", "()J"⟩
abbrev cX7_accept : ByteArray := prog_9_method_13_code
def yX7_accept : MethodName := ⟨RX7, "accept", "(C)Z"⟩
abbrev cX7_expect : ByteArray := prog_9_method_14_code
def yX7_expect : MethodName := ⟨RX7, "expect", "(C)V"⟩
abbrev cX7_register : ByteArray := prog_9_method_15_code
def yX7_register : MethodName := ⟨RX7, "register", "()I"⟩
abbrev cX7_name : ByteArray := prog_9_method_16_code
def yX7_name : MethodName := ⟨RX7, "name", "()J"⟩
abbrev cX7_digits : ByteArray := prog_9_method_17_code
def yX7_digits : MethodName := ⟨RX7, "digits", "()I"⟩
abbrev cX7_number : ByteArray := prog_9_method_18_code
def yX7_number : MethodName := ⟨RX7, "number", "(II)I"⟩
def RX8 : String := "ThumbLinker$Source"
def TX8 : u_T := fun k => match k with
  | 0 => ("ThumbLinker$Source", "statements", "[LThumbLinker$Statement;", true)
  | _ => ("ThumbLinker$Source", "count", "I", false)
def tyX8 : Nat → FieldType := fun k => match k with
  | 0 => .array (.object "ThumbLinker$Statement")
  | _ => .int
abbrev wsX80 : List Cond := u_ws RX8 TX8 2
theorem nmX8 : ∀ a, a < 2 → ∀ b, b < 2 → a ≠ b → (TX8 a).2.1 ≠ (TX8 b).2.1 := by decide +kernel
theorem tyX8_ok : ∀ k, k < 2 → parseFieldDescriptor (TX8 k).2.2.1 = some (tyX8 k) := by decide +kernel
abbrev cX8_init : ByteArray := prog_10_method_1_code
def yX8_init : MethodName := ⟨RX8, "<init>", "()V"⟩
def RX9 : String := "ThumbLinker$Statement"
def TX9 : u_T := fun k => match k with
  | 0 => ("ThumbLinker$Statement", "label", "J", false)
  | 1 => ("ThumbLinker$Statement", "labelPlace", "I", false)
  | 2 => ("ThumbLinker$Statement", "place", "I", false)
  | 3 => ("ThumbLinker$Statement", "kind", "I", false)
  | 4 => ("ThumbLinker$Statement", "reach", "I", false)
  | 5 => ("ThumbLinker$Statement", "number", "I", false)
  | 6 => ("ThumbLinker$Statement", "bytes", "I", false)
  | 7 => ("ThumbLinker$Statement", "name", "J", false)
  | 8 => ("ThumbLinker$Statement", "namePlace", "I", false)
  | 9 => ("ThumbLinker$Statement", "section", "I", false)
  | 10 => ("ThumbLinker$Statement", "offset", "I", false)
  | 11 => ("ThumbLinker$Statement", "fault", "I", false)
  | _ => ("ThumbLinker$Statement", "faultPlace", "I", false)
def tyX9 : Nat → FieldType := fun k => match k with
  | 0 => .long
  | 1 => .int
  | 2 => .int
  | 3 => .int
  | 4 => .int
  | 5 => .int
  | 6 => .int
  | 7 => .long
  | 8 => .int
  | 9 => .int
  | 10 => .int
  | 11 => .int
  | _ => .int
abbrev wsX90 : List Cond := u_ws RX9 TX9 13
theorem nmX9 : ∀ a, a < 13 → ∀ b, b < 13 → a ≠ b → (TX9 a).2.1 ≠ (TX9 b).2.1 := by decide +kernel
theorem tyX9_ok : ∀ k, k < 13 → parseFieldDescriptor (TX9 k).2.2.1 = some (tyX9 k) := by decide +kernel
abbrev cX9_init : ByteArray := prog_11_method_1_code
def yX9_init : MethodName := ⟨RX9, "<init>", "()V"⟩
abbrev cX9_clear : ByteArray := prog_11_method_2_code
def yX9_clear : MethodName := ⟨RX9, "clear", "()V"⟩
def RX10 : String := "ThumbLinker$Text"
def TX10 : u_T := fun k => match k with
  | 0 => ("ThumbLinker$Text", "characters", "[C", true)
  | _ => ("ThumbLinker$Text", "length", "I", false)
def tyX10 : Nat → FieldType := fun k => match k with
  | 0 => .array .char
  | _ => .int
abbrev wsX100 : List Cond := u_ws RX10 TX10 2
theorem nmX10 : ∀ a, a < 2 → ∀ b, b < 2 → a ≠ b → (TX10 a).2.1 ≠ (TX10 b).2.1 := by decide +kernel
theorem tyX10_ok : ∀ k, k < 2 → parseFieldDescriptor (TX10 k).2.2.1 = some (tyX10 k) := by decide +kernel
abbrev cX10_init : ByteArray := prog_12_method_1_code
def yX10_init : MethodName := ⟨RX10, "<init>", "()V"⟩
abbrev cX10_charactersIn : ByteArray := prog_12_method_2_code
def yX10_charactersIn : MethodName := ⟨RX10, "charactersIn", "(I)I"⟩
abbrev cX10_appendFour : ByteArray := prog_12_method_3_code
def yX10_appendFour : MethodName := ⟨RX10, "appendFour", "(I)V"⟩
abbrev cX10_nameBetween : ByteArray := prog_12_method_4_code
def yX10_nameBetween : MethodName := ⟨RX10, "nameBetween", "(II)J"⟩
def RX11 : String := "ThumbLinker"
def TX11 : u_T := fun k => match k with
  | 0 => ("ThumbLinker", "typed", "LThumbLinker$Text;", true)
  | 1 => ("ThumbLinker", "sources", "[LThumbLinker$Source;", true)
  | 2 => ("ThumbLinker", "parser", "LThumbLinker$Parser;", true)
  | 3 => ("ThumbLinker", "lastFault", "LThumbLinker$Fault;", true)
  | 4 => ("ThumbLinker", "linked", "LThumbLinker$Build;", false)
  | _ => ("ThumbLinker", "draft", "LThumbLinker$Build;", false)
def tyX11 : Nat → FieldType := fun k => match k with
  | 0 => .object "ThumbLinker$Text"
  | 1 => .array (.object "ThumbLinker$Source")
  | 2 => .object "ThumbLinker$Parser"
  | 3 => .object "ThumbLinker$Fault"
  | 4 => .object "ThumbLinker$Build"
  | _ => .object "ThumbLinker$Build"
abbrev wsX110 : List Cond := u_ws RX11 TX11 6
theorem nmX11 : ∀ a, a < 6 → ∀ b, b < 6 → a ≠ b → (TX11 a).2.1 ≠ (TX11 b).2.1 := by decide +kernel
theorem tyX11_ok : ∀ k, k < 6 → parseFieldDescriptor (TX11 k).2.2.1 = some (tyX11 k) := by decide +kernel
abbrev cX11_init : ByteArray := prog_1_method_1_code
def yX11_init : MethodName := ⟨RX11, "<init>", "()V"⟩
abbrev cX11_type : ByteArray := prog_1_method_2_code
def yX11_type : MethodName := ⟨RX11, "type", "(IIII)I"⟩
abbrev cX11_erase : ByteArray := prog_1_method_3_code
def yX11_erase : MethodName := ⟨RX11, "erase", "()I"⟩
abbrev cX11_add : ByteArray := prog_1_method_4_code
def yX11_add : MethodName := ⟨RX11, "add", "(I)I"⟩
abbrev cX11_change : ByteArray := prog_1_method_5_code
def yX11_change : MethodName := ⟨RX11, "change", "(II)V"⟩
abbrev cX11_drop : ByteArray := prog_1_method_6_code
def yX11_drop : MethodName := ⟨RX11, "drop", "(I)I"⟩
abbrev cX11_link : ByteArray := prog_1_method_7_code
def yX11_link : MethodName := ⟨RX11, "link", "()I"⟩
abbrev cX11_fault : ByteArray := prog_1_method_8_code
def yX11_fault : MethodName := ⟨RX11, "fault", "(I)I"⟩
abbrev cX11_octet : ByteArray := prog_1_method_9_code
def yX11_octet : MethodName := ⟨RX11, "octet", "(I)I"⟩
abbrev cX11_hex : ByteArray := prog_1_method_10_code
def yX11_hex : MethodName := ⟨RX11, "hex", "(I)C"⟩
abbrev cX11_address : ByteArray := prog_1_method_11_code
def yX11_address : MethodName := ⟨RX11, "address", "(I)I"⟩
abbrev cX11_size : ByteArray := prog_1_method_12_code
def yX11_size : MethodName := ⟨RX11, "size", "(II)I"⟩
abbrev cX11_isModule : ByteArray := prog_1_method_13_code
def yX11_isModule : MethodName := ⟨RX11, "isModule", "(I)Z"⟩
abbrev cX11_isLetter : ByteArray := prog_1_method_14_code
def yX11_isLetter : MethodName := ⟨RX11, "isLetter", "(C)Z"⟩
abbrev cX11_isDigit : ByteArray := prog_1_method_15_code
def yX11_isDigit : MethodName := ⟨RX11, "isDigit", "(C)Z"⟩
abbrev cX11_layOutLines : ByteArray := prog_1_method_16_code
def yX11_layOutLines : MethodName := ⟨RX11, "layOutLines", "()Z"⟩
abbrev cX11_tellGlobals : ByteArray := prog_1_method_17_code
def yX11_tellGlobals : MethodName := ⟨RX11, "tellGlobals", "()Z"⟩
abbrev cX11_findRoom : ByteArray := prog_1_method_18_code
def yX11_findRoom : MethodName := ⟨RX11, "findRoom", "()Z"⟩
abbrev cX11_writeLines : ByteArray := prog_1_method_19_code
def yX11_writeLines : MethodName := ⟨RX11, "writeLines", "()Z"⟩
abbrev cX11_writeVectors : ByteArray := prog_1_method_20_code
def yX11_writeVectors : MethodName := ⟨RX11, "writeVectors", "()Z"⟩
def RX12 : String := "ThumbLinkerModel"
def TX12 : u_T := fun k => match k with
  | 0 => ("ThumbLinkerModel", "refusal", "I", false)
  | 1 => ("ThumbLinkerModel", "typed", "[C", true)
  | 2 => ("ThumbLinkerModel", "typedSize", "I", false)
  | 3 => ("ThumbLinkerModel", "lines", "[I", true)
  | 4 => ("ThumbLinkerModel", "length", "[I", true)
  | 5 => ("ThumbLinkerModel", "text", "[C", true)
  | 6 => ("ThumbLinkerModel", "line", "I", false)
  | 7 => ("ThumbLinkerModel", "at", "I", false)
  | 8 => ("ThumbLinkerModel", "end", "I", false)
  | 9 => ("ThumbLinkerModel", "fault", "I", false)
  | 10 => ("ThumbLinkerModel", "faultPlace", "I", false)
  | 11 => ("ThumbLinkerModel", "labelFrom", "I", false)
  | 12 => ("ThumbLinkerModel", "labelTo", "I", false)
  | 13 => ("ThumbLinkerModel", "statement", "I", false)
  | 14 => ("ThumbLinkerModel", "statementAt", "I", false)
  | 15 => ("ThumbLinkerModel", "code", "I", false)
  | 16 => ("ThumbLinkerModel", "number", "I", false)
  | 17 => ("ThumbLinkerModel", "nameFrom", "I", false)
  | 18 => ("ThumbLinkerModel", "nameTo", "I", false)
  | 19 => ("ThumbLinkerModel", "labels", "I", false)
  | 20 => ("ThumbLinkerModel", "goodLabels", "I", false)
  | 21 => ("ThumbLinkerModel", "labelName", "[C", true)
  | 22 => ("ThumbLinkerModel", "labelModule", "[I", true)
  | 23 => ("ThumbLinkerModel", "labelSection", "[I", true)
  | 24 => ("ThumbLinkerModel", "labelOffset", "[I", true)
  | 25 => ("ThumbLinkerModel", "isGlobal", "[Z", true)
  | 26 => ("ThumbLinkerModel", "size", "[I", true)
  | 27 => ("ThumbLinkerModel", "base", "[I", true)
  | 28 => ("ThumbLinkerModel", "flashBase", "[I", true)
  | 29 => ("ThumbLinkerModel", "bytes", "[I", true)
  | 30 => ("ThumbLinkerModel", "now", "I", false)
  | 31 => ("ThumbLinkerModel", "goodSize", "[I", true)
  | 32 => ("ThumbLinkerModel", "goodBase", "[I", true)
  | 33 => ("ThumbLinkerModel", "image", "[I", true)
  | 34 => ("ThumbLinkerModel", "imageSize", "I", false)
  | 35 => ("ThumbLinkerModel", "wrongAt", "[I", true)
  | 36 => ("ThumbLinkerModel", "hex", "[C", true)
  | 37 => ("ThumbLinkerModel", "hexSize", "I", false)
  | 38 => ("ThumbLinkerModel", "goesOn", "[I", true)
  | _ => ("ThumbLinkerModel", "sum", "I", false)
def tyX12 : Nat → FieldType := fun k => match k with
  | 0 => .int
  | 1 => .array .char
  | 2 => .int
  | 3 => .array .int
  | 4 => .array .int
  | 5 => .array .char
  | 6 => .int
  | 7 => .int
  | 8 => .int
  | 9 => .int
  | 10 => .int
  | 11 => .int
  | 12 => .int
  | 13 => .int
  | 14 => .int
  | 15 => .int
  | 16 => .int
  | 17 => .int
  | 18 => .int
  | 19 => .int
  | 20 => .int
  | 21 => .array .char
  | 22 => .array .int
  | 23 => .array .int
  | 24 => .array .int
  | 25 => .array .boolean
  | 26 => .array .int
  | 27 => .array .int
  | 28 => .array .int
  | 29 => .array .int
  | 30 => .int
  | 31 => .array .int
  | 32 => .array .int
  | 33 => .array .int
  | 34 => .int
  | 35 => .array .int
  | 36 => .array .char
  | 37 => .int
  | 38 => .array .int
  | _ => .int
abbrev wsX120 : List Cond := u_ws RX12 TX12 40
theorem nmX12 : ∀ a, a < 40 → ∀ b, b < 40 → a ≠ b → (TX12 a).2.1 ≠ (TX12 b).2.1 := by decide +kernel
theorem tyX12_ok : ∀ k, k < 40 → parseFieldDescriptor (TX12 k).2.2.1 = some (tyX12 k) := by decide +kernel
abbrev cX12_init : ByteArray := prog_14_method_1_code
def yX12_init : MethodName := ⟨RX12, "<init>", "()V"⟩
abbrev cX12_thrown : ByteArray := prog_14_method_2_code
def yX12_thrown : MethodName := ⟨RX12, "thrown", "()I"⟩
abbrev cX12_refused : ByteArray := prog_14_method_3_code
def yX12_refused : MethodName := ⟨RX12, "refused", "(I)Z"⟩
abbrev cX12_forget : ByteArray := prog_14_method_4_code
def yX12_forget : MethodName := ⟨RX12, "forget", "()V"⟩
abbrev cX12_isIn : ByteArray := prog_14_method_5_code
def yX12_isIn : MethodName := ⟨RX12, "isIn", "(III)Z"⟩
abbrev cX12_put : ByteArray := prog_14_method_6_code
def yX12_put : MethodName := ⟨RX12, "put", "(II)V"⟩
abbrev cX12_type : ByteArray := prog_14_method_7_code
def yX12_type : MethodName := ⟨RX12, "type", "(IIII)I"⟩
abbrev cX12_erase : ByteArray := prog_14_method_8_code
def yX12_erase : MethodName := ⟨RX12, "erase", "()I"⟩
abbrev cX12_store : ByteArray := prog_14_method_9_code
def yX12_store : MethodName := ⟨RX12, "store", "(I)V"⟩
abbrev cX12_isModule : ByteArray := prog_14_method_10_code
def yX12_isModule : MethodName := ⟨RX12, "isModule", "(I)Z"⟩
abbrev cX12_add : ByteArray := prog_14_method_11_code
def yX12_add : MethodName := ⟨RX12, "add", "(I)I"⟩
abbrev cX12_change : ByteArray := prog_14_method_12_code
def yX12_change : MethodName := ⟨RX12, "change", "(II)V"⟩
abbrev cX12_drop : ByteArray := prog_14_method_13_code
def yX12_drop : MethodName := ⟨RX12, "drop", "(I)I"⟩
abbrev cX12_next : ByteArray := prog_14_method_14_code
def yX12_next : MethodName := ⟨RX12, "next", "()C"⟩
abbrev cX12_wrong : ByteArray := prog_14_method_15_code
def yX12_wrong : MethodName := ⟨RX12, "wrong", "(II)V"⟩
abbrev cX12_isSmall : ByteArray := prog_14_method_16_code
def yX12_isSmall : MethodName := ⟨RX12, "isSmall", "(C)Z"⟩
abbrev cX12_isDigit : ByteArray := prog_14_method_17_code
def yX12_isDigit : MethodName := ⟨RX12, "isDigit", "(C)Z"⟩
abbrev cX12_isWordSign : ByteArray := prog_14_method_18_code
def yX12_isWordSign : MethodName := ⟨RX12, "isWordSign", "(C)Z"⟩
abbrev cX12_takes : ByteArray := prog_14_method_19_code
def yX12_takes : MethodName := ⟨RX12, "takes", "(C)Z"⟩
abbrev cX12_want : ByteArray := prog_14_method_20_code
def yX12_want : MethodName := ⟨RX12, "want", "(C)V"⟩
abbrev cX12_wordEnd : ByteArray := prog_14_method_21_code
def yX12_wordEnd : MethodName := ⟨RX12, "wordEnd", "()I"⟩
abbrev cX12_isWord : ByteArray := prog_14_method_22_code
def yX12_isWord : MethodName := ⟨RX12, "isWord", "(IIJ)Z"⟩
abbrev cX12_isName : ByteArray := prog_14_method_23_code
def yX12_isName : MethodName := ⟨RX12, "isName", "(II)Z"⟩
abbrev cX12_register : ByteArray := prog_14_method_24_code
def yX12_register : MethodName := ⟨RX12, "register", "()I"⟩
abbrev cX12_digits : ByteArray := prog_14_method_25_code
def yX12_digits : MethodName := ⟨RX12, "digits", "()I"⟩
abbrev cX12_readNumber : ByteArray := prog_14_method_26_code
def yX12_readNumber : MethodName := ⟨RX12, "readNumber", "(III)I"⟩
abbrev cX12_readName : ByteArray := prog_14_method_27_code
def yX12_readName : MethodName := ⟨RX12, "readName", "()V"⟩
abbrev cX12_immediate : ByteArray := prog_14_method_28_code
def yX12_immediate : MethodName := ⟨RX12, "immediate", "(III)I"⟩
abbrev cX12_plain : ByteArray := prog_14_method_29_code
def yX12_plain : MethodName := ⟨RX12, "plain", "(I)V"⟩
abbrev cX12_two : ByteArray := prog_14_method_30_code
def yX12_two : MethodName := ⟨RX12, "two", "(I)V"⟩
abbrev cX12_oneOrNumber : ByteArray := prog_14_method_31_code
def yX12_oneOrNumber : MethodName := ⟨RX12, "oneOrNumber", "(II)V"⟩
abbrev cX12_sums : ByteArray := prog_14_method_32_code
def yX12_sums : MethodName := ⟨RX12, "sums", "(II)V"⟩
abbrev cX12_shifts : ByteArray := prog_14_method_33_code
def yX12_shifts : MethodName := ⟨RX12, "shifts", "(III)V"⟩
abbrev cX12_memory : ByteArray := prog_14_method_34_code
def yX12_memory : MethodName := ⟨RX12, "memory", "(IIZ)V"⟩
abbrev cX12_listed : ByteArray := prog_14_method_35_code
def yX12_listed : MethodName := ⟨RX12, "listed", "(IJ)V"⟩
abbrev cX12_jump : ByteArray := prog_14_method_36_code
def yX12_jump : MethodName := ⟨RX12, "jump", "(II)V"⟩
abbrev cX12_condition : ByteArray := prog_14_method_37_code
def yX12_condition : MethodName := ⟨RX12, "condition", "(II)I"⟩
abbrev cX12_directive : ByteArray := prog_14_method_38_code
def yX12_directive : MethodName := ⟨RX12, "directive", "(II)Z"⟩
abbrev cX12_word : ByteArray := prog_14_method_39_code
def yX12_word : MethodName := ⟨RX12, "word", "()V"⟩
abbrev cX12_simple : ByteArray := prog_14_method_40_code
def yX12_simple : MethodName := ⟨RX12, "simple", "(II)Z"⟩
abbrev cX12_pairOf : ByteArray := prog_14_method_41_code
def yX12_pairOf : MethodName := ⟨RX12, "pairOf", "(II)I"⟩
abbrev cX12_other : ByteArray := prog_14_method_42_code
def yX12_other : MethodName := ⟨RX12, "other", "(II)Z"⟩
abbrev cX12_isTwice : ByteArray := prog_14_method_43_code
def yX12_isTwice : MethodName := ⟨RX12, "isTwice", "(I)Z"⟩
abbrev cX12_read : ByteArray := prog_14_method_44_code
def yX12_read : MethodName := ⟨RX12, "read", "(IIZ)V"⟩
abbrev cX12_labelOf : ByteArray := prog_14_method_45_code
def yX12_labelOf : MethodName := ⟨RX12, "labelOf", "(IIII)I"⟩
abbrev cX12_addLabel : ByteArray := prog_14_method_46_code
def yX12_addLabel : MethodName := ⟨RX12, "addLabel", "(I)V"⟩
abbrev cX12_putByte : ByteArray := prog_14_method_47_code
def yX12_putByte : MethodName := ⟨RX12, "putByte", "(II)V"⟩
abbrev cX12_putMany : ByteArray := prog_14_method_48_code
def yX12_putMany : MethodName := ⟨RX12, "putMany", "(III)V"⟩
abbrev cX12_lay : ByteArray := prog_14_method_49_code
def yX12_lay : MethodName := ⟨RX12, "lay", "(I)I"⟩
abbrev cX12_report : ByteArray := prog_14_method_50_code
def yX12_report : MethodName := ⟨RX12, "report", "(IIII)I"⟩
abbrev cX12_firstPass : ByteArray := prog_14_method_51_code
def yX12_firstPass : MethodName := ⟨RX12, "firstPass", "()I"⟩
abbrev cX12_isGlobalName : ByteArray := prog_14_method_52_code
def yX12_isGlobalName : MethodName := ⟨RX12, "isGlobalName", "(II)Z"⟩
abbrev cX12_globalOf : ByteArray := prog_14_method_53_code
def yX12_globalOf : MethodName := ⟨RX12, "globalOf", "(II)I"⟩
abbrev cX12_secondPass : ByteArray := prog_14_method_54_code
def yX12_secondPass : MethodName := ⟨RX12, "secondPass", "()I"⟩
abbrev cX12_up : ByteArray := prog_14_method_55_code
def yX12_up : MethodName := ⟨RX12, "up", "(I)I"⟩
abbrev cX12_place : ByteArray := prog_14_method_56_code
def yX12_place : MethodName := ⟨RX12, "place", "(IIZ)I"⟩
abbrev cX12_addressOf : ByteArray := prog_14_method_57_code
def yX12_addressOf : MethodName := ⟨RX12, "addressOf", "(I)I"⟩
abbrev cX12_setHalf : ByteArray := prog_14_method_58_code
def yX12_setHalf : MethodName := ⟨RX12, "setHalf", "(III)V"⟩
abbrev cX12_resolve : ByteArray := prog_14_method_59_code
def yX12_resolve : MethodName := ⟨RX12, "resolve", "(IIII)Z"⟩
abbrev cX12_thirdPass : ByteArray := prog_14_method_60_code
def yX12_thirdPass : MethodName := ⟨RX12, "thirdPass", "()I"⟩
abbrev cX12_sizeOf : ByteArray := prog_14_method_61_code
def yX12_sizeOf : MethodName := ⟨RX12, "sizeOf", "(I)I"⟩
abbrev cX12_mainAddress : ByteArray := prog_14_method_62_code
def yX12_mainAddress : MethodName := ⟨RX12, "mainAddress", "()I"⟩
abbrev cX12_link : ByteArray := prog_14_method_63_code
def yX12_link : MethodName := ⟨RX12, "link", "()I"⟩
abbrev cX12_setWord : ByteArray := prog_14_method_64_code
def yX12_setWord : MethodName := ⟨RX12, "setWord", "(II)V"⟩
abbrev cX12_finish : ByteArray := prog_14_method_65_code
def yX12_finish : MethodName := ⟨RX12, "finish", "(II)V"⟩
abbrev cX12_putHex : ByteArray := prog_14_method_66_code
def yX12_putHex : MethodName := ⟨RX12, "putHex", "(I)V"⟩
abbrev cX12_record : ByteArray := prog_14_method_67_code
def yX12_record : MethodName := ⟨RX12, "record", "(IIII)V"⟩
abbrev cX12_write : ByteArray := prog_14_method_68_code
def yX12_write : MethodName := ⟨RX12, "write", "()V"⟩
abbrev cX12_fault : ByteArray := prog_14_method_69_code
def yX12_fault : MethodName := ⟨RX12, "fault", "(I)I"⟩
abbrev cX12_octet : ByteArray := prog_14_method_70_code
def yX12_octet : MethodName := ⟨RX12, "octet", "(I)I"⟩
abbrev cX12_hex : ByteArray := prog_14_method_71_code
def yX12_hex : MethodName := ⟨RX12, "hex", "(I)C"⟩
abbrev cX12_address : ByteArray := prog_14_method_72_code
def yX12_address : MethodName := ⟨RX12, "address", "(I)I"⟩
abbrev cX12_size : ByteArray := prog_14_method_73_code
def yX12_size : MethodName := ⟨RX12, "size", "(II)I"⟩
def RJx29ce0 : String := "java/lang/Enum"
def TJx29ce0 : u_T := fun k => match k with
  | _ => ("", "", "", false)
def tyJx29ce0 : Nat → FieldType := fun k => match k with
  | _ => .int
abbrev wsJx29ce00 : List Cond := u_ws RJx29ce0 TJx29ce0 0
theorem nmJx29ce0 : ∀ a, a < 0 → ∀ b, b < 0 → a ≠ b → (TJx29ce0 a).2.1 ≠ (TJx29ce0 b).2.1 := by decide +kernel
theorem tyJx29ce0_ok : ∀ k, k < 0 → parseFieldDescriptor (TJx29ce0 k).2.2.1 = some (tyJx29ce0 k) := by decide +kernel
def RJ9 : String := "java/lang/Math"
def TJ9 : u_T := fun k => match k with
  | _ => ("", "", "", false)
def tyJ9 : Nat → FieldType := fun k => match k with
  | _ => .int
abbrev wsJ90 : List Cond := u_ws RJ9 TJ9 0
theorem nmJ9 : ∀ a, a < 0 → ∀ b, b < 0 → a ≠ b → (TJ9 a).2.1 ≠ (TJ9 b).2.1 := by decide +kernel
theorem tyJ9_ok : ∀ k, k < 0 → parseFieldDescriptor (TJ9 k).2.2.1 = some (tyJ9 k) := by decide +kernel
abbrev cJ9_min_7cf53 : ByteArray := prog_19_method_69_code
def yJ9_min_7cf53 : MethodName := ⟨RJ9, "min", "(II)I"⟩
def RJ0 : String := "java/lang/String"
def TJ0 : u_T := fun k => match k with
  | _ => ("", "", "", false)
def tyJ0 : Nat → FieldType := fun k => match k with
  | _ => .int
abbrev wsJ00 : List Cond := u_ws RJ0 TJ0 0
theorem nmJ0 : ∀ a, a < 0 → ∀ b, b < 0 → a ≠ b → (TJ0 a).2.1 ≠ (TJ0 b).2.1 := by decide +kernel
theorem tyJ0_ok : ∀ k, k < 0 → parseFieldDescriptor (TJ0 k).2.2.1 = some (tyJ0 k) := by decide +kernel
abbrev cJ0_length_8abf5 : ByteArray := prog_21_method_54_code
def yJ0_length_8abf5 : MethodName := ⟨RJ0, "length", "()I"⟩
abbrev cJ0_charAt_5068e : ByteArray := prog_21_method_56_code
def yJ0_charAt_5068e : MethodName := ⟨RJ0, "charAt", "(I)C"⟩
abbrev cJ0_coder_7d493 : ByteArray := prog_21_method_152_code
def yJ0_coder_7d493 : MethodName := ⟨RJ0, "coder", "()B"⟩
abbrev cJ0_isLatin1_aae02 : ByteArray := prog_21_method_154_code
def yJ0_isLatin1_aae02 : MethodName := ⟨RJ0, "isLatin1", "()Z"⟩
abbrev cJ0_checkIndex_df160 : ByteArray := prog_21_method_155_code
def yJ0_checkIndex_df160 : MethodName := ⟨RJ0, "checkIndex", "(II)V"⟩
def RJ1 : String := "java/lang/StringLatin1"
def TJ1 : u_T := fun k => match k with
  | _ => ("", "", "", false)
def tyJ1 : Nat → FieldType := fun k => match k with
  | _ => .int
abbrev wsJ10 : List Cond := u_ws RJ1 TJ1 0
theorem nmJ1 : ∀ a, a < 0 → ∀ b, b < 0 → a ≠ b → (TJ1 a).2.1 ≠ (TJ1 b).2.1 := by decide +kernel
theorem tyJ1_ok : ∀ k, k < 0 → parseFieldDescriptor (TJ1 k).2.2.1 = some (tyJ1 k) := by decide +kernel
abbrev cJ1_charAt_3b067 : ByteArray := prog_22_method_2_code
def yJ1_charAt_3b067 : MethodName := ⟨RJ1, "charAt", "([BI)C"⟩
def RJ2 : String := "java/lang/StringUTF16"
def TJ2 : u_T := fun k => match k with
  | _ => ("", "", "", false)
def tyJ2 : Nat → FieldType := fun k => match k with
  | _ => .int
abbrev wsJ20 : List Cond := u_ws RJ2 TJ2 0
theorem nmJ2 : ∀ a, a < 0 → ∀ b, b < 0 → a ≠ b → (TJ2 a).2.1 ≠ (TJ2 b).2.1 := by decide +kernel
theorem tyJ2_ok : ∀ k, k < 0 → parseFieldDescriptor (TJ2 k).2.2.1 = some (tyJ2 k) := by decide +kernel
abbrev cJ2_getChar_3b067 : ByteArray := prog_23_method_5_code
def yJ2_getChar_3b067 : MethodName := ⟨RJ2, "getChar", "([BI)C"⟩
abbrev cJ2_length_9d52b : ByteArray := prog_23_method_6_code
def yJ2_length_9d52b : MethodName := ⟨RJ2, "length", "([B)I"⟩
abbrev cJ2_charAt_3b067 : ByteArray := prog_23_method_83_code
def yJ2_charAt_3b067 : MethodName := ⟨RJ2, "charAt", "([BI)C"⟩
abbrev cJ2_checkIndex_2214a : ByteArray := prog_23_method_91_code
def yJ2_checkIndex_2214a : MethodName := ⟨RJ2, "checkIndex", "(I[B)V"⟩
def RJ7 : String := "java/util/Arrays"
def TJ7 : u_T := fun k => match k with
  | _ => ("", "", "", false)
def tyJ7 : Nat → FieldType := fun k => match k with
  | _ => .int
abbrev wsJ70 : List Cond := u_ws RJ7 TJ7 0
theorem nmJ7 : ∀ a, a < 0 → ∀ b, b < 0 → a ≠ b → (TJ7 a).2.1 ≠ (TJ7 b).2.1 := by decide +kernel
theorem tyJ7_ok : ∀ k, k < 0 → parseFieldDescriptor (TJ7 k).2.2.1 = some (tyJ7 k) := by decide +kernel
abbrev cJ7_fill_53178 : ByteArray := prog_25_method_103_code
def yJ7_fill_53178 : MethodName := ⟨RJ7, "fill", "([II)V"⟩
abbrev cJ7_fill_031fb : ByteArray := prog_25_method_109_code
def yJ7_fill_031fb : MethodName := ⟨RJ7, "fill", "([BB)V"⟩
def RJ3 : String := "jdk/internal/util/Preconditions"
def TJ3 : u_T := fun k => match k with
  | _ => ("", "", "", false)
def tyJ3 : Nat → FieldType := fun k => match k with
  | _ => .int
abbrev wsJ30 : List Cond := u_ws RJ3 TJ3 0
theorem nmJ3 : ∀ a, a < 0 → ∀ b, b < 0 → a ≠ b → (TJ3 a).2.1 ≠ (TJ3 b).2.1 := by decide +kernel
theorem tyJ3_ok : ∀ k, k < 0 → parseFieldDescriptor (TJ3 k).2.2.1 = some (tyJ3 k) := by decide +kernel
abbrev cJ3_checkIndex_8e157 : ByteArray := prog_26_method_11_code
def yJ3_checkIndex_8e157 : MethodName := ⟨RJ3, "checkIndex", "(IILjava/util/function/BiFunction;)I"⟩
def RL : String := "ThumbLinkerLaw"
abbrev cL_type : ByteArray := method_3_code
def yL_type : MethodName := ⟨RL, "type", "(LThumbLinker;IIII[J)I"⟩
abbrev cL_add : ByteArray := method_4_code
def yL_add : MethodName := ⟨RL, "add", "(LThumbLinker;I[J)I"⟩
abbrev cL_change : ByteArray := method_5_code
def yL_change : MethodName := ⟨RL, "change", "(LThumbLinker;II)I"⟩
abbrev cL_drop : ByteArray := method_6_code
def yL_drop : MethodName := ⟨RL, "drop", "(LThumbLinker;I[J)I"⟩
abbrev cL_fault : ByteArray := method_7_code
def yL_fault : MethodName := ⟨RL, "fault", "(LThumbLinker;I[J)I"⟩
abbrev cL_address : ByteArray := method_8_code
def yL_address : MethodName := ⟨RL, "address", "(LThumbLinker;I[J)I"⟩
abbrev cL_size : ByteArray := method_9_code
def yL_size : MethodName := ⟨RL, "size", "(LThumbLinker;II[J)I"⟩
abbrev cL_law : ByteArray := code
def yL_law : MethodName := ⟨RL, "law", "([I)Z"⟩
abbrev vwCl : List vw_C := [(RX0, TX0, 3), (RX1, TX1, 4), (RX2, TX2, 2), (RX3, TX3, 6), (RX4, TX4, 4), (RX6, TX6, 1), (RX7, TX7, 5), (RX8, TX8, 2), (RX9, TX9, 13), (RX10, TX10, 2), (RX11, TX11, 6), (RX12, TX12, 40)]
set_option maxRecDepth 100000 in
theorem inX0 : ∀ w ∈ wsX00, w ∈ lw_tbl := by decide +kernel
set_option maxRecDepth 100000 in
theorem inX1 : ∀ w ∈ wsX10, w ∈ lw_tbl := by decide +kernel
set_option maxRecDepth 100000 in
theorem inX2 : ∀ w ∈ wsX20, w ∈ lw_tbl := by decide +kernel
set_option maxRecDepth 100000 in
theorem inX3 : ∀ w ∈ wsX30, w ∈ lw_tbl := by decide +kernel
set_option maxRecDepth 100000 in
theorem inX4 : ∀ w ∈ wsX40, w ∈ lw_tbl := by decide +kernel
set_option maxRecDepth 100000 in
theorem inX5 : ∀ w ∈ wsX50, w ∈ lw_tbl := by decide +kernel
set_option maxRecDepth 100000 in
theorem inX6 : ∀ w ∈ wsX60, w ∈ lw_tbl := by decide +kernel
set_option maxRecDepth 100000 in
theorem inX7 : ∀ w ∈ wsX70, w ∈ lw_tbl := by decide +kernel
set_option maxRecDepth 100000 in
theorem inX8 : ∀ w ∈ wsX80, w ∈ lw_tbl := by decide +kernel
set_option maxRecDepth 100000 in
theorem inX9 : ∀ w ∈ wsX90, w ∈ lw_tbl := by decide +kernel
set_option maxRecDepth 100000 in
theorem inX10 : ∀ w ∈ wsX100, w ∈ lw_tbl := by decide +kernel
set_option maxRecDepth 100000 in
theorem inX11 : ∀ w ∈ wsX110, w ∈ lw_tbl := by decide +kernel
set_option maxRecDepth 100000 in
theorem inX12 : ∀ w ∈ wsX120, w ∈ lw_tbl := by decide +kernel
set_option maxRecDepth 100000 in
theorem inJx29ce0 : ∀ w ∈ wsJx29ce00, w ∈ lw_tbl := by decide +kernel
set_option maxRecDepth 100000 in
theorem inJ9 : ∀ w ∈ wsJ90, w ∈ lw_tbl := by decide +kernel
set_option maxRecDepth 100000 in
theorem inJ0 : ∀ w ∈ wsJ00, w ∈ lw_tbl := by decide +kernel
set_option maxRecDepth 100000 in
theorem inJ1 : ∀ w ∈ wsJ10, w ∈ lw_tbl := by decide +kernel
set_option maxRecDepth 100000 in
theorem inJ2 : ∀ w ∈ wsJ20, w ∈ lw_tbl := by decide +kernel
set_option maxRecDepth 100000 in
theorem inJ7 : ∀ w ∈ wsJ70, w ∈ lw_tbl := by decide +kernel
set_option maxRecDepth 100000 in
theorem inJ3 : ∀ w ∈ wsJ30, w ∈ lw_tbl := by decide +kernel
end
section
/-! WORDS: the good ones of the tables, the same for every method -/
def gw_tbl : List Cond := lw_tbl.filter goodWord
theorem gw_in {w : Cond} (i : Nat) (h : lw_tbl[i]? = some w) (hg : goodWord w = true) : w ∈ gw_tbl := List.mem_filter.mpr ⟨List.mem_of_getElem? h, hg⟩
theorem gw_mem {w : Cond} (h : w ∈ lw_tbl) (hg : goodWord w = true) : w ∈ gw_tbl := List.mem_filter.mpr ⟨h, hg⟩
theorem gw_all {ws : List Cond} (h : ∀ w ∈ ws, w ∈ lw_tbl) (hg : ws.all goodWord = true) : ∀ w ∈ ws, w ∈ gw_tbl := fun w hw => gw_mem (h w hw) (List.all_eq_true.mp hg w hw)
/-! ABSTRACT VALUES: a number, a long, a cell by its kind and its number there, null -/
abbrev AV : Type := Int32 ⊕ Int64 ⊕ Option (Nat × Nat)
abbrev vI (x : Int32) : AV := Sum.inl x
abbrev vJ (x : Int64) : AV := Sum.inr (Sum.inl x)
abbrev vR (k j : Nat) : AV := Sum.inr (Sum.inr (some (k, j)))
abbrev vN : AV := Sum.inr (Sum.inr none)
def cv (ad : Nat → Nat → Nat) : AV → Value
  | Sum.inl x => .int x
  | Sum.inr (Sum.inl x) => .long x
  | Sum.inr (Sum.inr (some (k, j))) => .ref (ad k j)
  | Sum.inr (Sum.inr none) => .null
/-! MEMORY: what int-like, long and reference slots hold; by kind, number, slot; a reference by the number of its target, whose kind is fixed -/
abbrev Mem : Type := (Nat → Nat → Nat → Int32) × (Nat → Nat → Nat → Int64) × (Nat → Nat → Nat → Nat)
def mI (M : Mem) (k j s : Nat) : Int32 := M.1 k j s
def mJ (M : Mem) (k j s : Nat) : Int64 := M.2.1 k j s
def mR (M : Mem) (k j s : Nat) : Nat := M.2.2 k j s
def up3 {α : Type} (f : Nat → Nat → Nat → α) (k j s : Nat) (v : α) : Nat → Nat → Nat → α := fun k' j' s' => if k' = k ∧ j' = j ∧ s' = s then v else f k' j' s'
def sI (M : Mem) (k j s : Nat) (v : Int32) : Mem := (up3 M.1 k j s v, M.2.1, M.2.2)
def sJ (M : Mem) (k j s : Nat) (v : Int64) : Mem := (M.1, up3 M.2.1 k j s v, M.2.2)
def sR (M : Mem) (k j s : Nat) (v : Nat) : Mem := (M.1, M.2.1, up3 M.2.2 k j s v)
/-! KINDS: 0 .. 11 objects (the classes of vwCl), 12 .. 41 arrays; 50 the enum's array, 51 its constants, 52 texts (not written) -/
def kF : Nat → List Nat
  | 0 => [5, 6, 4]
  | 1 => [0, 0, 0, 0]
  | 2 => [23, 0]
  | 3 => [17, 18, 19, 19, 19, 0]
  | 4 => [20, 20, 22, 0]
  | 5 => [8]
  | 6 => [11, 0, 0, 0, 0]
  | 7 => [16, 0]
  | 8 => [1, 0, 0, 0, 0, 0, 0, 1, 0, 0, 0, 0, 0]
  | 9 => [14, 0]
  | 10 => [11, 15, 7, 3, 2, 2]
  | 11 => [0, 24, 0, 25, 26, 27, 0, 0, 0, 0, 0, 0, 0, 0, 0, 0, 0, 0, 0, 0, 0, 28, 29, 30, 31, 32, 33, 34, 35, 36, 0, 37, 38, 39, 0, 40, 41, 0, 42, 0]
  | _ => []
/-- an array kind: number of its type, length, what a place holds -/
def kA : Nat → Nat × Nat × Nat
  | 12 => (1, 48, 0)
  | 13 => (5, 4, 9)
  | 14 => (6, 24, 10)
  | 15 => (3, 96, 1)
  | 16 => (4, 96, 0)
  | 17 => (2, 96, 0)
  | 18 => (7, 4, 21)
  | 19 => (2, 3, 0)
  | 20 => (2, 4, 0)
  | 21 => (0, 2048, 0)
  | 22 => (1, 48, 0)
  | 23 => (2, 4, 0)
  | 24 => (2, 96, 0)
  | 25 => (1, 4608, 0)
  | 26 => (1, 1152, 0)
  | 27 => (2, 192, 0)
  | 28 => (2, 192, 0)
  | 29 => (2, 192, 0)
  | 30 => (4, 192, 0)
  | 31 => (2, 12, 0)
  | 32 => (2, 12, 0)
  | 33 => (2, 12, 0)
  | 34 => (2, 12288, 0)
  | 35 => (2, 12, 0)
  | 36 => (2, 12, 0)
  | 37 => (2, 2048, 0)
  | 38 => (2, 3, 0)
  | 39 => (1, 6400, 0)
  | 40 => (2, 12, 0)
  | 41 => (3, 1, 1)
  | _ => (0, 0, 0)
def kCnt : Nat → Nat
  | 0 => 2
  | 1 => 1
  | 2 => 2
  | 3 => 2
  | 4 => 2
  | 5 => 1
  | 6 => 1
  | 7 => 4
  | 8 => 96
  | 9 => 2
  | 10 => 1
  | 11 => 1
  | 12 => 2
  | 13 => 1
  | 14 => 4
  | 15 => 2
  | 16 => 2
  | 17 => 6
  | 18 => 4
  | 19 => 16
  | 20 => 2
  | 21 => 2
  | 22 => 1
  | 23 => 1
  | 24 => 1
  | 25 => 1
  | 26 => 1
  | 27 => 1
  | 28 => 1
  | 29 => 1
  | 30 => 1
  | 31 => 1
  | 32 => 1
  | 33 => 1
  | 34 => 1
  | 35 => 1
  | 36 => 1
  | 37 => 1
  | 38 => 1
  | 39 => 1
  | 40 => 1
  | 41 => 1
  | 50 => 1
  | 51 => 49
  | 52 => 60
  | _ => 0
def tyT : Nat → FieldType
  | 0 => .byte
  | 1 => .char
  | 2 => .int
  | 3 => .long
  | 4 => .boolean
  | 5 => .object "ThumbLinker$Source"
  | 6 => .object "ThumbLinker$Statement"
  | _ => .array .int
def PL : List (Nat × Nat) := (List.range 42).flatMap (fun k => (List.range (kCnt k)).map (fun j => (k, j)))
theorem mem_PL {k j : Nat} : (k, j) ∈ PL ↔ k < 42 ∧ j < kCnt k := by
  unfold PL
  simp only [List.mem_flatMap, List.mem_range, List.mem_map, Prod.mk.injEq]
  constructor
  · rintro ⟨a, ha, b, hb, rfl, rfl⟩; exact ⟨ha, hb⟩
  · rintro ⟨h1, h2⟩; exact ⟨k, h1, j, h2, rfl, rfl⟩
theorem PL_nodup : PL.Nodup := by decide +kernel
/-! THE WORLD: launch, classes' numbers and slots, array classes, addresses of cells, addresses of texts' bytes -/
abbrev GX : Type := Launch × va_G × (Nat → ClassId) × (Nat → Nat → Nat) × (Nat → Nat)
abbrev gD (G : GX) : va_G := G.2.1
abbrev gC (G : GX) : Nat → ClassId := G.2.2.1
abbrev gA (G : GX) : Nat → Nat → Nat := G.2.2.2.1
abbrev gV (G : GX) : Nat → Nat := G.2.2.2.2
def valC (ad : Nat → Nat → Nat) (M : Mem) (k j s : Nat) : Nat → Value
  | 0 => .int (mI M k j s)
  | 1 => .long (mJ M k j s)
  | t + 2 => .ref (ad t (mR M k j s))
def contC (ad : Nat → Nat → Nat) (M : Mem) (k j : Nat) : Nat → ((Nat → Int32) ⊕ (Nat → Int64) ⊕ (Nat → UInt32) ⊕ (Nat → UInt64) ⊕ (Nat → Option Nat))
  | 0 => .inl (fun i => mI M k j i)
  | 1 => .inr (.inl (fun i => mJ M k j i))
  | t + 2 => .inr (.inr (.inr (.inr (fun i => some (ad t (mR M k j i))))))
def flds (G : GX) (M : Mem) (k j : Nat) : List Value := (List.range (kF k).length).map (fun s => valC (gA G) M k j s ((kF k).getD s 0))
def cellE (G : GX) (M : Mem) (k j : Nat) : va_E := if k < 12 then .inr (k, flds G M k j) else .inl (gC G (kA k).1, (kA k).2.1, contC (gA G) M k j (kA k).2.2)
def wsM (G : GX) (M : Mem) : va_W := PL.map (fun q => (gA G q.1 q.2, cellE G M q.1 q.2))
def tysG (G : GX) : List (ClassId × FieldType) := (List.range 8).map (fun t => (gC G t, tyT t))
theorem tysG_at (G : GX) {t : Nat} (h : t < 8) : (tysG G)[t]? = some (gC G t, tyT t) := by
  unfold tysG
  rw [List.getElem?_map, List.getElem?_range h]; rfl
def InjG (G : GX) : Prop := ∀ k j k' j', (k, j) ∈ PL → (k', j') ∈ PL → gA G k j = gA G k' j' → k = k' ∧ j = j'
def gPool (G : GX) (sz : Nat) : Nat → Prop := fun q => (∃ k j, (k, j) ∈ PL ∧ gA G k j = q) ∨ sz ≤ q
def Pw (G : GX) (M : Mem) (H : Heap) : Prop := va_P (gD G) vwCl (wsM G M) H
/-! VALID VALUES -/
def okV : AV → Prop
  | Sum.inr (Sum.inr (some (k, j))) => j < kCnt k
  | _ => True
def okVs (st : List AV) : Prop := ∀ v ∈ st, okV v
def okLs (ls : List (Option AV)) : Prop := ∀ (i : Nat) (v : AV), ls[i]? = some (some v) → okV v
def okO (r : Option AV) : Prop := ∀ v, r = some v → okV v
def slotC (k s : Nat) : Nat := if k < 12 then (kF k).getD s 0 else (kA k).2.2
def kLen (k : Nat) : Nat := if k < 12 then (kF k).length else (kA k).2.1
/-- the references that change: the linker's two builds, the scanner's line -/
def mutR (k s : Nat) : Bool := (k == 10 && (s == 4 || s == 5)) || (k == 6 && s == 0)
/-- the others: made once -/
def fixR (k j s : Nat) : Nat := match k, s with
  | 0, _ => j
  | 3, 0 => j
  | 3, 1 => j
  | 3, 2 => 3 * j
  | 3, 3 => 3 * j + 1
  | 3, 4 => 3 * j + 2
  | 4, 0 => 2 * j
  | 4, 1 => 2 * j + 1
  | 4, 2 => j
  | 2, 0 => j
  | 7, 0 => j
  | 9, 0 => j
  | 13, m => m
  | 14, i => 24 * j + i
  | 18, i => 4 * j + i
  | _, _ => 0
def okM (M : Mem) : Prop := ∀ k j s t : Nat, (k, j) ∈ PL → s < kLen k → slotC k s = t + 2 → mR M k j s < kCnt t ∧ (mutR k s = false → mR M k j s = fixR k j s)
theorem okVs.I {st : List AV} (h : okVs st) (x : Int32) : okVs (vI x :: st) := fun v hv => (List.mem_cons.mp hv).elim (fun e => by rw [e]; exact trivial) (h v)
theorem okVs.J {st : List AV} (h : okVs st) (x : Int64) : okVs (vJ x :: st) := fun v hv => (List.mem_cons.mp hv).elim (fun e => by rw [e]; exact trivial) (h v)
theorem okVs.d {st : List AV} {a : AV} (h : okVs (a :: st)) : okVs st := fun v hv => h v (List.mem_cons_of_mem _ hv)
theorem okVs.hd {st : List AV} {a : AV} (h : okVs (a :: st)) : okV a := h a List.mem_cons_self
theorem okVs.c {st : List AV} {a : AV} (ha : okV a) (h : okVs st) : okVs (a :: st) := fun v hv => (List.mem_cons.mp hv).elim (fun e => by rw [e]; exact ha) (h v)
theorem okVs.app {st st' : List AV} (h : okVs st) (h' : okVs st') : okVs (st ++ st') := fun v hv => (List.mem_append.mp hv).elim (h v) (h' v)
/-! LOCALS -/
def lvL (ad : Nat → Nat → Nat) : Nat → List (Option AV) → List (Nat × Value)
  | _, [] => []
  | i, none :: t => lvL ad (i + 1) t
  | i, some v :: t => (i, cv ad v) :: lvL ad (i + 1) t
theorem mem_lvL {ad : Nat → Nat → Nat} : ∀ {ls : List (Option AV)} {n : Nat} {q : Nat × Value}, q ∈ lvL ad n ls ↔ ∃ (i : Nat) (v : AV), ls[i]? = some (some v) ∧ q = (n + i, cv ad v)
  | [], n, q => by simp [lvL]
  | none :: t, n, q => by
    rw [lvL, mem_lvL (ls := t)]
    constructor
    · rintro ⟨i, v, h, e⟩; exact ⟨i + 1, v, by simpa using h, by rw [e]; congr 1; omega⟩
    · rintro ⟨i, v, h, e⟩
      cases i with
      | zero => simp at h
      | succ i => exact ⟨i, v, by simpa using h, by rw [e]; congr 1; omega⟩
  | some w :: t, n, q => by
    rw [lvL, List.mem_cons, mem_lvL (ls := t)]
    constructor
    · rintro (e | ⟨i, v, h, e⟩)
      · exact ⟨0, w, rfl, e⟩
      · exact ⟨i + 1, v, by simpa using h, by rw [e]; congr 1; omega⟩
    · rintro ⟨i, v, h, e⟩
      cases i with
      | zero => left; simp at h; rw [e, h]; rfl
      | succ i => right; exact ⟨i, v, by simpa using h, by rw [e]; congr 1; omega⟩
theorem lvAt {ad : Nat → Nat → Nat} {lsA : Array Slot} {nL i : Nat} {ls : List (Option AV)} {v : AV} (h : lv_has lsA nL (lvL ad 0 ls)) (hl : ls[i]? = some (some v)) : lsA[i]? = some (.val (cv ad v)) :=
  h.2.2 (i, cv ad v) (mem_lvL.mpr ⟨i, v, hl, by rw [Nat.zero_add]⟩)
/-- place i isn't the second half of a long -/
def notL (ls : List (Option AV)) : Nat → Bool
  | 0 => true
  | i + 1 => match ls[i]? with
    | some (some (Sum.inr (Sum.inl _))) => false
    | _ => true
theorem cv_cat1 {ad : Nat → Nat → Nat} {v : AV} (h : (cv ad v).category = 2) : ∃ x, v = vJ x := by
  rcases v with x | x | _ | ⟨k, j⟩
  · cases h
  · exact ⟨x, rfl⟩
  · cases h
  · cases h
theorem lvSet1 {ad : Nat → Nat → Nat} {nL i : Nat} {ls : List (Option AV)} {v : AV} (hn : notL ls i = true) :
    ∀ lsA : Array Slot, lv_has lsA nL ((i, cv ad v) :: (lvL ad 0 ls).filter (fun q => !(q.1 == i) && !(q.1 + 1 == i && q.2.category == 2))) → lv_has lsA nL (lvL ad 0 (ls.set i (some v))) := by
  intro lsA h
  refine ⟨h.1, h.2.1, fun q hq => h.2.2 q ?_⟩
  obtain ⟨a, w, ha, rfl⟩ := mem_lvL.mp hq
  rw [List.getElem?_set] at ha
  by_cases hi : i = a
  · subst hi
    rw [if_pos rfl] at ha
    split at ha
    · cases ha; simp
    · cases ha
  · rw [if_neg hi] at ha
    refine List.mem_cons_of_mem _ (List.mem_filter.mpr ⟨mem_lvL.mpr ⟨a, w, ha, rfl⟩, ?_⟩)
    simp only [Nat.zero_add, Bool.and_eq_true, Bool.not_eq_true', Bool.and_eq_false_iff, beq_eq_false_iff_ne, ne_eq]
    refine ⟨fun q => hi q.symm, ?_⟩
    by_cases h2 : a + 1 = i
    · right
      intro hc
      obtain ⟨x, rfl⟩ := cv_cat1 hc
      subst h2
      simp [notL, ha] at hn
    · left; exact h2
theorem lvSet2 {ad : Nat → Nat → Nat} {nL i : Nat} {ls : List (Option AV)} {v : AV} (hn : notL ls i = true) :
    ∀ lsA : Array Slot, lv_has lsA nL ((i, cv ad v) :: (lvL ad 0 ls).filter (fun q => !(q.1 == i) && (!(q.1 == i + 1) && !(q.1 + 1 == i && q.2.category == 2)))) → lv_has lsA nL (lvL ad 0 ((ls.set i (some v)).set (i + 1) none)) := by
  intro lsA h
  refine ⟨h.1, h.2.1, fun q hq => h.2.2 q ?_⟩
  obtain ⟨a, w, ha, rfl⟩ := mem_lvL.mp hq
  rw [List.getElem?_set] at ha
  by_cases h1 : i + 1 = a
  · rw [if_pos h1] at ha
    split at ha <;> cases ha
  · rw [if_neg h1, List.getElem?_set] at ha
    by_cases hi : i = a
    · subst hi
      rw [if_pos rfl] at ha
      split at ha
      · cases ha; simp
      · cases ha
    · rw [if_neg hi] at ha
      refine List.mem_cons_of_mem _ (List.mem_filter.mpr ⟨mem_lvL.mpr ⟨a, w, ha, rfl⟩, ?_⟩)
      simp only [Nat.zero_add, Bool.and_eq_true, Bool.not_eq_true', Bool.and_eq_false_iff, beq_eq_false_iff_ne, ne_eq]
      refine ⟨fun q => hi q.symm, fun q => h1 q.symm, ?_⟩
      by_cases h2 : a + 1 = i
      · right
        intro hc
        obtain ⟨x, rfl⟩ := cv_cat1 hc
        subst h2
        simp [notL, ha] at hn
      · left; exact h2
theorem okLs.set {ls : List (Option AV)} {i : Nat} {v : AV} (h : okLs ls) (hv : okV v) : okLs (ls.set i (some v)) := by
  intro a w ha
  rw [List.getElem?_set] at ha
  split at ha
  · split at ha
    · cases ha; exact hv
    · cases ha
  · exact h a w ha
theorem okLs.set0 {ls : List (Option AV)} {i : Nat} (h : okLs ls) : okLs (ls.set i none) := by
  intro a w ha
  rw [List.getElem?_set] at ha
  split at ha
  · split at ha <;> cases ha
  · exact h a w ha
end
section
def strB : List (List Int32) := [[46, 116, 101, 120, 116], [46, 100, 97, 116, 97], [46, 98, 115, 115], [46, 103, 108, 111, 98, 97, 108], [46, 119, 111, 114, 100], [46, 98, 121, 116, 101], [46, 115, 112, 97, 99, 101], [46, 97, 108, 105, 103, 110], [110, 111, 112], [109, 111, 118, 115], [99, 109, 112], [97, 100, 100, 115], [115, 117, 98, 115], [108, 115, 108, 115], [108, 115, 114, 115], [97, 115, 114, 115], [97, 110, 100, 115], [101, 111, 114, 115], [97, 100, 99, 115], [115, 98, 99, 115], [116, 115, 116], [110, 101, 103, 115], [111, 114, 114, 115], [109, 117, 108, 115], [98, 105, 99, 115], [109, 118, 110, 115], [108, 100, 114], [115, 116, 114], [108, 100, 114, 98], [115, 116, 114, 98], [112, 117, 115, 104], [112, 111, 112], [98], [98, 108], [98, 101, 113], [98, 110, 101], [98, 99, 115], [98, 99, 99], [98, 109, 105], [98, 112, 108], [98, 118, 115], [98, 118, 99], [98, 104, 105], [98, 108, 115], [98, 103, 101], [98, 108, 116], [98, 103, 116], [98, 108, 101], [98, 120], [108, 114], [112, 99], [58, 48, 50, 48, 48, 48, 48, 48, 52, 48, 48, 48, 48, 70, 65, 10], [58, 48, 48, 48, 48, 48, 48, 48, 49, 70, 70, 10], [48, 49, 50, 51, 52, 53, 54, 55, 56, 57, 65, 66, 67, 68, 69, 70], [109, 111, 114, 101, 32, 116, 104, 97, 110, 32, 52, 56, 32, 99, 104, 97, 114, 97, 99, 116, 101, 114, 115], [110, 111, 32, 115, 117, 99, 104, 32, 109, 111, 100, 117, 108, 101], [116, 104, 101, 32, 109, 111, 100, 117, 108, 101, 32, 104, 97, 115, 32, 50, 52, 32, 108, 105, 110, 101, 115], [110, 111, 32, 115, 117, 99, 104, 32, 108, 105, 110, 101], [110, 101, 105, 116, 104, 101, 114, 32, 48, 44, 32, 49, 32, 110, 111, 114, 32, 50], [110, 111, 32, 115, 117, 99, 104, 32, 109, 111, 100, 117, 108, 101, 32, 111, 114, 32, 115, 101, 99, 116, 105, 111, 110]]
def mnT : List (Int32 × Int32 × Int32) := [(0, 0, 0), (0, 1, 0), (0, 2, 0), (1, 0, 0), (2, 0, 0), (3, 0, 0), (4, 0, 0), (5, 0, 0), (6, 48896, 0), (7, 0, 8192), (7, 17024, 10240), (8, 6144, 12288), (8, 6656, 14336), (9, 0, 0), (9, 2048, 1), (9, 4096, 1), (10, 16384, 0), (10, 16448, 0), (10, 16704, 0), (10, 16768, 0), (10, 16896, 0), (10, 16960, 0), (10, 17152, 0), (10, 17216, 0), (10, 17280, 0), (10, 17344, 0), (11, 26624, 18432), (12, 24576, 2), (12, 30720, 0), (12, 28672, 0), (13, 46080, 0), (14, 48128, 0), (15, 57344, 1), (15, 61440, 3), (15, 53248, 2), (15, 53504, 2), (15, 53760, 2), (15, 54016, 2), (15, 54272, 2), (15, 54528, 2), (15, 54784, 2), (15, 55040, 2), (15, 55296, 2), (15, 55552, 2), (15, 55808, 2), (15, 56064, 2), (15, 56320, 2), (15, 56576, 2), (16, 18176, 0)]
def strR : List (String × Nat × String × Nat) := [("ThumbLinker$Parser", 156, "lr", 49), ("ThumbLinker$Parser", 162, "pc", 50), ("ThumbLinker$Image", 32, ":020000040000FA\n", 51), ("ThumbLinker$Image", 47, ":00000001FF\n", 52), ("ThumbLinker$Image", 59, "0123456789ABCDEF", 53), ("ThumbLinker", 57, "more than 48 characters", 54), ("ThumbLinker", 72, "no such module", 55), ("ThumbLinker", 78, "the module has 24 lines", 56), ("ThumbLinker", 88, "no such line", 57), ("ThumbLinker", 131, "neither 0, 1 nor 2", 58), ("ThumbLinker", 157, "no such module or section", 59)]
abbrev RMn : String := "ThumbLinker$Mnemonic"
def ROa (G : GX) (A : Nat → Prop) (U : State) (H : Heap) : Prop :=
  va_Z RMn "ALL" "[LThumbLinker$Mnemonic;" (.ref (gA G 50 0)) A U H ∧
  va_T (.object RMn) (gA G 50 0) 49 (fun j => .ref (gA G 51 j)) A U H ∧
  va_Ef 49 RMn "form" "I" (fun j => .int (mnT.getD j (0, 0, 0)).1) (gA G 51) A U H ∧
  va_Ef 49 RMn "code" "I" (fun j => .int (mnT.getD j (0, 0, 0)).2.1) (gA G 51) A U H ∧
  va_Ef 49 RMn "extra" "I" (fun j => .int (mnT.getD j (0, 0, 0)).2.2) (gA G 51) A U H ∧
  va_Ef 49 RMn "word" "Ljava/lang/String;" (fun j => .ref (gA G 52 j)) (gA G 51) A U H ∧
  (∀ i : Nat, i < 60 → va_O "java/lang/String" (gA G 52 i) A U H ∧ va_OF "java/lang/String" "coder" "B" (.int 0) (gA G 52 i) A U H ∧ va_OF "java/lang/String" "value" "[B" (.ref (gV G i)) (gA G 52 i) A U H ∧ va_T .byte (gV G i) (strB.getD i []).length (fun j => .int ((strB.getD i []).getD j 0)) A U H) ∧
  va_Z "java/lang/String" "COMPACT_STRINGS" "Z" (.int 1) A U H ∧
  ∀ q ∈ strR, vk_R q.1 q.2.1 q.2.2.1 (gA G 52 q.2.2.2) U
theorem ROa.kept {G : GX} {A : Nat → Prop} {U : State} {H H1 : Heap} (h : ROa G A U H) (hq : ∀ a : Nat, a < H.size → ¬ A a → H1[a]? = H[a]?) : ROa G A U H1 :=
  ⟨h.1.kept hq, h.2.1.kept hq, h.2.2.1.kept hq, h.2.2.2.1.kept hq, h.2.2.2.2.1.kept hq, h.2.2.2.2.2.1.kept hq, fun i hi => ⟨(h.2.2.2.2.2.2.1 i hi).1.kept hq, (h.2.2.2.2.2.2.1 i hi).2.1.kept hq, (h.2.2.2.2.2.2.1 i hi).2.2.1.kept hq, (h.2.2.2.2.2.2.1 i hi).2.2.2.kept hq⟩, h.2.2.2.2.2.2.2.1.kept hq, h.2.2.2.2.2.2.2.2⟩
theorem ROa.narrow {G : GX} {A B : Nat → Prop} {U : State} {H : Heap} (h : ROa G A U H) (hq : ∀ q, B q → A q) : ROa G B U H :=
  ⟨h.1.narrow hq, h.2.1.narrow hq, h.2.2.1.narrow hq, h.2.2.2.1.narrow hq, h.2.2.2.2.1.narrow hq, h.2.2.2.2.2.1.narrow hq, fun i hi => ⟨(h.2.2.2.2.2.2.1 i hi).1.narrow hq, (h.2.2.2.2.2.2.1 i hi).2.1.narrow hq, (h.2.2.2.2.2.2.1 i hi).2.2.1.narrow hq, (h.2.2.2.2.2.2.1 i hi).2.2.2.narrow hq⟩, h.2.2.2.2.2.2.2.1.narrow hq, h.2.2.2.2.2.2.2.2⟩
theorem ROa.warm {G : GX} {A : Nat → Prop} {s U : State} {H : Heap} (hW : s.WarmedH U.vm) (h : ROa G A s H) : ROa G A U H :=
  ⟨va_Z.moved hW.alike h.1, va_T.moved hW.alike h.2.1, va_Ef.moved hW.alike h.2.2.1, va_Ef.moved hW.alike h.2.2.2.1, va_Ef.moved hW.alike h.2.2.2.2.1, va_Ef.moved hW.alike h.2.2.2.2.2.1, fun i hi => ⟨va_O.moved hW.alike (h.2.2.2.2.2.2.1 i hi).1, va_OF.moved hW.alike (h.2.2.2.2.2.2.1 i hi).2.1, va_OF.moved hW.alike (h.2.2.2.2.2.2.1 i hi).2.2.1, va_T.moved hW.alike (h.2.2.2.2.2.2.1 i hi).2.2.2⟩, va_Z.moved hW.alike h.2.2.2.2.2.2.2.1, fun q hq => vk_R.warm hW (h.2.2.2.2.2.2.2.2 q hq)⟩
theorem ROa.same {G : GX} {A : Nat → Prop} {u U : State} {H : Heap} (hv : U.vm = u.vm) (h : ROa G A u H) : ROa G A U H :=
  ⟨va_Z.moved (by rw [hv]; exact Vm.Alike.refl _) h.1, va_T.moved (by rw [hv]; exact Vm.Alike.refl _) h.2.1, va_Ef.moved (by rw [hv]; exact Vm.Alike.refl _) h.2.2.1, va_Ef.moved (by rw [hv]; exact Vm.Alike.refl _) h.2.2.2.1, va_Ef.moved (by rw [hv]; exact Vm.Alike.refl _) h.2.2.2.2.1, va_Ef.moved (by rw [hv]; exact Vm.Alike.refl _) h.2.2.2.2.2.1, fun i hi => ⟨va_O.moved (by rw [hv]; exact Vm.Alike.refl _) (h.2.2.2.2.2.2.1 i hi).1, va_OF.moved (by rw [hv]; exact Vm.Alike.refl _) (h.2.2.2.2.2.2.1 i hi).2.1, va_OF.moved (by rw [hv]; exact Vm.Alike.refl _) (h.2.2.2.2.2.2.1 i hi).2.2.1, va_T.moved (by rw [hv]; exact Vm.Alike.refl _) (h.2.2.2.2.2.2.1 i hi).2.2.2⟩, va_Z.moved (by rw [hv]; exact Vm.Alike.refl _) h.2.2.2.2.2.2.2.1, fun q hq => vk_R.same hv (h.2.2.2.2.2.2.2.2 q hq)⟩
def nmL : List (String × Nat × MethodName) := [("ThumbLinker$Scanner", 41, yX11_isLetter), ("ThumbLinker$Scanner", 45, yX11_isDigit), ("ThumbLinker$Text", 19, yX11_isLetter), ("ThumbLinker$Text", 23, yX11_isDigit)]
def ROb (U : State) : Prop := (∀ q ∈ nmL, va_Nw (.methodLinkNest q.1 q.2.1 q.2.2 "ThumbLinker") U) ∧ va_Nw (.fieldLinkNest "ThumbLinker$Scanner" 57 RMn "ALL" "[LThumbLinker$Mnemonic;" "ThumbLinker") U
def RO (G : GX) (A : Nat → Prop) (U : State) (H : Heap) : Prop := ROa G A U H ∧ ROb U
theorem ROb.warm {s U : State} (hW : s.WarmedH U.vm) (h : ROb s) : ROb U := ⟨fun q hq => va_Nw.warmM hW (h.1 q hq), va_Nw.warmF hW h.2⟩
theorem ROb.same {u U : State} (hv : U.vm = u.vm) (h : ROb u) : ROb U := ⟨fun q hq => va_Nw.same rfl hv.symm (h.1 q hq), va_Nw.same rfl hv.symm h.2⟩
theorem RO.kept {G : GX} {A : Nat → Prop} {U : State} {H H1 : Heap} (h : RO G A U H) (hq : ∀ a : Nat, a < H.size → ¬ A a → H1[a]? = H[a]?) : RO G A U H1 := ⟨h.1.kept hq, h.2⟩
theorem RO.narrow {G : GX} {A B : Nat → Prop} {U : State} {H : Heap} (h : RO G A U H) (hq : ∀ q, B q → A q) : RO G B U H := ⟨h.1.narrow hq, h.2⟩
theorem RO.warm {G : GX} {A : Nat → Prop} {s U : State} {H : Heap} (hW : s.WarmedH U.vm) (h : RO G A s H) : RO G A U H := ⟨h.1.warm hW, h.2.warm hW⟩
theorem RO.same {G : GX} {A : Nat → Prop} {u U : State} {H : Heap} (hv : U.vm = u.vm) (h : RO G A u H) : RO G A U H := ⟨h.1.same hv, h.2.same hv⟩
/-! THE JUDGEMENT. MIx: a method's bytes, its class, its locals, what it returns, its room -/
abbrev MIx : Type := ByteArray × String × Nat × Option FieldType × Room
def Cx (G : GX) (I : MIx) (p : Program) (s : State) (m : MethodId) (args : Array Value) (meth : Method) (c : Code) : Prop :=
  p.tables.exec = Jvm.exec ∧ c.code = I.1 ∧ c.maxLocals = I.2.2.1 ∧ meth.sig.returnType = I.2.2.2.1 ∧ s.vm.findClass I.2.1 = some m.cls ∧ (∀ w ∈ gw_tbl, w.before args s = true) ∧ va_K (gD G) vwCl (tysG G) s ∧ meth.locks = false ∧ InjG G ∧ RO G (gPool G s.heap.size) s s.heap
def QcM (G : GX) (Post : Option AV → Mem → Prop) : Array Value → State → Outcome → State → Prop := fun _ st oc t =>
  (∃ (r : Option AV) (M' : Mem), oc = .returned (r.map (cv (gA G))) ∧ Post r M' ∧ okO r ∧ okM M' ∧ Pw G M' t.heap) ∧ va_F (gPool G st.heap.size) st t
def Rn (G : GX) (I : MIx) (Post : Option AV → Mem → Prop) (pc : Nat) (ls : List (Option AV)) (st : List AV) (M : Mem) : Prop :=
  ∀ (p : Program) (e : Env) (s : State) (m : MethodId) (args : Array Value) (below : List Frame) (meth : Method) (c : Code), Cx G I p s m args meth c →
  ∀ (H : Heap) (locs : List Loc) (lsA : Array Slot), Pw G M H → va_S (gPool G s.heap.size) s.heap H locs → lv_has lsA I.2.2.1 (lvL (gA G) 0 ls) → okM M → okLs ls → okVs st →
  W p G.1 e I.2.2.2.2 s m args below meth c H locs 0 0 (MQ below (QcM G Post) args s 0 0 (gPool G s.heap.size)) (F0 m pc lsA (st.map (cv (gA G))))
section RULES
variable {G : GX} {I : MIx} {Post : Option AV → Mem → Prop} {pc : Nat} {ls : List (Option AV)} {st : List AV} {M : Mem}
theorem Rn.iconst {n : Int} {v : Int32} (hd : decode I.1 pc = .ok (.iconst n, 1)) (hv : Int32.ofInt n = v) (k : Rn G I Post (pc + 1) ls (vI v :: st) M) : Rn G I Post pc ls (st) M :=
  fun p e s m args below meth c hc H locs lsA hP hS hL hM hLs hSt => lv_iconst hc.1 hc.2.1 hd hv (k p e s m args below meth c hc H locs lsA hP hS hL hM hLs (hSt.I _))
theorem Rn.bipush {n : Int} {v : Int32} (hd : decode I.1 pc = .ok (.bipush n, 2)) (hv : (Int8.ofInt n).toInt32 = v) (k : Rn G I Post (pc + 2) ls (vI v :: st) M) : Rn G I Post pc ls (st) M :=
  fun p e s m args below meth c hc H locs lsA hP hS hL hM hLs hSt => lv_bipush hc.1 hc.2.1 hd hv (k p e s m args below meth c hc H locs lsA hP hS hL hM hLs (hSt.I _))
theorem Rn.sipush {n : Int} {v : Int32} (hd : decode I.1 pc = .ok (.sipush n, 3)) (hv : (Int16.ofInt n).toInt32 = v) (k : Rn G I Post (pc + 3) ls (vI v :: st) M) : Rn G I Post pc ls (st) M :=
  fun p e s m args below meth c hc H locs lsA hP hS hL hM hLs hSt => lv_sipush hc.1 hc.2.1 hd hv (k p e s m args below meth c hc H locs lsA hP hS hL hM hLs (hSt.I _))
theorem Rn.lconst {n : Fin 2} {v : Int64} (hd : decode I.1 pc = .ok (.lconst n, 1)) (hv : Int64.ofNat (n : Nat) = v) (k : Rn G I Post (pc + 1) ls (vJ v :: st) M) : Rn G I Post pc ls (st) M :=
  fun p e s m args below meth c hc H locs lsA hP hS hL hM hLs hSt => lv_lconst hc.1 hc.2.1 hd hv (k p e s m args below meth c hc H locs lsA hP hS hL hM hLs (hSt.J _))
theorem Rn.iadd {x y : Int32} (hd : decode I.1 pc = .ok (.iadd, 1)) (k : Rn G I Post (pc + 1) ls (vI (x + y) :: st) M) : Rn G I Post pc ls (vI y :: vI x :: st) M :=
  fun p e s m args below meth c hc H locs lsA hP hS hL hM hLs hSt => lv_iadd hc.1 hc.2.1 hd (k p e s m args below meth c hc H locs lsA hP hS hL hM hLs (hSt.d.d.I _))
theorem Rn.isub {x y : Int32} (hd : decode I.1 pc = .ok (.isub, 1)) (k : Rn G I Post (pc + 1) ls (vI (x - y) :: st) M) : Rn G I Post pc ls (vI y :: vI x :: st) M :=
  fun p e s m args below meth c hc H locs lsA hP hS hL hM hLs hSt => lv_isub hc.1 hc.2.1 hd (k p e s m args below meth c hc H locs lsA hP hS hL hM hLs (hSt.d.d.I _))
theorem Rn.imul {x y : Int32} (hd : decode I.1 pc = .ok (.imul, 1)) (k : Rn G I Post (pc + 1) ls (vI (x * y) :: st) M) : Rn G I Post pc ls (vI y :: vI x :: st) M :=
  fun p e s m args below meth c hc H locs lsA hP hS hL hM hLs hSt => lv_imul hc.1 hc.2.1 hd (k p e s m args below meth c hc H locs lsA hP hS hL hM hLs (hSt.d.d.I _))
theorem Rn.iand {x y : Int32} (hd : decode I.1 pc = .ok (.iand, 1)) (k : Rn G I Post (pc + 1) ls (vI (x &&& y) :: st) M) : Rn G I Post pc ls (vI y :: vI x :: st) M :=
  fun p e s m args below meth c hc H locs lsA hP hS hL hM hLs hSt => lv_iand hc.1 hc.2.1 hd (k p e s m args below meth c hc H locs lsA hP hS hL hM hLs (hSt.d.d.I _))
theorem Rn.ior {x y : Int32} (hd : decode I.1 pc = .ok (.ior, 1)) (k : Rn G I Post (pc + 1) ls (vI (x ||| y) :: st) M) : Rn G I Post pc ls (vI y :: vI x :: st) M :=
  fun p e s m args below meth c hc H locs lsA hP hS hL hM hLs hSt => lv_ior hc.1 hc.2.1 hd (k p e s m args below meth c hc H locs lsA hP hS hL hM hLs (hSt.d.d.I _))
theorem Rn.ixor {x y : Int32} (hd : decode I.1 pc = .ok (.ixor, 1)) (k : Rn G I Post (pc + 1) ls (vI (x ^^^ y) :: st) M) : Rn G I Post pc ls (vI y :: vI x :: st) M :=
  fun p e s m args below meth c hc H locs lsA hP hS hL hM hLs hSt => lv_ixor hc.1 hc.2.1 hd (k p e s m args below meth c hc H locs lsA hP hS hL hM hLs (hSt.d.d.I _))
theorem Rn.ishl {x y : Int32} (hd : decode I.1 pc = .ok (.ishl, 1)) (k : Rn G I Post (pc + 1) ls (vI (x <<< (y &&& 31)) :: st) M) : Rn G I Post pc ls (vI y :: vI x :: st) M :=
  fun p e s m args below meth c hc H locs lsA hP hS hL hM hLs hSt => lv_ishl hc.1 hc.2.1 hd (k p e s m args below meth c hc H locs lsA hP hS hL hM hLs (hSt.d.d.I _))
theorem Rn.ishr {x y : Int32} (hd : decode I.1 pc = .ok (.ishr, 1)) (k : Rn G I Post (pc + 1) ls (vI (x >>> (y &&& 31)) :: st) M) : Rn G I Post pc ls (vI y :: vI x :: st) M :=
  fun p e s m args below meth c hc H locs lsA hP hS hL hM hLs hSt => lv_ishr hc.1 hc.2.1 hd (k p e s m args below meth c hc H locs lsA hP hS hL hM hLs (hSt.d.d.I _))
theorem Rn.idiv {x y : Int32} (hd : decode I.1 pc = .ok (.idiv, 1)) (hne : ¬ y = 0) (k : Rn G I Post (pc + 1) ls (vI (x / y) :: st) M) : Rn G I Post pc ls (vI y :: vI x :: st) M :=
  fun p e s m args below meth c hc H locs lsA hP hS hL hM hLs hSt => lv_idiv hc.1 hc.2.1 hd hne (k p e s m args below meth c hc H locs lsA hP hS hL hM hLs (hSt.d.d.I _))
theorem Rn.irem {x y : Int32} (hd : decode I.1 pc = .ok (.irem, 1)) (hne : ¬ y = 0) (k : Rn G I Post (pc + 1) ls (vI (x - x / y * y) :: st) M) : Rn G I Post pc ls (vI y :: vI x :: st) M :=
  fun p e s m args below meth c hc H locs lsA hP hS hL hM hLs hSt => lv_irem hc.1 hc.2.1 hd hne (k p e s m args below meth c hc H locs lsA hP hS hL hM hLs (hSt.d.d.I _))
theorem Rn.ineg {x : Int32} (hd : decode I.1 pc = .ok (.ineg, 1)) (k : Rn G I Post (pc + 1) ls (vI (-x) :: st) M) : Rn G I Post pc ls (vI x :: st) M :=
  fun p e s m args below meth c hc H locs lsA hP hS hL hM hLs hSt => lv_ineg hc.1 hc.2.1 hd (k p e s m args below meth c hc H locs lsA hP hS hL hM hLs (hSt.d.I _))
theorem Rn.iushr {x y : Int32} (hd : decode I.1 pc = .ok (.iushr, 1)) (k : Rn G I Post (pc + 1) ls (vI ((x.toUInt32 >>> (y.toUInt32 &&& Int32.toUInt32 31)).toInt32) :: st) M) : Rn G I Post pc ls (vI y :: vI x :: st) M :=
  fun p e s m args below meth c hc H locs lsA hP hS hL hM hLs hSt => lv_iushr hc.1 hc.2.1 hd rfl (k p e s m args below meth c hc H locs lsA hP hS hL hM hLs (hSt.d.d.I _))
theorem Rn.ladd {x y : Int64} (hd : decode I.1 pc = .ok (.ladd, 1)) (k : Rn G I Post (pc + 1) ls (vJ (x + y) :: st) M) : Rn G I Post pc ls (vJ y :: vJ x :: st) M :=
  fun p e s m args below meth c hc H locs lsA hP hS hL hM hLs hSt => lv_ladd hc.1 hc.2.1 hd (k p e s m args below meth c hc H locs lsA hP hS hL hM hLs (hSt.d.d.J _))
theorem Rn.lsub {x y : Int64} (hd : decode I.1 pc = .ok (.lsub, 1)) (k : Rn G I Post (pc + 1) ls (vJ (x - y) :: st) M) : Rn G I Post pc ls (vJ y :: vJ x :: st) M :=
  fun p e s m args below meth c hc H locs lsA hP hS hL hM hLs hSt => lv_lsub hc.1 hc.2.1 hd (k p e s m args below meth c hc H locs lsA hP hS hL hM hLs (hSt.d.d.J _))
theorem Rn.land {x y : Int64} (hd : decode I.1 pc = .ok (.land, 1)) (k : Rn G I Post (pc + 1) ls (vJ (x &&& y) :: st) M) : Rn G I Post pc ls (vJ y :: vJ x :: st) M :=
  fun p e s m args below meth c hc H locs lsA hP hS hL hM hLs hSt => lv_land hc.1 hc.2.1 hd (k p e s m args below meth c hc H locs lsA hP hS hL hM hLs (hSt.d.d.J _))
theorem Rn.lor {x y : Int64} (hd : decode I.1 pc = .ok (.lor, 1)) (k : Rn G I Post (pc + 1) ls (vJ (x ||| y) :: st) M) : Rn G I Post pc ls (vJ y :: vJ x :: st) M :=
  fun p e s m args below meth c hc H locs lsA hP hS hL hM hLs hSt => lv_lor hc.1 hc.2.1 hd (k p e s m args below meth c hc H locs lsA hP hS hL hM hLs (hSt.d.d.J _))
theorem Rn.lneg {x : Int64} (hd : decode I.1 pc = .ok (.lneg, 1)) (k : Rn G I Post (pc + 1) ls (vJ (-x) :: st) M) : Rn G I Post pc ls (vJ x :: st) M :=
  fun p e s m args below meth c hc H locs lsA hP hS hL hM hLs hSt => lv_lneg hc.1 hc.2.1 hd (k p e s m args below meth c hc H locs lsA hP hS hL hM hLs (hSt.d.J _))
theorem Rn.lshl {x : Int64} {y : Int32} (hd : decode I.1 pc = .ok (.lshl, 1)) (k : Rn G I Post (pc + 1) ls (vJ (x <<< (y.toInt64 &&& 63)) :: st) M) : Rn G I Post pc ls (vI y :: vJ x :: st) M :=
  fun p e s m args below meth c hc H locs lsA hP hS hL hM hLs hSt => lv_lshl hc.1 hc.2.1 hd rfl (k p e s m args below meth c hc H locs lsA hP hS hL hM hLs (hSt.d.d.J _))
theorem Rn.lshr {x : Int64} {y : Int32} (hd : decode I.1 pc = .ok (.lshr, 1)) (k : Rn G I Post (pc + 1) ls (vJ (x >>> (y.toInt64 &&& 63)) :: st) M) : Rn G I Post pc ls (vI y :: vJ x :: st) M :=
  fun p e s m args below meth c hc H locs lsA hP hS hL hM hLs hSt => lv_lshr hc.1 hc.2.1 hd rfl (k p e s m args below meth c hc H locs lsA hP hS hL hM hLs (hSt.d.d.J _))
theorem Rn.lcmp {x y : Int64} (hd : decode I.1 pc = .ok (.lcmp, 1)) (k : Rn G I Post (pc + 1) ls (vI (lg_cmp x y) :: st) M) : Rn G I Post pc ls (vJ y :: vJ x :: st) M :=
  fun p e s m args below meth c hc H locs lsA hP hS hL hM hLs hSt => W.lcmp hc.1 hc.2.1 hd (k p e s m args below meth c hc H locs lsA hP hS hL hM hLs (hSt.d.d.I _))
theorem Rn.i2l {x : Int32} (hd : decode I.1 pc = .ok (.i2l, 1)) (k : Rn G I Post (pc + 1) ls (vJ x.toInt64 :: st) M) : Rn G I Post pc ls (vI x :: st) M :=
  fun p e s m args below meth c hc H locs lsA hP hS hL hM hLs hSt => lv_i2l hc.1 hc.2.1 hd rfl (k p e s m args below meth c hc H locs lsA hP hS hL hM hLs (hSt.d.J _))
theorem Rn.l2i {x : Int64} (hd : decode I.1 pc = .ok (.l2i, 1)) (k : Rn G I Post (pc + 1) ls (vI x.toInt32 :: st) M) : Rn G I Post pc ls (vJ x :: st) M :=
  fun p e s m args below meth c hc H locs lsA hP hS hL hM hLs hSt => lv_l2i hc.1 hc.2.1 hd rfl (k p e s m args below meth c hc H locs lsA hP hS hL hM hLs (hSt.d.I _))
theorem Rn.i2b {x : Int32} (hd : decode I.1 pc = .ok (.i2b, 1)) (k : Rn G I Post (pc + 1) ls (vI x.toInt8.toInt32 :: st) M) : Rn G I Post pc ls (vI x :: st) M :=
  fun p e s m args below meth c hc H locs lsA hP hS hL hM hLs hSt => lv_i2b hc.1 hc.2.1 hd rfl (k p e s m args below meth c hc H locs lsA hP hS hL hM hLs (hSt.d.I _))
theorem Rn.i2c {x : Int32} (hd : decode I.1 pc = .ok (.i2c, 1)) (k : Rn G I Post (pc + 1) ls (vI (x.toUInt32 % 65536).toInt32 :: st) M) : Rn G I Post pc ls (vI x :: st) M :=
  fun p e s m args below meth c hc H locs lsA hP hS hL hM hLs hSt => lv_i2c hc.1 hc.2.1 hd rfl (k p e s m args below meth c hc H locs lsA hP hS hL hM hLs (hSt.d.I _))
theorem cv_i {G : GX} (x : Int32) : cv (gA G) (vI x) = .int x := rfl
theorem Rn.iload_n {x : Int32} {i : Nat} {k : Fin 4} (hd : decode I.1 pc = .ok (.iload_n k, 1)) (hi : (k : Nat) = i) (hl : ls[i]? = some (some (vI x))) (k9 : Rn G I Post (pc + 1) ls (vI x :: st) M) : Rn G I Post pc ls st M :=
  fun p e s m args below meth c hc H locs lsA hP hS hL hM hLs hSt => lv_iload_n hc.1 hc.2.1 hd hi (lvAt hL hl) (k9 p e s m args below meth c hc H locs lsA hP hS hL hM hLs (okVs.c (hLs _ _ hl) hSt))
theorem Rn.iload {x : Int32} {i : Nat} (hd : decode I.1 pc = .ok (.iload i, 2)) (hl : ls[i]? = some (some (vI x))) (k9 : Rn G I Post (pc + 2) ls (vI x :: st) M) : Rn G I Post pc ls st M :=
  fun p e s m args below meth c hc H locs lsA hP hS hL hM hLs hSt => lv_iload hc.1 hc.2.1 hd (lvAt hL hl) (k9 p e s m args below meth c hc H locs lsA hP hS hL hM hLs (okVs.c (hLs _ _ hl) hSt))
theorem Rn.lload_n {x : Int64} {i : Nat} {k : Fin 4} (hd : decode I.1 pc = .ok (.lload_n k, 1)) (hi : (k : Nat) = i) (hl : ls[i]? = some (some (vJ x))) (k9 : Rn G I Post (pc + 1) ls (vJ x :: st) M) : Rn G I Post pc ls st M :=
  fun p e s m args below meth c hc H locs lsA hP hS hL hM hLs hSt => lv_lload_n hc.1 hc.2.1 hd hi (lvAt hL hl) (k9 p e s m args below meth c hc H locs lsA hP hS hL hM hLs (okVs.c (hLs _ _ hl) hSt))
theorem Rn.lload {x : Int64} {i : Nat} (hd : decode I.1 pc = .ok (.lload i, 2)) (hl : ls[i]? = some (some (vJ x))) (k9 : Rn G I Post (pc + 2) ls (vJ x :: st) M) : Rn G I Post pc ls st M :=
  fun p e s m args below meth c hc H locs lsA hP hS hL hM hLs hSt => lv_lload hc.1 hc.2.1 hd (lvAt hL hl) (k9 p e s m args below meth c hc H locs lsA hP hS hL hM hLs (okVs.c (hLs _ _ hl) hSt))
theorem Rn.aload_n {r j : Nat} {i : Nat} {k : Fin 4} (hd : decode I.1 pc = .ok (.aload_n k, 1)) (hi : (k : Nat) = i) (hl : ls[i]? = some (some (vR r j))) (k9 : Rn G I Post (pc + 1) ls (vR r j :: st) M) : Rn G I Post pc ls st M :=
  fun p e s m args below meth c hc H locs lsA hP hS hL hM hLs hSt => lv_aload_n hc.1 hc.2.1 hd hi (lvAt hL hl) (k9 p e s m args below meth c hc H locs lsA hP hS hL hM hLs (okVs.c (hLs _ _ hl) hSt))
theorem Rn.aload_nN {i : Nat} {k : Fin 4} (hd : decode I.1 pc = .ok (.aload_n k, 1)) (hi : (k : Nat) = i) (hl : ls[i]? = some (some vN)) (k9 : Rn G I Post (pc + 1) ls (vN :: st) M) : Rn G I Post pc ls st M :=
  fun p e s m args below meth c hc H locs lsA hP hS hL hM hLs hSt => lv_aload_nN hc.1 hc.2.1 hd hi (lvAt hL hl) (k9 p e s m args below meth c hc H locs lsA hP hS hL hM hLs (okVs.c (hLs _ _ hl) hSt))
theorem Rn.aload {r j : Nat} {i : Nat} (hd : decode I.1 pc = .ok (.aload i, 2)) (hl : ls[i]? = some (some (vR r j))) (k9 : Rn G I Post (pc + 2) ls (vR r j :: st) M) : Rn G I Post pc ls st M :=
  fun p e s m args below meth c hc H locs lsA hP hS hL hM hLs hSt => lv_aload hc.1 hc.2.1 hd (lvAt hL hl) (k9 p e s m args below meth c hc H locs lsA hP hS hL hM hLs (okVs.c (hLs _ _ hl) hSt))
theorem Rn.aloadN {i : Nat} (hd : decode I.1 pc = .ok (.aload i, 2)) (hl : ls[i]? = some (some vN)) (k9 : Rn G I Post (pc + 2) ls (vN :: st) M) : Rn G I Post pc ls st M :=
  fun p e s m args below meth c hc H locs lsA hP hS hL hM hLs hSt => lv_aloadN hc.1 hc.2.1 hd (lvAt hL hl) (k9 p e s m args below meth c hc H locs lsA hP hS hL hM hLs (okVs.c (hLs _ _ hl) hSt))
theorem Rn.istore_n {x : Int32} {i : Nat} {ls' : List (Option AV)} {k : Fin 4} (hd : decode I.1 pc = .ok (.istore_n k, 1)) (hi : (k : Nat) = i) (hn : i < I.2.2.1) (hp : notL ls i = true) (hl : ls.set i (some (vI x)) = ls') (k9 : Rn G I Post (pc + 1) ls' st M) : Rn G I Post pc ls (vI x :: st) M :=
  fun p e s m args below meth c hc H locs lsA hP hS hL hM hLs hSt => lv_istore_n hc.1 hc.2.1 hd hi hL hn rfl (fun lsB hB => k9 p e s m args below meth c hc H locs lsB hP hS (hl ▸ lvSet1 (v := vI x) hp lsB hB) hM (hl ▸ hLs.set hSt.hd) hSt.d)
theorem Rn.istore {x : Int32} {i : Nat} {ls' : List (Option AV)} (hd : decode I.1 pc = .ok (.istore i, 2)) (hn : i < I.2.2.1) (hp : notL ls i = true) (hl : ls.set i (some (vI x)) = ls') (k9 : Rn G I Post (pc + 2) ls' st M) : Rn G I Post pc ls (vI x :: st) M :=
  fun p e s m args below meth c hc H locs lsA hP hS hL hM hLs hSt => lv_istore hc.1 hc.2.1 hd hL hn rfl (fun lsB hB => k9 p e s m args below meth c hc H locs lsB hP hS (hl ▸ lvSet1 (v := vI x) hp lsB hB) hM (hl ▸ hLs.set hSt.hd) hSt.d)
theorem Rn.astore_n {r j : Nat} {i : Nat} {ls' : List (Option AV)} {k : Fin 4} (hd : decode I.1 pc = .ok (.astore_n k, 1)) (hi : (k : Nat) = i) (hn : i < I.2.2.1) (hp : notL ls i = true) (hl : ls.set i (some (vR r j)) = ls') (k9 : Rn G I Post (pc + 1) ls' st M) : Rn G I Post pc ls (vR r j :: st) M :=
  fun p e s m args below meth c hc H locs lsA hP hS hL hM hLs hSt => lv_astore_n hc.1 hc.2.1 hd hi hL hn rfl (fun lsB hB => k9 p e s m args below meth c hc H locs lsB hP hS (hl ▸ lvSet1 (v := vR r j) hp lsB hB) hM (hl ▸ hLs.set hSt.hd) hSt.d)
theorem Rn.astore {r j : Nat} {i : Nat} {ls' : List (Option AV)} (hd : decode I.1 pc = .ok (.astore i, 2)) (hn : i < I.2.2.1) (hp : notL ls i = true) (hl : ls.set i (some (vR r j)) = ls') (k9 : Rn G I Post (pc + 2) ls' st M) : Rn G I Post pc ls (vR r j :: st) M :=
  fun p e s m args below meth c hc H locs lsA hP hS hL hM hLs hSt => lv_astore hc.1 hc.2.1 hd hL hn rfl (fun lsB hB => k9 p e s m args below meth c hc H locs lsB hP hS (hl ▸ lvSet1 (v := vR r j) hp lsB hB) hM (hl ▸ hLs.set hSt.hd) hSt.d)
theorem Rn.astore_nN {i : Nat} {ls' : List (Option AV)} {k : Fin 4} (hd : decode I.1 pc = .ok (.astore_n k, 1)) (hi : (k : Nat) = i) (hn : i < I.2.2.1) (hp : notL ls i = true) (hl : ls.set i (some vN) = ls') (k9 : Rn G I Post (pc + 1) ls' st M) : Rn G I Post pc ls (vN :: st) M :=
  fun p e s m args below meth c hc H locs lsA hP hS hL hM hLs hSt => lv_astore_nN hc.1 hc.2.1 hd hi hL hn rfl (fun lsB hB => k9 p e s m args below meth c hc H locs lsB hP hS (hl ▸ lvSet1 (v := vN) hp lsB hB) hM (hl ▸ hLs.set hSt.hd) hSt.d)
theorem Rn.astoreN {i : Nat} {ls' : List (Option AV)} (hd : decode I.1 pc = .ok (.astore i, 2)) (hn : i < I.2.2.1) (hp : notL ls i = true) (hl : ls.set i (some vN) = ls') (k9 : Rn G I Post (pc + 2) ls' st M) : Rn G I Post pc ls (vN :: st) M :=
  fun p e s m args below meth c hc H locs lsA hP hS hL hM hLs hSt => lv_astoreN hc.1 hc.2.1 hd hL hn rfl (fun lsB hB => k9 p e s m args below meth c hc H locs lsB hP hS (hl ▸ lvSet1 (v := vN) hp lsB hB) hM (hl ▸ hLs.set hSt.hd) hSt.d)
theorem Rn.lstore_n {x : Int64} {i : Nat} {ls' : List (Option AV)} {k : Fin 4} (hd : decode I.1 pc = .ok (.lstore_n k, 1)) (hi : (k : Nat) = i) (hn : i + 1 < I.2.2.1) (hp : notL ls i = true) (hl : (ls.set i (some (vJ x))).set (i + 1) none = ls') (k9 : Rn G I Post (pc + 1) ls' st M) : Rn G I Post pc ls (vJ x :: st) M :=
  fun p e s m args below meth c hc H locs lsA hP hS hL hM hLs hSt => lv_lstore_n hc.1 hc.2.1 hd hi hL hn rfl (fun lsB hB => k9 p e s m args below meth c hc H locs lsB hP hS (hl ▸ lvSet2 (v := vJ x) hp lsB hB) hM (hl ▸ (hLs.set hSt.hd).set0) hSt.d)
theorem Rn.lstore {x : Int64} {i : Nat} {ls' : List (Option AV)} (hd : decode I.1 pc = .ok (.lstore i, 2)) (hn : i + 1 < I.2.2.1) (hp : notL ls i = true) (hl : (ls.set i (some (vJ x))).set (i + 1) none = ls') (k9 : Rn G I Post (pc + 2) ls' st M) : Rn G I Post pc ls (vJ x :: st) M :=
  fun p e s m args below meth c hc H locs lsA hP hS hL hM hLs hSt => lv_lstore hc.1 hc.2.1 hd hL hn rfl (fun lsB hB => k9 p e s m args below meth c hc H locs lsB hP hS (hl ▸ lvSet2 (v := vJ x) hp lsB hB) hM (hl ▸ (hLs.set hSt.hd).set0) hSt.d)
theorem Rn.iaddN {x y : Nat} (hd : decode I.1 pc = .ok (.iadd, 1)) (k : Rn G I Post (pc + 1) ls (vI (nI (x + y)) :: st) M) : Rn G I Post pc ls (vI (nI y) :: vI (nI x) :: st) M := Rn.iadd hd (by rw [nI_add]; exact k)
theorem Rn.imulN {x y : Nat} (hd : decode I.1 pc = .ok (.imul, 1)) (k : Rn G I Post (pc + 1) ls (vI (nI (x * y)) :: st) M) : Rn G I Post pc ls (vI (nI y) :: vI (nI x) :: st) M := Rn.imul hd (by rw [pk_mul]; exact k)
theorem Rn.iinc {x v : Int32} {n : Int} {i : Nat} {ls' : List (Option AV)} (hd : decode I.1 pc = .ok (.iinc i n, 3)) (hx : ls[i]? = some (some (vI x))) (hv : x + Int32.ofInt n = v) (hn : i < I.2.2.1) (hp : notL ls i = true) (hl : ls.set i (some (vI v)) = ls') (k9 : Rn G I Post (pc + 3) ls' st M) : Rn G I Post pc ls st M := by
  intro p e s m args below meth c hc H locs lsA hP hS hL hM hLs hSt
  obtain ⟨q, hq⟩ := List.getElem?_of_mem (mem_lvL.mpr ⟨i, _, hx, by rw [Nat.zero_add]⟩ : (i, cv (gA G) (vI x)) ∈ lvL (gA G) 0 ls)
  exact lv_iinc (k := q) hc.1 hc.2.1 hd hL hq hv hn rfl (fun lsB hB => k9 p e s m args below meth c hc H locs lsB hP hS (hl ▸ lvSet1 (v := vI v) hp lsB hB) hM (hl ▸ hLs.set (v := vI v) trivial) hSt)
theorem Rn.dupI {x y : Int32} {r j : Nat} (hd : decode I.1 pc = .ok (.dup, 1)) (k : Rn G I Post (pc + 1) ls (vI x :: vI x :: st) M) : Rn G I Post pc ls (vI x :: st) M :=
  fun p e s m args below meth c hc H locs lsA hP hS hL hM hLs hSt => lv_dup hc.1 hc.2.1 hd rfl (k p e s m args below meth c hc H locs lsA hP hS hL hM hLs (hSt.I _))
theorem Rn.dupR {x y : Int32} {r j : Nat} (hd : decode I.1 pc = .ok (.dup, 1)) (k : Rn G I Post (pc + 1) ls (vR r j :: vR r j :: st) M) : Rn G I Post pc ls (vR r j :: st) M :=
  fun p e s m args below meth c hc H locs lsA hP hS hL hM hLs hSt => lv_dup hc.1 hc.2.1 hd rfl (k p e s m args below meth c hc H locs lsA hP hS hL hM hLs (okVs.c hSt.hd hSt))
theorem Rn.popI {x y : Int32} {r j : Nat} (hd : decode I.1 pc = .ok (.pop, 1)) (k : Rn G I Post (pc + 1) ls (st) M) : Rn G I Post pc ls (vI x :: st) M :=
  fun p e s m args below meth c hc H locs lsA hP hS hL hM hLs hSt => lv_pop hc.1 hc.2.1 hd rfl (k p e s m args below meth c hc H locs lsA hP hS hL hM hLs hSt.d)
theorem Rn.dup_x1I {x y : Int32} {r j : Nat} (hd : decode I.1 pc = .ok (.dup_x1, 1)) (k : Rn G I Post (pc + 1) ls (vI x :: vR r j :: vI x :: st) M) : Rn G I Post pc ls (vI x :: vR r j :: st) M :=
  fun p e s m args below meth c hc H locs lsA hP hS hL hM hLs hSt => lv_dup_x1 hc.1 hc.2.1 hd rfl rfl (k p e s m args below meth c hc H locs lsA hP hS hL hM hLs ((okVs.c hSt.d.hd (hSt.d.d.I _)).I _))
theorem Rn.dup_x2I {x y : Int32} {r j : Nat} (hd : decode I.1 pc = .ok (.dup_x2, 1)) (k : Rn G I Post (pc + 1) ls (vI x :: vI y :: vR r j :: vI x :: st) M) : Rn G I Post pc ls (vI x :: vI y :: vR r j :: st) M :=
  fun p e s m args below meth c hc H locs lsA hP hS hL hM hLs hSt => lv_dup_x2 hc.1 hc.2.1 hd rfl rfl rfl (k p e s m args below meth c hc H locs lsA hP hS hL hM hLs (((okVs.c hSt.d.d.hd (hSt.d.d.d.I _)).I _).I _))
theorem Rn.dup2IR {x y : Int32} {r j : Nat} (hd : decode I.1 pc = .ok (.dup2, 1)) (k : Rn G I Post (pc + 1) ls (vI x :: vR r j :: vI x :: vR r j :: st) M) : Rn G I Post pc ls (vI x :: vR r j :: st) M :=
  fun p e s m args below meth c hc H locs lsA hP hS hL hM hLs hSt => lv_dup2_11 hc.1 hc.2.1 hd rfl rfl (k p e s m args below meth c hc H locs lsA hP hS hL hM hLs ((okVs.c hSt.d.hd hSt).I _))
theorem Rn.if_eq {x y : Int32} {off : Int} {tgt : Nat} (hd : decode I.1 pc = .ok (.ifCond .eq off, 3)) (ht : (pc : Int) + off = (tgt : Int)) (kt : x = 0 → Rn G I Post tgt ls st M) (kf : ¬ x = 0 → Rn G I Post (pc + 3) ls st M) : Rn G I Post pc ls (vI x :: st) M :=
  fun p e s m args below meth c hc H locs lsA hP hS hL hM hLs hSt => lv_if_eq hc.1 hc.2.1 hd ht (fun h9 => kt h9 p e s m args below meth c hc H locs lsA hP hS hL hM hLs hSt.d) (fun h9 => kf h9 p e s m args below meth c hc H locs lsA hP hS hL hM hLs hSt.d)
theorem Rn.icmp_eq {x y : Int32} {off : Int} {tgt : Nat} (hd : decode I.1 pc = .ok (.if_icmp .eq off, 3)) (ht : (pc : Int) + off = (tgt : Int)) (kt : x = y → Rn G I Post tgt ls st M) (kf : ¬ x = y → Rn G I Post (pc + 3) ls st M) : Rn G I Post pc ls (vI y :: vI x :: st) M :=
  fun p e s m args below meth c hc H locs lsA hP hS hL hM hLs hSt => lv_icmp_eq hc.1 hc.2.1 hd ht (fun h9 => kt h9 p e s m args below meth c hc H locs lsA hP hS hL hM hLs hSt.d.d) (fun h9 => kf h9 p e s m args below meth c hc H locs lsA hP hS hL hM hLs hSt.d.d)
theorem Rn.if_ne {x y : Int32} {off : Int} {tgt : Nat} (hd : decode I.1 pc = .ok (.ifCond .ne off, 3)) (ht : (pc : Int) + off = (tgt : Int)) (kt : ¬ x = 0 → Rn G I Post tgt ls st M) (kf : x = 0 → Rn G I Post (pc + 3) ls st M) : Rn G I Post pc ls (vI x :: st) M :=
  fun p e s m args below meth c hc H locs lsA hP hS hL hM hLs hSt => lv_if_ne hc.1 hc.2.1 hd ht (fun h9 => kt h9 p e s m args below meth c hc H locs lsA hP hS hL hM hLs hSt.d) (fun h9 => kf h9 p e s m args below meth c hc H locs lsA hP hS hL hM hLs hSt.d)
theorem Rn.icmp_ne {x y : Int32} {off : Int} {tgt : Nat} (hd : decode I.1 pc = .ok (.if_icmp .ne off, 3)) (ht : (pc : Int) + off = (tgt : Int)) (kt : ¬ x = y → Rn G I Post tgt ls st M) (kf : x = y → Rn G I Post (pc + 3) ls st M) : Rn G I Post pc ls (vI y :: vI x :: st) M :=
  fun p e s m args below meth c hc H locs lsA hP hS hL hM hLs hSt => lv_icmp_ne hc.1 hc.2.1 hd ht (fun h9 => kt h9 p e s m args below meth c hc H locs lsA hP hS hL hM hLs hSt.d.d) (fun h9 => kf h9 p e s m args below meth c hc H locs lsA hP hS hL hM hLs hSt.d.d)
theorem Rn.if_lt {x y : Int32} {off : Int} {tgt : Nat} (hd : decode I.1 pc = .ok (.ifCond .lt off, 3)) (ht : (pc : Int) + off = (tgt : Int)) (kt : x < 0 → Rn G I Post tgt ls st M) (kf : ¬ x < 0 → Rn G I Post (pc + 3) ls st M) : Rn G I Post pc ls (vI x :: st) M :=
  fun p e s m args below meth c hc H locs lsA hP hS hL hM hLs hSt => lv_if_lt hc.1 hc.2.1 hd ht (fun h9 => kt h9 p e s m args below meth c hc H locs lsA hP hS hL hM hLs hSt.d) (fun h9 => kf h9 p e s m args below meth c hc H locs lsA hP hS hL hM hLs hSt.d)
theorem Rn.icmp_lt {x y : Int32} {off : Int} {tgt : Nat} (hd : decode I.1 pc = .ok (.if_icmp .lt off, 3)) (ht : (pc : Int) + off = (tgt : Int)) (kt : x < y → Rn G I Post tgt ls st M) (kf : ¬ x < y → Rn G I Post (pc + 3) ls st M) : Rn G I Post pc ls (vI y :: vI x :: st) M :=
  fun p e s m args below meth c hc H locs lsA hP hS hL hM hLs hSt => lv_icmp_lt hc.1 hc.2.1 hd ht (fun h9 => kt h9 p e s m args below meth c hc H locs lsA hP hS hL hM hLs hSt.d.d) (fun h9 => kf h9 p e s m args below meth c hc H locs lsA hP hS hL hM hLs hSt.d.d)
theorem Rn.if_ge {x y : Int32} {off : Int} {tgt : Nat} (hd : decode I.1 pc = .ok (.ifCond .ge off, 3)) (ht : (pc : Int) + off = (tgt : Int)) (kt : 0 ≤ x → Rn G I Post tgt ls st M) (kf : ¬ 0 ≤ x → Rn G I Post (pc + 3) ls st M) : Rn G I Post pc ls (vI x :: st) M :=
  fun p e s m args below meth c hc H locs lsA hP hS hL hM hLs hSt => lv_if_ge hc.1 hc.2.1 hd ht (fun h9 => kt h9 p e s m args below meth c hc H locs lsA hP hS hL hM hLs hSt.d) (fun h9 => kf h9 p e s m args below meth c hc H locs lsA hP hS hL hM hLs hSt.d)
theorem Rn.icmp_ge {x y : Int32} {off : Int} {tgt : Nat} (hd : decode I.1 pc = .ok (.if_icmp .ge off, 3)) (ht : (pc : Int) + off = (tgt : Int)) (kt : y ≤ x → Rn G I Post tgt ls st M) (kf : ¬ y ≤ x → Rn G I Post (pc + 3) ls st M) : Rn G I Post pc ls (vI y :: vI x :: st) M :=
  fun p e s m args below meth c hc H locs lsA hP hS hL hM hLs hSt => lv_icmp_ge hc.1 hc.2.1 hd ht (fun h9 => kt h9 p e s m args below meth c hc H locs lsA hP hS hL hM hLs hSt.d.d) (fun h9 => kf h9 p e s m args below meth c hc H locs lsA hP hS hL hM hLs hSt.d.d)
theorem Rn.if_gt {x y : Int32} {off : Int} {tgt : Nat} (hd : decode I.1 pc = .ok (.ifCond .gt off, 3)) (ht : (pc : Int) + off = (tgt : Int)) (kt : 0 < x → Rn G I Post tgt ls st M) (kf : ¬ 0 < x → Rn G I Post (pc + 3) ls st M) : Rn G I Post pc ls (vI x :: st) M :=
  fun p e s m args below meth c hc H locs lsA hP hS hL hM hLs hSt => lv_if_gt hc.1 hc.2.1 hd ht (fun h9 => kt h9 p e s m args below meth c hc H locs lsA hP hS hL hM hLs hSt.d) (fun h9 => kf h9 p e s m args below meth c hc H locs lsA hP hS hL hM hLs hSt.d)
theorem Rn.icmp_gt {x y : Int32} {off : Int} {tgt : Nat} (hd : decode I.1 pc = .ok (.if_icmp .gt off, 3)) (ht : (pc : Int) + off = (tgt : Int)) (kt : y < x → Rn G I Post tgt ls st M) (kf : ¬ y < x → Rn G I Post (pc + 3) ls st M) : Rn G I Post pc ls (vI y :: vI x :: st) M :=
  fun p e s m args below meth c hc H locs lsA hP hS hL hM hLs hSt => lv_icmp_gt hc.1 hc.2.1 hd ht (fun h9 => kt h9 p e s m args below meth c hc H locs lsA hP hS hL hM hLs hSt.d.d) (fun h9 => kf h9 p e s m args below meth c hc H locs lsA hP hS hL hM hLs hSt.d.d)
theorem Rn.if_le {x y : Int32} {off : Int} {tgt : Nat} (hd : decode I.1 pc = .ok (.ifCond .le off, 3)) (ht : (pc : Int) + off = (tgt : Int)) (kt : x ≤ 0 → Rn G I Post tgt ls st M) (kf : ¬ x ≤ 0 → Rn G I Post (pc + 3) ls st M) : Rn G I Post pc ls (vI x :: st) M :=
  fun p e s m args below meth c hc H locs lsA hP hS hL hM hLs hSt => lv_if_le hc.1 hc.2.1 hd ht (fun h9 => kt h9 p e s m args below meth c hc H locs lsA hP hS hL hM hLs hSt.d) (fun h9 => kf h9 p e s m args below meth c hc H locs lsA hP hS hL hM hLs hSt.d)
theorem Rn.icmp_le {x y : Int32} {off : Int} {tgt : Nat} (hd : decode I.1 pc = .ok (.if_icmp .le off, 3)) (ht : (pc : Int) + off = (tgt : Int)) (kt : x ≤ y → Rn G I Post tgt ls st M) (kf : ¬ x ≤ y → Rn G I Post (pc + 3) ls st M) : Rn G I Post pc ls (vI y :: vI x :: st) M :=
  fun p e s m args below meth c hc H locs lsA hP hS hL hM hLs hSt => lv_icmp_le hc.1 hc.2.1 hd ht (fun h9 => kt h9 p e s m args below meth c hc H locs lsA hP hS hL hM hLs hSt.d.d) (fun h9 => kf h9 p e s m args below meth c hc H locs lsA hP hS hL hM hLs hSt.d.d)
theorem Rn.iincN {x n : Nat} {i : Nat} {ls' : List (Option AV)} (hd : decode I.1 pc = .ok (.iinc i (n : Int), 3)) (hx : ls[i]? = some (some (vI (nI x)))) (hv : Int32.ofInt (n : Int) = nI n) (hn : i < I.2.2.1) (hp : notL ls i = true) (hl : ls.set i (some (vI (nI (x + n)))) = ls') (k9 : Rn G I Post (pc + 3) ls' st M) : Rn G I Post pc ls st M := Rn.iinc hd hx (by rw [hv, nI_add]) hn hp hl k9
theorem Rn.icmp_eqN {x y : Nat} {off : Int} {tgt : Nat} (hd : decode I.1 pc = .ok (.if_icmp .eq off, 3)) (ht : (pc : Int) + off = (tgt : Int)) (hx : x < 2 ^ 31) (hy : y < 2 ^ 31) (kt : x = y → Rn G I Post tgt ls st M) (kf : ¬ x = y → Rn G I Post (pc + 3) ls st M) : Rn G I Post pc ls (vI (nI y) :: vI (nI x) :: st) M := Rn.icmp_eq hd ht (fun h => kt ((nI_eq hx hy).mp h)) (fun h => kf (fun e => h ((nI_eq hx hy).mpr e)))
theorem Rn.icmp_neN {x y : Nat} {off : Int} {tgt : Nat} (hd : decode I.1 pc = .ok (.if_icmp .ne off, 3)) (ht : (pc : Int) + off = (tgt : Int)) (hx : x < 2 ^ 31) (hy : y < 2 ^ 31) (kt : ¬ x = y → Rn G I Post tgt ls st M) (kf : x = y → Rn G I Post (pc + 3) ls st M) : Rn G I Post pc ls (vI (nI y) :: vI (nI x) :: st) M := Rn.icmp_ne hd ht (fun h => kt (fun e => h ((nI_eq hx hy).mpr e))) (fun h => kf ((nI_eq hx hy).mp h))
theorem Rn.icmp_ltN {x y : Nat} {off : Int} {tgt : Nat} (hd : decode I.1 pc = .ok (.if_icmp .lt off, 3)) (ht : (pc : Int) + off = (tgt : Int)) (hx : x < 2 ^ 31) (hy : y < 2 ^ 31) (kt : x < y → Rn G I Post tgt ls st M) (kf : y ≤ x → Rn G I Post (pc + 3) ls st M) : Rn G I Post pc ls (vI (nI y) :: vI (nI x) :: st) M := Rn.icmp_lt hd ht (fun h => kt ((nI_ltI hx hy).mp h)) (fun h => kf (Nat.not_lt.mp fun e => h ((nI_ltI hx hy).mpr e)))
theorem Rn.icmp_geN {x y : Nat} {off : Int} {tgt : Nat} (hd : decode I.1 pc = .ok (.if_icmp .ge off, 3)) (ht : (pc : Int) + off = (tgt : Int)) (hx : x < 2 ^ 31) (hy : y < 2 ^ 31) (kt : y ≤ x → Rn G I Post tgt ls st M) (kf : x < y → Rn G I Post (pc + 3) ls st M) : Rn G I Post pc ls (vI (nI y) :: vI (nI x) :: st) M := Rn.icmp_ge hd ht (fun h => kt ((nI_leI hy hx).mp h)) (fun h => kf (Nat.not_le.mp fun e => h ((nI_leI hy hx).mpr e)))
theorem Rn.icmp_gtN {x y : Nat} {off : Int} {tgt : Nat} (hd : decode I.1 pc = .ok (.if_icmp .gt off, 3)) (ht : (pc : Int) + off = (tgt : Int)) (hx : x < 2 ^ 31) (hy : y < 2 ^ 31) (kt : y < x → Rn G I Post tgt ls st M) (kf : x ≤ y → Rn G I Post (pc + 3) ls st M) : Rn G I Post pc ls (vI (nI y) :: vI (nI x) :: st) M := Rn.icmp_gt hd ht (fun h => kt ((nI_ltI hy hx).mp h)) (fun h => kf (Nat.not_lt.mp fun e => h ((nI_ltI hy hx).mpr e)))
theorem Rn.icmp_leN {x y : Nat} {off : Int} {tgt : Nat} (hd : decode I.1 pc = .ok (.if_icmp .le off, 3)) (ht : (pc : Int) + off = (tgt : Int)) (hx : x < 2 ^ 31) (hy : y < 2 ^ 31) (kt : x ≤ y → Rn G I Post tgt ls st M) (kf : y < x → Rn G I Post (pc + 3) ls st M) : Rn G I Post pc ls (vI (nI y) :: vI (nI x) :: st) M := Rn.icmp_le hd ht (fun h => kt ((nI_leI hx hy).mp h)) (fun h => kf (Nat.not_le.mp fun e => h ((nI_leI hx hy).mpr e)))
theorem Rn.goto {off : Int} {tgt : Nat} (hd : decode I.1 pc = .ok (.goto off, 3)) (ht : (pc : Int) + off = (tgt : Int)) (k : Rn G I Post tgt ls st M) : Rn G I Post pc ls st M :=
  fun p e s m args below meth c hc H locs lsA hP hS hL hM hLs hSt => lv_goto hc.1 hc.2.1 hd ht (k p e s m args below meth c hc H locs lsA hP hS hL hM hLs hSt)
theorem Rn.ifnonnull {r j : Nat} {off : Int} {tgt : Nat} (hd : decode I.1 pc = .ok (.ifnonnull off, 3)) (ht : (pc : Int) + off = (tgt : Int)) (k : Rn G I Post tgt ls st M) : Rn G I Post pc ls (vR r j :: st) M :=
  fun p e s m args below meth c hc H locs lsA hP hS hL hM hLs hSt => lv_ifnonnull hc.1 hc.2.1 hd ht (k p e s m args below meth c hc H locs lsA hP hS hL hM hLs hSt.d)
theorem Rn.ifnonnullN {off : Int} (hd : decode I.1 pc = .ok (.ifnonnull off, 3)) (k : Rn G I Post (pc + 3) ls st M) : Rn G I Post pc ls (vN :: st) M :=
  fun p e s m args below meth c hc H locs lsA hP hS hL hM hLs hSt => lv_ifnonnullN hc.1 hc.2.1 hd (k p e s m args below meth c hc H locs lsA hP hS hL hM hLs hSt.d)
theorem Rn.null (hd : decode I.1 pc = .ok (.aconst_null, 1)) (k : Rn G I Post (pc + 1) ls (vN :: st) M) : Rn G I Post pc ls st M :=
  fun p e s m args below meth c hc H locs lsA hP hS hL hM hLs hSt => lv_null hc.1 hc.2.1 hd (k p e s m args below meth c hc H locs lsA hP hS hL hM hLs (okVs.c trivial hSt))
theorem Rn.lookup {dflt : Int} {ps : Array (Int × Int)} {len : Nat} {x : Int32} {off : Int} {tgt : Nat} (hd : decode I.1 pc = .ok (.lookupswitch dflt ps, len)) (hp : (ps.toList.zip (ps.toList.drop 1)).all (fun (a, next) => a.1 < next.1) = true) (ho : Op.lookupswitch.offset ps.toList dflt x.toInt = off) (ht : (pc : Int) + off = (tgt : Int)) (k : Rn G I Post tgt ls st M) : Rn G I Post pc ls (vI x :: st) M :=
  fun p e s m args below meth c hc H locs lsA hP hS hL hM hLs hSt => lv_lookup hc.1 hc.2.1 hd hp ho ht (k p e s m args below meth c hc H locs lsA hP hS hL hM hLs hSt.d)
theorem Rn.tableOut {dflt lo hi : Int} {offs : Array Int} {len : Nat} {x : Int32} {tgt : Nat} (hd : decode I.1 pc = .ok (.tableswitch dflt lo hi offs, len)) (h : x.toInt < lo ∨ hi < x.toInt) (ht : (pc : Int) + dflt = (tgt : Int)) (k : Rn G I Post tgt ls st M) : Rn G I Post pc ls (vI x :: st) M :=
  fun p e s m args below meth c hc H locs lsA hP hS hL hM hLs hSt => lv_tableOut hc.1 hc.2.1 hd h ht (k p e s m args below meth c hc H locs lsA hP hS hL hM hLs hSt.d)
theorem Rn.tableIn {dflt lo hi : Int} {offs : Array Int} {len : Nat} {x : Int32} {off : Int} {tgt : Nat} (hd : decode I.1 pc = .ok (.tableswitch dflt lo hi offs, len)) (h1 : ¬ x.toInt < lo) (h2 : ¬ hi < x.toInt) (ho : offs[(x.toInt - lo).toNat]? = some off) (ht : (pc : Int) + off = (tgt : Int)) (k : Rn G I Post tgt ls st M) : Rn G I Post pc ls (vI x :: st) M :=
  fun p e s m args below meth c hc H locs lsA hP hS hL hM hLs hSt => lv_tableIn hc.1 hc.2.1 hd h1 h2 ho ht (k p e s m args below meth c hc H locs lsA hP hS hL hM hLs hSt.d)
theorem Rn.ldc {index : Nat} {v : Int32} (hd : decode I.1 pc = .ok (.ldc index, 2)) (hw : Cond.constant I.2.1 index v ∈ gw_tbl) (k : Rn G I Post (pc + 2) ls (vI v :: st) M) : Rn G I Post pc ls st M :=
  fun p e s m args below meth c hc H locs lsA hP hS hL hM hLs hSt => lv_ldc hc.1 hc.2.1 hc.2.2.2.2.1 (hc.2.2.2.2.2.1 _ hw) hd (k p e s m args below meth c hc H locs lsA hP hS hL hM hLs (hSt.I _))
theorem Rn.ldc2 {index : Nat} {v : Int64} (hd : decode I.1 pc = .ok (.ldc2_w index, 3)) (hw : Cond.constantLong I.2.1 index v ∈ gw_tbl) (k : Rn G I Post (pc + 3) ls (vJ v :: st) M) : Rn G I Post pc ls st M :=
  fun p e s m args below meth c hc H locs lsA hP hS hL hM hLs hSt => lv_ldc2 hc.1 hc.2.1 hc.2.2.2.2.1 (hc.2.2.2.2.2.1 _ hw) hd (k p e s m args below meth c hc H locs lsA hP hS hL hM hLs (hSt.J _))
theorem Rn.ldcS {index j : Nat} {tx : String} (hd : decode I.1 pc = .ok (.ldc index, 2)) (hw : (I.2.1, index, tx, j) ∈ strR) (hj : j < 60) (k : Rn G I Post (pc + 2) ls (vR 52 j :: st) M) : Rn G I Post pc ls st M :=
  fun p e s m args below meth c hc H locs lsA hP hS hL hM hLs hSt => va_ldcS hc.1 hc.2.1 hc.2.2.2.2.1 (hc.2.2.2.2.2.2.2.2.2.1.2.2.2.2.2.2.2.2 _ hw) hd (k p e s m args below meth c hc H locs lsA hP hS hL hM hLs (okVs.c hj hSt))
end RULES
end
section
theorem mI_sI {M : Mem} {k j s k' j' s' : Nat} {v : Int32} : mI (sI M k j s v) k' j' s' = if k' = k ∧ j' = j ∧ s' = s then v else mI M k' j' s' := rfl
theorem mJ_sI {M : Mem} {k j s k' j' s' : Nat} {v : Int32} : mJ (sI M k j s v) k' j' s' = mJ M k' j' s' := rfl
theorem mR_sI {M : Mem} {k j s k' j' s' : Nat} {v : Int32} : mR (sI M k j s v) k' j' s' = mR M k' j' s' := rfl
theorem mI_sJ {M : Mem} {k j s k' j' s' : Nat} {v : Int64} : mI (sJ M k j s v) k' j' s' = mI M k' j' s' := rfl
theorem mJ_sJ {M : Mem} {k j s k' j' s' : Nat} {v : Int64} : mJ (sJ M k j s v) k' j' s' = if k' = k ∧ j' = j ∧ s' = s then v else mJ M k' j' s' := rfl
theorem mR_sJ {M : Mem} {k j s k' j' s' : Nat} {v : Int64} : mR (sJ M k j s v) k' j' s' = mR M k' j' s' := rfl
theorem mI_sR {M : Mem} {k j s k' j' s' : Nat} {v : Nat} : mI (sR M k j s v) k' j' s' = mI M k' j' s' := rfl
theorem mJ_sR {M : Mem} {k j s k' j' s' : Nat} {v : Nat} : mJ (sR M k j s v) k' j' s' = mJ M k' j' s' := rfl
theorem mR_sR {M : Mem} {k j s k' j' s' : Nat} {v : Nat} : mR (sR M k j s v) k' j' s' = if k' = k ∧ j' = j ∧ s' = s then v else mR M k' j' s' := rfl
theorem okM.I {M : Mem} (h : okM M) (k j s : Nat) (v : Int32) : okM (sI M k j s v) := h
theorem okM.J {M : Mem} (h : okM M) (k j s : Nat) (v : Int64) : okM (sJ M k j s v) := h
theorem okM.R {M : Mem} (h : okM M) {k j s v t : Nat} (hc : slotC k s = t + 2) (hm : mutR k s = true) (hv : v < kCnt t) : okM (sR M k j s v) := by
  intro k' j' s' t' h1 h0 h2
  rw [mR_sR]
  split
  · rename_i h3
    obtain ⟨rfl, rfl, rfl⟩ := h3
    rw [hc] at h2
    have : t = t' := by omega
    subst this
    exact ⟨hv, fun e => by rw [hm] at e; cases e⟩
  · exact h k' j' s' t' h1 h0 h2
theorem nd_inj {α : Type} {l : List α} (h : l.Nodup) {i j : Nat} {a : α} (hi : l[i]? = some a) (hj : l[j]? = some a) : i = j := by
  obtain ⟨h1, e1⟩ := List.getElem?_eq_some_iff.mp hi
  obtain ⟨h2, e2⟩ := List.getElem?_eq_some_iff.mp hj
  rcases Nat.lt_trichotomy i j with q | q | q
  · exact absurd (e1.trans e2.symm) (List.pairwise_iff_getElem.mp h i j h1 h2 q)
  · exact q
  · exact absurd (e2.trans e1.symm) (List.pairwise_iff_getElem.mp h j i h2 h1 q)
theorem wsM_at {G : GX} {M : Mem} {k j : Nat} (h : (k, j) ∈ PL) : ∃ i : Nat, PL[i]? = some (k, j) ∧ (wsM G M)[i]? = some (gA G k j, cellE G M k j) := by
  obtain ⟨i, hi⟩ := List.getElem?_of_mem h
  exact ⟨i, hi, by unfold wsM; rw [List.getElem?_map, hi]; rfl⟩
theorem wsM_set {G : GX} {M M' : Mem} {i k j : Nat} (hi : PL[i]? = some (k, j)) (he : ∀ k' j', ¬ (k' = k ∧ j' = j) → cellE G M' k' j' = cellE G M k' j') : (wsM G M).set i (gA G k j, cellE G M' k j) = wsM G M' := by
  apply List.ext_getElem?
  intro n
  rw [List.getElem?_set]
  by_cases h : i = n
  · subst h
    have hl : i < (wsM G M).length := by
      unfold wsM; rw [List.length_map]; exact (List.getElem?_eq_some_iff.mp hi).1
    rw [if_pos rfl, if_pos hl]
    unfold wsM
    rw [List.getElem?_map, hi]; rfl
  · rw [if_neg h]
    unfold wsM
    rw [List.getElem?_map, List.getElem?_map]
    cases hn : PL[n]? with
    | none => rfl
    | some q =>
      obtain ⟨a, b⟩ := q
      refine congrArg some (Prod.ext rfl ?_)
      refine (he a b fun e => h ?_).symm
      obtain ⟨rfl, rfl⟩ := e
      exact nd_inj PL_nodup hi hn
theorem valC_I {ad : Nat → Nat → Nat} {M : Mem} {k j s k' j' s' t : Nat} {v : Int32} (h : ¬ (k' = k ∧ j' = j ∧ s' = s)) : valC ad (sI M k j s v) k' j' s' t = valC ad M k' j' s' t := by
  rcases t with _ | _ | t
  · show Value.int (mI _ _ _ _) = Value.int _; rw [mI_sI, if_neg h]
  · rfl
  · rfl
theorem valC_J {ad : Nat → Nat → Nat} {M : Mem} {k j s k' j' s' t : Nat} {v : Int64} (h : ¬ (k' = k ∧ j' = j ∧ s' = s)) : valC ad (sJ M k j s v) k' j' s' t = valC ad M k' j' s' t := by
  rcases t with _ | _ | t
  · rfl
  · show Value.long (mJ _ _ _ _) = Value.long _; rw [mJ_sJ, if_neg h]
  · rfl
theorem valC_R {ad : Nat → Nat → Nat} {M : Mem} {k j s k' j' s' t : Nat} {v : Nat} (h : ¬ (k' = k ∧ j' = j ∧ s' = s)) : valC ad (sR M k j s v) k' j' s' t = valC ad M k' j' s' t := by
  rcases t with _ | _ | t
  · rfl
  · rfl
  · show Value.ref (ad t (mR _ _ _ _)) = Value.ref _; rw [mR_sR, if_neg h]
theorem contC_I {ad : Nat → Nat → Nat} {M : Mem} {k j s k' j' t : Nat} {v : Int32} (h : ¬ (k' = k ∧ j' = j)) : contC ad (sI M k j s v) k' j' t = contC ad M k' j' t := by
  rcases t with _ | _ | t
  · show Sum.inl (fun i => mI _ _ _ i) = Sum.inl _
    congr 1; funext i; rw [mI_sI, if_neg (fun q => h ⟨q.1, q.2.1⟩)]
  · rfl
  · rfl
theorem contC_J {ad : Nat → Nat → Nat} {M : Mem} {k j s k' j' t : Nat} {v : Int64} (h : ¬ (k' = k ∧ j' = j)) : contC ad (sJ M k j s v) k' j' t = contC ad M k' j' t := by
  rcases t with _ | _ | t
  · rfl
  · show Sum.inr (Sum.inl (fun i => mJ _ _ _ i)) = Sum.inr (Sum.inl _)
    congr 2; funext i; rw [mJ_sJ, if_neg (fun q => h ⟨q.1, q.2.1⟩)]
  · rfl
theorem contC_R {ad : Nat → Nat → Nat} {M : Mem} {k j s k' j' t : Nat} {v : Nat} (h : ¬ (k' = k ∧ j' = j)) : contC ad (sR M k j s v) k' j' t = contC ad M k' j' t := by
  rcases t with _ | _ | t
  · rfl
  · rfl
  · show Sum.inr (Sum.inr (Sum.inr (Sum.inr (fun i => some (ad t (mR _ _ _ i)))))) = Sum.inr (Sum.inr (Sum.inr (Sum.inr _)))
    congr 5; funext i; rw [mR_sR, if_neg (fun q => h ⟨q.1, q.2.1⟩)]
theorem flds_sI {G : GX} {M : Mem} {k j s k' j' : Nat} {v : Int32} (h : ¬ (k' = k ∧ j' = j)) : flds G (sI M k j s v) k' j' = flds G M k' j' := by
  unfold flds
  apply List.map_congr_left
  intro a _
  exact valC_I (fun q => h ⟨q.1, q.2.1⟩)
theorem cellE_sI {G : GX} {M : Mem} {k j s : Nat} {v : Int32} : ∀ k' j', ¬ (k' = k ∧ j' = j) → cellE G (sI M k j s v) k' j' = cellE G M k' j' := by
  intro k' j' h
  unfold cellE
  rw [flds_sI h, contC_I h]
theorem flds_setI {G : GX} {M : Mem} {k j s : Nat} {v : Int32} (w : Value) (hw : valC (gA G) (sI M k j s v) k j s ((kF k).getD s 0) = w) : (flds G M k j).set s w = flds G (sI M k j s v) k j := by
  apply List.ext_getElem?
  intro n
  rw [List.getElem?_set]
  unfold flds
  by_cases h : s = n
  · subst h
    rw [if_pos rfl, List.length_map, List.length_range, List.getElem?_map]
    by_cases h2 : s < (kF k).length
    · rw [if_pos h2, List.getElem?_range h2]; exact congrArg some hw.symm
    · rw [if_neg h2, List.getElem?_eq_none (by rw [List.length_range]; omega)]; rfl
  · rw [if_neg h, List.getElem?_map, List.getElem?_map]
    cases hn : (List.range (kF k).length)[n]? with
    | none => rfl
    | some a =>
      have ha : a = n := by
        have := (List.getElem?_eq_some_iff.mp hn).2
        rw [List.getElem_range] at this; exact this.symm
      exact congrArg some (valC_I (fun q => h (by omega))).symm
theorem flds_sJ {G : GX} {M : Mem} {k j s k' j' : Nat} {v : Int64} (h : ¬ (k' = k ∧ j' = j)) : flds G (sJ M k j s v) k' j' = flds G M k' j' := by
  unfold flds
  apply List.map_congr_left
  intro a _
  exact valC_J (fun q => h ⟨q.1, q.2.1⟩)
theorem cellE_sJ {G : GX} {M : Mem} {k j s : Nat} {v : Int64} : ∀ k' j', ¬ (k' = k ∧ j' = j) → cellE G (sJ M k j s v) k' j' = cellE G M k' j' := by
  intro k' j' h
  unfold cellE
  rw [flds_sJ h, contC_J h]
theorem flds_setJ {G : GX} {M : Mem} {k j s : Nat} {v : Int64} (w : Value) (hw : valC (gA G) (sJ M k j s v) k j s ((kF k).getD s 0) = w) : (flds G M k j).set s w = flds G (sJ M k j s v) k j := by
  apply List.ext_getElem?
  intro n
  rw [List.getElem?_set]
  unfold flds
  by_cases h : s = n
  · subst h
    rw [if_pos rfl, List.length_map, List.length_range, List.getElem?_map]
    by_cases h2 : s < (kF k).length
    · rw [if_pos h2, List.getElem?_range h2]; exact congrArg some hw.symm
    · rw [if_neg h2, List.getElem?_eq_none (by rw [List.length_range]; omega)]; rfl
  · rw [if_neg h, List.getElem?_map, List.getElem?_map]
    cases hn : (List.range (kF k).length)[n]? with
    | none => rfl
    | some a =>
      have ha : a = n := by
        have := (List.getElem?_eq_some_iff.mp hn).2
        rw [List.getElem_range] at this; exact this.symm
      exact congrArg some (valC_J (fun q => h (by omega))).symm
theorem flds_sR {G : GX} {M : Mem} {k j s k' j' : Nat} {v : Nat} (h : ¬ (k' = k ∧ j' = j)) : flds G (sR M k j s v) k' j' = flds G M k' j' := by
  unfold flds
  apply List.map_congr_left
  intro a _
  exact valC_R (fun q => h ⟨q.1, q.2.1⟩)
theorem cellE_sR {G : GX} {M : Mem} {k j s : Nat} {v : Nat} : ∀ k' j', ¬ (k' = k ∧ j' = j) → cellE G (sR M k j s v) k' j' = cellE G M k' j' := by
  intro k' j' h
  unfold cellE
  rw [flds_sR h, contC_R h]
theorem flds_setR {G : GX} {M : Mem} {k j s : Nat} {v : Nat} (w : Value) (hw : valC (gA G) (sR M k j s v) k j s ((kF k).getD s 0) = w) : (flds G M k j).set s w = flds G (sR M k j s v) k j := by
  apply List.ext_getElem?
  intro n
  rw [List.getElem?_set]
  unfold flds
  by_cases h : s = n
  · subst h
    rw [if_pos rfl, List.length_map, List.length_range, List.getElem?_map]
    by_cases h2 : s < (kF k).length
    · rw [if_pos h2, List.getElem?_range h2]; exact congrArg some hw.symm
    · rw [if_neg h2, List.getElem?_eq_none (by rw [List.length_range]; omega)]; rfl
  · rw [if_neg h, List.getElem?_map, List.getElem?_map]
    cases hn : (List.range (kF k).length)[n]? with
    | none => rfl
    | some a =>
      have ha : a = n := by
        have := (List.getElem?_eq_some_iff.mp hn).2
        rw [List.getElem_range] at this; exact this.symm
      exact congrArg some (valC_R (fun q => h (by omega))).symm
/-! FIELDS: FL own index k s t: the class own's entry 'index' names field s of the objects of kind k, which holds t -/
def FL (own : String) (index k s t : Nat) (C : String) (T : u_T) (ty : Nat → FieldType) (N : Nat) : Prop :=
  (k < 12 ∧ s < N ∧ N = (kF k).length ∧ (kF k).getD s 0 = t) ∧ vwCl[k]? = some (C, T, N) ∧ (∀ w ∈ u_ws C T N, w ∈ gw_tbl) ∧ Cond.fieldLink own index (T s).1 (T s).2.1 (T s).2.2.1 ∈ gw_tbl ∧
  (∀ a, a < N → parseFieldDescriptor (T a).2.2.1 = some (ty a)) ∧ (∀ a, a < N → ∀ b, b < N → a ≠ b → (T a).2.1 ≠ (T b).2.1)
theorem flds_at {G : GX} {M : Mem} {k j s t N : Nat} (h : k < 12 ∧ s < N ∧ N = (kF k).length ∧ (kF k).getD s 0 = t) : (flds G M k j)[s]? = some (valC (gA G) M k j s t) := by
  obtain ⟨-, h2, h3, h4⟩ := h
  unfold flds
  rw [List.getElem?_map, List.getElem?_range (by omega), ← h4]; rfl
theorem cellE_o {G : GX} {M : Mem} {k j : Nat} (h : k < 12) : cellE G M k j = .inr (k, flds G M k j) := if_pos h
theorem cellE_a {G : GX} {M : Mem} {k j t n cd : Nat} (h : (12 ≤ k ∧ k < 42) ∧ kA k = (t, n, cd)) : cellE G M k j = .inl (gC G t, n, contC (gA G) M k j cd) := by
  unfold cellE
  rw [if_neg (by omega), h.2]
theorem gDis {G : GX} (hI : InjG G) (M : Mem) (sz : Nat) : va_D (gPool G sz) (wsM G M) := by
  refine ⟨fun i j p q hi hj e => ?_, fun k q hk => ?_⟩
  · unfold wsM at hi hj
    rw [List.getElem?_map] at hi hj
    cases h1 : PL[i]? with
    | none => rw [h1] at hi; cases hi
    | some a =>
      cases h2 : PL[j]? with
      | none => rw [h2] at hj; cases hj
      | some b =>
        rw [h1] at hi; rw [h2] at hj
        cases hi; cases hj
        obtain ⟨e1, e2⟩ := hI a.1 a.2 b.1 b.2 (List.mem_of_getElem? h1) (List.mem_of_getElem? h2) e
        have hab : a = b := Prod.ext e1 e2
        subst hab
        exact nd_inj PL_nodup h1 h2
  · unfold wsM at hk
    rw [List.getElem?_map] at hk
    cases h1 : PL[k]? with
    | none => rw [h1] at hk; cases hk
    | some a =>
      rw [h1] at hk; cases hk
      exact Or.inl ⟨a.1, a.2, List.mem_of_getElem? h1, rfl⟩
theorem gSub {G : GX} {a b : Nat} (h : a ≤ b) : ∀ q, gPool G b q → gPool G a q := fun q hq => hq.elim Or.inl (fun h2 => Or.inr (Nat.le_trans h h2))
section HEAP
variable {G : GX} {I : MIx} {Post : Option AV → Mem → Prop} {pc : Nat} {ls : List (Option AV)} {st : List AV} {M : Mem} {C : String} {T : u_T} {ty : Nat → FieldType} {N : Nat}
theorem Rn.getI {k j s t index : Nat} (hf : FL I.2.1 index k s (0) C T ty N) {x : Int32} (hv : mI M k j s = x) (hd : decode I.1 pc = .ok (.getfield index, 3)) (k9 : Rn G I Post (pc + 3) ls (vI x :: st) M) : Rn G I Post pc ls (vR k j :: st) M := by
  subst hv
  intro p e s0 m args below meth c hc H locs lsA hP hS hL hM hLs hSt
  have hpl : (k, j) ∈ PL := mem_PL.mpr ⟨by have := hf.1.1; omega, hSt.hd⟩
  obtain ⟨i, -, hi⟩ := wsM_at (G := G) (M := M) hpl
  rw [cellE_o hf.1.1] at hi
  exact va_get (D := gD G) (ci := k) (C := C) (T := T) (N := N) hc.1 hc.2.1 hc.2.2.2.2.2.1 hf.2.2.1 hc.2.2.2.2.1 hc.2.2.2.2.2.2.1 hP i hi hf.2.1 s hf.1.2.1 (hc.2.2.2.2.2.1 _ hf.2.2.2.1) (fun _ h9 => h9) (flds_at hf.1) hd (k9 p e s0 m args below meth c hc H locs lsA hP hS hL hM hLs (hSt.d.I _))
theorem Rn.getJ {k j s t index : Nat} (hf : FL I.2.1 index k s (1) C T ty N) {x : Int64} (hv : mJ M k j s = x) (hd : decode I.1 pc = .ok (.getfield index, 3)) (k9 : Rn G I Post (pc + 3) ls (vJ x :: st) M) : Rn G I Post pc ls (vR k j :: st) M := by
  subst hv
  intro p e s0 m args below meth c hc H locs lsA hP hS hL hM hLs hSt
  have hpl : (k, j) ∈ PL := mem_PL.mpr ⟨by have := hf.1.1; omega, hSt.hd⟩
  obtain ⟨i, -, hi⟩ := wsM_at (G := G) (M := M) hpl
  rw [cellE_o hf.1.1] at hi
  exact va_get (D := gD G) (ci := k) (C := C) (T := T) (N := N) hc.1 hc.2.1 hc.2.2.2.2.2.1 hf.2.2.1 hc.2.2.2.2.1 hc.2.2.2.2.2.2.1 hP i hi hf.2.1 s hf.1.2.1 (hc.2.2.2.2.2.1 _ hf.2.2.2.1) (fun _ h9 => h9) (flds_at hf.1) hd (k9 p e s0 m args below meth c hc H locs lsA hP hS hL hM hLs (hSt.d.J _))
theorem Rn.getRm {k j s t index : Nat} (hf : FL I.2.1 index k s (t + 2) C T ty N) {x : Nat} (hv : mR M k j s = x) (hd : decode I.1 pc = .ok (.getfield index, 3)) (k9 : Rn G I Post (pc + 3) ls (vR t x :: st) M) : Rn G I Post pc ls (vR k j :: st) M := by
  subst hv
  intro p e s0 m args below meth c hc H locs lsA hP hS hL hM hLs hSt
  have hpl : (k, j) ∈ PL := mem_PL.mpr ⟨by have := hf.1.1; omega, hSt.hd⟩
  obtain ⟨i, -, hi⟩ := wsM_at (G := G) (M := M) hpl
  rw [cellE_o hf.1.1] at hi
  exact va_get (D := gD G) (ci := k) (C := C) (T := T) (N := N) hc.1 hc.2.1 hc.2.2.2.2.2.1 hf.2.2.1 hc.2.2.2.2.1 hc.2.2.2.2.2.2.1 hP i hi hf.2.1 s hf.1.2.1 (hc.2.2.2.2.2.1 _ hf.2.2.2.1) (fun _ h9 => h9) (flds_at hf.1) hd (k9 p e s0 m args below meth c hc H locs lsA hP hS hL hM hLs (okVs.c (hM k j s t hpl (by unfold kLen; rw [if_pos hf.1.1, ← hf.1.2.2.1]; exact hf.1.2.1) (by unfold slotC; rw [if_pos hf.1.1]; exact hf.1.2.2.2)).1 hSt.d))
theorem Rn.getR {k j s t index r : Nat} (hf : FL I.2.1 index k s (t + 2) C T ty N) (hm : mutR k s = false) (hr : fixR k j s = r) (hd : decode I.1 pc = .ok (.getfield index, 3)) (k9 : Rn G I Post (pc + 3) ls (vR t r :: st) M) : Rn G I Post pc ls (vR k j :: st) M := by
  intro p e s0 m args below meth c hc H locs lsA hP hS hL hM hLs hSt
  have hpl : (k, j) ∈ PL := mem_PL.mpr ⟨by have := hf.1.1; omega, hSt.hd⟩
  have hx := (hM k j s t hpl (by unfold kLen; rw [if_pos hf.1.1, ← hf.1.2.2.1]; exact hf.1.2.1) (by unfold slotC; rw [if_pos hf.1.1]; exact hf.1.2.2.2)).2 hm
  exact Rn.getRm hf (hx.trans hr) hd k9 p e s0 m args below meth c hc H locs lsA hP hS hL hM hLs hSt
theorem Rn.putI {k j s t index : Nat} {x : Int32} (hf : FL I.2.1 index k s (0) C T ty N) (hfin : (T s).2.2.2 = false) (hty : ty s = .int) (hd : decode I.1 pc = .ok (.putfield index, 3)) (k9 : Rn G I Post (pc + 3) ls st (sI M k j s x)) : Rn G I Post pc ls (vI x :: vR k j :: st) M := by
  intro p e s0 m args below meth c hc H locs lsA hP hS hL hM hLs hSt
  have hpl : (k, j) ∈ PL := mem_PL.mpr ⟨by have := hf.1.1; omega, hSt.d.hd⟩
  obtain ⟨i, hpi, hi⟩ := wsM_at (G := G) (M := M) hpl
  rw [cellE_o hf.1.1] at hi
  refine va_put (D := gD G) (ci := k) (C := C) (T := T) (N := N) (ty := .int) hc.1 hc.2.1 hc.2.2.2.2.2.1 hf.2.2.1 ty hf.2.2.2.2.1 hf.2.2.2.2.2 hc.2.2.2.2.1 hc.2.2.2.2.2.2.1 hP (gDis hc.2.2.2.2.2.2.2.2.1 M _) hS i hi hf.2.1 s hf.1.2.1 (hc.2.2.2.2.2.1 _ hf.2.2.2.1) (fun _ h9 => h9) hfin (by rw [hf.2.2.2.2.1 s hf.1.2.1, hty]) rfl rfl (by unfold flds; rw [List.length_map, List.length_range, ← hf.1.2.2.1]; exact hf.1.2.1) hd (fun H1 locs1 hP1 _ hS1 => ?_)
  have hset := flds_setI (G := G) (M := M) (k := k) (j := j) (s := s) (v := x) (cv (gA G) (vI x)) (by rw [hf.1.2.2.2]; show Value.int (mI _ _ _ _) = _; rw [mI_sI, if_pos ⟨rfl, rfl, rfl⟩]; rfl)
  have hw := wsM_set (G := G) (M := M) (M' := sI M k j s x) hpi cellE_sI
  rw [cellE_o hf.1.1, ← hset] at hw
  have hP2 : Pw G (sI M k j s x) H1 := by unfold Pw; rw [← hw]; exact hP1
  exact k9 p e s0 m args below meth c hc H1 locs1 lsA hP2 hS1 hL hM hLs hSt.d.d
theorem Rn.putJ {k j s t index : Nat} {x : Int64} (hf : FL I.2.1 index k s (1) C T ty N) (hfin : (T s).2.2.2 = false) (hty : ty s = .long) (hd : decode I.1 pc = .ok (.putfield index, 3)) (k9 : Rn G I Post (pc + 3) ls st (sJ M k j s x)) : Rn G I Post pc ls (vJ x :: vR k j :: st) M := by
  intro p e s0 m args below meth c hc H locs lsA hP hS hL hM hLs hSt
  have hpl : (k, j) ∈ PL := mem_PL.mpr ⟨by have := hf.1.1; omega, hSt.d.hd⟩
  obtain ⟨i, hpi, hi⟩ := wsM_at (G := G) (M := M) hpl
  rw [cellE_o hf.1.1] at hi
  refine va_put (D := gD G) (ci := k) (C := C) (T := T) (N := N) (ty := .long) hc.1 hc.2.1 hc.2.2.2.2.2.1 hf.2.2.1 ty hf.2.2.2.2.1 hf.2.2.2.2.2 hc.2.2.2.2.1 hc.2.2.2.2.2.2.1 hP (gDis hc.2.2.2.2.2.2.2.2.1 M _) hS i hi hf.2.1 s hf.1.2.1 (hc.2.2.2.2.2.1 _ hf.2.2.2.1) (fun _ h9 => h9) hfin (by rw [hf.2.2.2.2.1 s hf.1.2.1, hty]) rfl rfl (by unfold flds; rw [List.length_map, List.length_range, ← hf.1.2.2.1]; exact hf.1.2.1) hd (fun H1 locs1 hP1 _ hS1 => ?_)
  have hset := flds_setJ (G := G) (M := M) (k := k) (j := j) (s := s) (v := x) (cv (gA G) (vJ x)) (by rw [hf.1.2.2.2]; show Value.long (mJ _ _ _ _) = _; rw [mJ_sJ, if_pos ⟨rfl, rfl, rfl⟩]; rfl)
  have hw := wsM_set (G := G) (M := M) (M' := sJ M k j s x) hpi cellE_sJ
  rw [cellE_o hf.1.1, ← hset] at hw
  have hP2 : Pw G (sJ M k j s x) H1 := by unfold Pw; rw [← hw]; exact hP1
  exact k9 p e s0 m args below meth c hc H1 locs1 lsA hP2 hS1 hL hM hLs hSt.d.d
theorem Rn.putR {k j s t index : Nat} {x : Nat} {C9 : String} (hmu : mutR k s = true) (hf : FL I.2.1 index k s (t + 2) C T ty N) (hfin : (T s).2.2.2 = false) (hty : ty s = .object C9) (hd : decode I.1 pc = .ok (.putfield index, 3)) (k9 : Rn G I Post (pc + 3) ls st (sR M k j s x)) : Rn G I Post pc ls (vR t x :: vR k j :: st) M := by
  intro p e s0 m args below meth c hc H locs lsA hP hS hL hM hLs hSt
  have hpl : (k, j) ∈ PL := mem_PL.mpr ⟨by have := hf.1.1; omega, hSt.d.hd⟩
  obtain ⟨i, hpi, hi⟩ := wsM_at (G := G) (M := M) hpl
  rw [cellE_o hf.1.1] at hi
  refine va_put (D := gD G) (ci := k) (C := C) (T := T) (N := N) (ty := .object C9) hc.1 hc.2.1 hc.2.2.2.2.2.1 hf.2.2.1 ty hf.2.2.2.2.1 hf.2.2.2.2.2 hc.2.2.2.2.1 hc.2.2.2.2.2.2.1 hP (gDis hc.2.2.2.2.2.2.2.2.1 M _) hS i hi hf.2.1 s hf.1.2.1 (hc.2.2.2.2.2.1 _ hf.2.2.2.1) (fun _ h9 => h9) hfin (by rw [hf.2.2.2.2.1 s hf.1.2.1, hty]) rfl rfl (by unfold flds; rw [List.length_map, List.length_range, ← hf.1.2.2.1]; exact hf.1.2.1) hd (fun H1 locs1 hP1 _ hS1 => ?_)
  have hset := flds_setR (G := G) (M := M) (k := k) (j := j) (s := s) (v := x) (cv (gA G) (vR t x)) (by rw [hf.1.2.2.2]; show Value.ref (gA G t (mR _ _ _ _)) = _; rw [mR_sR, if_pos ⟨rfl, rfl, rfl⟩]; rfl)
  have hw := wsM_set (G := G) (M := M) (M' := sR M k j s x) hpi cellE_sR
  rw [cellE_o hf.1.1, ← hset] at hw
  have hP2 : Pw G (sR M k j s x) H1 := by unfold Pw; rw [← hw]; exact hP1
  exact k9 p e s0 m args below meth c hc H1 locs1 lsA hP2 hS1 hL (hM.R (by unfold slotC; rw [if_pos hf.1.1]; exact hf.1.2.2.2) hmu hSt.hd) hLs hSt.d.d
theorem Rn.iald {k j n : Nat} {i : Int32} (hk : (12 ≤ k ∧ k < 42) ∧ kA k = (2, n, 0)) (hin : vp_in i n) (hd : decode I.1 pc = .ok (.iaload, 1)) (k9 : Rn G I Post (pc + 1) ls (vI (mI M k j i.toNatClampNeg) :: st) M) : Rn G I Post pc ls (vI i :: vR k j :: st) M := by
  intro p e s0 m args below meth c hc H locs lsA hP hS hL hM hLs hSt
  obtain ⟨q, -, hq⟩ := wsM_at (G := G) (M := M) (mem_PL.mpr ⟨hk.1.2, hSt.d.hd⟩ : (k, j) ∈ PL)
  rw [cellE_a hk] at hq
  exact va_iald (f := fun i => mI M k j i) hc.1 hc.2.1 hc.2.2.2.2.2.2.1 hP q 2 hq (tysG_at G (by decide)) hin hd (k9 p e s0 m args below meth c hc H locs lsA hP hS hL hM hLs (hSt.d.d.I _))
theorem Rn.bald {k j n : Nat} {i : Int32} (hk : (12 ≤ k ∧ k < 42) ∧ kA k = (0, n, 0)) (hin : vp_in i n) (hd : decode I.1 pc = .ok (.baload, 1)) (k9 : Rn G I Post (pc + 1) ls (vI (mI M k j i.toNatClampNeg) :: st) M) : Rn G I Post pc ls (vI i :: vR k j :: st) M := by
  intro p e s0 m args below meth c hc H locs lsA hP hS hL hM hLs hSt
  obtain ⟨q, -, hq⟩ := wsM_at (G := G) (M := M) (mem_PL.mpr ⟨hk.1.2, hSt.d.hd⟩ : (k, j) ∈ PL)
  rw [cellE_a hk] at hq
  exact va_bald (f := fun i => mI M k j i) hc.1 hc.2.1 hc.2.2.2.2.2.2.1 hP q 0 hq (tysG_at G (by decide)) hin hd (k9 p e s0 m args below meth c hc H locs lsA hP hS hL hM hLs (hSt.d.d.I _))
theorem Rn.zald {k j n : Nat} {i : Int32} (hk : (12 ≤ k ∧ k < 42) ∧ kA k = (4, n, 0)) (hin : vp_in i n) (hd : decode I.1 pc = .ok (.baload, 1)) (k9 : Rn G I Post (pc + 1) ls (vI (mI M k j i.toNatClampNeg) :: st) M) : Rn G I Post pc ls (vI i :: vR k j :: st) M := by
  intro p e s0 m args below meth c hc H locs lsA hP hS hL hM hLs hSt
  obtain ⟨q, -, hq⟩ := wsM_at (G := G) (M := M) (mem_PL.mpr ⟨hk.1.2, hSt.d.hd⟩ : (k, j) ∈ PL)
  rw [cellE_a hk] at hq
  exact va_zald (f := fun i => mI M k j i) hc.1 hc.2.1 hc.2.2.2.2.2.2.1 hP q 4 hq (tysG_at G (by decide)) hin hd (k9 p e s0 m args below meth c hc H locs lsA hP hS hL hM hLs (hSt.d.d.I _))
theorem Rn.cald {k j n : Nat} {i : Int32} (hk : (12 ≤ k ∧ k < 42) ∧ kA k = (1, n, 0)) (hin : vp_in i n) (hd : decode I.1 pc = .ok (.caload, 1)) (k9 : Rn G I Post (pc + 1) ls (vI (mI M k j i.toNatClampNeg) :: st) M) : Rn G I Post pc ls (vI i :: vR k j :: st) M := by
  intro p e s0 m args below meth c hc H locs lsA hP hS hL hM hLs hSt
  obtain ⟨q, -, hq⟩ := wsM_at (G := G) (M := M) (mem_PL.mpr ⟨hk.1.2, hSt.d.hd⟩ : (k, j) ∈ PL)
  rw [cellE_a hk] at hq
  exact va_cald (f := fun i => mI M k j i) hc.1 hc.2.1 hc.2.2.2.2.2.2.1 hP q 1 hq (tysG_at G (by decide)) hin hd (k9 p e s0 m args below meth c hc H locs lsA hP hS hL hM hLs (hSt.d.d.I _))
theorem Rn.lald {k j n : Nat} {i : Int32} (hk : (12 ≤ k ∧ k < 42) ∧ kA k = (3, n, 1)) (hin : vp_in i n) (hd : decode I.1 pc = .ok (.laload, 1)) (k9 : Rn G I Post (pc + 1) ls (vJ (mJ M k j i.toNatClampNeg) :: st) M) : Rn G I Post pc ls (vI i :: vR k j :: st) M := by
  intro p e s0 m args below meth c hc H locs lsA hP hS hL hM hLs hSt
  obtain ⟨q, -, hq⟩ := wsM_at (G := G) (M := M) (mem_PL.mpr ⟨hk.1.2, hSt.d.hd⟩ : (k, j) ∈ PL)
  rw [cellE_a hk] at hq
  exact va_lald (f := fun i => mJ M k j i) hc.1 hc.2.1 hc.2.2.2.2.2.2.1 hP q 3 hq (tysG_at G (by decide)) hin hd (k9 p e s0 m args below meth c hc H locs lsA hP hS hL hM hLs (hSt.d.d.J _))
theorem Rn.aald {k j n t t0 : Nat} {i : Int32} (hk : (12 ≤ k ∧ k < 42) ∧ kA k = (t0, n, t + 2)) (ht0 : t0 < 8) (hrf : (tyT t0).isReference = true) (hin : vp_in i n) (hd : decode I.1 pc = .ok (.aaload, 1)) (k9 : Rn G I Post (pc + 1) ls (vR t (mR M k j i.toNatClampNeg) :: st) M) : Rn G I Post pc ls (vI i :: vR k j :: st) M := by
  intro p e s0 m args below meth c hc H locs lsA hP hS hL hM hLs hSt
  have hpl : (k, j) ∈ PL := mem_PL.mpr ⟨hk.1.2, hSt.d.hd⟩
  obtain ⟨q, -, hq⟩ := wsM_at (G := G) (M := M) hpl
  rw [cellE_a hk] at hq
  have hlt : i.toNatClampNeg < n := Nat.not_le.mp fun q => hin (Or.inr q)
  have hcell := hP q _ hq
  exact W.aald (v := .ref (gA G t (mR M k j i.toNatClampNeg))) (ty := tyT t0) hc.1 hc.2.1 hcell ((hc.2.2.2.2.2.2.1.2 t0 _ (tysG_at G ht0)).1 n (fun j9 => va_rf (some (gA G t (mR M k j j9))))) hrf (fun q => by cases q) (by show ¬ (i < 0 ∨ (arrV _ _ _).slots.size ≤ _); rw [arrV_size]; exact hin) (by show (arrV _ _ _).slots[_]? = _; rw [arrV_read _ _ hlt]; rfl) rfl rfl hd (k9 p e s0 m args below meth c hc H locs lsA hP hS hL hM hLs (okVs.c (hM k j _ t hpl (by unfold kLen; rw [if_neg (by omega), hk.2]; exact hlt) (by unfold slotC; rw [if_neg (by omega), hk.2])).1 hSt.d.d))
theorem Rn.alen {k j n t cd : Nat} (hk : (12 ≤ k ∧ k < 42) ∧ kA k = (t, n, cd)) (ht : t < 8) (hd : decode I.1 pc = .ok (.arraylength, 1)) (k9 : Rn G I Post (pc + 1) ls (vI (Int32.ofNat n) :: st) M) : Rn G I Post pc ls (vR k j :: st) M := by
  intro p e s0 m args below meth c hc H locs lsA hP hS hL hM hLs hSt
  obtain ⟨q, -, hq⟩ := wsM_at (G := G) (M := M) (mem_PL.mpr ⟨hk.1.2, hSt.hd⟩ : (k, j) ∈ PL)
  rw [cellE_a hk] at hq
  exact va_alen (v := Int32.ofNat n) hc.1 hc.2.1 hc.2.2.2.2.2.2.1 hP q t hq (tysG_at G ht) rfl hd (k9 p e s0 m args below meth c hc H locs lsA hP hS hL hM hLs (hSt.d.I _))
theorem Rn.iast {k j n : Nat} {i x : Int32} (hk : (12 ≤ k ∧ k < 42) ∧ kA k = (2, n, 0)) (hin : vp_in i n) (hd : decode I.1 pc = .ok (.iastore, 1)) (k9 : Rn G I Post (pc + 1) ls st (sI M k j i.toNatClampNeg x)) : Rn G I Post pc ls (vI x :: vI i :: vR k j :: st) M := by
  intro p e s0 m args below meth c hc H locs lsA hP hS hL hM hLs hSt
  obtain ⟨q, hpi, hq⟩ := wsM_at (G := G) (M := M) (mem_PL.mpr ⟨hk.1.2, hSt.d.d.hd⟩ : (k, j) ∈ PL)
  rw [cellE_a hk] at hq
  refine va_iast (f := fun i => mI M k j i) hc.1 hc.2.1 hc.2.2.2.2.2.2.1 hP (gDis hc.2.2.2.2.2.2.2.2.1 M _) hS q 2 hq (tysG_at G (by decide)) hin hd (fun H1 locs1 hP1 _ hS1 => ?_)
  have hw := wsM_set (G := G) (M := M) (M' := sI M k j i.toNatClampNeg x) hpi cellE_sI
  rw [cellE_a hk] at hw
  have hf : contC (gA G) (sI M k j i.toNatClampNeg x) k j 0 = .inl (upd (fun i => mI M k j i) i.toNatClampNeg x) := by
    show Sum.inl _ = Sum.inl _
    congr 1; funext a
    rw [mI_sI]
    unfold upd
    by_cases h : a = i.toNatClampNeg
    · rw [if_pos ⟨rfl, rfl, h⟩, if_pos h]
    · rw [if_neg (fun q => h q.2.2), if_neg h]
  rw [hf] at hw
  have hP2 : Pw G (sI M k j i.toNatClampNeg x) H1 := by unfold Pw; rw [← hw]; exact hP1
  exact k9 p e s0 m args below meth c hc H1 locs1 lsA hP2 hS1 hL hM hLs hSt.d.d.d
theorem Rn.bast {k j n : Nat} {i x : Int32} (hk : (12 ≤ k ∧ k < 42) ∧ kA k = (0, n, 0)) (hin : vp_in i n) (hd : decode I.1 pc = .ok (.bastore, 1)) (k9 : Rn G I Post (pc + 1) ls st (sI M k j i.toNatClampNeg (vp_nar .byte x))) : Rn G I Post pc ls (vI x :: vI i :: vR k j :: st) M := by
  intro p e s0 m args below meth c hc H locs lsA hP hS hL hM hLs hSt
  obtain ⟨q, hpi, hq⟩ := wsM_at (G := G) (M := M) (mem_PL.mpr ⟨hk.1.2, hSt.d.d.hd⟩ : (k, j) ∈ PL)
  rw [cellE_a hk] at hq
  refine va_bast (f := fun i => mI M k j i) hc.1 hc.2.1 hc.2.2.2.2.2.2.1 hP (gDis hc.2.2.2.2.2.2.2.2.1 M _) hS q 0 hq (tysG_at G (by decide)) hin hd (fun H1 locs1 hP1 _ hS1 => ?_)
  have hw := wsM_set (G := G) (M := M) (M' := sI M k j i.toNatClampNeg (vp_nar .byte x)) hpi cellE_sI
  rw [cellE_a hk] at hw
  have hf : contC (gA G) (sI M k j i.toNatClampNeg (vp_nar .byte x)) k j 0 = .inl (upd (fun i => mI M k j i) i.toNatClampNeg (vp_nar .byte x)) := by
    show Sum.inl _ = Sum.inl _
    congr 1; funext a
    rw [mI_sI]
    unfold upd
    by_cases h : a = i.toNatClampNeg
    · rw [if_pos ⟨rfl, rfl, h⟩, if_pos h]
    · rw [if_neg (fun q => h q.2.2), if_neg h]
  rw [hf] at hw
  have hP2 : Pw G (sI M k j i.toNatClampNeg (vp_nar .byte x)) H1 := by unfold Pw; rw [← hw]; exact hP1
  exact k9 p e s0 m args below meth c hc H1 locs1 lsA hP2 hS1 hL hM hLs hSt.d.d.d
theorem Rn.zast {k j n : Nat} {i x : Int32} (hk : (12 ≤ k ∧ k < 42) ∧ kA k = (4, n, 0)) (hin : vp_in i n) (hd : decode I.1 pc = .ok (.bastore, 1)) (k9 : Rn G I Post (pc + 1) ls st (sI M k j i.toNatClampNeg (vp_nar .boolean x))) : Rn G I Post pc ls (vI x :: vI i :: vR k j :: st) M := by
  intro p e s0 m args below meth c hc H locs lsA hP hS hL hM hLs hSt
  obtain ⟨q, hpi, hq⟩ := wsM_at (G := G) (M := M) (mem_PL.mpr ⟨hk.1.2, hSt.d.d.hd⟩ : (k, j) ∈ PL)
  rw [cellE_a hk] at hq
  refine va_zast (f := fun i => mI M k j i) hc.1 hc.2.1 hc.2.2.2.2.2.2.1 hP (gDis hc.2.2.2.2.2.2.2.2.1 M _) hS q 4 hq (tysG_at G (by decide)) hin hd (fun H1 locs1 hP1 _ hS1 => ?_)
  have hw := wsM_set (G := G) (M := M) (M' := sI M k j i.toNatClampNeg (vp_nar .boolean x)) hpi cellE_sI
  rw [cellE_a hk] at hw
  have hf : contC (gA G) (sI M k j i.toNatClampNeg (vp_nar .boolean x)) k j 0 = .inl (upd (fun i => mI M k j i) i.toNatClampNeg (vp_nar .boolean x)) := by
    show Sum.inl _ = Sum.inl _
    congr 1; funext a
    rw [mI_sI]
    unfold upd
    by_cases h : a = i.toNatClampNeg
    · rw [if_pos ⟨rfl, rfl, h⟩, if_pos h]
    · rw [if_neg (fun q => h q.2.2), if_neg h]
  rw [hf] at hw
  have hP2 : Pw G (sI M k j i.toNatClampNeg (vp_nar .boolean x)) H1 := by unfold Pw; rw [← hw]; exact hP1
  exact k9 p e s0 m args below meth c hc H1 locs1 lsA hP2 hS1 hL hM hLs hSt.d.d.d
theorem Rn.cast {k j n : Nat} {i x : Int32} (hk : (12 ≤ k ∧ k < 42) ∧ kA k = (1, n, 0)) (hin : vp_in i n) (hd : decode I.1 pc = .ok (.castore, 1)) (k9 : Rn G I Post (pc + 1) ls st (sI M k j i.toNatClampNeg (vp_nar .char x))) : Rn G I Post pc ls (vI x :: vI i :: vR k j :: st) M := by
  intro p e s0 m args below meth c hc H locs lsA hP hS hL hM hLs hSt
  obtain ⟨q, hpi, hq⟩ := wsM_at (G := G) (M := M) (mem_PL.mpr ⟨hk.1.2, hSt.d.d.hd⟩ : (k, j) ∈ PL)
  rw [cellE_a hk] at hq
  refine va_cast (f := fun i => mI M k j i) hc.1 hc.2.1 hc.2.2.2.2.2.2.1 hP (gDis hc.2.2.2.2.2.2.2.2.1 M _) hS q 1 hq (tysG_at G (by decide)) hin hd (fun H1 locs1 hP1 _ hS1 => ?_)
  have hw := wsM_set (G := G) (M := M) (M' := sI M k j i.toNatClampNeg (vp_nar .char x)) hpi cellE_sI
  rw [cellE_a hk] at hw
  have hf : contC (gA G) (sI M k j i.toNatClampNeg (vp_nar .char x)) k j 0 = .inl (upd (fun i => mI M k j i) i.toNatClampNeg (vp_nar .char x)) := by
    show Sum.inl _ = Sum.inl _
    congr 1; funext a
    rw [mI_sI]
    unfold upd
    by_cases h : a = i.toNatClampNeg
    · rw [if_pos ⟨rfl, rfl, h⟩, if_pos h]
    · rw [if_neg (fun q => h q.2.2), if_neg h]
  rw [hf] at hw
  have hP2 : Pw G (sI M k j i.toNatClampNeg (vp_nar .char x)) H1 := by unfold Pw; rw [← hw]; exact hP1
  exact k9 p e s0 m args below meth c hc H1 locs1 lsA hP2 hS1 hL hM hLs hSt.d.d.d
theorem Rn.last {k j n : Nat} {i : Int32} {x : Int64} (hk : (12 ≤ k ∧ k < 42) ∧ kA k = (3, n, 1)) (hin : vp_in i n) (hd : decode I.1 pc = .ok (.lastore, 1)) (k9 : Rn G I Post (pc + 1) ls st (sJ M k j i.toNatClampNeg x)) : Rn G I Post pc ls (vJ x :: vI i :: vR k j :: st) M := by
  intro p e s0 m args below meth c hc H locs lsA hP hS hL hM hLs hSt
  obtain ⟨q, hpi, hq⟩ := wsM_at (G := G) (M := M) (mem_PL.mpr ⟨hk.1.2, hSt.d.d.hd⟩ : (k, j) ∈ PL)
  rw [cellE_a hk] at hq
  refine va_last (f := fun i => mJ M k j i) hc.1 hc.2.1 hc.2.2.2.2.2.2.1 hP (gDis hc.2.2.2.2.2.2.2.2.1 M _) hS q 3 hq (tysG_at G (by decide)) hin hd (fun H1 locs1 hP1 _ hS1 => ?_)
  have hw := wsM_set (G := G) (M := M) (M' := sJ M k j i.toNatClampNeg x) hpi cellE_sJ
  rw [cellE_a hk] at hw
  have hf : contC (gA G) (sJ M k j i.toNatClampNeg x) k j 1 = .inr (.inl (vp_updL (fun i => mJ M k j i) i.toNatClampNeg x)) := by
    show Sum.inr (Sum.inl _) = Sum.inr (Sum.inl _)
    congr 2; funext a
    rw [mJ_sJ]
    unfold vp_updL
    by_cases h : a = i.toNatClampNeg
    · rw [if_pos ⟨rfl, rfl, h⟩, if_pos h]
    · rw [if_neg (fun q => h q.2.2), if_neg h]
  rw [hf] at hw
  have hP2 : Pw G (sJ M k j i.toNatClampNeg x) H1 := by unfold Pw; rw [← hw]; exact hP1
  exact k9 p e s0 m args below meth c hc H1 locs1 lsA hP2 hS1 hL hM hLs hSt.d.d.d
/-! RETURNS -/
theorem Rn.iret {x : Int32} (hr : I.2.2.2.1 = some .int) (hd : decode I.1 pc = .ok (.ireturn, 1)) (hp : Post (some (vI x)) M) : Rn G I Post pc ls [vI x] M := by
  intro p e s0 m args below meth c hc H locs lsA hP hS hL hM hLs hSt
  exact W.iret (v := x) hc.1 hc.2.1 (hc.2.2.2.1.trans hr) (fun t ht hW => ⟨⟨some (vI x), M, rfl, hp, fun v h => by cases h; exact trivial, hM, by rw [ht]; exact hP⟩, hS.F ht⟩) hS.2.2 hd hc.2.2.2.2.2.2.2.1
theorem Rn.zret {x : Int32} {ty0 : FieldType} (hr : I.2.2.2.1 = some ty0) (hn : narrow ty0 (.int x) = .int x) (hd : decode I.1 pc = .ok (.ireturn, 1)) (hp : Post (some (vI x)) M) : Rn G I Post pc ls [vI x] M := by
  intro p e s0 m args below meth c hc H locs lsA hP hS hL hM hLs hSt
  exact W.zret (v := x) hc.1 hc.2.1 (hc.2.2.2.1.trans hr) hn (fun t ht hW => ⟨⟨some (vI x), M, rfl, hp, fun v h => by cases h; exact trivial, hM, by rw [ht]; exact hP⟩, hS.F ht⟩) hS.2.2 hd hc.2.2.2.2.2.2.2.1
theorem Rn.vret (hr : I.2.2.2.1 = none) (hd : decode I.1 pc = .ok (.return_, 1)) (hp : Post none M) : Rn G I Post pc ls [] M := by
  intro p e s0 m args below meth c hc H locs lsA hP hS hL hM hLs hSt
  exact W.vret hc.1 hc.2.1 (hc.2.2.2.1.trans hr) (fun t ht hW => ⟨⟨none, M, rfl, hp, (fun v h => nomatch h), hM, by rw [ht]; exact hP⟩, hS.F ht⟩) hS.2.2 hd hc.2.2.2.2.2.2.2.1
theorem Rn.lret {x : Int64} (hr : I.2.2.2.1 = some .long) (hd : decode I.1 pc = .ok (.lreturn, 1)) (hp : Post (some (vJ x)) M) : Rn G I Post pc ls [vJ x] M := by
  intro p e s0 m args below meth c hc H locs lsA hP hS hL hM hLs hSt
  exact W.lret (v := x) hc.1 hc.2.1 (hc.2.2.2.1.trans hr) (fun t ht hW => ⟨⟨some (vJ x), M, rfl, hp, fun v h => by cases h; exact trivial, hM, by rw [ht]; exact hP⟩, hS.F ht⟩) hS.2.2 hd hc.2.2.2.2.2.2.2.1
theorem Rn.aret {v : AV} {Cn : String} (hv : v = vN ∨ ∃ k j, v = vR k j) (hr : I.2.2.2.1 = some (.object Cn)) (hd : decode I.1 pc = .ok (.areturn, 1)) (hp : Post (some v) M) : Rn G I Post pc ls [v] M := by
  intro p e s0 m args below meth c hc H locs lsA hP hS hL hM hLs hSt
  exact W.aret (v := cv (gA G) v) hc.1 hc.2.1 (hc.2.2.2.1.trans hr) (Or.inl ⟨Cn, rfl⟩) (by rcases hv with rfl | ⟨k, j, rfl⟩; exact Or.inl rfl; exact Or.inr ⟨_, rfl⟩) (fun t ht hW => ⟨⟨some v, M, rfl, hp, fun v' h => by cases h; exact hSt.hd, hM, by rw [ht]; exact hP⟩, hS.F ht⟩) hS.2.2 hd hc.2.2.2.2.2.2.2.1

theorem Rn.ialdN {k j n e9 : Nat} {x : Int32} (hk : (12 ≤ k ∧ k < 42) ∧ kA k = (2, n, 0)) (he : e9 < n) (hn : n < 2 ^ 31) (hv : mI M k j e9 = x) (hd : decode I.1 pc = .ok (.iaload, 1)) (k9 : Rn G I Post (pc + 1) ls (vI x :: st) M) : Rn G I Post pc ls (vI (nI e9) :: vR k j :: st) M := Rn.iald hk (vp_in_nI he hn) hd (by rw [nI_clamp (by omega), hv]; exact k9)
theorem Rn.baldN {k j n e9 : Nat} {x : Int32} (hk : (12 ≤ k ∧ k < 42) ∧ kA k = (0, n, 0)) (he : e9 < n) (hn : n < 2 ^ 31) (hv : mI M k j e9 = x) (hd : decode I.1 pc = .ok (.baload, 1)) (k9 : Rn G I Post (pc + 1) ls (vI x :: st) M) : Rn G I Post pc ls (vI (nI e9) :: vR k j :: st) M := Rn.bald hk (vp_in_nI he hn) hd (by rw [nI_clamp (by omega), hv]; exact k9)
theorem Rn.zaldN {k j n e9 : Nat} {x : Int32} (hk : (12 ≤ k ∧ k < 42) ∧ kA k = (4, n, 0)) (he : e9 < n) (hn : n < 2 ^ 31) (hv : mI M k j e9 = x) (hd : decode I.1 pc = .ok (.baload, 1)) (k9 : Rn G I Post (pc + 1) ls (vI x :: st) M) : Rn G I Post pc ls (vI (nI e9) :: vR k j :: st) M := Rn.zald hk (vp_in_nI he hn) hd (by rw [nI_clamp (by omega), hv]; exact k9)
theorem Rn.caldN {k j n e9 : Nat} {x : Int32} (hk : (12 ≤ k ∧ k < 42) ∧ kA k = (1, n, 0)) (he : e9 < n) (hn : n < 2 ^ 31) (hv : mI M k j e9 = x) (hd : decode I.1 pc = .ok (.caload, 1)) (k9 : Rn G I Post (pc + 1) ls (vI x :: st) M) : Rn G I Post pc ls (vI (nI e9) :: vR k j :: st) M := Rn.cald hk (vp_in_nI he hn) hd (by rw [nI_clamp (by omega), hv]; exact k9)
theorem Rn.laldN {k j n e9 : Nat} {x : Int64} (hk : (12 ≤ k ∧ k < 42) ∧ kA k = (3, n, 1)) (he : e9 < n) (hn : n < 2 ^ 31) (hv : mJ M k j e9 = x) (hd : decode I.1 pc = .ok (.laload, 1)) (k9 : Rn G I Post (pc + 1) ls (vJ x :: st) M) : Rn G I Post pc ls (vI (nI e9) :: vR k j :: st) M := Rn.lald hk (vp_in_nI he hn) hd (by rw [nI_clamp (by omega), hv]; exact k9)
theorem Rn.aaldN {k j n t t0 e9 r : Nat} (hk : (12 ≤ k ∧ k < 42) ∧ kA k = (t0, n, t + 2)) (ht0 : t0 < 8) (hrf : (tyT t0).isReference = true) (he : e9 < n) (hn : n < 2 ^ 31) (hr : fixR k j e9 = r) (hd : decode I.1 pc = .ok (.aaload, 1)) (k9 : Rn G I Post (pc + 1) ls (vR t r :: st) M) : Rn G I Post pc ls (vI (nI e9) :: vR k j :: st) M := by
  intro p e s0 m args below meth c hc H locs lsA hP hS hL hM hLs hSt
  have hpl : (k, j) ∈ PL := mem_PL.mpr ⟨hk.1.2, hSt.d.hd⟩
  have hmu : mutR k e9 = false := by
    have h1 : (k == 10) = false := by rw [beq_eq_false_iff_ne]; omega
    have h2 : (k == 6) = false := by rw [beq_eq_false_iff_ne]; omega
    unfold mutR; rw [h1, h2]; rfl
  have hx := (hM k j e9 t hpl (by unfold kLen; rw [if_neg (by omega), hk.2]; exact he) (by unfold slotC; rw [if_neg (by omega), hk.2])).2 hmu
  refine Rn.aald hk ht0 hrf (vp_in_nI he hn) hd ?_ p e s0 m args below meth c hc H locs lsA hP hS hL hM hLs hSt
  rw [nI_clamp (by omega), hx, hr]
  exact k9
theorem Rn.iastN {k j n e9 : Nat} {x : Int32} (hk : (12 ≤ k ∧ k < 42) ∧ kA k = (2, n, 0)) (he : e9 < n) (hn : n < 2 ^ 31) (hd : decode I.1 pc = .ok (.iastore, 1)) (k9 : Rn G I Post (pc + 1) ls st (sI M k j e9 x)) : Rn G I Post pc ls (vI x :: vI (nI e9) :: vR k j :: st) M := Rn.iast hk (vp_in_nI he hn) hd (by rw [nI_clamp (by omega)]; exact k9)
theorem Rn.bastN {k j n e9 : Nat} {x z : Int32} (hk : (12 ≤ k ∧ k < 42) ∧ kA k = (0, n, 0)) (he : e9 < n) (hn : n < 2 ^ 31) (hz : vp_nar .byte x = z) (hd : decode I.1 pc = .ok (.bastore, 1)) (k9 : Rn G I Post (pc + 1) ls st (sI M k j e9 z)) : Rn G I Post pc ls (vI x :: vI (nI e9) :: vR k j :: st) M := Rn.bast hk (vp_in_nI he hn) hd (by rw [nI_clamp (by omega), hz]; exact k9)
theorem Rn.zastN {k j n e9 : Nat} {x z : Int32} (hk : (12 ≤ k ∧ k < 42) ∧ kA k = (4, n, 0)) (he : e9 < n) (hn : n < 2 ^ 31) (hz : vp_nar .boolean x = z) (hd : decode I.1 pc = .ok (.bastore, 1)) (k9 : Rn G I Post (pc + 1) ls st (sI M k j e9 z)) : Rn G I Post pc ls (vI x :: vI (nI e9) :: vR k j :: st) M := Rn.zast hk (vp_in_nI he hn) hd (by rw [nI_clamp (by omega), hz]; exact k9)
theorem Rn.castN {k j n e9 : Nat} {x z : Int32} (hk : (12 ≤ k ∧ k < 42) ∧ kA k = (1, n, 0)) (he : e9 < n) (hn : n < 2 ^ 31) (hz : vp_nar .char x = z) (hd : decode I.1 pc = .ok (.castore, 1)) (k9 : Rn G I Post (pc + 1) ls st (sI M k j e9 z)) : Rn G I Post pc ls (vI x :: vI (nI e9) :: vR k j :: st) M := Rn.cast hk (vp_in_nI he hn) hd (by rw [nI_clamp (by omega), hz]; exact k9)
theorem Rn.lastN {k j n e9 : Nat} {x : Int64} (hk : (12 ≤ k ∧ k < 42) ∧ kA k = (3, n, 1)) (he : e9 < n) (hn : n < 2 ^ 31) (hd : decode I.1 pc = .ok (.lastore, 1)) (k9 : Rn G I Post (pc + 1) ls st (sJ M k j e9 x)) : Rn G I Post pc ls (vJ x :: vI (nI e9) :: vR k j :: st) M := Rn.last hk (vp_in_nI he hn) hd (by rw [nI_clamp (by omega)]; exact k9)
end HEAP
end
section
/-! CONTRACTS AND CALLS -/
def MetM (G : GX) (y : MethodName) (I : MIx) (as : List AV) (M : Mem) (Post : Option AV → Mem → Prop) : Prop :=
  okVs as → okM M → ∀ sz : Nat, Met G.1 y (Cond.code y I.1 I.2.2.1 I.2.2.2.1 :: gw_tbl) I.2.2.2.2 (va_Pc (as.map (cv (gA G))) (fun U => U.heap.size = sz ∧ Pw G M U.heap ∧ va_K (gD G) vwCl (tysG G) U ∧ InjG G ∧ RO G (gPool G sz) U U.heap)) (QcM G Post) 0 0 (gPool G sz)
def entA : List AV → List (Option AV)
  | [] => []
  | Sum.inr (Sum.inl x) :: t => some (Sum.inr (Sum.inl x)) :: none :: entA t
  | Sum.inl x :: t => some (Sum.inl x) :: entA t
  | Sum.inr (Sum.inr x) :: t => some (Sum.inr (Sum.inr x)) :: entA t
theorem lvL_none (ad : Nat → Nat → Nat) : ∀ (m n : Nat), lvL ad n (List.replicate m none) = []
  | 0, _ => rfl
  | m + 1, n => by rw [List.replicate_succ, lvL]; exact lvL_none ad m (n + 1)
theorem lvL_ent (ad : Nat → Nat → Nat) (m : Nat) : ∀ (as : List AV) (n : Nat), lvL ad n (entA as ++ List.replicate m none) = lv_args n (as.map (cv ad))
  | [], n => lvL_none ad m n
  | Sum.inl x :: t, n => by
    show (n, Value.int x) :: lvL ad (n + 1) _ = (n, Value.int x) :: lv_args (n + 1) _
    exact congrArg (List.cons _) (lvL_ent ad m t _)
  | Sum.inr (Sum.inl x) :: t, n => by
    show (n, Value.long x) :: lvL ad (n + 1 + 1) _ = (n, Value.long x) :: lv_args (n + 2) _
    exact congrArg (List.cons _) (lvL_ent ad m t _)
  | Sum.inr (Sum.inr none) :: t, n => by
    show (n, Value.null) :: lvL ad (n + 1) _ = (n, Value.null) :: lv_args (n + 1) _
    exact congrArg (List.cons _) (lvL_ent ad m t _)
  | Sum.inr (Sum.inr (some (k, j))) :: t, n => by
    show (n, Value.ref (ad k j)) :: lvL ad (n + 1) _ = (n, Value.ref (ad k j)) :: lv_args (n + 1) _
    exact congrArg (List.cons _) (lvL_ent ad m t _)
theorem ent_len (ad : Nat → Nat → Nat) : ∀ as : List AV, (lg_sl (as.map (cv ad))).length = (entA as).length
  | [] => rfl
  | Sum.inl x :: t => by
    show (lg_sl (t.map (cv ad))).length + 1 = (entA t).length + 1
    rw [ent_len ad t]
  | Sum.inr (Sum.inl x) :: t => by
    show (lg_sl (t.map (cv ad))).length + 1 + 1 = (entA t).length + 1 + 1
    rw [ent_len ad t]
  | Sum.inr (Sum.inr none) :: t => by
    show (lg_sl (t.map (cv ad))).length + 1 = (entA t).length + 1
    rw [ent_len ad t]
  | Sum.inr (Sum.inr (some (k, j))) :: t => by
    show (lg_sl (t.map (cv ad))).length + 1 = (entA t).length + 1
    rw [ent_len ad t]
theorem okLs_ent {as : List AV} (h : okVs as) (m : Nat) : okLs (entA as ++ List.replicate m none) := by
  have key : ∀ (as : List AV), okVs as → ∀ o ∈ entA as, ∀ v, o = some v → okV v := by
    intro as
    induction as with
    | nil => intro _ o ho; cases ho
    | cons a t ih =>
      intro h o ho v e
      rcases a with x | x | x
      · rcases List.mem_cons.mp ho with rfl | ho
        · cases e; exact trivial
        · exact ih h.d o ho v e
      · rcases List.mem_cons.mp ho with rfl | ho
        · cases e; exact trivial
        · rcases List.mem_cons.mp ho with rfl | ho
          · cases e
          · exact ih h.d o ho v e
      · rcases List.mem_cons.mp ho with rfl | ho
        · cases e; exact h.hd
        · exact ih h.d o ho v e
  intro i v hi
  rcases List.mem_append.mp (List.mem_of_getElem? hi) with h1 | h1
  · exact key as h _ h1 v rfl
  · cases (List.eq_of_mem_replicate h1)
theorem MetM.of {G : GX} {y : MethodName} {I : MIx} {as : List AV} {M : Mem} {Post : Option AV → Mem → Prop} {ls : List (Option AV)} (hy : plainName y.cls = true) (hown : I.2.1 = y.cls) (hlen : (entA as).length ≤ I.2.2.1) (hls : entA as ++ List.replicate (I.2.2.1 - (entA as).length) none = ls) (h : okM M → Rn G I Post 0 ls [] M) : MetM G y I as M Post := by
  intro hok hM sz
  refine Met.ofW (cc := I.1) (maxL := I.2.2.1) (ret := I.2.2.2.1) hy rfl ?_
  intro p e s m args below meth c s₁ B hml hv
  obtain ⟨rfl, hsz, hP, hK, hI, hR⟩ := hv
  subst hsz
  have hts := atoms_spec (ws := Cond.code y I.1 I.2.2.1 I.2.2.2.1 :: gw_tbl) B.pre
  have hcx : Cx G I p s m (as.map (cv (gA G))).toArray meth c := ⟨B.exec, B.bytes, hml, B.returns, by rw [hown]; exact findClass_of_methodNamed B.named, fun w hw => hts w (List.mem_cons_of_mem _ hw), hK, B.notSynchronized, hI, hR⟩
  have hl := lv_entry (as.map (cv (gA G))) (n := I.2.2.1) (by rw [ent_len]; exact hlen)
  rw [lg_entry_eq]
  rw [← lvL_ent (gA G) (I.2.2.1 - (entA as).length), hls] at hl
  exact h hM p e s m _ below meth c hcx s.heap [] _ hP va_S.rf hl hM (hls ▸ okLs_ent hok _) (fun v h => nomatch h)
def avc : AV → Nat
  | Sum.inr (Sum.inl _) => 2
  | _ => 1
theorem avc_cat (ad : Nat → Nat → Nat) (v : AV) : (cv ad v).category = avc v := by
  rcases v with x | x | _ | ⟨k, j⟩ <;> rfl
theorem avc_sum (ad : Nat → Nat → Nat) (l : List AV) : ((l.map (cv ad)).map fun v => v.category).sum = (l.map avc).sum := by
  rw [List.map_map]
  congr 1
  apply List.map_congr_left
  intro v _
  exact avc_cat ad v
section CALLS
variable {G : GX} {I : MIx} {Post : Option AV → Mem → Prop} {pc : Nat} {ls : List (Option AV)} {st : List AV} {M : Mem}
theorem Rn.call {P : Option AV → Mem → Prop} {rest : List AV} (hrest : ∀ v ∈ rest, v ∈ st)
    (hr : ∀ (p : Program) (e : Env) (s : State) (m : MethodId) (args : Array Value) (below : List Frame) (meth : Method) (c : Code), Cx G I p s m args meth c → ∀ (H : Heap) (locs : List Loc) (lsA : Array Slot), Pw G M H → va_S (gPool G s.heap.size) s.heap H locs → lv_has lsA I.2.2.1 (lvL (gA G) 0 ls) → okM M → okVs st →
      ∃ a, va_Run p G.1 e I.2.2.2.2 s m args below meth c H locs 0 0 0 0 (F0 m pc lsA (st.map (cv (gA G)))) (rest.map (cv (gA G))) (QcM G P a) (gPool G H.size))
    (kk : ∀ r M', P r M' → Rn G I Post (pc + 3) ls (r.toList ++ rest) M') : Rn G I Post pc ls st M := by
  intro p e s m args below meth c hc H locs lsA hP hS hL hM hLs hSt
  obtain ⟨a, hrun⟩ := hr p e s m args below meth c hc H locs lsA hP hS hL hM hSt
  intro T hT X
  obtain ⟨v, st₀, t, T', L, h0, X', hLf, e1, e2, ⟨⟨r, M', hv, hp, hro, hm', hP'⟩, hz, hk⟩, stp⟩ := hrun T hT X
  rw [h0] at hz hk
  have hsub := gSub (G := G) hS.1
  have hS1 : va_S (gPool G s.heap.size) s.heap T'.heap (locs ++ L) := by
    refine ⟨Nat.le_trans hS.1 (by rw [e1]; exact hz), fun q h1 h2 => ?_, fun q hq => ?_⟩
    · rw [e1, hk q (Nat.lt_of_lt_of_le h1 hS.1) (fun z => h2 (hsub q z))]; exact hS.2.1 q h1 h2
    · rcases List.mem_append.mp hq with h | h
      · exact hS.2.2 q h
      · exact hsub _ (hLf q h)
  obtain ⟨t2, a1, b1⟩ := kk r M' hp p e s m args below meth c hc T'.heap (locs ++ L) lsA (by rw [e1]; exact hP') hS1 hL hm' hLs
    (okVs.app (fun v hv => hro v (by rcases r with _ | x; cases hv; rw [List.mem_singleton.mp hv])) (fun v hv => hSt v (hrest v hv))) T' rfl X'
  refine ⟨t2, stp t2 ?_, b1⟩
  cases hv
  have hstk : (r.toList ++ rest).map (cv (gA G)) = (r.map (cv (gA G))).toList ++ rest.map (cv (gA G)) := by cases r <;> rfl
  rw [hstk] at a1
  exact a1
theorem gw_good {y : MethodName} {b : ByteArray} {n : Nat} {r : Option FieldType} (h : Cond.code y b n r ∈ gw_tbl) {big : List Cond} (hb : ∀ w ∈ gw_tbl, w ∈ big) : GoodIn big (Cond.code y b n r :: gw_tbl) := by
  intro w hw
  have h1 : w ∈ gw_tbl := (List.mem_cons.mp hw).elim (fun e => by rw [e]; exact h) id
  exact ⟨hb w h1, good_of_word (List.mem_filter.mp h1).2⟩
theorem preM {y : MethodName} {Iy : MIx} {as : List AV} {H : Heap} {s : State} {locs : List Loc} {args : Array Value} {p : Program} {m : MethodId} {meth : Method} {c : Code} (hc : Cx G I p s m args meth c) (hP : Pw G M H) (hS : va_S (gPool G s.heap.size) s.heap H locs) :
    FrameBlind (va_Pc (as.map (cv (gA G))) (fun U => U.heap.size = H.size ∧ Pw G M U.heap ∧ va_K (gD G) vwCl (tysG G) U ∧ InjG G ∧ RO G (gPool G H.size) U U.heap)) ∧
    ∀ U : State, U.heap = H → s.WarmedH U.vm → va_Pc (as.map (cv (gA G))) (fun U => U.heap.size = H.size ∧ Pw G M U.heap ∧ va_K (gD G) vwCl (tysG G) U ∧ InjG G ∧ RO G (gPool G H.size) U U.heap) (as.map (cv (gA G))).toArray U := by
  refine ⟨fun a U g mk q => ?_, fun U hU hW => ?_⟩
  · obtain ⟨q0, q1, q2, q3, q4, q5⟩ := q
    exact ⟨q0, q1, q2, va_K.moved (u := U) (U := U.calling g mk a) (Vm.Alike.refl U.vm) q3, q4, RO.same (u := U) (U := U.calling g mk a) rfl q5⟩
  · refine ⟨rfl, by rw [hU], by rw [hU]; exact hP, va_K.moved hW.alike hc.2.2.2.2.2.2.1, hc.2.2.2.2.2.2.2.2.1, ?_⟩
    rw [hU]
    exact RO.warm hW (RO.narrow (RO.kept hc.2.2.2.2.2.2.2.2.2 hS.2.1) (gSub hS.1))
abbrev nMH : String := "java/lang/invoke/MethodHandle"
abbrev nVH : String := "java/lang/invoke/VarHandle"
def CV (own : String) (index : Nat) (C : String) (y : MethodName) (Iy : MIx) (n : Nat) : Prop :=
  (Cond.methodLink own index y ∈ gw_tbl ∧ Cond.instanceMethod y ∈ gw_tbl ∧ Cond.selects C y y ∈ gw_tbl ∧ Cond.initialized C ∈ gw_tbl ∧ Cond.code y Iy.1 Iy.2.2.1 Iy.2.2.2.1 ∈ gw_tbl) ∧ (y.cls = C ∧ y.cls ≠ nMH ∧ y.cls ≠ nVH ∧ (parseMethodDescriptor y.desc).map (fun d => d.parameters.length) = some n) ∧ Iy.2.2.2.2.cells = 0 ∧ Iy.2.2.2.2.slots = 0
def CS (own : String) (index : Nat) (y : MethodName) (Iy : MIx) (n : Nat) : Prop :=
  (Cond.methodLink own index y ∈ gw_tbl ∧ Cond.static y ∈ gw_tbl ∧ Cond.initialized y.cls ∈ gw_tbl ∧ Cond.code y Iy.1 Iy.2.2.1 Iy.2.2.2.1 ∈ gw_tbl) ∧ (y.cls ≠ nMH ∧ y.cls ≠ nVH ∧ (parseMethodDescriptor y.desc).map (fun d => d.parameters.length) = some n) ∧ Iy.2.2.2.2.cells = 0 ∧ Iy.2.2.2.2.slots = 0
def CN (own : String) (index : Nat) (y : MethodName) (Iy : MIx) (n : Nat) : Prop :=
  ((own, index, y) ∈ nmL ∧ Cond.static y ∈ gw_tbl ∧ Cond.initialized y.cls ∈ gw_tbl ∧ Cond.code y Iy.1 Iy.2.2.1 Iy.2.2.2.1 ∈ gw_tbl) ∧ (y.cls ≠ nMH ∧ y.cls ≠ nVH ∧ (parseMethodDescriptor y.desc).map (fun d => d.parameters.length) = some n) ∧ Iy.2.2.2.2.cells = 0 ∧ Iy.2.2.2.2.slots = 0
/-- what a call asks of the rooms -/
def RmOK (I Iy : MIx) : Prop := Iy.2.2.2.2.frames + 1 ≤ I.2.2.2.2.frames ∧ 8 + (Iy.2.2.1 + 11) + Iy.2.2.2.2.locals ≤ I.2.2.2.2.locals
theorem Rn.callV {k j index : Nat} {as rest : List AV} {y : MethodName} {Iy : MIx} {C : String} {T : u_T} {N : Nat} {P : Option AV → Mem → Prop} (hcv : CV I.2.1 index C y Iy as.length) (hkc : k < 12 ∧ vwCl[k]? = some (C, T, N)) (hrm : RmOK I Iy) (hd : decode I.1 pc = .ok (.invokevirtual index, 3)) (hW : (rest.map avc).sum ≤ 8) (hst : st = as.reverse ++ vR k j :: rest) (hm : MetM G y Iy (vR k j :: as) M P)
    (kk : ∀ r M', P r M' → Rn G I Post (pc + 3) ls (r.toList ++ rest) M') : Rn G I Post pc ls st M := by
  subst hst
  refine Rn.call (P := P) (rest := rest) (fun v hv => List.mem_append_right _ (List.mem_cons_of_mem _ hv)) ?_ kk
  intro p e s m args below meth c hc H locs lsA hP hS hL hM hSt
  have hgood : ∀ w ∈ gw_tbl, w.before args s = true := hc.2.2.2.2.2.1
  have hok : okVs (vR k j :: as) := okVs.c (hSt _ (List.mem_append_right _ List.mem_cons_self)) (fun v hv => hSt v (List.mem_append_left _ (List.mem_reverse.mpr hv)))
  have hpl : (k, j) ∈ PL := mem_PL.mpr ⟨by have := hkc.1; omega, hok.hd⟩
  obtain ⟨i, -, hi⟩ := wsM_at (G := G) (M := M) hpl
  rw [cellE_o hkc.1] at hi
  obtain ⟨hb, hPc⟩ := preM (G := G) (I := I) (M := M) (y := y) (Iy := Iy) (as := vR k j :: as) hc hP hS
  have hcw : CallW I.2.2.2.2 s args I.2.1 C index y Iy.1 Iy.2.2.1 Iy.2.2.2.1 (Cond.code y Iy.1 Iy.2.2.1 Iy.2.2.2.1 :: gw_tbl) Iy.2.2.2.2 0 0 (as.map (cv (gA G))).length :=
    ⟨callB_of _ hgood (gw_good hcv.1.2.2.2.2 (fun w h => h)) rfl hcv.2.2.1 hcv.2.2.2 (by rw [hcv.2.1.1]; exact hgood _ hcv.1.2.2.2.1) (hgood _ hcv.1.1) (by rw [List.length_map]; exact hcv.2.1.2) hrm, hgood _ hcv.1.2.1, hgood _ hcv.1.2.2.1⟩
  exact ⟨_, va_runV (Ts := gw_tbl) (As := as.map (cv (gA G))) (rest := rest.map (cv (gA G))) (b := gA G k j) (nL := I.2.2.1) ⟨hc.1, hc.2.1, hc.2.2.1, hc.2.2.2.2.1, hgood⟩ (hm hok hM H.size) hcw ⟨hb, va_recv hc.2.2.2.2.2.2.1 hP hkc.2 hi, hPc⟩ rfl rfl hL.1 (by show List.map (cv (gA G)) (as.reverse ++ vR k j :: rest) = _; rw [List.map_append, List.map_reverse]; rfl) (by rw [avc_sum]; show 0 + _ ≤ 8; omega) hd ⟨Nat.zero_le _, Nat.zero_le _⟩⟩
theorem Rn.callS {index : Nat} {as rest : List AV} {y : MethodName} {Iy : MIx} {P : Option AV → Mem → Prop} (hcv : CS I.2.1 index y Iy as.length) (hrm : RmOK I Iy) (hd : decode I.1 pc = .ok (.invokestatic index, 3)) (hW : (rest.map avc).sum ≤ 8) (hst : st = as.reverse ++ rest) (hm : MetM G y Iy as M P)
    (kk : ∀ r M', P r M' → Rn G I Post (pc + 3) ls (r.toList ++ rest) M') : Rn G I Post pc ls st M := by
  subst hst
  refine Rn.call (P := P) (rest := rest) (fun v hv => List.mem_append_right _ hv) ?_ kk
  intro p e s m args below meth c hc H locs lsA hP hS hL hM hSt
  have hgood : ∀ w ∈ gw_tbl, w.before args s = true := hc.2.2.2.2.2.1
  have hok : okVs as := fun v hv => hSt v (List.mem_append_left _ (List.mem_reverse.mpr hv))
  obtain ⟨hb, hPc⟩ := preM (G := G) (I := I) (M := M) (y := y) (Iy := Iy) (as := as) hc hP hS
  exact ⟨_, va_runS (Ts := gw_tbl) (As := as.map (cv (gA G))) (rest := rest.map (cv (gA G))) (nL := I.2.2.1) ⟨hc.1, hc.2.1, hc.2.2.1, hc.2.2.2.2.1, hgood⟩ (hm hok hM H.size) ⟨callB_of _ hgood (gw_good hcv.1.2.2.2 (fun w h => h)) rfl hcv.2.2.1 hcv.2.2.2 (hgood _ hcv.1.2.2.1) (hgood _ hcv.1.1) (by rw [List.length_map]; exact hcv.2.1) hrm, hgood _ hcv.1.2.1⟩ ⟨hb, hPc⟩ rfl rfl hL.1 (by show List.map (cv (gA G)) (as.reverse ++ rest) = _; rw [List.map_append, List.map_reverse]) (by rw [avc_sum]; show 0 + _ ≤ 8; omega) hd ⟨Nat.zero_le _, Nat.zero_le _⟩⟩
theorem Rn.callN {index : Nat} {as rest : List AV} {y : MethodName} {Iy : MIx} {P : Option AV → Mem → Prop} (hcv : CN I.2.1 index y Iy as.length) (hrm : RmOK I Iy) (hd : decode I.1 pc = .ok (.invokestatic index, 3)) (hW : (rest.map avc).sum ≤ 8) (hst : st = as.reverse ++ rest) (hm : MetM G y Iy as M P)
    (kk : ∀ r M', P r M' → Rn G I Post (pc + 3) ls (r.toList ++ rest) M') : Rn G I Post pc ls st M := by
  subst hst
  refine Rn.call (P := P) (rest := rest) (fun v hv => List.mem_append_right _ hv) ?_ kk
  intro p e s m args below meth c hc H locs lsA hP hS hL hM hSt
  have hgood : ∀ w ∈ gw_tbl, w.before args s = true := hc.2.2.2.2.2.1
  have hok : okVs as := fun v hv => hSt v (List.mem_append_left _ (List.mem_reverse.mpr hv))
  obtain ⟨hb, hPc⟩ := preM (G := G) (I := I) (M := M) (y := y) (Iy := Iy) (as := as) hc hP hS
  exact ⟨_, va_runSN (Ts := gw_tbl) (As := as.map (cv (gA G))) (rest := rest.map (cv (gA G))) (nL := I.2.2.1) (host := "ThumbLinker") ⟨hc.1, hc.2.1, hc.2.2.1, hc.2.2.2.2.1, hgood⟩ (hm hok hM H.size) ⟨va_cnB _ hgood (gw_good hcv.1.2.2.2 (fun w h => h)) rfl hcv.2.2.1 hcv.2.2.2 (hc.2.2.2.2.2.2.2.2.2.2.1 _ hcv.1.1) (hgood _ hcv.1.2.2.1) (by rw [List.length_map]; exact hcv.2.1) hrm, hgood _ hcv.1.2.1, trivial⟩ ⟨hb, hPc⟩ rfl rfl hL.1 (by show List.map (cv (gA G)) (as.reverse ++ rest) = _; rw [List.map_append, List.map_reverse]) (by rw [avc_sum]; show 0 + _ ≤ 8; omega) hd ⟨Nat.zero_le _, Nat.zero_le _⟩⟩
end CALLS
end
