section
-- ===== PART A: goes FIRST, ahead of the names: the tables' words, and 'selects' of the private methods out of them =====
/-- a private method of a class that the tables say can be made, by its rows of tables_1 -/
def lw_okq (q : MethodName × Nat) : Prop := (q.1.cls ≠ "java/lang/invoke/MethodHandle" ∧ q.1.cls ≠ "java/lang/invoke/VarHandle") ∧ Cond.instantiable q.1.cls q.2 ∈ tables_1 ∧ Cond.privateMethod q.1 ∈ tables_1 ∧ Cond.instanceMethod q.1 ∈ tables_1
theorem lw_p0 : lw_okq (⟨"ThumbLinker", "layOutLines", "()Z"⟩, 6) := ⟨⟨by decide +kernel, by decide +kernel⟩, List.mem_of_getElem? (i := 27) (by decide +kernel), List.mem_of_getElem? (i := 344) (by decide +kernel), List.mem_of_getElem? (i := 345) (by decide +kernel)⟩
theorem lw_p1 : lw_okq (⟨"ThumbLinker", "tellGlobals", "()Z"⟩, 6) := ⟨⟨by decide +kernel, by decide +kernel⟩, List.mem_of_getElem? (i := 27) (by decide +kernel), List.mem_of_getElem? (i := 364) (by decide +kernel), List.mem_of_getElem? (i := 365) (by decide +kernel)⟩
theorem lw_p2 : lw_okq (⟨"ThumbLinker", "findRoom", "()Z"⟩, 6) := ⟨⟨by decide +kernel, by decide +kernel⟩, List.mem_of_getElem? (i := 27) (by decide +kernel), List.mem_of_getElem? (i := 377) (by decide +kernel), List.mem_of_getElem? (i := 378) (by decide +kernel)⟩
theorem lw_p3 : lw_okq (⟨"ThumbLinker$Layout", "line", "(II)I"⟩, 4) := ⟨⟨by decide +kernel, by decide +kernel⟩, List.mem_of_getElem? (i := 241) (by decide +kernel), List.mem_of_getElem? (i := 385) (by decide +kernel), List.mem_of_getElem? (i := 386) (by decide +kernel)⟩
theorem lw_p4 : lw_okq (⟨"ThumbLinker", "writeLines", "()Z"⟩, 6) := ⟨⟨by decide +kernel, by decide +kernel⟩, List.mem_of_getElem? (i := 27) (by decide +kernel), List.mem_of_getElem? (i := 393) (by decide +kernel), List.mem_of_getElem? (i := 394) (by decide +kernel)⟩
theorem lw_p5 : lw_okq (⟨"ThumbLinker$Build", "writeWord", "(LThumbLinker$Statement;II)I"⟩, 3) := ⟨⟨by decide +kernel, by decide +kernel⟩, List.mem_of_getElem? (i := 202) (by decide +kernel), List.mem_of_getElem? (i := 401) (by decide +kernel), List.mem_of_getElem? (i := 402) (by decide +kernel)⟩
theorem lw_p6 : lw_okq (⟨"ThumbLinker$Build", "resolve", "(IJ)I"⟩, 3) := ⟨⟨by decide +kernel, by decide +kernel⟩, List.mem_of_getElem? (i := 202) (by decide +kernel), List.mem_of_getElem? (i := 405) (by decide +kernel), List.mem_of_getElem? (i := 406) (by decide +kernel)⟩
theorem lw_p7 : lw_okq (⟨"ThumbLinker$Build", "writeInstruction", "(LThumbLinker$Statement;II)I"⟩, 3) := ⟨⟨by decide +kernel, by decide +kernel⟩, List.mem_of_getElem? (i := 202) (by decide +kernel), List.mem_of_getElem? (i := 428) (by decide +kernel), List.mem_of_getElem? (i := 429) (by decide +kernel)⟩
theorem lw_p8 : lw_okq (⟨"ThumbLinker$Build", "writeCall", "(III)V"⟩, 3) := ⟨⟨by decide +kernel, by decide +kernel⟩, List.mem_of_getElem? (i := 202) (by decide +kernel), List.mem_of_getElem? (i := 438) (by decide +kernel), List.mem_of_getElem? (i := 439) (by decide +kernel)⟩
theorem lw_p9 : lw_okq (⟨"ThumbLinker", "writeVectors", "()Z"⟩, 6) := ⟨⟨by decide +kernel, by decide +kernel⟩, List.mem_of_getElem? (i := 27) (by decide +kernel), List.mem_of_getElem? (i := 446) (by decide +kernel), List.mem_of_getElem? (i := 447) (by decide +kernel)⟩
theorem lw_p10 : lw_okq (⟨"ThumbLinker$Image", "bodyCharacter", "(II)C"⟩, 2) := ⟨⟨by decide +kernel, by decide +kernel⟩, List.mem_of_getElem? (i := 267) (by decide +kernel), List.mem_of_getElem? (i := 520) (by decide +kernel), List.mem_of_getElem? (i := 521) (by decide +kernel)⟩
theorem lw_p11 : lw_okq (⟨"ThumbLinker$Image", "recordByte", "(III)I"⟩, 2) := ⟨⟨by decide +kernel, by decide +kernel⟩, List.mem_of_getElem? (i := 267) (by decide +kernel), List.mem_of_getElem? (i := 527) (by decide +kernel), List.mem_of_getElem? (i := 528) (by decide +kernel)⟩
theorem lw_p12 : lw_okq (⟨"ThumbLinker$Image", "plainRecordByte", "(III)I"⟩, 2) := ⟨⟨by decide +kernel, by decide +kernel⟩, List.mem_of_getElem? (i := 267) (by decide +kernel), List.mem_of_getElem? (i := 531) (by decide +kernel), List.mem_of_getElem? (i := 532) (by decide +kernel)⟩
theorem lw_p13 : lw_okq (⟨"java/lang/Throwable", "fillInStackTrace", "(I)Ljava/lang/Throwable;"⟩, 6) := ⟨⟨by decide +kernel, by decide +kernel⟩, List.mem_of_getElem? (i := 586) (by decide +kernel), List.mem_of_getElem? (i := 584) (by decide +kernel), List.mem_of_getElem? (i := 585) (by decide +kernel)⟩
theorem lw_p14 : lw_okq (⟨"ThumbLinker$Parser", "label", "(LThumbLinker$Statement;)V"⟩, 1) := ⟨⟨by decide +kernel, by decide +kernel⟩, List.mem_of_getElem? (i := 142) (by decide +kernel), List.mem_of_getElem? (i := 669) (by decide +kernel), List.mem_of_getElem? (i := 670) (by decide +kernel)⟩
theorem lw_p15 : lw_okq (⟨"ThumbLinker$Parser", "directive", "(LThumbLinker$Mnemonic;LThumbLinker$Statement;)V"⟩, 1) := ⟨⟨by decide +kernel, by decide +kernel⟩, List.mem_of_getElem? (i := 142) (by decide +kernel), List.mem_of_getElem? (i := 716) (by decide +kernel), List.mem_of_getElem? (i := 717) (by decide +kernel)⟩
def lw_privs_1 : List (MethodName × Nat) := [(⟨"ThumbLinker", "layOutLines", "()Z"⟩, 6), (⟨"ThumbLinker", "tellGlobals", "()Z"⟩, 6), (⟨"ThumbLinker", "findRoom", "()Z"⟩, 6), (⟨"ThumbLinker$Layout", "line", "(II)I"⟩, 4), (⟨"ThumbLinker", "writeLines", "()Z"⟩, 6), (⟨"ThumbLinker$Build", "writeWord", "(LThumbLinker$Statement;II)I"⟩, 3), (⟨"ThumbLinker$Build", "resolve", "(IJ)I"⟩, 3), (⟨"ThumbLinker$Build", "writeInstruction", "(LThumbLinker$Statement;II)I"⟩, 3), (⟨"ThumbLinker$Build", "writeCall", "(III)V"⟩, 3), (⟨"ThumbLinker", "writeVectors", "()Z"⟩, 6), (⟨"ThumbLinker$Image", "bodyCharacter", "(II)C"⟩, 2), (⟨"ThumbLinker$Image", "recordByte", "(III)I"⟩, 2), (⟨"ThumbLinker$Image", "plainRecordByte", "(III)I"⟩, 2), (⟨"java/lang/Throwable", "fillInStackTrace", "(I)Ljava/lang/Throwable;"⟩, 6), (⟨"ThumbLinker$Parser", "label", "(LThumbLinker$Statement;)V"⟩, 1), (⟨"ThumbLinker$Parser", "directive", "(LThumbLinker$Mnemonic;LThumbLinker$Statement;)V"⟩, 1)]
theorem lw_r1 : ∀ q ∈ lw_privs_1, lw_okq q := List.forall_mem_cons.mpr ⟨lw_p0, List.forall_mem_cons.mpr ⟨lw_p1, List.forall_mem_cons.mpr ⟨lw_p2, List.forall_mem_cons.mpr ⟨lw_p3, List.forall_mem_cons.mpr ⟨lw_p4, List.forall_mem_cons.mpr ⟨lw_p5, List.forall_mem_cons.mpr ⟨lw_p6, List.forall_mem_cons.mpr ⟨lw_p7, List.forall_mem_cons.mpr ⟨lw_p8, List.forall_mem_cons.mpr ⟨lw_p9, List.forall_mem_cons.mpr ⟨lw_p10, List.forall_mem_cons.mpr ⟨lw_p11, List.forall_mem_cons.mpr ⟨lw_p12, List.forall_mem_cons.mpr ⟨lw_p13, List.forall_mem_cons.mpr ⟨lw_p14, List.forall_mem_cons.mpr ⟨lw_p15, fun _ h => absurd h List.not_mem_nil⟩⟩⟩⟩⟩⟩⟩⟩⟩⟩⟩⟩⟩⟩⟩⟩
theorem lw_p16 : lw_okq (⟨"ThumbLinker$Parser", "reference", "(LThumbLinker$Statement;)V"⟩, 1) := ⟨⟨by decide +kernel, by decide +kernel⟩, List.mem_of_getElem? (i := 142) (by decide +kernel), List.mem_of_getElem? (i := 720) (by decide +kernel), List.mem_of_getElem? (i := 721) (by decide +kernel)⟩
theorem lw_p17 : lw_okq (⟨"ThumbLinker$Parser", "value", "(LThumbLinker$Statement;)V"⟩, 1) := ⟨⟨by decide +kernel, by decide +kernel⟩, List.mem_of_getElem? (i := 142) (by decide +kernel), List.mem_of_getElem? (i := 730) (by decide +kernel), List.mem_of_getElem? (i := 731) (by decide +kernel)⟩
theorem lw_p18 : lw_okq (⟨"ThumbLinker$Parser", "instruction", "(LThumbLinker$Mnemonic;LThumbLinker$Statement;)V"⟩, 1) := ⟨⟨by decide +kernel, by decide +kernel⟩, List.mem_of_getElem? (i := 142) (by decide +kernel), List.mem_of_getElem? (i := 748) (by decide +kernel), List.mem_of_getElem? (i := 749) (by decide +kernel)⟩
theorem lw_p19 : lw_okq (⟨"ThumbLinker$Parser", "move", "(LThumbLinker$Mnemonic;)I"⟩, 1) := ⟨⟨by decide +kernel, by decide +kernel⟩, List.mem_of_getElem? (i := 142) (by decide +kernel), List.mem_of_getElem? (i := 752) (by decide +kernel), List.mem_of_getElem? (i := 753) (by decide +kernel)⟩
theorem lw_p20 : lw_okq (⟨"ThumbLinker$Parser", "firstRegister", "()I"⟩, 1) := ⟨⟨by decide +kernel, by decide +kernel⟩, List.mem_of_getElem? (i := 142) (by decide +kernel), List.mem_of_getElem? (i := 756) (by decide +kernel), List.mem_of_getElem? (i := 757) (by decide +kernel)⟩
theorem lw_p21 : lw_okq (⟨"ThumbLinker$Parser", "sum", "(LThumbLinker$Mnemonic;)I"⟩, 1) := ⟨⟨by decide +kernel, by decide +kernel⟩, List.mem_of_getElem? (i := 142) (by decide +kernel), List.mem_of_getElem? (i := 772) (by decide +kernel), List.mem_of_getElem? (i := 773) (by decide +kernel)⟩
theorem lw_p22 : lw_okq (⟨"ThumbLinker$Parser", "shift", "(LThumbLinker$Mnemonic;)I"⟩, 1) := ⟨⟨by decide +kernel, by decide +kernel⟩, List.mem_of_getElem? (i := 142) (by decide +kernel), List.mem_of_getElem? (i := 776) (by decide +kernel), List.mem_of_getElem? (i := 777) (by decide +kernel)⟩
theorem lw_p23 : lw_okq (⟨"ThumbLinker$Parser", "pair", "(LThumbLinker$Mnemonic;)I"⟩, 1) := ⟨⟨by decide +kernel, by decide +kernel⟩, List.mem_of_getElem? (i := 142) (by decide +kernel), List.mem_of_getElem? (i := 780) (by decide +kernel), List.mem_of_getElem? (i := 781) (by decide +kernel)⟩
theorem lw_p24 : lw_okq (⟨"ThumbLinker$Parser", "memory", "(I)I"⟩, 1) := ⟨⟨by decide +kernel, by decide +kernel⟩, List.mem_of_getElem? (i := 142) (by decide +kernel), List.mem_of_getElem? (i := 785) (by decide +kernel), List.mem_of_getElem? (i := 786) (by decide +kernel)⟩
theorem lw_p25 : lw_okq (⟨"ThumbLinker$Parser", "list", "(Ljava/lang/String;)I"⟩, 1) := ⟨⟨by decide +kernel, by decide +kernel⟩, List.mem_of_getElem? (i := 142) (by decide +kernel), List.mem_of_getElem? (i := 790) (by decide +kernel), List.mem_of_getElem? (i := 791) (by decide +kernel)⟩
theorem lw_p26 : lw_okq (⟨"ThumbLinker$Parser", "exchanged", "()I"⟩, 1) := ⟨⟨by decide +kernel, by decide +kernel⟩, List.mem_of_getElem? (i := 142) (by decide +kernel), List.mem_of_getElem? (i := 797) (by decide +kernel), List.mem_of_getElem? (i := 798) (by decide +kernel)⟩
theorem lw_p27 : lw_okq (⟨"ThumbLinkerModel", "forget", "()V"⟩, 40) := ⟨⟨by decide +kernel, by decide +kernel⟩, List.mem_of_getElem? (i := 840) (by decide +kernel), List.mem_of_getElem? (i := 846) (by decide +kernel), List.mem_of_getElem? (i := 847) (by decide +kernel)⟩
theorem lw_p28 : lw_okq (⟨"ThumbLinkerModel", "put", "(II)V"⟩, 40) := ⟨⟨by decide +kernel, by decide +kernel⟩, List.mem_of_getElem? (i := 840) (by decide +kernel), List.mem_of_getElem? (i := 979) (by decide +kernel), List.mem_of_getElem? (i := 980) (by decide +kernel)⟩
theorem lw_p29 : lw_okq (⟨"ThumbLinkerModel", "refused", "(I)Z"⟩, 40) := ⟨⟨by decide +kernel, by decide +kernel⟩, List.mem_of_getElem? (i := 840) (by decide +kernel), List.mem_of_getElem? (i := 983) (by decide +kernel), List.mem_of_getElem? (i := 984) (by decide +kernel)⟩
theorem lw_p30 : lw_okq (⟨"ThumbLinkerModel", "store", "(I)V"⟩, 40) := ⟨⟨by decide +kernel, by decide +kernel⟩, List.mem_of_getElem? (i := 840) (by decide +kernel), List.mem_of_getElem? (i := 998) (by decide +kernel), List.mem_of_getElem? (i := 999) (by decide +kernel)⟩
theorem lw_p31 : lw_okq (⟨"ThumbLinkerModel", "firstPass", "()I"⟩, 40) := ⟨⟨by decide +kernel, by decide +kernel⟩, List.mem_of_getElem? (i := 840) (by decide +kernel), List.mem_of_getElem? (i := 1014) (by decide +kernel), List.mem_of_getElem? (i := 1015) (by decide +kernel)⟩
def lw_privs_2 : List (MethodName × Nat) := [(⟨"ThumbLinker$Parser", "reference", "(LThumbLinker$Statement;)V"⟩, 1), (⟨"ThumbLinker$Parser", "value", "(LThumbLinker$Statement;)V"⟩, 1), (⟨"ThumbLinker$Parser", "instruction", "(LThumbLinker$Mnemonic;LThumbLinker$Statement;)V"⟩, 1), (⟨"ThumbLinker$Parser", "move", "(LThumbLinker$Mnemonic;)I"⟩, 1), (⟨"ThumbLinker$Parser", "firstRegister", "()I"⟩, 1), (⟨"ThumbLinker$Parser", "sum", "(LThumbLinker$Mnemonic;)I"⟩, 1), (⟨"ThumbLinker$Parser", "shift", "(LThumbLinker$Mnemonic;)I"⟩, 1), (⟨"ThumbLinker$Parser", "pair", "(LThumbLinker$Mnemonic;)I"⟩, 1), (⟨"ThumbLinker$Parser", "memory", "(I)I"⟩, 1), (⟨"ThumbLinker$Parser", "list", "(Ljava/lang/String;)I"⟩, 1), (⟨"ThumbLinker$Parser", "exchanged", "()I"⟩, 1), (⟨"ThumbLinkerModel", "forget", "()V"⟩, 40), (⟨"ThumbLinkerModel", "put", "(II)V"⟩, 40), (⟨"ThumbLinkerModel", "refused", "(I)Z"⟩, 40), (⟨"ThumbLinkerModel", "store", "(I)V"⟩, 40), (⟨"ThumbLinkerModel", "firstPass", "()I"⟩, 40)]
theorem lw_r2 : ∀ q ∈ lw_privs_2, lw_okq q := List.forall_mem_cons.mpr ⟨lw_p16, List.forall_mem_cons.mpr ⟨lw_p17, List.forall_mem_cons.mpr ⟨lw_p18, List.forall_mem_cons.mpr ⟨lw_p19, List.forall_mem_cons.mpr ⟨lw_p20, List.forall_mem_cons.mpr ⟨lw_p21, List.forall_mem_cons.mpr ⟨lw_p22, List.forall_mem_cons.mpr ⟨lw_p23, List.forall_mem_cons.mpr ⟨lw_p24, List.forall_mem_cons.mpr ⟨lw_p25, List.forall_mem_cons.mpr ⟨lw_p26, List.forall_mem_cons.mpr ⟨lw_p27, List.forall_mem_cons.mpr ⟨lw_p28, List.forall_mem_cons.mpr ⟨lw_p29, List.forall_mem_cons.mpr ⟨lw_p30, List.forall_mem_cons.mpr ⟨lw_p31, fun _ h => absurd h List.not_mem_nil⟩⟩⟩⟩⟩⟩⟩⟩⟩⟩⟩⟩⟩⟩⟩⟩
theorem lw_p32 : lw_okq (⟨"ThumbLinkerModel", "read", "(IIZ)V"⟩, 40) := ⟨⟨by decide +kernel, by decide +kernel⟩, List.mem_of_getElem? (i := 840) (by decide +kernel), List.mem_of_getElem? (i := 1018) (by decide +kernel), List.mem_of_getElem? (i := 1019) (by decide +kernel)⟩
theorem lw_p33 : lw_okq (⟨"ThumbLinkerModel", "next", "()C"⟩, 40) := ⟨⟨by decide +kernel, by decide +kernel⟩, List.mem_of_getElem? (i := 840) (by decide +kernel), List.mem_of_getElem? (i := 1022) (by decide +kernel), List.mem_of_getElem? (i := 1023) (by decide +kernel)⟩
theorem lw_p34 : lw_okq (⟨"ThumbLinkerModel", "wordEnd", "()I"⟩, 40) := ⟨⟨by decide +kernel, by decide +kernel⟩, List.mem_of_getElem? (i := 840) (by decide +kernel), List.mem_of_getElem? (i := 1026) (by decide +kernel), List.mem_of_getElem? (i := 1027) (by decide +kernel)⟩
theorem lw_p35 : lw_okq (⟨"ThumbLinkerModel", "isName", "(II)Z"⟩, 40) := ⟨⟨by decide +kernel, by decide +kernel⟩, List.mem_of_getElem? (i := 840) (by decide +kernel), List.mem_of_getElem? (i := 1039) (by decide +kernel), List.mem_of_getElem? (i := 1040) (by decide +kernel)⟩
theorem lw_p36 : lw_okq (⟨"ThumbLinkerModel", "isTwice", "(I)Z"⟩, 40) := ⟨⟨by decide +kernel, by decide +kernel⟩, List.mem_of_getElem? (i := 840) (by decide +kernel), List.mem_of_getElem? (i := 1043) (by decide +kernel), List.mem_of_getElem? (i := 1044) (by decide +kernel)⟩
theorem lw_p37 : lw_okq (⟨"ThumbLinkerModel", "labelOf", "(IIII)I"⟩, 40) := ⟨⟨by decide +kernel, by decide +kernel⟩, List.mem_of_getElem? (i := 840) (by decide +kernel), List.mem_of_getElem? (i := 1047) (by decide +kernel), List.mem_of_getElem? (i := 1048) (by decide +kernel)⟩
theorem lw_p38 : lw_okq (⟨"ThumbLinkerModel", "wrong", "(II)V"⟩, 40) := ⟨⟨by decide +kernel, by decide +kernel⟩, List.mem_of_getElem? (i := 840) (by decide +kernel), List.mem_of_getElem? (i := 1051) (by decide +kernel), List.mem_of_getElem? (i := 1052) (by decide +kernel)⟩
theorem lw_p39 : lw_okq (⟨"ThumbLinkerModel", "directive", "(II)Z"⟩, 40) := ⟨⟨by decide +kernel, by decide +kernel⟩, List.mem_of_getElem? (i := 840) (by decide +kernel), List.mem_of_getElem? (i := 1055) (by decide +kernel), List.mem_of_getElem? (i := 1056) (by decide +kernel)⟩
theorem lw_p40 : lw_okq (⟨"ThumbLinkerModel", "isWord", "(IIJ)Z"⟩, 40) := ⟨⟨by decide +kernel, by decide +kernel⟩, List.mem_of_getElem? (i := 840) (by decide +kernel), List.mem_of_getElem? (i := 1060) (by decide +kernel), List.mem_of_getElem? (i := 1061) (by decide +kernel)⟩
theorem lw_p41 : lw_okq (⟨"ThumbLinkerModel", "readName", "()V"⟩, 40) := ⟨⟨by decide +kernel, by decide +kernel⟩, List.mem_of_getElem? (i := 840) (by decide +kernel), List.mem_of_getElem? (i := 1068) (by decide +kernel), List.mem_of_getElem? (i := 1069) (by decide +kernel)⟩
theorem lw_p42 : lw_okq (⟨"ThumbLinkerModel", "word", "()V"⟩, 40) := ⟨⟨by decide +kernel, by decide +kernel⟩, List.mem_of_getElem? (i := 840) (by decide +kernel), List.mem_of_getElem? (i := 1073) (by decide +kernel), List.mem_of_getElem? (i := 1074) (by decide +kernel)⟩
theorem lw_p43 : lw_okq (⟨"ThumbLinkerModel", "readNumber", "(III)I"⟩, 40) := ⟨⟨by decide +kernel, by decide +kernel⟩, List.mem_of_getElem? (i := 840) (by decide +kernel), List.mem_of_getElem? (i := 1077) (by decide +kernel), List.mem_of_getElem? (i := 1078) (by decide +kernel)⟩
theorem lw_p44 : lw_okq (⟨"ThumbLinkerModel", "digits", "()I"⟩, 40) := ⟨⟨by decide +kernel, by decide +kernel⟩, List.mem_of_getElem? (i := 840) (by decide +kernel), List.mem_of_getElem? (i := 1081) (by decide +kernel), List.mem_of_getElem? (i := 1082) (by decide +kernel)⟩
theorem lw_p45 : lw_okq (⟨"ThumbLinkerModel", "takes", "(C)Z"⟩, 40) := ⟨⟨by decide +kernel, by decide +kernel⟩, List.mem_of_getElem? (i := 840) (by decide +kernel), List.mem_of_getElem? (i := 1085) (by decide +kernel), List.mem_of_getElem? (i := 1086) (by decide +kernel)⟩
theorem lw_p46 : lw_okq (⟨"ThumbLinkerModel", "simple", "(II)Z"⟩, 40) := ⟨⟨by decide +kernel, by decide +kernel⟩, List.mem_of_getElem? (i := 840) (by decide +kernel), List.mem_of_getElem? (i := 1092) (by decide +kernel), List.mem_of_getElem? (i := 1093) (by decide +kernel)⟩
theorem lw_p47 : lw_okq (⟨"ThumbLinkerModel", "plain", "(I)V"⟩, 40) := ⟨⟨by decide +kernel, by decide +kernel⟩, List.mem_of_getElem? (i := 840) (by decide +kernel), List.mem_of_getElem? (i := 1098) (by decide +kernel), List.mem_of_getElem? (i := 1099) (by decide +kernel)⟩
def lw_privs_3 : List (MethodName × Nat) := [(⟨"ThumbLinkerModel", "read", "(IIZ)V"⟩, 40), (⟨"ThumbLinkerModel", "next", "()C"⟩, 40), (⟨"ThumbLinkerModel", "wordEnd", "()I"⟩, 40), (⟨"ThumbLinkerModel", "isName", "(II)Z"⟩, 40), (⟨"ThumbLinkerModel", "isTwice", "(I)Z"⟩, 40), (⟨"ThumbLinkerModel", "labelOf", "(IIII)I"⟩, 40), (⟨"ThumbLinkerModel", "wrong", "(II)V"⟩, 40), (⟨"ThumbLinkerModel", "directive", "(II)Z"⟩, 40), (⟨"ThumbLinkerModel", "isWord", "(IIJ)Z"⟩, 40), (⟨"ThumbLinkerModel", "readName", "()V"⟩, 40), (⟨"ThumbLinkerModel", "word", "()V"⟩, 40), (⟨"ThumbLinkerModel", "readNumber", "(III)I"⟩, 40), (⟨"ThumbLinkerModel", "digits", "()I"⟩, 40), (⟨"ThumbLinkerModel", "takes", "(C)Z"⟩, 40), (⟨"ThumbLinkerModel", "simple", "(II)Z"⟩, 40), (⟨"ThumbLinkerModel", "plain", "(I)V"⟩, 40)]
theorem lw_r3 : ∀ q ∈ lw_privs_3, lw_okq q := List.forall_mem_cons.mpr ⟨lw_p32, List.forall_mem_cons.mpr ⟨lw_p33, List.forall_mem_cons.mpr ⟨lw_p34, List.forall_mem_cons.mpr ⟨lw_p35, List.forall_mem_cons.mpr ⟨lw_p36, List.forall_mem_cons.mpr ⟨lw_p37, List.forall_mem_cons.mpr ⟨lw_p38, List.forall_mem_cons.mpr ⟨lw_p39, List.forall_mem_cons.mpr ⟨lw_p40, List.forall_mem_cons.mpr ⟨lw_p41, List.forall_mem_cons.mpr ⟨lw_p42, List.forall_mem_cons.mpr ⟨lw_p43, List.forall_mem_cons.mpr ⟨lw_p44, List.forall_mem_cons.mpr ⟨lw_p45, List.forall_mem_cons.mpr ⟨lw_p46, List.forall_mem_cons.mpr ⟨lw_p47, fun _ h => absurd h List.not_mem_nil⟩⟩⟩⟩⟩⟩⟩⟩⟩⟩⟩⟩⟩⟩⟩⟩
theorem lw_p48 : lw_okq (⟨"ThumbLinkerModel", "oneOrNumber", "(II)V"⟩, 40) := ⟨⟨by decide +kernel, by decide +kernel⟩, List.mem_of_getElem? (i := 840) (by decide +kernel), List.mem_of_getElem? (i := 1103) (by decide +kernel), List.mem_of_getElem? (i := 1104) (by decide +kernel)⟩
theorem lw_p49 : lw_okq (⟨"ThumbLinkerModel", "register", "()I"⟩, 40) := ⟨⟨by decide +kernel, by decide +kernel⟩, List.mem_of_getElem? (i := 840) (by decide +kernel), List.mem_of_getElem? (i := 1107) (by decide +kernel), List.mem_of_getElem? (i := 1108) (by decide +kernel)⟩
theorem lw_p50 : lw_okq (⟨"ThumbLinkerModel", "want", "(C)V"⟩, 40) := ⟨⟨by decide +kernel, by decide +kernel⟩, List.mem_of_getElem? (i := 840) (by decide +kernel), List.mem_of_getElem? (i := 1111) (by decide +kernel), List.mem_of_getElem? (i := 1112) (by decide +kernel)⟩
theorem lw_p51 : lw_okq (⟨"ThumbLinkerModel", "immediate", "(III)I"⟩, 40) := ⟨⟨by decide +kernel, by decide +kernel⟩, List.mem_of_getElem? (i := 840) (by decide +kernel), List.mem_of_getElem? (i := 1115) (by decide +kernel), List.mem_of_getElem? (i := 1116) (by decide +kernel)⟩
theorem lw_p52 : lw_okq (⟨"ThumbLinkerModel", "sums", "(II)V"⟩, 40) := ⟨⟨by decide +kernel, by decide +kernel⟩, List.mem_of_getElem? (i := 840) (by decide +kernel), List.mem_of_getElem? (i := 1121) (by decide +kernel), List.mem_of_getElem? (i := 1122) (by decide +kernel)⟩
theorem lw_p53 : lw_okq (⟨"ThumbLinkerModel", "shifts", "(III)V"⟩, 40) := ⟨⟨by decide +kernel, by decide +kernel⟩, List.mem_of_getElem? (i := 840) (by decide +kernel), List.mem_of_getElem? (i := 1127) (by decide +kernel), List.mem_of_getElem? (i := 1128) (by decide +kernel)⟩
theorem lw_p54 : lw_okq (⟨"ThumbLinkerModel", "pairOf", "(II)I"⟩, 40) := ⟨⟨by decide +kernel, by decide +kernel⟩, List.mem_of_getElem? (i := 840) (by decide +kernel), List.mem_of_getElem? (i := 1133) (by decide +kernel), List.mem_of_getElem? (i := 1134) (by decide +kernel)⟩
theorem lw_p55 : lw_okq (⟨"ThumbLinkerModel", "two", "(I)V"⟩, 40) := ⟨⟨by decide +kernel, by decide +kernel⟩, List.mem_of_getElem? (i := 840) (by decide +kernel), List.mem_of_getElem? (i := 1147) (by decide +kernel), List.mem_of_getElem? (i := 1148) (by decide +kernel)⟩
theorem lw_p56 : lw_okq (⟨"ThumbLinkerModel", "other", "(II)Z"⟩, 40) := ⟨⟨by decide +kernel, by decide +kernel⟩, List.mem_of_getElem? (i := 840) (by decide +kernel), List.mem_of_getElem? (i := 1151) (by decide +kernel), List.mem_of_getElem? (i := 1152) (by decide +kernel)⟩
theorem lw_p57 : lw_okq (⟨"ThumbLinkerModel", "memory", "(IIZ)V"⟩, 40) := ⟨⟨by decide +kernel, by decide +kernel⟩, List.mem_of_getElem? (i := 840) (by decide +kernel), List.mem_of_getElem? (i := 1156) (by decide +kernel), List.mem_of_getElem? (i := 1157) (by decide +kernel)⟩
theorem lw_p58 : lw_okq (⟨"ThumbLinkerModel", "listed", "(IJ)V"⟩, 40) := ⟨⟨by decide +kernel, by decide +kernel⟩, List.mem_of_getElem? (i := 840) (by decide +kernel), List.mem_of_getElem? (i := 1166) (by decide +kernel), List.mem_of_getElem? (i := 1167) (by decide +kernel)⟩
theorem lw_p59 : lw_okq (⟨"ThumbLinkerModel", "jump", "(II)V"⟩, 40) := ⟨⟨by decide +kernel, by decide +kernel⟩, List.mem_of_getElem? (i := 840) (by decide +kernel), List.mem_of_getElem? (i := 1175) (by decide +kernel), List.mem_of_getElem? (i := 1176) (by decide +kernel)⟩
theorem lw_p60 : lw_okq (⟨"ThumbLinkerModel", "condition", "(II)I"⟩, 40) := ⟨⟨by decide +kernel, by decide +kernel⟩, List.mem_of_getElem? (i := 840) (by decide +kernel), List.mem_of_getElem? (i := 1181) (by decide +kernel), List.mem_of_getElem? (i := 1182) (by decide +kernel)⟩
theorem lw_p61 : lw_okq (⟨"ThumbLinkerModel", "report", "(IIII)I"⟩, 40) := ⟨⟨by decide +kernel, by decide +kernel⟩, List.mem_of_getElem? (i := 840) (by decide +kernel), List.mem_of_getElem? (i := 1186) (by decide +kernel), List.mem_of_getElem? (i := 1187) (by decide +kernel)⟩
theorem lw_p62 : lw_okq (⟨"ThumbLinkerModel", "addLabel", "(I)V"⟩, 40) := ⟨⟨by decide +kernel, by decide +kernel⟩, List.mem_of_getElem? (i := 840) (by decide +kernel), List.mem_of_getElem? (i := 1190) (by decide +kernel), List.mem_of_getElem? (i := 1191) (by decide +kernel)⟩
theorem lw_p63 : lw_okq (⟨"ThumbLinkerModel", "lay", "(I)I"⟩, 40) := ⟨⟨by decide +kernel, by decide +kernel⟩, List.mem_of_getElem? (i := 840) (by decide +kernel), List.mem_of_getElem? (i := 1194) (by decide +kernel), List.mem_of_getElem? (i := 1195) (by decide +kernel)⟩
def lw_privs_4 : List (MethodName × Nat) := [(⟨"ThumbLinkerModel", "oneOrNumber", "(II)V"⟩, 40), (⟨"ThumbLinkerModel", "register", "()I"⟩, 40), (⟨"ThumbLinkerModel", "want", "(C)V"⟩, 40), (⟨"ThumbLinkerModel", "immediate", "(III)I"⟩, 40), (⟨"ThumbLinkerModel", "sums", "(II)V"⟩, 40), (⟨"ThumbLinkerModel", "shifts", "(III)V"⟩, 40), (⟨"ThumbLinkerModel", "pairOf", "(II)I"⟩, 40), (⟨"ThumbLinkerModel", "two", "(I)V"⟩, 40), (⟨"ThumbLinkerModel", "other", "(II)Z"⟩, 40), (⟨"ThumbLinkerModel", "memory", "(IIZ)V"⟩, 40), (⟨"ThumbLinkerModel", "listed", "(IJ)V"⟩, 40), (⟨"ThumbLinkerModel", "jump", "(II)V"⟩, 40), (⟨"ThumbLinkerModel", "condition", "(II)I"⟩, 40), (⟨"ThumbLinkerModel", "report", "(IIII)I"⟩, 40), (⟨"ThumbLinkerModel", "addLabel", "(I)V"⟩, 40), (⟨"ThumbLinkerModel", "lay", "(I)I"⟩, 40)]
theorem lw_r4 : ∀ q ∈ lw_privs_4, lw_okq q := List.forall_mem_cons.mpr ⟨lw_p48, List.forall_mem_cons.mpr ⟨lw_p49, List.forall_mem_cons.mpr ⟨lw_p50, List.forall_mem_cons.mpr ⟨lw_p51, List.forall_mem_cons.mpr ⟨lw_p52, List.forall_mem_cons.mpr ⟨lw_p53, List.forall_mem_cons.mpr ⟨lw_p54, List.forall_mem_cons.mpr ⟨lw_p55, List.forall_mem_cons.mpr ⟨lw_p56, List.forall_mem_cons.mpr ⟨lw_p57, List.forall_mem_cons.mpr ⟨lw_p58, List.forall_mem_cons.mpr ⟨lw_p59, List.forall_mem_cons.mpr ⟨lw_p60, List.forall_mem_cons.mpr ⟨lw_p61, List.forall_mem_cons.mpr ⟨lw_p62, List.forall_mem_cons.mpr ⟨lw_p63, fun _ h => absurd h List.not_mem_nil⟩⟩⟩⟩⟩⟩⟩⟩⟩⟩⟩⟩⟩⟩⟩⟩
theorem lw_p64 : lw_okq (⟨"ThumbLinkerModel", "putByte", "(II)V"⟩, 40) := ⟨⟨by decide +kernel, by decide +kernel⟩, List.mem_of_getElem? (i := 840) (by decide +kernel), List.mem_of_getElem? (i := 1198) (by decide +kernel), List.mem_of_getElem? (i := 1199) (by decide +kernel)⟩
theorem lw_p65 : lw_okq (⟨"ThumbLinkerModel", "putMany", "(III)V"⟩, 40) := ⟨⟨by decide +kernel, by decide +kernel⟩, List.mem_of_getElem? (i := 840) (by decide +kernel), List.mem_of_getElem? (i := 1202) (by decide +kernel), List.mem_of_getElem? (i := 1203) (by decide +kernel)⟩
theorem lw_p66 : lw_okq (⟨"ThumbLinkerModel", "secondPass", "()I"⟩, 40) := ⟨⟨by decide +kernel, by decide +kernel⟩, List.mem_of_getElem? (i := 840) (by decide +kernel), List.mem_of_getElem? (i := 1206) (by decide +kernel), List.mem_of_getElem? (i := 1207) (by decide +kernel)⟩
theorem lw_p67 : lw_okq (⟨"ThumbLinkerModel", "isGlobalName", "(II)Z"⟩, 40) := ⟨⟨by decide +kernel, by decide +kernel⟩, List.mem_of_getElem? (i := 840) (by decide +kernel), List.mem_of_getElem? (i := 1210) (by decide +kernel), List.mem_of_getElem? (i := 1211) (by decide +kernel)⟩
theorem lw_p68 : lw_okq (⟨"ThumbLinkerModel", "globalOf", "(II)I"⟩, 40) := ⟨⟨by decide +kernel, by decide +kernel⟩, List.mem_of_getElem? (i := 840) (by decide +kernel), List.mem_of_getElem? (i := 1214) (by decide +kernel), List.mem_of_getElem? (i := 1215) (by decide +kernel)⟩
theorem lw_p69 : lw_okq (⟨"ThumbLinkerModel", "place", "(IIZ)I"⟩, 40) := ⟨⟨by decide +kernel, by decide +kernel⟩, List.mem_of_getElem? (i := 840) (by decide +kernel), List.mem_of_getElem? (i := 1218) (by decide +kernel), List.mem_of_getElem? (i := 1219) (by decide +kernel)⟩
theorem lw_p70 : lw_okq (⟨"ThumbLinkerModel", "thirdPass", "()I"⟩, 40) := ⟨⟨by decide +kernel, by decide +kernel⟩, List.mem_of_getElem? (i := 840) (by decide +kernel), List.mem_of_getElem? (i := 1227) (by decide +kernel), List.mem_of_getElem? (i := 1228) (by decide +kernel)⟩
theorem lw_p71 : lw_okq (⟨"ThumbLinkerModel", "resolve", "(IIII)Z"⟩, 40) := ⟨⟨by decide +kernel, by decide +kernel⟩, List.mem_of_getElem? (i := 840) (by decide +kernel), List.mem_of_getElem? (i := 1231) (by decide +kernel), List.mem_of_getElem? (i := 1232) (by decide +kernel)⟩
theorem lw_p72 : lw_okq (⟨"ThumbLinkerModel", "addressOf", "(I)I"⟩, 40) := ⟨⟨by decide +kernel, by decide +kernel⟩, List.mem_of_getElem? (i := 840) (by decide +kernel), List.mem_of_getElem? (i := 1235) (by decide +kernel), List.mem_of_getElem? (i := 1236) (by decide +kernel)⟩
theorem lw_p73 : lw_okq (⟨"ThumbLinkerModel", "setHalf", "(III)V"⟩, 40) := ⟨⟨by decide +kernel, by decide +kernel⟩, List.mem_of_getElem? (i := 840) (by decide +kernel), List.mem_of_getElem? (i := 1239) (by decide +kernel), List.mem_of_getElem? (i := 1240) (by decide +kernel)⟩
theorem lw_p74 : lw_okq (⟨"ThumbLinkerModel", "sizeOf", "(I)I"⟩, 40) := ⟨⟨by decide +kernel, by decide +kernel⟩, List.mem_of_getElem? (i := 840) (by decide +kernel), List.mem_of_getElem? (i := 1246) (by decide +kernel), List.mem_of_getElem? (i := 1247) (by decide +kernel)⟩
theorem lw_p75 : lw_okq (⟨"ThumbLinkerModel", "mainAddress", "()I"⟩, 40) := ⟨⟨by decide +kernel, by decide +kernel⟩, List.mem_of_getElem? (i := 840) (by decide +kernel), List.mem_of_getElem? (i := 1250) (by decide +kernel), List.mem_of_getElem? (i := 1251) (by decide +kernel)⟩
theorem lw_p76 : lw_okq (⟨"ThumbLinkerModel", "finish", "(II)V"⟩, 40) := ⟨⟨by decide +kernel, by decide +kernel⟩, List.mem_of_getElem? (i := 840) (by decide +kernel), List.mem_of_getElem? (i := 1254) (by decide +kernel), List.mem_of_getElem? (i := 1255) (by decide +kernel)⟩
theorem lw_p77 : lw_okq (⟨"ThumbLinkerModel", "setWord", "(II)V"⟩, 40) := ⟨⟨by decide +kernel, by decide +kernel⟩, List.mem_of_getElem? (i := 840) (by decide +kernel), List.mem_of_getElem? (i := 1258) (by decide +kernel), List.mem_of_getElem? (i := 1259) (by decide +kernel)⟩
theorem lw_p78 : lw_okq (⟨"ThumbLinkerModel", "write", "()V"⟩, 40) := ⟨⟨by decide +kernel, by decide +kernel⟩, List.mem_of_getElem? (i := 840) (by decide +kernel), List.mem_of_getElem? (i := 1262) (by decide +kernel), List.mem_of_getElem? (i := 1263) (by decide +kernel)⟩
theorem lw_p79 : lw_okq (⟨"ThumbLinkerModel", "record", "(IIII)V"⟩, 40) := ⟨⟨by decide +kernel, by decide +kernel⟩, List.mem_of_getElem? (i := 840) (by decide +kernel), List.mem_of_getElem? (i := 1266) (by decide +kernel), List.mem_of_getElem? (i := 1267) (by decide +kernel)⟩
def lw_privs_5 : List (MethodName × Nat) := [(⟨"ThumbLinkerModel", "putByte", "(II)V"⟩, 40), (⟨"ThumbLinkerModel", "putMany", "(III)V"⟩, 40), (⟨"ThumbLinkerModel", "secondPass", "()I"⟩, 40), (⟨"ThumbLinkerModel", "isGlobalName", "(II)Z"⟩, 40), (⟨"ThumbLinkerModel", "globalOf", "(II)I"⟩, 40), (⟨"ThumbLinkerModel", "place", "(IIZ)I"⟩, 40), (⟨"ThumbLinkerModel", "thirdPass", "()I"⟩, 40), (⟨"ThumbLinkerModel", "resolve", "(IIII)Z"⟩, 40), (⟨"ThumbLinkerModel", "addressOf", "(I)I"⟩, 40), (⟨"ThumbLinkerModel", "setHalf", "(III)V"⟩, 40), (⟨"ThumbLinkerModel", "sizeOf", "(I)I"⟩, 40), (⟨"ThumbLinkerModel", "mainAddress", "()I"⟩, 40), (⟨"ThumbLinkerModel", "finish", "(II)V"⟩, 40), (⟨"ThumbLinkerModel", "setWord", "(II)V"⟩, 40), (⟨"ThumbLinkerModel", "write", "()V"⟩, 40), (⟨"ThumbLinkerModel", "record", "(IIII)V"⟩, 40)]
theorem lw_r5 : ∀ q ∈ lw_privs_5, lw_okq q := List.forall_mem_cons.mpr ⟨lw_p64, List.forall_mem_cons.mpr ⟨lw_p65, List.forall_mem_cons.mpr ⟨lw_p66, List.forall_mem_cons.mpr ⟨lw_p67, List.forall_mem_cons.mpr ⟨lw_p68, List.forall_mem_cons.mpr ⟨lw_p69, List.forall_mem_cons.mpr ⟨lw_p70, List.forall_mem_cons.mpr ⟨lw_p71, List.forall_mem_cons.mpr ⟨lw_p72, List.forall_mem_cons.mpr ⟨lw_p73, List.forall_mem_cons.mpr ⟨lw_p74, List.forall_mem_cons.mpr ⟨lw_p75, List.forall_mem_cons.mpr ⟨lw_p76, List.forall_mem_cons.mpr ⟨lw_p77, List.forall_mem_cons.mpr ⟨lw_p78, List.forall_mem_cons.mpr ⟨lw_p79, fun _ h => absurd h List.not_mem_nil⟩⟩⟩⟩⟩⟩⟩⟩⟩⟩⟩⟩⟩⟩⟩⟩
theorem lw_p80 : lw_okq (⟨"ThumbLinkerModel", "putHex", "(I)V"⟩, 40) := ⟨⟨by decide +kernel, by decide +kernel⟩, List.mem_of_getElem? (i := 840) (by decide +kernel), List.mem_of_getElem? (i := 1270) (by decide +kernel), List.mem_of_getElem? (i := 1271) (by decide +kernel)⟩
def lw_privs_6 : List (MethodName × Nat) := [(⟨"ThumbLinkerModel", "putHex", "(I)V"⟩, 40)]
theorem lw_r6 : ∀ q ∈ lw_privs_6, lw_okq q := List.forall_mem_cons.mpr ⟨lw_p80, fun _ h => absurd h List.not_mem_nil⟩
def lw_privs : List (MethodName × Nat) := lw_privs_1 ++ (lw_privs_2 ++ (lw_privs_3 ++ (lw_privs_4 ++ (lw_privs_5 ++ (lw_privs_6)))))
def lw_tbl : List Cond := k2_sels lw_privs ++ tables_1
theorem lw_privs_ok : ∀ q ∈ lw_privs, lw_okq q := by
  show ∀ q ∈ lw_privs_1 ++ (lw_privs_2 ++ (lw_privs_3 ++ (lw_privs_4 ++ (lw_privs_5 ++ (lw_privs_6))))), lw_okq q
  exact List.forall_mem_append.mpr ⟨lw_r1, List.forall_mem_append.mpr ⟨lw_r2, List.forall_mem_append.mpr ⟨lw_r3, List.forall_mem_append.mpr ⟨lw_r4, List.forall_mem_append.mpr ⟨lw_r5, lw_r6⟩⟩⟩⟩⟩
end
section
def RX0 : String := "ThumbLinker$Build"
def TX0 : u_T := fun k => match k with
  | 0 => ("ThumbLinker$Build", "labels", "LThumbLinker$Labels;", true)
  | 1 => ("ThumbLinker$Build", "layout", "LThumbLinker$Layout;", true)
  | _ => ("ThumbLinker$Build", "image", "LThumbLinker$Image;", true)
def tyX0 : Nat → FieldType := fun k => match k with
  | 0 => .object "ThumbLinker$Labels"
  | 1 => .object "ThumbLinker$Layout"
  | _ => .object "ThumbLinker$Image"
abbrev wsX00 : List Cond := u_ws RX0 TX0 3
theorem nmX0 : ∀ a, a < 3 → ∀ b, b < 3 → a ≠ b → (TX0 a).2.1 ≠ (TX0 b).2.1 := by decide +kernel
theorem tyX0_ok : ∀ k, k < 3 → parseFieldDescriptor (TX0 k).2.2.1 = some (tyX0 k) := by decide +kernel
abbrev cX0_init : ByteArray := prog_2_method_1_code
def yX0_init : MethodName := ⟨RX0, "<init>", "()V"⟩
abbrev cX0_clear : ByteArray := prog_2_method_2_code
def yX0_clear : MethodName := ⟨RX0, "clear", "()V"⟩
abbrev cX0_addressOf : ByteArray := prog_2_method_3_code
def yX0_addressOf : MethodName := ⟨RX0, "addressOf", "(I)I"⟩
abbrev cX0_layOut : ByteArray := prog_2_method_4_code
def yX0_layOut : MethodName := ⟨RX0, "layOut", "(LThumbLinker$Statement;II)I"⟩
abbrev cX0_write : ByteArray := prog_2_method_5_code
def yX0_write : MethodName := ⟨RX0, "write", "(LThumbLinker$Statement;I)I"⟩
abbrev cX0_writeWord : ByteArray := prog_2_method_6_code
def yX0_writeWord : MethodName := ⟨RX0, "writeWord", "(LThumbLinker$Statement;II)I"⟩
abbrev cX0_writeInstruction : ByteArray := prog_2_method_7_code
def yX0_writeInstruction : MethodName := ⟨RX0, "writeInstruction", "(LThumbLinker$Statement;II)I"⟩
abbrev cX0_resolve : ByteArray := prog_2_method_8_code
def yX0_resolve : MethodName := ⟨RX0, "resolve", "(IJ)I"⟩
abbrev cX0_reaches : ByteArray := prog_2_method_9_code
def yX0_reaches : MethodName := ⟨RX0, "reaches", "(IIZ)Z"⟩
abbrev cX0_distanceBits : ByteArray := prog_2_method_10_code
def yX0_distanceBits : MethodName := ⟨RX0, "distanceBits", "(II)I"⟩
abbrev cX0_writeCall : ByteArray := prog_2_method_11_code
def yX0_writeCall : MethodName := ⟨RX0, "writeCall", "(III)V"⟩
def RX1 : String := "ThumbLinker$Fault"
def TX1 : u_T := fun k => match k with
  | 0 => ("ThumbLinker$Fault", "kind", "I", false)
  | 1 => ("ThumbLinker$Fault", "module", "I", false)
  | 2 => ("ThumbLinker$Fault", "line", "I", false)
  | _ => ("ThumbLinker$Fault", "place", "I", false)
def tyX1 : Nat → FieldType := fun k => match k with
  | 0 => .int
  | 1 => .int
  | 2 => .int
  | _ => .int
abbrev wsX10 : List Cond := u_ws RX1 TX1 4
theorem nmX1 : ∀ a, a < 4 → ∀ b, b < 4 → a ≠ b → (TX1 a).2.1 ≠ (TX1 b).2.1 := by decide +kernel
theorem tyX1_ok : ∀ k, k < 4 → parseFieldDescriptor (TX1 k).2.2.1 = some (tyX1 k) := by decide +kernel
abbrev cX1_init : ByteArray := prog_3_method_1_code
def yX1_init : MethodName := ⟨RX1, "<init>", "()V"⟩
abbrev cX1_forget : ByteArray := prog_3_method_2_code
def yX1_forget : MethodName := ⟨RX1, "forget", "()V"⟩
abbrev cX1_tell : ByteArray := prog_3_method_3_code
def yX1_tell : MethodName := ⟨RX1, "tell", "(IIII)Z"⟩
def RX2 : String := "ThumbLinker$Image"
def TX2 : u_T := fun k => match k with
  | 0 => ("ThumbLinker$Image", "bytes", "[B", true)
  | _ => ("ThumbLinker$Image", "length", "I", false)
def tyX2 : Nat → FieldType := fun k => match k with
  | 0 => .array .byte
  | _ => .int
abbrev wsX20 : List Cond := u_ws RX2 TX2 2
theorem nmX2 : ∀ a, a < 2 → ∀ b, b < 2 → a ≠ b → (TX2 a).2.1 ≠ (TX2 b).2.1 := by decide +kernel
theorem tyX2_ok : ∀ k, k < 2 → parseFieldDescriptor (TX2 k).2.2.1 = some (tyX2 k) := by decide +kernel
abbrev cX2_init : ByteArray := prog_4_method_1_code
def yX2_init : MethodName := ⟨RX2, "<init>", "()V"⟩
abbrev cX2_clear : ByteArray := prog_4_method_2_code
def yX2_clear : MethodName := ⟨RX2, "clear", "()V"⟩
abbrev cX2_putByte : ByteArray := prog_4_method_3_code
def yX2_putByte : MethodName := ⟨RX2, "putByte", "(II)V"⟩
abbrev cX2_putHalf : ByteArray := prog_4_method_4_code
def yX2_putHalf : MethodName := ⟨RX2, "putHalf", "(II)V"⟩
abbrev cX2_putWord : ByteArray := prog_4_method_5_code
def yX2_putWord : MethodName := ⟨RX2, "putWord", "(II)V"⟩
abbrev cX2_byteAt : ByteArray := prog_4_method_6_code
def yX2_byteAt : MethodName := ⟨RX2, "byteAt", "(I)I"⟩
abbrev cX2_recordCharacter : ByteArray := prog_4_method_7_code
def yX2_recordCharacter : MethodName := ⟨RX2, "recordCharacter", "(I)C"⟩
abbrev cX2_bodyCharacter : ByteArray := prog_4_method_8_code
def yX2_bodyCharacter : MethodName := ⟨RX2, "bodyCharacter", "(II)C"⟩
abbrev cX2_recordByte : ByteArray := prog_4_method_9_code
def yX2_recordByte : MethodName := ⟨RX2, "recordByte", "(III)I"⟩
abbrev cX2_plainRecordByte : ByteArray := prog_4_method_10_code
def yX2_plainRecordByte : MethodName := ⟨RX2, "plainRecordByte", "(III)I"⟩
def RX3 : String := "ThumbLinker$Labels"
def TX3 : u_T := fun k => match k with
  | 0 => ("ThumbLinker$Labels", "names", "[J", true)
  | 1 => ("ThumbLinker$Labels", "global", "[Z", true)
  | 2 => ("ThumbLinker$Labels", "modules", "[I", true)
  | 3 => ("ThumbLinker$Labels", "sections", "[I", true)
  | 4 => ("ThumbLinker$Labels", "offsets", "[I", true)
  | _ => ("ThumbLinker$Labels", "count", "I", false)
def tyX3 : Nat → FieldType := fun k => match k with
  | 0 => .array .long
  | 1 => .array .boolean
  | 2 => .array .int
  | 3 => .array .int
  | 4 => .array .int
  | _ => .int
abbrev wsX30 : List Cond := u_ws RX3 TX3 6
theorem nmX3 : ∀ a, a < 6 → ∀ b, b < 6 → a ≠ b → (TX3 a).2.1 ≠ (TX3 b).2.1 := by decide +kernel
theorem tyX3_ok : ∀ k, k < 6 → parseFieldDescriptor (TX3 k).2.2.1 = some (tyX3 k) := by decide +kernel
abbrev cX3_init : ByteArray := prog_5_method_1_code
def yX3_init : MethodName := ⟨RX3, "<init>", "()V"⟩
abbrev cX3_append : ByteArray := prog_5_method_2_code
def yX3_append : MethodName := ⟨RX3, "append", "(JIII)V"⟩
abbrev cX3_find : ByteArray := prog_5_method_3_code
def yX3_find : MethodName := ⟨RX3, "find", "(IJ)I"⟩
abbrev cX3_findGlobal : ByteArray := prog_5_method_4_code
def yX3_findGlobal : MethodName := ⟨RX3, "findGlobal", "(J)I"⟩
abbrev cX3_makeGlobal : ByteArray := prog_5_method_5_code
def yX3_makeGlobal : MethodName := ⟨RX3, "makeGlobal", "(IJ)I"⟩
def RX4 : String := "ThumbLinker$Layout"
def TX4 : u_T := fun k => match k with
  | 0 => ("ThumbLinker$Layout", "sizes", "[[I", true)
  | 1 => ("ThumbLinker$Layout", "addresses", "[[I", true)
  | 2 => ("ThumbLinker$Layout", "dataInFlash", "[I", true)
  | _ => ("ThumbLinker$Layout", "flashEnd", "I", false)
def tyX4 : Nat → FieldType := fun k => match k with
  | 0 => .array (.array .int)
  | 1 => .array (.array .int)
  | 2 => .array .int
  | _ => .int
abbrev wsX40 : List Cond := u_ws RX4 TX4 4
theorem nmX4 : ∀ a, a < 4 → ∀ b, b < 4 → a ≠ b → (TX4 a).2.1 ≠ (TX4 b).2.1 := by decide +kernel
theorem tyX4_ok : ∀ k, k < 4 → parseFieldDescriptor (TX4 k).2.2.1 = some (tyX4 k) := by decide +kernel
abbrev cX4_init : ByteArray := prog_6_method_1_code
def yX4_init : MethodName := ⟨RX4, "<init>", "()V"⟩
abbrev cX4_clear : ByteArray := prog_6_method_2_code
def yX4_clear : MethodName := ⟨RX4, "clear", "()V"⟩
abbrev cX4_arrange : ByteArray := prog_6_method_3_code
def yX4_arrange : MethodName := ⟨RX4, "arrange", "()Z"⟩
abbrev cX4_line : ByteArray := prog_6_method_4_code
def yX4_line : MethodName := ⟨RX4, "line", "(II)I"⟩
abbrev cX4_nextFour : ByteArray := prog_6_method_5_code
def yX4_nextFour : MethodName := ⟨RX4, "nextFour", "(I)I"⟩
def RX5 : String := "ThumbLinker$Mnemonic"
def TX5 : u_T := fun k => match k with
  | _ => ("", "", "", false)
def tyX5 : Nat → FieldType := fun k => match k with
  | _ => .int
abbrev wsX50 : List Cond := u_ws RX5 TX5 0
theorem nmX5 : ∀ a, a < 0 → ∀ b, b < 0 → a ≠ b → (TX5 a).2.1 ≠ (TX5 b).2.1 := by decide +kernel
theorem tyX5_ok : ∀ k, k < 0 → parseFieldDescriptor (TX5 k).2.2.1 = some (tyX5 k) := by decide +kernel
def RX6 : String := "ThumbLinker$Parser"
def TX6 : u_T := fun k => match k with
  | _ => ("ThumbLinker$Parser", "scan", "LThumbLinker$Scanner;", true)
def tyX6 : Nat → FieldType := fun k => match k with
  | _ => .object "ThumbLinker$Scanner"
abbrev wsX60 : List Cond := u_ws RX6 TX6 1
theorem nmX6 : ∀ a, a < 1 → ∀ b, b < 1 → a ≠ b → (TX6 a).2.1 ≠ (TX6 b).2.1 := by decide +kernel
theorem tyX6_ok : ∀ k, k < 1 → parseFieldDescriptor (TX6 k).2.2.1 = some (tyX6 k) := by decide +kernel
abbrev cX6_init : ByteArray := prog_8_method_1_code
def yX6_init : MethodName := ⟨RX6, "<init>", "()V"⟩
abbrev cX6_parse : ByteArray := prog_8_method_2_code
def yX6_parse : MethodName := ⟨RX6, "parse", "(LThumbLinker$Text;LThumbLinker$Statement;)V"⟩
abbrev cX6_label : ByteArray := prog_8_method_3_code
def yX6_label : MethodName := ⟨RX6, "label", "(LThumbLinker$Statement;)V"⟩
abbrev cX6_directive : ByteArray := prog_8_method_4_code
def yX6_directive : MethodName := ⟨RX6, "directive", "(LThumbLinker$Mnemonic;LThumbLinker$Statement;)V"⟩
abbrev cX6_reference : ByteArray := prog_8_method_5_code
def yX6_reference : MethodName := ⟨RX6, "reference", "(LThumbLinker$Statement;)V"⟩
abbrev cX6_value : ByteArray := prog_8_method_6_code
def yX6_value : MethodName := ⟨RX6, "value", "(LThumbLinker$Statement;)V"⟩
abbrev cX6_instruction : ByteArray := prog_8_method_7_code
def yX6_instruction : MethodName := ⟨RX6, "instruction", "(LThumbLinker$Mnemonic;LThumbLinker$Statement;)V"⟩
abbrev cX6_firstRegister : ByteArray := prog_8_method_8_code
def yX6_firstRegister : MethodName := ⟨RX6, "firstRegister", "()I"⟩
abbrev cX6_move : ByteArray := prog_8_method_9_code
def yX6_move : MethodName := ⟨RX6, "move", "(LThumbLinker$Mnemonic;)I"⟩
abbrev cX6_sum : ByteArray := prog_8_method_10_code
def yX6_sum : MethodName := ⟨RX6, "sum", "(LThumbLinker$Mnemonic;)I"⟩
abbrev cX6_shift : ByteArray := prog_8_method_11_code
def yX6_shift : MethodName := ⟨RX6, "shift", "(LThumbLinker$Mnemonic;)I"⟩
abbrev cX6_pair : ByteArray := prog_8_method_12_code
def yX6_pair : MethodName := ⟨RX6, "pair", "(LThumbLinker$Mnemonic;)I"⟩
abbrev cX6_memory : ByteArray := prog_8_method_13_code
def yX6_memory : MethodName := ⟨RX6, "memory", "(I)I"⟩
abbrev cX6_list : ByteArray := prog_8_method_14_code
def yX6_list : MethodName := ⟨RX6, "list", "(Ljava/lang/String;)I"⟩
abbrev cX6_exchanged : ByteArray := prog_8_method_15_code
def yX6_exchanged : MethodName := ⟨RX6, "exchanged", "()I"⟩
def RX7 : String := "ThumbLinker$Scanner"
def TX7 : u_T := fun k => match k with
  | 0 => ("ThumbLinker$Scanner", "line", "LThumbLinker$Text;", false)
  | 1 => ("ThumbLinker$Scanner", "end", "I", false)
  | 2 => ("ThumbLinker$Scanner", "start", "I", false)
  | 3 => ("ThumbLinker$Scanner", "fault", "I", false)
  | _ => ("ThumbLinker$Scanner", "faultPlace", "I", false)
def tyX7 : Nat → FieldType := fun k => match k with
  | 0 => .object "ThumbLinker$Text"
  | 1 => .int
  | 2 => .int
  | 3 => .int
  | _ => .int
abbrev wsX70 : List Cond := u_ws RX7 TX7 5
theorem nmX7 : ∀ a, a < 5 → ∀ b, b < 5 → a ≠ b → (TX7 a).2.1 ≠ (TX7 b).2.1 := by decide +kernel
theorem tyX7_ok : ∀ k, k < 5 → parseFieldDescriptor (TX7 k).2.2.1 = some (tyX7 k) := by decide +kernel
abbrev cX7_init : ByteArray := prog_9_method_1_code
def yX7_init : MethodName := ⟨RX7, "<init>", "()V"⟩
abbrev cX7_begin : ByteArray := prog_9_method_2_code
def yX7_begin : MethodName := ⟨RX7, "begin", "(LThumbLinker$Text;)V"⟩
abbrev cX7_step : ByteArray := prog_9_method_3_code
def yX7_step : MethodName := ⟨RX7, "step", "()V"⟩
abbrev cX7_stepBackTo : ByteArray := prog_9_method_4_code
def yX7_stepBackTo : MethodName := ⟨RX7, "stepBackTo", "(I)V"⟩
abbrev cX7_fail : ByteArray := prog_9_method_5_code
def yX7_fail : MethodName := ⟨RX7, "fail", "(II)V"⟩
abbrev cX7_atEnd : ByteArray := prog_9_method_6_code
def yX7_atEnd : MethodName := ⟨RX7, "atEnd", "()Z"⟩
abbrev cX7_sees : ByteArray := prog_9_method_7_code
def yX7_sees : MethodName := ⟨RX7, "sees", "(C)Z"⟩
abbrev cX7_seesLetter : ByteArray := prog_9_method_8_code
def yX7_seesLetter : MethodName := ⟨RX7, "seesLetter", "()Z"⟩
abbrev cX7_seesWord : ByteArray := prog_9_method_9_code
def yX7_seesWord : MethodName := ⟨RX7, "seesWord", "(Ljava/lang/String;)Z"⟩
abbrev cX7_seenMnemonic : ByteArray := prog_9_method_10_code
def yX7_seenMnemonic : MethodName := ⟨RX7, "seenMnemonic", "()LThumbLinker$Mnemonic;"⟩
abbrev cX7_seenRegister : ByteArray := prog_9_method_11_code
def yX7_seenRegister : MethodName := ⟨RX7, "seenRegister", "()I"⟩
abbrev cX7_seenName : ByteArray := prog_9_method_12_code
def yX7_seenName : MethodName := ⟨RX7, "seenName", "()J"⟩
abbrev cX7_accept : ByteArray := prog_9_method_13_code
def yX7_accept : MethodName := ⟨RX7, "accept", "(C)Z"⟩
abbrev cX7_expect : ByteArray := prog_9_method_14_code
def yX7_expect : MethodName := ⟨RX7, "expect", "(C)V"⟩
abbrev cX7_register : ByteArray := prog_9_method_15_code
def yX7_register : MethodName := ⟨RX7, "register", "()I"⟩
abbrev cX7_name : ByteArray := prog_9_method_16_code
def yX7_name : MethodName := ⟨RX7, "name", "()J"⟩
abbrev cX7_digits : ByteArray := prog_9_method_17_code
def yX7_digits : MethodName := ⟨RX7, "digits", "()I"⟩
abbrev cX7_number : ByteArray := prog_9_method_18_code
def yX7_number : MethodName := ⟨RX7, "number", "(II)I"⟩
def RX8 : String := "ThumbLinker$Source"
def TX8 : u_T := fun k => match k with
  | 0 => ("ThumbLinker$Source", "statements", "[LThumbLinker$Statement;", true)
  | _ => ("ThumbLinker$Source", "count", "I", false)
def tyX8 : Nat → FieldType := fun k => match k with
  | 0 => .array (.object "ThumbLinker$Statement")
  | _ => .int
abbrev wsX80 : List Cond := u_ws RX8 TX8 2
theorem nmX8 : ∀ a, a < 2 → ∀ b, b < 2 → a ≠ b → (TX8 a).2.1 ≠ (TX8 b).2.1 := by decide +kernel
theorem tyX8_ok : ∀ k, k < 2 → parseFieldDescriptor (TX8 k).2.2.1 = some (tyX8 k) := by decide +kernel
abbrev cX8_init : ByteArray := prog_10_method_1_code
def yX8_init : MethodName := ⟨RX8, "<init>", "()V"⟩
def RX9 : String := "ThumbLinker$Statement"
def TX9 : u_T := fun k => match k with
  | 0 => ("ThumbLinker$Statement", "label", "J", false)
  | 1 => ("ThumbLinker$Statement", "labelPlace", "I", false)
  | 2 => ("ThumbLinker$Statement", "place", "I", false)
  | 3 => ("ThumbLinker$Statement", "kind", "I", false)
  | 4 => ("ThumbLinker$Statement", "reach", "I", false)
  | 5 => ("ThumbLinker$Statement", "number", "I", false)
  | 6 => ("ThumbLinker$Statement", "bytes", "I", false)
  | 7 => ("ThumbLinker$Statement", "name", "J", false)
  | 8 => ("ThumbLinker$Statement", "namePlace", "I", false)
  | 9 => ("ThumbLinker$Statement", "section", "I", false)
  | 10 => ("ThumbLinker$Statement", "offset", "I", false)
  | 11 => ("ThumbLinker$Statement", "fault", "I", false)
  | _ => ("ThumbLinker$Statement", "faultPlace", "I", false)
def tyX9 : Nat → FieldType := fun k => match k with
  | 0 => .long
  | 1 => .int
  | 2 => .int
  | 3 => .int
  | 4 => .int
  | 5 => .int
  | 6 => .int
  | 7 => .long
  | 8 => .int
  | 9 => .int
  | 10 => .int
  | 11 => .int
  | _ => .int
abbrev wsX90 : List Cond := u_ws RX9 TX9 13
theorem nmX9 : ∀ a, a < 13 → ∀ b, b < 13 → a ≠ b → (TX9 a).2.1 ≠ (TX9 b).2.1 := by decide +kernel
theorem tyX9_ok : ∀ k, k < 13 → parseFieldDescriptor (TX9 k).2.2.1 = some (tyX9 k) := by decide +kernel
abbrev cX9_init : ByteArray := prog_11_method_1_code
def yX9_init : MethodName := ⟨RX9, "<init>", "()V"⟩
abbrev cX9_clear : ByteArray := prog_11_method_2_code
def yX9_clear : MethodName := ⟨RX9, "clear", "()V"⟩
def RX10 : String := "ThumbLinker$Text"
def TX10 : u_T := fun k => match k with
  | 0 => ("ThumbLinker$Text", "characters", "[C", true)
  | _ => ("ThumbLinker$Text", "length", "I", false)
def tyX10 : Nat → FieldType := fun k => match k with
  | 0 => .array .char
  | _ => .int
abbrev wsX100 : List Cond := u_ws RX10 TX10 2
theorem nmX10 : ∀ a, a < 2 → ∀ b, b < 2 → a ≠ b → (TX10 a).2.1 ≠ (TX10 b).2.1 := by decide +kernel
theorem tyX10_ok : ∀ k, k < 2 → parseFieldDescriptor (TX10 k).2.2.1 = some (tyX10 k) := by decide +kernel
abbrev cX10_init : ByteArray := prog_12_method_1_code
def yX10_init : MethodName := ⟨RX10, "<init>", "()V"⟩
abbrev cX10_charactersIn : ByteArray := prog_12_method_2_code
def yX10_charactersIn : MethodName := ⟨RX10, "charactersIn", "(I)I"⟩
abbrev cX10_appendFour : ByteArray := prog_12_method_3_code
def yX10_appendFour : MethodName := ⟨RX10, "appendFour", "(I)V"⟩
abbrev cX10_nameBetween : ByteArray := prog_12_method_4_code
def yX10_nameBetween : MethodName := ⟨RX10, "nameBetween", "(II)J"⟩
def RX11 : String := "ThumbLinker"
def TX11 : u_T := fun k => match k with
  | 0 => ("ThumbLinker", "typed", "LThumbLinker$Text;", true)
  | 1 => ("ThumbLinker", "sources", "[LThumbLinker$Source;", true)
  | 2 => ("ThumbLinker", "parser", "LThumbLinker$Parser;", true)
  | 3 => ("ThumbLinker", "lastFault", "LThumbLinker$Fault;", true)
  | 4 => ("ThumbLinker", "linked", "LThumbLinker$Build;", false)
  | _ => ("ThumbLinker", "draft", "LThumbLinker$Build;", false)
def tyX11 : Nat → FieldType := fun k => match k with
  | 0 => .object "ThumbLinker$Text"
  | 1 => .array (.object "ThumbLinker$Source")
  | 2 => .object "ThumbLinker$Parser"
  | 3 => .object "ThumbLinker$Fault"
  | 4 => .object "ThumbLinker$Build"
  | _ => .object "ThumbLinker$Build"
abbrev wsX110 : List Cond := u_ws RX11 TX11 6
theorem nmX11 : ∀ a, a < 6 → ∀ b, b < 6 → a ≠ b → (TX11 a).2.1 ≠ (TX11 b).2.1 := by decide +kernel
theorem tyX11_ok : ∀ k, k < 6 → parseFieldDescriptor (TX11 k).2.2.1 = some (tyX11 k) := by decide +kernel
abbrev cX11_init : ByteArray := prog_1_method_1_code
def yX11_init : MethodName := ⟨RX11, "<init>", "()V"⟩
abbrev cX11_type : ByteArray := prog_1_method_2_code
def yX11_type : MethodName := ⟨RX11, "type", "(IIII)I"⟩
abbrev cX11_erase : ByteArray := prog_1_method_3_code
def yX11_erase : MethodName := ⟨RX11, "erase", "()I"⟩
abbrev cX11_add : ByteArray := prog_1_method_4_code
def yX11_add : MethodName := ⟨RX11, "add", "(I)I"⟩
abbrev cX11_change : ByteArray := prog_1_method_5_code
def yX11_change : MethodName := ⟨RX11, "change", "(II)V"⟩
abbrev cX11_drop : ByteArray := prog_1_method_6_code
def yX11_drop : MethodName := ⟨RX11, "drop", "(I)I"⟩
abbrev cX11_link : ByteArray := prog_1_method_7_code
def yX11_link : MethodName := ⟨RX11, "link", "()I"⟩
abbrev cX11_fault : ByteArray := prog_1_method_8_code
def yX11_fault : MethodName := ⟨RX11, "fault", "(I)I"⟩
abbrev cX11_octet : ByteArray := prog_1_method_9_code
def yX11_octet : MethodName := ⟨RX11, "octet", "(I)I"⟩
abbrev cX11_hex : ByteArray := prog_1_method_10_code
def yX11_hex : MethodName := ⟨RX11, "hex", "(I)C"⟩
abbrev cX11_address : ByteArray := prog_1_method_11_code
def yX11_address : MethodName := ⟨RX11, "address", "(I)I"⟩
abbrev cX11_size : ByteArray := prog_1_method_12_code
def yX11_size : MethodName := ⟨RX11, "size", "(II)I"⟩
abbrev cX11_isModule : ByteArray := prog_1_method_13_code
def yX11_isModule : MethodName := ⟨RX11, "isModule", "(I)Z"⟩
abbrev cX11_isLetter : ByteArray := prog_1_method_14_code
def yX11_isLetter : MethodName := ⟨RX11, "isLetter", "(C)Z"⟩
abbrev cX11_isDigit : ByteArray := prog_1_method_15_code
def yX11_isDigit : MethodName := ⟨RX11, "isDigit", "(C)Z"⟩
abbrev cX11_layOutLines : ByteArray := prog_1_method_16_code
def yX11_layOutLines : MethodName := ⟨RX11, "layOutLines", "()Z"⟩
abbrev cX11_tellGlobals : ByteArray := prog_1_method_17_code
def yX11_tellGlobals : MethodName := ⟨RX11, "tellGlobals", "()Z"⟩
abbrev cX11_findRoom : ByteArray := prog_1_method_18_code
def yX11_findRoom : MethodName := ⟨RX11, "findRoom", "()Z"⟩
abbrev cX11_writeLines : ByteArray := prog_1_method_19_code
def yX11_writeLines : MethodName := ⟨RX11, "writeLines", "()Z"⟩
abbrev cX11_writeVectors : ByteArray := prog_1_method_20_code
def yX11_writeVectors : MethodName := ⟨RX11, "writeVectors", "()Z"⟩
def RX12 : String := "ThumbLinkerModel"
def TX12 : u_T := fun k => match k with
  | 0 => ("ThumbLinkerModel", "refusal", "I", false)
  | 1 => ("ThumbLinkerModel", "typed", "[C", true)
  | 2 => ("ThumbLinkerModel", "typedSize", "I", false)
  | 3 => ("ThumbLinkerModel", "lines", "[I", true)
  | 4 => ("ThumbLinkerModel", "length", "[I", true)
  | 5 => ("ThumbLinkerModel", "text", "[C", true)
  | 6 => ("ThumbLinkerModel", "line", "I", false)
  | 7 => ("ThumbLinkerModel", "at", "I", false)
  | 8 => ("ThumbLinkerModel", "end", "I", false)
  | 9 => ("ThumbLinkerModel", "fault", "I", false)
  | 10 => ("ThumbLinkerModel", "faultPlace", "I", false)
  | 11 => ("ThumbLinkerModel", "labelFrom", "I", false)
  | 12 => ("ThumbLinkerModel", "labelTo", "I", false)
  | 13 => ("ThumbLinkerModel", "statement", "I", false)
  | 14 => ("ThumbLinkerModel", "statementAt", "I", false)
  | 15 => ("ThumbLinkerModel", "code", "I", false)
  | 16 => ("ThumbLinkerModel", "number", "I", false)
  | 17 => ("ThumbLinkerModel", "nameFrom", "I", false)
  | 18 => ("ThumbLinkerModel", "nameTo", "I", false)
  | 19 => ("ThumbLinkerModel", "labels", "I", false)
  | 20 => ("ThumbLinkerModel", "goodLabels", "I", false)
  | 21 => ("ThumbLinkerModel", "labelName", "[C", true)
  | 22 => ("ThumbLinkerModel", "labelModule", "[I", true)
  | 23 => ("ThumbLinkerModel", "labelSection", "[I", true)
  | 24 => ("ThumbLinkerModel", "labelOffset", "[I", true)
  | 25 => ("ThumbLinkerModel", "isGlobal", "[Z", true)
  | 26 => ("ThumbLinkerModel", "size", "[I", true)
  | 27 => ("ThumbLinkerModel", "base", "[I", true)
  | 28 => ("ThumbLinkerModel", "flashBase", "[I", true)
  | 29 => ("ThumbLinkerModel", "bytes", "[I", true)
  | 30 => ("ThumbLinkerModel", "now", "I", false)
  | 31 => ("ThumbLinkerModel", "goodSize", "[I", true)
  | 32 => ("ThumbLinkerModel", "goodBase", "[I", true)
  | 33 => ("ThumbLinkerModel", "image", "[I", true)
  | 34 => ("ThumbLinkerModel", "imageSize", "I", false)
  | 35 => ("ThumbLinkerModel", "wrongAt", "[I", true)
  | 36 => ("ThumbLinkerModel", "hex", "[C", true)
  | 37 => ("ThumbLinkerModel", "hexSize", "I", false)
  | 38 => ("ThumbLinkerModel", "goesOn", "[I", true)
  | _ => ("ThumbLinkerModel", "sum", "I", false)
def tyX12 : Nat → FieldType := fun k => match k with
  | 0 => .int
  | 1 => .array .char
  | 2 => .int
  | 3 => .array .int
  | 4 => .array .int
  | 5 => .array .char
  | 6 => .int
  | 7 => .int
  | 8 => .int
  | 9 => .int
  | 10 => .int
  | 11 => .int
  | 12 => .int
  | 13 => .int
  | 14 => .int
  | 15 => .int
  | 16 => .int
  | 17 => .int
  | 18 => .int
  | 19 => .int
  | 20 => .int
  | 21 => .array .char
  | 22 => .array .int
  | 23 => .array .int
  | 24 => .array .int
  | 25 => .array .boolean
  | 26 => .array .int
  | 27 => .array .int
  | 28 => .array .int
  | 29 => .array .int
  | 30 => .int
  | 31 => .array .int
  | 32 => .array .int
  | 33 => .array .int
  | 34 => .int
  | 35 => .array .int
  | 36 => .array .char
  | 37 => .int
  | 38 => .array .int
  | _ => .int
abbrev wsX120 : List Cond := u_ws RX12 TX12 40
theorem nmX12 : ∀ a, a < 40 → ∀ b, b < 40 → a ≠ b → (TX12 a).2.1 ≠ (TX12 b).2.1 := by decide +kernel
theorem tyX12_ok : ∀ k, k < 40 → parseFieldDescriptor (TX12 k).2.2.1 = some (tyX12 k) := by decide +kernel
abbrev cX12_init : ByteArray := prog_14_method_1_code
def yX12_init : MethodName := ⟨RX12, "<init>", "()V"⟩
abbrev cX12_thrown : ByteArray := prog_14_method_2_code
def yX12_thrown : MethodName := ⟨RX12, "thrown", "()I"⟩
abbrev cX12_refused : ByteArray := prog_14_method_3_code
def yX12_refused : MethodName := ⟨RX12, "refused", "(I)Z"⟩
abbrev cX12_forget : ByteArray := prog_14_method_4_code
def yX12_forget : MethodName := ⟨RX12, "forget", "()V"⟩
abbrev cX12_isIn : ByteArray := prog_14_method_5_code
def yX12_isIn : MethodName := ⟨RX12, "isIn", "(III)Z"⟩
abbrev cX12_put : ByteArray := prog_14_method_6_code
def yX12_put : MethodName := ⟨RX12, "put", "(II)V"⟩
abbrev cX12_type : ByteArray := prog_14_method_7_code
def yX12_type : MethodName := ⟨RX12, "type", "(IIII)I"⟩
abbrev cX12_erase : ByteArray := prog_14_method_8_code
def yX12_erase : MethodName := ⟨RX12, "erase", "()I"⟩
abbrev cX12_store : ByteArray := prog_14_method_9_code
def yX12_store : MethodName := ⟨RX12, "store", "(I)V"⟩
abbrev cX12_isModule : ByteArray := prog_14_method_10_code
def yX12_isModule : MethodName := ⟨RX12, "isModule", "(I)Z"⟩
abbrev cX12_add : ByteArray := prog_14_method_11_code
def yX12_add : MethodName := ⟨RX12, "add", "(I)I"⟩
abbrev cX12_change : ByteArray := prog_14_method_12_code
def yX12_change : MethodName := ⟨RX12, "change", "(II)V"⟩
abbrev cX12_drop : ByteArray := prog_14_method_13_code
def yX12_drop : MethodName := ⟨RX12, "drop", "(I)I"⟩
abbrev cX12_next : ByteArray := prog_14_method_14_code
def yX12_next : MethodName := ⟨RX12, "next", "()C"⟩
abbrev cX12_wrong : ByteArray := prog_14_method_15_code
def yX12_wrong : MethodName := ⟨RX12, "wrong", "(II)V"⟩
abbrev cX12_isSmall : ByteArray := prog_14_method_16_code
def yX12_isSmall : MethodName := ⟨RX12, "isSmall", "(C)Z"⟩
abbrev cX12_isDigit : ByteArray := prog_14_method_17_code
def yX12_isDigit : MethodName := ⟨RX12, "isDigit", "(C)Z"⟩
abbrev cX12_isWordSign : ByteArray := prog_14_method_18_code
def yX12_isWordSign : MethodName := ⟨RX12, "isWordSign", "(C)Z"⟩
abbrev cX12_takes : ByteArray := prog_14_method_19_code
def yX12_takes : MethodName := ⟨RX12, "takes", "(C)Z"⟩
abbrev cX12_want : ByteArray := prog_14_method_20_code
def yX12_want : MethodName := ⟨RX12, "want", "(C)V"⟩
abbrev cX12_wordEnd : ByteArray := prog_14_method_21_code
def yX12_wordEnd : MethodName := ⟨RX12, "wordEnd", "()I"⟩
abbrev cX12_isWord : ByteArray := prog_14_method_22_code
def yX12_isWord : MethodName := ⟨RX12, "isWord", "(IIJ)Z"⟩
abbrev cX12_isName : ByteArray := prog_14_method_23_code
def yX12_isName : MethodName := ⟨RX12, "isName", "(II)Z"⟩
abbrev cX12_register : ByteArray := prog_14_method_24_code
def yX12_register : MethodName := ⟨RX12, "register", "()I"⟩
abbrev cX12_digits : ByteArray := prog_14_method_25_code
def yX12_digits : MethodName := ⟨RX12, "digits", "()I"⟩
abbrev cX12_readNumber : ByteArray := prog_14_method_26_code
def yX12_readNumber : MethodName := ⟨RX12, "readNumber", "(III)I"⟩
abbrev cX12_readName : ByteArray := prog_14_method_27_code
def yX12_readName : MethodName := ⟨RX12, "readName", "()V"⟩
abbrev cX12_immediate : ByteArray := prog_14_method_28_code
def yX12_immediate : MethodName := ⟨RX12, "immediate", "(III)I"⟩
abbrev cX12_plain : ByteArray := prog_14_method_29_code
def yX12_plain : MethodName := ⟨RX12, "plain", "(I)V"⟩
abbrev cX12_two : ByteArray := prog_14_method_30_code
def yX12_two : MethodName := ⟨RX12, "two", "(I)V"⟩
abbrev cX12_oneOrNumber : ByteArray := prog_14_method_31_code
def yX12_oneOrNumber : MethodName := ⟨RX12, "oneOrNumber", "(II)V"⟩
abbrev cX12_sums : ByteArray := prog_14_method_32_code
def yX12_sums : MethodName := ⟨RX12, "sums", "(II)V"⟩
abbrev cX12_shifts : ByteArray := prog_14_method_33_code
def yX12_shifts : MethodName := ⟨RX12, "shifts", "(III)V"⟩
abbrev cX12_memory : ByteArray := prog_14_method_34_code
def yX12_memory : MethodName := ⟨RX12, "memory", "(IIZ)V"⟩
abbrev cX12_listed : ByteArray := prog_14_method_35_code
def yX12_listed : MethodName := ⟨RX12, "listed", "(IJ)V"⟩
abbrev cX12_jump : ByteArray := prog_14_method_36_code
def yX12_jump : MethodName := ⟨RX12, "jump", "(II)V"⟩
abbrev cX12_condition : ByteArray := prog_14_method_37_code
def yX12_condition : MethodName := ⟨RX12, "condition", "(II)I"⟩
abbrev cX12_directive : ByteArray := prog_14_method_38_code
def yX12_directive : MethodName := ⟨RX12, "directive", "(II)Z"⟩
abbrev cX12_word : ByteArray := prog_14_method_39_code
def yX12_word : MethodName := ⟨RX12, "word", "()V"⟩
abbrev cX12_simple : ByteArray := prog_14_method_40_code
def yX12_simple : MethodName := ⟨RX12, "simple", "(II)Z"⟩
abbrev cX12_pairOf : ByteArray := prog_14_method_41_code
def yX12_pairOf : MethodName := ⟨RX12, "pairOf", "(II)I"⟩
abbrev cX12_other : ByteArray := prog_14_method_42_code
def yX12_other : MethodName := ⟨RX12, "other", "(II)Z"⟩
abbrev cX12_isTwice : ByteArray := prog_14_method_43_code
def yX12_isTwice : MethodName := ⟨RX12, "isTwice", "(I)Z"⟩
abbrev cX12_read : ByteArray := prog_14_method_44_code
def yX12_read : MethodName := ⟨RX12, "read", "(IIZ)V"⟩
abbrev cX12_labelOf : ByteArray := prog_14_method_45_code
def yX12_labelOf : MethodName := ⟨RX12, "labelOf", "(IIII)I"⟩
abbrev cX12_addLabel : ByteArray := prog_14_method_46_code
def yX12_addLabel : MethodName := ⟨RX12, "addLabel", "(I)V"⟩
abbrev cX12_putByte : ByteArray := prog_14_method_47_code
def yX12_putByte : MethodName := ⟨RX12, "putByte", "(II)V"⟩
abbrev cX12_putMany : ByteArray := prog_14_method_48_code
def yX12_putMany : MethodName := ⟨RX12, "putMany", "(III)V"⟩
abbrev cX12_lay : ByteArray := prog_14_method_49_code
def yX12_lay : MethodName := ⟨RX12, "lay", "(I)I"⟩
abbrev cX12_report : ByteArray := prog_14_method_50_code
def yX12_report : MethodName := ⟨RX12, "report", "(IIII)I"⟩
abbrev cX12_firstPass : ByteArray := prog_14_method_51_code
def yX12_firstPass : MethodName := ⟨RX12, "firstPass", "()I"⟩
abbrev cX12_isGlobalName : ByteArray := prog_14_method_52_code
def yX12_isGlobalName : MethodName := ⟨RX12, "isGlobalName", "(II)Z"⟩
abbrev cX12_globalOf : ByteArray := prog_14_method_53_code
def yX12_globalOf : MethodName := ⟨RX12, "globalOf", "(II)I"⟩
abbrev cX12_secondPass : ByteArray := prog_14_method_54_code
def yX12_secondPass : MethodName := ⟨RX12, "secondPass", "()I"⟩
abbrev cX12_up : ByteArray := prog_14_method_55_code
def yX12_up : MethodName := ⟨RX12, "up", "(I)I"⟩
abbrev cX12_place : ByteArray := prog_14_method_56_code
def yX12_place : MethodName := ⟨RX12, "place", "(IIZ)I"⟩
abbrev cX12_addressOf : ByteArray := prog_14_method_57_code
def yX12_addressOf : MethodName := ⟨RX12, "addressOf", "(I)I"⟩
abbrev cX12_setHalf : ByteArray := prog_14_method_58_code
def yX12_setHalf : MethodName := ⟨RX12, "setHalf", "(III)V"⟩
abbrev cX12_resolve : ByteArray := prog_14_method_59_code
def yX12_resolve : MethodName := ⟨RX12, "resolve", "(IIII)Z"⟩
abbrev cX12_thirdPass : ByteArray := prog_14_method_60_code
def yX12_thirdPass : MethodName := ⟨RX12, "thirdPass", "()I"⟩
abbrev cX12_sizeOf : ByteArray := prog_14_method_61_code
def yX12_sizeOf : MethodName := ⟨RX12, "sizeOf", "(I)I"⟩
abbrev cX12_mainAddress : ByteArray := prog_14_method_62_code
def yX12_mainAddress : MethodName := ⟨RX12, "mainAddress", "()I"⟩
abbrev cX12_link : ByteArray := prog_14_method_63_code
def yX12_link : MethodName := ⟨RX12, "link", "()I"⟩
abbrev cX12_setWord : ByteArray := prog_14_method_64_code
def yX12_setWord : MethodName := ⟨RX12, "setWord", "(II)V"⟩
abbrev cX12_finish : ByteArray := prog_14_method_65_code
def yX12_finish : MethodName := ⟨RX12, "finish", "(II)V"⟩
abbrev cX12_putHex : ByteArray := prog_14_method_66_code
def yX12_putHex : MethodName := ⟨RX12, "putHex", "(I)V"⟩
abbrev cX12_record : ByteArray := prog_14_method_67_code
def yX12_record : MethodName := ⟨RX12, "record", "(IIII)V"⟩
abbrev cX12_write : ByteArray := prog_14_method_68_code
def yX12_write : MethodName := ⟨RX12, "write", "()V"⟩
abbrev cX12_fault : ByteArray := prog_14_method_69_code
def yX12_fault : MethodName := ⟨RX12, "fault", "(I)I"⟩
abbrev cX12_octet : ByteArray := prog_14_method_70_code
def yX12_octet : MethodName := ⟨RX12, "octet", "(I)I"⟩
abbrev cX12_hex : ByteArray := prog_14_method_71_code
def yX12_hex : MethodName := ⟨RX12, "hex", "(I)C"⟩
abbrev cX12_address : ByteArray := prog_14_method_72_code
def yX12_address : MethodName := ⟨RX12, "address", "(I)I"⟩
abbrev cX12_size : ByteArray := prog_14_method_73_code
def yX12_size : MethodName := ⟨RX12, "size", "(II)I"⟩
def RJx29ce0 : String := "java/lang/Enum"
def TJx29ce0 : u_T := fun k => match k with
  | _ => ("", "", "", false)
def tyJx29ce0 : Nat → FieldType := fun k => match k with
  | _ => .int
abbrev wsJx29ce00 : List Cond := u_ws RJx29ce0 TJx29ce0 0
theorem nmJx29ce0 : ∀ a, a < 0 → ∀ b, b < 0 → a ≠ b → (TJx29ce0 a).2.1 ≠ (TJx29ce0 b).2.1 := by decide +kernel
theorem tyJx29ce0_ok : ∀ k, k < 0 → parseFieldDescriptor (TJx29ce0 k).2.2.1 = some (tyJx29ce0 k) := by decide +kernel
def RJ9 : String := "java/lang/Math"
def TJ9 : u_T := fun k => match k with
  | _ => ("", "", "", false)
def tyJ9 : Nat → FieldType := fun k => match k with
  | _ => .int
abbrev wsJ90 : List Cond := u_ws RJ9 TJ9 0
theorem nmJ9 : ∀ a, a < 0 → ∀ b, b < 0 → a ≠ b → (TJ9 a).2.1 ≠ (TJ9 b).2.1 := by decide +kernel
theorem tyJ9_ok : ∀ k, k < 0 → parseFieldDescriptor (TJ9 k).2.2.1 = some (tyJ9 k) := by decide +kernel
abbrev cJ9_min_7cf53 : ByteArray := prog_19_method_69_code
def yJ9_min_7cf53 : MethodName := ⟨RJ9, "min", "(II)I"⟩
def RJ0 : String := "java/lang/String"
def TJ0 : u_T := fun k => match k with
  | _ => ("", "", "", false)
def tyJ0 : Nat → FieldType := fun k => match k with
  | _ => .int
abbrev wsJ00 : List Cond := u_ws RJ0 TJ0 0
theorem nmJ0 : ∀ a, a < 0 → ∀ b, b < 0 → a ≠ b → (TJ0 a).2.1 ≠ (TJ0 b).2.1 := by decide +kernel
theorem tyJ0_ok : ∀ k, k < 0 → parseFieldDescriptor (TJ0 k).2.2.1 = some (tyJ0 k) := by decide +kernel
abbrev cJ0_length_8abf5 : ByteArray := prog_21_method_54_code
def yJ0_length_8abf5 : MethodName := ⟨RJ0, "length", "()I"⟩
abbrev cJ0_charAt_5068e : ByteArray := prog_21_method_56_code
def yJ0_charAt_5068e : MethodName := ⟨RJ0, "charAt", "(I)C"⟩
abbrev cJ0_coder_7d493 : ByteArray := prog_21_method_152_code
def yJ0_coder_7d493 : MethodName := ⟨RJ0, "coder", "()B"⟩
abbrev cJ0_isLatin1_aae02 : ByteArray := prog_21_method_154_code
def yJ0_isLatin1_aae02 : MethodName := ⟨RJ0, "isLatin1", "()Z"⟩
abbrev cJ0_checkIndex_df160 : ByteArray := prog_21_method_155_code
def yJ0_checkIndex_df160 : MethodName := ⟨RJ0, "checkIndex", "(II)V"⟩
def RJ1 : String := "java/lang/StringLatin1"
def TJ1 : u_T := fun k => match k with
  | _ => ("", "", "", false)
def tyJ1 : Nat → FieldType := fun k => match k with
  | _ => .int
abbrev wsJ10 : List Cond := u_ws RJ1 TJ1 0
theorem nmJ1 : ∀ a, a < 0 → ∀ b, b < 0 → a ≠ b → (TJ1 a).2.1 ≠ (TJ1 b).2.1 := by decide +kernel
theorem tyJ1_ok : ∀ k, k < 0 → parseFieldDescriptor (TJ1 k).2.2.1 = some (tyJ1 k) := by decide +kernel
abbrev cJ1_charAt_3b067 : ByteArray := prog_22_method_2_code
def yJ1_charAt_3b067 : MethodName := ⟨RJ1, "charAt", "([BI)C"⟩
def RJ2 : String := "java/lang/StringUTF16"
def TJ2 : u_T := fun k => match k with
  | _ => ("", "", "", false)
def tyJ2 : Nat → FieldType := fun k => match k with
  | _ => .int
abbrev wsJ20 : List Cond := u_ws RJ2 TJ2 0
theorem nmJ2 : ∀ a, a < 0 → ∀ b, b < 0 → a ≠ b → (TJ2 a).2.1 ≠ (TJ2 b).2.1 := by decide +kernel
theorem tyJ2_ok : ∀ k, k < 0 → parseFieldDescriptor (TJ2 k).2.2.1 = some (tyJ2 k) := by decide +kernel
abbrev cJ2_getChar_3b067 : ByteArray := prog_23_method_5_code
def yJ2_getChar_3b067 : MethodName := ⟨RJ2, "getChar", "([BI)C"⟩
abbrev cJ2_length_9d52b : ByteArray := prog_23_method_6_code
def yJ2_length_9d52b : MethodName := ⟨RJ2, "length", "([B)I"⟩
abbrev cJ2_charAt_3b067 : ByteArray := prog_23_method_83_code
def yJ2_charAt_3b067 : MethodName := ⟨RJ2, "charAt", "([BI)C"⟩
abbrev cJ2_checkIndex_2214a : ByteArray := prog_23_method_91_code
def yJ2_checkIndex_2214a : MethodName := ⟨RJ2, "checkIndex", "(I[B)V"⟩
def RJ7 : String := "java/util/Arrays"
def TJ7 : u_T := fun k => match k with
  | _ => ("", "", "", false)
def tyJ7 : Nat → FieldType := fun k => match k with
  | _ => .int
abbrev wsJ70 : List Cond := u_ws RJ7 TJ7 0
theorem nmJ7 : ∀ a, a < 0 → ∀ b, b < 0 → a ≠ b → (TJ7 a).2.1 ≠ (TJ7 b).2.1 := by decide +kernel
theorem tyJ7_ok : ∀ k, k < 0 → parseFieldDescriptor (TJ7 k).2.2.1 = some (tyJ7 k) := by decide +kernel
abbrev cJ7_fill_53178 : ByteArray := prog_25_method_103_code
def yJ7_fill_53178 : MethodName := ⟨RJ7, "fill", "([II)V"⟩
abbrev cJ7_fill_031fb : ByteArray := prog_25_method_109_code
def yJ7_fill_031fb : MethodName := ⟨RJ7, "fill", "([BB)V"⟩
def RJ3 : String := "jdk/internal/util/Preconditions"
def TJ3 : u_T := fun k => match k with
  | _ => ("", "", "", false)
def tyJ3 : Nat → FieldType := fun k => match k with
  | _ => .int
abbrev wsJ30 : List Cond := u_ws RJ3 TJ3 0
theorem nmJ3 : ∀ a, a < 0 → ∀ b, b < 0 → a ≠ b → (TJ3 a).2.1 ≠ (TJ3 b).2.1 := by decide +kernel
theorem tyJ3_ok : ∀ k, k < 0 → parseFieldDescriptor (TJ3 k).2.2.1 = some (tyJ3 k) := by decide +kernel
abbrev cJ3_checkIndex_8e157 : ByteArray := prog_26_method_11_code
def yJ3_checkIndex_8e157 : MethodName := ⟨RJ3, "checkIndex", "(IILjava/util/function/BiFunction;)I"⟩
def RL : String := "ThumbLinkerLaw"
abbrev cL_type : ByteArray := method_3_code
def yL_type : MethodName := ⟨RL, "type", "(LThumbLinker;IIII[J)I"⟩
abbrev cL_add : ByteArray := method_4_code
def yL_add : MethodName := ⟨RL, "add", "(LThumbLinker;I[J)I"⟩
abbrev cL_change : ByteArray := method_5_code
def yL_change : MethodName := ⟨RL, "change", "(LThumbLinker;II)I"⟩
abbrev cL_drop : ByteArray := method_6_code
def yL_drop : MethodName := ⟨RL, "drop", "(LThumbLinker;I[J)I"⟩
abbrev cL_fault : ByteArray := method_7_code
def yL_fault : MethodName := ⟨RL, "fault", "(LThumbLinker;I[J)I"⟩
abbrev cL_address : ByteArray := method_8_code
def yL_address : MethodName := ⟨RL, "address", "(LThumbLinker;I[J)I"⟩
abbrev cL_size : ByteArray := method_9_code
def yL_size : MethodName := ⟨RL, "size", "(LThumbLinker;II[J)I"⟩
abbrev cL_law : ByteArray := code
def yL_law : MethodName := ⟨RL, "law", "([I)Z"⟩
abbrev vwCl : List vw_C := [(RX0, TX0, 3), (RX1, TX1, 4), (RX2, TX2, 2), (RX3, TX3, 6), (RX4, TX4, 4), (RX6, TX6, 1), (RX7, TX7, 5), (RX8, TX8, 2), (RX9, TX9, 13), (RX10, TX10, 2), (RX11, TX11, 6), (RX12, TX12, 40)]
set_option maxRecDepth 100000 in
theorem inX0 : ∀ w ∈ wsX00, w ∈ lw_tbl := by decide +kernel
set_option maxRecDepth 100000 in
theorem inX1 : ∀ w ∈ wsX10, w ∈ lw_tbl := by decide +kernel
set_option maxRecDepth 100000 in
theorem inX2 : ∀ w ∈ wsX20, w ∈ lw_tbl := by decide +kernel
set_option maxRecDepth 100000 in
theorem inX3 : ∀ w ∈ wsX30, w ∈ lw_tbl := by decide +kernel
set_option maxRecDepth 100000 in
theorem inX4 : ∀ w ∈ wsX40, w ∈ lw_tbl := by decide +kernel
set_option maxRecDepth 100000 in
theorem inX5 : ∀ w ∈ wsX50, w ∈ lw_tbl := by decide +kernel
set_option maxRecDepth 100000 in
theorem inX6 : ∀ w ∈ wsX60, w ∈ lw_tbl := by decide +kernel
set_option maxRecDepth 100000 in
theorem inX7 : ∀ w ∈ wsX70, w ∈ lw_tbl := by decide +kernel
set_option maxRecDepth 100000 in
theorem inX8 : ∀ w ∈ wsX80, w ∈ lw_tbl := by decide +kernel
set_option maxRecDepth 100000 in
theorem inX9 : ∀ w ∈ wsX90, w ∈ lw_tbl := by decide +kernel
set_option maxRecDepth 100000 in
theorem inX10 : ∀ w ∈ wsX100, w ∈ lw_tbl := by decide +kernel
set_option maxRecDepth 100000 in
theorem inX11 : ∀ w ∈ wsX110, w ∈ lw_tbl := by decide +kernel
set_option maxRecDepth 100000 in
theorem inX12 : ∀ w ∈ wsX120, w ∈ lw_tbl := by decide +kernel
set_option maxRecDepth 100000 in
theorem inJx29ce0 : ∀ w ∈ wsJx29ce00, w ∈ lw_tbl := by decide +kernel
set_option maxRecDepth 100000 in
theorem inJ9 : ∀ w ∈ wsJ90, w ∈ lw_tbl := by decide +kernel
set_option maxRecDepth 100000 in
theorem inJ0 : ∀ w ∈ wsJ00, w ∈ lw_tbl := by decide +kernel
set_option maxRecDepth 100000 in
theorem inJ1 : ∀ w ∈ wsJ10, w ∈ lw_tbl := by decide +kernel
set_option maxRecDepth 100000 in
theorem inJ2 : ∀ w ∈ wsJ20, w ∈ lw_tbl := by decide +kernel
set_option maxRecDepth 100000 in
theorem inJ7 : ∀ w ∈ wsJ70, w ∈ lw_tbl := by decide +kernel
set_option maxRecDepth 100000 in
theorem inJ3 : ∀ w ∈ wsJ30, w ∈ lw_tbl := by decide +kernel
end
section
theorem dX12_init_0 : decode cX12_init 0 = .ok (.aload_n 0, 1) := by decide +kernel
theorem dX12_init_1 : decode cX12_init 1 = .ok (.invokespecial 1, 3) := by decide +kernel
theorem dX12_init_4 : decode cX12_init 4 = .ok (.aload_n 0, 1) := by decide +kernel
theorem dX12_init_5 : decode cX12_init 5 = .ok (.bipush 48, 2) := by decide +kernel
theorem dX12_init_7 : decode cX12_init 7 = .ok (.newarray .char, 2) := by decide +kernel
theorem dX12_init_9 : decode cX12_init 9 = .ok (.putfield 7, 3) := by decide +kernel
theorem dX12_init_12 : decode cX12_init 12 = .ok (.aload_n 0, 1) := by decide +kernel
theorem dX12_init_13 : decode cX12_init 13 = .ok (.iconst 4, 1) := by decide +kernel
theorem dX12_init_14 : decode cX12_init 14 = .ok (.newarray .int, 2) := by decide +kernel
theorem dX12_init_16 : decode cX12_init 16 = .ok (.putfield 13, 3) := by decide +kernel
theorem dX12_init_19 : decode cX12_init 19 = .ok (.aload_n 0, 1) := by decide +kernel
theorem dX12_init_20 : decode cX12_init 20 = .ok (.bipush 96, 2) := by decide +kernel
theorem dX12_init_22 : decode cX12_init 22 = .ok (.newarray .int, 2) := by decide +kernel
theorem dX12_init_24 : decode cX12_init 24 = .ok (.putfield 17, 3) := by decide +kernel
theorem dX12_init_27 : decode cX12_init 27 = .ok (.aload_n 0, 1) := by decide +kernel
theorem dX12_init_28 : decode cX12_init 28 = .ok (.sipush 4608, 3) := by decide +kernel
theorem dX12_init_31 : decode cX12_init 31 = .ok (.newarray .char, 2) := by decide +kernel
theorem dX12_init_33 : decode cX12_init 33 = .ok (.putfield 20, 3) := by decide +kernel
theorem dX12_init_36 : decode cX12_init 36 = .ok (.aload_n 0, 1) := by decide +kernel
theorem dX12_init_37 : decode cX12_init 37 = .ok (.sipush 1152, 3) := by decide +kernel
theorem dX12_init_40 : decode cX12_init 40 = .ok (.newarray .char, 2) := by decide +kernel
theorem dX12_init_42 : decode cX12_init 42 = .ok (.putfield 23, 3) := by decide +kernel
theorem dX12_init_45 : decode cX12_init 45 = .ok (.aload_n 0, 1) := by decide +kernel
theorem dX12_init_46 : decode cX12_init 46 = .ok (.sipush 192, 3) := by decide +kernel
theorem dX12_init_49 : decode cX12_init 49 = .ok (.newarray .int, 2) := by decide +kernel
theorem dX12_init_51 : decode cX12_init 51 = .ok (.putfield 26, 3) := by decide +kernel
theorem dX12_init_54 : decode cX12_init 54 = .ok (.aload_n 0, 1) := by decide +kernel
theorem dX12_init_55 : decode cX12_init 55 = .ok (.sipush 192, 3) := by decide +kernel
theorem dX12_init_58 : decode cX12_init 58 = .ok (.newarray .int, 2) := by decide +kernel
theorem dX12_init_60 : decode cX12_init 60 = .ok (.putfield 29, 3) := by decide +kernel
theorem dX12_init_63 : decode cX12_init 63 = .ok (.aload_n 0, 1) := by decide +kernel
theorem dX12_init_64 : decode cX12_init 64 = .ok (.sipush 192, 3) := by decide +kernel
theorem dX12_init_67 : decode cX12_init 67 = .ok (.newarray .int, 2) := by decide +kernel
theorem dX12_init_69 : decode cX12_init 69 = .ok (.putfield 32, 3) := by decide +kernel
theorem dX12_init_72 : decode cX12_init 72 = .ok (.aload_n 0, 1) := by decide +kernel
theorem dX12_init_73 : decode cX12_init 73 = .ok (.sipush 192, 3) := by decide +kernel
theorem dX12_init_76 : decode cX12_init 76 = .ok (.newarray .boolean, 2) := by decide +kernel
theorem dX12_init_78 : decode cX12_init 78 = .ok (.putfield 35, 3) := by decide +kernel
theorem dX12_init_81 : decode cX12_init 81 = .ok (.aload_n 0, 1) := by decide +kernel
theorem dX12_init_82 : decode cX12_init 82 = .ok (.bipush 12, 2) := by decide +kernel
theorem dX12_init_84 : decode cX12_init 84 = .ok (.newarray .int, 2) := by decide +kernel
theorem dX12_init_86 : decode cX12_init 86 = .ok (.putfield 39, 3) := by decide +kernel
theorem dX12_init_89 : decode cX12_init 89 = .ok (.aload_n 0, 1) := by decide +kernel
theorem dX12_init_90 : decode cX12_init 90 = .ok (.bipush 12, 2) := by decide +kernel
theorem dX12_init_92 : decode cX12_init 92 = .ok (.newarray .int, 2) := by decide +kernel
theorem dX12_init_94 : decode cX12_init 94 = .ok (.putfield 42, 3) := by decide +kernel
theorem dX12_init_97 : decode cX12_init 97 = .ok (.aload_n 0, 1) := by decide +kernel
theorem dX12_init_98 : decode cX12_init 98 = .ok (.bipush 12, 2) := by decide +kernel
theorem dX12_init_100 : decode cX12_init 100 = .ok (.newarray .int, 2) := by decide +kernel
theorem dX12_init_102 : decode cX12_init 102 = .ok (.putfield 45, 3) := by decide +kernel
theorem dX12_init_105 : decode cX12_init 105 = .ok (.aload_n 0, 1) := by decide +kernel
theorem dX12_init_106 : decode cX12_init 106 = .ok (.sipush 12288, 3) := by decide +kernel
theorem dX12_init_109 : decode cX12_init 109 = .ok (.newarray .int, 2) := by decide +kernel
theorem dX12_init_111 : decode cX12_init 111 = .ok (.putfield 48, 3) := by decide +kernel
theorem dX12_init_114 : decode cX12_init 114 = .ok (.aload_n 0, 1) := by decide +kernel
theorem dX12_init_115 : decode cX12_init 115 = .ok (.bipush 12, 2) := by decide +kernel
theorem dX12_init_117 : decode cX12_init 117 = .ok (.newarray .int, 2) := by decide +kernel
theorem dX12_init_119 : decode cX12_init 119 = .ok (.putfield 51, 3) := by decide +kernel
theorem dX12_init_122 : decode cX12_init 122 = .ok (.aload_n 0, 1) := by decide +kernel
theorem dX12_init_123 : decode cX12_init 123 = .ok (.bipush 12, 2) := by decide +kernel
theorem dX12_init_125 : decode cX12_init 125 = .ok (.newarray .int, 2) := by decide +kernel
theorem dX12_init_127 : decode cX12_init 127 = .ok (.putfield 54, 3) := by decide +kernel
theorem dX12_init_130 : decode cX12_init 130 = .ok (.aload_n 0, 1) := by decide +kernel
theorem dX12_init_131 : decode cX12_init 131 = .ok (.sipush 2048, 3) := by decide +kernel
theorem dX12_init_134 : decode cX12_init 134 = .ok (.newarray .int, 2) := by decide +kernel
theorem dX12_init_136 : decode cX12_init 136 = .ok (.putfield 57, 3) := by decide +kernel
theorem dX12_init_139 : decode cX12_init 139 = .ok (.aload_n 0, 1) := by decide +kernel
theorem dX12_init_140 : decode cX12_init 140 = .ok (.iconst 3, 1) := by decide +kernel
theorem dX12_init_141 : decode cX12_init 141 = .ok (.newarray .int, 2) := by decide +kernel
theorem dX12_init_143 : decode cX12_init 143 = .ok (.putfield 60, 3) := by decide +kernel
theorem dX12_init_146 : decode cX12_init 146 = .ok (.aload_n 0, 1) := by decide +kernel
theorem dX12_init_147 : decode cX12_init 147 = .ok (.sipush 6400, 3) := by decide +kernel
theorem dX12_init_150 : decode cX12_init 150 = .ok (.newarray .char, 2) := by decide +kernel
theorem dX12_init_152 : decode cX12_init 152 = .ok (.putfield 63, 3) := by decide +kernel
theorem dX12_init_155 : decode cX12_init 155 = .ok (.aload_n 0, 1) := by decide +kernel
theorem dX12_init_156 : decode cX12_init 156 = .ok (.bipush 12, 2) := by decide +kernel
theorem dX12_init_158 : decode cX12_init 158 = .ok (.newarray .int, 2) := by decide +kernel
theorem dX12_init_160 : decode cX12_init 160 = .ok (.putfield 66, 3) := by decide +kernel
theorem dX12_init_163 : decode cX12_init 163 = .ok (.aload_n 0, 1) := by decide +kernel
theorem dX12_init_164 : decode cX12_init 164 = .ok (.invokevirtual 69, 3) := by decide +kernel
theorem dX12_init_167 : decode cX12_init 167 = .ok (.return_, 1) := by decide +kernel
theorem dX12_thrown_0 : decode cX12_thrown 0 = .ok (.aload_n 0, 1) := by decide +kernel
theorem dX12_thrown_1 : decode cX12_thrown 1 = .ok (.getfield 72, 3) := by decide +kernel
theorem dX12_thrown_4 : decode cX12_thrown 4 = .ok (.ireturn, 1) := by decide +kernel
theorem dX12_refused_0 : decode cX12_refused 0 = .ok (.aload_n 0, 1) := by decide +kernel
theorem dX12_refused_1 : decode cX12_refused 1 = .ok (.iload_n 1, 1) := by decide +kernel
theorem dX12_refused_2 : decode cX12_refused 2 = .ok (.putfield 72, 3) := by decide +kernel
theorem dX12_refused_5 : decode cX12_refused 5 = .ok (.iload_n 1, 1) := by decide +kernel
theorem dX12_refused_6 : decode cX12_refused 6 = .ok (.ifCond .le 7, 3) := by decide +kernel
theorem dX12_refused_9 : decode cX12_refused 9 = .ok (.iconst 1, 1) := by decide +kernel
theorem dX12_refused_10 : decode cX12_refused 10 = .ok (.goto 4, 3) := by decide +kernel
theorem dX12_refused_13 : decode cX12_refused 13 = .ok (.iconst 0, 1) := by decide +kernel
theorem dX12_refused_14 : decode cX12_refused 14 = .ok (.ireturn, 1) := by decide +kernel
theorem dX12_forget_0 : decode cX12_forget 0 = .ok (.iconst 0, 1) := by decide +kernel
theorem dX12_forget_1 : decode cX12_forget 1 = .ok (.istore_n 1, 1) := by decide +kernel
theorem dX12_forget_2 : decode cX12_forget 2 = .ok (.iload_n 1, 1) := by decide +kernel
theorem dX12_forget_3 : decode cX12_forget 3 = .ok (.iconst 3, 1) := by decide +kernel
theorem dX12_forget_4 : decode cX12_forget 4 = .ok (.if_icmp .ge 16, 3) := by decide +kernel
theorem dX12_forget_7 : decode cX12_forget 7 = .ok (.aload_n 0, 1) := by decide +kernel
theorem dX12_forget_8 : decode cX12_forget 8 = .ok (.getfield 60, 3) := by decide +kernel
theorem dX12_forget_11 : decode cX12_forget 11 = .ok (.iload_n 1, 1) := by decide +kernel
theorem dX12_forget_12 : decode cX12_forget 12 = .ok (.iconst (-1), 1) := by decide +kernel
theorem dX12_forget_13 : decode cX12_forget 13 = .ok (.iastore, 1) := by decide +kernel
theorem dX12_forget_14 : decode cX12_forget 14 = .ok (.iinc 1 1, 3) := by decide +kernel
theorem dX12_forget_17 : decode cX12_forget 17 = .ok (.goto (-15), 3) := by decide +kernel
theorem dX12_forget_20 : decode cX12_forget 20 = .ok (.return_, 1) := by decide +kernel
theorem dX12_isIn_0 : decode cX12_isIn 0 = .ok (.iload_n 0, 1) := by decide +kernel
theorem dX12_isIn_1 : decode cX12_isIn 1 = .ok (.iload_n 1, 1) := by decide +kernel
theorem dX12_isIn_2 : decode cX12_isIn 2 = .ok (.if_icmp .lt 12, 3) := by decide +kernel
theorem dX12_isIn_5 : decode cX12_isIn 5 = .ok (.iload_n 0, 1) := by decide +kernel
theorem dX12_isIn_6 : decode cX12_isIn 6 = .ok (.iload_n 2, 1) := by decide +kernel
theorem dX12_isIn_7 : decode cX12_isIn 7 = .ok (.if_icmp .gt 7, 3) := by decide +kernel
theorem dX12_isIn_10 : decode cX12_isIn 10 = .ok (.iconst 1, 1) := by decide +kernel
theorem dX12_isIn_11 : decode cX12_isIn 11 = .ok (.goto 4, 3) := by decide +kernel
theorem dX12_isIn_14 : decode cX12_isIn 14 = .ok (.iconst 0, 1) := by decide +kernel
theorem dX12_isIn_15 : decode cX12_isIn 15 = .ok (.ireturn, 1) := by decide +kernel
theorem dX12_put_0 : decode cX12_put 0 = .ok (.iload_n 1, 1) := by decide +kernel
theorem dX12_put_1 : decode cX12_put 1 = .ok (.iload_n 2, 1) := by decide +kernel
theorem dX12_put_2 : decode cX12_put 2 = .ok (.ishr, 1) := by decide +kernel
theorem dX12_put_3 : decode cX12_put 3 = .ok (.sipush 255, 3) := by decide +kernel
theorem dX12_put_6 : decode cX12_put 6 = .ok (.iand, 1) := by decide +kernel
theorem dX12_put_7 : decode cX12_put 7 = .ok (.istore_n 3, 1) := by decide +kernel
theorem dX12_put_8 : decode cX12_put 8 = .ok (.iload_n 3, 1) := by decide +kernel
theorem dX12_put_9 : decode cX12_put 9 = .ok (.ifCond .le 33, 3) := by decide +kernel
theorem dX12_put_12 : decode cX12_put 12 = .ok (.aload_n 0, 1) := by decide +kernel
theorem dX12_put_13 : decode cX12_put 13 = .ok (.getfield 76, 3) := by decide +kernel
theorem dX12_put_16 : decode cX12_put 16 = .ok (.bipush 48, 2) := by decide +kernel
theorem dX12_put_18 : decode cX12_put 18 = .ok (.if_icmp .ge 14, 3) := by decide +kernel
theorem dX12_put_21 : decode cX12_put 21 = .ok (.aload_n 0, 1) := by decide +kernel
theorem dX12_put_22 : decode cX12_put 22 = .ok (.getfield 7, 3) := by decide +kernel
theorem dX12_put_25 : decode cX12_put 25 = .ok (.aload_n 0, 1) := by decide +kernel
theorem dX12_put_26 : decode cX12_put 26 = .ok (.getfield 76, 3) := by decide +kernel
theorem dX12_put_29 : decode cX12_put 29 = .ok (.iload_n 3, 1) := by decide +kernel
theorem dX12_put_30 : decode cX12_put 30 = .ok (.i2c, 1) := by decide +kernel
theorem dX12_put_31 : decode cX12_put 31 = .ok (.castore, 1) := by decide +kernel
theorem dX12_put_32 : decode cX12_put 32 = .ok (.aload_n 0, 1) := by decide +kernel
theorem dX12_put_33 : decode cX12_put 33 = .ok (.dup, 1) := by decide +kernel
theorem dX12_put_34 : decode cX12_put 34 = .ok (.getfield 76, 3) := by decide +kernel
theorem dX12_put_37 : decode cX12_put 37 = .ok (.iconst 1, 1) := by decide +kernel
theorem dX12_put_38 : decode cX12_put 38 = .ok (.iadd, 1) := by decide +kernel
theorem dX12_put_39 : decode cX12_put 39 = .ok (.putfield 76, 3) := by decide +kernel
theorem dX12_put_42 : decode cX12_put 42 = .ok (.return_, 1) := by decide +kernel
theorem dX12_type_0 : decode cX12_type 0 = .ok (.aload_n 0, 1) := by decide +kernel
theorem dX12_type_1 : decode cX12_type 1 = .ok (.getfield 76, 3) := by decide +kernel
theorem dX12_type_4 : decode cX12_type 4 = .ok (.istore 5, 2) := by decide +kernel
theorem dX12_type_6 : decode cX12_type 6 = .ok (.iconst 0, 1) := by decide +kernel
theorem dX12_type_7 : decode cX12_type 7 = .ok (.istore 6, 2) := by decide +kernel
theorem dX12_type_9 : decode cX12_type 9 = .ok (.iload 6, 2) := by decide +kernel
theorem dX12_type_11 : decode cX12_type 11 = .ok (.iconst 4, 1) := by decide +kernel
theorem dX12_type_12 : decode cX12_type 12 = .ok (.if_icmp .ge 69, 3) := by decide +kernel
theorem dX12_type_15 : decode cX12_type 15 = .ok (.iload 6, 2) := by decide +kernel
theorem dX12_type_17 : decode cX12_type 17 = .ok (.ifCond .ne 7, 3) := by decide +kernel
theorem dX12_type_20 : decode cX12_type 20 = .ok (.iload_n 1, 1) := by decide +kernel
theorem dX12_type_21 : decode cX12_type 21 = .ok (.goto 25, 3) := by decide +kernel
theorem dX12_type_24 : decode cX12_type 24 = .ok (.iload 6, 2) := by decide +kernel
theorem dX12_type_26 : decode cX12_type 26 = .ok (.iconst 1, 1) := by decide +kernel
theorem dX12_type_27 : decode cX12_type 27 = .ok (.if_icmp .ne 7, 3) := by decide +kernel
theorem dX12_type_30 : decode cX12_type 30 = .ok (.iload_n 2, 1) := by decide +kernel
theorem dX12_type_31 : decode cX12_type 31 = .ok (.goto 15, 3) := by decide +kernel
theorem dX12_type_34 : decode cX12_type 34 = .ok (.iload 6, 2) := by decide +kernel
theorem dX12_type_36 : decode cX12_type 36 = .ok (.iconst 2, 1) := by decide +kernel
theorem dX12_type_37 : decode cX12_type 37 = .ok (.if_icmp .ne 7, 3) := by decide +kernel
theorem dX12_type_40 : decode cX12_type 40 = .ok (.iload_n 3, 1) := by decide +kernel
theorem dX12_type_41 : decode cX12_type 41 = .ok (.goto 5, 3) := by decide +kernel
theorem dX12_type_44 : decode cX12_type 44 = .ok (.iload 4, 2) := by decide +kernel
theorem dX12_type_46 : decode cX12_type 46 = .ok (.istore 7, 2) := by decide +kernel
theorem dX12_type_48 : decode cX12_type 48 = .ok (.bipush 24, 2) := by decide +kernel
theorem dX12_type_50 : decode cX12_type 50 = .ok (.istore 8, 2) := by decide +kernel
theorem dX12_type_52 : decode cX12_type 52 = .ok (.iload 8, 2) := by decide +kernel
theorem dX12_type_54 : decode cX12_type 54 = .ok (.ifCond .lt 21, 3) := by decide +kernel
theorem dX12_type_57 : decode cX12_type 57 = .ok (.aload_n 0, 1) := by decide +kernel
theorem dX12_type_58 : decode cX12_type 58 = .ok (.iload 7, 2) := by decide +kernel
theorem dX12_type_60 : decode cX12_type 60 = .ok (.iload 8, 2) := by decide +kernel
theorem dX12_type_62 : decode cX12_type 62 = .ok (.invokevirtual 79, 3) := by decide +kernel
theorem dX12_type_65 : decode cX12_type 65 = .ok (.iload 8, 2) := by decide +kernel
theorem dX12_type_67 : decode cX12_type 67 = .ok (.bipush 8, 2) := by decide +kernel
theorem dX12_type_69 : decode cX12_type 69 = .ok (.isub, 1) := by decide +kernel
theorem dX12_type_70 : decode cX12_type 70 = .ok (.istore 8, 2) := by decide +kernel
theorem dX12_type_72 : decode cX12_type 72 = .ok (.goto (-20), 3) := by decide +kernel
theorem dX12_type_75 : decode cX12_type 75 = .ok (.iinc 6 1, 3) := by decide +kernel
theorem dX12_type_78 : decode cX12_type 78 = .ok (.goto (-69), 3) := by decide +kernel
theorem dX12_type_81 : decode cX12_type 81 = .ok (.aload_n 0, 1) := by decide +kernel
theorem dX12_type_82 : decode cX12_type 82 = .ok (.aload_n 0, 1) := by decide +kernel
theorem dX12_type_83 : decode cX12_type 83 = .ok (.getfield 76, 3) := by decide +kernel
theorem dX12_type_86 : decode cX12_type 86 = .ok (.bipush 48, 2) := by decide +kernel
theorem dX12_type_88 : decode cX12_type 88 = .ok (.if_icmp .le 7, 3) := by decide +kernel
theorem dX12_type_91 : decode cX12_type 91 = .ok (.iconst 1, 1) := by decide +kernel
theorem dX12_type_92 : decode cX12_type 92 = .ok (.goto 4, 3) := by decide +kernel
theorem dX12_type_95 : decode cX12_type 95 = .ok (.iconst 0, 1) := by decide +kernel
theorem dX12_type_96 : decode cX12_type 96 = .ok (.invokevirtual 83, 3) := by decide +kernel
theorem dX12_type_99 : decode cX12_type 99 = .ok (.ifCond .eq 11, 3) := by decide +kernel
theorem dX12_type_102 : decode cX12_type 102 = .ok (.aload_n 0, 1) := by decide +kernel
theorem dX12_type_103 : decode cX12_type 103 = .ok (.iload 5, 2) := by decide +kernel
theorem dX12_type_105 : decode cX12_type 105 = .ok (.putfield 76, 3) := by decide +kernel
theorem dX12_type_108 : decode cX12_type 108 = .ok (.iconst 0, 1) := by decide +kernel
theorem dX12_type_109 : decode cX12_type 109 = .ok (.ireturn, 1) := by decide +kernel
theorem dX12_type_110 : decode cX12_type 110 = .ok (.aload_n 0, 1) := by decide +kernel
theorem dX12_type_111 : decode cX12_type 111 = .ok (.getfield 76, 3) := by decide +kernel
theorem dX12_type_114 : decode cX12_type 114 = .ok (.ireturn, 1) := by decide +kernel
theorem dX12_erase_0 : decode cX12_erase 0 = .ok (.aload_n 0, 1) := by decide +kernel
theorem dX12_erase_1 : decode cX12_erase 1 = .ok (.iconst 0, 1) := by decide +kernel
theorem dX12_erase_2 : decode cX12_erase 2 = .ok (.putfield 72, 3) := by decide +kernel
theorem dX12_erase_5 : decode cX12_erase 5 = .ok (.aload_n 0, 1) := by decide +kernel
theorem dX12_erase_6 : decode cX12_erase 6 = .ok (.getfield 76, 3) := by decide +kernel
theorem dX12_erase_9 : decode cX12_erase 9 = .ok (.istore_n 1, 1) := by decide +kernel
theorem dX12_erase_10 : decode cX12_erase 10 = .ok (.aload_n 0, 1) := by decide +kernel
theorem dX12_erase_11 : decode cX12_erase 11 = .ok (.iconst 0, 1) := by decide +kernel
theorem dX12_erase_12 : decode cX12_erase 12 = .ok (.putfield 76, 3) := by decide +kernel
theorem dX12_erase_15 : decode cX12_erase 15 = .ok (.iload_n 1, 1) := by decide +kernel
theorem dX12_erase_16 : decode cX12_erase 16 = .ok (.ireturn, 1) := by decide +kernel
theorem dX12_store_0 : decode cX12_store 0 = .ok (.aload_n 0, 1) := by decide +kernel
theorem dX12_store_1 : decode cX12_store 1 = .ok (.getfield 17, 3) := by decide +kernel
theorem dX12_store_4 : decode cX12_store 4 = .ok (.iload_n 1, 1) := by decide +kernel
theorem dX12_store_5 : decode cX12_store 5 = .ok (.aload_n 0, 1) := by decide +kernel
theorem dX12_store_6 : decode cX12_store 6 = .ok (.getfield 76, 3) := by decide +kernel
theorem dX12_store_9 : decode cX12_store 9 = .ok (.iastore, 1) := by decide +kernel
theorem dX12_store_10 : decode cX12_store 10 = .ok (.iconst 0, 1) := by decide +kernel
theorem dX12_store_11 : decode cX12_store 11 = .ok (.istore_n 2, 1) := by decide +kernel
theorem dX12_store_12 : decode cX12_store 12 = .ok (.iload_n 2, 1) := by decide +kernel
theorem dX12_store_13 : decode cX12_store 13 = .ok (.aload_n 0, 1) := by decide +kernel
theorem dX12_store_14 : decode cX12_store 14 = .ok (.getfield 76, 3) := by decide +kernel
theorem dX12_store_17 : decode cX12_store 17 = .ok (.if_icmp .ge 26, 3) := by decide +kernel
theorem dX12_store_20 : decode cX12_store 20 = .ok (.aload_n 0, 1) := by decide +kernel
theorem dX12_store_21 : decode cX12_store 21 = .ok (.getfield 20, 3) := by decide +kernel
theorem dX12_store_24 : decode cX12_store 24 = .ok (.bipush 48, 2) := by decide +kernel
theorem dX12_store_26 : decode cX12_store 26 = .ok (.iload_n 1, 1) := by decide +kernel
theorem dX12_store_27 : decode cX12_store 27 = .ok (.imul, 1) := by decide +kernel
theorem dX12_store_28 : decode cX12_store 28 = .ok (.iload_n 2, 1) := by decide +kernel
theorem dX12_store_29 : decode cX12_store 29 = .ok (.iadd, 1) := by decide +kernel
theorem dX12_store_30 : decode cX12_store 30 = .ok (.aload_n 0, 1) := by decide +kernel
theorem dX12_store_31 : decode cX12_store 31 = .ok (.getfield 7, 3) := by decide +kernel
theorem dX12_store_34 : decode cX12_store 34 = .ok (.iload_n 2, 1) := by decide +kernel
theorem dX12_store_35 : decode cX12_store 35 = .ok (.caload, 1) := by decide +kernel
theorem dX12_store_36 : decode cX12_store 36 = .ok (.castore, 1) := by decide +kernel
theorem dX12_store_37 : decode cX12_store 37 = .ok (.iinc 2 1, 3) := by decide +kernel
theorem dX12_store_40 : decode cX12_store 40 = .ok (.goto (-28), 3) := by decide +kernel
theorem dX12_store_43 : decode cX12_store 43 = .ok (.aload_n 0, 1) := by decide +kernel
theorem dX12_store_44 : decode cX12_store 44 = .ok (.iconst 0, 1) := by decide +kernel
theorem dX12_store_45 : decode cX12_store 45 = .ok (.putfield 76, 3) := by decide +kernel
theorem dX12_store_48 : decode cX12_store 48 = .ok (.return_, 1) := by decide +kernel
theorem dX12_isModule_0 : decode cX12_isModule 0 = .ok (.iload_n 0, 1) := by decide +kernel
theorem dX12_isModule_1 : decode cX12_isModule 1 = .ok (.ifCond .lt 12, 3) := by decide +kernel
theorem dX12_isModule_4 : decode cX12_isModule 4 = .ok (.iload_n 0, 1) := by decide +kernel
theorem dX12_isModule_5 : decode cX12_isModule 5 = .ok (.iconst 4, 1) := by decide +kernel
theorem dX12_isModule_6 : decode cX12_isModule 6 = .ok (.if_icmp .ge 7, 3) := by decide +kernel
theorem dX12_isModule_9 : decode cX12_isModule 9 = .ok (.iconst 1, 1) := by decide +kernel
theorem dX12_isModule_10 : decode cX12_isModule 10 = .ok (.goto 4, 3) := by decide +kernel
theorem dX12_isModule_13 : decode cX12_isModule 13 = .ok (.iconst 0, 1) := by decide +kernel
theorem dX12_isModule_14 : decode cX12_isModule 14 = .ok (.ireturn, 1) := by decide +kernel
theorem dX12_add_0 : decode cX12_add 0 = .ok (.aload_n 0, 1) := by decide +kernel
theorem dX12_add_1 : decode cX12_add 1 = .ok (.iload_n 1, 1) := by decide +kernel
theorem dX12_add_2 : decode cX12_add 2 = .ok (.invokestatic 87, 3) := by decide +kernel
theorem dX12_add_5 : decode cX12_add 5 = .ok (.ifCond .ne 7, 3) := by decide +kernel
theorem dX12_add_8 : decode cX12_add 8 = .ok (.iconst 1, 1) := by decide +kernel
theorem dX12_add_9 : decode cX12_add 9 = .ok (.goto 19, 3) := by decide +kernel
theorem dX12_add_12 : decode cX12_add 12 = .ok (.aload_n 0, 1) := by decide +kernel
theorem dX12_add_13 : decode cX12_add 13 = .ok (.getfield 13, 3) := by decide +kernel
theorem dX12_add_16 : decode cX12_add 16 = .ok (.iload_n 1, 1) := by decide +kernel
theorem dX12_add_17 : decode cX12_add 17 = .ok (.iaload, 1) := by decide +kernel
theorem dX12_add_18 : decode cX12_add 18 = .ok (.bipush 24, 2) := by decide +kernel
theorem dX12_add_20 : decode cX12_add 20 = .ok (.if_icmp .ne 7, 3) := by decide +kernel
theorem dX12_add_23 : decode cX12_add 23 = .ok (.iconst 2, 1) := by decide +kernel
theorem dX12_add_24 : decode cX12_add 24 = .ok (.goto 4, 3) := by decide +kernel
theorem dX12_add_27 : decode cX12_add 27 = .ok (.iconst 0, 1) := by decide +kernel
theorem dX12_add_28 : decode cX12_add 28 = .ok (.invokevirtual 83, 3) := by decide +kernel
theorem dX12_add_31 : decode cX12_add 31 = .ok (.ifCond .eq 5, 3) := by decide +kernel
theorem dX12_add_34 : decode cX12_add 34 = .ok (.iconst 0, 1) := by decide +kernel
theorem dX12_add_35 : decode cX12_add 35 = .ok (.ireturn, 1) := by decide +kernel
theorem dX12_add_36 : decode cX12_add 36 = .ok (.aload_n 0, 1) := by decide +kernel
theorem dX12_add_37 : decode cX12_add 37 = .ok (.bipush 24, 2) := by decide +kernel
theorem dX12_add_39 : decode cX12_add 39 = .ok (.iload_n 1, 1) := by decide +kernel
theorem dX12_add_40 : decode cX12_add 40 = .ok (.imul, 1) := by decide +kernel
theorem dX12_add_41 : decode cX12_add 41 = .ok (.aload_n 0, 1) := by decide +kernel
theorem dX12_add_42 : decode cX12_add 42 = .ok (.getfield 13, 3) := by decide +kernel
theorem dX12_add_45 : decode cX12_add 45 = .ok (.iload_n 1, 1) := by decide +kernel
theorem dX12_add_46 : decode cX12_add 46 = .ok (.iaload, 1) := by decide +kernel
theorem dX12_add_47 : decode cX12_add 47 = .ok (.iadd, 1) := by decide +kernel
theorem dX12_add_48 : decode cX12_add 48 = .ok (.invokevirtual 90, 3) := by decide +kernel
theorem dX12_add_51 : decode cX12_add 51 = .ok (.aload_n 0, 1) := by decide +kernel
theorem dX12_add_52 : decode cX12_add 52 = .ok (.getfield 13, 3) := by decide +kernel
theorem dX12_add_55 : decode cX12_add 55 = .ok (.iload_n 1, 1) := by decide +kernel
theorem dX12_add_56 : decode cX12_add 56 = .ok (.dup2, 1) := by decide +kernel
theorem dX12_add_57 : decode cX12_add 57 = .ok (.iaload, 1) := by decide +kernel
theorem dX12_add_58 : decode cX12_add 58 = .ok (.iconst 1, 1) := by decide +kernel
theorem dX12_add_59 : decode cX12_add 59 = .ok (.iadd, 1) := by decide +kernel
theorem dX12_add_60 : decode cX12_add 60 = .ok (.iastore, 1) := by decide +kernel
theorem dX12_add_61 : decode cX12_add 61 = .ok (.aload_n 0, 1) := by decide +kernel
theorem dX12_add_62 : decode cX12_add 62 = .ok (.getfield 13, 3) := by decide +kernel
theorem dX12_add_65 : decode cX12_add 65 = .ok (.iload_n 1, 1) := by decide +kernel
theorem dX12_add_66 : decode cX12_add 66 = .ok (.iaload, 1) := by decide +kernel
theorem dX12_add_67 : decode cX12_add 67 = .ok (.ireturn, 1) := by decide +kernel
theorem dX12_change_0 : decode cX12_change 0 = .ok (.aload_n 0, 1) := by decide +kernel
theorem dX12_change_1 : decode cX12_change 1 = .ok (.iload_n 1, 1) := by decide +kernel
theorem dX12_change_2 : decode cX12_change 2 = .ok (.invokestatic 87, 3) := by decide +kernel
theorem dX12_change_5 : decode cX12_change 5 = .ok (.ifCond .eq 21, 3) := by decide +kernel
theorem dX12_change_8 : decode cX12_change 8 = .ok (.iload_n 2, 1) := by decide +kernel
theorem dX12_change_9 : decode cX12_change 9 = .ok (.ifCond .lt 17, 3) := by decide +kernel
theorem dX12_change_12 : decode cX12_change 12 = .ok (.iload_n 2, 1) := by decide +kernel
theorem dX12_change_13 : decode cX12_change 13 = .ok (.aload_n 0, 1) := by decide +kernel
theorem dX12_change_14 : decode cX12_change 14 = .ok (.getfield 13, 3) := by decide +kernel
theorem dX12_change_17 : decode cX12_change 17 = .ok (.iload_n 1, 1) := by decide +kernel
theorem dX12_change_18 : decode cX12_change 18 = .ok (.iaload, 1) := by decide +kernel
theorem dX12_change_19 : decode cX12_change 19 = .ok (.if_icmp .ge 7, 3) := by decide +kernel
theorem dX12_change_22 : decode cX12_change 22 = .ok (.iconst 0, 1) := by decide +kernel
theorem dX12_change_23 : decode cX12_change 23 = .ok (.goto 4, 3) := by decide +kernel
theorem dX12_change_26 : decode cX12_change 26 = .ok (.iconst 1, 1) := by decide +kernel
theorem dX12_change_27 : decode cX12_change 27 = .ok (.invokevirtual 83, 3) := by decide +kernel
theorem dX12_change_30 : decode cX12_change 30 = .ok (.ifCond .eq 4, 3) := by decide +kernel
theorem dX12_change_33 : decode cX12_change 33 = .ok (.return_, 1) := by decide +kernel
theorem dX12_change_34 : decode cX12_change 34 = .ok (.aload_n 0, 1) := by decide +kernel
theorem dX12_change_35 : decode cX12_change 35 = .ok (.bipush 24, 2) := by decide +kernel
theorem dX12_change_37 : decode cX12_change 37 = .ok (.iload_n 1, 1) := by decide +kernel
theorem dX12_change_38 : decode cX12_change 38 = .ok (.imul, 1) := by decide +kernel
theorem dX12_change_39 : decode cX12_change 39 = .ok (.iload_n 2, 1) := by decide +kernel
theorem dX12_change_40 : decode cX12_change 40 = .ok (.iadd, 1) := by decide +kernel
theorem dX12_change_41 : decode cX12_change 41 = .ok (.invokevirtual 90, 3) := by decide +kernel
theorem dX12_change_44 : decode cX12_change 44 = .ok (.return_, 1) := by decide +kernel
theorem dX12_drop_0 : decode cX12_drop 0 = .ok (.aload_n 0, 1) := by decide +kernel
theorem dX12_drop_1 : decode cX12_drop 1 = .ok (.iload_n 1, 1) := by decide +kernel
theorem dX12_drop_2 : decode cX12_drop 2 = .ok (.invokestatic 87, 3) := by decide +kernel
theorem dX12_drop_5 : decode cX12_drop 5 = .ok (.ifCond .eq 7, 3) := by decide +kernel
theorem dX12_drop_8 : decode cX12_drop 8 = .ok (.iconst 0, 1) := by decide +kernel
theorem dX12_drop_9 : decode cX12_drop 9 = .ok (.goto 4, 3) := by decide +kernel
theorem dX12_drop_12 : decode cX12_drop 12 = .ok (.iconst 1, 1) := by decide +kernel
theorem dX12_drop_13 : decode cX12_drop 13 = .ok (.invokevirtual 83, 3) := by decide +kernel
theorem dX12_drop_16 : decode cX12_drop 16 = .ok (.ifCond .eq 5, 3) := by decide +kernel
theorem dX12_drop_19 : decode cX12_drop 19 = .ok (.iconst 0, 1) := by decide +kernel
theorem dX12_drop_20 : decode cX12_drop 20 = .ok (.ireturn, 1) := by decide +kernel
theorem dX12_drop_21 : decode cX12_drop 21 = .ok (.aload_n 0, 1) := by decide +kernel
theorem dX12_drop_22 : decode cX12_drop 22 = .ok (.getfield 13, 3) := by decide +kernel
theorem dX12_drop_25 : decode cX12_drop 25 = .ok (.iload_n 1, 1) := by decide +kernel
theorem dX12_drop_26 : decode cX12_drop 26 = .ok (.iaload, 1) := by decide +kernel
theorem dX12_drop_27 : decode cX12_drop 27 = .ok (.istore_n 2, 1) := by decide +kernel
theorem dX12_drop_28 : decode cX12_drop 28 = .ok (.aload_n 0, 1) := by decide +kernel
theorem dX12_drop_29 : decode cX12_drop 29 = .ok (.getfield 13, 3) := by decide +kernel
theorem dX12_drop_32 : decode cX12_drop 32 = .ok (.iload_n 1, 1) := by decide +kernel
theorem dX12_drop_33 : decode cX12_drop 33 = .ok (.iconst 0, 1) := by decide +kernel
theorem dX12_drop_34 : decode cX12_drop 34 = .ok (.iastore, 1) := by decide +kernel
theorem dX12_drop_35 : decode cX12_drop 35 = .ok (.iload_n 2, 1) := by decide +kernel
theorem dX12_drop_36 : decode cX12_drop 36 = .ok (.ireturn, 1) := by decide +kernel
theorem dX12_next_0 : decode cX12_next 0 = .ok (.aload_n 0, 1) := by decide +kernel
theorem dX12_next_1 : decode cX12_next 1 = .ok (.getfield 94, 3) := by decide +kernel
theorem dX12_next_4 : decode cX12_next 4 = .ok (.aload_n 0, 1) := by decide +kernel
theorem dX12_next_5 : decode cX12_next 5 = .ok (.getfield 97, 3) := by decide +kernel
theorem dX12_next_8 : decode cX12_next 8 = .ok (.if_icmp .ge 30, 3) := by decide +kernel
theorem dX12_next_11 : decode cX12_next 11 = .ok (.aload_n 0, 1) := by decide +kernel
theorem dX12_next_12 : decode cX12_next 12 = .ok (.getfield 20, 3) := by decide +kernel
theorem dX12_next_15 : decode cX12_next 15 = .ok (.aload_n 0, 1) := by decide +kernel
theorem dX12_next_16 : decode cX12_next 16 = .ok (.getfield 94, 3) := by decide +kernel
theorem dX12_next_19 : decode cX12_next 19 = .ok (.caload, 1) := by decide +kernel
theorem dX12_next_20 : decode cX12_next 20 = .ok (.bipush 32, 2) := by decide +kernel
theorem dX12_next_22 : decode cX12_next 22 = .ok (.if_icmp .ne 16, 3) := by decide +kernel
theorem dX12_next_25 : decode cX12_next 25 = .ok (.aload_n 0, 1) := by decide +kernel
theorem dX12_next_26 : decode cX12_next 26 = .ok (.dup, 1) := by decide +kernel
theorem dX12_next_27 : decode cX12_next 27 = .ok (.getfield 94, 3) := by decide +kernel
theorem dX12_next_30 : decode cX12_next 30 = .ok (.iconst 1, 1) := by decide +kernel
theorem dX12_next_31 : decode cX12_next 31 = .ok (.iadd, 1) := by decide +kernel
theorem dX12_next_32 : decode cX12_next 32 = .ok (.putfield 94, 3) := by decide +kernel
theorem dX12_next_35 : decode cX12_next 35 = .ok (.goto (-35), 3) := by decide +kernel
theorem dX12_next_38 : decode cX12_next 38 = .ok (.aload_n 0, 1) := by decide +kernel
theorem dX12_next_39 : decode cX12_next 39 = .ok (.getfield 94, 3) := by decide +kernel
theorem dX12_next_42 : decode cX12_next 42 = .ok (.aload_n 0, 1) := by decide +kernel
theorem dX12_next_43 : decode cX12_next 43 = .ok (.getfield 97, 3) := by decide +kernel
theorem dX12_next_46 : decode cX12_next 46 = .ok (.if_icmp .ge 15, 3) := by decide +kernel
theorem dX12_next_49 : decode cX12_next 49 = .ok (.aload_n 0, 1) := by decide +kernel
theorem dX12_next_50 : decode cX12_next 50 = .ok (.getfield 20, 3) := by decide +kernel
theorem dX12_next_53 : decode cX12_next 53 = .ok (.aload_n 0, 1) := by decide +kernel
theorem dX12_next_54 : decode cX12_next 54 = .ok (.getfield 94, 3) := by decide +kernel
theorem dX12_next_57 : decode cX12_next 57 = .ok (.caload, 1) := by decide +kernel
theorem dX12_next_58 : decode cX12_next 58 = .ok (.goto 4, 3) := by decide +kernel
theorem dX12_next_61 : decode cX12_next 61 = .ok (.iconst 0, 1) := by decide +kernel
theorem dX12_next_62 : decode cX12_next 62 = .ok (.ireturn, 1) := by decide +kernel
theorem dX12_wrong_0 : decode cX12_wrong 0 = .ok (.aload_n 0, 1) := by decide +kernel
theorem dX12_wrong_1 : decode cX12_wrong 1 = .ok (.getfield 100, 3) := by decide +kernel
theorem dX12_wrong_4 : decode cX12_wrong 4 = .ok (.ifCond .ne 21, 3) := by decide +kernel
theorem dX12_wrong_7 : decode cX12_wrong 7 = .ok (.aload_n 0, 1) := by decide +kernel
theorem dX12_wrong_8 : decode cX12_wrong 8 = .ok (.iload_n 1, 1) := by decide +kernel
theorem dX12_wrong_9 : decode cX12_wrong 9 = .ok (.putfield 100, 3) := by decide +kernel
theorem dX12_wrong_12 : decode cX12_wrong 12 = .ok (.aload_n 0, 1) := by decide +kernel
theorem dX12_wrong_13 : decode cX12_wrong 13 = .ok (.iload_n 2, 1) := by decide +kernel
theorem dX12_wrong_14 : decode cX12_wrong 14 = .ok (.bipush 48, 2) := by decide +kernel
theorem dX12_wrong_16 : decode cX12_wrong 16 = .ok (.aload_n 0, 1) := by decide +kernel
theorem dX12_wrong_17 : decode cX12_wrong 17 = .ok (.getfield 103, 3) := by decide +kernel
theorem dX12_wrong_20 : decode cX12_wrong 20 = .ok (.imul, 1) := by decide +kernel
theorem dX12_wrong_21 : decode cX12_wrong 21 = .ok (.isub, 1) := by decide +kernel
theorem dX12_wrong_22 : decode cX12_wrong 22 = .ok (.putfield 106, 3) := by decide +kernel
theorem dX12_wrong_25 : decode cX12_wrong 25 = .ok (.return_, 1) := by decide +kernel
theorem dX12_isSmall_0 : decode cX12_isSmall 0 = .ok (.iload_n 0, 1) := by decide +kernel
theorem dX12_isSmall_1 : decode cX12_isSmall 1 = .ok (.bipush 97, 2) := by decide +kernel
theorem dX12_isSmall_3 : decode cX12_isSmall 3 = .ok (.if_icmp .lt 13, 3) := by decide +kernel
theorem dX12_isSmall_6 : decode cX12_isSmall 6 = .ok (.iload_n 0, 1) := by decide +kernel
theorem dX12_isSmall_7 : decode cX12_isSmall 7 = .ok (.bipush 122, 2) := by decide +kernel
theorem dX12_isSmall_9 : decode cX12_isSmall 9 = .ok (.if_icmp .gt 7, 3) := by decide +kernel
theorem dX12_isSmall_12 : decode cX12_isSmall 12 = .ok (.iconst 1, 1) := by decide +kernel
theorem dX12_isSmall_13 : decode cX12_isSmall 13 = .ok (.goto 4, 3) := by decide +kernel
theorem dX12_isSmall_16 : decode cX12_isSmall 16 = .ok (.iconst 0, 1) := by decide +kernel
theorem dX12_isSmall_17 : decode cX12_isSmall 17 = .ok (.ireturn, 1) := by decide +kernel
theorem dX12_isDigit_0 : decode cX12_isDigit 0 = .ok (.iload_n 0, 1) := by decide +kernel
theorem dX12_isDigit_1 : decode cX12_isDigit 1 = .ok (.bipush 48, 2) := by decide +kernel
theorem dX12_isDigit_3 : decode cX12_isDigit 3 = .ok (.if_icmp .lt 13, 3) := by decide +kernel
theorem dX12_isDigit_6 : decode cX12_isDigit 6 = .ok (.iload_n 0, 1) := by decide +kernel
theorem dX12_isDigit_7 : decode cX12_isDigit 7 = .ok (.bipush 57, 2) := by decide +kernel
theorem dX12_isDigit_9 : decode cX12_isDigit 9 = .ok (.if_icmp .gt 7, 3) := by decide +kernel
theorem dX12_isDigit_12 : decode cX12_isDigit 12 = .ok (.iconst 1, 1) := by decide +kernel
theorem dX12_isDigit_13 : decode cX12_isDigit 13 = .ok (.goto 4, 3) := by decide +kernel
theorem dX12_isDigit_16 : decode cX12_isDigit 16 = .ok (.iconst 0, 1) := by decide +kernel
theorem dX12_isDigit_17 : decode cX12_isDigit 17 = .ok (.ireturn, 1) := by decide +kernel
theorem dX12_isWordSign_0 : decode cX12_isWordSign 0 = .ok (.iload_n 0, 1) := by decide +kernel
theorem dX12_isWordSign_1 : decode cX12_isWordSign 1 = .ok (.invokestatic 109, 3) := by decide +kernel
theorem dX12_isWordSign_4 : decode cX12_isWordSign 4 = .ok (.ifCond .ne 10, 3) := by decide +kernel
theorem dX12_isWordSign_7 : decode cX12_isWordSign 7 = .ok (.iload_n 0, 1) := by decide +kernel
theorem dX12_isWordSign_8 : decode cX12_isWordSign 8 = .ok (.invokestatic 113, 3) := by decide +kernel
theorem dX12_isWordSign_11 : decode cX12_isWordSign 11 = .ok (.ifCond .eq 7, 3) := by decide +kernel
theorem dX12_isWordSign_14 : decode cX12_isWordSign 14 = .ok (.iconst 1, 1) := by decide +kernel
theorem dX12_isWordSign_15 : decode cX12_isWordSign 15 = .ok (.goto 4, 3) := by decide +kernel
theorem dX12_isWordSign_18 : decode cX12_isWordSign 18 = .ok (.iconst 0, 1) := by decide +kernel
theorem dX12_isWordSign_19 : decode cX12_isWordSign 19 = .ok (.ireturn, 1) := by decide +kernel
theorem dX12_takes_0 : decode cX12_takes 0 = .ok (.aload_n 0, 1) := by decide +kernel
theorem dX12_takes_1 : decode cX12_takes 1 = .ok (.getfield 100, 3) := by decide +kernel
theorem dX12_takes_4 : decode cX12_takes 4 = .ok (.ifCond .ne 11, 3) := by decide +kernel
theorem dX12_takes_7 : decode cX12_takes 7 = .ok (.aload_n 0, 1) := by decide +kernel
theorem dX12_takes_8 : decode cX12_takes 8 = .ok (.invokevirtual 116, 3) := by decide +kernel
theorem dX12_takes_11 : decode cX12_takes 11 = .ok (.iload_n 1, 1) := by decide +kernel
theorem dX12_takes_12 : decode cX12_takes 12 = .ok (.if_icmp .eq 5, 3) := by decide +kernel
theorem dX12_takes_15 : decode cX12_takes 15 = .ok (.iconst 0, 1) := by decide +kernel
theorem dX12_takes_16 : decode cX12_takes 16 = .ok (.ireturn, 1) := by decide +kernel
theorem dX12_takes_17 : decode cX12_takes 17 = .ok (.aload_n 0, 1) := by decide +kernel
theorem dX12_takes_18 : decode cX12_takes 18 = .ok (.dup, 1) := by decide +kernel
theorem dX12_takes_19 : decode cX12_takes 19 = .ok (.getfield 94, 3) := by decide +kernel
theorem dX12_takes_22 : decode cX12_takes 22 = .ok (.iconst 1, 1) := by decide +kernel
theorem dX12_takes_23 : decode cX12_takes 23 = .ok (.iadd, 1) := by decide +kernel
theorem dX12_takes_24 : decode cX12_takes 24 = .ok (.putfield 94, 3) := by decide +kernel
theorem dX12_takes_27 : decode cX12_takes 27 = .ok (.iconst 1, 1) := by decide +kernel
theorem dX12_takes_28 : decode cX12_takes 28 = .ok (.ireturn, 1) := by decide +kernel
theorem dX12_want_0 : decode cX12_want 0 = .ok (.aload_n 0, 1) := by decide +kernel
theorem dX12_want_1 : decode cX12_want 1 = .ok (.iload_n 1, 1) := by decide +kernel
theorem dX12_want_2 : decode cX12_want 2 = .ok (.invokevirtual 120, 3) := by decide +kernel
theorem dX12_want_5 : decode cX12_want 5 = .ok (.ifCond .ne 13, 3) := by decide +kernel
theorem dX12_want_8 : decode cX12_want 8 = .ok (.aload_n 0, 1) := by decide +kernel
theorem dX12_want_9 : decode cX12_want 9 = .ok (.bipush (-3), 2) := by decide +kernel
theorem dX12_want_11 : decode cX12_want 11 = .ok (.aload_n 0, 1) := by decide +kernel
theorem dX12_want_12 : decode cX12_want 12 = .ok (.getfield 94, 3) := by decide +kernel
theorem dX12_want_15 : decode cX12_want 15 = .ok (.invokevirtual 123, 3) := by decide +kernel
theorem dX12_want_18 : decode cX12_want 18 = .ok (.return_, 1) := by decide +kernel
theorem dX12_wordEnd_0 : decode cX12_wordEnd 0 = .ok (.aload_n 0, 1) := by decide +kernel
theorem dX12_wordEnd_1 : decode cX12_wordEnd 1 = .ok (.invokevirtual 116, 3) := by decide +kernel
theorem dX12_wordEnd_4 : decode cX12_wordEnd 4 = .ok (.pop, 1) := by decide +kernel
theorem dX12_wordEnd_5 : decode cX12_wordEnd 5 = .ok (.aload_n 0, 1) := by decide +kernel
theorem dX12_wordEnd_6 : decode cX12_wordEnd 6 = .ok (.getfield 94, 3) := by decide +kernel
theorem dX12_wordEnd_9 : decode cX12_wordEnd 9 = .ok (.istore_n 1, 1) := by decide +kernel
theorem dX12_wordEnd_10 : decode cX12_wordEnd 10 = .ok (.iload_n 1, 1) := by decide +kernel
theorem dX12_wordEnd_11 : decode cX12_wordEnd 11 = .ok (.aload_n 0, 1) := by decide +kernel
theorem dX12_wordEnd_12 : decode cX12_wordEnd 12 = .ok (.getfield 97, 3) := by decide +kernel
theorem dX12_wordEnd_15 : decode cX12_wordEnd 15 = .ok (.if_icmp .ge 45, 3) := by decide +kernel
theorem dX12_wordEnd_18 : decode cX12_wordEnd 18 = .ok (.aload_n 0, 1) := by decide +kernel
theorem dX12_wordEnd_19 : decode cX12_wordEnd 19 = .ok (.getfield 20, 3) := by decide +kernel
theorem dX12_wordEnd_22 : decode cX12_wordEnd 22 = .ok (.iload_n 1, 1) := by decide +kernel
theorem dX12_wordEnd_23 : decode cX12_wordEnd 23 = .ok (.caload, 1) := by decide +kernel
theorem dX12_wordEnd_24 : decode cX12_wordEnd 24 = .ok (.bipush 46, 2) := by decide +kernel
theorem dX12_wordEnd_26 : decode cX12_wordEnd 26 = .ok (.if_icmp .ne 34, 3) := by decide +kernel
theorem dX12_wordEnd_29 : decode cX12_wordEnd 29 = .ok (.iinc 1 1, 3) := by decide +kernel
theorem dX12_wordEnd_32 : decode cX12_wordEnd 32 = .ok (.iload_n 1, 1) := by decide +kernel
theorem dX12_wordEnd_33 : decode cX12_wordEnd 33 = .ok (.aload_n 0, 1) := by decide +kernel
theorem dX12_wordEnd_34 : decode cX12_wordEnd 34 = .ok (.getfield 97, 3) := by decide +kernel
theorem dX12_wordEnd_37 : decode cX12_wordEnd 37 = .ok (.if_icmp .ge 21, 3) := by decide +kernel
theorem dX12_wordEnd_40 : decode cX12_wordEnd 40 = .ok (.aload_n 0, 1) := by decide +kernel
theorem dX12_wordEnd_41 : decode cX12_wordEnd 41 = .ok (.getfield 20, 3) := by decide +kernel
theorem dX12_wordEnd_44 : decode cX12_wordEnd 44 = .ok (.iload_n 1, 1) := by decide +kernel
theorem dX12_wordEnd_45 : decode cX12_wordEnd 45 = .ok (.caload, 1) := by decide +kernel
theorem dX12_wordEnd_46 : decode cX12_wordEnd 46 = .ok (.invokestatic 109, 3) := by decide +kernel
theorem dX12_wordEnd_49 : decode cX12_wordEnd 49 = .ok (.ifCond .eq 9, 3) := by decide +kernel
theorem dX12_wordEnd_52 : decode cX12_wordEnd 52 = .ok (.iinc 1 1, 3) := by decide +kernel
theorem dX12_wordEnd_55 : decode cX12_wordEnd 55 = .ok (.goto (-23), 3) := by decide +kernel
theorem dX12_wordEnd_58 : decode cX12_wordEnd 58 = .ok (.iload_n 1, 1) := by decide +kernel
theorem dX12_wordEnd_59 : decode cX12_wordEnd 59 = .ok (.ireturn, 1) := by decide +kernel
theorem dX12_wordEnd_60 : decode cX12_wordEnd 60 = .ok (.iload_n 1, 1) := by decide +kernel
theorem dX12_wordEnd_61 : decode cX12_wordEnd 61 = .ok (.aload_n 0, 1) := by decide +kernel
theorem dX12_wordEnd_62 : decode cX12_wordEnd 62 = .ok (.getfield 97, 3) := by decide +kernel
theorem dX12_wordEnd_65 : decode cX12_wordEnd 65 = .ok (.if_icmp .ge 21, 3) := by decide +kernel
theorem dX12_wordEnd_68 : decode cX12_wordEnd 68 = .ok (.aload_n 0, 1) := by decide +kernel
theorem dX12_wordEnd_69 : decode cX12_wordEnd 69 = .ok (.getfield 20, 3) := by decide +kernel
theorem dX12_wordEnd_72 : decode cX12_wordEnd 72 = .ok (.iload_n 1, 1) := by decide +kernel
theorem dX12_wordEnd_73 : decode cX12_wordEnd 73 = .ok (.caload, 1) := by decide +kernel
theorem dX12_wordEnd_74 : decode cX12_wordEnd 74 = .ok (.invokestatic 126, 3) := by decide +kernel
theorem dX12_wordEnd_77 : decode cX12_wordEnd 77 = .ok (.ifCond .eq 9, 3) := by decide +kernel
theorem dX12_wordEnd_80 : decode cX12_wordEnd 80 = .ok (.iinc 1 1, 3) := by decide +kernel
theorem dX12_wordEnd_83 : decode cX12_wordEnd 83 = .ok (.goto (-23), 3) := by decide +kernel
theorem dX12_wordEnd_86 : decode cX12_wordEnd 86 = .ok (.iload_n 1, 1) := by decide +kernel
theorem dX12_wordEnd_87 : decode cX12_wordEnd 87 = .ok (.ireturn, 1) := by decide +kernel
theorem dX12_isWord_0 : decode cX12_isWord 0 = .ok (.iconst 0, 1) := by decide +kernel
theorem dX12_isWord_1 : decode cX12_isWord 1 = .ok (.istore 5, 2) := by decide +kernel
theorem dX12_isWord_3 : decode cX12_isWord 3 = .ok (.lload_n 3, 1) := by decide +kernel
theorem dX12_isWord_4 : decode cX12_isWord 4 = .ok (.lstore 6, 2) := by decide +kernel
theorem dX12_isWord_6 : decode cX12_isWord 6 = .ok (.lload 6, 2) := by decide +kernel
theorem dX12_isWord_8 : decode cX12_isWord 8 = .ok (.lconst 0, 1) := by decide +kernel
theorem dX12_isWord_9 : decode cX12_isWord 9 = .ok (.lcmp, 1) := by decide +kernel
theorem dX12_isWord_10 : decode cX12_isWord 10 = .ok (.ifCond .eq 16, 3) := by decide +kernel
theorem dX12_isWord_13 : decode cX12_isWord 13 = .ok (.iinc 5 1, 3) := by decide +kernel
theorem dX12_isWord_16 : decode cX12_isWord 16 = .ok (.lload 6, 2) := by decide +kernel
theorem dX12_isWord_18 : decode cX12_isWord 18 = .ok (.bipush 8, 2) := by decide +kernel
theorem dX12_isWord_20 : decode cX12_isWord 20 = .ok (.lshr, 1) := by decide +kernel
theorem dX12_isWord_21 : decode cX12_isWord 21 = .ok (.lstore 6, 2) := by decide +kernel
theorem dX12_isWord_23 : decode cX12_isWord 23 = .ok (.goto (-17), 3) := by decide +kernel
theorem dX12_isWord_26 : decode cX12_isWord 26 = .ok (.iload_n 2, 1) := by decide +kernel
theorem dX12_isWord_27 : decode cX12_isWord 27 = .ok (.iload_n 1, 1) := by decide +kernel
theorem dX12_isWord_28 : decode cX12_isWord 28 = .ok (.isub, 1) := by decide +kernel
theorem dX12_isWord_29 : decode cX12_isWord 29 = .ok (.iload 5, 2) := by decide +kernel
theorem dX12_isWord_31 : decode cX12_isWord 31 = .ok (.if_icmp .ne 7, 3) := by decide +kernel
theorem dX12_isWord_34 : decode cX12_isWord 34 = .ok (.iconst 1, 1) := by decide +kernel
theorem dX12_isWord_35 : decode cX12_isWord 35 = .ok (.goto 4, 3) := by decide +kernel
theorem dX12_isWord_38 : decode cX12_isWord 38 = .ok (.iconst 0, 1) := by decide +kernel
theorem dX12_isWord_39 : decode cX12_isWord 39 = .ok (.istore 6, 2) := by decide +kernel
theorem dX12_isWord_41 : decode cX12_isWord 41 = .ok (.iconst 0, 1) := by decide +kernel
theorem dX12_isWord_42 : decode cX12_isWord 42 = .ok (.istore 7, 2) := by decide +kernel
theorem dX12_isWord_44 : decode cX12_isWord 44 = .ok (.iload 7, 2) := by decide +kernel
theorem dX12_isWord_46 : decode cX12_isWord 46 = .ok (.iload 5, 2) := by decide +kernel
theorem dX12_isWord_48 : decode cX12_isWord 48 = .ok (.if_icmp .ge 51, 3) := by decide +kernel
theorem dX12_isWord_51 : decode cX12_isWord 51 = .ok (.iload 6, 2) := by decide +kernel
theorem dX12_isWord_53 : decode cX12_isWord 53 = .ok (.ifCond .eq 46, 3) := by decide +kernel
theorem dX12_isWord_56 : decode cX12_isWord 56 = .ok (.aload_n 0, 1) := by decide +kernel
theorem dX12_isWord_57 : decode cX12_isWord 57 = .ok (.getfield 20, 3) := by decide +kernel
theorem dX12_isWord_60 : decode cX12_isWord 60 = .ok (.iload_n 1, 1) := by decide +kernel
theorem dX12_isWord_61 : decode cX12_isWord 61 = .ok (.iload 7, 2) := by decide +kernel
theorem dX12_isWord_63 : decode cX12_isWord 63 = .ok (.iadd, 1) := by decide +kernel
theorem dX12_isWord_64 : decode cX12_isWord 64 = .ok (.caload, 1) := by decide +kernel
theorem dX12_isWord_65 : decode cX12_isWord 65 = .ok (.lload_n 3, 1) := by decide +kernel
theorem dX12_isWord_66 : decode cX12_isWord 66 = .ok (.bipush 8, 2) := by decide +kernel
theorem dX12_isWord_68 : decode cX12_isWord 68 = .ok (.iload 5, 2) := by decide +kernel
theorem dX12_isWord_70 : decode cX12_isWord 70 = .ok (.iconst 1, 1) := by decide +kernel
theorem dX12_isWord_71 : decode cX12_isWord 71 = .ok (.isub, 1) := by decide +kernel
theorem dX12_isWord_72 : decode cX12_isWord 72 = .ok (.iload 7, 2) := by decide +kernel
theorem dX12_isWord_74 : decode cX12_isWord 74 = .ok (.isub, 1) := by decide +kernel
theorem dX12_isWord_75 : decode cX12_isWord 75 = .ok (.imul, 1) := by decide +kernel
theorem dX12_isWord_76 : decode cX12_isWord 76 = .ok (.lshr, 1) := by decide +kernel
theorem dX12_isWord_77 : decode cX12_isWord 77 = .ok (.ldc2_w 129, 3) := by decide +kernel
theorem dX12_isWord_80 : decode cX12_isWord 80 = .ok (.land, 1) := by decide +kernel
theorem dX12_isWord_81 : decode cX12_isWord 81 = .ok (.l2i, 1) := by decide +kernel
theorem dX12_isWord_82 : decode cX12_isWord 82 = .ok (.i2c, 1) := by decide +kernel
theorem dX12_isWord_83 : decode cX12_isWord 83 = .ok (.if_icmp .ne 7, 3) := by decide +kernel
theorem dX12_isWord_86 : decode cX12_isWord 86 = .ok (.iconst 1, 1) := by decide +kernel
theorem dX12_isWord_87 : decode cX12_isWord 87 = .ok (.goto 4, 3) := by decide +kernel
theorem dX12_isWord_90 : decode cX12_isWord 90 = .ok (.iconst 0, 1) := by decide +kernel
theorem dX12_isWord_91 : decode cX12_isWord 91 = .ok (.istore 6, 2) := by decide +kernel
theorem dX12_isWord_93 : decode cX12_isWord 93 = .ok (.iinc 7 1, 3) := by decide +kernel
theorem dX12_isWord_96 : decode cX12_isWord 96 = .ok (.goto (-52), 3) := by decide +kernel
theorem dX12_isWord_99 : decode cX12_isWord 99 = .ok (.iload 6, 2) := by decide +kernel
theorem dX12_isWord_101 : decode cX12_isWord 101 = .ok (.ireturn, 1) := by decide +kernel
theorem dX12_isName_0 : decode cX12_isName 0 = .ok (.iload_n 2, 1) := by decide +kernel
theorem dX12_isName_1 : decode cX12_isName 1 = .ok (.iload_n 1, 1) := by decide +kernel
theorem dX12_isName_2 : decode cX12_isName 2 = .ok (.isub, 1) := by decide +kernel
theorem dX12_isName_3 : decode cX12_isName 3 = .ok (.iconst 1, 1) := by decide +kernel
theorem dX12_isName_4 : decode cX12_isName 4 = .ok (.if_icmp .lt 27, 3) := by decide +kernel
theorem dX12_isName_7 : decode cX12_isName 7 = .ok (.iload_n 2, 1) := by decide +kernel
theorem dX12_isName_8 : decode cX12_isName 8 = .ok (.iload_n 1, 1) := by decide +kernel
theorem dX12_isName_9 : decode cX12_isName 9 = .ok (.isub, 1) := by decide +kernel
theorem dX12_isName_10 : decode cX12_isName 10 = .ok (.bipush 6, 2) := by decide +kernel
theorem dX12_isName_12 : decode cX12_isName 12 = .ok (.if_icmp .gt 19, 3) := by decide +kernel
theorem dX12_isName_15 : decode cX12_isName 15 = .ok (.aload_n 0, 1) := by decide +kernel
theorem dX12_isName_16 : decode cX12_isName 16 = .ok (.getfield 20, 3) := by decide +kernel
theorem dX12_isName_19 : decode cX12_isName 19 = .ok (.iload_n 1, 1) := by decide +kernel
theorem dX12_isName_20 : decode cX12_isName 20 = .ok (.caload, 1) := by decide +kernel
theorem dX12_isName_21 : decode cX12_isName 21 = .ok (.invokestatic 109, 3) := by decide +kernel
theorem dX12_isName_24 : decode cX12_isName 24 = .ok (.ifCond .eq 7, 3) := by decide +kernel
theorem dX12_isName_27 : decode cX12_isName 27 = .ok (.iconst 1, 1) := by decide +kernel
theorem dX12_isName_28 : decode cX12_isName 28 = .ok (.goto 4, 3) := by decide +kernel
theorem dX12_isName_31 : decode cX12_isName 31 = .ok (.iconst 0, 1) := by decide +kernel
theorem dX12_isName_32 : decode cX12_isName 32 = .ok (.istore_n 3, 1) := by decide +kernel
theorem dX12_isName_33 : decode cX12_isName 33 = .ok (.iload_n 1, 1) := by decide +kernel
theorem dX12_isName_34 : decode cX12_isName 34 = .ok (.istore 4, 2) := by decide +kernel
theorem dX12_isName_36 : decode cX12_isName 36 = .ok (.iload 4, 2) := by decide +kernel
theorem dX12_isName_38 : decode cX12_isName 38 = .ok (.iload_n 2, 1) := by decide +kernel
theorem dX12_isName_39 : decode cX12_isName 39 = .ok (.if_icmp .ge 45, 3) := by decide +kernel
theorem dX12_isName_42 : decode cX12_isName 42 = .ok (.iload_n 3, 1) := by decide +kernel
theorem dX12_isName_43 : decode cX12_isName 43 = .ok (.ifCond .eq 41, 3) := by decide +kernel
theorem dX12_isName_46 : decode cX12_isName 46 = .ok (.aload_n 0, 1) := by decide +kernel
theorem dX12_isName_47 : decode cX12_isName 47 = .ok (.getfield 20, 3) := by decide +kernel
theorem dX12_isName_50 : decode cX12_isName 50 = .ok (.iload 4, 2) := by decide +kernel
theorem dX12_isName_52 : decode cX12_isName 52 = .ok (.caload, 1) := by decide +kernel
theorem dX12_isName_53 : decode cX12_isName 53 = .ok (.invokestatic 109, 3) := by decide +kernel
theorem dX12_isName_56 : decode cX12_isName 56 = .ok (.ifCond .ne 16, 3) := by decide +kernel
theorem dX12_isName_59 : decode cX12_isName 59 = .ok (.aload_n 0, 1) := by decide +kernel
theorem dX12_isName_60 : decode cX12_isName 60 = .ok (.getfield 20, 3) := by decide +kernel
theorem dX12_isName_63 : decode cX12_isName 63 = .ok (.iload 4, 2) := by decide +kernel
theorem dX12_isName_65 : decode cX12_isName 65 = .ok (.caload, 1) := by decide +kernel
theorem dX12_isName_66 : decode cX12_isName 66 = .ok (.invokestatic 113, 3) := by decide +kernel
theorem dX12_isName_69 : decode cX12_isName 69 = .ok (.ifCond .eq 7, 3) := by decide +kernel
theorem dX12_isName_72 : decode cX12_isName 72 = .ok (.iconst 1, 1) := by decide +kernel
theorem dX12_isName_73 : decode cX12_isName 73 = .ok (.goto 4, 3) := by decide +kernel
theorem dX12_isName_76 : decode cX12_isName 76 = .ok (.iconst 0, 1) := by decide +kernel
theorem dX12_isName_77 : decode cX12_isName 77 = .ok (.istore_n 3, 1) := by decide +kernel
theorem dX12_isName_78 : decode cX12_isName 78 = .ok (.iinc 4 1, 3) := by decide +kernel
theorem dX12_isName_81 : decode cX12_isName 81 = .ok (.goto (-45), 3) := by decide +kernel
theorem dX12_isName_84 : decode cX12_isName 84 = .ok (.iload_n 3, 1) := by decide +kernel
theorem dX12_isName_85 : decode cX12_isName 85 = .ok (.ireturn, 1) := by decide +kernel
theorem dX12_register_0 : decode cX12_register 0 = .ok (.aload_n 0, 1) := by decide +kernel
theorem dX12_register_1 : decode cX12_register 1 = .ok (.invokevirtual 131, 3) := by decide +kernel
theorem dX12_register_4 : decode cX12_register 4 = .ok (.istore_n 1, 1) := by decide +kernel
theorem dX12_register_5 : decode cX12_register 5 = .ok (.iload_n 1, 1) := by decide +kernel
theorem dX12_register_6 : decode cX12_register 6 = .ok (.aload_n 0, 1) := by decide +kernel
theorem dX12_register_7 : decode cX12_register 7 = .ok (.getfield 94, 3) := by decide +kernel
theorem dX12_register_10 : decode cX12_register 10 = .ok (.isub, 1) := by decide +kernel
theorem dX12_register_11 : decode cX12_register 11 = .ok (.iconst 2, 1) := by decide +kernel
theorem dX12_register_12 : decode cX12_register 12 = .ok (.if_icmp .ne 53, 3) := by decide +kernel
theorem dX12_register_15 : decode cX12_register 15 = .ok (.aload_n 0, 1) := by decide +kernel
theorem dX12_register_16 : decode cX12_register 16 = .ok (.getfield 20, 3) := by decide +kernel
theorem dX12_register_19 : decode cX12_register 19 = .ok (.aload_n 0, 1) := by decide +kernel
theorem dX12_register_20 : decode cX12_register 20 = .ok (.getfield 94, 3) := by decide +kernel
theorem dX12_register_23 : decode cX12_register 23 = .ok (.caload, 1) := by decide +kernel
theorem dX12_register_24 : decode cX12_register 24 = .ok (.bipush 114, 2) := by decide +kernel
theorem dX12_register_26 : decode cX12_register 26 = .ok (.if_icmp .ne 39, 3) := by decide +kernel
theorem dX12_register_29 : decode cX12_register 29 = .ok (.aload_n 0, 1) := by decide +kernel
theorem dX12_register_30 : decode cX12_register 30 = .ok (.getfield 20, 3) := by decide +kernel
theorem dX12_register_33 : decode cX12_register 33 = .ok (.aload_n 0, 1) := by decide +kernel
theorem dX12_register_34 : decode cX12_register 34 = .ok (.getfield 94, 3) := by decide +kernel
theorem dX12_register_37 : decode cX12_register 37 = .ok (.iconst 1, 1) := by decide +kernel
theorem dX12_register_38 : decode cX12_register 38 = .ok (.iadd, 1) := by decide +kernel
theorem dX12_register_39 : decode cX12_register 39 = .ok (.caload, 1) := by decide +kernel
theorem dX12_register_40 : decode cX12_register 40 = .ok (.bipush 48, 2) := by decide +kernel
theorem dX12_register_42 : decode cX12_register 42 = .ok (.if_icmp .lt 23, 3) := by decide +kernel
theorem dX12_register_45 : decode cX12_register 45 = .ok (.aload_n 0, 1) := by decide +kernel
theorem dX12_register_46 : decode cX12_register 46 = .ok (.getfield 20, 3) := by decide +kernel
theorem dX12_register_49 : decode cX12_register 49 = .ok (.aload_n 0, 1) := by decide +kernel
theorem dX12_register_50 : decode cX12_register 50 = .ok (.getfield 94, 3) := by decide +kernel
theorem dX12_register_53 : decode cX12_register 53 = .ok (.iconst 1, 1) := by decide +kernel
theorem dX12_register_54 : decode cX12_register 54 = .ok (.iadd, 1) := by decide +kernel
theorem dX12_register_55 : decode cX12_register 55 = .ok (.caload, 1) := by decide +kernel
theorem dX12_register_56 : decode cX12_register 56 = .ok (.bipush 55, 2) := by decide +kernel
theorem dX12_register_58 : decode cX12_register 58 = .ok (.if_icmp .gt 7, 3) := by decide +kernel
theorem dX12_register_61 : decode cX12_register 61 = .ok (.iconst 1, 1) := by decide +kernel
theorem dX12_register_62 : decode cX12_register 62 = .ok (.goto 4, 3) := by decide +kernel
theorem dX12_register_65 : decode cX12_register 65 = .ok (.iconst 0, 1) := by decide +kernel
theorem dX12_register_66 : decode cX12_register 66 = .ok (.istore_n 2, 1) := by decide +kernel
theorem dX12_register_67 : decode cX12_register 67 = .ok (.aload_n 0, 1) := by decide +kernel
theorem dX12_register_68 : decode cX12_register 68 = .ok (.getfield 100, 3) := by decide +kernel
theorem dX12_register_71 : decode cX12_register 71 = .ok (.ifCond .ne 7, 3) := by decide +kernel
theorem dX12_register_74 : decode cX12_register 74 = .ok (.iload_n 2, 1) := by decide +kernel
theorem dX12_register_75 : decode cX12_register 75 = .ok (.ifCond .ne 15, 3) := by decide +kernel
theorem dX12_register_78 : decode cX12_register 78 = .ok (.aload_n 0, 1) := by decide +kernel
theorem dX12_register_79 : decode cX12_register 79 = .ok (.bipush (-3), 2) := by decide +kernel
theorem dX12_register_81 : decode cX12_register 81 = .ok (.aload_n 0, 1) := by decide +kernel
theorem dX12_register_82 : decode cX12_register 82 = .ok (.getfield 94, 3) := by decide +kernel
theorem dX12_register_85 : decode cX12_register 85 = .ok (.invokevirtual 123, 3) := by decide +kernel
theorem dX12_register_88 : decode cX12_register 88 = .ok (.iconst 0, 1) := by decide +kernel
theorem dX12_register_89 : decode cX12_register 89 = .ok (.ireturn, 1) := by decide +kernel
theorem dX12_register_90 : decode cX12_register 90 = .ok (.aload_n 0, 1) := by decide +kernel
theorem dX12_register_91 : decode cX12_register 91 = .ok (.getfield 20, 3) := by decide +kernel
theorem dX12_register_94 : decode cX12_register 94 = .ok (.aload_n 0, 1) := by decide +kernel
theorem dX12_register_95 : decode cX12_register 95 = .ok (.getfield 94, 3) := by decide +kernel
theorem dX12_register_98 : decode cX12_register 98 = .ok (.iconst 1, 1) := by decide +kernel
theorem dX12_register_99 : decode cX12_register 99 = .ok (.iadd, 1) := by decide +kernel
theorem dX12_register_100 : decode cX12_register 100 = .ok (.caload, 1) := by decide +kernel
theorem dX12_register_101 : decode cX12_register 101 = .ok (.bipush 48, 2) := by decide +kernel
theorem dX12_register_103 : decode cX12_register 103 = .ok (.isub, 1) := by decide +kernel
theorem dX12_register_104 : decode cX12_register 104 = .ok (.istore_n 3, 1) := by decide +kernel
theorem dX12_register_105 : decode cX12_register 105 = .ok (.aload_n 0, 1) := by decide +kernel
theorem dX12_register_106 : decode cX12_register 106 = .ok (.iload_n 1, 1) := by decide +kernel
theorem dX12_register_107 : decode cX12_register 107 = .ok (.putfield 94, 3) := by decide +kernel
theorem dX12_register_110 : decode cX12_register 110 = .ok (.iload_n 3, 1) := by decide +kernel
theorem dX12_register_111 : decode cX12_register 111 = .ok (.ireturn, 1) := by decide +kernel
theorem dX12_digits_0 : decode cX12_digits 0 = .ok (.aload_n 0, 1) := by decide +kernel
theorem dX12_digits_1 : decode cX12_digits 1 = .ok (.invokevirtual 131, 3) := by decide +kernel
theorem dX12_digits_4 : decode cX12_digits 4 = .ok (.istore_n 1, 1) := by decide +kernel
theorem dX12_digits_5 : decode cX12_digits 5 = .ok (.iload_n 1, 1) := by decide +kernel
theorem dX12_digits_6 : decode cX12_digits 6 = .ok (.aload_n 0, 1) := by decide +kernel
theorem dX12_digits_7 : decode cX12_digits 7 = .ok (.getfield 94, 3) := by decide +kernel
theorem dX12_digits_10 : decode cX12_digits 10 = .ok (.if_icmp .le 17, 3) := by decide +kernel
theorem dX12_digits_13 : decode cX12_digits 13 = .ok (.iload_n 1, 1) := by decide +kernel
theorem dX12_digits_14 : decode cX12_digits 14 = .ok (.aload_n 0, 1) := by decide +kernel
theorem dX12_digits_15 : decode cX12_digits 15 = .ok (.getfield 94, 3) := by decide +kernel
theorem dX12_digits_18 : decode cX12_digits 18 = .ok (.isub, 1) := by decide +kernel
theorem dX12_digits_19 : decode cX12_digits 19 = .ok (.iconst 4, 1) := by decide +kernel
theorem dX12_digits_20 : decode cX12_digits 20 = .ok (.if_icmp .gt 7, 3) := by decide +kernel
theorem dX12_digits_23 : decode cX12_digits 23 = .ok (.iconst 1, 1) := by decide +kernel
theorem dX12_digits_24 : decode cX12_digits 24 = .ok (.goto 4, 3) := by decide +kernel
theorem dX12_digits_27 : decode cX12_digits 27 = .ok (.iconst 0, 1) := by decide +kernel
theorem dX12_digits_28 : decode cX12_digits 28 = .ok (.istore_n 2, 1) := by decide +kernel
theorem dX12_digits_29 : decode cX12_digits 29 = .ok (.iconst 0, 1) := by decide +kernel
theorem dX12_digits_30 : decode cX12_digits 30 = .ok (.istore_n 3, 1) := by decide +kernel
theorem dX12_digits_31 : decode cX12_digits 31 = .ok (.aload_n 0, 1) := by decide +kernel
theorem dX12_digits_32 : decode cX12_digits 32 = .ok (.getfield 94, 3) := by decide +kernel
theorem dX12_digits_35 : decode cX12_digits 35 = .ok (.istore 4, 2) := by decide +kernel
theorem dX12_digits_37 : decode cX12_digits 37 = .ok (.iload 4, 2) := by decide +kernel
theorem dX12_digits_39 : decode cX12_digits 39 = .ok (.iload_n 1, 1) := by decide +kernel
theorem dX12_digits_40 : decode cX12_digits 40 = .ok (.if_icmp .ge 40, 3) := by decide +kernel
theorem dX12_digits_43 : decode cX12_digits 43 = .ok (.iload_n 2, 1) := by decide +kernel
theorem dX12_digits_44 : decode cX12_digits 44 = .ok (.ifCond .eq 36, 3) := by decide +kernel
theorem dX12_digits_47 : decode cX12_digits 47 = .ok (.aload_n 0, 1) := by decide +kernel
theorem dX12_digits_48 : decode cX12_digits 48 = .ok (.getfield 20, 3) := by decide +kernel
theorem dX12_digits_51 : decode cX12_digits 51 = .ok (.iload 4, 2) := by decide +kernel
theorem dX12_digits_53 : decode cX12_digits 53 = .ok (.caload, 1) := by decide +kernel
theorem dX12_digits_54 : decode cX12_digits 54 = .ok (.invokestatic 113, 3) := by decide +kernel
theorem dX12_digits_57 : decode cX12_digits 57 = .ok (.istore_n 2, 1) := by decide +kernel
theorem dX12_digits_58 : decode cX12_digits 58 = .ok (.bipush 10, 2) := by decide +kernel
theorem dX12_digits_60 : decode cX12_digits 60 = .ok (.iload_n 3, 1) := by decide +kernel
theorem dX12_digits_61 : decode cX12_digits 61 = .ok (.imul, 1) := by decide +kernel
theorem dX12_digits_62 : decode cX12_digits 62 = .ok (.aload_n 0, 1) := by decide +kernel
theorem dX12_digits_63 : decode cX12_digits 63 = .ok (.getfield 20, 3) := by decide +kernel
theorem dX12_digits_66 : decode cX12_digits 66 = .ok (.iload 4, 2) := by decide +kernel
theorem dX12_digits_68 : decode cX12_digits 68 = .ok (.caload, 1) := by decide +kernel
theorem dX12_digits_69 : decode cX12_digits 69 = .ok (.iadd, 1) := by decide +kernel
theorem dX12_digits_70 : decode cX12_digits 70 = .ok (.bipush 48, 2) := by decide +kernel
theorem dX12_digits_72 : decode cX12_digits 72 = .ok (.isub, 1) := by decide +kernel
theorem dX12_digits_73 : decode cX12_digits 73 = .ok (.istore_n 3, 1) := by decide +kernel
theorem dX12_digits_74 : decode cX12_digits 74 = .ok (.iinc 4 1, 3) := by decide +kernel
theorem dX12_digits_77 : decode cX12_digits 77 = .ok (.goto (-40), 3) := by decide +kernel
theorem dX12_digits_80 : decode cX12_digits 80 = .ok (.aload_n 0, 1) := by decide +kernel
theorem dX12_digits_81 : decode cX12_digits 81 = .ok (.getfield 100, 3) := by decide +kernel
theorem dX12_digits_84 : decode cX12_digits 84 = .ok (.ifCond .ne 7, 3) := by decide +kernel
theorem dX12_digits_87 : decode cX12_digits 87 = .ok (.iload_n 2, 1) := by decide +kernel
theorem dX12_digits_88 : decode cX12_digits 88 = .ok (.ifCond .ne 15, 3) := by decide +kernel
theorem dX12_digits_91 : decode cX12_digits 91 = .ok (.aload_n 0, 1) := by decide +kernel
theorem dX12_digits_92 : decode cX12_digits 92 = .ok (.bipush (-3), 2) := by decide +kernel
theorem dX12_digits_94 : decode cX12_digits 94 = .ok (.aload_n 0, 1) := by decide +kernel
theorem dX12_digits_95 : decode cX12_digits 95 = .ok (.getfield 94, 3) := by decide +kernel
theorem dX12_digits_98 : decode cX12_digits 98 = .ok (.invokevirtual 123, 3) := by decide +kernel
theorem dX12_digits_101 : decode cX12_digits 101 = .ok (.iconst 0, 1) := by decide +kernel
theorem dX12_digits_102 : decode cX12_digits 102 = .ok (.ireturn, 1) := by decide +kernel
theorem dX12_digits_103 : decode cX12_digits 103 = .ok (.aload_n 0, 1) := by decide +kernel
theorem dX12_digits_104 : decode cX12_digits 104 = .ok (.iload_n 1, 1) := by decide +kernel
theorem dX12_digits_105 : decode cX12_digits 105 = .ok (.putfield 94, 3) := by decide +kernel
theorem dX12_digits_108 : decode cX12_digits 108 = .ok (.iload_n 3, 1) := by decide +kernel
theorem dX12_digits_109 : decode cX12_digits 109 = .ok (.ireturn, 1) := by decide +kernel
theorem dX12_readNumber_0 : decode cX12_readNumber 0 = .ok (.aload_n 0, 1) := by decide +kernel
theorem dX12_readNumber_1 : decode cX12_readNumber 1 = .ok (.getfield 100, 3) := by decide +kernel
theorem dX12_readNumber_4 : decode cX12_readNumber 4 = .ok (.ifCond .eq 5, 3) := by decide +kernel
theorem dX12_readNumber_7 : decode cX12_readNumber 7 = .ok (.iconst 0, 1) := by decide +kernel
theorem dX12_readNumber_8 : decode cX12_readNumber 8 = .ok (.ireturn, 1) := by decide +kernel
theorem dX12_readNumber_9 : decode cX12_readNumber 9 = .ok (.aload_n 0, 1) := by decide +kernel
theorem dX12_readNumber_10 : decode cX12_readNumber 10 = .ok (.invokevirtual 116, 3) := by decide +kernel
theorem dX12_readNumber_13 : decode cX12_readNumber 13 = .ok (.istore 4, 2) := by decide +kernel
theorem dX12_readNumber_15 : decode cX12_readNumber 15 = .ok (.aload_n 0, 1) := by decide +kernel
theorem dX12_readNumber_16 : decode cX12_readNumber 16 = .ok (.getfield 94, 3) := by decide +kernel
theorem dX12_readNumber_19 : decode cX12_readNumber 19 = .ok (.istore 5, 2) := by decide +kernel
theorem dX12_readNumber_21 : decode cX12_readNumber 21 = .ok (.iload 4, 2) := by decide +kernel
theorem dX12_readNumber_23 : decode cX12_readNumber 23 = .ok (.bipush 45, 2) := by decide +kernel
theorem dX12_readNumber_25 : decode cX12_readNumber 25 = .ok (.if_icmp .ne 13, 3) := by decide +kernel
theorem dX12_readNumber_28 : decode cX12_readNumber 28 = .ok (.aload_n 0, 1) := by decide +kernel
theorem dX12_readNumber_29 : decode cX12_readNumber 29 = .ok (.dup, 1) := by decide +kernel
theorem dX12_readNumber_30 : decode cX12_readNumber 30 = .ok (.getfield 94, 3) := by decide +kernel
theorem dX12_readNumber_33 : decode cX12_readNumber 33 = .ok (.iconst 1, 1) := by decide +kernel
theorem dX12_readNumber_34 : decode cX12_readNumber 34 = .ok (.iadd, 1) := by decide +kernel
theorem dX12_readNumber_35 : decode cX12_readNumber 35 = .ok (.putfield 94, 3) := by decide +kernel
theorem dX12_readNumber_38 : decode cX12_readNumber 38 = .ok (.aload_n 0, 1) := by decide +kernel
theorem dX12_readNumber_39 : decode cX12_readNumber 39 = .ok (.invokevirtual 135, 3) := by decide +kernel
theorem dX12_readNumber_42 : decode cX12_readNumber 42 = .ok (.istore 6, 2) := by decide +kernel
theorem dX12_readNumber_44 : decode cX12_readNumber 44 = .ok (.iload 4, 2) := by decide +kernel
theorem dX12_readNumber_46 : decode cX12_readNumber 46 = .ok (.bipush 45, 2) := by decide +kernel
theorem dX12_readNumber_48 : decode cX12_readNumber 48 = .ok (.if_icmp .ne 9, 3) := by decide +kernel
theorem dX12_readNumber_51 : decode cX12_readNumber 51 = .ok (.iload 6, 2) := by decide +kernel
theorem dX12_readNumber_53 : decode cX12_readNumber 53 = .ok (.ineg, 1) := by decide +kernel
theorem dX12_readNumber_54 : decode cX12_readNumber 54 = .ok (.goto 5, 3) := by decide +kernel
theorem dX12_readNumber_57 : decode cX12_readNumber 57 = .ok (.iload 6, 2) := by decide +kernel
theorem dX12_readNumber_59 : decode cX12_readNumber 59 = .ok (.istore 6, 2) := by decide +kernel
theorem dX12_readNumber_61 : decode cX12_readNumber 61 = .ok (.aload_n 0, 1) := by decide +kernel
theorem dX12_readNumber_62 : decode cX12_readNumber 62 = .ok (.getfield 100, 3) := by decide +kernel
theorem dX12_readNumber_65 : decode cX12_readNumber 65 = .ok (.ifCond .ne 30, 3) := by decide +kernel
theorem dX12_readNumber_68 : decode cX12_readNumber 68 = .ok (.iload 6, 2) := by decide +kernel
theorem dX12_readNumber_70 : decode cX12_readNumber 70 = .ok (.iload_n 1, 1) := by decide +kernel
theorem dX12_readNumber_71 : decode cX12_readNumber 71 = .ok (.if_icmp .lt 16, 3) := by decide +kernel
theorem dX12_readNumber_74 : decode cX12_readNumber 74 = .ok (.iload 6, 2) := by decide +kernel
theorem dX12_readNumber_76 : decode cX12_readNumber 76 = .ok (.iload_n 2, 1) := by decide +kernel
theorem dX12_readNumber_77 : decode cX12_readNumber 77 = .ok (.if_icmp .gt 10, 3) := by decide +kernel
theorem dX12_readNumber_80 : decode cX12_readNumber 80 = .ok (.iload 6, 2) := by decide +kernel
theorem dX12_readNumber_82 : decode cX12_readNumber 82 = .ok (.iload_n 3, 1) := by decide +kernel
theorem dX12_readNumber_83 : decode cX12_readNumber 83 = .ok (.irem, 1) := by decide +kernel
theorem dX12_readNumber_84 : decode cX12_readNumber 84 = .ok (.ifCond .eq 11, 3) := by decide +kernel
theorem dX12_readNumber_87 : decode cX12_readNumber 87 = .ok (.aload_n 0, 1) := by decide +kernel
theorem dX12_readNumber_88 : decode cX12_readNumber 88 = .ok (.bipush (-4), 2) := by decide +kernel
theorem dX12_readNumber_90 : decode cX12_readNumber 90 = .ok (.iload 5, 2) := by decide +kernel
theorem dX12_readNumber_92 : decode cX12_readNumber 92 = .ok (.invokevirtual 123, 3) := by decide +kernel
theorem dX12_readNumber_95 : decode cX12_readNumber 95 = .ok (.iload 6, 2) := by decide +kernel
theorem dX12_readNumber_97 : decode cX12_readNumber 97 = .ok (.ireturn, 1) := by decide +kernel
theorem dX12_readName_0 : decode cX12_readName 0 = .ok (.aload_n 0, 1) := by decide +kernel
theorem dX12_readName_1 : decode cX12_readName 1 = .ok (.invokevirtual 131, 3) := by decide +kernel
theorem dX12_readName_4 : decode cX12_readName 4 = .ok (.istore_n 1, 1) := by decide +kernel
theorem dX12_readName_5 : decode cX12_readName 5 = .ok (.aload_n 0, 1) := by decide +kernel
theorem dX12_readName_6 : decode cX12_readName 6 = .ok (.getfield 100, 3) := by decide +kernel
theorem dX12_readName_9 : decode cX12_readName 9 = .ok (.ifCond .ne 15, 3) := by decide +kernel
theorem dX12_readName_12 : decode cX12_readName 12 = .ok (.aload_n 0, 1) := by decide +kernel
theorem dX12_readName_13 : decode cX12_readName 13 = .ok (.aload_n 0, 1) := by decide +kernel
theorem dX12_readName_14 : decode cX12_readName 14 = .ok (.getfield 94, 3) := by decide +kernel
theorem dX12_readName_17 : decode cX12_readName 17 = .ok (.iload_n 1, 1) := by decide +kernel
theorem dX12_readName_18 : decode cX12_readName 18 = .ok (.invokevirtual 138, 3) := by decide +kernel
theorem dX12_readName_21 : decode cX12_readName 21 = .ok (.ifCond .ne 14, 3) := by decide +kernel
theorem dX12_readName_24 : decode cX12_readName 24 = .ok (.aload_n 0, 1) := by decide +kernel
theorem dX12_readName_25 : decode cX12_readName 25 = .ok (.bipush (-3), 2) := by decide +kernel
theorem dX12_readName_27 : decode cX12_readName 27 = .ok (.aload_n 0, 1) := by decide +kernel
theorem dX12_readName_28 : decode cX12_readName 28 = .ok (.getfield 94, 3) := by decide +kernel
theorem dX12_readName_31 : decode cX12_readName 31 = .ok (.invokevirtual 123, 3) := by decide +kernel
theorem dX12_readName_34 : decode cX12_readName 34 = .ok (.return_, 1) := by decide +kernel
theorem dX12_readName_35 : decode cX12_readName 35 = .ok (.aload_n 0, 1) := by decide +kernel
theorem dX12_readName_36 : decode cX12_readName 36 = .ok (.aload_n 0, 1) := by decide +kernel
theorem dX12_readName_37 : decode cX12_readName 37 = .ok (.getfield 94, 3) := by decide +kernel
theorem dX12_readName_40 : decode cX12_readName 40 = .ok (.putfield 142, 3) := by decide +kernel
theorem dX12_readName_43 : decode cX12_readName 43 = .ok (.aload_n 0, 1) := by decide +kernel
theorem dX12_readName_44 : decode cX12_readName 44 = .ok (.iload_n 1, 1) := by decide +kernel
theorem dX12_readName_45 : decode cX12_readName 45 = .ok (.putfield 145, 3) := by decide +kernel
theorem dX12_readName_48 : decode cX12_readName 48 = .ok (.aload_n 0, 1) := by decide +kernel
theorem dX12_readName_49 : decode cX12_readName 49 = .ok (.iload_n 1, 1) := by decide +kernel
theorem dX12_readName_50 : decode cX12_readName 50 = .ok (.putfield 94, 3) := by decide +kernel
theorem dX12_readName_53 : decode cX12_readName 53 = .ok (.return_, 1) := by decide +kernel
theorem dX12_immediate_0 : decode cX12_immediate 0 = .ok (.aload_n 0, 1) := by decide +kernel
theorem dX12_immediate_1 : decode cX12_immediate 1 = .ok (.bipush 35, 2) := by decide +kernel
theorem dX12_immediate_3 : decode cX12_immediate 3 = .ok (.invokevirtual 148, 3) := by decide +kernel
theorem dX12_immediate_6 : decode cX12_immediate 6 = .ok (.aload_n 0, 1) := by decide +kernel
theorem dX12_immediate_7 : decode cX12_immediate 7 = .ok (.iload_n 1, 1) := by decide +kernel
theorem dX12_immediate_8 : decode cX12_immediate 8 = .ok (.iload_n 2, 1) := by decide +kernel
theorem dX12_immediate_9 : decode cX12_immediate 9 = .ok (.iload_n 3, 1) := by decide +kernel
theorem dX12_immediate_10 : decode cX12_immediate 10 = .ok (.invokevirtual 152, 3) := by decide +kernel
theorem dX12_immediate_13 : decode cX12_immediate 13 = .ok (.ireturn, 1) := by decide +kernel
theorem dX12_plain_0 : decode cX12_plain 0 = .ok (.aload_n 0, 1) := by decide +kernel
theorem dX12_plain_1 : decode cX12_plain 1 = .ok (.bipush 10, 2) := by decide +kernel
theorem dX12_plain_3 : decode cX12_plain 3 = .ok (.putfield 156, 3) := by decide +kernel
theorem dX12_plain_6 : decode cX12_plain 6 = .ok (.aload_n 0, 1) := by decide +kernel
theorem dX12_plain_7 : decode cX12_plain 7 = .ok (.iload_n 1, 1) := by decide +kernel
theorem dX12_plain_8 : decode cX12_plain 8 = .ok (.putfield 159, 3) := by decide +kernel
theorem dX12_plain_11 : decode cX12_plain 11 = .ok (.return_, 1) := by decide +kernel
theorem dX12_two_0 : decode cX12_two 0 = .ok (.aload_n 0, 1) := by decide +kernel
theorem dX12_two_1 : decode cX12_two 1 = .ok (.invokevirtual 162, 3) := by decide +kernel
theorem dX12_two_4 : decode cX12_two 4 = .ok (.istore_n 2, 1) := by decide +kernel
theorem dX12_two_5 : decode cX12_two 5 = .ok (.aload_n 0, 1) := by decide +kernel
theorem dX12_two_6 : decode cX12_two 6 = .ok (.bipush 44, 2) := by decide +kernel
theorem dX12_two_8 : decode cX12_two 8 = .ok (.invokevirtual 148, 3) := by decide +kernel
theorem dX12_two_11 : decode cX12_two 11 = .ok (.aload_n 0, 1) := by decide +kernel
theorem dX12_two_12 : decode cX12_two 12 = .ok (.sipush 16384, 3) := by decide +kernel
theorem dX12_two_15 : decode cX12_two 15 = .ok (.bipush 64, 2) := by decide +kernel
theorem dX12_two_17 : decode cX12_two 17 = .ok (.iload_n 1, 1) := by decide +kernel
theorem dX12_two_18 : decode cX12_two 18 = .ok (.imul, 1) := by decide +kernel
theorem dX12_two_19 : decode cX12_two 19 = .ok (.iadd, 1) := by decide +kernel
theorem dX12_two_20 : decode cX12_two 20 = .ok (.bipush 8, 2) := by decide +kernel
theorem dX12_two_22 : decode cX12_two 22 = .ok (.aload_n 0, 1) := by decide +kernel
theorem dX12_two_23 : decode cX12_two 23 = .ok (.invokevirtual 162, 3) := by decide +kernel
theorem dX12_two_26 : decode cX12_two 26 = .ok (.imul, 1) := by decide +kernel
theorem dX12_two_27 : decode cX12_two 27 = .ok (.iadd, 1) := by decide +kernel
theorem dX12_two_28 : decode cX12_two 28 = .ok (.iload_n 2, 1) := by decide +kernel
theorem dX12_two_29 : decode cX12_two 29 = .ok (.iadd, 1) := by decide +kernel
theorem dX12_two_30 : decode cX12_two 30 = .ok (.invokevirtual 165, 3) := by decide +kernel
theorem dX12_two_33 : decode cX12_two 33 = .ok (.return_, 1) := by decide +kernel
theorem dX12_oneOrNumber_0 : decode cX12_oneOrNumber 0 = .ok (.aload_n 0, 1) := by decide +kernel
theorem dX12_oneOrNumber_1 : decode cX12_oneOrNumber 1 = .ok (.invokevirtual 162, 3) := by decide +kernel
theorem dX12_oneOrNumber_4 : decode cX12_oneOrNumber 4 = .ok (.istore_n 3, 1) := by decide +kernel
theorem dX12_oneOrNumber_5 : decode cX12_oneOrNumber 5 = .ok (.aload_n 0, 1) := by decide +kernel
theorem dX12_oneOrNumber_6 : decode cX12_oneOrNumber 6 = .ok (.bipush 44, 2) := by decide +kernel
theorem dX12_oneOrNumber_8 : decode cX12_oneOrNumber 8 = .ok (.invokevirtual 148, 3) := by decide +kernel
theorem dX12_oneOrNumber_11 : decode cX12_oneOrNumber 11 = .ok (.aload_n 0, 1) := by decide +kernel
theorem dX12_oneOrNumber_12 : decode cX12_oneOrNumber 12 = .ok (.invokevirtual 116, 3) := by decide +kernel
theorem dX12_oneOrNumber_15 : decode cX12_oneOrNumber 15 = .ok (.bipush 35, 2) := by decide +kernel
theorem dX12_oneOrNumber_17 : decode cX12_oneOrNumber 17 = .ok (.if_icmp .ne 27, 3) := by decide +kernel
theorem dX12_oneOrNumber_20 : decode cX12_oneOrNumber 20 = .ok (.aload_n 0, 1) := by decide +kernel
theorem dX12_oneOrNumber_21 : decode cX12_oneOrNumber 21 = .ok (.iload_n 1, 1) := by decide +kernel
theorem dX12_oneOrNumber_22 : decode cX12_oneOrNumber 22 = .ok (.sipush 256, 3) := by decide +kernel
theorem dX12_oneOrNumber_25 : decode cX12_oneOrNumber 25 = .ok (.iload_n 3, 1) := by decide +kernel
theorem dX12_oneOrNumber_26 : decode cX12_oneOrNumber 26 = .ok (.imul, 1) := by decide +kernel
theorem dX12_oneOrNumber_27 : decode cX12_oneOrNumber 27 = .ok (.iadd, 1) := by decide +kernel
theorem dX12_oneOrNumber_28 : decode cX12_oneOrNumber 28 = .ok (.aload_n 0, 1) := by decide +kernel
theorem dX12_oneOrNumber_29 : decode cX12_oneOrNumber 29 = .ok (.iconst 0, 1) := by decide +kernel
theorem dX12_oneOrNumber_30 : decode cX12_oneOrNumber 30 = .ok (.sipush 255, 3) := by decide +kernel
theorem dX12_oneOrNumber_33 : decode cX12_oneOrNumber 33 = .ok (.iconst 1, 1) := by decide +kernel
theorem dX12_oneOrNumber_34 : decode cX12_oneOrNumber 34 = .ok (.invokevirtual 168, 3) := by decide +kernel
theorem dX12_oneOrNumber_37 : decode cX12_oneOrNumber 37 = .ok (.iadd, 1) := by decide +kernel
theorem dX12_oneOrNumber_38 : decode cX12_oneOrNumber 38 = .ok (.invokevirtual 165, 3) := by decide +kernel
theorem dX12_oneOrNumber_41 : decode cX12_oneOrNumber 41 = .ok (.goto 43, 3) := by decide +kernel
theorem dX12_oneOrNumber_44 : decode cX12_oneOrNumber 44 = .ok (.aload_n 0, 1) := by decide +kernel
theorem dX12_oneOrNumber_45 : decode cX12_oneOrNumber 45 = .ok (.invokevirtual 162, 3) := by decide +kernel
theorem dX12_oneOrNumber_48 : decode cX12_oneOrNumber 48 = .ok (.istore 4, 2) := by decide +kernel
theorem dX12_oneOrNumber_50 : decode cX12_oneOrNumber 50 = .ok (.aload_n 0, 1) := by decide +kernel
theorem dX12_oneOrNumber_51 : decode cX12_oneOrNumber 51 = .ok (.iload_n 2, 1) := by decide +kernel
theorem dX12_oneOrNumber_52 : decode cX12_oneOrNumber 52 = .ok (.ifCond .ge 13, 3) := by decide +kernel
theorem dX12_oneOrNumber_55 : decode cX12_oneOrNumber 55 = .ok (.bipush 8, 2) := by decide +kernel
theorem dX12_oneOrNumber_57 : decode cX12_oneOrNumber 57 = .ok (.iload 4, 2) := by decide +kernel
theorem dX12_oneOrNumber_59 : decode cX12_oneOrNumber 59 = .ok (.imul, 1) := by decide +kernel
theorem dX12_oneOrNumber_60 : decode cX12_oneOrNumber 60 = .ok (.iload_n 3, 1) := by decide +kernel
theorem dX12_oneOrNumber_61 : decode cX12_oneOrNumber 61 = .ok (.iadd, 1) := by decide +kernel
theorem dX12_oneOrNumber_62 : decode cX12_oneOrNumber 62 = .ok (.goto 19, 3) := by decide +kernel
theorem dX12_oneOrNumber_65 : decode cX12_oneOrNumber 65 = .ok (.sipush 16384, 3) := by decide +kernel
theorem dX12_oneOrNumber_68 : decode cX12_oneOrNumber 68 = .ok (.bipush 64, 2) := by decide +kernel
theorem dX12_oneOrNumber_70 : decode cX12_oneOrNumber 70 = .ok (.iload_n 2, 1) := by decide +kernel
theorem dX12_oneOrNumber_71 : decode cX12_oneOrNumber 71 = .ok (.imul, 1) := by decide +kernel
theorem dX12_oneOrNumber_72 : decode cX12_oneOrNumber 72 = .ok (.iadd, 1) := by decide +kernel
theorem dX12_oneOrNumber_73 : decode cX12_oneOrNumber 73 = .ok (.bipush 8, 2) := by decide +kernel
theorem dX12_oneOrNumber_75 : decode cX12_oneOrNumber 75 = .ok (.iload 4, 2) := by decide +kernel
theorem dX12_oneOrNumber_77 : decode cX12_oneOrNumber 77 = .ok (.imul, 1) := by decide +kernel
theorem dX12_oneOrNumber_78 : decode cX12_oneOrNumber 78 = .ok (.iadd, 1) := by decide +kernel
theorem dX12_oneOrNumber_79 : decode cX12_oneOrNumber 79 = .ok (.iload_n 3, 1) := by decide +kernel
theorem dX12_oneOrNumber_80 : decode cX12_oneOrNumber 80 = .ok (.iadd, 1) := by decide +kernel
theorem dX12_oneOrNumber_81 : decode cX12_oneOrNumber 81 = .ok (.invokevirtual 165, 3) := by decide +kernel
theorem dX12_oneOrNumber_84 : decode cX12_oneOrNumber 84 = .ok (.return_, 1) := by decide +kernel
theorem dX12_sums_0 : decode cX12_sums 0 = .ok (.aload_n 0, 1) := by decide +kernel
theorem dX12_sums_1 : decode cX12_sums 1 = .ok (.invokevirtual 162, 3) := by decide +kernel
theorem dX12_sums_4 : decode cX12_sums 4 = .ok (.istore_n 3, 1) := by decide +kernel
theorem dX12_sums_5 : decode cX12_sums 5 = .ok (.aload_n 0, 1) := by decide +kernel
theorem dX12_sums_6 : decode cX12_sums 6 = .ok (.bipush 44, 2) := by decide +kernel
theorem dX12_sums_8 : decode cX12_sums 8 = .ok (.invokevirtual 148, 3) := by decide +kernel
theorem dX12_sums_11 : decode cX12_sums 11 = .ok (.aload_n 0, 1) := by decide +kernel
theorem dX12_sums_12 : decode cX12_sums 12 = .ok (.invokevirtual 116, 3) := by decide +kernel
theorem dX12_sums_15 : decode cX12_sums 15 = .ok (.bipush 35, 2) := by decide +kernel
theorem dX12_sums_17 : decode cX12_sums 17 = .ok (.if_icmp .ne 25, 3) := by decide +kernel
theorem dX12_sums_20 : decode cX12_sums 20 = .ok (.aload_n 0, 1) := by decide +kernel
theorem dX12_sums_21 : decode cX12_sums 21 = .ok (.iload_n 1, 1) := by decide +kernel
theorem dX12_sums_22 : decode cX12_sums 22 = .ok (.sipush 256, 3) := by decide +kernel
theorem dX12_sums_25 : decode cX12_sums 25 = .ok (.iload_n 3, 1) := by decide +kernel
theorem dX12_sums_26 : decode cX12_sums 26 = .ok (.imul, 1) := by decide +kernel
theorem dX12_sums_27 : decode cX12_sums 27 = .ok (.iadd, 1) := by decide +kernel
theorem dX12_sums_28 : decode cX12_sums 28 = .ok (.aload_n 0, 1) := by decide +kernel
theorem dX12_sums_29 : decode cX12_sums 29 = .ok (.iconst 0, 1) := by decide +kernel
theorem dX12_sums_30 : decode cX12_sums 30 = .ok (.sipush 255, 3) := by decide +kernel
theorem dX12_sums_33 : decode cX12_sums 33 = .ok (.iconst 1, 1) := by decide +kernel
theorem dX12_sums_34 : decode cX12_sums 34 = .ok (.invokevirtual 168, 3) := by decide +kernel
theorem dX12_sums_37 : decode cX12_sums 37 = .ok (.iadd, 1) := by decide +kernel
theorem dX12_sums_38 : decode cX12_sums 38 = .ok (.invokevirtual 165, 3) := by decide +kernel
theorem dX12_sums_41 : decode cX12_sums 41 = .ok (.return_, 1) := by decide +kernel
theorem dX12_sums_42 : decode cX12_sums 42 = .ok (.aload_n 0, 1) := by decide +kernel
theorem dX12_sums_43 : decode cX12_sums 43 = .ok (.invokevirtual 162, 3) := by decide +kernel
theorem dX12_sums_46 : decode cX12_sums 46 = .ok (.istore 4, 2) := by decide +kernel
theorem dX12_sums_48 : decode cX12_sums 48 = .ok (.aload_n 0, 1) := by decide +kernel
theorem dX12_sums_49 : decode cX12_sums 49 = .ok (.bipush 44, 2) := by decide +kernel
theorem dX12_sums_51 : decode cX12_sums 51 = .ok (.invokevirtual 148, 3) := by decide +kernel
theorem dX12_sums_54 : decode cX12_sums 54 = .ok (.aload_n 0, 1) := by decide +kernel
theorem dX12_sums_55 : decode cX12_sums 55 = .ok (.invokevirtual 116, 3) := by decide +kernel
theorem dX12_sums_58 : decode cX12_sums 58 = .ok (.bipush 35, 2) := by decide +kernel
theorem dX12_sums_60 : decode cX12_sums 60 = .ok (.if_icmp .ne 35, 3) := by decide +kernel
theorem dX12_sums_63 : decode cX12_sums 63 = .ok (.aload_n 0, 1) := by decide +kernel
theorem dX12_sums_64 : decode cX12_sums 64 = .ok (.iload_n 2, 1) := by decide +kernel
theorem dX12_sums_65 : decode cX12_sums 65 = .ok (.sipush 1024, 3) := by decide +kernel
theorem dX12_sums_68 : decode cX12_sums 68 = .ok (.iadd, 1) := by decide +kernel
theorem dX12_sums_69 : decode cX12_sums 69 = .ok (.bipush 64, 2) := by decide +kernel
theorem dX12_sums_71 : decode cX12_sums 71 = .ok (.aload_n 0, 1) := by decide +kernel
theorem dX12_sums_72 : decode cX12_sums 72 = .ok (.iconst 0, 1) := by decide +kernel
theorem dX12_sums_73 : decode cX12_sums 73 = .ok (.bipush 7, 2) := by decide +kernel
theorem dX12_sums_75 : decode cX12_sums 75 = .ok (.iconst 1, 1) := by decide +kernel
theorem dX12_sums_76 : decode cX12_sums 76 = .ok (.invokevirtual 168, 3) := by decide +kernel
theorem dX12_sums_79 : decode cX12_sums 79 = .ok (.imul, 1) := by decide +kernel
theorem dX12_sums_80 : decode cX12_sums 80 = .ok (.iadd, 1) := by decide +kernel
theorem dX12_sums_81 : decode cX12_sums 81 = .ok (.bipush 8, 2) := by decide +kernel
theorem dX12_sums_83 : decode cX12_sums 83 = .ok (.iload 4, 2) := by decide +kernel
theorem dX12_sums_85 : decode cX12_sums 85 = .ok (.imul, 1) := by decide +kernel
theorem dX12_sums_86 : decode cX12_sums 86 = .ok (.iadd, 1) := by decide +kernel
theorem dX12_sums_87 : decode cX12_sums 87 = .ok (.iload_n 3, 1) := by decide +kernel
theorem dX12_sums_88 : decode cX12_sums 88 = .ok (.iadd, 1) := by decide +kernel
theorem dX12_sums_89 : decode cX12_sums 89 = .ok (.invokevirtual 165, 3) := by decide +kernel
theorem dX12_sums_92 : decode cX12_sums 92 = .ok (.goto 24, 3) := by decide +kernel
theorem dX12_sums_95 : decode cX12_sums 95 = .ok (.aload_n 0, 1) := by decide +kernel
theorem dX12_sums_96 : decode cX12_sums 96 = .ok (.iload_n 2, 1) := by decide +kernel
theorem dX12_sums_97 : decode cX12_sums 97 = .ok (.bipush 64, 2) := by decide +kernel
theorem dX12_sums_99 : decode cX12_sums 99 = .ok (.aload_n 0, 1) := by decide +kernel
theorem dX12_sums_100 : decode cX12_sums 100 = .ok (.invokevirtual 162, 3) := by decide +kernel
theorem dX12_sums_103 : decode cX12_sums 103 = .ok (.imul, 1) := by decide +kernel
theorem dX12_sums_104 : decode cX12_sums 104 = .ok (.iadd, 1) := by decide +kernel
theorem dX12_sums_105 : decode cX12_sums 105 = .ok (.bipush 8, 2) := by decide +kernel
theorem dX12_sums_107 : decode cX12_sums 107 = .ok (.iload 4, 2) := by decide +kernel
theorem dX12_sums_109 : decode cX12_sums 109 = .ok (.imul, 1) := by decide +kernel
theorem dX12_sums_110 : decode cX12_sums 110 = .ok (.iadd, 1) := by decide +kernel
theorem dX12_sums_111 : decode cX12_sums 111 = .ok (.iload_n 3, 1) := by decide +kernel
theorem dX12_sums_112 : decode cX12_sums 112 = .ok (.iadd, 1) := by decide +kernel
theorem dX12_sums_113 : decode cX12_sums 113 = .ok (.invokevirtual 165, 3) := by decide +kernel
theorem dX12_sums_116 : decode cX12_sums 116 = .ok (.return_, 1) := by decide +kernel
theorem dX12_shifts_0 : decode cX12_shifts 0 = .ok (.aload_n 0, 1) := by decide +kernel
theorem dX12_shifts_1 : decode cX12_shifts 1 = .ok (.invokevirtual 162, 3) := by decide +kernel
theorem dX12_shifts_4 : decode cX12_shifts 4 = .ok (.istore 4, 2) := by decide +kernel
theorem dX12_shifts_6 : decode cX12_shifts 6 = .ok (.aload_n 0, 1) := by decide +kernel
theorem dX12_shifts_7 : decode cX12_shifts 7 = .ok (.bipush 44, 2) := by decide +kernel
theorem dX12_shifts_9 : decode cX12_shifts 9 = .ok (.invokevirtual 148, 3) := by decide +kernel
theorem dX12_shifts_12 : decode cX12_shifts 12 = .ok (.aload_n 0, 1) := by decide +kernel
theorem dX12_shifts_13 : decode cX12_shifts 13 = .ok (.invokevirtual 162, 3) := by decide +kernel
theorem dX12_shifts_16 : decode cX12_shifts 16 = .ok (.istore 5, 2) := by decide +kernel
theorem dX12_shifts_18 : decode cX12_shifts 18 = .ok (.aload_n 0, 1) := by decide +kernel
theorem dX12_shifts_19 : decode cX12_shifts 19 = .ok (.bipush 44, 2) := by decide +kernel
theorem dX12_shifts_21 : decode cX12_shifts 21 = .ok (.invokevirtual 148, 3) := by decide +kernel
theorem dX12_shifts_24 : decode cX12_shifts 24 = .ok (.aload_n 0, 1) := by decide +kernel
theorem dX12_shifts_25 : decode cX12_shifts 25 = .ok (.iload_n 1, 1) := by decide +kernel
theorem dX12_shifts_26 : decode cX12_shifts 26 = .ok (.bipush 64, 2) := by decide +kernel
theorem dX12_shifts_28 : decode cX12_shifts 28 = .ok (.aload_n 0, 1) := by decide +kernel
theorem dX12_shifts_29 : decode cX12_shifts 29 = .ok (.iload_n 2, 1) := by decide +kernel
theorem dX12_shifts_30 : decode cX12_shifts 30 = .ok (.iload_n 3, 1) := by decide +kernel
theorem dX12_shifts_31 : decode cX12_shifts 31 = .ok (.iconst 1, 1) := by decide +kernel
theorem dX12_shifts_32 : decode cX12_shifts 32 = .ok (.invokevirtual 168, 3) := by decide +kernel
theorem dX12_shifts_35 : decode cX12_shifts 35 = .ok (.bipush 31, 2) := by decide +kernel
theorem dX12_shifts_37 : decode cX12_shifts 37 = .ok (.iand, 1) := by decide +kernel
theorem dX12_shifts_38 : decode cX12_shifts 38 = .ok (.imul, 1) := by decide +kernel
theorem dX12_shifts_39 : decode cX12_shifts 39 = .ok (.iadd, 1) := by decide +kernel
theorem dX12_shifts_40 : decode cX12_shifts 40 = .ok (.bipush 8, 2) := by decide +kernel
theorem dX12_shifts_42 : decode cX12_shifts 42 = .ok (.iload 5, 2) := by decide +kernel
theorem dX12_shifts_44 : decode cX12_shifts 44 = .ok (.imul, 1) := by decide +kernel
theorem dX12_shifts_45 : decode cX12_shifts 45 = .ok (.iadd, 1) := by decide +kernel
theorem dX12_shifts_46 : decode cX12_shifts 46 = .ok (.iload 4, 2) := by decide +kernel
theorem dX12_shifts_48 : decode cX12_shifts 48 = .ok (.iadd, 1) := by decide +kernel
theorem dX12_shifts_49 : decode cX12_shifts 49 = .ok (.invokevirtual 165, 3) := by decide +kernel
theorem dX12_shifts_52 : decode cX12_shifts 52 = .ok (.return_, 1) := by decide +kernel
theorem dX12_memory_0 : decode cX12_memory 0 = .ok (.aload_n 0, 1) := by decide +kernel
theorem dX12_memory_1 : decode cX12_memory 1 = .ok (.invokevirtual 162, 3) := by decide +kernel
theorem dX12_memory_4 : decode cX12_memory 4 = .ok (.istore 4, 2) := by decide +kernel
theorem dX12_memory_6 : decode cX12_memory 6 = .ok (.aload_n 0, 1) := by decide +kernel
theorem dX12_memory_7 : decode cX12_memory 7 = .ok (.bipush 44, 2) := by decide +kernel
theorem dX12_memory_9 : decode cX12_memory 9 = .ok (.invokevirtual 148, 3) := by decide +kernel
theorem dX12_memory_12 : decode cX12_memory 12 = .ok (.iload_n 3, 1) := by decide +kernel
theorem dX12_memory_13 : decode cX12_memory 13 = .ok (.ifCond .eq 37, 3) := by decide +kernel
theorem dX12_memory_16 : decode cX12_memory 16 = .ok (.aload_n 0, 1) := by decide +kernel
theorem dX12_memory_17 : decode cX12_memory 17 = .ok (.invokevirtual 116, 3) := by decide +kernel
theorem dX12_memory_20 : decode cX12_memory 20 = .ok (.bipush 91, 2) := by decide +kernel
theorem dX12_memory_22 : decode cX12_memory 22 = .ok (.if_icmp .eq 28, 3) := by decide +kernel
theorem dX12_memory_25 : decode cX12_memory 25 = .ok (.aload_n 0, 1) := by decide +kernel
theorem dX12_memory_26 : decode cX12_memory 26 = .ok (.invokevirtual 171, 3) := by decide +kernel
theorem dX12_memory_29 : decode cX12_memory 29 = .ok (.aload_n 0, 1) := by decide +kernel
theorem dX12_memory_30 : decode cX12_memory 30 = .ok (.bipush 14, 2) := by decide +kernel
theorem dX12_memory_32 : decode cX12_memory 32 = .ok (.putfield 156, 3) := by decide +kernel
theorem dX12_memory_35 : decode cX12_memory 35 = .ok (.aload_n 0, 1) := by decide +kernel
theorem dX12_memory_36 : decode cX12_memory 36 = .ok (.sipush 18432, 3) := by decide +kernel
theorem dX12_memory_39 : decode cX12_memory 39 = .ok (.sipush 256, 3) := by decide +kernel
theorem dX12_memory_42 : decode cX12_memory 42 = .ok (.iload 4, 2) := by decide +kernel
theorem dX12_memory_44 : decode cX12_memory 44 = .ok (.imul, 1) := by decide +kernel
theorem dX12_memory_45 : decode cX12_memory 45 = .ok (.iadd, 1) := by decide +kernel
theorem dX12_memory_46 : decode cX12_memory 46 = .ok (.putfield 159, 3) := by decide +kernel
theorem dX12_memory_49 : decode cX12_memory 49 = .ok (.return_, 1) := by decide +kernel
theorem dX12_memory_50 : decode cX12_memory 50 = .ok (.aload_n 0, 1) := by decide +kernel
theorem dX12_memory_51 : decode cX12_memory 51 = .ok (.bipush 91, 2) := by decide +kernel
theorem dX12_memory_53 : decode cX12_memory 53 = .ok (.invokevirtual 148, 3) := by decide +kernel
theorem dX12_memory_56 : decode cX12_memory 56 = .ok (.aload_n 0, 1) := by decide +kernel
theorem dX12_memory_57 : decode cX12_memory 57 = .ok (.invokevirtual 162, 3) := by decide +kernel
theorem dX12_memory_60 : decode cX12_memory 60 = .ok (.istore 5, 2) := by decide +kernel
theorem dX12_memory_62 : decode cX12_memory 62 = .ok (.aload_n 0, 1) := by decide +kernel
theorem dX12_memory_63 : decode cX12_memory 63 = .ok (.bipush 44, 2) := by decide +kernel
theorem dX12_memory_65 : decode cX12_memory 65 = .ok (.invokevirtual 148, 3) := by decide +kernel
theorem dX12_memory_68 : decode cX12_memory 68 = .ok (.aload_n 0, 1) := by decide +kernel
theorem dX12_memory_69 : decode cX12_memory 69 = .ok (.iconst 0, 1) := by decide +kernel
theorem dX12_memory_70 : decode cX12_memory 70 = .ok (.bipush 31, 2) := by decide +kernel
theorem dX12_memory_72 : decode cX12_memory 72 = .ok (.iload_n 2, 1) := by decide +kernel
theorem dX12_memory_73 : decode cX12_memory 73 = .ok (.imul, 1) := by decide +kernel
theorem dX12_memory_74 : decode cX12_memory 74 = .ok (.iload_n 2, 1) := by decide +kernel
theorem dX12_memory_75 : decode cX12_memory 75 = .ok (.invokevirtual 168, 3) := by decide +kernel
theorem dX12_memory_78 : decode cX12_memory 78 = .ok (.istore 6, 2) := by decide +kernel
theorem dX12_memory_80 : decode cX12_memory 80 = .ok (.aload_n 0, 1) := by decide +kernel
theorem dX12_memory_81 : decode cX12_memory 81 = .ok (.bipush 93, 2) := by decide +kernel
theorem dX12_memory_83 : decode cX12_memory 83 = .ok (.invokevirtual 148, 3) := by decide +kernel
theorem dX12_memory_86 : decode cX12_memory 86 = .ok (.aload_n 0, 1) := by decide +kernel
theorem dX12_memory_87 : decode cX12_memory 87 = .ok (.iload_n 1, 1) := by decide +kernel
theorem dX12_memory_88 : decode cX12_memory 88 = .ok (.bipush 64, 2) := by decide +kernel
theorem dX12_memory_90 : decode cX12_memory 90 = .ok (.iload 6, 2) := by decide +kernel
theorem dX12_memory_92 : decode cX12_memory 92 = .ok (.iload_n 2, 1) := by decide +kernel
theorem dX12_memory_93 : decode cX12_memory 93 = .ok (.idiv, 1) := by decide +kernel
theorem dX12_memory_94 : decode cX12_memory 94 = .ok (.imul, 1) := by decide +kernel
theorem dX12_memory_95 : decode cX12_memory 95 = .ok (.iadd, 1) := by decide +kernel
theorem dX12_memory_96 : decode cX12_memory 96 = .ok (.bipush 8, 2) := by decide +kernel
theorem dX12_memory_98 : decode cX12_memory 98 = .ok (.iload 5, 2) := by decide +kernel
theorem dX12_memory_100 : decode cX12_memory 100 = .ok (.imul, 1) := by decide +kernel
theorem dX12_memory_101 : decode cX12_memory 101 = .ok (.iadd, 1) := by decide +kernel
theorem dX12_memory_102 : decode cX12_memory 102 = .ok (.iload 4, 2) := by decide +kernel
theorem dX12_memory_104 : decode cX12_memory 104 = .ok (.iadd, 1) := by decide +kernel
theorem dX12_memory_105 : decode cX12_memory 105 = .ok (.invokevirtual 165, 3) := by decide +kernel
theorem dX12_memory_108 : decode cX12_memory 108 = .ok (.return_, 1) := by decide +kernel
theorem dX12_listed_0 : decode cX12_listed 0 = .ok (.aload_n 0, 1) := by decide +kernel
theorem dX12_listed_1 : decode cX12_listed 1 = .ok (.bipush 123, 2) := by decide +kernel
theorem dX12_listed_3 : decode cX12_listed 3 = .ok (.invokevirtual 148, 3) := by decide +kernel
theorem dX12_listed_6 : decode cX12_listed 6 = .ok (.iload_n 1, 1) := by decide +kernel
theorem dX12_listed_7 : decode cX12_listed 7 = .ok (.istore 4, 2) := by decide +kernel
theorem dX12_listed_9 : decode cX12_listed 9 = .ok (.iconst (-1), 1) := by decide +kernel
theorem dX12_listed_10 : decode cX12_listed 10 = .ok (.istore 5, 2) := by decide +kernel
theorem dX12_listed_12 : decode cX12_listed 12 = .ok (.aload_n 0, 1) := by decide +kernel
theorem dX12_listed_13 : decode cX12_listed 13 = .ok (.getfield 100, 3) := by decide +kernel
theorem dX12_listed_16 : decode cX12_listed 16 = .ok (.ifCond .ne 7, 3) := by decide +kernel
theorem dX12_listed_19 : decode cX12_listed 19 = .ok (.iconst 1, 1) := by decide +kernel
theorem dX12_listed_20 : decode cX12_listed 20 = .ok (.goto 4, 3) := by decide +kernel
theorem dX12_listed_23 : decode cX12_listed 23 = .ok (.iconst 0, 1) := by decide +kernel
theorem dX12_listed_24 : decode cX12_listed 24 = .ok (.istore 6, 2) := by decide +kernel
theorem dX12_listed_26 : decode cX12_listed 26 = .ok (.iload 6, 2) := by decide +kernel
theorem dX12_listed_28 : decode cX12_listed 28 = .ok (.ifCond .eq 101, 3) := by decide +kernel
theorem dX12_listed_31 : decode cX12_listed 31 = .ok (.aload_n 0, 1) := by decide +kernel
theorem dX12_listed_32 : decode cX12_listed 32 = .ok (.invokevirtual 131, 3) := by decide +kernel
theorem dX12_listed_35 : decode cX12_listed 35 = .ok (.istore 7, 2) := by decide +kernel
theorem dX12_listed_37 : decode cX12_listed 37 = .ok (.aload_n 0, 1) := by decide +kernel
theorem dX12_listed_38 : decode cX12_listed 38 = .ok (.aload_n 0, 1) := by decide +kernel
theorem dX12_listed_39 : decode cX12_listed 39 = .ok (.getfield 94, 3) := by decide +kernel
theorem dX12_listed_42 : decode cX12_listed 42 = .ok (.iload 7, 2) := by decide +kernel
theorem dX12_listed_44 : decode cX12_listed 44 = .ok (.lload_n 2, 1) := by decide +kernel
theorem dX12_listed_45 : decode cX12_listed 45 = .ok (.invokevirtual 174, 3) := by decide +kernel
theorem dX12_listed_48 : decode cX12_listed 48 = .ok (.ifCond .eq 23, 3) := by decide +kernel
theorem dX12_listed_51 : decode cX12_listed 51 = .ok (.iload 4, 2) := by decide +kernel
theorem dX12_listed_53 : decode cX12_listed 53 = .ok (.sipush 256, 3) := by decide +kernel
theorem dX12_listed_56 : decode cX12_listed 56 = .ok (.iadd, 1) := by decide +kernel
theorem dX12_listed_57 : decode cX12_listed 57 = .ok (.istore 4, 2) := by decide +kernel
theorem dX12_listed_59 : decode cX12_listed 59 = .ok (.aload_n 0, 1) := by decide +kernel
theorem dX12_listed_60 : decode cX12_listed 60 = .ok (.iload 7, 2) := by decide +kernel
theorem dX12_listed_62 : decode cX12_listed 62 = .ok (.putfield 94, 3) := by decide +kernel
theorem dX12_listed_65 : decode cX12_listed 65 = .ok (.iconst 0, 1) := by decide +kernel
theorem dX12_listed_66 : decode cX12_listed 66 = .ok (.istore 6, 2) := by decide +kernel
theorem dX12_listed_68 : decode cX12_listed 68 = .ok (.goto 58, 3) := by decide +kernel
theorem dX12_listed_71 : decode cX12_listed 71 = .ok (.aload_n 0, 1) := by decide +kernel
theorem dX12_listed_72 : decode cX12_listed 72 = .ok (.getfield 94, 3) := by decide +kernel
theorem dX12_listed_75 : decode cX12_listed 75 = .ok (.istore 8, 2) := by decide +kernel
theorem dX12_listed_77 : decode cX12_listed 77 = .ok (.aload_n 0, 1) := by decide +kernel
theorem dX12_listed_78 : decode cX12_listed 78 = .ok (.invokevirtual 162, 3) := by decide +kernel
theorem dX12_listed_81 : decode cX12_listed 81 = .ok (.istore 9, 2) := by decide +kernel
theorem dX12_listed_83 : decode cX12_listed 83 = .ok (.aload_n 0, 1) := by decide +kernel
theorem dX12_listed_84 : decode cX12_listed 84 = .ok (.getfield 100, 3) := by decide +kernel
theorem dX12_listed_87 : decode cX12_listed 87 = .ok (.ifCond .ne 18, 3) := by decide +kernel
theorem dX12_listed_90 : decode cX12_listed 90 = .ok (.iload 9, 2) := by decide +kernel
theorem dX12_listed_92 : decode cX12_listed 92 = .ok (.iload 5, 2) := by decide +kernel
theorem dX12_listed_94 : decode cX12_listed 94 = .ok (.if_icmp .gt 11, 3) := by decide +kernel
theorem dX12_listed_97 : decode cX12_listed 97 = .ok (.aload_n 0, 1) := by decide +kernel
theorem dX12_listed_98 : decode cX12_listed 98 = .ok (.bipush (-3), 2) := by decide +kernel
theorem dX12_listed_100 : decode cX12_listed 100 = .ok (.iload 8, 2) := by decide +kernel
theorem dX12_listed_102 : decode cX12_listed 102 = .ok (.invokevirtual 123, 3) := by decide +kernel
theorem dX12_listed_105 : decode cX12_listed 105 = .ok (.iload 9, 2) := by decide +kernel
theorem dX12_listed_107 : decode cX12_listed 107 = .ok (.istore 5, 2) := by decide +kernel
theorem dX12_listed_109 : decode cX12_listed 109 = .ok (.iload 4, 2) := by decide +kernel
theorem dX12_listed_111 : decode cX12_listed 111 = .ok (.iconst 1, 1) := by decide +kernel
theorem dX12_listed_112 : decode cX12_listed 112 = .ok (.iload 9, 2) := by decide +kernel
theorem dX12_listed_114 : decode cX12_listed 114 = .ok (.ishl, 1) := by decide +kernel
theorem dX12_listed_115 : decode cX12_listed 115 = .ok (.iadd, 1) := by decide +kernel
theorem dX12_listed_116 : decode cX12_listed 116 = .ok (.istore 4, 2) := by decide +kernel
theorem dX12_listed_118 : decode cX12_listed 118 = .ok (.aload_n 0, 1) := by decide +kernel
theorem dX12_listed_119 : decode cX12_listed 119 = .ok (.bipush 44, 2) := by decide +kernel
theorem dX12_listed_121 : decode cX12_listed 121 = .ok (.invokevirtual 120, 3) := by decide +kernel
theorem dX12_listed_124 : decode cX12_listed 124 = .ok (.istore 6, 2) := by decide +kernel
theorem dX12_listed_126 : decode cX12_listed 126 = .ok (.goto (-100), 3) := by decide +kernel
theorem dX12_listed_129 : decode cX12_listed 129 = .ok (.aload_n 0, 1) := by decide +kernel
theorem dX12_listed_130 : decode cX12_listed 130 = .ok (.bipush 125, 2) := by decide +kernel
theorem dX12_listed_132 : decode cX12_listed 132 = .ok (.invokevirtual 148, 3) := by decide +kernel
theorem dX12_listed_135 : decode cX12_listed 135 = .ok (.aload_n 0, 1) := by decide +kernel
theorem dX12_listed_136 : decode cX12_listed 136 = .ok (.iload 4, 2) := by decide +kernel
theorem dX12_listed_138 : decode cX12_listed 138 = .ok (.invokevirtual 165, 3) := by decide +kernel
theorem dX12_listed_141 : decode cX12_listed 141 = .ok (.return_, 1) := by decide +kernel
theorem dX12_jump_0 : decode cX12_jump 0 = .ok (.aload_n 0, 1) := by decide +kernel
theorem dX12_jump_1 : decode cX12_jump 1 = .ok (.invokevirtual 171, 3) := by decide +kernel
theorem dX12_jump_4 : decode cX12_jump 4 = .ok (.aload_n 0, 1) := by decide +kernel
theorem dX12_jump_5 : decode cX12_jump 5 = .ok (.iload_n 1, 1) := by decide +kernel
theorem dX12_jump_6 : decode cX12_jump 6 = .ok (.putfield 156, 3) := by decide +kernel
theorem dX12_jump_9 : decode cX12_jump 9 = .ok (.aload_n 0, 1) := by decide +kernel
theorem dX12_jump_10 : decode cX12_jump 10 = .ok (.iload_n 2, 1) := by decide +kernel
theorem dX12_jump_11 : decode cX12_jump 11 = .ok (.putfield 159, 3) := by decide +kernel
theorem dX12_jump_14 : decode cX12_jump 14 = .ok (.return_, 1) := by decide +kernel
theorem dX12_condition_0 : decode cX12_condition 0 = .ok (.iload_n 2, 1) := by decide +kernel
theorem dX12_condition_1 : decode cX12_condition 1 = .ok (.iload_n 1, 1) := by decide +kernel
theorem dX12_condition_2 : decode cX12_condition 2 = .ok (.isub, 1) := by decide +kernel
theorem dX12_condition_3 : decode cX12_condition 3 = .ok (.iconst 2, 1) := by decide +kernel
theorem dX12_condition_4 : decode cX12_condition 4 = .ok (.if_icmp .eq 5, 3) := by decide +kernel
theorem dX12_condition_7 : decode cX12_condition 7 = .ok (.iconst (-1), 1) := by decide +kernel
theorem dX12_condition_8 : decode cX12_condition 8 = .ok (.ireturn, 1) := by decide +kernel
theorem dX12_condition_9 : decode cX12_condition 9 = .ok (.aload_n 0, 1) := by decide +kernel
theorem dX12_condition_10 : decode cX12_condition 10 = .ok (.getfield 20, 3) := by decide +kernel
theorem dX12_condition_13 : decode cX12_condition 13 = .ok (.iload_n 1, 1) := by decide +kernel
theorem dX12_condition_14 : decode cX12_condition 14 = .ok (.caload, 1) := by decide +kernel
theorem dX12_condition_15 : decode cX12_condition 15 = .ok (.bipush 8, 2) := by decide +kernel
theorem dX12_condition_17 : decode cX12_condition 17 = .ok (.ishl, 1) := by decide +kernel
theorem dX12_condition_18 : decode cX12_condition 18 = .ok (.aload_n 0, 1) := by decide +kernel
theorem dX12_condition_19 : decode cX12_condition 19 = .ok (.getfield 20, 3) := by decide +kernel
theorem dX12_condition_22 : decode cX12_condition 22 = .ok (.iload_n 1, 1) := by decide +kernel
theorem dX12_condition_23 : decode cX12_condition 23 = .ok (.iconst 1, 1) := by decide +kernel
theorem dX12_condition_24 : decode cX12_condition 24 = .ok (.iadd, 1) := by decide +kernel
theorem dX12_condition_25 : decode cX12_condition 25 = .ok (.caload, 1) := by decide +kernel
theorem dX12_condition_26 : decode cX12_condition 26 = .ok (.ior, 1) := by decide +kernel
theorem dX12_condition_27 : decode cX12_condition 27 = .ok (.istore_n 3, 1) := by decide +kernel
theorem dX12_condition_28 : decode cX12_condition 28 = .ok (.iload_n 3, 1) := by decide +kernel
theorem dX12_condition_29 : decode cX12_condition 29 = .ok (.lookupswitch 159 #[(25443, 129), (25459, 127), (25969, 123), (26469, 147), (26484, 153), (26729, 141), (27749, 156), (27763, 144), (27764, 150), (28009, 131), (28261, 125), (28780, 133), (30307, 138), (30323, 135)], 123) := by decide +kernel
theorem dX12_condition_152 : decode cX12_condition 152 = .ok (.iconst 0, 1) := by decide +kernel
theorem dX12_condition_153 : decode cX12_condition 153 = .ok (.ireturn, 1) := by decide +kernel
theorem dX12_condition_154 : decode cX12_condition 154 = .ok (.iconst 1, 1) := by decide +kernel
theorem dX12_condition_155 : decode cX12_condition 155 = .ok (.ireturn, 1) := by decide +kernel
theorem dX12_condition_156 : decode cX12_condition 156 = .ok (.iconst 2, 1) := by decide +kernel
theorem dX12_condition_157 : decode cX12_condition 157 = .ok (.ireturn, 1) := by decide +kernel
theorem dX12_condition_158 : decode cX12_condition 158 = .ok (.iconst 3, 1) := by decide +kernel
theorem dX12_condition_159 : decode cX12_condition 159 = .ok (.ireturn, 1) := by decide +kernel
theorem dX12_condition_160 : decode cX12_condition 160 = .ok (.iconst 4, 1) := by decide +kernel
theorem dX12_condition_161 : decode cX12_condition 161 = .ok (.ireturn, 1) := by decide +kernel
theorem dX12_condition_162 : decode cX12_condition 162 = .ok (.iconst 5, 1) := by decide +kernel
theorem dX12_condition_163 : decode cX12_condition 163 = .ok (.ireturn, 1) := by decide +kernel
theorem dX12_condition_164 : decode cX12_condition 164 = .ok (.bipush 6, 2) := by decide +kernel
theorem dX12_condition_166 : decode cX12_condition 166 = .ok (.ireturn, 1) := by decide +kernel
theorem dX12_condition_167 : decode cX12_condition 167 = .ok (.bipush 7, 2) := by decide +kernel
theorem dX12_condition_169 : decode cX12_condition 169 = .ok (.ireturn, 1) := by decide +kernel
theorem dX12_condition_170 : decode cX12_condition 170 = .ok (.bipush 8, 2) := by decide +kernel
theorem dX12_condition_172 : decode cX12_condition 172 = .ok (.ireturn, 1) := by decide +kernel
theorem dX12_condition_173 : decode cX12_condition 173 = .ok (.bipush 9, 2) := by decide +kernel
theorem dX12_condition_175 : decode cX12_condition 175 = .ok (.ireturn, 1) := by decide +kernel
theorem dX12_condition_176 : decode cX12_condition 176 = .ok (.bipush 10, 2) := by decide +kernel
theorem dX12_condition_178 : decode cX12_condition 178 = .ok (.ireturn, 1) := by decide +kernel
theorem dX12_condition_179 : decode cX12_condition 179 = .ok (.bipush 11, 2) := by decide +kernel
theorem dX12_condition_181 : decode cX12_condition 181 = .ok (.ireturn, 1) := by decide +kernel
theorem dX12_condition_182 : decode cX12_condition 182 = .ok (.bipush 12, 2) := by decide +kernel
theorem dX12_condition_184 : decode cX12_condition 184 = .ok (.ireturn, 1) := by decide +kernel
theorem dX12_condition_185 : decode cX12_condition 185 = .ok (.bipush 13, 2) := by decide +kernel
theorem dX12_condition_187 : decode cX12_condition 187 = .ok (.ireturn, 1) := by decide +kernel
theorem dX12_condition_188 : decode cX12_condition 188 = .ok (.iconst (-1), 1) := by decide +kernel
theorem dX12_condition_189 : decode cX12_condition 189 = .ok (.ireturn, 1) := by decide +kernel
theorem dX12_directive_0 : decode cX12_directive 0 = .ok (.aload_n 0, 1) := by decide +kernel
theorem dX12_directive_1 : decode cX12_directive 1 = .ok (.iload_n 1, 1) := by decide +kernel
theorem dX12_directive_2 : decode cX12_directive 2 = .ok (.iload_n 2, 1) := by decide +kernel
theorem dX12_directive_3 : decode cX12_directive 3 = .ok (.ldc2_w 178, 3) := by decide +kernel
theorem dX12_directive_6 : decode cX12_directive 6 = .ok (.invokevirtual 174, 3) := by decide +kernel
theorem dX12_directive_9 : decode cX12_directive 9 = .ok (.ifCond .ne 27, 3) := by decide +kernel
theorem dX12_directive_12 : decode cX12_directive 12 = .ok (.aload_n 0, 1) := by decide +kernel
theorem dX12_directive_13 : decode cX12_directive 13 = .ok (.iload_n 1, 1) := by decide +kernel
theorem dX12_directive_14 : decode cX12_directive 14 = .ok (.iload_n 2, 1) := by decide +kernel
theorem dX12_directive_15 : decode cX12_directive 15 = .ok (.ldc2_w 180, 3) := by decide +kernel
theorem dX12_directive_18 : decode cX12_directive 18 = .ok (.invokevirtual 174, 3) := by decide +kernel
theorem dX12_directive_21 : decode cX12_directive 21 = .ok (.ifCond .ne 15, 3) := by decide +kernel
theorem dX12_directive_24 : decode cX12_directive 24 = .ok (.aload_n 0, 1) := by decide +kernel
theorem dX12_directive_25 : decode cX12_directive 25 = .ok (.iload_n 1, 1) := by decide +kernel
theorem dX12_directive_26 : decode cX12_directive 26 = .ok (.iload_n 2, 1) := by decide +kernel
theorem dX12_directive_27 : decode cX12_directive 27 = .ok (.ldc2_w 182, 3) := by decide +kernel
theorem dX12_directive_30 : decode cX12_directive 30 = .ok (.invokevirtual 174, 3) := by decide +kernel
theorem dX12_directive_33 : decode cX12_directive 33 = .ok (.ifCond .eq 47, 3) := by decide +kernel
theorem dX12_directive_36 : decode cX12_directive 36 = .ok (.aload_n 0, 1) := by decide +kernel
theorem dX12_directive_37 : decode cX12_directive 37 = .ok (.iconst 1, 1) := by decide +kernel
theorem dX12_directive_38 : decode cX12_directive 38 = .ok (.aload_n 0, 1) := by decide +kernel
theorem dX12_directive_39 : decode cX12_directive 39 = .ok (.getfield 20, 3) := by decide +kernel
theorem dX12_directive_42 : decode cX12_directive 42 = .ok (.iload_n 1, 1) := by decide +kernel
theorem dX12_directive_43 : decode cX12_directive 43 = .ok (.iconst 1, 1) := by decide +kernel
theorem dX12_directive_44 : decode cX12_directive 44 = .ok (.iadd, 1) := by decide +kernel
theorem dX12_directive_45 : decode cX12_directive 45 = .ok (.caload, 1) := by decide +kernel
theorem dX12_directive_46 : decode cX12_directive 46 = .ok (.bipush 116, 2) := by decide +kernel
theorem dX12_directive_48 : decode cX12_directive 48 = .ok (.if_icmp .ne 7, 3) := by decide +kernel
theorem dX12_directive_51 : decode cX12_directive 51 = .ok (.iconst 0, 1) := by decide +kernel
theorem dX12_directive_52 : decode cX12_directive 52 = .ok (.goto 21, 3) := by decide +kernel
theorem dX12_directive_55 : decode cX12_directive 55 = .ok (.aload_n 0, 1) := by decide +kernel
theorem dX12_directive_56 : decode cX12_directive 56 = .ok (.getfield 20, 3) := by decide +kernel
theorem dX12_directive_59 : decode cX12_directive 59 = .ok (.iload_n 1, 1) := by decide +kernel
theorem dX12_directive_60 : decode cX12_directive 60 = .ok (.iconst 1, 1) := by decide +kernel
theorem dX12_directive_61 : decode cX12_directive 61 = .ok (.iadd, 1) := by decide +kernel
theorem dX12_directive_62 : decode cX12_directive 62 = .ok (.caload, 1) := by decide +kernel
theorem dX12_directive_63 : decode cX12_directive 63 = .ok (.bipush 100, 2) := by decide +kernel
theorem dX12_directive_65 : decode cX12_directive 65 = .ok (.if_icmp .ne 7, 3) := by decide +kernel
theorem dX12_directive_68 : decode cX12_directive 68 = .ok (.iconst 1, 1) := by decide +kernel
theorem dX12_directive_69 : decode cX12_directive 69 = .ok (.goto 4, 3) := by decide +kernel
theorem dX12_directive_72 : decode cX12_directive 72 = .ok (.iconst 2, 1) := by decide +kernel
theorem dX12_directive_73 : decode cX12_directive 73 = .ok (.iadd, 1) := by decide +kernel
theorem dX12_directive_74 : decode cX12_directive 74 = .ok (.putfield 156, 3) := by decide +kernel
theorem dX12_directive_77 : decode cX12_directive 77 = .ok (.goto 138, 3) := by decide +kernel
theorem dX12_directive_80 : decode cX12_directive 80 = .ok (.aload_n 0, 1) := by decide +kernel
theorem dX12_directive_81 : decode cX12_directive 81 = .ok (.iload_n 1, 1) := by decide +kernel
theorem dX12_directive_82 : decode cX12_directive 82 = .ok (.iload_n 2, 1) := by decide +kernel
theorem dX12_directive_83 : decode cX12_directive 83 = .ok (.ldc2_w 184, 3) := by decide +kernel
theorem dX12_directive_86 : decode cX12_directive 86 = .ok (.invokevirtual 174, 3) := by decide +kernel
theorem dX12_directive_89 : decode cX12_directive 89 = .ok (.ifCond .eq 15, 3) := by decide +kernel
theorem dX12_directive_92 : decode cX12_directive 92 = .ok (.aload_n 0, 1) := by decide +kernel
theorem dX12_directive_93 : decode cX12_directive 93 = .ok (.iconst 4, 1) := by decide +kernel
theorem dX12_directive_94 : decode cX12_directive 94 = .ok (.putfield 156, 3) := by decide +kernel
theorem dX12_directive_97 : decode cX12_directive 97 = .ok (.aload_n 0, 1) := by decide +kernel
theorem dX12_directive_98 : decode cX12_directive 98 = .ok (.invokevirtual 171, 3) := by decide +kernel
theorem dX12_directive_101 : decode cX12_directive 101 = .ok (.goto 114, 3) := by decide +kernel
theorem dX12_directive_104 : decode cX12_directive 104 = .ok (.aload_n 0, 1) := by decide +kernel
theorem dX12_directive_105 : decode cX12_directive 105 = .ok (.iload_n 1, 1) := by decide +kernel
theorem dX12_directive_106 : decode cX12_directive 106 = .ok (.iload_n 2, 1) := by decide +kernel
theorem dX12_directive_107 : decode cX12_directive 107 = .ok (.ldc2_w 186, 3) := by decide +kernel
theorem dX12_directive_110 : decode cX12_directive 110 = .ok (.invokevirtual 174, 3) := by decide +kernel
theorem dX12_directive_113 : decode cX12_directive 113 = .ok (.ifCond .eq 10, 3) := by decide +kernel
theorem dX12_directive_116 : decode cX12_directive 116 = .ok (.aload_n 0, 1) := by decide +kernel
theorem dX12_directive_117 : decode cX12_directive 117 = .ok (.invokevirtual 188, 3) := by decide +kernel
theorem dX12_directive_120 : decode cX12_directive 120 = .ok (.goto 95, 3) := by decide +kernel
theorem dX12_directive_123 : decode cX12_directive 123 = .ok (.aload_n 0, 1) := by decide +kernel
theorem dX12_directive_124 : decode cX12_directive 124 = .ok (.iload_n 1, 1) := by decide +kernel
theorem dX12_directive_125 : decode cX12_directive 125 = .ok (.iload_n 2, 1) := by decide +kernel
theorem dX12_directive_126 : decode cX12_directive 126 = .ok (.ldc2_w 191, 3) := by decide +kernel
theorem dX12_directive_129 : decode cX12_directive 129 = .ok (.invokevirtual 174, 3) := by decide +kernel
theorem dX12_directive_132 : decode cX12_directive 132 = .ok (.ifCond .eq 26, 3) := by decide +kernel
theorem dX12_directive_135 : decode cX12_directive 135 = .ok (.aload_n 0, 1) := by decide +kernel
theorem dX12_directive_136 : decode cX12_directive 136 = .ok (.bipush 7, 2) := by decide +kernel
theorem dX12_directive_138 : decode cX12_directive 138 = .ok (.putfield 156, 3) := by decide +kernel
theorem dX12_directive_141 : decode cX12_directive 141 = .ok (.aload_n 0, 1) := by decide +kernel
theorem dX12_directive_142 : decode cX12_directive 142 = .ok (.aload_n 0, 1) := by decide +kernel
theorem dX12_directive_143 : decode cX12_directive 143 = .ok (.bipush (-128), 2) := by decide +kernel
theorem dX12_directive_145 : decode cX12_directive 145 = .ok (.sipush 255, 3) := by decide +kernel
theorem dX12_directive_148 : decode cX12_directive 148 = .ok (.iconst 1, 1) := by decide +kernel
theorem dX12_directive_149 : decode cX12_directive 149 = .ok (.invokevirtual 152, 3) := by decide +kernel
theorem dX12_directive_152 : decode cX12_directive 152 = .ok (.putfield 193, 3) := by decide +kernel
theorem dX12_directive_155 : decode cX12_directive 155 = .ok (.goto 60, 3) := by decide +kernel
theorem dX12_directive_158 : decode cX12_directive 158 = .ok (.aload_n 0, 1) := by decide +kernel
theorem dX12_directive_159 : decode cX12_directive 159 = .ok (.iload_n 1, 1) := by decide +kernel
theorem dX12_directive_160 : decode cX12_directive 160 = .ok (.iload_n 2, 1) := by decide +kernel
theorem dX12_directive_161 : decode cX12_directive 161 = .ok (.ldc2_w 196, 3) := by decide +kernel
theorem dX12_directive_164 : decode cX12_directive 164 = .ok (.invokevirtual 174, 3) := by decide +kernel
theorem dX12_directive_167 : decode cX12_directive 167 = .ok (.ifCond .eq 25, 3) := by decide +kernel
theorem dX12_directive_170 : decode cX12_directive 170 = .ok (.aload_n 0, 1) := by decide +kernel
theorem dX12_directive_171 : decode cX12_directive 171 = .ok (.bipush 8, 2) := by decide +kernel
theorem dX12_directive_173 : decode cX12_directive 173 = .ok (.putfield 156, 3) := by decide +kernel
theorem dX12_directive_176 : decode cX12_directive 176 = .ok (.aload_n 0, 1) := by decide +kernel
theorem dX12_directive_177 : decode cX12_directive 177 = .ok (.aload_n 0, 1) := by decide +kernel
theorem dX12_directive_178 : decode cX12_directive 178 = .ok (.iconst 0, 1) := by decide +kernel
theorem dX12_directive_179 : decode cX12_directive 179 = .ok (.sipush 512, 3) := by decide +kernel
theorem dX12_directive_182 : decode cX12_directive 182 = .ok (.iconst 1, 1) := by decide +kernel
theorem dX12_directive_183 : decode cX12_directive 183 = .ok (.invokevirtual 152, 3) := by decide +kernel
theorem dX12_directive_186 : decode cX12_directive 186 = .ok (.putfield 193, 3) := by decide +kernel
theorem dX12_directive_189 : decode cX12_directive 189 = .ok (.goto 26, 3) := by decide +kernel
theorem dX12_directive_192 : decode cX12_directive 192 = .ok (.aload_n 0, 1) := by decide +kernel
theorem dX12_directive_193 : decode cX12_directive 193 = .ok (.iload_n 1, 1) := by decide +kernel
theorem dX12_directive_194 : decode cX12_directive 194 = .ok (.iload_n 2, 1) := by decide +kernel
theorem dX12_directive_195 : decode cX12_directive 195 = .ok (.ldc2_w 198, 3) := by decide +kernel
theorem dX12_directive_198 : decode cX12_directive 198 = .ok (.invokevirtual 174, 3) := by decide +kernel
theorem dX12_directive_201 : decode cX12_directive 201 = .ok (.ifCond .eq 12, 3) := by decide +kernel
theorem dX12_directive_204 : decode cX12_directive 204 = .ok (.aload_n 0, 1) := by decide +kernel
theorem dX12_directive_205 : decode cX12_directive 205 = .ok (.bipush 9, 2) := by decide +kernel
theorem dX12_directive_207 : decode cX12_directive 207 = .ok (.putfield 156, 3) := by decide +kernel
theorem dX12_directive_210 : decode cX12_directive 210 = .ok (.goto 5, 3) := by decide +kernel
theorem dX12_directive_213 : decode cX12_directive 213 = .ok (.iconst 0, 1) := by decide +kernel
theorem dX12_directive_214 : decode cX12_directive 214 = .ok (.ireturn, 1) := by decide +kernel
theorem dX12_directive_215 : decode cX12_directive 215 = .ok (.iconst 1, 1) := by decide +kernel
theorem dX12_directive_216 : decode cX12_directive 216 = .ok (.ireturn, 1) := by decide +kernel
theorem dX12_word_0 : decode cX12_word 0 = .ok (.aload_n 0, 1) := by decide +kernel
theorem dX12_word_1 : decode cX12_word 1 = .ok (.invokevirtual 116, 3) := by decide +kernel
theorem dX12_word_4 : decode cX12_word 4 = .ok (.istore_n 1, 1) := by decide +kernel
theorem dX12_word_5 : decode cX12_word 5 = .ok (.iload_n 1, 1) := by decide +kernel
theorem dX12_word_6 : decode cX12_word 6 = .ok (.bipush 45, 2) := by decide +kernel
theorem dX12_word_8 : decode cX12_word 8 = .ok (.if_icmp .eq 10, 3) := by decide +kernel
theorem dX12_word_11 : decode cX12_word 11 = .ok (.iload_n 1, 1) := by decide +kernel
theorem dX12_word_12 : decode cX12_word 12 = .ok (.invokestatic 113, 3) := by decide +kernel
theorem dX12_word_15 : decode cX12_word 15 = .ok (.ifCond .eq 24, 3) := by decide +kernel
theorem dX12_word_18 : decode cX12_word 18 = .ok (.aload_n 0, 1) := by decide +kernel
theorem dX12_word_19 : decode cX12_word 19 = .ok (.iconst 5, 1) := by decide +kernel
theorem dX12_word_20 : decode cX12_word 20 = .ok (.putfield 156, 3) := by decide +kernel
theorem dX12_word_23 : decode cX12_word 23 = .ok (.aload_n 0, 1) := by decide +kernel
theorem dX12_word_24 : decode cX12_word 24 = .ok (.aload_n 0, 1) := by decide +kernel
theorem dX12_word_25 : decode cX12_word 25 = .ok (.sipush (-9999), 3) := by decide +kernel
theorem dX12_word_28 : decode cX12_word 28 = .ok (.sipush 9999, 3) := by decide +kernel
theorem dX12_word_31 : decode cX12_word 31 = .ok (.iconst 1, 1) := by decide +kernel
theorem dX12_word_32 : decode cX12_word 32 = .ok (.invokevirtual 152, 3) := by decide +kernel
theorem dX12_word_35 : decode cX12_word 35 = .ok (.putfield 193, 3) := by decide +kernel
theorem dX12_word_38 : decode cX12_word 38 = .ok (.return_, 1) := by decide +kernel
theorem dX12_word_39 : decode cX12_word 39 = .ok (.aload_n 0, 1) := by decide +kernel
theorem dX12_word_40 : decode cX12_word 40 = .ok (.bipush 6, 2) := by decide +kernel
theorem dX12_word_42 : decode cX12_word 42 = .ok (.putfield 156, 3) := by decide +kernel
theorem dX12_word_45 : decode cX12_word 45 = .ok (.aload_n 0, 1) := by decide +kernel
theorem dX12_word_46 : decode cX12_word 46 = .ok (.iconst 0, 1) := by decide +kernel
theorem dX12_word_47 : decode cX12_word 47 = .ok (.putfield 193, 3) := by decide +kernel
theorem dX12_word_50 : decode cX12_word 50 = .ok (.aload_n 0, 1) := by decide +kernel
theorem dX12_word_51 : decode cX12_word 51 = .ok (.invokevirtual 171, 3) := by decide +kernel
theorem dX12_word_54 : decode cX12_word 54 = .ok (.aload_n 0, 1) := by decide +kernel
theorem dX12_word_55 : decode cX12_word 55 = .ok (.bipush 43, 2) := by decide +kernel
theorem dX12_word_57 : decode cX12_word 57 = .ok (.invokevirtual 120, 3) := by decide +kernel
theorem dX12_word_60 : decode cX12_word 60 = .ok (.ifCond .eq 14, 3) := by decide +kernel
theorem dX12_word_63 : decode cX12_word 63 = .ok (.aload_n 0, 1) := by decide +kernel
theorem dX12_word_64 : decode cX12_word 64 = .ok (.aload_n 0, 1) := by decide +kernel
theorem dX12_word_65 : decode cX12_word 65 = .ok (.invokevirtual 135, 3) := by decide +kernel
theorem dX12_word_68 : decode cX12_word 68 = .ok (.putfield 193, 3) := by decide +kernel
theorem dX12_word_71 : decode cX12_word 71 = .ok (.goto 21, 3) := by decide +kernel
theorem dX12_word_74 : decode cX12_word 74 = .ok (.aload_n 0, 1) := by decide +kernel
theorem dX12_word_75 : decode cX12_word 75 = .ok (.bipush 45, 2) := by decide +kernel
theorem dX12_word_77 : decode cX12_word 77 = .ok (.invokevirtual 120, 3) := by decide +kernel
theorem dX12_word_80 : decode cX12_word 80 = .ok (.ifCond .eq 12, 3) := by decide +kernel
theorem dX12_word_83 : decode cX12_word 83 = .ok (.aload_n 0, 1) := by decide +kernel
theorem dX12_word_84 : decode cX12_word 84 = .ok (.aload_n 0, 1) := by decide +kernel
theorem dX12_word_85 : decode cX12_word 85 = .ok (.invokevirtual 135, 3) := by decide +kernel
theorem dX12_word_88 : decode cX12_word 88 = .ok (.ineg, 1) := by decide +kernel
theorem dX12_word_89 : decode cX12_word 89 = .ok (.putfield 193, 3) := by decide +kernel
theorem dX12_word_92 : decode cX12_word 92 = .ok (.return_, 1) := by decide +kernel
theorem dX12_simple_0 : decode cX12_simple 0 = .ok (.aload_n 0, 1) := by decide +kernel
theorem dX12_simple_1 : decode cX12_simple 1 = .ok (.iload_n 1, 1) := by decide +kernel
theorem dX12_simple_2 : decode cX12_simple 2 = .ok (.iload_n 2, 1) := by decide +kernel
theorem dX12_simple_3 : decode cX12_simple 3 = .ok (.ldc2_w 200, 3) := by decide +kernel
theorem dX12_simple_6 : decode cX12_simple 6 = .ok (.invokevirtual 174, 3) := by decide +kernel
theorem dX12_simple_9 : decode cX12_simple 9 = .ok (.ifCond .eq 12, 3) := by decide +kernel
theorem dX12_simple_12 : decode cX12_simple 12 = .ok (.aload_n 0, 1) := by decide +kernel
theorem dX12_simple_13 : decode cX12_simple 13 = .ok (.ldc 202, 2) := by decide +kernel
theorem dX12_simple_15 : decode cX12_simple 15 = .ok (.invokevirtual 165, 3) := by decide +kernel
theorem dX12_simple_18 : decode cX12_simple 18 = .ok (.goto 191, 3) := by decide +kernel
theorem dX12_simple_21 : decode cX12_simple 21 = .ok (.aload_n 0, 1) := by decide +kernel
theorem dX12_simple_22 : decode cX12_simple 22 = .ok (.iload_n 1, 1) := by decide +kernel
theorem dX12_simple_23 : decode cX12_simple 23 = .ok (.iload_n 2, 1) := by decide +kernel
theorem dX12_simple_24 : decode cX12_simple 24 = .ok (.ldc2_w 203, 3) := by decide +kernel
theorem dX12_simple_27 : decode cX12_simple 27 = .ok (.invokevirtual 174, 3) := by decide +kernel
theorem dX12_simple_30 : decode cX12_simple 30 = .ok (.ifCond .eq 14, 3) := by decide +kernel
theorem dX12_simple_33 : decode cX12_simple 33 = .ok (.aload_n 0, 1) := by decide +kernel
theorem dX12_simple_34 : decode cX12_simple 34 = .ok (.sipush 8192, 3) := by decide +kernel
theorem dX12_simple_37 : decode cX12_simple 37 = .ok (.iconst (-1), 1) := by decide +kernel
theorem dX12_simple_38 : decode cX12_simple 38 = .ok (.invokevirtual 205, 3) := by decide +kernel
theorem dX12_simple_41 : decode cX12_simple 41 = .ok (.goto 168, 3) := by decide +kernel
theorem dX12_simple_44 : decode cX12_simple 44 = .ok (.aload_n 0, 1) := by decide +kernel
theorem dX12_simple_45 : decode cX12_simple 45 = .ok (.iload_n 1, 1) := by decide +kernel
theorem dX12_simple_46 : decode cX12_simple 46 = .ok (.iload_n 2, 1) := by decide +kernel
theorem dX12_simple_47 : decode cX12_simple 47 = .ok (.ldc2_w 208, 3) := by decide +kernel
theorem dX12_simple_50 : decode cX12_simple 50 = .ok (.invokevirtual 174, 3) := by decide +kernel
theorem dX12_simple_53 : decode cX12_simple 53 = .ok (.ifCond .eq 15, 3) := by decide +kernel
theorem dX12_simple_56 : decode cX12_simple 56 = .ok (.aload_n 0, 1) := by decide +kernel
theorem dX12_simple_57 : decode cX12_simple 57 = .ok (.sipush 10240, 3) := by decide +kernel
theorem dX12_simple_60 : decode cX12_simple 60 = .ok (.bipush 10, 2) := by decide +kernel
theorem dX12_simple_62 : decode cX12_simple 62 = .ok (.invokevirtual 205, 3) := by decide +kernel
theorem dX12_simple_65 : decode cX12_simple 65 = .ok (.goto 144, 3) := by decide +kernel
theorem dX12_simple_68 : decode cX12_simple 68 = .ok (.aload_n 0, 1) := by decide +kernel
theorem dX12_simple_69 : decode cX12_simple 69 = .ok (.iload_n 1, 1) := by decide +kernel
theorem dX12_simple_70 : decode cX12_simple 70 = .ok (.iload_n 2, 1) := by decide +kernel
theorem dX12_simple_71 : decode cX12_simple 71 = .ok (.ldc2_w 210, 3) := by decide +kernel
theorem dX12_simple_74 : decode cX12_simple 74 = .ok (.invokevirtual 174, 3) := by decide +kernel
theorem dX12_simple_77 : decode cX12_simple 77 = .ok (.ifCond .eq 16, 3) := by decide +kernel
theorem dX12_simple_80 : decode cX12_simple 80 = .ok (.aload_n 0, 1) := by decide +kernel
theorem dX12_simple_81 : decode cX12_simple 81 = .ok (.sipush 12288, 3) := by decide +kernel
theorem dX12_simple_84 : decode cX12_simple 84 = .ok (.sipush 6144, 3) := by decide +kernel
theorem dX12_simple_87 : decode cX12_simple 87 = .ok (.invokevirtual 212, 3) := by decide +kernel
theorem dX12_simple_90 : decode cX12_simple 90 = .ok (.goto 119, 3) := by decide +kernel
theorem dX12_simple_93 : decode cX12_simple 93 = .ok (.aload_n 0, 1) := by decide +kernel
theorem dX12_simple_94 : decode cX12_simple 94 = .ok (.iload_n 1, 1) := by decide +kernel
theorem dX12_simple_95 : decode cX12_simple 95 = .ok (.iload_n 2, 1) := by decide +kernel
theorem dX12_simple_96 : decode cX12_simple 96 = .ok (.ldc2_w 215, 3) := by decide +kernel
theorem dX12_simple_99 : decode cX12_simple 99 = .ok (.invokevirtual 174, 3) := by decide +kernel
theorem dX12_simple_102 : decode cX12_simple 102 = .ok (.ifCond .eq 16, 3) := by decide +kernel
theorem dX12_simple_105 : decode cX12_simple 105 = .ok (.aload_n 0, 1) := by decide +kernel
theorem dX12_simple_106 : decode cX12_simple 106 = .ok (.sipush 14336, 3) := by decide +kernel
theorem dX12_simple_109 : decode cX12_simple 109 = .ok (.sipush 6656, 3) := by decide +kernel
theorem dX12_simple_112 : decode cX12_simple 112 = .ok (.invokevirtual 212, 3) := by decide +kernel
theorem dX12_simple_115 : decode cX12_simple 115 = .ok (.goto 94, 3) := by decide +kernel
theorem dX12_simple_118 : decode cX12_simple 118 = .ok (.aload_n 0, 1) := by decide +kernel
theorem dX12_simple_119 : decode cX12_simple 119 = .ok (.iload_n 1, 1) := by decide +kernel
theorem dX12_simple_120 : decode cX12_simple 120 = .ok (.iload_n 2, 1) := by decide +kernel
theorem dX12_simple_121 : decode cX12_simple 121 = .ok (.ldc2_w 217, 3) := by decide +kernel
theorem dX12_simple_124 : decode cX12_simple 124 = .ok (.invokevirtual 174, 3) := by decide +kernel
theorem dX12_simple_127 : decode cX12_simple 127 = .ok (.ifCond .eq 14, 3) := by decide +kernel
theorem dX12_simple_130 : decode cX12_simple 130 = .ok (.aload_n 0, 1) := by decide +kernel
theorem dX12_simple_131 : decode cX12_simple 131 = .ok (.iconst 0, 1) := by decide +kernel
theorem dX12_simple_132 : decode cX12_simple 132 = .ok (.iconst 0, 1) := by decide +kernel
theorem dX12_simple_133 : decode cX12_simple 133 = .ok (.bipush 31, 2) := by decide +kernel
theorem dX12_simple_135 : decode cX12_simple 135 = .ok (.invokevirtual 219, 3) := by decide +kernel
theorem dX12_simple_138 : decode cX12_simple 138 = .ok (.goto 71, 3) := by decide +kernel
theorem dX12_simple_141 : decode cX12_simple 141 = .ok (.aload_n 0, 1) := by decide +kernel
theorem dX12_simple_142 : decode cX12_simple 142 = .ok (.iload_n 1, 1) := by decide +kernel
theorem dX12_simple_143 : decode cX12_simple 143 = .ok (.iload_n 2, 1) := by decide +kernel
theorem dX12_simple_144 : decode cX12_simple 144 = .ok (.ldc2_w 223, 3) := by decide +kernel
theorem dX12_simple_147 : decode cX12_simple 147 = .ok (.invokevirtual 174, 3) := by decide +kernel
theorem dX12_simple_150 : decode cX12_simple 150 = .ok (.ifCond .eq 16, 3) := by decide +kernel
theorem dX12_simple_153 : decode cX12_simple 153 = .ok (.aload_n 0, 1) := by decide +kernel
theorem dX12_simple_154 : decode cX12_simple 154 = .ok (.sipush 2048, 3) := by decide +kernel
theorem dX12_simple_157 : decode cX12_simple 157 = .ok (.iconst 1, 1) := by decide +kernel
theorem dX12_simple_158 : decode cX12_simple 158 = .ok (.bipush 32, 2) := by decide +kernel
theorem dX12_simple_160 : decode cX12_simple 160 = .ok (.invokevirtual 219, 3) := by decide +kernel
theorem dX12_simple_163 : decode cX12_simple 163 = .ok (.goto 46, 3) := by decide +kernel
theorem dX12_simple_166 : decode cX12_simple 166 = .ok (.aload_n 0, 1) := by decide +kernel
theorem dX12_simple_167 : decode cX12_simple 167 = .ok (.iload_n 1, 1) := by decide +kernel
theorem dX12_simple_168 : decode cX12_simple 168 = .ok (.iload_n 2, 1) := by decide +kernel
theorem dX12_simple_169 : decode cX12_simple 169 = .ok (.ldc2_w 225, 3) := by decide +kernel
theorem dX12_simple_172 : decode cX12_simple 172 = .ok (.invokevirtual 174, 3) := by decide +kernel
theorem dX12_simple_175 : decode cX12_simple 175 = .ok (.ifCond .eq 16, 3) := by decide +kernel
theorem dX12_simple_178 : decode cX12_simple 178 = .ok (.aload_n 0, 1) := by decide +kernel
theorem dX12_simple_179 : decode cX12_simple 179 = .ok (.sipush 4096, 3) := by decide +kernel
theorem dX12_simple_182 : decode cX12_simple 182 = .ok (.iconst 1, 1) := by decide +kernel
theorem dX12_simple_183 : decode cX12_simple 183 = .ok (.bipush 32, 2) := by decide +kernel
theorem dX12_simple_185 : decode cX12_simple 185 = .ok (.invokevirtual 219, 3) := by decide +kernel
theorem dX12_simple_188 : decode cX12_simple 188 = .ok (.goto 21, 3) := by decide +kernel
theorem dX12_simple_191 : decode cX12_simple 191 = .ok (.aload_n 0, 1) := by decide +kernel
theorem dX12_simple_192 : decode cX12_simple 192 = .ok (.iload_n 1, 1) := by decide +kernel
theorem dX12_simple_193 : decode cX12_simple 193 = .ok (.iload_n 2, 1) := by decide +kernel
theorem dX12_simple_194 : decode cX12_simple 194 = .ok (.invokevirtual 227, 3) := by decide +kernel
theorem dX12_simple_197 : decode cX12_simple 197 = .ok (.istore_n 3, 1) := by decide +kernel
theorem dX12_simple_198 : decode cX12_simple 198 = .ok (.iload_n 3, 1) := by decide +kernel
theorem dX12_simple_199 : decode cX12_simple 199 = .ok (.ifCond .ge 5, 3) := by decide +kernel
theorem dX12_simple_202 : decode cX12_simple 202 = .ok (.iconst 0, 1) := by decide +kernel
theorem dX12_simple_203 : decode cX12_simple 203 = .ok (.ireturn, 1) := by decide +kernel
theorem dX12_simple_204 : decode cX12_simple 204 = .ok (.aload_n 0, 1) := by decide +kernel
theorem dX12_simple_205 : decode cX12_simple 205 = .ok (.iload_n 3, 1) := by decide +kernel
theorem dX12_simple_206 : decode cX12_simple 206 = .ok (.invokevirtual 231, 3) := by decide +kernel
theorem dX12_simple_209 : decode cX12_simple 209 = .ok (.iconst 1, 1) := by decide +kernel
theorem dX12_simple_210 : decode cX12_simple 210 = .ok (.ireturn, 1) := by decide +kernel
theorem dX12_pairOf_0 : decode cX12_pairOf 0 = .ok (.aload_n 0, 1) := by decide +kernel
theorem dX12_pairOf_1 : decode cX12_pairOf 1 = .ok (.iload_n 1, 1) := by decide +kernel
theorem dX12_pairOf_2 : decode cX12_pairOf 2 = .ok (.iload_n 2, 1) := by decide +kernel
theorem dX12_pairOf_3 : decode cX12_pairOf 3 = .ok (.ldc2_w 234, 3) := by decide +kernel
theorem dX12_pairOf_6 : decode cX12_pairOf 6 = .ok (.invokevirtual 174, 3) := by decide +kernel
theorem dX12_pairOf_9 : decode cX12_pairOf 9 = .ok (.ifCond .eq 7, 3) := by decide +kernel
theorem dX12_pairOf_12 : decode cX12_pairOf 12 = .ok (.iconst 0, 1) := by decide +kernel
theorem dX12_pairOf_13 : decode cX12_pairOf 13 = .ok (.goto 155, 3) := by decide +kernel
theorem dX12_pairOf_16 : decode cX12_pairOf 16 = .ok (.aload_n 0, 1) := by decide +kernel
theorem dX12_pairOf_17 : decode cX12_pairOf 17 = .ok (.iload_n 1, 1) := by decide +kernel
theorem dX12_pairOf_18 : decode cX12_pairOf 18 = .ok (.iload_n 2, 1) := by decide +kernel
theorem dX12_pairOf_19 : decode cX12_pairOf 19 = .ok (.ldc2_w 236, 3) := by decide +kernel
theorem dX12_pairOf_22 : decode cX12_pairOf 22 = .ok (.invokevirtual 174, 3) := by decide +kernel
theorem dX12_pairOf_25 : decode cX12_pairOf 25 = .ok (.ifCond .eq 7, 3) := by decide +kernel
theorem dX12_pairOf_28 : decode cX12_pairOf 28 = .ok (.iconst 1, 1) := by decide +kernel
theorem dX12_pairOf_29 : decode cX12_pairOf 29 = .ok (.goto 139, 3) := by decide +kernel
theorem dX12_pairOf_32 : decode cX12_pairOf 32 = .ok (.aload_n 0, 1) := by decide +kernel
theorem dX12_pairOf_33 : decode cX12_pairOf 33 = .ok (.iload_n 1, 1) := by decide +kernel
theorem dX12_pairOf_34 : decode cX12_pairOf 34 = .ok (.iload_n 2, 1) := by decide +kernel
theorem dX12_pairOf_35 : decode cX12_pairOf 35 = .ok (.ldc2_w 238, 3) := by decide +kernel
theorem dX12_pairOf_38 : decode cX12_pairOf 38 = .ok (.invokevirtual 174, 3) := by decide +kernel
theorem dX12_pairOf_41 : decode cX12_pairOf 41 = .ok (.ifCond .eq 7, 3) := by decide +kernel
theorem dX12_pairOf_44 : decode cX12_pairOf 44 = .ok (.iconst 5, 1) := by decide +kernel
theorem dX12_pairOf_45 : decode cX12_pairOf 45 = .ok (.goto 123, 3) := by decide +kernel
theorem dX12_pairOf_48 : decode cX12_pairOf 48 = .ok (.aload_n 0, 1) := by decide +kernel
theorem dX12_pairOf_49 : decode cX12_pairOf 49 = .ok (.iload_n 1, 1) := by decide +kernel
theorem dX12_pairOf_50 : decode cX12_pairOf 50 = .ok (.iload_n 2, 1) := by decide +kernel
theorem dX12_pairOf_51 : decode cX12_pairOf 51 = .ok (.ldc2_w 240, 3) := by decide +kernel
theorem dX12_pairOf_54 : decode cX12_pairOf 54 = .ok (.invokevirtual 174, 3) := by decide +kernel
theorem dX12_pairOf_57 : decode cX12_pairOf 57 = .ok (.ifCond .eq 8, 3) := by decide +kernel
theorem dX12_pairOf_60 : decode cX12_pairOf 60 = .ok (.bipush 6, 2) := by decide +kernel
theorem dX12_pairOf_62 : decode cX12_pairOf 62 = .ok (.goto 106, 3) := by decide +kernel
theorem dX12_pairOf_65 : decode cX12_pairOf 65 = .ok (.aload_n 0, 1) := by decide +kernel
theorem dX12_pairOf_66 : decode cX12_pairOf 66 = .ok (.iload_n 1, 1) := by decide +kernel
theorem dX12_pairOf_67 : decode cX12_pairOf 67 = .ok (.iload_n 2, 1) := by decide +kernel
theorem dX12_pairOf_68 : decode cX12_pairOf 68 = .ok (.ldc2_w 242, 3) := by decide +kernel
theorem dX12_pairOf_71 : decode cX12_pairOf 71 = .ok (.invokevirtual 174, 3) := by decide +kernel
theorem dX12_pairOf_74 : decode cX12_pairOf 74 = .ok (.ifCond .eq 8, 3) := by decide +kernel
theorem dX12_pairOf_77 : decode cX12_pairOf 77 = .ok (.bipush 8, 2) := by decide +kernel
theorem dX12_pairOf_79 : decode cX12_pairOf 79 = .ok (.goto 89, 3) := by decide +kernel
theorem dX12_pairOf_82 : decode cX12_pairOf 82 = .ok (.aload_n 0, 1) := by decide +kernel
theorem dX12_pairOf_83 : decode cX12_pairOf 83 = .ok (.iload_n 1, 1) := by decide +kernel
theorem dX12_pairOf_84 : decode cX12_pairOf 84 = .ok (.iload_n 2, 1) := by decide +kernel
theorem dX12_pairOf_85 : decode cX12_pairOf 85 = .ok (.ldc2_w 244, 3) := by decide +kernel
theorem dX12_pairOf_88 : decode cX12_pairOf 88 = .ok (.invokevirtual 174, 3) := by decide +kernel
theorem dX12_pairOf_91 : decode cX12_pairOf 91 = .ok (.ifCond .eq 8, 3) := by decide +kernel
theorem dX12_pairOf_94 : decode cX12_pairOf 94 = .ok (.bipush 9, 2) := by decide +kernel
theorem dX12_pairOf_96 : decode cX12_pairOf 96 = .ok (.goto 72, 3) := by decide +kernel
theorem dX12_pairOf_99 : decode cX12_pairOf 99 = .ok (.aload_n 0, 1) := by decide +kernel
theorem dX12_pairOf_100 : decode cX12_pairOf 100 = .ok (.iload_n 1, 1) := by decide +kernel
theorem dX12_pairOf_101 : decode cX12_pairOf 101 = .ok (.iload_n 2, 1) := by decide +kernel
theorem dX12_pairOf_102 : decode cX12_pairOf 102 = .ok (.ldc2_w 246, 3) := by decide +kernel
theorem dX12_pairOf_105 : decode cX12_pairOf 105 = .ok (.invokevirtual 174, 3) := by decide +kernel
theorem dX12_pairOf_108 : decode cX12_pairOf 108 = .ok (.ifCond .eq 8, 3) := by decide +kernel
theorem dX12_pairOf_111 : decode cX12_pairOf 111 = .ok (.bipush 12, 2) := by decide +kernel
theorem dX12_pairOf_113 : decode cX12_pairOf 113 = .ok (.goto 55, 3) := by decide +kernel
theorem dX12_pairOf_116 : decode cX12_pairOf 116 = .ok (.aload_n 0, 1) := by decide +kernel
theorem dX12_pairOf_117 : decode cX12_pairOf 117 = .ok (.iload_n 1, 1) := by decide +kernel
theorem dX12_pairOf_118 : decode cX12_pairOf 118 = .ok (.iload_n 2, 1) := by decide +kernel
theorem dX12_pairOf_119 : decode cX12_pairOf 119 = .ok (.ldc2_w 248, 3) := by decide +kernel
theorem dX12_pairOf_122 : decode cX12_pairOf 122 = .ok (.invokevirtual 174, 3) := by decide +kernel
theorem dX12_pairOf_125 : decode cX12_pairOf 125 = .ok (.ifCond .eq 8, 3) := by decide +kernel
theorem dX12_pairOf_128 : decode cX12_pairOf 128 = .ok (.bipush 13, 2) := by decide +kernel
theorem dX12_pairOf_130 : decode cX12_pairOf 130 = .ok (.goto 38, 3) := by decide +kernel
theorem dX12_pairOf_133 : decode cX12_pairOf 133 = .ok (.aload_n 0, 1) := by decide +kernel
theorem dX12_pairOf_134 : decode cX12_pairOf 134 = .ok (.iload_n 1, 1) := by decide +kernel
theorem dX12_pairOf_135 : decode cX12_pairOf 135 = .ok (.iload_n 2, 1) := by decide +kernel
theorem dX12_pairOf_136 : decode cX12_pairOf 136 = .ok (.ldc2_w 250, 3) := by decide +kernel
theorem dX12_pairOf_139 : decode cX12_pairOf 139 = .ok (.invokevirtual 174, 3) := by decide +kernel
theorem dX12_pairOf_142 : decode cX12_pairOf 142 = .ok (.ifCond .eq 8, 3) := by decide +kernel
theorem dX12_pairOf_145 : decode cX12_pairOf 145 = .ok (.bipush 14, 2) := by decide +kernel
theorem dX12_pairOf_147 : decode cX12_pairOf 147 = .ok (.goto 21, 3) := by decide +kernel
theorem dX12_pairOf_150 : decode cX12_pairOf 150 = .ok (.aload_n 0, 1) := by decide +kernel
theorem dX12_pairOf_151 : decode cX12_pairOf 151 = .ok (.iload_n 1, 1) := by decide +kernel
theorem dX12_pairOf_152 : decode cX12_pairOf 152 = .ok (.iload_n 2, 1) := by decide +kernel
theorem dX12_pairOf_153 : decode cX12_pairOf 153 = .ok (.ldc2_w 252, 3) := by decide +kernel
theorem dX12_pairOf_156 : decode cX12_pairOf 156 = .ok (.invokevirtual 174, 3) := by decide +kernel
theorem dX12_pairOf_159 : decode cX12_pairOf 159 = .ok (.ifCond .eq 8, 3) := by decide +kernel
theorem dX12_pairOf_162 : decode cX12_pairOf 162 = .ok (.bipush 15, 2) := by decide +kernel
theorem dX12_pairOf_164 : decode cX12_pairOf 164 = .ok (.goto 4, 3) := by decide +kernel
theorem dX12_pairOf_167 : decode cX12_pairOf 167 = .ok (.iconst (-1), 1) := by decide +kernel
theorem dX12_pairOf_168 : decode cX12_pairOf 168 = .ok (.ireturn, 1) := by decide +kernel
theorem dX12_other_0 : decode cX12_other 0 = .ok (.aload_n 0, 1) := by decide +kernel
theorem dX12_other_1 : decode cX12_other 1 = .ok (.iload_n 1, 1) := by decide +kernel
theorem dX12_other_2 : decode cX12_other 2 = .ok (.iload_n 2, 1) := by decide +kernel
theorem dX12_other_3 : decode cX12_other 3 = .ok (.ldc2_w 254, 3) := by decide +kernel
theorem dX12_other_6 : decode cX12_other 6 = .ok (.invokevirtual 174, 3) := by decide +kernel
theorem dX12_other_9 : decode cX12_other 9 = .ok (.ifCond .eq 15, 3) := by decide +kernel
theorem dX12_other_12 : decode cX12_other 12 = .ok (.aload_n 0, 1) := by decide +kernel
theorem dX12_other_13 : decode cX12_other 13 = .ok (.sipush 26624, 3) := by decide +kernel
theorem dX12_other_16 : decode cX12_other 16 = .ok (.iconst 4, 1) := by decide +kernel
theorem dX12_other_17 : decode cX12_other 17 = .ok (.iconst 1, 1) := by decide +kernel
theorem dX12_other_18 : decode cX12_other 18 = .ok (.invokevirtual 256, 3) := by decide +kernel
theorem dX12_other_21 : decode cX12_other 21 = .ok (.goto 300, 3) := by decide +kernel
theorem dX12_other_24 : decode cX12_other 24 = .ok (.aload_n 0, 1) := by decide +kernel
theorem dX12_other_25 : decode cX12_other 25 = .ok (.iload_n 1, 1) := by decide +kernel
theorem dX12_other_26 : decode cX12_other 26 = .ok (.iload_n 2, 1) := by decide +kernel
theorem dX12_other_27 : decode cX12_other 27 = .ok (.ldc2_w 260, 3) := by decide +kernel
theorem dX12_other_30 : decode cX12_other 30 = .ok (.invokevirtual 174, 3) := by decide +kernel
theorem dX12_other_33 : decode cX12_other 33 = .ok (.ifCond .eq 15, 3) := by decide +kernel
theorem dX12_other_36 : decode cX12_other 36 = .ok (.aload_n 0, 1) := by decide +kernel
theorem dX12_other_37 : decode cX12_other 37 = .ok (.sipush 24576, 3) := by decide +kernel
theorem dX12_other_40 : decode cX12_other 40 = .ok (.iconst 4, 1) := by decide +kernel
theorem dX12_other_41 : decode cX12_other 41 = .ok (.iconst 0, 1) := by decide +kernel
theorem dX12_other_42 : decode cX12_other 42 = .ok (.invokevirtual 256, 3) := by decide +kernel
theorem dX12_other_45 : decode cX12_other 45 = .ok (.goto 276, 3) := by decide +kernel
theorem dX12_other_48 : decode cX12_other 48 = .ok (.aload_n 0, 1) := by decide +kernel
theorem dX12_other_49 : decode cX12_other 49 = .ok (.iload_n 1, 1) := by decide +kernel
theorem dX12_other_50 : decode cX12_other 50 = .ok (.iload_n 2, 1) := by decide +kernel
theorem dX12_other_51 : decode cX12_other 51 = .ok (.ldc2_w 262, 3) := by decide +kernel
theorem dX12_other_54 : decode cX12_other 54 = .ok (.invokevirtual 174, 3) := by decide +kernel
theorem dX12_other_57 : decode cX12_other 57 = .ok (.ifCond .eq 15, 3) := by decide +kernel
theorem dX12_other_60 : decode cX12_other 60 = .ok (.aload_n 0, 1) := by decide +kernel
theorem dX12_other_61 : decode cX12_other 61 = .ok (.sipush 30720, 3) := by decide +kernel
theorem dX12_other_64 : decode cX12_other 64 = .ok (.iconst 1, 1) := by decide +kernel
theorem dX12_other_65 : decode cX12_other 65 = .ok (.iconst 0, 1) := by decide +kernel
theorem dX12_other_66 : decode cX12_other 66 = .ok (.invokevirtual 256, 3) := by decide +kernel
theorem dX12_other_69 : decode cX12_other 69 = .ok (.goto 252, 3) := by decide +kernel
theorem dX12_other_72 : decode cX12_other 72 = .ok (.aload_n 0, 1) := by decide +kernel
theorem dX12_other_73 : decode cX12_other 73 = .ok (.iload_n 1, 1) := by decide +kernel
theorem dX12_other_74 : decode cX12_other 74 = .ok (.iload_n 2, 1) := by decide +kernel
theorem dX12_other_75 : decode cX12_other 75 = .ok (.ldc2_w 264, 3) := by decide +kernel
theorem dX12_other_78 : decode cX12_other 78 = .ok (.invokevirtual 174, 3) := by decide +kernel
theorem dX12_other_81 : decode cX12_other 81 = .ok (.ifCond .eq 15, 3) := by decide +kernel
theorem dX12_other_84 : decode cX12_other 84 = .ok (.aload_n 0, 1) := by decide +kernel
theorem dX12_other_85 : decode cX12_other 85 = .ok (.sipush 28672, 3) := by decide +kernel
theorem dX12_other_88 : decode cX12_other 88 = .ok (.iconst 1, 1) := by decide +kernel
theorem dX12_other_89 : decode cX12_other 89 = .ok (.iconst 0, 1) := by decide +kernel
theorem dX12_other_90 : decode cX12_other 90 = .ok (.invokevirtual 256, 3) := by decide +kernel
theorem dX12_other_93 : decode cX12_other 93 = .ok (.goto 228, 3) := by decide +kernel
theorem dX12_other_96 : decode cX12_other 96 = .ok (.aload_n 0, 1) := by decide +kernel
theorem dX12_other_97 : decode cX12_other 97 = .ok (.iload_n 1, 1) := by decide +kernel
theorem dX12_other_98 : decode cX12_other 98 = .ok (.iload_n 2, 1) := by decide +kernel
theorem dX12_other_99 : decode cX12_other 99 = .ok (.ldc2_w 266, 3) := by decide +kernel
theorem dX12_other_102 : decode cX12_other 102 = .ok (.invokevirtual 174, 3) := by decide +kernel
theorem dX12_other_105 : decode cX12_other 105 = .ok (.ifCond .eq 16, 3) := by decide +kernel
theorem dX12_other_108 : decode cX12_other 108 = .ok (.aload_n 0, 1) := by decide +kernel
theorem dX12_other_109 : decode cX12_other 109 = .ok (.ldc_w 268, 3) := by decide +kernel
theorem dX12_other_112 : decode cX12_other 112 = .ok (.ldc2_w 269, 3) := by decide +kernel
theorem dX12_other_115 : decode cX12_other 115 = .ok (.invokevirtual 271, 3) := by decide +kernel
theorem dX12_other_118 : decode cX12_other 118 = .ok (.goto 203, 3) := by decide +kernel
theorem dX12_other_121 : decode cX12_other 121 = .ok (.aload_n 0, 1) := by decide +kernel
theorem dX12_other_122 : decode cX12_other 122 = .ok (.iload_n 1, 1) := by decide +kernel
theorem dX12_other_123 : decode cX12_other 123 = .ok (.iload_n 2, 1) := by decide +kernel
theorem dX12_other_124 : decode cX12_other 124 = .ok (.ldc2_w 275, 3) := by decide +kernel
theorem dX12_other_127 : decode cX12_other 127 = .ok (.invokevirtual 174, 3) := by decide +kernel
theorem dX12_other_130 : decode cX12_other 130 = .ok (.ifCond .eq 16, 3) := by decide +kernel
theorem dX12_other_133 : decode cX12_other 133 = .ok (.aload_n 0, 1) := by decide +kernel
theorem dX12_other_134 : decode cX12_other 134 = .ok (.ldc_w 277, 3) := by decide +kernel
theorem dX12_other_137 : decode cX12_other 137 = .ok (.ldc2_w 278, 3) := by decide +kernel
theorem dX12_other_140 : decode cX12_other 140 = .ok (.invokevirtual 271, 3) := by decide +kernel
theorem dX12_other_143 : decode cX12_other 143 = .ok (.goto 178, 3) := by decide +kernel
theorem dX12_other_146 : decode cX12_other 146 = .ok (.aload_n 0, 1) := by decide +kernel
theorem dX12_other_147 : decode cX12_other 147 = .ok (.iload_n 1, 1) := by decide +kernel
theorem dX12_other_148 : decode cX12_other 148 = .ok (.iload_n 2, 1) := by decide +kernel
theorem dX12_other_149 : decode cX12_other 149 = .ok (.ldc2_w 280, 3) := by decide +kernel
theorem dX12_other_152 : decode cX12_other 152 = .ok (.invokevirtual 174, 3) := by decide +kernel
theorem dX12_other_155 : decode cX12_other 155 = .ok (.ifCond .eq 15, 3) := by decide +kernel
theorem dX12_other_158 : decode cX12_other 158 = .ok (.aload_n 0, 1) := by decide +kernel
theorem dX12_other_159 : decode cX12_other 159 = .ok (.bipush 11, 2) := by decide +kernel
theorem dX12_other_161 : decode cX12_other 161 = .ok (.ldc_w 282, 3) := by decide +kernel
theorem dX12_other_164 : decode cX12_other 164 = .ok (.invokevirtual 283, 3) := by decide +kernel
theorem dX12_other_167 : decode cX12_other 167 = .ok (.goto 154, 3) := by decide +kernel
theorem dX12_other_170 : decode cX12_other 170 = .ok (.aload_n 0, 1) := by decide +kernel
theorem dX12_other_171 : decode cX12_other 171 = .ok (.iload_n 1, 1) := by decide +kernel
theorem dX12_other_172 : decode cX12_other 172 = .ok (.iload_n 2, 1) := by decide +kernel
theorem dX12_other_173 : decode cX12_other 173 = .ok (.ldc2_w 286, 3) := by decide +kernel
theorem dX12_other_176 : decode cX12_other 176 = .ok (.invokevirtual 174, 3) := by decide +kernel
theorem dX12_other_179 : decode cX12_other 179 = .ok (.ifCond .eq 13, 3) := by decide +kernel
theorem dX12_other_182 : decode cX12_other 182 = .ok (.aload_n 0, 1) := by decide +kernel
theorem dX12_other_183 : decode cX12_other 183 = .ok (.bipush 13, 2) := by decide +kernel
theorem dX12_other_185 : decode cX12_other 185 = .ok (.iconst 0, 1) := by decide +kernel
theorem dX12_other_186 : decode cX12_other 186 = .ok (.invokevirtual 283, 3) := by decide +kernel
theorem dX12_other_189 : decode cX12_other 189 = .ok (.goto 132, 3) := by decide +kernel
theorem dX12_other_192 : decode cX12_other 192 = .ok (.aload_n 0, 1) := by decide +kernel
theorem dX12_other_193 : decode cX12_other 193 = .ok (.iload_n 1, 1) := by decide +kernel
theorem dX12_other_194 : decode cX12_other 194 = .ok (.iload_n 2, 1) := by decide +kernel
theorem dX12_other_195 : decode cX12_other 195 = .ok (.ldc2_w 288, 3) := by decide +kernel
theorem dX12_other_198 : decode cX12_other 198 = .ok (.invokevirtual 174, 3) := by decide +kernel
theorem dX12_other_201 : decode cX12_other 201 = .ok (.ifCond .eq 71, 3) := by decide +kernel
theorem dX12_other_204 : decode cX12_other 204 = .ok (.aload_n 0, 1) := by decide +kernel
theorem dX12_other_205 : decode cX12_other 205 = .ok (.invokevirtual 131, 3) := by decide +kernel
theorem dX12_other_208 : decode cX12_other 208 = .ok (.istore_n 3, 1) := by decide +kernel
theorem dX12_other_209 : decode cX12_other 209 = .ok (.aload_n 0, 1) := by decide +kernel
theorem dX12_other_210 : decode cX12_other 210 = .ok (.aload_n 0, 1) := by decide +kernel
theorem dX12_other_211 : decode cX12_other 211 = .ok (.getfield 94, 3) := by decide +kernel
theorem dX12_other_214 : decode cX12_other 214 = .ok (.iload_n 3, 1) := by decide +kernel
theorem dX12_other_215 : decode cX12_other 215 = .ok (.ldc2_w 269, 3) := by decide +kernel
theorem dX12_other_218 : decode cX12_other 218 = .ok (.invokevirtual 174, 3) := by decide +kernel
theorem dX12_other_221 : decode cX12_other 221 = .ok (.istore 4, 2) := by decide +kernel
theorem dX12_other_223 : decode cX12_other 223 = .ok (.iload 4, 2) := by decide +kernel
theorem dX12_other_225 : decode cX12_other 225 = .ok (.ifCond .eq 8, 3) := by decide +kernel
theorem dX12_other_228 : decode cX12_other 228 = .ok (.bipush 14, 2) := by decide +kernel
theorem dX12_other_230 : decode cX12_other 230 = .ok (.goto 7, 3) := by decide +kernel
theorem dX12_other_233 : decode cX12_other 233 = .ok (.aload_n 0, 1) := by decide +kernel
theorem dX12_other_234 : decode cX12_other 234 = .ok (.invokevirtual 162, 3) := by decide +kernel
theorem dX12_other_237 : decode cX12_other 237 = .ok (.istore 5, 2) := by decide +kernel
theorem dX12_other_239 : decode cX12_other 239 = .ok (.aload_n 0, 1) := by decide +kernel
theorem dX12_other_240 : decode cX12_other 240 = .ok (.iload 4, 2) := by decide +kernel
theorem dX12_other_242 : decode cX12_other 242 = .ok (.ifCond .eq 7, 3) := by decide +kernel
theorem dX12_other_245 : decode cX12_other 245 = .ok (.iload_n 3, 1) := by decide +kernel
theorem dX12_other_246 : decode cX12_other 246 = .ok (.goto 7, 3) := by decide +kernel
theorem dX12_other_249 : decode cX12_other 249 = .ok (.aload_n 0, 1) := by decide +kernel
theorem dX12_other_250 : decode cX12_other 250 = .ok (.getfield 94, 3) := by decide +kernel
theorem dX12_other_253 : decode cX12_other 253 = .ok (.putfield 94, 3) := by decide +kernel
theorem dX12_other_256 : decode cX12_other 256 = .ok (.aload_n 0, 1) := by decide +kernel
theorem dX12_other_257 : decode cX12_other 257 = .ok (.sipush 18176, 3) := by decide +kernel
theorem dX12_other_260 : decode cX12_other 260 = .ok (.bipush 8, 2) := by decide +kernel
theorem dX12_other_262 : decode cX12_other 262 = .ok (.iload 5, 2) := by decide +kernel
theorem dX12_other_264 : decode cX12_other 264 = .ok (.imul, 1) := by decide +kernel
theorem dX12_other_265 : decode cX12_other 265 = .ok (.iadd, 1) := by decide +kernel
theorem dX12_other_266 : decode cX12_other 266 = .ok (.invokevirtual 165, 3) := by decide +kernel
theorem dX12_other_269 : decode cX12_other 269 = .ok (.goto 52, 3) := by decide +kernel
theorem dX12_other_272 : decode cX12_other 272 = .ok (.aload_n 0, 1) := by decide +kernel
theorem dX12_other_273 : decode cX12_other 273 = .ok (.getfield 20, 3) := by decide +kernel
theorem dX12_other_276 : decode cX12_other 276 = .ok (.iload_n 1, 1) := by decide +kernel
theorem dX12_other_277 : decode cX12_other 277 = .ok (.caload, 1) := by decide +kernel
theorem dX12_other_278 : decode cX12_other 278 = .ok (.bipush 98, 2) := by decide +kernel
theorem dX12_other_280 : decode cX12_other 280 = .ok (.if_icmp .ne 39, 3) := by decide +kernel
theorem dX12_other_283 : decode cX12_other 283 = .ok (.aload_n 0, 1) := by decide +kernel
theorem dX12_other_284 : decode cX12_other 284 = .ok (.iload_n 1, 1) := by decide +kernel
theorem dX12_other_285 : decode cX12_other 285 = .ok (.iconst 1, 1) := by decide +kernel
theorem dX12_other_286 : decode cX12_other 286 = .ok (.iadd, 1) := by decide +kernel
theorem dX12_other_287 : decode cX12_other 287 = .ok (.iload_n 2, 1) := by decide +kernel
theorem dX12_other_288 : decode cX12_other 288 = .ok (.invokevirtual 290, 3) := by decide +kernel
theorem dX12_other_291 : decode cX12_other 291 = .ok (.ifCond .lt 28, 3) := by decide +kernel
theorem dX12_other_294 : decode cX12_other 294 = .ok (.aload_n 0, 1) := by decide +kernel
theorem dX12_other_295 : decode cX12_other 295 = .ok (.bipush 12, 2) := by decide +kernel
theorem dX12_other_297 : decode cX12_other 297 = .ok (.ldc_w 293, 3) := by decide +kernel
theorem dX12_other_300 : decode cX12_other 300 = .ok (.sipush 256, 3) := by decide +kernel
theorem dX12_other_303 : decode cX12_other 303 = .ok (.aload_n 0, 1) := by decide +kernel
theorem dX12_other_304 : decode cX12_other 304 = .ok (.iload_n 1, 1) := by decide +kernel
theorem dX12_other_305 : decode cX12_other 305 = .ok (.iconst 1, 1) := by decide +kernel
theorem dX12_other_306 : decode cX12_other 306 = .ok (.iadd, 1) := by decide +kernel
theorem dX12_other_307 : decode cX12_other 307 = .ok (.iload_n 2, 1) := by decide +kernel
theorem dX12_other_308 : decode cX12_other 308 = .ok (.invokevirtual 290, 3) := by decide +kernel
theorem dX12_other_311 : decode cX12_other 311 = .ok (.imul, 1) := by decide +kernel
theorem dX12_other_312 : decode cX12_other 312 = .ok (.iadd, 1) := by decide +kernel
theorem dX12_other_313 : decode cX12_other 313 = .ok (.invokevirtual 283, 3) := by decide +kernel
theorem dX12_other_316 : decode cX12_other 316 = .ok (.goto 5, 3) := by decide +kernel
theorem dX12_other_319 : decode cX12_other 319 = .ok (.iconst 0, 1) := by decide +kernel
theorem dX12_other_320 : decode cX12_other 320 = .ok (.ireturn, 1) := by decide +kernel
theorem dX12_other_321 : decode cX12_other 321 = .ok (.iconst 1, 1) := by decide +kernel
theorem dX12_other_322 : decode cX12_other 322 = .ok (.ireturn, 1) := by decide +kernel
theorem dX12_isTwice_0 : decode cX12_isTwice 0 = .ok (.aload_n 0, 1) := by decide +kernel
theorem dX12_isTwice_1 : decode cX12_isTwice 1 = .ok (.iload_n 1, 1) := by decide +kernel
theorem dX12_isTwice_2 : decode cX12_isTwice 2 = .ok (.aload_n 0, 1) := by decide +kernel
theorem dX12_isTwice_3 : decode cX12_isTwice 3 = .ok (.getfield 294, 3) := by decide +kernel
theorem dX12_isTwice_6 : decode cX12_isTwice 6 = .ok (.aload_n 0, 1) := by decide +kernel
theorem dX12_isTwice_7 : decode cX12_isTwice 7 = .ok (.getfield 297, 3) := by decide +kernel
theorem dX12_isTwice_10 : decode cX12_isTwice 10 = .ok (.iconst 0, 1) := by decide +kernel
theorem dX12_isTwice_11 : decode cX12_isTwice 11 = .ok (.invokevirtual 300, 3) := by decide +kernel
theorem dX12_isTwice_14 : decode cX12_isTwice 14 = .ok (.ifCond .lt 7, 3) := by decide +kernel
theorem dX12_isTwice_17 : decode cX12_isTwice 17 = .ok (.iconst 1, 1) := by decide +kernel
theorem dX12_isTwice_18 : decode cX12_isTwice 18 = .ok (.goto 4, 3) := by decide +kernel
theorem dX12_isTwice_21 : decode cX12_isTwice 21 = .ok (.iconst 0, 1) := by decide +kernel
theorem dX12_isTwice_22 : decode cX12_isTwice 22 = .ok (.ireturn, 1) := by decide +kernel
theorem dX12_read_0 : decode cX12_read 0 = .ok (.aload_n 0, 1) := by decide +kernel
theorem dX12_read_1 : decode cX12_read 1 = .ok (.bipush 24, 2) := by decide +kernel
theorem dX12_read_3 : decode cX12_read 3 = .ok (.iload_n 1, 1) := by decide +kernel
theorem dX12_read_4 : decode cX12_read 4 = .ok (.imul, 1) := by decide +kernel
theorem dX12_read_5 : decode cX12_read 5 = .ok (.iload_n 2, 1) := by decide +kernel
theorem dX12_read_6 : decode cX12_read 6 = .ok (.iadd, 1) := by decide +kernel
theorem dX12_read_7 : decode cX12_read 7 = .ok (.putfield 103, 3) := by decide +kernel
theorem dX12_read_10 : decode cX12_read 10 = .ok (.aload_n 0, 1) := by decide +kernel
theorem dX12_read_11 : decode cX12_read 11 = .ok (.bipush 48, 2) := by decide +kernel
theorem dX12_read_13 : decode cX12_read 13 = .ok (.aload_n 0, 1) := by decide +kernel
theorem dX12_read_14 : decode cX12_read 14 = .ok (.getfield 103, 3) := by decide +kernel
theorem dX12_read_17 : decode cX12_read 17 = .ok (.imul, 1) := by decide +kernel
theorem dX12_read_18 : decode cX12_read 18 = .ok (.putfield 94, 3) := by decide +kernel
theorem dX12_read_21 : decode cX12_read 21 = .ok (.aload_n 0, 1) := by decide +kernel
theorem dX12_read_22 : decode cX12_read 22 = .ok (.aload_n 0, 1) := by decide +kernel
theorem dX12_read_23 : decode cX12_read 23 = .ok (.getfield 94, 3) := by decide +kernel
theorem dX12_read_26 : decode cX12_read 26 = .ok (.aload_n 0, 1) := by decide +kernel
theorem dX12_read_27 : decode cX12_read 27 = .ok (.getfield 17, 3) := by decide +kernel
theorem dX12_read_30 : decode cX12_read 30 = .ok (.aload_n 0, 1) := by decide +kernel
theorem dX12_read_31 : decode cX12_read 31 = .ok (.getfield 103, 3) := by decide +kernel
theorem dX12_read_34 : decode cX12_read 34 = .ok (.iaload, 1) := by decide +kernel
theorem dX12_read_35 : decode cX12_read 35 = .ok (.iadd, 1) := by decide +kernel
theorem dX12_read_36 : decode cX12_read 36 = .ok (.putfield 97, 3) := by decide +kernel
theorem dX12_read_39 : decode cX12_read 39 = .ok (.aload_n 0, 1) := by decide +kernel
theorem dX12_read_40 : decode cX12_read 40 = .ok (.iconst 0, 1) := by decide +kernel
theorem dX12_read_41 : decode cX12_read 41 = .ok (.putfield 100, 3) := by decide +kernel
theorem dX12_read_44 : decode cX12_read 44 = .ok (.aload_n 0, 1) := by decide +kernel
theorem dX12_read_45 : decode cX12_read 45 = .ok (.iconst (-1), 1) := by decide +kernel
theorem dX12_read_46 : decode cX12_read 46 = .ok (.putfield 294, 3) := by decide +kernel
theorem dX12_read_49 : decode cX12_read 49 = .ok (.aload_n 0, 1) := by decide +kernel
theorem dX12_read_50 : decode cX12_read 50 = .ok (.iconst 0, 1) := by decide +kernel
theorem dX12_read_51 : decode cX12_read 51 = .ok (.putfield 156, 3) := by decide +kernel
theorem dX12_read_54 : decode cX12_read 54 = .ok (.aload_n 0, 1) := by decide +kernel
theorem dX12_read_55 : decode cX12_read 55 = .ok (.iconst (-1), 1) := by decide +kernel
theorem dX12_read_56 : decode cX12_read 56 = .ok (.putfield 304, 3) := by decide +kernel
theorem dX12_read_59 : decode cX12_read 59 = .ok (.aload_n 0, 1) := by decide +kernel
theorem dX12_read_60 : decode cX12_read 60 = .ok (.invokevirtual 116, 3) := by decide +kernel
theorem dX12_read_63 : decode cX12_read 63 = .ok (.ifCond .ne 4, 3) := by decide +kernel
theorem dX12_read_66 : decode cX12_read 66 = .ok (.return_, 1) := by decide +kernel
theorem dX12_read_67 : decode cX12_read 67 = .ok (.aload_n 0, 1) := by decide +kernel
theorem dX12_read_68 : decode cX12_read 68 = .ok (.getfield 94, 3) := by decide +kernel
theorem dX12_read_71 : decode cX12_read 71 = .ok (.istore 4, 2) := by decide +kernel
theorem dX12_read_73 : decode cX12_read 73 = .ok (.aload_n 0, 1) := by decide +kernel
theorem dX12_read_74 : decode cX12_read 74 = .ok (.invokevirtual 131, 3) := by decide +kernel
theorem dX12_read_77 : decode cX12_read 77 = .ok (.istore 5, 2) := by decide +kernel
theorem dX12_read_79 : decode cX12_read 79 = .ok (.aload_n 0, 1) := by decide +kernel
theorem dX12_read_80 : decode cX12_read 80 = .ok (.iload 5, 2) := by decide +kernel
theorem dX12_read_82 : decode cX12_read 82 = .ok (.putfield 94, 3) := by decide +kernel
theorem dX12_read_85 : decode cX12_read 85 = .ok (.aload_n 0, 1) := by decide +kernel
theorem dX12_read_86 : decode cX12_read 86 = .ok (.iload 4, 2) := by decide +kernel
theorem dX12_read_88 : decode cX12_read 88 = .ok (.iload 5, 2) := by decide +kernel
theorem dX12_read_90 : decode cX12_read 90 = .ok (.invokevirtual 138, 3) := by decide +kernel
theorem dX12_read_93 : decode cX12_read 93 = .ok (.ifCond .eq 81, 3) := by decide +kernel
theorem dX12_read_96 : decode cX12_read 96 = .ok (.aload_n 0, 1) := by decide +kernel
theorem dX12_read_97 : decode cX12_read 97 = .ok (.invokevirtual 116, 3) := by decide +kernel
theorem dX12_read_100 : decode cX12_read 100 = .ok (.bipush 58, 2) := by decide +kernel
theorem dX12_read_102 : decode cX12_read 102 = .ok (.if_icmp .ne 72, 3) := by decide +kernel
theorem dX12_read_105 : decode cX12_read 105 = .ok (.aload_n 0, 1) := by decide +kernel
theorem dX12_read_106 : decode cX12_read 106 = .ok (.iload 4, 2) := by decide +kernel
theorem dX12_read_108 : decode cX12_read 108 = .ok (.putfield 294, 3) := by decide +kernel
theorem dX12_read_111 : decode cX12_read 111 = .ok (.aload_n 0, 1) := by decide +kernel
theorem dX12_read_112 : decode cX12_read 112 = .ok (.iload 5, 2) := by decide +kernel
theorem dX12_read_114 : decode cX12_read 114 = .ok (.putfield 297, 3) := by decide +kernel
theorem dX12_read_117 : decode cX12_read 117 = .ok (.aload_n 0, 1) := by decide +kernel
theorem dX12_read_118 : decode cX12_read 118 = .ok (.dup, 1) := by decide +kernel
theorem dX12_read_119 : decode cX12_read 119 = .ok (.getfield 94, 3) := by decide +kernel
theorem dX12_read_122 : decode cX12_read 122 = .ok (.iconst 1, 1) := by decide +kernel
theorem dX12_read_123 : decode cX12_read 123 = .ok (.iadd, 1) := by decide +kernel
theorem dX12_read_124 : decode cX12_read 124 = .ok (.putfield 94, 3) := by decide +kernel
theorem dX12_read_127 : decode cX12_read 127 = .ok (.iload_n 3, 1) := by decide +kernel
end
section
theorem dX12_read_128 : decode cX12_read 128 = .ok (.ifCond .eq 20, 3) := by decide +kernel
theorem dX12_read_131 : decode cX12_read 131 = .ok (.aload_n 0, 1) := by decide +kernel
theorem dX12_read_132 : decode cX12_read 132 = .ok (.iload_n 1, 1) := by decide +kernel
theorem dX12_read_133 : decode cX12_read 133 = .ok (.invokevirtual 307, 3) := by decide +kernel
theorem dX12_read_136 : decode cX12_read 136 = .ok (.ifCond .eq 12, 3) := by decide +kernel
theorem dX12_read_139 : decode cX12_read 139 = .ok (.aload_n 0, 1) := by decide +kernel
theorem dX12_read_140 : decode cX12_read 140 = .ok (.bipush (-2), 2) := by decide +kernel
theorem dX12_read_142 : decode cX12_read 142 = .ok (.iload 4, 2) := by decide +kernel
theorem dX12_read_144 : decode cX12_read 144 = .ok (.invokevirtual 123, 3) := by decide +kernel
theorem dX12_read_147 : decode cX12_read 147 = .ok (.return_, 1) := by decide +kernel
theorem dX12_read_148 : decode cX12_read 148 = .ok (.aload_n 0, 1) := by decide +kernel
theorem dX12_read_149 : decode cX12_read 149 = .ok (.invokevirtual 116, 3) := by decide +kernel
theorem dX12_read_152 : decode cX12_read 152 = .ok (.ifCond .ne 4, 3) := by decide +kernel
theorem dX12_read_155 : decode cX12_read 155 = .ok (.return_, 1) := by decide +kernel
theorem dX12_read_156 : decode cX12_read 156 = .ok (.aload_n 0, 1) := by decide +kernel
theorem dX12_read_157 : decode cX12_read 157 = .ok (.getfield 94, 3) := by decide +kernel
theorem dX12_read_160 : decode cX12_read 160 = .ok (.istore 4, 2) := by decide +kernel
theorem dX12_read_162 : decode cX12_read 162 = .ok (.aload_n 0, 1) := by decide +kernel
theorem dX12_read_163 : decode cX12_read 163 = .ok (.invokevirtual 131, 3) := by decide +kernel
theorem dX12_read_166 : decode cX12_read 166 = .ok (.istore 5, 2) := by decide +kernel
theorem dX12_read_168 : decode cX12_read 168 = .ok (.aload_n 0, 1) := by decide +kernel
theorem dX12_read_169 : decode cX12_read 169 = .ok (.iload 5, 2) := by decide +kernel
theorem dX12_read_171 : decode cX12_read 171 = .ok (.putfield 94, 3) := by decide +kernel
theorem dX12_read_174 : decode cX12_read 174 = .ok (.aload_n 0, 1) := by decide +kernel
theorem dX12_read_175 : decode cX12_read 175 = .ok (.iload 4, 2) := by decide +kernel
theorem dX12_read_177 : decode cX12_read 177 = .ok (.putfield 304, 3) := by decide +kernel
theorem dX12_read_180 : decode cX12_read 180 = .ok (.iload 5, 2) := by decide +kernel
theorem dX12_read_182 : decode cX12_read 182 = .ok (.iload 4, 2) := by decide +kernel
theorem dX12_read_184 : decode cX12_read 184 = .ok (.if_icmp .eq 36, 3) := by decide +kernel
theorem dX12_read_187 : decode cX12_read 187 = .ok (.aload_n 0, 1) := by decide +kernel
theorem dX12_read_188 : decode cX12_read 188 = .ok (.iload 4, 2) := by decide +kernel
theorem dX12_read_190 : decode cX12_read 190 = .ok (.iload 5, 2) := by decide +kernel
theorem dX12_read_192 : decode cX12_read 192 = .ok (.invokevirtual 310, 3) := by decide +kernel
theorem dX12_read_195 : decode cX12_read 195 = .ok (.ifCond .ne 34, 3) := by decide +kernel
theorem dX12_read_198 : decode cX12_read 198 = .ok (.aload_n 0, 1) := by decide +kernel
theorem dX12_read_199 : decode cX12_read 199 = .ok (.iload 4, 2) := by decide +kernel
theorem dX12_read_201 : decode cX12_read 201 = .ok (.iload 5, 2) := by decide +kernel
theorem dX12_read_203 : decode cX12_read 203 = .ok (.invokevirtual 313, 3) := by decide +kernel
theorem dX12_read_206 : decode cX12_read 206 = .ok (.ifCond .ne 23, 3) := by decide +kernel
theorem dX12_read_209 : decode cX12_read 209 = .ok (.aload_n 0, 1) := by decide +kernel
theorem dX12_read_210 : decode cX12_read 210 = .ok (.iload 4, 2) := by decide +kernel
theorem dX12_read_212 : decode cX12_read 212 = .ok (.iload 5, 2) := by decide +kernel
theorem dX12_read_214 : decode cX12_read 214 = .ok (.invokevirtual 316, 3) := by decide +kernel
theorem dX12_read_217 : decode cX12_read 217 = .ok (.ifCond .ne 12, 3) := by decide +kernel
theorem dX12_read_220 : decode cX12_read 220 = .ok (.aload_n 0, 1) := by decide +kernel
theorem dX12_read_221 : decode cX12_read 221 = .ok (.bipush (-3), 2) := by decide +kernel
theorem dX12_read_223 : decode cX12_read 223 = .ok (.iload 4, 2) := by decide +kernel
theorem dX12_read_225 : decode cX12_read 225 = .ok (.invokevirtual 123, 3) := by decide +kernel
theorem dX12_read_228 : decode cX12_read 228 = .ok (.return_, 1) := by decide +kernel
theorem dX12_read_229 : decode cX12_read 229 = .ok (.aload_n 0, 1) := by decide +kernel
theorem dX12_read_230 : decode cX12_read 230 = .ok (.getfield 100, 3) := by decide +kernel
theorem dX12_read_233 : decode cX12_read 233 = .ok (.ifCond .ne 20, 3) := by decide +kernel
theorem dX12_read_236 : decode cX12_read 236 = .ok (.aload_n 0, 1) := by decide +kernel
theorem dX12_read_237 : decode cX12_read 237 = .ok (.invokevirtual 116, 3) := by decide +kernel
theorem dX12_read_240 : decode cX12_read 240 = .ok (.ifCond .eq 13, 3) := by decide +kernel
theorem dX12_read_243 : decode cX12_read 243 = .ok (.aload_n 0, 1) := by decide +kernel
theorem dX12_read_244 : decode cX12_read 244 = .ok (.bipush (-3), 2) := by decide +kernel
theorem dX12_read_246 : decode cX12_read 246 = .ok (.aload_n 0, 1) := by decide +kernel
theorem dX12_read_247 : decode cX12_read 247 = .ok (.getfield 94, 3) := by decide +kernel
theorem dX12_read_250 : decode cX12_read 250 = .ok (.invokevirtual 123, 3) := by decide +kernel
theorem dX12_read_253 : decode cX12_read 253 = .ok (.return_, 1) := by decide +kernel
theorem dX12_labelOf_0 : decode cX12_labelOf 0 = .ok (.iload 4, 2) := by decide +kernel
theorem dX12_labelOf_2 : decode cX12_labelOf 2 = .ok (.ifCond .ne 10, 3) := by decide +kernel
theorem dX12_labelOf_5 : decode cX12_labelOf 5 = .ok (.aload_n 0, 1) := by decide +kernel
theorem dX12_labelOf_6 : decode cX12_labelOf 6 = .ok (.getfield 319, 3) := by decide +kernel
theorem dX12_labelOf_9 : decode cX12_labelOf 9 = .ok (.goto 7, 3) := by decide +kernel
theorem dX12_labelOf_12 : decode cX12_labelOf 12 = .ok (.aload_n 0, 1) := by decide +kernel
theorem dX12_labelOf_13 : decode cX12_labelOf 13 = .ok (.getfield 322, 3) := by decide +kernel
theorem dX12_labelOf_16 : decode cX12_labelOf 16 = .ok (.istore 5, 2) := by decide +kernel
theorem dX12_labelOf_18 : decode cX12_labelOf 18 = .ok (.iload 4, 2) := by decide +kernel
theorem dX12_labelOf_20 : decode cX12_labelOf 20 = .ok (.istore 6, 2) := by decide +kernel
theorem dX12_labelOf_22 : decode cX12_labelOf 22 = .ok (.iload 6, 2) := by decide +kernel
theorem dX12_labelOf_24 : decode cX12_labelOf 24 = .ok (.iload 4, 2) := by decide +kernel
theorem dX12_labelOf_26 : decode cX12_labelOf 26 = .ok (.iload 5, 2) := by decide +kernel
theorem dX12_labelOf_28 : decode cX12_labelOf 28 = .ok (.iadd, 1) := by decide +kernel
theorem dX12_labelOf_29 : decode cX12_labelOf 29 = .ok (.if_icmp .ge 100, 3) := by decide +kernel
theorem dX12_labelOf_32 : decode cX12_labelOf 32 = .ok (.aload_n 0, 1) := by decide +kernel
theorem dX12_labelOf_33 : decode cX12_labelOf 33 = .ok (.getfield 26, 3) := by decide +kernel
theorem dX12_labelOf_36 : decode cX12_labelOf 36 = .ok (.iload 6, 2) := by decide +kernel
theorem dX12_labelOf_38 : decode cX12_labelOf 38 = .ok (.iaload, 1) := by decide +kernel
theorem dX12_labelOf_39 : decode cX12_labelOf 39 = .ok (.iload_n 1, 1) := by decide +kernel
theorem dX12_labelOf_40 : decode cX12_labelOf 40 = .ok (.if_icmp .ne 7, 3) := by decide +kernel
theorem dX12_labelOf_43 : decode cX12_labelOf 43 = .ok (.iconst 1, 1) := by decide +kernel
theorem dX12_labelOf_44 : decode cX12_labelOf 44 = .ok (.goto 4, 3) := by decide +kernel
theorem dX12_labelOf_47 : decode cX12_labelOf 47 = .ok (.iconst 0, 1) := by decide +kernel
theorem dX12_labelOf_48 : decode cX12_labelOf 48 = .ok (.istore 7, 2) := by decide +kernel
theorem dX12_labelOf_50 : decode cX12_labelOf 50 = .ok (.iconst 0, 1) := by decide +kernel
theorem dX12_labelOf_51 : decode cX12_labelOf 51 = .ok (.istore 8, 2) := by decide +kernel
theorem dX12_labelOf_53 : decode cX12_labelOf 53 = .ok (.iload 8, 2) := by decide +kernel
theorem dX12_labelOf_55 : decode cX12_labelOf 55 = .ok (.bipush 6, 2) := by decide +kernel
theorem dX12_labelOf_57 : decode cX12_labelOf 57 = .ok (.if_icmp .ge 58, 3) := by decide +kernel
theorem dX12_labelOf_60 : decode cX12_labelOf 60 = .ok (.iload 7, 2) := by decide +kernel
theorem dX12_labelOf_62 : decode cX12_labelOf 62 = .ok (.ifCond .eq 53, 3) := by decide +kernel
theorem dX12_labelOf_65 : decode cX12_labelOf 65 = .ok (.aload_n 0, 1) := by decide +kernel
theorem dX12_labelOf_66 : decode cX12_labelOf 66 = .ok (.getfield 23, 3) := by decide +kernel
theorem dX12_labelOf_69 : decode cX12_labelOf 69 = .ok (.bipush 6, 2) := by decide +kernel
theorem dX12_labelOf_71 : decode cX12_labelOf 71 = .ok (.iload 6, 2) := by decide +kernel
theorem dX12_labelOf_73 : decode cX12_labelOf 73 = .ok (.imul, 1) := by decide +kernel
theorem dX12_labelOf_74 : decode cX12_labelOf 74 = .ok (.iload 8, 2) := by decide +kernel
theorem dX12_labelOf_76 : decode cX12_labelOf 76 = .ok (.iadd, 1) := by decide +kernel
theorem dX12_labelOf_77 : decode cX12_labelOf 77 = .ok (.caload, 1) := by decide +kernel
theorem dX12_labelOf_78 : decode cX12_labelOf 78 = .ok (.iload_n 2, 1) := by decide +kernel
theorem dX12_labelOf_79 : decode cX12_labelOf 79 = .ok (.iload 8, 2) := by decide +kernel
theorem dX12_labelOf_81 : decode cX12_labelOf 81 = .ok (.iadd, 1) := by decide +kernel
theorem dX12_labelOf_82 : decode cX12_labelOf 82 = .ok (.iload_n 3, 1) := by decide +kernel
theorem dX12_labelOf_83 : decode cX12_labelOf 83 = .ok (.if_icmp .ge 15, 3) := by decide +kernel
theorem dX12_labelOf_86 : decode cX12_labelOf 86 = .ok (.aload_n 0, 1) := by decide +kernel
theorem dX12_labelOf_87 : decode cX12_labelOf 87 = .ok (.getfield 20, 3) := by decide +kernel
theorem dX12_labelOf_90 : decode cX12_labelOf 90 = .ok (.iload_n 2, 1) := by decide +kernel
theorem dX12_labelOf_91 : decode cX12_labelOf 91 = .ok (.iload 8, 2) := by decide +kernel
theorem dX12_labelOf_93 : decode cX12_labelOf 93 = .ok (.iadd, 1) := by decide +kernel
theorem dX12_labelOf_94 : decode cX12_labelOf 94 = .ok (.caload, 1) := by decide +kernel
theorem dX12_labelOf_95 : decode cX12_labelOf 95 = .ok (.goto 4, 3) := by decide +kernel
theorem dX12_labelOf_98 : decode cX12_labelOf 98 = .ok (.iconst 0, 1) := by decide +kernel
theorem dX12_labelOf_99 : decode cX12_labelOf 99 = .ok (.if_icmp .ne 7, 3) := by decide +kernel
theorem dX12_labelOf_102 : decode cX12_labelOf 102 = .ok (.iconst 1, 1) := by decide +kernel
theorem dX12_labelOf_103 : decode cX12_labelOf 103 = .ok (.goto 4, 3) := by decide +kernel
theorem dX12_labelOf_106 : decode cX12_labelOf 106 = .ok (.iconst 0, 1) := by decide +kernel
theorem dX12_labelOf_107 : decode cX12_labelOf 107 = .ok (.istore 7, 2) := by decide +kernel
theorem dX12_labelOf_109 : decode cX12_labelOf 109 = .ok (.iinc 8 1, 3) := by decide +kernel
theorem dX12_labelOf_112 : decode cX12_labelOf 112 = .ok (.goto (-59), 3) := by decide +kernel
theorem dX12_labelOf_115 : decode cX12_labelOf 115 = .ok (.iload 7, 2) := by decide +kernel
theorem dX12_labelOf_117 : decode cX12_labelOf 117 = .ok (.ifCond .eq 6, 3) := by decide +kernel
theorem dX12_labelOf_120 : decode cX12_labelOf 120 = .ok (.iload 6, 2) := by decide +kernel
theorem dX12_labelOf_122 : decode cX12_labelOf 122 = .ok (.ireturn, 1) := by decide +kernel
theorem dX12_labelOf_123 : decode cX12_labelOf 123 = .ok (.iinc 6 1, 3) := by decide +kernel
theorem dX12_labelOf_126 : decode cX12_labelOf 126 = .ok (.goto (-104), 3) := by decide +kernel
theorem dX12_labelOf_129 : decode cX12_labelOf 129 = .ok (.iconst (-1), 1) := by decide +kernel
theorem dX12_labelOf_130 : decode cX12_labelOf 130 = .ok (.ireturn, 1) := by decide +kernel
theorem dX12_addLabel_0 : decode cX12_addLabel 0 = .ok (.aload_n 0, 1) := by decide +kernel
theorem dX12_addLabel_1 : decode cX12_addLabel 1 = .ok (.getfield 26, 3) := by decide +kernel
theorem dX12_addLabel_4 : decode cX12_addLabel 4 = .ok (.aload_n 0, 1) := by decide +kernel
theorem dX12_addLabel_5 : decode cX12_addLabel 5 = .ok (.getfield 319, 3) := by decide +kernel
theorem dX12_addLabel_8 : decode cX12_addLabel 8 = .ok (.iload_n 1, 1) := by decide +kernel
theorem dX12_addLabel_9 : decode cX12_addLabel 9 = .ok (.iastore, 1) := by decide +kernel
theorem dX12_addLabel_10 : decode cX12_addLabel 10 = .ok (.aload_n 0, 1) := by decide +kernel
theorem dX12_addLabel_11 : decode cX12_addLabel 11 = .ok (.getfield 29, 3) := by decide +kernel
theorem dX12_addLabel_14 : decode cX12_addLabel 14 = .ok (.aload_n 0, 1) := by decide +kernel
theorem dX12_addLabel_15 : decode cX12_addLabel 15 = .ok (.getfield 319, 3) := by decide +kernel
theorem dX12_addLabel_18 : decode cX12_addLabel 18 = .ok (.aload_n 0, 1) := by decide +kernel
theorem dX12_addLabel_19 : decode cX12_addLabel 19 = .ok (.getfield 325, 3) := by decide +kernel
theorem dX12_addLabel_22 : decode cX12_addLabel 22 = .ok (.iastore, 1) := by decide +kernel
theorem dX12_addLabel_23 : decode cX12_addLabel 23 = .ok (.aload_n 0, 1) := by decide +kernel
theorem dX12_addLabel_24 : decode cX12_addLabel 24 = .ok (.getfield 32, 3) := by decide +kernel
theorem dX12_addLabel_27 : decode cX12_addLabel 27 = .ok (.aload_n 0, 1) := by decide +kernel
theorem dX12_addLabel_28 : decode cX12_addLabel 28 = .ok (.getfield 319, 3) := by decide +kernel
theorem dX12_addLabel_31 : decode cX12_addLabel 31 = .ok (.aload_n 0, 1) := by decide +kernel
theorem dX12_addLabel_32 : decode cX12_addLabel 32 = .ok (.getfield 39, 3) := by decide +kernel
theorem dX12_addLabel_35 : decode cX12_addLabel 35 = .ok (.iconst 3, 1) := by decide +kernel
theorem dX12_addLabel_36 : decode cX12_addLabel 36 = .ok (.iload_n 1, 1) := by decide +kernel
theorem dX12_addLabel_37 : decode cX12_addLabel 37 = .ok (.imul, 1) := by decide +kernel
theorem dX12_addLabel_38 : decode cX12_addLabel 38 = .ok (.aload_n 0, 1) := by decide +kernel
theorem dX12_addLabel_39 : decode cX12_addLabel 39 = .ok (.getfield 325, 3) := by decide +kernel
theorem dX12_addLabel_42 : decode cX12_addLabel 42 = .ok (.iadd, 1) := by decide +kernel
theorem dX12_addLabel_43 : decode cX12_addLabel 43 = .ok (.iaload, 1) := by decide +kernel
theorem dX12_addLabel_44 : decode cX12_addLabel 44 = .ok (.iastore, 1) := by decide +kernel
theorem dX12_addLabel_45 : decode cX12_addLabel 45 = .ok (.aload_n 0, 1) := by decide +kernel
theorem dX12_addLabel_46 : decode cX12_addLabel 46 = .ok (.getfield 35, 3) := by decide +kernel
theorem dX12_addLabel_49 : decode cX12_addLabel 49 = .ok (.aload_n 0, 1) := by decide +kernel
theorem dX12_addLabel_50 : decode cX12_addLabel 50 = .ok (.getfield 319, 3) := by decide +kernel
theorem dX12_addLabel_53 : decode cX12_addLabel 53 = .ok (.iconst 0, 1) := by decide +kernel
theorem dX12_addLabel_54 : decode cX12_addLabel 54 = .ok (.bastore, 1) := by decide +kernel
theorem dX12_addLabel_55 : decode cX12_addLabel 55 = .ok (.iconst 0, 1) := by decide +kernel
theorem dX12_addLabel_56 : decode cX12_addLabel 56 = .ok (.istore_n 2, 1) := by decide +kernel
theorem dX12_addLabel_57 : decode cX12_addLabel 57 = .ok (.iload_n 2, 1) := by decide +kernel
theorem dX12_addLabel_58 : decode cX12_addLabel 58 = .ok (.bipush 6, 2) := by decide +kernel
theorem dX12_addLabel_60 : decode cX12_addLabel 60 = .ok (.if_icmp .ge 51, 3) := by decide +kernel
theorem dX12_addLabel_63 : decode cX12_addLabel 63 = .ok (.aload_n 0, 1) := by decide +kernel
theorem dX12_addLabel_64 : decode cX12_addLabel 64 = .ok (.getfield 23, 3) := by decide +kernel
theorem dX12_addLabel_67 : decode cX12_addLabel 67 = .ok (.bipush 6, 2) := by decide +kernel
theorem dX12_addLabel_69 : decode cX12_addLabel 69 = .ok (.aload_n 0, 1) := by decide +kernel
theorem dX12_addLabel_70 : decode cX12_addLabel 70 = .ok (.getfield 319, 3) := by decide +kernel
theorem dX12_addLabel_73 : decode cX12_addLabel 73 = .ok (.imul, 1) := by decide +kernel
theorem dX12_addLabel_74 : decode cX12_addLabel 74 = .ok (.iload_n 2, 1) := by decide +kernel
theorem dX12_addLabel_75 : decode cX12_addLabel 75 = .ok (.iadd, 1) := by decide +kernel
theorem dX12_addLabel_76 : decode cX12_addLabel 76 = .ok (.aload_n 0, 1) := by decide +kernel
theorem dX12_addLabel_77 : decode cX12_addLabel 77 = .ok (.getfield 294, 3) := by decide +kernel
theorem dX12_addLabel_80 : decode cX12_addLabel 80 = .ok (.iload_n 2, 1) := by decide +kernel
theorem dX12_addLabel_81 : decode cX12_addLabel 81 = .ok (.iadd, 1) := by decide +kernel
theorem dX12_addLabel_82 : decode cX12_addLabel 82 = .ok (.aload_n 0, 1) := by decide +kernel
theorem dX12_addLabel_83 : decode cX12_addLabel 83 = .ok (.getfield 297, 3) := by decide +kernel
theorem dX12_addLabel_86 : decode cX12_addLabel 86 = .ok (.if_icmp .ge 17, 3) := by decide +kernel
theorem dX12_addLabel_89 : decode cX12_addLabel 89 = .ok (.aload_n 0, 1) := by decide +kernel
theorem dX12_addLabel_90 : decode cX12_addLabel 90 = .ok (.getfield 20, 3) := by decide +kernel
theorem dX12_addLabel_93 : decode cX12_addLabel 93 = .ok (.aload_n 0, 1) := by decide +kernel
theorem dX12_addLabel_94 : decode cX12_addLabel 94 = .ok (.getfield 294, 3) := by decide +kernel
theorem dX12_addLabel_97 : decode cX12_addLabel 97 = .ok (.iload_n 2, 1) := by decide +kernel
theorem dX12_addLabel_98 : decode cX12_addLabel 98 = .ok (.iadd, 1) := by decide +kernel
theorem dX12_addLabel_99 : decode cX12_addLabel 99 = .ok (.caload, 1) := by decide +kernel
theorem dX12_addLabel_100 : decode cX12_addLabel 100 = .ok (.goto 4, 3) := by decide +kernel
theorem dX12_addLabel_103 : decode cX12_addLabel 103 = .ok (.iconst 0, 1) := by decide +kernel
theorem dX12_addLabel_104 : decode cX12_addLabel 104 = .ok (.castore, 1) := by decide +kernel
theorem dX12_addLabel_105 : decode cX12_addLabel 105 = .ok (.iinc 2 1, 3) := by decide +kernel
theorem dX12_addLabel_108 : decode cX12_addLabel 108 = .ok (.goto (-51), 3) := by decide +kernel
theorem dX12_addLabel_111 : decode cX12_addLabel 111 = .ok (.aload_n 0, 1) := by decide +kernel
theorem dX12_addLabel_112 : decode cX12_addLabel 112 = .ok (.dup, 1) := by decide +kernel
theorem dX12_addLabel_113 : decode cX12_addLabel 113 = .ok (.getfield 319, 3) := by decide +kernel
theorem dX12_addLabel_116 : decode cX12_addLabel 116 = .ok (.iconst 1, 1) := by decide +kernel
theorem dX12_addLabel_117 : decode cX12_addLabel 117 = .ok (.iadd, 1) := by decide +kernel
theorem dX12_addLabel_118 : decode cX12_addLabel 118 = .ok (.putfield 319, 3) := by decide +kernel
theorem dX12_addLabel_121 : decode cX12_addLabel 121 = .ok (.return_, 1) := by decide +kernel
theorem dX12_putByte_0 : decode cX12_putByte 0 = .ok (.aload_n 0, 1) := by decide +kernel
theorem dX12_putByte_1 : decode cX12_putByte 1 = .ok (.getfield 39, 3) := by decide +kernel
theorem dX12_putByte_4 : decode cX12_putByte 4 = .ok (.iload_n 1, 1) := by decide +kernel
theorem dX12_putByte_5 : decode cX12_putByte 5 = .ok (.iaload, 1) := by decide +kernel
theorem dX12_putByte_6 : decode cX12_putByte 6 = .ok (.sipush 1024, 3) := by decide +kernel
theorem dX12_putByte_9 : decode cX12_putByte 9 = .ok (.if_icmp .ge 25, 3) := by decide +kernel
theorem dX12_putByte_12 : decode cX12_putByte 12 = .ok (.aload_n 0, 1) := by decide +kernel
theorem dX12_putByte_13 : decode cX12_putByte 13 = .ok (.getfield 48, 3) := by decide +kernel
theorem dX12_putByte_16 : decode cX12_putByte 16 = .ok (.sipush 1024, 3) := by decide +kernel
theorem dX12_putByte_19 : decode cX12_putByte 19 = .ok (.iload_n 1, 1) := by decide +kernel
theorem dX12_putByte_20 : decode cX12_putByte 20 = .ok (.imul, 1) := by decide +kernel
theorem dX12_putByte_21 : decode cX12_putByte 21 = .ok (.aload_n 0, 1) := by decide +kernel
theorem dX12_putByte_22 : decode cX12_putByte 22 = .ok (.getfield 39, 3) := by decide +kernel
theorem dX12_putByte_25 : decode cX12_putByte 25 = .ok (.iload_n 1, 1) := by decide +kernel
theorem dX12_putByte_26 : decode cX12_putByte 26 = .ok (.iaload, 1) := by decide +kernel
theorem dX12_putByte_27 : decode cX12_putByte 27 = .ok (.iadd, 1) := by decide +kernel
theorem dX12_putByte_28 : decode cX12_putByte 28 = .ok (.iload_n 2, 1) := by decide +kernel
theorem dX12_putByte_29 : decode cX12_putByte 29 = .ok (.sipush 255, 3) := by decide +kernel
theorem dX12_putByte_32 : decode cX12_putByte 32 = .ok (.iand, 1) := by decide +kernel
theorem dX12_putByte_33 : decode cX12_putByte 33 = .ok (.iastore, 1) := by decide +kernel
theorem dX12_putByte_34 : decode cX12_putByte 34 = .ok (.aload_n 0, 1) := by decide +kernel
theorem dX12_putByte_35 : decode cX12_putByte 35 = .ok (.getfield 39, 3) := by decide +kernel
theorem dX12_putByte_38 : decode cX12_putByte 38 = .ok (.iload_n 1, 1) := by decide +kernel
theorem dX12_putByte_39 : decode cX12_putByte 39 = .ok (.dup2, 1) := by decide +kernel
theorem dX12_putByte_40 : decode cX12_putByte 40 = .ok (.iaload, 1) := by decide +kernel
theorem dX12_putByte_41 : decode cX12_putByte 41 = .ok (.iconst 1, 1) := by decide +kernel
theorem dX12_putByte_42 : decode cX12_putByte 42 = .ok (.iadd, 1) := by decide +kernel
theorem dX12_putByte_43 : decode cX12_putByte 43 = .ok (.iastore, 1) := by decide +kernel
theorem dX12_putByte_44 : decode cX12_putByte 44 = .ok (.return_, 1) := by decide +kernel
theorem dX12_putMany_0 : decode cX12_putMany 0 = .ok (.iconst 0, 1) := by decide +kernel
theorem dX12_putMany_1 : decode cX12_putMany 1 = .ok (.istore 4, 2) := by decide +kernel
theorem dX12_putMany_3 : decode cX12_putMany 3 = .ok (.iload 4, 2) := by decide +kernel
theorem dX12_putMany_5 : decode cX12_putMany 5 = .ok (.iload_n 3, 1) := by decide +kernel
theorem dX12_putMany_6 : decode cX12_putMany 6 = .ok (.if_icmp .ge 21, 3) := by decide +kernel
theorem dX12_putMany_9 : decode cX12_putMany 9 = .ok (.aload_n 0, 1) := by decide +kernel
theorem dX12_putMany_10 : decode cX12_putMany 10 = .ok (.iload_n 1, 1) := by decide +kernel
theorem dX12_putMany_11 : decode cX12_putMany 11 = .ok (.iload_n 2, 1) := by decide +kernel
theorem dX12_putMany_12 : decode cX12_putMany 12 = .ok (.bipush 8, 2) := by decide +kernel
theorem dX12_putMany_14 : decode cX12_putMany 14 = .ok (.iload 4, 2) := by decide +kernel
theorem dX12_putMany_16 : decode cX12_putMany 16 = .ok (.imul, 1) := by decide +kernel
theorem dX12_putMany_17 : decode cX12_putMany 17 = .ok (.ishr, 1) := by decide +kernel
theorem dX12_putMany_18 : decode cX12_putMany 18 = .ok (.invokevirtual 328, 3) := by decide +kernel
theorem dX12_putMany_21 : decode cX12_putMany 21 = .ok (.iinc 4 1, 3) := by decide +kernel
theorem dX12_putMany_24 : decode cX12_putMany 24 = .ok (.goto (-21), 3) := by decide +kernel
theorem dX12_putMany_27 : decode cX12_putMany 27 = .ok (.return_, 1) := by decide +kernel
theorem dX12_lay_0 : decode cX12_lay 0 = .ok (.aload_n 0, 1) := by decide +kernel
theorem dX12_lay_1 : decode cX12_lay 1 = .ok (.getfield 156, 3) := by decide +kernel
theorem dX12_lay_4 : decode cX12_lay 4 = .ok (.iconst 1, 1) := by decide +kernel
theorem dX12_lay_5 : decode cX12_lay 5 = .ok (.if_icmp .lt 23, 3) := by decide +kernel
theorem dX12_lay_8 : decode cX12_lay 8 = .ok (.aload_n 0, 1) := by decide +kernel
theorem dX12_lay_9 : decode cX12_lay 9 = .ok (.getfield 156, 3) := by decide +kernel
theorem dX12_lay_12 : decode cX12_lay 12 = .ok (.iconst 4, 1) := by decide +kernel
theorem dX12_lay_13 : decode cX12_lay 13 = .ok (.if_icmp .ge 15, 3) := by decide +kernel
theorem dX12_lay_16 : decode cX12_lay 16 = .ok (.aload_n 0, 1) := by decide +kernel
theorem dX12_lay_17 : decode cX12_lay 17 = .ok (.aload_n 0, 1) := by decide +kernel
theorem dX12_lay_18 : decode cX12_lay 18 = .ok (.getfield 156, 3) := by decide +kernel
theorem dX12_lay_21 : decode cX12_lay 21 = .ok (.iconst 1, 1) := by decide +kernel
theorem dX12_lay_22 : decode cX12_lay 22 = .ok (.isub, 1) := by decide +kernel
theorem dX12_lay_23 : decode cX12_lay 23 = .ok (.putfield 325, 3) := by decide +kernel
theorem dX12_lay_26 : decode cX12_lay 26 = .ok (.iconst 0, 1) := by decide +kernel
theorem dX12_lay_27 : decode cX12_lay 27 = .ok (.ireturn, 1) := by decide +kernel
theorem dX12_lay_28 : decode cX12_lay 28 = .ok (.aload_n 0, 1) := by decide +kernel
theorem dX12_lay_29 : decode cX12_lay 29 = .ok (.getfield 156, 3) := by decide +kernel
theorem dX12_lay_32 : decode cX12_lay 32 = .ok (.ifCond .eq 11, 3) := by decide +kernel
theorem dX12_lay_35 : decode cX12_lay 35 = .ok (.aload_n 0, 1) := by decide +kernel
theorem dX12_lay_36 : decode cX12_lay 36 = .ok (.getfield 156, 3) := by decide +kernel
theorem dX12_lay_39 : decode cX12_lay 39 = .ok (.iconst 4, 1) := by decide +kernel
theorem dX12_lay_40 : decode cX12_lay 40 = .ok (.if_icmp .ne 5, 3) := by decide +kernel
theorem dX12_lay_43 : decode cX12_lay 43 = .ok (.iconst 0, 1) := by decide +kernel
theorem dX12_lay_44 : decode cX12_lay 44 = .ok (.ireturn, 1) := by decide +kernel
theorem dX12_lay_45 : decode cX12_lay 45 = .ok (.iconst 3, 1) := by decide +kernel
theorem dX12_lay_46 : decode cX12_lay 46 = .ok (.iload_n 1, 1) := by decide +kernel
theorem dX12_lay_47 : decode cX12_lay 47 = .ok (.imul, 1) := by decide +kernel
theorem dX12_lay_48 : decode cX12_lay 48 = .ok (.aload_n 0, 1) := by decide +kernel
theorem dX12_lay_49 : decode cX12_lay 49 = .ok (.getfield 325, 3) := by decide +kernel
theorem dX12_lay_52 : decode cX12_lay 52 = .ok (.iadd, 1) := by decide +kernel
theorem dX12_lay_53 : decode cX12_lay 53 = .ok (.istore_n 2, 1) := by decide +kernel
theorem dX12_lay_54 : decode cX12_lay 54 = .ok (.aload_n 0, 1) := by decide +kernel
theorem dX12_lay_55 : decode cX12_lay 55 = .ok (.getfield 156, 3) := by decide +kernel
theorem dX12_lay_58 : decode cX12_lay 58 = .ok (.bipush 10, 2) := by decide +kernel
theorem dX12_lay_60 : decode cX12_lay 60 = .ok (.if_icmp .lt 7, 3) := by decide +kernel
theorem dX12_lay_63 : decode cX12_lay 63 = .ok (.iconst 1, 1) := by decide +kernel
theorem dX12_lay_64 : decode cX12_lay 64 = .ok (.goto 4, 3) := by decide +kernel
theorem dX12_lay_67 : decode cX12_lay 67 = .ok (.iconst 0, 1) := by decide +kernel
theorem dX12_lay_68 : decode cX12_lay 68 = .ok (.istore_n 3, 1) := by decide +kernel
theorem dX12_lay_69 : decode cX12_lay 69 = .ok (.aload_n 0, 1) := by decide +kernel
theorem dX12_lay_70 : decode cX12_lay 70 = .ok (.getfield 156, 3) := by decide +kernel
theorem dX12_lay_73 : decode cX12_lay 73 = .ok (.bipush 8, 2) := by decide +kernel
theorem dX12_lay_75 : decode cX12_lay 75 = .ok (.if_icmp .eq 12, 3) := by decide +kernel
theorem dX12_lay_78 : decode cX12_lay 78 = .ok (.aload_n 0, 1) := by decide +kernel
theorem dX12_lay_79 : decode cX12_lay 79 = .ok (.getfield 156, 3) := by decide +kernel
theorem dX12_lay_82 : decode cX12_lay 82 = .ok (.bipush 9, 2) := by decide +kernel
theorem dX12_lay_84 : decode cX12_lay 84 = .ok (.if_icmp .ne 7, 3) := by decide +kernel
theorem dX12_lay_87 : decode cX12_lay 87 = .ok (.iconst 1, 1) := by decide +kernel
theorem dX12_lay_88 : decode cX12_lay 88 = .ok (.goto 4, 3) := by decide +kernel
theorem dX12_lay_91 : decode cX12_lay 91 = .ok (.iconst 0, 1) := by decide +kernel
theorem dX12_lay_92 : decode cX12_lay 92 = .ok (.istore 4, 2) := by decide +kernel
theorem dX12_lay_94 : decode cX12_lay 94 = .ok (.iload_n 3, 1) := by decide +kernel
theorem dX12_lay_95 : decode cX12_lay 95 = .ok (.ifCond .eq 13, 3) := by decide +kernel
theorem dX12_lay_98 : decode cX12_lay 98 = .ok (.aload_n 0, 1) := by decide +kernel
theorem dX12_lay_99 : decode cX12_lay 99 = .ok (.getfield 325, 3) := by decide +kernel
theorem dX12_lay_102 : decode cX12_lay 102 = .ok (.ifCond .eq 22, 3) := by decide +kernel
theorem dX12_lay_105 : decode cX12_lay 105 = .ok (.goto 16, 3) := by decide +kernel
theorem dX12_lay_108 : decode cX12_lay 108 = .ok (.aload_n 0, 1) := by decide +kernel
theorem dX12_lay_109 : decode cX12_lay 109 = .ok (.getfield 325, 3) := by decide +kernel
theorem dX12_lay_112 : decode cX12_lay 112 = .ok (.iconst 2, 1) := by decide +kernel
theorem dX12_lay_113 : decode cX12_lay 113 = .ok (.if_icmp .ne 11, 3) := by decide +kernel
theorem dX12_lay_116 : decode cX12_lay 116 = .ok (.iload 4, 2) := by decide +kernel
theorem dX12_lay_118 : decode cX12_lay 118 = .ok (.ifCond .ne 6, 3) := by decide +kernel
theorem dX12_lay_121 : decode cX12_lay 121 = .ok (.bipush (-5), 2) := by decide +kernel
theorem dX12_lay_123 : decode cX12_lay 123 = .ok (.ireturn, 1) := by decide +kernel
theorem dX12_lay_124 : decode cX12_lay 124 = .ok (.aload_n 0, 1) := by decide +kernel
theorem dX12_lay_125 : decode cX12_lay 125 = .ok (.getfield 156, 3) := by decide +kernel
theorem dX12_lay_128 : decode cX12_lay 128 = .ok (.iconst 5, 1) := by decide +kernel
theorem dX12_lay_129 : decode cX12_lay 129 = .ok (.if_icmp .eq 12, 3) := by decide +kernel
theorem dX12_lay_132 : decode cX12_lay 132 = .ok (.aload_n 0, 1) := by decide +kernel
theorem dX12_lay_133 : decode cX12_lay 133 = .ok (.getfield 156, 3) := by decide +kernel
theorem dX12_lay_136 : decode cX12_lay 136 = .ok (.bipush 6, 2) := by decide +kernel
theorem dX12_lay_138 : decode cX12_lay 138 = .ok (.if_icmp .ne 7, 3) := by decide +kernel
theorem dX12_lay_141 : decode cX12_lay 141 = .ok (.iconst 1, 1) := by decide +kernel
theorem dX12_lay_142 : decode cX12_lay 142 = .ok (.goto 4, 3) := by decide +kernel
theorem dX12_lay_145 : decode cX12_lay 145 = .ok (.iconst 0, 1) := by decide +kernel
theorem dX12_lay_146 : decode cX12_lay 146 = .ok (.istore 5, 2) := by decide +kernel
theorem dX12_lay_148 : decode cX12_lay 148 = .ok (.iload_n 3, 1) := by decide +kernel
theorem dX12_lay_149 : decode cX12_lay 149 = .ok (.ifCond .eq 14, 3) := by decide +kernel
theorem dX12_lay_152 : decode cX12_lay 152 = .ok (.aload_n 0, 1) := by decide +kernel
theorem dX12_lay_153 : decode cX12_lay 153 = .ok (.getfield 39, 3) := by decide +kernel
theorem dX12_lay_156 : decode cX12_lay 156 = .ok (.iload_n 2, 1) := by decide +kernel
theorem dX12_lay_157 : decode cX12_lay 157 = .ok (.iaload, 1) := by decide +kernel
theorem dX12_lay_158 : decode cX12_lay 158 = .ok (.iconst 2, 1) := by decide +kernel
theorem dX12_lay_159 : decode cX12_lay 159 = .ok (.irem, 1) := by decide +kernel
theorem dX12_lay_160 : decode cX12_lay 160 = .ok (.ifCond .ne 19, 3) := by decide +kernel
theorem dX12_lay_163 : decode cX12_lay 163 = .ok (.iload 5, 2) := by decide +kernel
theorem dX12_lay_165 : decode cX12_lay 165 = .ok (.ifCond .eq 17, 3) := by decide +kernel
theorem dX12_lay_168 : decode cX12_lay 168 = .ok (.aload_n 0, 1) := by decide +kernel
theorem dX12_lay_169 : decode cX12_lay 169 = .ok (.getfield 39, 3) := by decide +kernel
theorem dX12_lay_172 : decode cX12_lay 172 = .ok (.iload_n 2, 1) := by decide +kernel
theorem dX12_lay_173 : decode cX12_lay 173 = .ok (.iaload, 1) := by decide +kernel
theorem dX12_lay_174 : decode cX12_lay 174 = .ok (.iconst 4, 1) := by decide +kernel
theorem dX12_lay_175 : decode cX12_lay 175 = .ok (.irem, 1) := by decide +kernel
theorem dX12_lay_176 : decode cX12_lay 176 = .ok (.ifCond .eq 6, 3) := by decide +kernel
theorem dX12_lay_179 : decode cX12_lay 179 = .ok (.bipush (-6), 2) := by decide +kernel
theorem dX12_lay_181 : decode cX12_lay 181 = .ok (.ireturn, 1) := by decide +kernel
theorem dX12_lay_182 : decode cX12_lay 182 = .ok (.aload_n 0, 1) := by decide +kernel
theorem dX12_lay_183 : decode cX12_lay 183 = .ok (.getfield 156, 3) := by decide +kernel
theorem dX12_lay_186 : decode cX12_lay 186 = .ok (.bipush 9, 2) := by decide +kernel
theorem dX12_lay_188 : decode cX12_lay 188 = .ok (.if_icmp .ne 23, 3) := by decide +kernel
theorem dX12_lay_191 : decode cX12_lay 191 = .ok (.aload_n 0, 1) := by decide +kernel
theorem dX12_lay_192 : decode cX12_lay 192 = .ok (.getfield 39, 3) := by decide +kernel
theorem dX12_lay_195 : decode cX12_lay 195 = .ok (.iload_n 2, 1) := by decide +kernel
theorem dX12_lay_196 : decode cX12_lay 196 = .ok (.iaload, 1) := by decide +kernel
theorem dX12_lay_197 : decode cX12_lay 197 = .ok (.iconst 4, 1) := by decide +kernel
theorem dX12_lay_198 : decode cX12_lay 198 = .ok (.irem, 1) := by decide +kernel
theorem dX12_lay_199 : decode cX12_lay 199 = .ok (.ifCond .eq 110, 3) := by decide +kernel
theorem dX12_lay_202 : decode cX12_lay 202 = .ok (.aload_n 0, 1) := by decide +kernel
theorem dX12_lay_203 : decode cX12_lay 203 = .ok (.iload_n 2, 1) := by decide +kernel
theorem dX12_lay_204 : decode cX12_lay 204 = .ok (.iconst 0, 1) := by decide +kernel
theorem dX12_lay_205 : decode cX12_lay 205 = .ok (.invokevirtual 328, 3) := by decide +kernel
theorem dX12_lay_208 : decode cX12_lay 208 = .ok (.goto (-17), 3) := by decide +kernel
theorem dX12_lay_211 : decode cX12_lay 211 = .ok (.aload_n 0, 1) := by decide +kernel
theorem dX12_lay_212 : decode cX12_lay 212 = .ok (.getfield 156, 3) := by decide +kernel
theorem dX12_lay_215 : decode cX12_lay 215 = .ok (.bipush 8, 2) := by decide +kernel
theorem dX12_lay_217 : decode cX12_lay 217 = .ok (.if_icmp .ne 30, 3) := by decide +kernel
theorem dX12_lay_220 : decode cX12_lay 220 = .ok (.iconst 0, 1) := by decide +kernel
theorem dX12_lay_221 : decode cX12_lay 221 = .ok (.istore 6, 2) := by decide +kernel
theorem dX12_lay_223 : decode cX12_lay 223 = .ok (.iload 6, 2) := by decide +kernel
theorem dX12_lay_225 : decode cX12_lay 225 = .ok (.aload_n 0, 1) := by decide +kernel
theorem dX12_lay_226 : decode cX12_lay 226 = .ok (.getfield 193, 3) := by decide +kernel
theorem dX12_lay_229 : decode cX12_lay 229 = .ok (.if_icmp .ge 15, 3) := by decide +kernel
theorem dX12_lay_232 : decode cX12_lay 232 = .ok (.aload_n 0, 1) := by decide +kernel
theorem dX12_lay_233 : decode cX12_lay 233 = .ok (.iload_n 2, 1) := by decide +kernel
theorem dX12_lay_234 : decode cX12_lay 234 = .ok (.iconst 0, 1) := by decide +kernel
theorem dX12_lay_235 : decode cX12_lay 235 = .ok (.invokevirtual 328, 3) := by decide +kernel
theorem dX12_lay_238 : decode cX12_lay 238 = .ok (.iinc 6 1, 3) := by decide +kernel
theorem dX12_lay_241 : decode cX12_lay 241 = .ok (.goto (-18), 3) := by decide +kernel
theorem dX12_lay_244 : decode cX12_lay 244 = .ok (.goto 65, 3) := by decide +kernel
theorem dX12_lay_247 : decode cX12_lay 247 = .ok (.aload_n 0, 1) := by decide +kernel
theorem dX12_lay_248 : decode cX12_lay 248 = .ok (.getfield 156, 3) := by decide +kernel
theorem dX12_lay_251 : decode cX12_lay 251 = .ok (.bipush 7, 2) := by decide +kernel
theorem dX12_lay_253 : decode cX12_lay 253 = .ok (.if_icmp .ne 15, 3) := by decide +kernel
theorem dX12_lay_256 : decode cX12_lay 256 = .ok (.aload_n 0, 1) := by decide +kernel
theorem dX12_lay_257 : decode cX12_lay 257 = .ok (.iload_n 2, 1) := by decide +kernel
theorem dX12_lay_258 : decode cX12_lay 258 = .ok (.aload_n 0, 1) := by decide +kernel
theorem dX12_lay_259 : decode cX12_lay 259 = .ok (.getfield 193, 3) := by decide +kernel
theorem dX12_lay_262 : decode cX12_lay 262 = .ok (.invokevirtual 328, 3) := by decide +kernel
theorem dX12_lay_265 : decode cX12_lay 265 = .ok (.goto 44, 3) := by decide +kernel
theorem dX12_lay_268 : decode cX12_lay 268 = .ok (.iload 5, 2) := by decide +kernel
theorem dX12_lay_270 : decode cX12_lay 270 = .ok (.ifCond .eq 16, 3) := by decide +kernel
theorem dX12_lay_273 : decode cX12_lay 273 = .ok (.aload_n 0, 1) := by decide +kernel
theorem dX12_lay_274 : decode cX12_lay 274 = .ok (.iload_n 2, 1) := by decide +kernel
theorem dX12_lay_275 : decode cX12_lay 275 = .ok (.aload_n 0, 1) := by decide +kernel
theorem dX12_lay_276 : decode cX12_lay 276 = .ok (.getfield 193, 3) := by decide +kernel
theorem dX12_lay_279 : decode cX12_lay 279 = .ok (.iconst 4, 1) := by decide +kernel
theorem dX12_lay_280 : decode cX12_lay 280 = .ok (.invokevirtual 331, 3) := by decide +kernel
theorem dX12_lay_283 : decode cX12_lay 283 = .ok (.goto 26, 3) := by decide +kernel
theorem dX12_lay_286 : decode cX12_lay 286 = .ok (.aload_n 0, 1) := by decide +kernel
theorem dX12_lay_287 : decode cX12_lay 287 = .ok (.iload_n 2, 1) := by decide +kernel
theorem dX12_lay_288 : decode cX12_lay 288 = .ok (.aload_n 0, 1) := by decide +kernel
theorem dX12_lay_289 : decode cX12_lay 289 = .ok (.getfield 159, 3) := by decide +kernel
theorem dX12_lay_292 : decode cX12_lay 292 = .ok (.aload_n 0, 1) := by decide +kernel
theorem dX12_lay_293 : decode cX12_lay 293 = .ok (.getfield 156, 3) := by decide +kernel
theorem dX12_lay_296 : decode cX12_lay 296 = .ok (.bipush 13, 2) := by decide +kernel
theorem dX12_lay_298 : decode cX12_lay 298 = .ok (.if_icmp .ne 7, 3) := by decide +kernel
theorem dX12_lay_301 : decode cX12_lay 301 = .ok (.iconst 4, 1) := by decide +kernel
theorem dX12_lay_302 : decode cX12_lay 302 = .ok (.goto 4, 3) := by decide +kernel
theorem dX12_lay_305 : decode cX12_lay 305 = .ok (.iconst 2, 1) := by decide +kernel
theorem dX12_lay_306 : decode cX12_lay 306 = .ok (.invokevirtual 331, 3) := by decide +kernel
theorem dX12_lay_309 : decode cX12_lay 309 = .ok (.aload_n 0, 1) := by decide +kernel
theorem dX12_lay_310 : decode cX12_lay 310 = .ok (.getfield 39, 3) := by decide +kernel
theorem dX12_lay_313 : decode cX12_lay 313 = .ok (.iload_n 2, 1) := by decide +kernel
theorem dX12_lay_314 : decode cX12_lay 314 = .ok (.iaload, 1) := by decide +kernel
theorem dX12_lay_315 : decode cX12_lay 315 = .ok (.sipush 1024, 3) := by decide +kernel
theorem dX12_lay_318 : decode cX12_lay 318 = .ok (.if_icmp .le 8, 3) := by decide +kernel
theorem dX12_lay_321 : decode cX12_lay 321 = .ok (.bipush (-7), 2) := by decide +kernel
theorem dX12_lay_323 : decode cX12_lay 323 = .ok (.goto 4, 3) := by decide +kernel
theorem dX12_lay_326 : decode cX12_lay 326 = .ok (.iconst 0, 1) := by decide +kernel
theorem dX12_lay_327 : decode cX12_lay 327 = .ok (.ireturn, 1) := by decide +kernel
theorem dX12_report_0 : decode cX12_report 0 = .ok (.aload_n 0, 1) := by decide +kernel
theorem dX12_report_1 : decode cX12_report 1 = .ok (.getfield 60, 3) := by decide +kernel
theorem dX12_report_4 : decode cX12_report 4 = .ok (.iconst 0, 1) := by decide +kernel
theorem dX12_report_5 : decode cX12_report 5 = .ok (.iload_n 2, 1) := by decide +kernel
theorem dX12_report_6 : decode cX12_report 6 = .ok (.iastore, 1) := by decide +kernel
theorem dX12_report_7 : decode cX12_report 7 = .ok (.aload_n 0, 1) := by decide +kernel
theorem dX12_report_8 : decode cX12_report 8 = .ok (.getfield 60, 3) := by decide +kernel
theorem dX12_report_11 : decode cX12_report 11 = .ok (.iconst 1, 1) := by decide +kernel
theorem dX12_report_12 : decode cX12_report 12 = .ok (.iload_n 3, 1) := by decide +kernel
theorem dX12_report_13 : decode cX12_report 13 = .ok (.iastore, 1) := by decide +kernel
theorem dX12_report_14 : decode cX12_report 14 = .ok (.aload_n 0, 1) := by decide +kernel
theorem dX12_report_15 : decode cX12_report 15 = .ok (.getfield 60, 3) := by decide +kernel
theorem dX12_report_18 : decode cX12_report 18 = .ok (.iconst 2, 1) := by decide +kernel
theorem dX12_report_19 : decode cX12_report 19 = .ok (.iload 4, 2) := by decide +kernel
theorem dX12_report_21 : decode cX12_report 21 = .ok (.iastore, 1) := by decide +kernel
theorem dX12_report_22 : decode cX12_report 22 = .ok (.iload_n 1, 1) := by decide +kernel
theorem dX12_report_23 : decode cX12_report 23 = .ok (.ireturn, 1) := by decide +kernel
theorem dX12_firstPass_0 : decode cX12_firstPass 0 = .ok (.aload_n 0, 1) := by decide +kernel
theorem dX12_firstPass_1 : decode cX12_firstPass 1 = .ok (.iconst 0, 1) := by decide +kernel
theorem dX12_firstPass_2 : decode cX12_firstPass 2 = .ok (.putfield 319, 3) := by decide +kernel
theorem dX12_firstPass_5 : decode cX12_firstPass 5 = .ok (.iconst 0, 1) := by decide +kernel
theorem dX12_firstPass_6 : decode cX12_firstPass 6 = .ok (.istore_n 1, 1) := by decide +kernel
theorem dX12_firstPass_7 : decode cX12_firstPass 7 = .ok (.iload_n 1, 1) := by decide +kernel
theorem dX12_firstPass_8 : decode cX12_firstPass 8 = .ok (.bipush 12, 2) := by decide +kernel
theorem dX12_firstPass_10 : decode cX12_firstPass 10 = .ok (.if_icmp .ge 16, 3) := by decide +kernel
theorem dX12_firstPass_13 : decode cX12_firstPass 13 = .ok (.aload_n 0, 1) := by decide +kernel
theorem dX12_firstPass_14 : decode cX12_firstPass 14 = .ok (.getfield 39, 3) := by decide +kernel
theorem dX12_firstPass_17 : decode cX12_firstPass 17 = .ok (.iload_n 1, 1) := by decide +kernel
theorem dX12_firstPass_18 : decode cX12_firstPass 18 = .ok (.iconst 0, 1) := by decide +kernel
theorem dX12_firstPass_19 : decode cX12_firstPass 19 = .ok (.iastore, 1) := by decide +kernel
theorem dX12_firstPass_20 : decode cX12_firstPass 20 = .ok (.iinc 1 1, 3) := by decide +kernel
theorem dX12_firstPass_23 : decode cX12_firstPass 23 = .ok (.goto (-16), 3) := by decide +kernel
theorem dX12_firstPass_26 : decode cX12_firstPass 26 = .ok (.iconst 0, 1) := by decide +kernel
theorem dX12_firstPass_27 : decode cX12_firstPass 27 = .ok (.istore_n 1, 1) := by decide +kernel
theorem dX12_firstPass_28 : decode cX12_firstPass 28 = .ok (.iload_n 1, 1) := by decide +kernel
theorem dX12_firstPass_29 : decode cX12_firstPass 29 = .ok (.iconst 4, 1) := by decide +kernel
theorem dX12_firstPass_30 : decode cX12_firstPass 30 = .ok (.if_icmp .ge 103, 3) := by decide +kernel
theorem dX12_firstPass_33 : decode cX12_firstPass 33 = .ok (.aload_n 0, 1) := by decide +kernel
theorem dX12_firstPass_34 : decode cX12_firstPass 34 = .ok (.iconst 0, 1) := by decide +kernel
theorem dX12_firstPass_35 : decode cX12_firstPass 35 = .ok (.putfield 325, 3) := by decide +kernel
theorem dX12_firstPass_38 : decode cX12_firstPass 38 = .ok (.iconst 0, 1) := by decide +kernel
theorem dX12_firstPass_39 : decode cX12_firstPass 39 = .ok (.istore_n 2, 1) := by decide +kernel
theorem dX12_firstPass_40 : decode cX12_firstPass 40 = .ok (.iload_n 2, 1) := by decide +kernel
theorem dX12_firstPass_41 : decode cX12_firstPass 41 = .ok (.aload_n 0, 1) := by decide +kernel
theorem dX12_firstPass_42 : decode cX12_firstPass 42 = .ok (.getfield 13, 3) := by decide +kernel
theorem dX12_firstPass_45 : decode cX12_firstPass 45 = .ok (.iload_n 1, 1) := by decide +kernel
theorem dX12_firstPass_46 : decode cX12_firstPass 46 = .ok (.iaload, 1) := by decide +kernel
theorem dX12_firstPass_47 : decode cX12_firstPass 47 = .ok (.if_icmp .ge 80, 3) := by decide +kernel
theorem dX12_firstPass_50 : decode cX12_firstPass 50 = .ok (.aload_n 0, 1) := by decide +kernel
theorem dX12_firstPass_51 : decode cX12_firstPass 51 = .ok (.iload_n 1, 1) := by decide +kernel
theorem dX12_firstPass_52 : decode cX12_firstPass 52 = .ok (.iload_n 2, 1) := by decide +kernel
theorem dX12_firstPass_53 : decode cX12_firstPass 53 = .ok (.iconst 1, 1) := by decide +kernel
theorem dX12_firstPass_54 : decode cX12_firstPass 54 = .ok (.invokevirtual 334, 3) := by decide +kernel
theorem dX12_firstPass_57 : decode cX12_firstPass 57 = .ok (.aload_n 0, 1) := by decide +kernel
theorem dX12_firstPass_58 : decode cX12_firstPass 58 = .ok (.getfield 100, 3) := by decide +kernel
theorem dX12_firstPass_61 : decode cX12_firstPass 61 = .ok (.ifCond .eq 18, 3) := by decide +kernel
theorem dX12_firstPass_64 : decode cX12_firstPass 64 = .ok (.aload_n 0, 1) := by decide +kernel
theorem dX12_firstPass_65 : decode cX12_firstPass 65 = .ok (.aload_n 0, 1) := by decide +kernel
theorem dX12_firstPass_66 : decode cX12_firstPass 66 = .ok (.getfield 100, 3) := by decide +kernel
theorem dX12_firstPass_69 : decode cX12_firstPass 69 = .ok (.iload_n 1, 1) := by decide +kernel
theorem dX12_firstPass_70 : decode cX12_firstPass 70 = .ok (.iload_n 2, 1) := by decide +kernel
theorem dX12_firstPass_71 : decode cX12_firstPass 71 = .ok (.aload_n 0, 1) := by decide +kernel
theorem dX12_firstPass_72 : decode cX12_firstPass 72 = .ok (.getfield 106, 3) := by decide +kernel
theorem dX12_firstPass_75 : decode cX12_firstPass 75 = .ok (.invokevirtual 337, 3) := by decide +kernel
theorem dX12_firstPass_78 : decode cX12_firstPass 78 = .ok (.ireturn, 1) := by decide +kernel
theorem dX12_firstPass_79 : decode cX12_firstPass 79 = .ok (.aload_n 0, 1) := by decide +kernel
theorem dX12_firstPass_80 : decode cX12_firstPass 80 = .ok (.getfield 294, 3) := by decide +kernel
theorem dX12_firstPass_83 : decode cX12_firstPass 83 = .ok (.ifCond .lt 8, 3) := by decide +kernel
theorem dX12_firstPass_86 : decode cX12_firstPass 86 = .ok (.aload_n 0, 1) := by decide +kernel
theorem dX12_firstPass_87 : decode cX12_firstPass 87 = .ok (.iload_n 1, 1) := by decide +kernel
theorem dX12_firstPass_88 : decode cX12_firstPass 88 = .ok (.invokevirtual 340, 3) := by decide +kernel
theorem dX12_firstPass_91 : decode cX12_firstPass 91 = .ok (.aload_n 0, 1) := by decide +kernel
theorem dX12_firstPass_92 : decode cX12_firstPass 92 = .ok (.iload_n 1, 1) := by decide +kernel
theorem dX12_firstPass_93 : decode cX12_firstPass 93 = .ok (.invokevirtual 343, 3) := by decide +kernel
theorem dX12_firstPass_96 : decode cX12_firstPass 96 = .ok (.istore_n 3, 1) := by decide +kernel
theorem dX12_firstPass_97 : decode cX12_firstPass 97 = .ok (.iload_n 3, 1) := by decide +kernel
theorem dX12_firstPass_98 : decode cX12_firstPass 98 = .ok (.ifCond .eq 23, 3) := by decide +kernel
theorem dX12_firstPass_101 : decode cX12_firstPass 101 = .ok (.aload_n 0, 1) := by decide +kernel
theorem dX12_firstPass_102 : decode cX12_firstPass 102 = .ok (.iload_n 3, 1) := by decide +kernel
theorem dX12_firstPass_103 : decode cX12_firstPass 103 = .ok (.iload_n 1, 1) := by decide +kernel
theorem dX12_firstPass_104 : decode cX12_firstPass 104 = .ok (.iload_n 2, 1) := by decide +kernel
theorem dX12_firstPass_105 : decode cX12_firstPass 105 = .ok (.aload_n 0, 1) := by decide +kernel
theorem dX12_firstPass_106 : decode cX12_firstPass 106 = .ok (.getfield 304, 3) := by decide +kernel
theorem dX12_firstPass_109 : decode cX12_firstPass 109 = .ok (.bipush 48, 2) := by decide +kernel
theorem dX12_firstPass_111 : decode cX12_firstPass 111 = .ok (.aload_n 0, 1) := by decide +kernel
theorem dX12_firstPass_112 : decode cX12_firstPass 112 = .ok (.getfield 103, 3) := by decide +kernel
theorem dX12_firstPass_115 : decode cX12_firstPass 115 = .ok (.imul, 1) := by decide +kernel
theorem dX12_firstPass_116 : decode cX12_firstPass 116 = .ok (.isub, 1) := by decide +kernel
theorem dX12_firstPass_117 : decode cX12_firstPass 117 = .ok (.invokevirtual 337, 3) := by decide +kernel
theorem dX12_firstPass_120 : decode cX12_firstPass 120 = .ok (.ireturn, 1) := by decide +kernel
theorem dX12_firstPass_121 : decode cX12_firstPass 121 = .ok (.iinc 2 1, 3) := by decide +kernel
theorem dX12_firstPass_124 : decode cX12_firstPass 124 = .ok (.goto (-84), 3) := by decide +kernel
theorem dX12_firstPass_127 : decode cX12_firstPass 127 = .ok (.iinc 1 1, 3) := by decide +kernel
theorem dX12_firstPass_130 : decode cX12_firstPass 130 = .ok (.goto (-102), 3) := by decide +kernel
theorem dX12_firstPass_133 : decode cX12_firstPass 133 = .ok (.iconst 0, 1) := by decide +kernel
theorem dX12_firstPass_134 : decode cX12_firstPass 134 = .ok (.ireturn, 1) := by decide +kernel
theorem dX12_isGlobalName_0 : decode cX12_isGlobalName 0 = .ok (.aload_n 0, 1) := by decide +kernel
theorem dX12_isGlobalName_1 : decode cX12_isGlobalName 1 = .ok (.iload_n 1, 1) := by decide +kernel
theorem dX12_isGlobalName_2 : decode cX12_isGlobalName 2 = .ok (.iload_n 2, 1) := by decide +kernel
theorem dX12_isGlobalName_3 : decode cX12_isGlobalName 3 = .ok (.invokevirtual 347, 3) := by decide +kernel
theorem dX12_isGlobalName_6 : decode cX12_isGlobalName 6 = .ok (.ifCond .lt 7, 3) := by decide +kernel
theorem dX12_isGlobalName_9 : decode cX12_isGlobalName 9 = .ok (.iconst 1, 1) := by decide +kernel
theorem dX12_isGlobalName_10 : decode cX12_isGlobalName 10 = .ok (.goto 4, 3) := by decide +kernel
theorem dX12_isGlobalName_13 : decode cX12_isGlobalName 13 = .ok (.iconst 0, 1) := by decide +kernel
theorem dX12_isGlobalName_14 : decode cX12_isGlobalName 14 = .ok (.ireturn, 1) := by decide +kernel
theorem dX12_globalOf_0 : decode cX12_globalOf 0 = .ok (.iconst 0, 1) := by decide +kernel
theorem dX12_globalOf_1 : decode cX12_globalOf 1 = .ok (.istore_n 3, 1) := by decide +kernel
theorem dX12_globalOf_2 : decode cX12_globalOf 2 = .ok (.iload_n 3, 1) := by decide +kernel
theorem dX12_globalOf_3 : decode cX12_globalOf 3 = .ok (.iconst 4, 1) := by decide +kernel
theorem dX12_globalOf_4 : decode cX12_globalOf 4 = .ok (.if_icmp .ge 37, 3) := by decide +kernel
theorem dX12_globalOf_7 : decode cX12_globalOf 7 = .ok (.aload_n 0, 1) := by decide +kernel
theorem dX12_globalOf_8 : decode cX12_globalOf 8 = .ok (.iload_n 3, 1) := by decide +kernel
theorem dX12_globalOf_9 : decode cX12_globalOf 9 = .ok (.iload_n 1, 1) := by decide +kernel
theorem dX12_globalOf_10 : decode cX12_globalOf 10 = .ok (.iload_n 2, 1) := by decide +kernel
theorem dX12_globalOf_11 : decode cX12_globalOf 11 = .ok (.iconst 0, 1) := by decide +kernel
theorem dX12_globalOf_12 : decode cX12_globalOf 12 = .ok (.invokevirtual 300, 3) := by decide +kernel
theorem dX12_globalOf_15 : decode cX12_globalOf 15 = .ok (.istore 4, 2) := by decide +kernel
theorem dX12_globalOf_17 : decode cX12_globalOf 17 = .ok (.iload 4, 2) := by decide +kernel
theorem dX12_globalOf_19 : decode cX12_globalOf 19 = .ok (.ifCond .lt 16, 3) := by decide +kernel
theorem dX12_globalOf_22 : decode cX12_globalOf 22 = .ok (.aload_n 0, 1) := by decide +kernel
theorem dX12_globalOf_23 : decode cX12_globalOf 23 = .ok (.getfield 35, 3) := by decide +kernel
theorem dX12_globalOf_26 : decode cX12_globalOf 26 = .ok (.iload 4, 2) := by decide +kernel
theorem dX12_globalOf_28 : decode cX12_globalOf 28 = .ok (.baload, 1) := by decide +kernel
theorem dX12_globalOf_29 : decode cX12_globalOf 29 = .ok (.ifCond .eq 6, 3) := by decide +kernel
theorem dX12_globalOf_32 : decode cX12_globalOf 32 = .ok (.iload 4, 2) := by decide +kernel
theorem dX12_globalOf_34 : decode cX12_globalOf 34 = .ok (.ireturn, 1) := by decide +kernel
theorem dX12_globalOf_35 : decode cX12_globalOf 35 = .ok (.iinc 3 1, 3) := by decide +kernel
theorem dX12_globalOf_38 : decode cX12_globalOf 38 = .ok (.goto (-36), 3) := by decide +kernel
theorem dX12_globalOf_41 : decode cX12_globalOf 41 = .ok (.iconst (-1), 1) := by decide +kernel
theorem dX12_globalOf_42 : decode cX12_globalOf 42 = .ok (.ireturn, 1) := by decide +kernel
theorem dX12_secondPass_0 : decode cX12_secondPass 0 = .ok (.iconst 0, 1) := by decide +kernel
theorem dX12_secondPass_1 : decode cX12_secondPass 1 = .ok (.istore_n 1, 1) := by decide +kernel
theorem dX12_secondPass_2 : decode cX12_secondPass 2 = .ok (.iload_n 1, 1) := by decide +kernel
theorem dX12_secondPass_3 : decode cX12_secondPass 3 = .ok (.iconst 4, 1) := by decide +kernel
theorem dX12_secondPass_4 : decode cX12_secondPass 4 = .ok (.if_icmp .ge 116, 3) := by decide +kernel
theorem dX12_secondPass_7 : decode cX12_secondPass 7 = .ok (.iconst 0, 1) := by decide +kernel
theorem dX12_secondPass_8 : decode cX12_secondPass 8 = .ok (.istore_n 2, 1) := by decide +kernel
theorem dX12_secondPass_9 : decode cX12_secondPass 9 = .ok (.iload_n 2, 1) := by decide +kernel
theorem dX12_secondPass_10 : decode cX12_secondPass 10 = .ok (.aload_n 0, 1) := by decide +kernel
theorem dX12_secondPass_11 : decode cX12_secondPass 11 = .ok (.getfield 13, 3) := by decide +kernel
theorem dX12_secondPass_14 : decode cX12_secondPass 14 = .ok (.iload_n 1, 1) := by decide +kernel
theorem dX12_secondPass_15 : decode cX12_secondPass 15 = .ok (.iaload, 1) := by decide +kernel
theorem dX12_secondPass_16 : decode cX12_secondPass 16 = .ok (.if_icmp .ge 98, 3) := by decide +kernel
theorem dX12_secondPass_19 : decode cX12_secondPass 19 = .ok (.aload_n 0, 1) := by decide +kernel
theorem dX12_secondPass_20 : decode cX12_secondPass 20 = .ok (.iload_n 1, 1) := by decide +kernel
theorem dX12_secondPass_21 : decode cX12_secondPass 21 = .ok (.iload_n 2, 1) := by decide +kernel
theorem dX12_secondPass_22 : decode cX12_secondPass 22 = .ok (.iconst 0, 1) := by decide +kernel
theorem dX12_secondPass_23 : decode cX12_secondPass 23 = .ok (.invokevirtual 334, 3) := by decide +kernel
theorem dX12_secondPass_26 : decode cX12_secondPass 26 = .ok (.aload_n 0, 1) := by decide +kernel
theorem dX12_secondPass_27 : decode cX12_secondPass 27 = .ok (.getfield 156, 3) := by decide +kernel
theorem dX12_secondPass_30 : decode cX12_secondPass 30 = .ok (.iconst 4, 1) := by decide +kernel
theorem dX12_secondPass_31 : decode cX12_secondPass 31 = .ok (.if_icmp .eq 6, 3) := by decide +kernel
theorem dX12_secondPass_34 : decode cX12_secondPass 34 = .ok (.goto 74, 3) := by decide +kernel
theorem dX12_secondPass_37 : decode cX12_secondPass 37 = .ok (.aload_n 0, 1) := by decide +kernel
theorem dX12_secondPass_38 : decode cX12_secondPass 38 = .ok (.iload_n 1, 1) := by decide +kernel
theorem dX12_secondPass_39 : decode cX12_secondPass 39 = .ok (.aload_n 0, 1) := by decide +kernel
theorem dX12_secondPass_40 : decode cX12_secondPass 40 = .ok (.getfield 142, 3) := by decide +kernel
theorem dX12_secondPass_43 : decode cX12_secondPass 43 = .ok (.aload_n 0, 1) := by decide +kernel
theorem dX12_secondPass_44 : decode cX12_secondPass 44 = .ok (.getfield 145, 3) := by decide +kernel
theorem dX12_secondPass_47 : decode cX12_secondPass 47 = .ok (.iconst 0, 1) := by decide +kernel
theorem dX12_secondPass_48 : decode cX12_secondPass 48 = .ok (.invokevirtual 300, 3) := by decide +kernel
theorem dX12_secondPass_51 : decode cX12_secondPass 51 = .ok (.istore_n 3, 1) := by decide +kernel
theorem dX12_secondPass_52 : decode cX12_secondPass 52 = .ok (.iload_n 3, 1) := by decide +kernel
theorem dX12_secondPass_53 : decode cX12_secondPass 53 = .ok (.ifCond .lt 18, 3) := by decide +kernel
theorem dX12_secondPass_56 : decode cX12_secondPass 56 = .ok (.aload_n 0, 1) := by decide +kernel
theorem dX12_secondPass_57 : decode cX12_secondPass 57 = .ok (.aload_n 0, 1) := by decide +kernel
theorem dX12_secondPass_58 : decode cX12_secondPass 58 = .ok (.getfield 142, 3) := by decide +kernel
theorem dX12_secondPass_61 : decode cX12_secondPass 61 = .ok (.aload_n 0, 1) := by decide +kernel
theorem dX12_secondPass_62 : decode cX12_secondPass 62 = .ok (.getfield 145, 3) := by decide +kernel
theorem dX12_secondPass_65 : decode cX12_secondPass 65 = .ok (.invokevirtual 350, 3) := by decide +kernel
theorem dX12_secondPass_68 : decode cX12_secondPass 68 = .ok (.ifCond .eq 33, 3) := by decide +kernel
theorem dX12_secondPass_71 : decode cX12_secondPass 71 = .ok (.aload_n 0, 1) := by decide +kernel
theorem dX12_secondPass_72 : decode cX12_secondPass 72 = .ok (.iload_n 3, 1) := by decide +kernel
theorem dX12_secondPass_73 : decode cX12_secondPass 73 = .ok (.ifCond .ge 8, 3) := by decide +kernel
theorem dX12_secondPass_76 : decode cX12_secondPass 76 = .ok (.bipush (-8), 2) := by decide +kernel
theorem dX12_secondPass_78 : decode cX12_secondPass 78 = .ok (.goto 5, 3) := by decide +kernel
theorem dX12_secondPass_81 : decode cX12_secondPass 81 = .ok (.bipush (-2), 2) := by decide +kernel
theorem dX12_secondPass_83 : decode cX12_secondPass 83 = .ok (.iload_n 1, 1) := by decide +kernel
theorem dX12_secondPass_84 : decode cX12_secondPass 84 = .ok (.iload_n 2, 1) := by decide +kernel
theorem dX12_secondPass_85 : decode cX12_secondPass 85 = .ok (.aload_n 0, 1) := by decide +kernel
theorem dX12_secondPass_86 : decode cX12_secondPass 86 = .ok (.getfield 142, 3) := by decide +kernel
theorem dX12_secondPass_89 : decode cX12_secondPass 89 = .ok (.bipush 48, 2) := by decide +kernel
theorem dX12_secondPass_91 : decode cX12_secondPass 91 = .ok (.aload_n 0, 1) := by decide +kernel
theorem dX12_secondPass_92 : decode cX12_secondPass 92 = .ok (.getfield 103, 3) := by decide +kernel
theorem dX12_secondPass_95 : decode cX12_secondPass 95 = .ok (.imul, 1) := by decide +kernel
theorem dX12_secondPass_96 : decode cX12_secondPass 96 = .ok (.isub, 1) := by decide +kernel
theorem dX12_secondPass_97 : decode cX12_secondPass 97 = .ok (.invokevirtual 337, 3) := by decide +kernel
theorem dX12_secondPass_100 : decode cX12_secondPass 100 = .ok (.ireturn, 1) := by decide +kernel
theorem dX12_secondPass_101 : decode cX12_secondPass 101 = .ok (.aload_n 0, 1) := by decide +kernel
theorem dX12_secondPass_102 : decode cX12_secondPass 102 = .ok (.getfield 35, 3) := by decide +kernel
theorem dX12_secondPass_105 : decode cX12_secondPass 105 = .ok (.iload_n 3, 1) := by decide +kernel
theorem dX12_secondPass_106 : decode cX12_secondPass 106 = .ok (.iconst 1, 1) := by decide +kernel
theorem dX12_secondPass_107 : decode cX12_secondPass 107 = .ok (.bastore, 1) := by decide +kernel
theorem dX12_secondPass_108 : decode cX12_secondPass 108 = .ok (.iinc 2 1, 3) := by decide +kernel
theorem dX12_secondPass_111 : decode cX12_secondPass 111 = .ok (.goto (-102), 3) := by decide +kernel
theorem dX12_secondPass_114 : decode cX12_secondPass 114 = .ok (.iinc 1 1, 3) := by decide +kernel
theorem dX12_secondPass_117 : decode cX12_secondPass 117 = .ok (.goto (-115), 3) := by decide +kernel
theorem dX12_secondPass_120 : decode cX12_secondPass 120 = .ok (.iconst 0, 1) := by decide +kernel
theorem dX12_secondPass_121 : decode cX12_secondPass 121 = .ok (.ireturn, 1) := by decide +kernel
theorem dX12_up_0 : decode cX12_up 0 = .ok (.iload_n 0, 1) := by decide +kernel
theorem dX12_up_1 : decode cX12_up 1 = .ok (.iconst 3, 1) := by decide +kernel
theorem dX12_up_2 : decode cX12_up 2 = .ok (.iadd, 1) := by decide +kernel
theorem dX12_up_3 : decode cX12_up 3 = .ok (.iconst 4, 1) := by decide +kernel
theorem dX12_up_4 : decode cX12_up 4 = .ok (.idiv, 1) := by decide +kernel
theorem dX12_up_5 : decode cX12_up 5 = .ok (.iconst 4, 1) := by decide +kernel
theorem dX12_up_6 : decode cX12_up 6 = .ok (.imul, 1) := by decide +kernel
theorem dX12_up_7 : decode cX12_up 7 = .ok (.ireturn, 1) := by decide +kernel
theorem dX12_place_0 : decode cX12_place 0 = .ok (.iload_n 2, 1) := by decide +kernel
theorem dX12_place_1 : decode cX12_place 1 = .ok (.istore 4, 2) := by decide +kernel
theorem dX12_place_3 : decode cX12_place 3 = .ok (.iconst 0, 1) := by decide +kernel
theorem dX12_place_4 : decode cX12_place 4 = .ok (.istore 5, 2) := by decide +kernel
theorem dX12_place_6 : decode cX12_place 6 = .ok (.iload 5, 2) := by decide +kernel
theorem dX12_place_8 : decode cX12_place 8 = .ok (.iconst 4, 1) := by decide +kernel
theorem dX12_place_9 : decode cX12_place 9 = .ok (.if_icmp .ge 78, 3) := by decide +kernel
theorem dX12_place_12 : decode cX12_place 12 = .ok (.iconst 3, 1) := by decide +kernel
theorem dX12_place_13 : decode cX12_place 13 = .ok (.iload 5, 2) := by decide +kernel
theorem dX12_place_15 : decode cX12_place 15 = .ok (.imul, 1) := by decide +kernel
theorem dX12_place_16 : decode cX12_place 16 = .ok (.iload_n 1, 1) := by decide +kernel
theorem dX12_place_17 : decode cX12_place 17 = .ok (.iadd, 1) := by decide +kernel
theorem dX12_place_18 : decode cX12_place 18 = .ok (.istore 6, 2) := by decide +kernel
theorem dX12_place_20 : decode cX12_place 20 = .ok (.iload_n 3, 1) := by decide +kernel
theorem dX12_place_21 : decode cX12_place 21 = .ok (.ifCond .eq 18, 3) := by decide +kernel
theorem dX12_place_24 : decode cX12_place 24 = .ok (.aload_n 0, 1) := by decide +kernel
theorem dX12_place_25 : decode cX12_place 25 = .ok (.getfield 45, 3) := by decide +kernel
theorem dX12_place_28 : decode cX12_place 28 = .ok (.iload 6, 2) := by decide +kernel
theorem dX12_place_30 : decode cX12_place 30 = .ok (.iload 4, 2) := by decide +kernel
theorem dX12_place_32 : decode cX12_place 32 = .ok (.invokestatic 353, 3) := by decide +kernel
theorem dX12_place_35 : decode cX12_place 35 = .ok (.iastore, 1) := by decide +kernel
theorem dX12_place_36 : decode cX12_place 36 = .ok (.goto 15, 3) := by decide +kernel
theorem dX12_place_39 : decode cX12_place 39 = .ok (.aload_n 0, 1) := by decide +kernel
theorem dX12_place_40 : decode cX12_place 40 = .ok (.getfield 42, 3) := by decide +kernel
theorem dX12_place_43 : decode cX12_place 43 = .ok (.iload 6, 2) := by decide +kernel
theorem dX12_place_45 : decode cX12_place 45 = .ok (.iload 4, 2) := by decide +kernel
theorem dX12_place_47 : decode cX12_place 47 = .ok (.invokestatic 353, 3) := by decide +kernel
theorem dX12_place_50 : decode cX12_place 50 = .ok (.iastore, 1) := by decide +kernel
theorem dX12_place_51 : decode cX12_place 51 = .ok (.aload_n 0, 1) := by decide +kernel
theorem dX12_place_52 : decode cX12_place 52 = .ok (.getfield 39, 3) := by decide +kernel
theorem dX12_place_55 : decode cX12_place 55 = .ok (.iload 6, 2) := by decide +kernel
theorem dX12_place_57 : decode cX12_place 57 = .ok (.iaload, 1) := by decide +kernel
theorem dX12_place_58 : decode cX12_place 58 = .ok (.ifCond .le 19, 3) := by decide +kernel
theorem dX12_place_61 : decode cX12_place 61 = .ok (.iload 4, 2) := by decide +kernel
theorem dX12_place_63 : decode cX12_place 63 = .ok (.invokestatic 353, 3) := by decide +kernel
theorem dX12_place_66 : decode cX12_place 66 = .ok (.aload_n 0, 1) := by decide +kernel
theorem dX12_place_67 : decode cX12_place 67 = .ok (.getfield 39, 3) := by decide +kernel
theorem dX12_place_70 : decode cX12_place 70 = .ok (.iload 6, 2) := by decide +kernel
theorem dX12_place_72 : decode cX12_place 72 = .ok (.iaload, 1) := by decide +kernel
theorem dX12_place_73 : decode cX12_place 73 = .ok (.iadd, 1) := by decide +kernel
theorem dX12_place_74 : decode cX12_place 74 = .ok (.goto 5, 3) := by decide +kernel
theorem dX12_place_77 : decode cX12_place 77 = .ok (.iload 4, 2) := by decide +kernel
theorem dX12_place_79 : decode cX12_place 79 = .ok (.istore 4, 2) := by decide +kernel
theorem dX12_place_81 : decode cX12_place 81 = .ok (.iinc 5 1, 3) := by decide +kernel
theorem dX12_place_84 : decode cX12_place 84 = .ok (.goto (-78), 3) := by decide +kernel
theorem dX12_place_87 : decode cX12_place 87 = .ok (.iload 4, 2) := by decide +kernel
theorem dX12_place_89 : decode cX12_place 89 = .ok (.ireturn, 1) := by decide +kernel
theorem dX12_addressOf_0 : decode cX12_addressOf 0 = .ok (.aload_n 0, 1) := by decide +kernel
theorem dX12_addressOf_1 : decode cX12_addressOf 1 = .ok (.getfield 42, 3) := by decide +kernel
theorem dX12_addressOf_4 : decode cX12_addressOf 4 = .ok (.iconst 3, 1) := by decide +kernel
theorem dX12_addressOf_5 : decode cX12_addressOf 5 = .ok (.aload_n 0, 1) := by decide +kernel
theorem dX12_addressOf_6 : decode cX12_addressOf 6 = .ok (.getfield 26, 3) := by decide +kernel
theorem dX12_addressOf_9 : decode cX12_addressOf 9 = .ok (.iload_n 1, 1) := by decide +kernel
theorem dX12_addressOf_10 : decode cX12_addressOf 10 = .ok (.iaload, 1) := by decide +kernel
theorem dX12_addressOf_11 : decode cX12_addressOf 11 = .ok (.imul, 1) := by decide +kernel
theorem dX12_addressOf_12 : decode cX12_addressOf 12 = .ok (.aload_n 0, 1) := by decide +kernel
theorem dX12_addressOf_13 : decode cX12_addressOf 13 = .ok (.getfield 29, 3) := by decide +kernel
theorem dX12_addressOf_16 : decode cX12_addressOf 16 = .ok (.iload_n 1, 1) := by decide +kernel
theorem dX12_addressOf_17 : decode cX12_addressOf 17 = .ok (.iaload, 1) := by decide +kernel
theorem dX12_addressOf_18 : decode cX12_addressOf 18 = .ok (.iadd, 1) := by decide +kernel
theorem dX12_addressOf_19 : decode cX12_addressOf 19 = .ok (.iaload, 1) := by decide +kernel
theorem dX12_addressOf_20 : decode cX12_addressOf 20 = .ok (.aload_n 0, 1) := by decide +kernel
theorem dX12_addressOf_21 : decode cX12_addressOf 21 = .ok (.getfield 32, 3) := by decide +kernel
theorem dX12_addressOf_24 : decode cX12_addressOf 24 = .ok (.iload_n 1, 1) := by decide +kernel
theorem dX12_addressOf_25 : decode cX12_addressOf 25 = .ok (.iaload, 1) := by decide +kernel
theorem dX12_addressOf_26 : decode cX12_addressOf 26 = .ok (.iadd, 1) := by decide +kernel
theorem dX12_addressOf_27 : decode cX12_addressOf 27 = .ok (.ireturn, 1) := by decide +kernel
theorem dX12_setHalf_0 : decode cX12_setHalf 0 = .ok (.aload_n 0, 1) := by decide +kernel
theorem dX12_setHalf_1 : decode cX12_setHalf 1 = .ok (.getfield 48, 3) := by decide +kernel
theorem dX12_setHalf_4 : decode cX12_setHalf 4 = .ok (.sipush 1024, 3) := by decide +kernel
theorem dX12_setHalf_7 : decode cX12_setHalf 7 = .ok (.iload_n 1, 1) := by decide +kernel
theorem dX12_setHalf_8 : decode cX12_setHalf 8 = .ok (.imul, 1) := by decide +kernel
theorem dX12_setHalf_9 : decode cX12_setHalf 9 = .ok (.iload_n 2, 1) := by decide +kernel
theorem dX12_setHalf_10 : decode cX12_setHalf 10 = .ok (.iadd, 1) := by decide +kernel
theorem dX12_setHalf_11 : decode cX12_setHalf 11 = .ok (.iload_n 3, 1) := by decide +kernel
theorem dX12_setHalf_12 : decode cX12_setHalf 12 = .ok (.sipush 255, 3) := by decide +kernel
theorem dX12_setHalf_15 : decode cX12_setHalf 15 = .ok (.iand, 1) := by decide +kernel
theorem dX12_setHalf_16 : decode cX12_setHalf 16 = .ok (.iastore, 1) := by decide +kernel
theorem dX12_setHalf_17 : decode cX12_setHalf 17 = .ok (.aload_n 0, 1) := by decide +kernel
theorem dX12_setHalf_18 : decode cX12_setHalf 18 = .ok (.getfield 48, 3) := by decide +kernel
theorem dX12_setHalf_21 : decode cX12_setHalf 21 = .ok (.sipush 1024, 3) := by decide +kernel
theorem dX12_setHalf_24 : decode cX12_setHalf 24 = .ok (.iload_n 1, 1) := by decide +kernel
theorem dX12_setHalf_25 : decode cX12_setHalf 25 = .ok (.imul, 1) := by decide +kernel
theorem dX12_setHalf_26 : decode cX12_setHalf 26 = .ok (.iload_n 2, 1) := by decide +kernel
theorem dX12_setHalf_27 : decode cX12_setHalf 27 = .ok (.iadd, 1) := by decide +kernel
theorem dX12_setHalf_28 : decode cX12_setHalf 28 = .ok (.iconst 1, 1) := by decide +kernel
theorem dX12_setHalf_29 : decode cX12_setHalf 29 = .ok (.iadd, 1) := by decide +kernel
theorem dX12_setHalf_30 : decode cX12_setHalf 30 = .ok (.iload_n 3, 1) := by decide +kernel
theorem dX12_setHalf_31 : decode cX12_setHalf 31 = .ok (.bipush 8, 2) := by decide +kernel
theorem dX12_setHalf_33 : decode cX12_setHalf 33 = .ok (.ishr, 1) := by decide +kernel
theorem dX12_setHalf_34 : decode cX12_setHalf 34 = .ok (.sipush 255, 3) := by decide +kernel
theorem dX12_setHalf_37 : decode cX12_setHalf 37 = .ok (.iand, 1) := by decide +kernel
theorem dX12_setHalf_38 : decode cX12_setHalf 38 = .ok (.iastore, 1) := by decide +kernel
theorem dX12_setHalf_39 : decode cX12_setHalf 39 = .ok (.return_, 1) := by decide +kernel
theorem dX12_resolve_0 : decode cX12_resolve 0 = .ok (.aload_n 0, 1) := by decide +kernel
theorem dX12_resolve_1 : decode cX12_resolve 1 = .ok (.iload 4, 2) := by decide +kernel
theorem dX12_resolve_3 : decode cX12_resolve 3 = .ok (.invokevirtual 356, 3) := by decide +kernel
theorem dX12_resolve_6 : decode cX12_resolve 6 = .ok (.istore 5, 2) := by decide +kernel
theorem dX12_resolve_8 : decode cX12_resolve 8 = .ok (.aload_n 0, 1) := by decide +kernel
theorem dX12_resolve_9 : decode cX12_resolve 9 = .ok (.getfield 156, 3) := by decide +kernel
theorem dX12_resolve_12 : decode cX12_resolve 12 = .ok (.bipush 6, 2) := by decide +kernel
theorem dX12_resolve_14 : decode cX12_resolve 14 = .ok (.if_icmp .ne 35, 3) := by decide +kernel
theorem dX12_resolve_17 : decode cX12_resolve 17 = .ok (.iload 5, 2) := by decide +kernel
theorem dX12_resolve_19 : decode cX12_resolve 19 = .ok (.aload_n 0, 1) := by decide +kernel
theorem dX12_resolve_20 : decode cX12_resolve 20 = .ok (.getfield 193, 3) := by decide +kernel
theorem dX12_resolve_23 : decode cX12_resolve 23 = .ok (.iadd, 1) := by decide +kernel
theorem dX12_resolve_24 : decode cX12_resolve 24 = .ok (.istore 6, 2) := by decide +kernel
theorem dX12_resolve_26 : decode cX12_resolve 26 = .ok (.aload_n 0, 1) := by decide +kernel
theorem dX12_resolve_27 : decode cX12_resolve 27 = .ok (.iload_n 2, 1) := by decide +kernel
theorem dX12_resolve_28 : decode cX12_resolve 28 = .ok (.iload_n 3, 1) := by decide +kernel
theorem dX12_resolve_29 : decode cX12_resolve 29 = .ok (.iload 6, 2) := by decide +kernel
theorem dX12_resolve_31 : decode cX12_resolve 31 = .ok (.invokevirtual 359, 3) := by decide +kernel
theorem dX12_resolve_34 : decode cX12_resolve 34 = .ok (.aload_n 0, 1) := by decide +kernel
theorem dX12_resolve_35 : decode cX12_resolve 35 = .ok (.iload_n 2, 1) := by decide +kernel
theorem dX12_resolve_36 : decode cX12_resolve 36 = .ok (.iload_n 3, 1) := by decide +kernel
theorem dX12_resolve_37 : decode cX12_resolve 37 = .ok (.iconst 2, 1) := by decide +kernel
theorem dX12_resolve_38 : decode cX12_resolve 38 = .ok (.iadd, 1) := by decide +kernel
theorem dX12_resolve_39 : decode cX12_resolve 39 = .ok (.iload 6, 2) := by decide +kernel
theorem dX12_resolve_41 : decode cX12_resolve 41 = .ok (.bipush 16, 2) := by decide +kernel
theorem dX12_resolve_43 : decode cX12_resolve 43 = .ok (.ishr, 1) := by decide +kernel
theorem dX12_resolve_44 : decode cX12_resolve 44 = .ok (.invokevirtual 359, 3) := by decide +kernel
theorem dX12_resolve_47 : decode cX12_resolve 47 = .ok (.iconst 1, 1) := by decide +kernel
theorem dX12_resolve_48 : decode cX12_resolve 48 = .ok (.ireturn, 1) := by decide +kernel
theorem dX12_resolve_49 : decode cX12_resolve 49 = .ok (.aload_n 0, 1) := by decide +kernel
theorem dX12_resolve_50 : decode cX12_resolve 50 = .ok (.getfield 26, 3) := by decide +kernel
theorem dX12_resolve_53 : decode cX12_resolve 53 = .ok (.iload 4, 2) := by decide +kernel
theorem dX12_resolve_55 : decode cX12_resolve 55 = .ok (.iaload, 1) := by decide +kernel
theorem dX12_resolve_56 : decode cX12_resolve 56 = .ok (.iload_n 1, 1) := by decide +kernel
theorem dX12_resolve_57 : decode cX12_resolve 57 = .ok (.if_icmp .ne 17, 3) := by decide +kernel
theorem dX12_resolve_60 : decode cX12_resolve 60 = .ok (.aload_n 0, 1) := by decide +kernel
theorem dX12_resolve_61 : decode cX12_resolve 61 = .ok (.getfield 29, 3) := by decide +kernel
theorem dX12_resolve_64 : decode cX12_resolve 64 = .ok (.iload 4, 2) := by decide +kernel
theorem dX12_resolve_66 : decode cX12_resolve 66 = .ok (.iaload, 1) := by decide +kernel
theorem dX12_resolve_67 : decode cX12_resolve 67 = .ok (.ifCond .ne 7, 3) := by decide +kernel
theorem dX12_resolve_70 : decode cX12_resolve 70 = .ok (.iconst 1, 1) := by decide +kernel
theorem dX12_resolve_71 : decode cX12_resolve 71 = .ok (.goto 4, 3) := by decide +kernel
theorem dX12_resolve_74 : decode cX12_resolve 74 = .ok (.iconst 0, 1) := by decide +kernel
theorem dX12_resolve_75 : decode cX12_resolve 75 = .ok (.istore 6, 2) := by decide +kernel
theorem dX12_resolve_77 : decode cX12_resolve 77 = .ok (.aload_n 0, 1) := by decide +kernel
theorem dX12_resolve_78 : decode cX12_resolve 78 = .ok (.getfield 42, 3) := by decide +kernel
theorem dX12_resolve_81 : decode cX12_resolve 81 = .ok (.iload_n 2, 1) := by decide +kernel
theorem dX12_resolve_82 : decode cX12_resolve 82 = .ok (.iaload, 1) := by decide +kernel
theorem dX12_resolve_83 : decode cX12_resolve 83 = .ok (.iload_n 3, 1) := by decide +kernel
theorem dX12_resolve_84 : decode cX12_resolve 84 = .ok (.iadd, 1) := by decide +kernel
theorem dX12_resolve_85 : decode cX12_resolve 85 = .ok (.istore 7, 2) := by decide +kernel
theorem dX12_resolve_87 : decode cX12_resolve 87 = .ok (.aload_n 0, 1) := by decide +kernel
theorem dX12_resolve_88 : decode cX12_resolve 88 = .ok (.getfield 156, 3) := by decide +kernel
theorem dX12_resolve_91 : decode cX12_resolve 91 = .ok (.bipush 14, 2) := by decide +kernel
theorem dX12_resolve_93 : decode cX12_resolve 93 = .ok (.if_icmp .ne 66, 3) := by decide +kernel
theorem dX12_resolve_96 : decode cX12_resolve 96 = .ok (.iload 5, 2) := by decide +kernel
theorem dX12_resolve_98 : decode cX12_resolve 98 = .ok (.iload 7, 2) := by decide +kernel
theorem dX12_resolve_100 : decode cX12_resolve 100 = .ok (.iconst 4, 1) := by decide +kernel
theorem dX12_resolve_101 : decode cX12_resolve 101 = .ok (.idiv, 1) := by decide +kernel
theorem dX12_resolve_102 : decode cX12_resolve 102 = .ok (.iconst 4, 1) := by decide +kernel
theorem dX12_resolve_103 : decode cX12_resolve 103 = .ok (.imul, 1) := by decide +kernel
theorem dX12_resolve_104 : decode cX12_resolve 104 = .ok (.isub, 1) := by decide +kernel
theorem dX12_resolve_105 : decode cX12_resolve 105 = .ok (.iconst 4, 1) := by decide +kernel
theorem dX12_resolve_106 : decode cX12_resolve 106 = .ok (.isub, 1) := by decide +kernel
theorem dX12_resolve_107 : decode cX12_resolve 107 = .ok (.istore 8, 2) := by decide +kernel
theorem dX12_resolve_109 : decode cX12_resolve 109 = .ok (.aload_n 0, 1) := by decide +kernel
theorem dX12_resolve_110 : decode cX12_resolve 110 = .ok (.iload_n 2, 1) := by decide +kernel
theorem dX12_resolve_111 : decode cX12_resolve 111 = .ok (.iload_n 3, 1) := by decide +kernel
theorem dX12_resolve_112 : decode cX12_resolve 112 = .ok (.aload_n 0, 1) := by decide +kernel
theorem dX12_resolve_113 : decode cX12_resolve 113 = .ok (.getfield 159, 3) := by decide +kernel
theorem dX12_resolve_116 : decode cX12_resolve 116 = .ok (.iload 8, 2) := by decide +kernel
theorem dX12_resolve_118 : decode cX12_resolve 118 = .ok (.iconst 4, 1) := by decide +kernel
theorem dX12_resolve_119 : decode cX12_resolve 119 = .ok (.idiv, 1) := by decide +kernel
theorem dX12_resolve_120 : decode cX12_resolve 120 = .ok (.sipush 255, 3) := by decide +kernel
theorem dX12_resolve_123 : decode cX12_resolve 123 = .ok (.iand, 1) := by decide +kernel
theorem dX12_resolve_124 : decode cX12_resolve 124 = .ok (.iadd, 1) := by decide +kernel
theorem dX12_resolve_125 : decode cX12_resolve 125 = .ok (.invokevirtual 359, 3) := by decide +kernel
theorem dX12_resolve_128 : decode cX12_resolve 128 = .ok (.iload 6, 2) := by decide +kernel
theorem dX12_resolve_130 : decode cX12_resolve 130 = .ok (.ifCond .eq 27, 3) := by decide +kernel
theorem dX12_resolve_133 : decode cX12_resolve 133 = .ok (.iload 8, 2) := by decide +kernel
theorem dX12_resolve_135 : decode cX12_resolve 135 = .ok (.ifCond .lt 22, 3) := by decide +kernel
theorem dX12_resolve_138 : decode cX12_resolve 138 = .ok (.iload 8, 2) := by decide +kernel
theorem dX12_resolve_140 : decode cX12_resolve 140 = .ok (.sipush 1020, 3) := by decide +kernel
theorem dX12_resolve_143 : decode cX12_resolve 143 = .ok (.if_icmp .gt 14, 3) := by decide +kernel
theorem dX12_resolve_146 : decode cX12_resolve 146 = .ok (.iload 8, 2) := by decide +kernel
theorem dX12_resolve_148 : decode cX12_resolve 148 = .ok (.iconst 4, 1) := by decide +kernel
theorem dX12_resolve_149 : decode cX12_resolve 149 = .ok (.irem, 1) := by decide +kernel
theorem dX12_resolve_150 : decode cX12_resolve 150 = .ok (.ifCond .ne 7, 3) := by decide +kernel
theorem dX12_resolve_153 : decode cX12_resolve 153 = .ok (.iconst 1, 1) := by decide +kernel
theorem dX12_resolve_154 : decode cX12_resolve 154 = .ok (.goto 4, 3) := by decide +kernel
theorem dX12_resolve_157 : decode cX12_resolve 157 = .ok (.iconst 0, 1) := by decide +kernel
theorem dX12_resolve_158 : decode cX12_resolve 158 = .ok (.ireturn, 1) := by decide +kernel
theorem dX12_resolve_159 : decode cX12_resolve 159 = .ok (.iload 5, 2) := by decide +kernel
theorem dX12_resolve_161 : decode cX12_resolve 161 = .ok (.iload 7, 2) := by decide +kernel
theorem dX12_resolve_163 : decode cX12_resolve 163 = .ok (.isub, 1) := by decide +kernel
theorem dX12_resolve_164 : decode cX12_resolve 164 = .ok (.iconst 4, 1) := by decide +kernel
theorem dX12_resolve_165 : decode cX12_resolve 165 = .ok (.isub, 1) := by decide +kernel
theorem dX12_resolve_166 : decode cX12_resolve 166 = .ok (.istore 8, 2) := by decide +kernel
theorem dX12_resolve_168 : decode cX12_resolve 168 = .ok (.iload 8, 2) := by decide +kernel
theorem dX12_resolve_170 : decode cX12_resolve 170 = .ok (.iconst 2, 1) := by decide +kernel
theorem dX12_resolve_171 : decode cX12_resolve 171 = .ok (.irem, 1) := by decide +kernel
theorem dX12_resolve_172 : decode cX12_resolve 172 = .ok (.ifCond .eq 5, 3) := by decide +kernel
theorem dX12_resolve_175 : decode cX12_resolve 175 = .ok (.iconst 0, 1) := by decide +kernel
theorem dX12_resolve_176 : decode cX12_resolve 176 = .ok (.ireturn, 1) := by decide +kernel
theorem dX12_resolve_177 : decode cX12_resolve 177 = .ok (.iload 8, 2) := by decide +kernel
theorem dX12_resolve_179 : decode cX12_resolve 179 = .ok (.iconst 1, 1) := by decide +kernel
theorem dX12_resolve_180 : decode cX12_resolve 180 = .ok (.ishr, 1) := by decide +kernel
theorem dX12_resolve_181 : decode cX12_resolve 181 = .ok (.istore 9, 2) := by decide +kernel
theorem dX12_resolve_183 : decode cX12_resolve 183 = .ok (.aload_n 0, 1) := by decide +kernel
theorem dX12_resolve_184 : decode cX12_resolve 184 = .ok (.getfield 156, 3) := by decide +kernel
theorem dX12_resolve_187 : decode cX12_resolve 187 = .ok (.bipush 11, 2) := by decide +kernel
theorem dX12_resolve_189 : decode cX12_resolve 189 = .ok (.if_icmp .ne 42, 3) := by decide +kernel
theorem dX12_resolve_192 : decode cX12_resolve 192 = .ok (.aload_n 0, 1) := by decide +kernel
theorem dX12_resolve_193 : decode cX12_resolve 193 = .ok (.iload_n 2, 1) := by decide +kernel
theorem dX12_resolve_194 : decode cX12_resolve 194 = .ok (.iload_n 3, 1) := by decide +kernel
theorem dX12_resolve_195 : decode cX12_resolve 195 = .ok (.aload_n 0, 1) := by decide +kernel
theorem dX12_resolve_196 : decode cX12_resolve 196 = .ok (.getfield 159, 3) := by decide +kernel
theorem dX12_resolve_199 : decode cX12_resolve 199 = .ok (.iload 9, 2) := by decide +kernel
theorem dX12_resolve_201 : decode cX12_resolve 201 = .ok (.sipush 2047, 3) := by decide +kernel
theorem dX12_resolve_204 : decode cX12_resolve 204 = .ok (.iand, 1) := by decide +kernel
theorem dX12_resolve_205 : decode cX12_resolve 205 = .ok (.iadd, 1) := by decide +kernel
theorem dX12_resolve_206 : decode cX12_resolve 206 = .ok (.invokevirtual 359, 3) := by decide +kernel
theorem dX12_resolve_209 : decode cX12_resolve 209 = .ok (.iload 8, 2) := by decide +kernel
theorem dX12_resolve_211 : decode cX12_resolve 211 = .ok (.sipush (-2048), 3) := by decide +kernel
theorem dX12_resolve_214 : decode cX12_resolve 214 = .ok (.if_icmp .lt 15, 3) := by decide +kernel
theorem dX12_resolve_217 : decode cX12_resolve 217 = .ok (.iload 8, 2) := by decide +kernel
theorem dX12_resolve_219 : decode cX12_resolve 219 = .ok (.sipush 2046, 3) := by decide +kernel
theorem dX12_resolve_222 : decode cX12_resolve 222 = .ok (.if_icmp .gt 7, 3) := by decide +kernel
theorem dX12_resolve_225 : decode cX12_resolve 225 = .ok (.iconst 1, 1) := by decide +kernel
theorem dX12_resolve_226 : decode cX12_resolve 226 = .ok (.goto 4, 3) := by decide +kernel
theorem dX12_resolve_229 : decode cX12_resolve 229 = .ok (.iconst 0, 1) := by decide +kernel
theorem dX12_resolve_230 : decode cX12_resolve 230 = .ok (.ireturn, 1) := by decide +kernel
theorem dX12_resolve_231 : decode cX12_resolve 231 = .ok (.aload_n 0, 1) := by decide +kernel
theorem dX12_resolve_232 : decode cX12_resolve 232 = .ok (.getfield 156, 3) := by decide +kernel
theorem dX12_resolve_235 : decode cX12_resolve 235 = .ok (.bipush 12, 2) := by decide +kernel
theorem dX12_resolve_237 : decode cX12_resolve 237 = .ok (.if_icmp .ne 47, 3) := by decide +kernel
theorem dX12_resolve_240 : decode cX12_resolve 240 = .ok (.aload_n 0, 1) := by decide +kernel
theorem dX12_resolve_241 : decode cX12_resolve 241 = .ok (.iload_n 2, 1) := by decide +kernel
theorem dX12_resolve_242 : decode cX12_resolve 242 = .ok (.iload_n 3, 1) := by decide +kernel
theorem dX12_resolve_243 : decode cX12_resolve 243 = .ok (.aload_n 0, 1) := by decide +kernel
theorem dX12_resolve_244 : decode cX12_resolve 244 = .ok (.getfield 159, 3) := by decide +kernel
theorem dX12_resolve_247 : decode cX12_resolve 247 = .ok (.iload 9, 2) := by decide +kernel
theorem dX12_resolve_249 : decode cX12_resolve 249 = .ok (.sipush 255, 3) := by decide +kernel
theorem dX12_resolve_252 : decode cX12_resolve 252 = .ok (.iand, 1) := by decide +kernel
theorem dX12_resolve_253 : decode cX12_resolve 253 = .ok (.iadd, 1) := by decide +kernel
theorem dX12_resolve_254 : decode cX12_resolve 254 = .ok (.invokevirtual 359, 3) := by decide +kernel
theorem dX12_resolve_257 : decode cX12_resolve 257 = .ok (.iload 6, 2) := by decide +kernel
theorem dX12_resolve_259 : decode cX12_resolve 259 = .ok (.ifCond .eq 23, 3) := by decide +kernel
theorem dX12_resolve_262 : decode cX12_resolve 262 = .ok (.iload 8, 2) := by decide +kernel
theorem dX12_resolve_264 : decode cX12_resolve 264 = .ok (.sipush (-256), 3) := by decide +kernel
theorem dX12_resolve_267 : decode cX12_resolve 267 = .ok (.if_icmp .lt 15, 3) := by decide +kernel
theorem dX12_resolve_270 : decode cX12_resolve 270 = .ok (.iload 8, 2) := by decide +kernel
theorem dX12_resolve_272 : decode cX12_resolve 272 = .ok (.sipush 254, 3) := by decide +kernel
theorem dX12_resolve_275 : decode cX12_resolve 275 = .ok (.if_icmp .gt 7, 3) := by decide +kernel
theorem dX12_resolve_278 : decode cX12_resolve 278 = .ok (.iconst 1, 1) := by decide +kernel
theorem dX12_resolve_279 : decode cX12_resolve 279 = .ok (.goto 4, 3) := by decide +kernel
theorem dX12_resolve_282 : decode cX12_resolve 282 = .ok (.iconst 0, 1) := by decide +kernel
theorem dX12_resolve_283 : decode cX12_resolve 283 = .ok (.ireturn, 1) := by decide +kernel
theorem dX12_resolve_284 : decode cX12_resolve 284 = .ok (.iload 9, 2) := by decide +kernel
theorem dX12_resolve_286 : decode cX12_resolve 286 = .ok (.bipush 23, 2) := by decide +kernel
theorem dX12_resolve_288 : decode cX12_resolve 288 = .ok (.ishr, 1) := by decide +kernel
theorem dX12_resolve_289 : decode cX12_resolve 289 = .ok (.iconst 1, 1) := by decide +kernel
theorem dX12_resolve_290 : decode cX12_resolve 290 = .ok (.iand, 1) := by decide +kernel
theorem dX12_resolve_291 : decode cX12_resolve 291 = .ok (.istore 10, 2) := by decide +kernel
theorem dX12_resolve_293 : decode cX12_resolve 293 = .ok (.aload_n 0, 1) := by decide +kernel
theorem dX12_resolve_294 : decode cX12_resolve 294 = .ok (.iload_n 2, 1) := by decide +kernel
theorem dX12_resolve_295 : decode cX12_resolve 295 = .ok (.iload_n 3, 1) := by decide +kernel
theorem dX12_resolve_296 : decode cX12_resolve 296 = .ok (.ldc_w 362, 3) := by decide +kernel
theorem dX12_resolve_299 : decode cX12_resolve 299 = .ok (.sipush 1024, 3) := by decide +kernel
theorem dX12_resolve_302 : decode cX12_resolve 302 = .ok (.iload 10, 2) := by decide +kernel
theorem dX12_resolve_304 : decode cX12_resolve 304 = .ok (.imul, 1) := by decide +kernel
theorem dX12_resolve_305 : decode cX12_resolve 305 = .ok (.iadd, 1) := by decide +kernel
theorem dX12_resolve_306 : decode cX12_resolve 306 = .ok (.iload 9, 2) := by decide +kernel
theorem dX12_resolve_308 : decode cX12_resolve 308 = .ok (.bipush 11, 2) := by decide +kernel
theorem dX12_resolve_310 : decode cX12_resolve 310 = .ok (.ishr, 1) := by decide +kernel
theorem dX12_resolve_311 : decode cX12_resolve 311 = .ok (.sipush 1023, 3) := by decide +kernel
theorem dX12_resolve_314 : decode cX12_resolve 314 = .ok (.iand, 1) := by decide +kernel
theorem dX12_resolve_315 : decode cX12_resolve 315 = .ok (.iadd, 1) := by decide +kernel
theorem dX12_resolve_316 : decode cX12_resolve 316 = .ok (.invokevirtual 359, 3) := by decide +kernel
theorem dX12_resolve_319 : decode cX12_resolve 319 = .ok (.aload_n 0, 1) := by decide +kernel
theorem dX12_resolve_320 : decode cX12_resolve 320 = .ok (.iload_n 2, 1) := by decide +kernel
theorem dX12_resolve_321 : decode cX12_resolve 321 = .ok (.iload_n 3, 1) := by decide +kernel
theorem dX12_resolve_322 : decode cX12_resolve 322 = .ok (.iconst 2, 1) := by decide +kernel
theorem dX12_resolve_323 : decode cX12_resolve 323 = .ok (.iadd, 1) := by decide +kernel
theorem dX12_resolve_324 : decode cX12_resolve 324 = .ok (.ldc_w 293, 3) := by decide +kernel
theorem dX12_resolve_327 : decode cX12_resolve 327 = .ok (.iload 9, 2) := by decide +kernel
theorem dX12_resolve_329 : decode cX12_resolve 329 = .ok (.bipush 22, 2) := by decide +kernel
theorem dX12_resolve_331 : decode cX12_resolve 331 = .ok (.ishr, 1) := by decide +kernel
theorem dX12_resolve_332 : decode cX12_resolve 332 = .ok (.iconst 1, 1) := by decide +kernel
theorem dX12_resolve_333 : decode cX12_resolve 333 = .ok (.iand, 1) := by decide +kernel
theorem dX12_resolve_334 : decode cX12_resolve 334 = .ok (.iload 10, 2) := by decide +kernel
theorem dX12_resolve_336 : decode cX12_resolve 336 = .ok (.if_icmp .ne 9, 3) := by decide +kernel
theorem dX12_resolve_339 : decode cX12_resolve 339 = .ok (.sipush 8192, 3) := by decide +kernel
theorem dX12_resolve_342 : decode cX12_resolve 342 = .ok (.goto 4, 3) := by decide +kernel
theorem dX12_resolve_345 : decode cX12_resolve 345 = .ok (.iconst 0, 1) := by decide +kernel
theorem dX12_resolve_346 : decode cX12_resolve 346 = .ok (.iadd, 1) := by decide +kernel
theorem dX12_resolve_347 : decode cX12_resolve 347 = .ok (.iload 9, 2) := by decide +kernel
theorem dX12_resolve_349 : decode cX12_resolve 349 = .ok (.bipush 21, 2) := by decide +kernel
theorem dX12_resolve_351 : decode cX12_resolve 351 = .ok (.ishr, 1) := by decide +kernel
theorem dX12_resolve_352 : decode cX12_resolve 352 = .ok (.iconst 1, 1) := by decide +kernel
theorem dX12_resolve_353 : decode cX12_resolve 353 = .ok (.iand, 1) := by decide +kernel
theorem dX12_resolve_354 : decode cX12_resolve 354 = .ok (.iload 10, 2) := by decide +kernel
theorem dX12_resolve_356 : decode cX12_resolve 356 = .ok (.if_icmp .ne 9, 3) := by decide +kernel
theorem dX12_resolve_359 : decode cX12_resolve 359 = .ok (.sipush 2048, 3) := by decide +kernel
theorem dX12_resolve_362 : decode cX12_resolve 362 = .ok (.goto 4, 3) := by decide +kernel
theorem dX12_resolve_365 : decode cX12_resolve 365 = .ok (.iconst 0, 1) := by decide +kernel
theorem dX12_resolve_366 : decode cX12_resolve 366 = .ok (.iadd, 1) := by decide +kernel
theorem dX12_resolve_367 : decode cX12_resolve 367 = .ok (.iload 9, 2) := by decide +kernel
theorem dX12_resolve_369 : decode cX12_resolve 369 = .ok (.sipush 2047, 3) := by decide +kernel
theorem dX12_resolve_372 : decode cX12_resolve 372 = .ok (.iand, 1) := by decide +kernel
theorem dX12_resolve_373 : decode cX12_resolve 373 = .ok (.iadd, 1) := by decide +kernel
theorem dX12_resolve_374 : decode cX12_resolve 374 = .ok (.invokevirtual 359, 3) := by decide +kernel
theorem dX12_resolve_377 : decode cX12_resolve 377 = .ok (.iload 8, 2) := by decide +kernel
theorem dX12_resolve_379 : decode cX12_resolve 379 = .ok (.ldc_w 363, 3) := by decide +kernel
theorem dX12_resolve_382 : decode cX12_resolve 382 = .ok (.if_icmp .lt 15, 3) := by decide +kernel
theorem dX12_resolve_385 : decode cX12_resolve 385 = .ok (.iload 8, 2) := by decide +kernel
theorem dX12_resolve_387 : decode cX12_resolve 387 = .ok (.ldc_w 364, 3) := by decide +kernel
theorem dX12_resolve_390 : decode cX12_resolve 390 = .ok (.if_icmp .gt 7, 3) := by decide +kernel
theorem dX12_resolve_393 : decode cX12_resolve 393 = .ok (.iconst 1, 1) := by decide +kernel
theorem dX12_resolve_394 : decode cX12_resolve 394 = .ok (.goto 4, 3) := by decide +kernel
theorem dX12_resolve_397 : decode cX12_resolve 397 = .ok (.iconst 0, 1) := by decide +kernel
theorem dX12_resolve_398 : decode cX12_resolve 398 = .ok (.ireturn, 1) := by decide +kernel
theorem dX12_thirdPass_0 : decode cX12_thirdPass 0 = .ok (.iconst 0, 1) := by decide +kernel
theorem dX12_thirdPass_1 : decode cX12_thirdPass 1 = .ok (.istore_n 1, 1) := by decide +kernel
theorem dX12_thirdPass_2 : decode cX12_thirdPass 2 = .ok (.iload_n 1, 1) := by decide +kernel
theorem dX12_thirdPass_3 : decode cX12_thirdPass 3 = .ok (.bipush 12, 2) := by decide +kernel
theorem dX12_thirdPass_5 : decode cX12_thirdPass 5 = .ok (.if_icmp .ge 16, 3) := by decide +kernel
theorem dX12_thirdPass_8 : decode cX12_thirdPass 8 = .ok (.aload_n 0, 1) := by decide +kernel
theorem dX12_thirdPass_9 : decode cX12_thirdPass 9 = .ok (.getfield 66, 3) := by decide +kernel
theorem dX12_thirdPass_12 : decode cX12_thirdPass 12 = .ok (.iload_n 1, 1) := by decide +kernel
theorem dX12_thirdPass_13 : decode cX12_thirdPass 13 = .ok (.iconst 0, 1) := by decide +kernel
theorem dX12_thirdPass_14 : decode cX12_thirdPass 14 = .ok (.iastore, 1) := by decide +kernel
theorem dX12_thirdPass_15 : decode cX12_thirdPass 15 = .ok (.iinc 1 1, 3) := by decide +kernel
theorem dX12_thirdPass_18 : decode cX12_thirdPass 18 = .ok (.goto (-16), 3) := by decide +kernel
theorem dX12_thirdPass_21 : decode cX12_thirdPass 21 = .ok (.iconst 0, 1) := by decide +kernel
theorem dX12_thirdPass_22 : decode cX12_thirdPass 22 = .ok (.istore_n 1, 1) := by decide +kernel
theorem dX12_thirdPass_23 : decode cX12_thirdPass 23 = .ok (.iload_n 1, 1) := by decide +kernel
theorem dX12_thirdPass_24 : decode cX12_thirdPass 24 = .ok (.iconst 4, 1) := by decide +kernel
theorem dX12_thirdPass_25 : decode cX12_thirdPass 25 = .ok (.if_icmp .ge 207, 3) := by decide +kernel
theorem dX12_thirdPass_28 : decode cX12_thirdPass 28 = .ok (.aload_n 0, 1) := by decide +kernel
theorem dX12_thirdPass_29 : decode cX12_thirdPass 29 = .ok (.iconst 0, 1) := by decide +kernel
theorem dX12_thirdPass_30 : decode cX12_thirdPass 30 = .ok (.putfield 325, 3) := by decide +kernel
theorem dX12_thirdPass_33 : decode cX12_thirdPass 33 = .ok (.iconst 0, 1) := by decide +kernel
theorem dX12_thirdPass_34 : decode cX12_thirdPass 34 = .ok (.istore_n 2, 1) := by decide +kernel
theorem dX12_thirdPass_35 : decode cX12_thirdPass 35 = .ok (.iload_n 2, 1) := by decide +kernel
theorem dX12_thirdPass_36 : decode cX12_thirdPass 36 = .ok (.aload_n 0, 1) := by decide +kernel
theorem dX12_thirdPass_37 : decode cX12_thirdPass 37 = .ok (.getfield 13, 3) := by decide +kernel
theorem dX12_thirdPass_40 : decode cX12_thirdPass 40 = .ok (.iload_n 1, 1) := by decide +kernel
theorem dX12_thirdPass_41 : decode cX12_thirdPass 41 = .ok (.iaload, 1) := by decide +kernel
theorem dX12_thirdPass_42 : decode cX12_thirdPass 42 = .ok (.if_icmp .ge 184, 3) := by decide +kernel
theorem dX12_thirdPass_45 : decode cX12_thirdPass 45 = .ok (.aload_n 0, 1) := by decide +kernel
theorem dX12_thirdPass_46 : decode cX12_thirdPass 46 = .ok (.iload_n 1, 1) := by decide +kernel
theorem dX12_thirdPass_47 : decode cX12_thirdPass 47 = .ok (.iload_n 2, 1) := by decide +kernel
theorem dX12_thirdPass_48 : decode cX12_thirdPass 48 = .ok (.iconst 0, 1) := by decide +kernel
theorem dX12_thirdPass_49 : decode cX12_thirdPass 49 = .ok (.invokevirtual 334, 3) := by decide +kernel
theorem dX12_thirdPass_52 : decode cX12_thirdPass 52 = .ok (.iconst 3, 1) := by decide +kernel
theorem dX12_thirdPass_53 : decode cX12_thirdPass 53 = .ok (.iload_n 1, 1) := by decide +kernel
theorem dX12_thirdPass_54 : decode cX12_thirdPass 54 = .ok (.imul, 1) := by decide +kernel
theorem dX12_thirdPass_55 : decode cX12_thirdPass 55 = .ok (.aload_n 0, 1) := by decide +kernel
theorem dX12_thirdPass_56 : decode cX12_thirdPass 56 = .ok (.getfield 325, 3) := by decide +kernel
theorem dX12_thirdPass_59 : decode cX12_thirdPass 59 = .ok (.iadd, 1) := by decide +kernel
theorem dX12_thirdPass_60 : decode cX12_thirdPass 60 = .ok (.istore_n 3, 1) := by decide +kernel
theorem dX12_thirdPass_61 : decode cX12_thirdPass 61 = .ok (.aload_n 0, 1) := by decide +kernel
theorem dX12_thirdPass_62 : decode cX12_thirdPass 62 = .ok (.getfield 66, 3) := by decide +kernel
theorem dX12_thirdPass_65 : decode cX12_thirdPass 65 = .ok (.iload_n 3, 1) := by decide +kernel
theorem dX12_thirdPass_66 : decode cX12_thirdPass 66 = .ok (.iaload, 1) := by decide +kernel
theorem dX12_thirdPass_67 : decode cX12_thirdPass 67 = .ok (.istore 4, 2) := by decide +kernel
theorem dX12_thirdPass_69 : decode cX12_thirdPass 69 = .ok (.aload_n 0, 1) := by decide +kernel
theorem dX12_thirdPass_70 : decode cX12_thirdPass 70 = .ok (.getfield 156, 3) := by decide +kernel
theorem dX12_thirdPass_73 : decode cX12_thirdPass 73 = .ok (.bipush 6, 2) := by decide +kernel
theorem dX12_thirdPass_75 : decode cX12_thirdPass 75 = .ok (.if_icmp .eq 12, 3) := by decide +kernel
theorem dX12_thirdPass_78 : decode cX12_thirdPass 78 = .ok (.aload_n 0, 1) := by decide +kernel
theorem dX12_thirdPass_79 : decode cX12_thirdPass 79 = .ok (.getfield 156, 3) := by decide +kernel
theorem dX12_thirdPass_82 : decode cX12_thirdPass 82 = .ok (.bipush 11, 2) := by decide +kernel
theorem dX12_thirdPass_84 : decode cX12_thirdPass 84 = .ok (.if_icmp .lt 92, 3) := by decide +kernel
theorem dX12_thirdPass_87 : decode cX12_thirdPass 87 = .ok (.aload_n 0, 1) := by decide +kernel
theorem dX12_thirdPass_88 : decode cX12_thirdPass 88 = .ok (.iload_n 1, 1) := by decide +kernel
theorem dX12_thirdPass_89 : decode cX12_thirdPass 89 = .ok (.aload_n 0, 1) := by decide +kernel
theorem dX12_thirdPass_90 : decode cX12_thirdPass 90 = .ok (.getfield 142, 3) := by decide +kernel
theorem dX12_thirdPass_93 : decode cX12_thirdPass 93 = .ok (.aload_n 0, 1) := by decide +kernel
theorem dX12_thirdPass_94 : decode cX12_thirdPass 94 = .ok (.getfield 145, 3) := by decide +kernel
theorem dX12_thirdPass_97 : decode cX12_thirdPass 97 = .ok (.iconst 0, 1) := by decide +kernel
theorem dX12_thirdPass_98 : decode cX12_thirdPass 98 = .ok (.invokevirtual 300, 3) := by decide +kernel
theorem dX12_thirdPass_101 : decode cX12_thirdPass 101 = .ok (.istore 5, 2) := by decide +kernel
theorem dX12_thirdPass_103 : decode cX12_thirdPass 103 = .ok (.iload 5, 2) := by decide +kernel
theorem dX12_thirdPass_105 : decode cX12_thirdPass 105 = .ok (.ifCond .ge 18, 3) := by decide +kernel
theorem dX12_thirdPass_108 : decode cX12_thirdPass 108 = .ok (.aload_n 0, 1) := by decide +kernel
theorem dX12_thirdPass_109 : decode cX12_thirdPass 109 = .ok (.aload_n 0, 1) := by decide +kernel
theorem dX12_thirdPass_110 : decode cX12_thirdPass 110 = .ok (.getfield 142, 3) := by decide +kernel
theorem dX12_thirdPass_113 : decode cX12_thirdPass 113 = .ok (.aload_n 0, 1) := by decide +kernel
theorem dX12_thirdPass_114 : decode cX12_thirdPass 114 = .ok (.getfield 145, 3) := by decide +kernel
theorem dX12_thirdPass_117 : decode cX12_thirdPass 117 = .ok (.invokevirtual 347, 3) := by decide +kernel
theorem dX12_thirdPass_120 : decode cX12_thirdPass 120 = .ok (.goto 5, 3) := by decide +kernel
theorem dX12_thirdPass_123 : decode cX12_thirdPass 123 = .ok (.iload 5, 2) := by decide +kernel
theorem dX12_thirdPass_125 : decode cX12_thirdPass 125 = .ok (.istore 5, 2) := by decide +kernel
theorem dX12_thirdPass_127 : decode cX12_thirdPass 127 = .ok (.iload 5, 2) := by decide +kernel
theorem dX12_thirdPass_129 : decode cX12_thirdPass 129 = .ok (.ifCond .lt 16, 3) := by decide +kernel
theorem dX12_thirdPass_132 : decode cX12_thirdPass 132 = .ok (.aload_n 0, 1) := by decide +kernel
theorem dX12_thirdPass_133 : decode cX12_thirdPass 133 = .ok (.iload_n 1, 1) := by decide +kernel
theorem dX12_thirdPass_134 : decode cX12_thirdPass 134 = .ok (.iload_n 3, 1) := by decide +kernel
theorem dX12_thirdPass_135 : decode cX12_thirdPass 135 = .ok (.iload 4, 2) := by decide +kernel
theorem dX12_thirdPass_137 : decode cX12_thirdPass 137 = .ok (.iload 5, 2) := by decide +kernel
theorem dX12_thirdPass_139 : decode cX12_thirdPass 139 = .ok (.invokevirtual 365, 3) := by decide +kernel
theorem dX12_thirdPass_142 : decode cX12_thirdPass 142 = .ok (.ifCond .ne 34, 3) := by decide +kernel
theorem dX12_thirdPass_145 : decode cX12_thirdPass 145 = .ok (.aload_n 0, 1) := by decide +kernel
theorem dX12_thirdPass_146 : decode cX12_thirdPass 146 = .ok (.iload 5, 2) := by decide +kernel
theorem dX12_thirdPass_148 : decode cX12_thirdPass 148 = .ok (.ifCond .ge 8, 3) := by decide +kernel
theorem dX12_thirdPass_151 : decode cX12_thirdPass 151 = .ok (.bipush (-8), 2) := by decide +kernel
theorem dX12_thirdPass_153 : decode cX12_thirdPass 153 = .ok (.goto 5, 3) := by decide +kernel
theorem dX12_thirdPass_156 : decode cX12_thirdPass 156 = .ok (.bipush (-9), 2) := by decide +kernel
theorem dX12_thirdPass_158 : decode cX12_thirdPass 158 = .ok (.iload_n 1, 1) := by decide +kernel
theorem dX12_thirdPass_159 : decode cX12_thirdPass 159 = .ok (.iload_n 2, 1) := by decide +kernel
theorem dX12_thirdPass_160 : decode cX12_thirdPass 160 = .ok (.aload_n 0, 1) := by decide +kernel
theorem dX12_thirdPass_161 : decode cX12_thirdPass 161 = .ok (.getfield 142, 3) := by decide +kernel
theorem dX12_thirdPass_164 : decode cX12_thirdPass 164 = .ok (.bipush 48, 2) := by decide +kernel
theorem dX12_thirdPass_166 : decode cX12_thirdPass 166 = .ok (.aload_n 0, 1) := by decide +kernel
theorem dX12_thirdPass_167 : decode cX12_thirdPass 167 = .ok (.getfield 103, 3) := by decide +kernel
theorem dX12_thirdPass_170 : decode cX12_thirdPass 170 = .ok (.imul, 1) := by decide +kernel
theorem dX12_thirdPass_171 : decode cX12_thirdPass 171 = .ok (.isub, 1) := by decide +kernel
theorem dX12_thirdPass_172 : decode cX12_thirdPass 172 = .ok (.invokevirtual 337, 3) := by decide +kernel
theorem dX12_thirdPass_175 : decode cX12_thirdPass 175 = .ok (.ireturn, 1) := by decide +kernel
theorem dX12_thirdPass_176 : decode cX12_thirdPass 176 = .ok (.aload_n 0, 1) := by decide +kernel
theorem dX12_thirdPass_177 : decode cX12_thirdPass 177 = .ok (.getfield 156, 3) := by decide +kernel
theorem dX12_thirdPass_180 : decode cX12_thirdPass 180 = .ok (.iconst 1, 1) := by decide +kernel
theorem dX12_thirdPass_181 : decode cX12_thirdPass 181 = .ok (.if_icmp .lt 24, 3) := by decide +kernel
theorem dX12_thirdPass_184 : decode cX12_thirdPass 184 = .ok (.aload_n 0, 1) := by decide +kernel
theorem dX12_thirdPass_185 : decode cX12_thirdPass 185 = .ok (.getfield 156, 3) := by decide +kernel
theorem dX12_thirdPass_188 : decode cX12_thirdPass 188 = .ok (.iconst 4, 1) := by decide +kernel
theorem dX12_thirdPass_189 : decode cX12_thirdPass 189 = .ok (.if_icmp .ge 16, 3) := by decide +kernel
theorem dX12_thirdPass_192 : decode cX12_thirdPass 192 = .ok (.aload_n 0, 1) := by decide +kernel
theorem dX12_thirdPass_193 : decode cX12_thirdPass 193 = .ok (.aload_n 0, 1) := by decide +kernel
theorem dX12_thirdPass_194 : decode cX12_thirdPass 194 = .ok (.getfield 156, 3) := by decide +kernel
theorem dX12_thirdPass_197 : decode cX12_thirdPass 197 = .ok (.iconst 1, 1) := by decide +kernel
theorem dX12_thirdPass_198 : decode cX12_thirdPass 198 = .ok (.isub, 1) := by decide +kernel
theorem dX12_thirdPass_199 : decode cX12_thirdPass 199 = .ok (.putfield 325, 3) := by decide +kernel
theorem dX12_thirdPass_202 : decode cX12_thirdPass 202 = .ok (.goto 18, 3) := by decide +kernel
theorem dX12_thirdPass_205 : decode cX12_thirdPass 205 = .ok (.aload_n 0, 1) := by decide +kernel
theorem dX12_thirdPass_206 : decode cX12_thirdPass 206 = .ok (.getfield 66, 3) := by decide +kernel
theorem dX12_thirdPass_209 : decode cX12_thirdPass 209 = .ok (.iload_n 3, 1) := by decide +kernel
theorem dX12_thirdPass_210 : decode cX12_thirdPass 210 = .ok (.iload 4, 2) := by decide +kernel
theorem dX12_thirdPass_212 : decode cX12_thirdPass 212 = .ok (.aload_n 0, 1) := by decide +kernel
theorem dX12_thirdPass_213 : decode cX12_thirdPass 213 = .ok (.iload 4, 2) := by decide +kernel
theorem dX12_thirdPass_215 : decode cX12_thirdPass 215 = .ok (.invokevirtual 369, 3) := by decide +kernel
theorem dX12_thirdPass_218 : decode cX12_thirdPass 218 = .ok (.iadd, 1) := by decide +kernel
theorem dX12_thirdPass_219 : decode cX12_thirdPass 219 = .ok (.iastore, 1) := by decide +kernel
theorem dX12_thirdPass_220 : decode cX12_thirdPass 220 = .ok (.iinc 2 1, 3) := by decide +kernel
theorem dX12_thirdPass_223 : decode cX12_thirdPass 223 = .ok (.goto (-188), 3) := by decide +kernel
theorem dX12_thirdPass_226 : decode cX12_thirdPass 226 = .ok (.iinc 1 1, 3) := by decide +kernel
theorem dX12_thirdPass_229 : decode cX12_thirdPass 229 = .ok (.goto (-206), 3) := by decide +kernel
theorem dX12_thirdPass_232 : decode cX12_thirdPass 232 = .ok (.iconst 0, 1) := by decide +kernel
theorem dX12_thirdPass_233 : decode cX12_thirdPass 233 = .ok (.ireturn, 1) := by decide +kernel
theorem dX12_sizeOf_0 : decode cX12_sizeOf 0 = .ok (.aload_n 0, 1) := by decide +kernel
theorem dX12_sizeOf_1 : decode cX12_sizeOf 1 = .ok (.getfield 156, 3) := by decide +kernel
theorem dX12_sizeOf_4 : decode cX12_sizeOf 4 = .ok (.bipush 8, 2) := by decide +kernel
theorem dX12_sizeOf_6 : decode cX12_sizeOf 6 = .ok (.if_icmp .ne 10, 3) := by decide +kernel
theorem dX12_sizeOf_9 : decode cX12_sizeOf 9 = .ok (.aload_n 0, 1) := by decide +kernel
theorem dX12_sizeOf_10 : decode cX12_sizeOf 10 = .ok (.getfield 193, 3) := by decide +kernel
theorem dX12_sizeOf_13 : decode cX12_sizeOf 13 = .ok (.goto 78, 3) := by decide +kernel
theorem dX12_sizeOf_16 : decode cX12_sizeOf 16 = .ok (.aload_n 0, 1) := by decide +kernel
theorem dX12_sizeOf_17 : decode cX12_sizeOf 17 = .ok (.getfield 156, 3) := by decide +kernel
theorem dX12_sizeOf_20 : decode cX12_sizeOf 20 = .ok (.bipush 9, 2) := by decide +kernel
theorem dX12_sizeOf_22 : decode cX12_sizeOf 22 = .ok (.if_icmp .ne 12, 3) := by decide +kernel
theorem dX12_sizeOf_25 : decode cX12_sizeOf 25 = .ok (.iload_n 1, 1) := by decide +kernel
theorem dX12_sizeOf_26 : decode cX12_sizeOf 26 = .ok (.invokestatic 353, 3) := by decide +kernel
theorem dX12_sizeOf_29 : decode cX12_sizeOf 29 = .ok (.iload_n 1, 1) := by decide +kernel
theorem dX12_sizeOf_30 : decode cX12_sizeOf 30 = .ok (.isub, 1) := by decide +kernel
theorem dX12_sizeOf_31 : decode cX12_sizeOf 31 = .ok (.goto 60, 3) := by decide +kernel
theorem dX12_sizeOf_34 : decode cX12_sizeOf 34 = .ok (.aload_n 0, 1) := by decide +kernel
theorem dX12_sizeOf_35 : decode cX12_sizeOf 35 = .ok (.getfield 156, 3) := by decide +kernel
theorem dX12_sizeOf_38 : decode cX12_sizeOf 38 = .ok (.bipush 7, 2) := by decide +kernel
theorem dX12_sizeOf_40 : decode cX12_sizeOf 40 = .ok (.if_icmp .ne 7, 3) := by decide +kernel
theorem dX12_sizeOf_43 : decode cX12_sizeOf 43 = .ok (.iconst 1, 1) := by decide +kernel
theorem dX12_sizeOf_44 : decode cX12_sizeOf 44 = .ok (.goto 47, 3) := by decide +kernel
theorem dX12_sizeOf_47 : decode cX12_sizeOf 47 = .ok (.aload_n 0, 1) := by decide +kernel
theorem dX12_sizeOf_48 : decode cX12_sizeOf 48 = .ok (.getfield 156, 3) := by decide +kernel
theorem dX12_sizeOf_51 : decode cX12_sizeOf 51 = .ok (.iconst 5, 1) := by decide +kernel
theorem dX12_sizeOf_52 : decode cX12_sizeOf 52 = .ok (.if_icmp .eq 21, 3) := by decide +kernel
theorem dX12_sizeOf_55 : decode cX12_sizeOf 55 = .ok (.aload_n 0, 1) := by decide +kernel
theorem dX12_sizeOf_56 : decode cX12_sizeOf 56 = .ok (.getfield 156, 3) := by decide +kernel
theorem dX12_sizeOf_59 : decode cX12_sizeOf 59 = .ok (.bipush 6, 2) := by decide +kernel
theorem dX12_sizeOf_61 : decode cX12_sizeOf 61 = .ok (.if_icmp .eq 12, 3) := by decide +kernel
theorem dX12_sizeOf_64 : decode cX12_sizeOf 64 = .ok (.aload_n 0, 1) := by decide +kernel
theorem dX12_sizeOf_65 : decode cX12_sizeOf 65 = .ok (.getfield 156, 3) := by decide +kernel
theorem dX12_sizeOf_68 : decode cX12_sizeOf 68 = .ok (.bipush 13, 2) := by decide +kernel
theorem dX12_sizeOf_70 : decode cX12_sizeOf 70 = .ok (.if_icmp .ne 7, 3) := by decide +kernel
theorem dX12_sizeOf_73 : decode cX12_sizeOf 73 = .ok (.iconst 4, 1) := by decide +kernel
theorem dX12_sizeOf_74 : decode cX12_sizeOf 74 = .ok (.goto 17, 3) := by decide +kernel
theorem dX12_sizeOf_77 : decode cX12_sizeOf 77 = .ok (.aload_n 0, 1) := by decide +kernel
theorem dX12_sizeOf_78 : decode cX12_sizeOf 78 = .ok (.getfield 156, 3) := by decide +kernel
theorem dX12_sizeOf_81 : decode cX12_sizeOf 81 = .ok (.bipush 10, 2) := by decide +kernel
theorem dX12_sizeOf_83 : decode cX12_sizeOf 83 = .ok (.if_icmp .lt 7, 3) := by decide +kernel
theorem dX12_sizeOf_86 : decode cX12_sizeOf 86 = .ok (.iconst 2, 1) := by decide +kernel
theorem dX12_sizeOf_87 : decode cX12_sizeOf 87 = .ok (.goto 4, 3) := by decide +kernel
theorem dX12_sizeOf_90 : decode cX12_sizeOf 90 = .ok (.iconst 0, 1) := by decide +kernel
theorem dX12_sizeOf_91 : decode cX12_sizeOf 91 = .ok (.ireturn, 1) := by decide +kernel
theorem dX12_mainAddress_0 : decode cX12_mainAddress 0 = .ok (.iconst 0, 1) := by decide +kernel
theorem dX12_mainAddress_1 : decode cX12_mainAddress 1 = .ok (.istore_n 1, 1) := by decide +kernel
theorem dX12_mainAddress_2 : decode cX12_mainAddress 2 = .ok (.iload_n 1, 1) := by decide +kernel
theorem dX12_mainAddress_3 : decode cX12_mainAddress 3 = .ok (.aload_n 0, 1) := by decide +kernel
theorem dX12_mainAddress_4 : decode cX12_mainAddress 4 = .ok (.getfield 319, 3) := by decide +kernel
theorem dX12_mainAddress_7 : decode cX12_mainAddress 7 = .ok (.if_icmp .ge 119, 3) := by decide +kernel
theorem dX12_mainAddress_10 : decode cX12_mainAddress 10 = .ok (.aload_n 0, 1) := by decide +kernel
theorem dX12_mainAddress_11 : decode cX12_mainAddress 11 = .ok (.getfield 35, 3) := by decide +kernel
theorem dX12_mainAddress_14 : decode cX12_mainAddress 14 = .ok (.iload_n 1, 1) := by decide +kernel
theorem dX12_mainAddress_15 : decode cX12_mainAddress 15 = .ok (.baload, 1) := by decide +kernel
theorem dX12_mainAddress_16 : decode cX12_mainAddress 16 = .ok (.ifCond .eq 92, 3) := by decide +kernel
theorem dX12_mainAddress_19 : decode cX12_mainAddress 19 = .ok (.aload_n 0, 1) := by decide +kernel
theorem dX12_mainAddress_20 : decode cX12_mainAddress 20 = .ok (.getfield 29, 3) := by decide +kernel
theorem dX12_mainAddress_23 : decode cX12_mainAddress 23 = .ok (.iload_n 1, 1) := by decide +kernel
theorem dX12_mainAddress_24 : decode cX12_mainAddress 24 = .ok (.iaload, 1) := by decide +kernel
theorem dX12_mainAddress_25 : decode cX12_mainAddress 25 = .ok (.ifCond .ne 83, 3) := by decide +kernel
theorem dX12_mainAddress_28 : decode cX12_mainAddress 28 = .ok (.aload_n 0, 1) := by decide +kernel
theorem dX12_mainAddress_29 : decode cX12_mainAddress 29 = .ok (.getfield 23, 3) := by decide +kernel
theorem dX12_mainAddress_32 : decode cX12_mainAddress 32 = .ok (.bipush 6, 2) := by decide +kernel
theorem dX12_mainAddress_34 : decode cX12_mainAddress 34 = .ok (.iload_n 1, 1) := by decide +kernel
theorem dX12_mainAddress_35 : decode cX12_mainAddress 35 = .ok (.imul, 1) := by decide +kernel
theorem dX12_mainAddress_36 : decode cX12_mainAddress 36 = .ok (.caload, 1) := by decide +kernel
theorem dX12_mainAddress_37 : decode cX12_mainAddress 37 = .ok (.bipush 109, 2) := by decide +kernel
theorem dX12_mainAddress_39 : decode cX12_mainAddress 39 = .ok (.if_icmp .ne 69, 3) := by decide +kernel
theorem dX12_mainAddress_42 : decode cX12_mainAddress 42 = .ok (.aload_n 0, 1) := by decide +kernel
theorem dX12_mainAddress_43 : decode cX12_mainAddress 43 = .ok (.getfield 23, 3) := by decide +kernel
theorem dX12_mainAddress_46 : decode cX12_mainAddress 46 = .ok (.bipush 6, 2) := by decide +kernel
theorem dX12_mainAddress_48 : decode cX12_mainAddress 48 = .ok (.iload_n 1, 1) := by decide +kernel
theorem dX12_mainAddress_49 : decode cX12_mainAddress 49 = .ok (.imul, 1) := by decide +kernel
theorem dX12_mainAddress_50 : decode cX12_mainAddress 50 = .ok (.iconst 1, 1) := by decide +kernel
theorem dX12_mainAddress_51 : decode cX12_mainAddress 51 = .ok (.iadd, 1) := by decide +kernel
theorem dX12_mainAddress_52 : decode cX12_mainAddress 52 = .ok (.caload, 1) := by decide +kernel
theorem dX12_mainAddress_53 : decode cX12_mainAddress 53 = .ok (.bipush 97, 2) := by decide +kernel
theorem dX12_mainAddress_55 : decode cX12_mainAddress 55 = .ok (.if_icmp .ne 53, 3) := by decide +kernel
theorem dX12_mainAddress_58 : decode cX12_mainAddress 58 = .ok (.aload_n 0, 1) := by decide +kernel
theorem dX12_mainAddress_59 : decode cX12_mainAddress 59 = .ok (.getfield 23, 3) := by decide +kernel
theorem dX12_mainAddress_62 : decode cX12_mainAddress 62 = .ok (.bipush 6, 2) := by decide +kernel
theorem dX12_mainAddress_64 : decode cX12_mainAddress 64 = .ok (.iload_n 1, 1) := by decide +kernel
theorem dX12_mainAddress_65 : decode cX12_mainAddress 65 = .ok (.imul, 1) := by decide +kernel
theorem dX12_mainAddress_66 : decode cX12_mainAddress 66 = .ok (.iconst 2, 1) := by decide +kernel
theorem dX12_mainAddress_67 : decode cX12_mainAddress 67 = .ok (.iadd, 1) := by decide +kernel
theorem dX12_mainAddress_68 : decode cX12_mainAddress 68 = .ok (.caload, 1) := by decide +kernel
theorem dX12_mainAddress_69 : decode cX12_mainAddress 69 = .ok (.bipush 105, 2) := by decide +kernel
theorem dX12_mainAddress_71 : decode cX12_mainAddress 71 = .ok (.if_icmp .ne 37, 3) := by decide +kernel
theorem dX12_mainAddress_74 : decode cX12_mainAddress 74 = .ok (.aload_n 0, 1) := by decide +kernel
theorem dX12_mainAddress_75 : decode cX12_mainAddress 75 = .ok (.getfield 23, 3) := by decide +kernel
theorem dX12_mainAddress_78 : decode cX12_mainAddress 78 = .ok (.bipush 6, 2) := by decide +kernel
theorem dX12_mainAddress_80 : decode cX12_mainAddress 80 = .ok (.iload_n 1, 1) := by decide +kernel
theorem dX12_mainAddress_81 : decode cX12_mainAddress 81 = .ok (.imul, 1) := by decide +kernel
theorem dX12_mainAddress_82 : decode cX12_mainAddress 82 = .ok (.iconst 3, 1) := by decide +kernel
theorem dX12_mainAddress_83 : decode cX12_mainAddress 83 = .ok (.iadd, 1) := by decide +kernel
theorem dX12_mainAddress_84 : decode cX12_mainAddress 84 = .ok (.caload, 1) := by decide +kernel
theorem dX12_mainAddress_85 : decode cX12_mainAddress 85 = .ok (.bipush 110, 2) := by decide +kernel
theorem dX12_mainAddress_87 : decode cX12_mainAddress 87 = .ok (.if_icmp .ne 21, 3) := by decide +kernel
theorem dX12_mainAddress_90 : decode cX12_mainAddress 90 = .ok (.aload_n 0, 1) := by decide +kernel
theorem dX12_mainAddress_91 : decode cX12_mainAddress 91 = .ok (.getfield 23, 3) := by decide +kernel
theorem dX12_mainAddress_94 : decode cX12_mainAddress 94 = .ok (.bipush 6, 2) := by decide +kernel
theorem dX12_mainAddress_96 : decode cX12_mainAddress 96 = .ok (.iload_n 1, 1) := by decide +kernel
theorem dX12_mainAddress_97 : decode cX12_mainAddress 97 = .ok (.imul, 1) := by decide +kernel
theorem dX12_mainAddress_98 : decode cX12_mainAddress 98 = .ok (.iconst 4, 1) := by decide +kernel
theorem dX12_mainAddress_99 : decode cX12_mainAddress 99 = .ok (.iadd, 1) := by decide +kernel
theorem dX12_mainAddress_100 : decode cX12_mainAddress 100 = .ok (.caload, 1) := by decide +kernel
theorem dX12_mainAddress_101 : decode cX12_mainAddress 101 = .ok (.ifCond .ne 7, 3) := by decide +kernel
theorem dX12_mainAddress_104 : decode cX12_mainAddress 104 = .ok (.iconst 1, 1) := by decide +kernel
theorem dX12_mainAddress_105 : decode cX12_mainAddress 105 = .ok (.goto 4, 3) := by decide +kernel
theorem dX12_mainAddress_108 : decode cX12_mainAddress 108 = .ok (.iconst 0, 1) := by decide +kernel
theorem dX12_mainAddress_109 : decode cX12_mainAddress 109 = .ok (.istore_n 2, 1) := by decide +kernel
theorem dX12_mainAddress_110 : decode cX12_mainAddress 110 = .ok (.iload_n 2, 1) := by decide +kernel
theorem dX12_mainAddress_111 : decode cX12_mainAddress 111 = .ok (.ifCond .eq 9, 3) := by decide +kernel
theorem dX12_mainAddress_114 : decode cX12_mainAddress 114 = .ok (.aload_n 0, 1) := by decide +kernel
theorem dX12_mainAddress_115 : decode cX12_mainAddress 115 = .ok (.iload_n 1, 1) := by decide +kernel
theorem dX12_mainAddress_116 : decode cX12_mainAddress 116 = .ok (.invokevirtual 356, 3) := by decide +kernel
theorem dX12_mainAddress_119 : decode cX12_mainAddress 119 = .ok (.ireturn, 1) := by decide +kernel
theorem dX12_mainAddress_120 : decode cX12_mainAddress 120 = .ok (.iinc 1 1, 3) := by decide +kernel
theorem dX12_mainAddress_123 : decode cX12_mainAddress 123 = .ok (.goto (-121), 3) := by decide +kernel
theorem dX12_mainAddress_126 : decode cX12_mainAddress 126 = .ok (.iconst (-1), 1) := by decide +kernel
theorem dX12_mainAddress_127 : decode cX12_mainAddress 127 = .ok (.ireturn, 1) := by decide +kernel
theorem dX12_link_0 : decode cX12_link 0 = .ok (.aload_n 0, 1) := by decide +kernel
theorem dX12_link_1 : decode cX12_link 1 = .ok (.iconst 0, 1) := by decide +kernel
theorem dX12_link_2 : decode cX12_link 2 = .ok (.putfield 72, 3) := by decide +kernel
theorem dX12_link_5 : decode cX12_link 5 = .ok (.aload_n 0, 1) := by decide +kernel
theorem dX12_link_6 : decode cX12_link 6 = .ok (.invokevirtual 69, 3) := by decide +kernel
theorem dX12_link_9 : decode cX12_link 9 = .ok (.aload_n 0, 1) := by decide +kernel
theorem dX12_link_10 : decode cX12_link 10 = .ok (.invokevirtual 372, 3) := by decide +kernel
theorem dX12_link_13 : decode cX12_link 13 = .ok (.istore_n 1, 1) := by decide +kernel
theorem dX12_link_14 : decode cX12_link 14 = .ok (.iload_n 1, 1) := by decide +kernel
theorem dX12_link_15 : decode cX12_link 15 = .ok (.ifCond .ne 10, 3) := by decide +kernel
theorem dX12_link_18 : decode cX12_link 18 = .ok (.aload_n 0, 1) := by decide +kernel
theorem dX12_link_19 : decode cX12_link 19 = .ok (.invokevirtual 375, 3) := by decide +kernel
theorem dX12_link_22 : decode cX12_link 22 = .ok (.goto 4, 3) := by decide +kernel
theorem dX12_link_25 : decode cX12_link 25 = .ok (.iload_n 1, 1) := by decide +kernel
theorem dX12_link_26 : decode cX12_link 26 = .ok (.istore_n 1, 1) := by decide +kernel
theorem dX12_link_27 : decode cX12_link 27 = .ok (.iload_n 1, 1) := by decide +kernel
theorem dX12_link_28 : decode cX12_link 28 = .ok (.ifCond .eq 5, 3) := by decide +kernel
theorem dX12_link_31 : decode cX12_link 31 = .ok (.iload_n 1, 1) := by decide +kernel
theorem dX12_link_32 : decode cX12_link 32 = .ok (.ireturn, 1) := by decide +kernel
theorem dX12_link_33 : decode cX12_link 33 = .ok (.aload_n 0, 1) := by decide +kernel
theorem dX12_link_34 : decode cX12_link 34 = .ok (.iconst 1, 1) := by decide +kernel
theorem dX12_link_35 : decode cX12_link 35 = .ok (.aload_n 0, 1) := by decide +kernel
theorem dX12_link_36 : decode cX12_link 36 = .ok (.iconst 0, 1) := by decide +kernel
theorem dX12_link_37 : decode cX12_link 37 = .ok (.bipush 8, 2) := by decide +kernel
theorem dX12_link_39 : decode cX12_link 39 = .ok (.iconst 0, 1) := by decide +kernel
theorem dX12_link_40 : decode cX12_link 40 = .ok (.invokevirtual 378, 3) := by decide +kernel
theorem dX12_link_43 : decode cX12_link 43 = .ok (.iconst 1, 1) := by decide +kernel
theorem dX12_link_44 : decode cX12_link 44 = .ok (.invokevirtual 378, 3) := by decide +kernel
theorem dX12_link_47 : decode cX12_link 47 = .ok (.istore_n 2, 1) := by decide +kernel
theorem dX12_link_48 : decode cX12_link 48 = .ok (.aload_n 0, 1) := by decide +kernel
theorem dX12_link_49 : decode cX12_link 49 = .ok (.iconst 2, 1) := by decide +kernel
theorem dX12_link_50 : decode cX12_link 50 = .ok (.aload_n 0, 1) := by decide +kernel
theorem dX12_link_51 : decode cX12_link 51 = .ok (.iconst 1, 1) := by decide +kernel
theorem dX12_link_52 : decode cX12_link 52 = .ok (.ldc_w 382, 3) := by decide +kernel
theorem dX12_link_55 : decode cX12_link 55 = .ok (.iconst 0, 1) := by decide +kernel
theorem dX12_link_56 : decode cX12_link 56 = .ok (.invokevirtual 378, 3) := by decide +kernel
theorem dX12_link_59 : decode cX12_link 59 = .ok (.iconst 0, 1) := by decide +kernel
theorem dX12_link_60 : decode cX12_link 60 = .ok (.invokevirtual 378, 3) := by decide +kernel
theorem dX12_link_63 : decode cX12_link 63 = .ok (.istore_n 3, 1) := by decide +kernel
theorem dX12_link_64 : decode cX12_link 64 = .ok (.iload_n 2, 1) := by decide +kernel
theorem dX12_link_65 : decode cX12_link 65 = .ok (.sipush 2048, 3) := by decide +kernel
theorem dX12_link_68 : decode cX12_link 68 = .ok (.if_icmp .gt 10, 3) := by decide +kernel
theorem dX12_link_71 : decode cX12_link 71 = .ok (.iload_n 3, 1) := by decide +kernel
theorem dX12_link_72 : decode cX12_link 72 = .ok (.ldc_w 383, 3) := by decide +kernel
theorem dX12_link_75 : decode cX12_link 75 = .ok (.if_icmp .le 6, 3) := by decide +kernel
theorem dX12_link_78 : decode cX12_link 78 = .ok (.bipush (-7), 2) := by decide +kernel
theorem dX12_link_80 : decode cX12_link 80 = .ok (.ireturn, 1) := by decide +kernel
theorem dX12_link_81 : decode cX12_link 81 = .ok (.aload_n 0, 1) := by decide +kernel
theorem dX12_link_82 : decode cX12_link 82 = .ok (.invokevirtual 384, 3) := by decide +kernel
theorem dX12_link_85 : decode cX12_link 85 = .ok (.istore_n 1, 1) := by decide +kernel
theorem dX12_link_86 : decode cX12_link 86 = .ok (.aload_n 0, 1) := by decide +kernel
theorem dX12_link_87 : decode cX12_link 87 = .ok (.invokevirtual 387, 3) := by decide +kernel
theorem dX12_link_90 : decode cX12_link 90 = .ok (.istore 4, 2) := by decide +kernel
theorem dX12_link_92 : decode cX12_link 92 = .ok (.iload_n 1, 1) := by decide +kernel
theorem dX12_link_93 : decode cX12_link 93 = .ok (.ifCond .ne 8, 3) := by decide +kernel
theorem dX12_link_96 : decode cX12_link 96 = .ok (.iload 4, 2) := by decide +kernel
theorem dX12_link_98 : decode cX12_link 98 = .ok (.ifCond .ge 14, 3) := by decide +kernel
theorem dX12_link_101 : decode cX12_link 101 = .ok (.iload_n 1, 1) := by decide +kernel
theorem dX12_link_102 : decode cX12_link 102 = .ok (.ifCond .eq 7, 3) := by decide +kernel
theorem dX12_link_105 : decode cX12_link 105 = .ok (.iload_n 1, 1) := by decide +kernel
theorem dX12_link_106 : decode cX12_link 106 = .ok (.goto 5, 3) := by decide +kernel
theorem dX12_link_109 : decode cX12_link 109 = .ok (.bipush (-8), 2) := by decide +kernel
theorem dX12_link_111 : decode cX12_link 111 = .ok (.ireturn, 1) := by decide +kernel
theorem dX12_link_112 : decode cX12_link 112 = .ok (.aload_n 0, 1) := by decide +kernel
theorem dX12_link_113 : decode cX12_link 113 = .ok (.iload_n 2, 1) := by decide +kernel
theorem dX12_link_114 : decode cX12_link 114 = .ok (.iload 4, 2) := by decide +kernel
theorem dX12_link_116 : decode cX12_link 116 = .ok (.invokevirtual 390, 3) := by decide +kernel
theorem dX12_link_119 : decode cX12_link 119 = .ok (.aload_n 0, 1) := by decide +kernel
theorem dX12_link_120 : decode cX12_link 120 = .ok (.getfield 393, 3) := by decide +kernel
theorem dX12_link_123 : decode cX12_link 123 = .ok (.ireturn, 1) := by decide +kernel
theorem dX12_setWord_0 : decode cX12_setWord 0 = .ok (.iconst 0, 1) := by decide +kernel
theorem dX12_setWord_1 : decode cX12_setWord 1 = .ok (.istore_n 3, 1) := by decide +kernel
theorem dX12_setWord_2 : decode cX12_setWord 2 = .ok (.iload_n 3, 1) := by decide +kernel
theorem dX12_setWord_3 : decode cX12_setWord 3 = .ok (.iconst 4, 1) := by decide +kernel
theorem dX12_setWord_4 : decode cX12_setWord 4 = .ok (.if_icmp .ge 27, 3) := by decide +kernel
theorem dX12_setWord_7 : decode cX12_setWord 7 = .ok (.aload_n 0, 1) := by decide +kernel
theorem dX12_setWord_8 : decode cX12_setWord 8 = .ok (.getfield 57, 3) := by decide +kernel
theorem dX12_setWord_11 : decode cX12_setWord 11 = .ok (.iload_n 1, 1) := by decide +kernel
theorem dX12_setWord_12 : decode cX12_setWord 12 = .ok (.iload_n 3, 1) := by decide +kernel
theorem dX12_setWord_13 : decode cX12_setWord 13 = .ok (.iadd, 1) := by decide +kernel
theorem dX12_setWord_14 : decode cX12_setWord 14 = .ok (.iload_n 2, 1) := by decide +kernel
theorem dX12_setWord_15 : decode cX12_setWord 15 = .ok (.bipush 8, 2) := by decide +kernel
theorem dX12_setWord_17 : decode cX12_setWord 17 = .ok (.iload_n 3, 1) := by decide +kernel
theorem dX12_setWord_18 : decode cX12_setWord 18 = .ok (.imul, 1) := by decide +kernel
theorem dX12_setWord_19 : decode cX12_setWord 19 = .ok (.ishr, 1) := by decide +kernel
theorem dX12_setWord_20 : decode cX12_setWord 20 = .ok (.sipush 255, 3) := by decide +kernel
theorem dX12_setWord_23 : decode cX12_setWord 23 = .ok (.iand, 1) := by decide +kernel
theorem dX12_setWord_24 : decode cX12_setWord 24 = .ok (.iastore, 1) := by decide +kernel
theorem dX12_setWord_25 : decode cX12_setWord 25 = .ok (.iinc 3 1, 3) := by decide +kernel
theorem dX12_setWord_28 : decode cX12_setWord 28 = .ok (.goto (-26), 3) := by decide +kernel
theorem dX12_setWord_31 : decode cX12_setWord 31 = .ok (.return_, 1) := by decide +kernel
theorem dX12_finish_0 : decode cX12_finish 0 = .ok (.aload_n 0, 1) := by decide +kernel
theorem dX12_finish_1 : decode cX12_finish 1 = .ok (.iload_n 1, 1) := by decide +kernel
theorem dX12_finish_2 : decode cX12_finish 2 = .ok (.putfield 393, 3) := by decide +kernel
theorem dX12_finish_5 : decode cX12_finish 5 = .ok (.iconst 0, 1) := by decide +kernel
theorem dX12_finish_6 : decode cX12_finish 6 = .ok (.istore_n 3, 1) := by decide +kernel
theorem dX12_finish_7 : decode cX12_finish 7 = .ok (.iload_n 3, 1) := by decide +kernel
theorem dX12_finish_8 : decode cX12_finish 8 = .ok (.sipush 2048, 3) := by decide +kernel
theorem dX12_finish_11 : decode cX12_finish 11 = .ok (.if_icmp .ge 16, 3) := by decide +kernel
theorem dX12_finish_14 : decode cX12_finish 14 = .ok (.aload_n 0, 1) := by decide +kernel
theorem dX12_finish_15 : decode cX12_finish 15 = .ok (.getfield 57, 3) := by decide +kernel
theorem dX12_finish_18 : decode cX12_finish 18 = .ok (.iload_n 3, 1) := by decide +kernel
theorem dX12_finish_19 : decode cX12_finish 19 = .ok (.iconst 0, 1) := by decide +kernel
theorem dX12_finish_20 : decode cX12_finish 20 = .ok (.iastore, 1) := by decide +kernel
theorem dX12_finish_21 : decode cX12_finish 21 = .ok (.iinc 3 1, 3) := by decide +kernel
theorem dX12_finish_24 : decode cX12_finish 24 = .ok (.goto (-17), 3) := by decide +kernel
theorem dX12_finish_27 : decode cX12_finish 27 = .ok (.aload_n 0, 1) := by decide +kernel
theorem dX12_finish_28 : decode cX12_finish 28 = .ok (.iconst 0, 1) := by decide +kernel
theorem dX12_finish_29 : decode cX12_finish 29 = .ok (.ldc_w 383, 3) := by decide +kernel
theorem dX12_finish_32 : decode cX12_finish 32 = .ok (.invokevirtual 396, 3) := by decide +kernel
theorem dX12_finish_35 : decode cX12_finish 35 = .ok (.aload_n 0, 1) := by decide +kernel
theorem dX12_finish_36 : decode cX12_finish 36 = .ok (.iconst 4, 1) := by decide +kernel
theorem dX12_finish_37 : decode cX12_finish 37 = .ok (.iload_n 2, 1) := by decide +kernel
theorem dX12_finish_38 : decode cX12_finish 38 = .ok (.iconst 1, 1) := by decide +kernel
theorem dX12_finish_39 : decode cX12_finish 39 = .ok (.iadd, 1) := by decide +kernel
theorem dX12_finish_40 : decode cX12_finish 40 = .ok (.invokevirtual 396, 3) := by decide +kernel
theorem dX12_finish_43 : decode cX12_finish 43 = .ok (.iconst 0, 1) := by decide +kernel
theorem dX12_finish_44 : decode cX12_finish 44 = .ok (.istore_n 3, 1) := by decide +kernel
theorem dX12_finish_45 : decode cX12_finish 45 = .ok (.iload_n 3, 1) := by decide +kernel
theorem dX12_finish_46 : decode cX12_finish 46 = .ok (.bipush 12, 2) := by decide +kernel
theorem dX12_finish_48 : decode cX12_finish 48 = .ok (.if_icmp .ge 106, 3) := by decide +kernel
theorem dX12_finish_51 : decode cX12_finish 51 = .ok (.aload_n 0, 1) := by decide +kernel
theorem dX12_finish_52 : decode cX12_finish 52 = .ok (.getfield 51, 3) := by decide +kernel
theorem dX12_finish_55 : decode cX12_finish 55 = .ok (.iload_n 3, 1) := by decide +kernel
theorem dX12_finish_56 : decode cX12_finish 56 = .ok (.aload_n 0, 1) := by decide +kernel
theorem dX12_finish_57 : decode cX12_finish 57 = .ok (.getfield 39, 3) := by decide +kernel
theorem dX12_finish_60 : decode cX12_finish 60 = .ok (.iload_n 3, 1) := by decide +kernel
theorem dX12_finish_61 : decode cX12_finish 61 = .ok (.iaload, 1) := by decide +kernel
theorem dX12_finish_62 : decode cX12_finish 62 = .ok (.iastore, 1) := by decide +kernel
theorem dX12_finish_63 : decode cX12_finish 63 = .ok (.aload_n 0, 1) := by decide +kernel
theorem dX12_finish_64 : decode cX12_finish 64 = .ok (.getfield 54, 3) := by decide +kernel
theorem dX12_finish_67 : decode cX12_finish 67 = .ok (.iload_n 3, 1) := by decide +kernel
theorem dX12_finish_68 : decode cX12_finish 68 = .ok (.aload_n 0, 1) := by decide +kernel
theorem dX12_finish_69 : decode cX12_finish 69 = .ok (.getfield 42, 3) := by decide +kernel
theorem dX12_finish_72 : decode cX12_finish 72 = .ok (.iload_n 3, 1) := by decide +kernel
theorem dX12_finish_73 : decode cX12_finish 73 = .ok (.iaload, 1) := by decide +kernel
theorem dX12_finish_74 : decode cX12_finish 74 = .ok (.iastore, 1) := by decide +kernel
theorem dX12_finish_75 : decode cX12_finish 75 = .ok (.iload_n 3, 1) := by decide +kernel
theorem dX12_finish_76 : decode cX12_finish 76 = .ok (.iconst 3, 1) := by decide +kernel
theorem dX12_finish_77 : decode cX12_finish 77 = .ok (.irem, 1) := by decide +kernel
theorem dX12_finish_78 : decode cX12_finish 78 = .ok (.ifCond .ne 12, 3) := by decide +kernel
theorem dX12_finish_81 : decode cX12_finish 81 = .ok (.aload_n 0, 1) := by decide +kernel
theorem dX12_finish_82 : decode cX12_finish 82 = .ok (.getfield 42, 3) := by decide +kernel
theorem dX12_finish_85 : decode cX12_finish 85 = .ok (.iload_n 3, 1) := by decide +kernel
theorem dX12_finish_86 : decode cX12_finish 86 = .ok (.iaload, 1) := by decide +kernel
theorem dX12_finish_87 : decode cX12_finish 87 = .ok (.goto 9, 3) := by decide +kernel
theorem dX12_finish_90 : decode cX12_finish 90 = .ok (.aload_n 0, 1) := by decide +kernel
theorem dX12_finish_91 : decode cX12_finish 91 = .ok (.getfield 45, 3) := by decide +kernel
theorem dX12_finish_94 : decode cX12_finish 94 = .ok (.iload_n 3, 1) := by decide +kernel
theorem dX12_finish_95 : decode cX12_finish 95 = .ok (.iaload, 1) := by decide +kernel
theorem dX12_finish_96 : decode cX12_finish 96 = .ok (.istore 4, 2) := by decide +kernel
theorem dX12_finish_98 : decode cX12_finish 98 = .ok (.iconst 0, 1) := by decide +kernel
theorem dX12_finish_99 : decode cX12_finish 99 = .ok (.istore 5, 2) := by decide +kernel
theorem dX12_finish_101 : decode cX12_finish 101 = .ok (.iload 5, 2) := by decide +kernel
theorem dX12_finish_103 : decode cX12_finish 103 = .ok (.aload_n 0, 1) := by decide +kernel
theorem dX12_finish_104 : decode cX12_finish 104 = .ok (.getfield 39, 3) := by decide +kernel
theorem dX12_finish_107 : decode cX12_finish 107 = .ok (.iload_n 3, 1) := by decide +kernel
theorem dX12_finish_108 : decode cX12_finish 108 = .ok (.iaload, 1) := by decide +kernel
theorem dX12_finish_109 : decode cX12_finish 109 = .ok (.if_icmp .ge 39, 3) := by decide +kernel
theorem dX12_finish_112 : decode cX12_finish 112 = .ok (.iload_n 3, 1) := by decide +kernel
theorem dX12_finish_113 : decode cX12_finish 113 = .ok (.iconst 3, 1) := by decide +kernel
theorem dX12_finish_114 : decode cX12_finish 114 = .ok (.irem, 1) := by decide +kernel
theorem dX12_finish_115 : decode cX12_finish 115 = .ok (.iconst 2, 1) := by decide +kernel
theorem dX12_finish_116 : decode cX12_finish 116 = .ok (.if_icmp .eq 32, 3) := by decide +kernel
theorem dX12_finish_119 : decode cX12_finish 119 = .ok (.aload_n 0, 1) := by decide +kernel
theorem dX12_finish_120 : decode cX12_finish 120 = .ok (.getfield 57, 3) := by decide +kernel
theorem dX12_finish_123 : decode cX12_finish 123 = .ok (.iload 4, 2) := by decide +kernel
theorem dX12_finish_125 : decode cX12_finish 125 = .ok (.iload 5, 2) := by decide +kernel
theorem dX12_finish_127 : decode cX12_finish 127 = .ok (.iadd, 1) := by decide +kernel
theorem dX12_finish_128 : decode cX12_finish 128 = .ok (.aload_n 0, 1) := by decide +kernel
theorem dX12_finish_129 : decode cX12_finish 129 = .ok (.getfield 48, 3) := by decide +kernel
theorem dX12_finish_132 : decode cX12_finish 132 = .ok (.sipush 1024, 3) := by decide +kernel
theorem dX12_finish_135 : decode cX12_finish 135 = .ok (.iload_n 3, 1) := by decide +kernel
theorem dX12_finish_136 : decode cX12_finish 136 = .ok (.imul, 1) := by decide +kernel
theorem dX12_finish_137 : decode cX12_finish 137 = .ok (.iload 5, 2) := by decide +kernel
theorem dX12_finish_139 : decode cX12_finish 139 = .ok (.iadd, 1) := by decide +kernel
theorem dX12_finish_140 : decode cX12_finish 140 = .ok (.iaload, 1) := by decide +kernel
theorem dX12_finish_141 : decode cX12_finish 141 = .ok (.iastore, 1) := by decide +kernel
theorem dX12_finish_142 : decode cX12_finish 142 = .ok (.iinc 5 1, 3) := by decide +kernel
theorem dX12_finish_145 : decode cX12_finish 145 = .ok (.goto (-44), 3) := by decide +kernel
theorem dX12_finish_148 : decode cX12_finish 148 = .ok (.iinc 3 1, 3) := by decide +kernel
theorem dX12_finish_151 : decode cX12_finish 151 = .ok (.goto (-106), 3) := by decide +kernel
theorem dX12_finish_154 : decode cX12_finish 154 = .ok (.aload_n 0, 1) := by decide +kernel
theorem dX12_finish_155 : decode cX12_finish 155 = .ok (.aload_n 0, 1) := by decide +kernel
theorem dX12_finish_156 : decode cX12_finish 156 = .ok (.getfield 319, 3) := by decide +kernel
theorem dX12_finish_159 : decode cX12_finish 159 = .ok (.putfield 322, 3) := by decide +kernel
theorem dX12_finish_162 : decode cX12_finish 162 = .ok (.iconst 0, 1) := by decide +kernel
theorem dX12_finish_163 : decode cX12_finish 163 = .ok (.istore_n 3, 1) := by decide +kernel
theorem dX12_finish_164 : decode cX12_finish 164 = .ok (.iload_n 3, 1) := by decide +kernel
theorem dX12_finish_165 : decode cX12_finish 165 = .ok (.aload_n 0, 1) := by decide +kernel
theorem dX12_finish_166 : decode cX12_finish 166 = .ok (.getfield 319, 3) := by decide +kernel
theorem dX12_finish_169 : decode cX12_finish 169 = .ok (.if_icmp .ge 97, 3) := by decide +kernel
theorem dX12_finish_172 : decode cX12_finish 172 = .ok (.aload_n 0, 1) := by decide +kernel
theorem dX12_finish_173 : decode cX12_finish 173 = .ok (.getfield 26, 3) := by decide +kernel
theorem dX12_finish_176 : decode cX12_finish 176 = .ok (.bipush 96, 2) := by decide +kernel
theorem dX12_finish_178 : decode cX12_finish 178 = .ok (.iload_n 3, 1) := by decide +kernel
theorem dX12_finish_179 : decode cX12_finish 179 = .ok (.iadd, 1) := by decide +kernel
theorem dX12_finish_180 : decode cX12_finish 180 = .ok (.aload_n 0, 1) := by decide +kernel
theorem dX12_finish_181 : decode cX12_finish 181 = .ok (.getfield 26, 3) := by decide +kernel
theorem dX12_finish_184 : decode cX12_finish 184 = .ok (.iload_n 3, 1) := by decide +kernel
theorem dX12_finish_185 : decode cX12_finish 185 = .ok (.iaload, 1) := by decide +kernel
theorem dX12_finish_186 : decode cX12_finish 186 = .ok (.iastore, 1) := by decide +kernel
theorem dX12_finish_187 : decode cX12_finish 187 = .ok (.aload_n 0, 1) := by decide +kernel
theorem dX12_finish_188 : decode cX12_finish 188 = .ok (.getfield 29, 3) := by decide +kernel
theorem dX12_finish_191 : decode cX12_finish 191 = .ok (.bipush 96, 2) := by decide +kernel
theorem dX12_finish_193 : decode cX12_finish 193 = .ok (.iload_n 3, 1) := by decide +kernel
theorem dX12_finish_194 : decode cX12_finish 194 = .ok (.iadd, 1) := by decide +kernel
theorem dX12_finish_195 : decode cX12_finish 195 = .ok (.aload_n 0, 1) := by decide +kernel
theorem dX12_finish_196 : decode cX12_finish 196 = .ok (.getfield 29, 3) := by decide +kernel
theorem dX12_finish_199 : decode cX12_finish 199 = .ok (.iload_n 3, 1) := by decide +kernel
theorem dX12_finish_200 : decode cX12_finish 200 = .ok (.iaload, 1) := by decide +kernel
theorem dX12_finish_201 : decode cX12_finish 201 = .ok (.iastore, 1) := by decide +kernel
theorem dX12_finish_202 : decode cX12_finish 202 = .ok (.aload_n 0, 1) := by decide +kernel
theorem dX12_finish_203 : decode cX12_finish 203 = .ok (.getfield 32, 3) := by decide +kernel
theorem dX12_finish_206 : decode cX12_finish 206 = .ok (.bipush 96, 2) := by decide +kernel
theorem dX12_finish_208 : decode cX12_finish 208 = .ok (.iload_n 3, 1) := by decide +kernel
theorem dX12_finish_209 : decode cX12_finish 209 = .ok (.iadd, 1) := by decide +kernel
theorem dX12_finish_210 : decode cX12_finish 210 = .ok (.aload_n 0, 1) := by decide +kernel
theorem dX12_finish_211 : decode cX12_finish 211 = .ok (.getfield 32, 3) := by decide +kernel
theorem dX12_finish_214 : decode cX12_finish 214 = .ok (.iload_n 3, 1) := by decide +kernel
theorem dX12_finish_215 : decode cX12_finish 215 = .ok (.iaload, 1) := by decide +kernel
theorem dX12_finish_216 : decode cX12_finish 216 = .ok (.iastore, 1) := by decide +kernel
theorem dX12_finish_217 : decode cX12_finish 217 = .ok (.iconst 0, 1) := by decide +kernel
theorem dX12_finish_218 : decode cX12_finish 218 = .ok (.istore 4, 2) := by decide +kernel
theorem dX12_finish_220 : decode cX12_finish 220 = .ok (.iload 4, 2) := by decide +kernel
theorem dX12_finish_222 : decode cX12_finish 222 = .ok (.bipush 6, 2) := by decide +kernel
theorem dX12_finish_224 : decode cX12_finish 224 = .ok (.if_icmp .ge 36, 3) := by decide +kernel
theorem dX12_finish_227 : decode cX12_finish 227 = .ok (.aload_n 0, 1) := by decide +kernel
theorem dX12_finish_228 : decode cX12_finish 228 = .ok (.getfield 23, 3) := by decide +kernel
theorem dX12_finish_231 : decode cX12_finish 231 = .ok (.bipush 6, 2) := by decide +kernel
theorem dX12_finish_233 : decode cX12_finish 233 = .ok (.bipush 96, 2) := by decide +kernel
theorem dX12_finish_235 : decode cX12_finish 235 = .ok (.iload_n 3, 1) := by decide +kernel
theorem dX12_finish_236 : decode cX12_finish 236 = .ok (.iadd, 1) := by decide +kernel
theorem dX12_finish_237 : decode cX12_finish 237 = .ok (.imul, 1) := by decide +kernel
theorem dX12_finish_238 : decode cX12_finish 238 = .ok (.iload 4, 2) := by decide +kernel
theorem dX12_finish_240 : decode cX12_finish 240 = .ok (.iadd, 1) := by decide +kernel
theorem dX12_finish_241 : decode cX12_finish 241 = .ok (.aload_n 0, 1) := by decide +kernel
theorem dX12_finish_242 : decode cX12_finish 242 = .ok (.getfield 23, 3) := by decide +kernel
theorem dX12_finish_245 : decode cX12_finish 245 = .ok (.bipush 6, 2) := by decide +kernel
theorem dX12_finish_247 : decode cX12_finish 247 = .ok (.iload_n 3, 1) := by decide +kernel
theorem dX12_finish_248 : decode cX12_finish 248 = .ok (.imul, 1) := by decide +kernel
theorem dX12_finish_249 : decode cX12_finish 249 = .ok (.iload 4, 2) := by decide +kernel
theorem dX12_finish_251 : decode cX12_finish 251 = .ok (.iadd, 1) := by decide +kernel
theorem dX12_finish_252 : decode cX12_finish 252 = .ok (.caload, 1) := by decide +kernel
theorem dX12_finish_253 : decode cX12_finish 253 = .ok (.castore, 1) := by decide +kernel
theorem dX12_finish_254 : decode cX12_finish 254 = .ok (.iinc 4 1, 3) := by decide +kernel
theorem dX12_finish_257 : decode cX12_finish 257 = .ok (.goto (-37), 3) := by decide +kernel
theorem dX12_finish_260 : decode cX12_finish 260 = .ok (.iinc 3 1, 3) := by decide +kernel
theorem dX12_finish_263 : decode cX12_finish 263 = .ok (.goto (-99), 3) := by decide +kernel
theorem dX12_finish_266 : decode cX12_finish 266 = .ok (.aload_n 0, 1) := by decide +kernel
theorem dX12_finish_267 : decode cX12_finish 267 = .ok (.invokevirtual 399, 3) := by decide +kernel
theorem dX12_finish_270 : decode cX12_finish 270 = .ok (.return_, 1) := by decide +kernel
theorem dX12_putHex_0 : decode cX12_putHex 0 = .ok (.aload_n 0, 1) := by decide +kernel
theorem dX12_putHex_1 : decode cX12_putHex 1 = .ok (.aload_n 0, 1) := by decide +kernel
theorem dX12_putHex_2 : decode cX12_putHex 2 = .ok (.getfield 402, 3) := by decide +kernel
theorem dX12_putHex_5 : decode cX12_putHex 5 = .ok (.iload_n 1, 1) := by decide +kernel
theorem dX12_putHex_6 : decode cX12_putHex 6 = .ok (.iadd, 1) := by decide +kernel
theorem dX12_putHex_7 : decode cX12_putHex 7 = .ok (.putfield 402, 3) := by decide +kernel
theorem dX12_putHex_10 : decode cX12_putHex 10 = .ok (.iconst 4, 1) := by decide +kernel
theorem dX12_putHex_11 : decode cX12_putHex 11 = .ok (.istore_n 2, 1) := by decide +kernel
theorem dX12_putHex_12 : decode cX12_putHex 12 = .ok (.iload_n 2, 1) := by decide +kernel
theorem dX12_putHex_13 : decode cX12_putHex 13 = .ok (.ifCond .lt 57, 3) := by decide +kernel
theorem dX12_putHex_16 : decode cX12_putHex 16 = .ok (.iload_n 1, 1) := by decide +kernel
theorem dX12_putHex_17 : decode cX12_putHex 17 = .ok (.iload_n 2, 1) := by decide +kernel
theorem dX12_putHex_18 : decode cX12_putHex 18 = .ok (.ishr, 1) := by decide +kernel
theorem dX12_putHex_19 : decode cX12_putHex 19 = .ok (.bipush 15, 2) := by decide +kernel
theorem dX12_putHex_21 : decode cX12_putHex 21 = .ok (.iand, 1) := by decide +kernel
theorem dX12_putHex_22 : decode cX12_putHex 22 = .ok (.istore_n 3, 1) := by decide +kernel
theorem dX12_putHex_23 : decode cX12_putHex 23 = .ok (.aload_n 0, 1) := by decide +kernel
theorem dX12_putHex_24 : decode cX12_putHex 24 = .ok (.getfield 63, 3) := by decide +kernel
theorem dX12_putHex_27 : decode cX12_putHex 27 = .ok (.aload_n 0, 1) := by decide +kernel
theorem dX12_putHex_28 : decode cX12_putHex 28 = .ok (.getfield 405, 3) := by decide +kernel
theorem dX12_putHex_31 : decode cX12_putHex 31 = .ok (.iload_n 3, 1) := by decide +kernel
theorem dX12_putHex_32 : decode cX12_putHex 32 = .ok (.bipush 10, 2) := by decide +kernel
theorem dX12_putHex_34 : decode cX12_putHex 34 = .ok (.if_icmp .ge 10, 3) := by decide +kernel
theorem dX12_putHex_37 : decode cX12_putHex 37 = .ok (.bipush 48, 2) := by decide +kernel
theorem dX12_putHex_39 : decode cX12_putHex 39 = .ok (.iload_n 3, 1) := by decide +kernel
theorem dX12_putHex_40 : decode cX12_putHex 40 = .ok (.iadd, 1) := by decide +kernel
theorem dX12_putHex_41 : decode cX12_putHex 41 = .ok (.goto 10, 3) := by decide +kernel
theorem dX12_putHex_44 : decode cX12_putHex 44 = .ok (.bipush 65, 2) := by decide +kernel
theorem dX12_putHex_46 : decode cX12_putHex 46 = .ok (.iload_n 3, 1) := by decide +kernel
theorem dX12_putHex_47 : decode cX12_putHex 47 = .ok (.iadd, 1) := by decide +kernel
theorem dX12_putHex_48 : decode cX12_putHex 48 = .ok (.bipush 10, 2) := by decide +kernel
theorem dX12_putHex_50 : decode cX12_putHex 50 = .ok (.isub, 1) := by decide +kernel
theorem dX12_putHex_51 : decode cX12_putHex 51 = .ok (.i2c, 1) := by decide +kernel
theorem dX12_putHex_52 : decode cX12_putHex 52 = .ok (.castore, 1) := by decide +kernel
theorem dX12_putHex_53 : decode cX12_putHex 53 = .ok (.aload_n 0, 1) := by decide +kernel
theorem dX12_putHex_54 : decode cX12_putHex 54 = .ok (.dup, 1) := by decide +kernel
theorem dX12_putHex_55 : decode cX12_putHex 55 = .ok (.getfield 405, 3) := by decide +kernel
theorem dX12_putHex_58 : decode cX12_putHex 58 = .ok (.iconst 1, 1) := by decide +kernel
theorem dX12_putHex_59 : decode cX12_putHex 59 = .ok (.iadd, 1) := by decide +kernel
theorem dX12_putHex_60 : decode cX12_putHex 60 = .ok (.putfield 405, 3) := by decide +kernel
theorem dX12_putHex_63 : decode cX12_putHex 63 = .ok (.iload_n 2, 1) := by decide +kernel
theorem dX12_putHex_64 : decode cX12_putHex 64 = .ok (.iconst 4, 1) := by decide +kernel
theorem dX12_putHex_65 : decode cX12_putHex 65 = .ok (.isub, 1) := by decide +kernel
theorem dX12_putHex_66 : decode cX12_putHex 66 = .ok (.istore_n 2, 1) := by decide +kernel
theorem dX12_putHex_67 : decode cX12_putHex 67 = .ok (.goto (-55), 3) := by decide +kernel
theorem dX12_putHex_70 : decode cX12_putHex 70 = .ok (.return_, 1) := by decide +kernel
theorem dX12_record_0 : decode cX12_record 0 = .ok (.aload_n 0, 1) := by decide +kernel
theorem dX12_record_1 : decode cX12_record 1 = .ok (.getfield 63, 3) := by decide +kernel
theorem dX12_record_4 : decode cX12_record 4 = .ok (.aload_n 0, 1) := by decide +kernel
theorem dX12_record_5 : decode cX12_record 5 = .ok (.getfield 405, 3) := by decide +kernel
theorem dX12_record_8 : decode cX12_record 8 = .ok (.bipush 58, 2) := by decide +kernel
theorem dX12_record_10 : decode cX12_record 10 = .ok (.castore, 1) := by decide +kernel
theorem dX12_record_11 : decode cX12_record 11 = .ok (.aload_n 0, 1) := by decide +kernel
theorem dX12_record_12 : decode cX12_record 12 = .ok (.dup, 1) := by decide +kernel
theorem dX12_record_13 : decode cX12_record 13 = .ok (.getfield 405, 3) := by decide +kernel
theorem dX12_record_16 : decode cX12_record 16 = .ok (.iconst 1, 1) := by decide +kernel
theorem dX12_record_17 : decode cX12_record 17 = .ok (.iadd, 1) := by decide +kernel
theorem dX12_record_18 : decode cX12_record 18 = .ok (.putfield 405, 3) := by decide +kernel
theorem dX12_record_21 : decode cX12_record 21 = .ok (.aload_n 0, 1) := by decide +kernel
theorem dX12_record_22 : decode cX12_record 22 = .ok (.iconst 0, 1) := by decide +kernel
theorem dX12_record_23 : decode cX12_record 23 = .ok (.putfield 402, 3) := by decide +kernel
theorem dX12_record_26 : decode cX12_record 26 = .ok (.aload_n 0, 1) := by decide +kernel
theorem dX12_record_27 : decode cX12_record 27 = .ok (.iload 4, 2) := by decide +kernel
theorem dX12_record_29 : decode cX12_record 29 = .ok (.invokevirtual 408, 3) := by decide +kernel
theorem dX12_record_32 : decode cX12_record 32 = .ok (.aload_n 0, 1) := by decide +kernel
theorem dX12_record_33 : decode cX12_record 33 = .ok (.iload_n 2, 1) := by decide +kernel
theorem dX12_record_34 : decode cX12_record 34 = .ok (.bipush 8, 2) := by decide +kernel
theorem dX12_record_36 : decode cX12_record 36 = .ok (.ishr, 1) := by decide +kernel
theorem dX12_record_37 : decode cX12_record 37 = .ok (.invokevirtual 408, 3) := by decide +kernel
theorem dX12_record_40 : decode cX12_record 40 = .ok (.aload_n 0, 1) := by decide +kernel
theorem dX12_record_41 : decode cX12_record 41 = .ok (.iload_n 2, 1) := by decide +kernel
theorem dX12_record_42 : decode cX12_record 42 = .ok (.sipush 255, 3) := by decide +kernel
theorem dX12_record_45 : decode cX12_record 45 = .ok (.iand, 1) := by decide +kernel
theorem dX12_record_46 : decode cX12_record 46 = .ok (.invokevirtual 408, 3) := by decide +kernel
theorem dX12_record_49 : decode cX12_record 49 = .ok (.aload_n 0, 1) := by decide +kernel
theorem dX12_record_50 : decode cX12_record 50 = .ok (.iload_n 1, 1) := by decide +kernel
theorem dX12_record_51 : decode cX12_record 51 = .ok (.invokevirtual 408, 3) := by decide +kernel
theorem dX12_record_54 : decode cX12_record 54 = .ok (.iconst 0, 1) := by decide +kernel
theorem dX12_record_55 : decode cX12_record 55 = .ok (.istore 5, 2) := by decide +kernel
theorem dX12_record_57 : decode cX12_record 57 = .ok (.iload 5, 2) := by decide +kernel
theorem dX12_record_59 : decode cX12_record 59 = .ok (.iload 4, 2) := by decide +kernel
theorem dX12_record_61 : decode cX12_record 61 = .ok (.if_icmp .ge 31, 3) := by decide +kernel
theorem dX12_record_64 : decode cX12_record 64 = .ok (.aload_n 0, 1) := by decide +kernel
theorem dX12_record_65 : decode cX12_record 65 = .ok (.iload_n 1, 1) := by decide +kernel
theorem dX12_record_66 : decode cX12_record 66 = .ok (.iconst 4, 1) := by decide +kernel
theorem dX12_record_67 : decode cX12_record 67 = .ok (.if_icmp .ne 7, 3) := by decide +kernel
theorem dX12_record_70 : decode cX12_record 70 = .ok (.iconst 0, 1) := by decide +kernel
theorem dX12_record_71 : decode cX12_record 71 = .ok (.goto 12, 3) := by decide +kernel
theorem dX12_record_74 : decode cX12_record 74 = .ok (.aload_n 0, 1) := by decide +kernel
theorem dX12_record_75 : decode cX12_record 75 = .ok (.getfield 57, 3) := by decide +kernel
theorem dX12_record_78 : decode cX12_record 78 = .ok (.iload_n 3, 1) := by decide +kernel
theorem dX12_record_79 : decode cX12_record 79 = .ok (.iload 5, 2) := by decide +kernel
theorem dX12_record_81 : decode cX12_record 81 = .ok (.iadd, 1) := by decide +kernel
theorem dX12_record_82 : decode cX12_record 82 = .ok (.iaload, 1) := by decide +kernel
theorem dX12_record_83 : decode cX12_record 83 = .ok (.invokevirtual 408, 3) := by decide +kernel
theorem dX12_record_86 : decode cX12_record 86 = .ok (.iinc 5 1, 3) := by decide +kernel
theorem dX12_record_89 : decode cX12_record 89 = .ok (.goto (-32), 3) := by decide +kernel
theorem dX12_record_92 : decode cX12_record 92 = .ok (.aload_n 0, 1) := by decide +kernel
theorem dX12_record_93 : decode cX12_record 93 = .ok (.aload_n 0, 1) := by decide +kernel
theorem dX12_record_94 : decode cX12_record 94 = .ok (.getfield 402, 3) := by decide +kernel
theorem dX12_record_97 : decode cX12_record 97 = .ok (.ineg, 1) := by decide +kernel
theorem dX12_record_98 : decode cX12_record 98 = .ok (.sipush 255, 3) := by decide +kernel
theorem dX12_record_101 : decode cX12_record 101 = .ok (.iand, 1) := by decide +kernel
theorem dX12_record_102 : decode cX12_record 102 = .ok (.invokevirtual 408, 3) := by decide +kernel
theorem dX12_record_105 : decode cX12_record 105 = .ok (.aload_n 0, 1) := by decide +kernel
theorem dX12_record_106 : decode cX12_record 106 = .ok (.getfield 63, 3) := by decide +kernel
theorem dX12_record_109 : decode cX12_record 109 = .ok (.aload_n 0, 1) := by decide +kernel
theorem dX12_record_110 : decode cX12_record 110 = .ok (.getfield 405, 3) := by decide +kernel
theorem dX12_record_113 : decode cX12_record 113 = .ok (.bipush 10, 2) := by decide +kernel
theorem dX12_record_115 : decode cX12_record 115 = .ok (.castore, 1) := by decide +kernel
theorem dX12_record_116 : decode cX12_record 116 = .ok (.aload_n 0, 1) := by decide +kernel
theorem dX12_record_117 : decode cX12_record 117 = .ok (.dup, 1) := by decide +kernel
theorem dX12_record_118 : decode cX12_record 118 = .ok (.getfield 405, 3) := by decide +kernel
theorem dX12_record_121 : decode cX12_record 121 = .ok (.iconst 1, 1) := by decide +kernel
theorem dX12_record_122 : decode cX12_record 122 = .ok (.iadd, 1) := by decide +kernel
theorem dX12_record_123 : decode cX12_record 123 = .ok (.putfield 405, 3) := by decide +kernel
theorem dX12_record_126 : decode cX12_record 126 = .ok (.return_, 1) := by decide +kernel
theorem dX12_write_0 : decode cX12_write 0 = .ok (.aload_n 0, 1) := by decide +kernel
theorem dX12_write_1 : decode cX12_write 1 = .ok (.iconst 0, 1) := by decide +kernel
theorem dX12_write_2 : decode cX12_write 2 = .ok (.putfield 405, 3) := by decide +kernel
theorem dX12_write_5 : decode cX12_write 5 = .ok (.aload_n 0, 1) := by decide +kernel
theorem dX12_write_6 : decode cX12_write 6 = .ok (.iconst 4, 1) := by decide +kernel
theorem dX12_write_7 : decode cX12_write 7 = .ok (.iconst 0, 1) := by decide +kernel
theorem dX12_write_8 : decode cX12_write 8 = .ok (.iconst 0, 1) := by decide +kernel
theorem dX12_write_9 : decode cX12_write 9 = .ok (.iconst 2, 1) := by decide +kernel
theorem dX12_write_10 : decode cX12_write 10 = .ok (.invokevirtual 411, 3) := by decide +kernel
theorem dX12_write_13 : decode cX12_write 13 = .ok (.iconst 0, 1) := by decide +kernel
theorem dX12_write_14 : decode cX12_write 14 = .ok (.istore_n 1, 1) := by decide +kernel
theorem dX12_write_15 : decode cX12_write 15 = .ok (.iload_n 1, 1) := by decide +kernel
theorem dX12_write_16 : decode cX12_write 16 = .ok (.aload_n 0, 1) := by decide +kernel
theorem dX12_write_17 : decode cX12_write 17 = .ok (.getfield 393, 3) := by decide +kernel
theorem dX12_write_20 : decode cX12_write 20 = .ok (.if_icmp .ge 40, 3) := by decide +kernel
theorem dX12_write_23 : decode cX12_write 23 = .ok (.aload_n 0, 1) := by decide +kernel
theorem dX12_write_24 : decode cX12_write 24 = .ok (.iconst 0, 1) := by decide +kernel
theorem dX12_write_25 : decode cX12_write 25 = .ok (.iload_n 1, 1) := by decide +kernel
theorem dX12_write_26 : decode cX12_write 26 = .ok (.iload_n 1, 1) := by decide +kernel
theorem dX12_write_27 : decode cX12_write 27 = .ok (.aload_n 0, 1) := by decide +kernel
theorem dX12_write_28 : decode cX12_write 28 = .ok (.getfield 393, 3) := by decide +kernel
theorem dX12_write_31 : decode cX12_write 31 = .ok (.iload_n 1, 1) := by decide +kernel
theorem dX12_write_32 : decode cX12_write 32 = .ok (.isub, 1) := by decide +kernel
theorem dX12_write_33 : decode cX12_write 33 = .ok (.bipush 16, 2) := by decide +kernel
theorem dX12_write_35 : decode cX12_write 35 = .ok (.if_icmp .ge 12, 3) := by decide +kernel
theorem dX12_write_38 : decode cX12_write 38 = .ok (.aload_n 0, 1) := by decide +kernel
theorem dX12_write_39 : decode cX12_write 39 = .ok (.getfield 393, 3) := by decide +kernel
theorem dX12_write_42 : decode cX12_write 42 = .ok (.iload_n 1, 1) := by decide +kernel
theorem dX12_write_43 : decode cX12_write 43 = .ok (.isub, 1) := by decide +kernel
theorem dX12_write_44 : decode cX12_write 44 = .ok (.goto 5, 3) := by decide +kernel
theorem dX12_write_47 : decode cX12_write 47 = .ok (.bipush 16, 2) := by decide +kernel
theorem dX12_write_49 : decode cX12_write 49 = .ok (.invokevirtual 411, 3) := by decide +kernel
theorem dX12_write_52 : decode cX12_write 52 = .ok (.iload_n 1, 1) := by decide +kernel
theorem dX12_write_53 : decode cX12_write 53 = .ok (.bipush 16, 2) := by decide +kernel
theorem dX12_write_55 : decode cX12_write 55 = .ok (.iadd, 1) := by decide +kernel
theorem dX12_write_56 : decode cX12_write 56 = .ok (.istore_n 1, 1) := by decide +kernel
theorem dX12_write_57 : decode cX12_write 57 = .ok (.goto (-42), 3) := by decide +kernel
theorem dX12_write_60 : decode cX12_write 60 = .ok (.aload_n 0, 1) := by decide +kernel
theorem dX12_write_61 : decode cX12_write 61 = .ok (.iconst 1, 1) := by decide +kernel
theorem dX12_write_62 : decode cX12_write 62 = .ok (.iconst 0, 1) := by decide +kernel
theorem dX12_write_63 : decode cX12_write 63 = .ok (.iconst 0, 1) := by decide +kernel
theorem dX12_write_64 : decode cX12_write 64 = .ok (.iconst 0, 1) := by decide +kernel
theorem dX12_write_65 : decode cX12_write 65 = .ok (.invokevirtual 411, 3) := by decide +kernel
theorem dX12_write_68 : decode cX12_write 68 = .ok (.return_, 1) := by decide +kernel
theorem dX12_fault_0 : decode cX12_fault 0 = .ok (.aload_n 0, 1) := by decide +kernel
theorem dX12_fault_1 : decode cX12_fault 1 = .ok (.iload_n 1, 1) := by decide +kernel
theorem dX12_fault_2 : decode cX12_fault 2 = .ok (.iconst 0, 1) := by decide +kernel
theorem dX12_fault_3 : decode cX12_fault 3 = .ok (.iconst 2, 1) := by decide +kernel
theorem dX12_fault_4 : decode cX12_fault 4 = .ok (.invokestatic 415, 3) := by decide +kernel
theorem dX12_fault_7 : decode cX12_fault 7 = .ok (.ifCond .eq 7, 3) := by decide +kernel
theorem dX12_fault_10 : decode cX12_fault 10 = .ok (.iconst 0, 1) := by decide +kernel
theorem dX12_fault_11 : decode cX12_fault 11 = .ok (.goto 4, 3) := by decide +kernel
theorem dX12_fault_14 : decode cX12_fault 14 = .ok (.iconst 1, 1) := by decide +kernel
theorem dX12_fault_15 : decode cX12_fault 15 = .ok (.invokevirtual 83, 3) := by decide +kernel
theorem dX12_fault_18 : decode cX12_fault 18 = .ok (.ifCond .eq 5, 3) := by decide +kernel
theorem dX12_fault_21 : decode cX12_fault 21 = .ok (.iconst 0, 1) := by decide +kernel
theorem dX12_fault_22 : decode cX12_fault 22 = .ok (.ireturn, 1) := by decide +kernel
theorem dX12_fault_23 : decode cX12_fault 23 = .ok (.aload_n 0, 1) := by decide +kernel
theorem dX12_fault_24 : decode cX12_fault 24 = .ok (.getfield 60, 3) := by decide +kernel
theorem dX12_fault_27 : decode cX12_fault 27 = .ok (.iload_n 1, 1) := by decide +kernel
theorem dX12_fault_28 : decode cX12_fault 28 = .ok (.iaload, 1) := by decide +kernel
theorem dX12_fault_29 : decode cX12_fault 29 = .ok (.ireturn, 1) := by decide +kernel
theorem dX12_octet_0 : decode cX12_octet 0 = .ok (.aload_n 0, 1) := by decide +kernel
theorem dX12_octet_1 : decode cX12_octet 1 = .ok (.iconst 0, 1) := by decide +kernel
theorem dX12_octet_2 : decode cX12_octet 2 = .ok (.putfield 72, 3) := by decide +kernel
theorem dX12_octet_5 : decode cX12_octet 5 = .ok (.iload_n 1, 1) := by decide +kernel
theorem dX12_octet_6 : decode cX12_octet 6 = .ok (.iconst 0, 1) := by decide +kernel
theorem dX12_octet_7 : decode cX12_octet 7 = .ok (.aload_n 0, 1) := by decide +kernel
theorem dX12_octet_8 : decode cX12_octet 8 = .ok (.getfield 393, 3) := by decide +kernel
theorem dX12_octet_11 : decode cX12_octet 11 = .ok (.iconst 1, 1) := by decide +kernel
theorem dX12_octet_12 : decode cX12_octet 12 = .ok (.isub, 1) := by decide +kernel
theorem dX12_octet_13 : decode cX12_octet 13 = .ok (.invokestatic 415, 3) := by decide +kernel
theorem dX12_octet_16 : decode cX12_octet 16 = .ok (.ifCond .eq 12, 3) := by decide +kernel
theorem dX12_octet_19 : decode cX12_octet 19 = .ok (.aload_n 0, 1) := by decide +kernel
theorem dX12_octet_20 : decode cX12_octet 20 = .ok (.getfield 57, 3) := by decide +kernel
theorem dX12_octet_23 : decode cX12_octet 23 = .ok (.iload_n 1, 1) := by decide +kernel
theorem dX12_octet_24 : decode cX12_octet 24 = .ok (.iaload, 1) := by decide +kernel
theorem dX12_octet_25 : decode cX12_octet 25 = .ok (.goto 4, 3) := by decide +kernel
theorem dX12_octet_28 : decode cX12_octet 28 = .ok (.iconst (-1), 1) := by decide +kernel
theorem dX12_octet_29 : decode cX12_octet 29 = .ok (.ireturn, 1) := by decide +kernel
theorem dX12_hex_0 : decode cX12_hex 0 = .ok (.aload_n 0, 1) := by decide +kernel
theorem dX12_hex_1 : decode cX12_hex 1 = .ok (.iconst 0, 1) := by decide +kernel
theorem dX12_hex_2 : decode cX12_hex 2 = .ok (.putfield 72, 3) := by decide +kernel
theorem dX12_hex_5 : decode cX12_hex 5 = .ok (.iload_n 1, 1) := by decide +kernel
theorem dX12_hex_6 : decode cX12_hex 6 = .ok (.iconst 0, 1) := by decide +kernel
theorem dX12_hex_7 : decode cX12_hex 7 = .ok (.aload_n 0, 1) := by decide +kernel
theorem dX12_hex_8 : decode cX12_hex 8 = .ok (.getfield 405, 3) := by decide +kernel
theorem dX12_hex_11 : decode cX12_hex 11 = .ok (.iconst 1, 1) := by decide +kernel
theorem dX12_hex_12 : decode cX12_hex 12 = .ok (.isub, 1) := by decide +kernel
theorem dX12_hex_13 : decode cX12_hex 13 = .ok (.invokestatic 415, 3) := by decide +kernel
theorem dX12_hex_16 : decode cX12_hex 16 = .ok (.ifCond .eq 12, 3) := by decide +kernel
theorem dX12_hex_19 : decode cX12_hex 19 = .ok (.aload_n 0, 1) := by decide +kernel
theorem dX12_hex_20 : decode cX12_hex 20 = .ok (.getfield 63, 3) := by decide +kernel
theorem dX12_hex_23 : decode cX12_hex 23 = .ok (.iload_n 1, 1) := by decide +kernel
theorem dX12_hex_24 : decode cX12_hex 24 = .ok (.caload, 1) := by decide +kernel
theorem dX12_hex_25 : decode cX12_hex 25 = .ok (.goto 5, 3) := by decide +kernel
theorem dX12_hex_28 : decode cX12_hex 28 = .ok (.bipush 32, 2) := by decide +kernel
theorem dX12_hex_30 : decode cX12_hex 30 = .ok (.ireturn, 1) := by decide +kernel
theorem dX12_address_0 : decode cX12_address 0 = .ok (.aload_n 0, 1) := by decide +kernel
theorem dX12_address_1 : decode cX12_address 1 = .ok (.iload_n 1, 1) := by decide +kernel
theorem dX12_address_2 : decode cX12_address 2 = .ok (.invokestatic 87, 3) := by decide +kernel
theorem dX12_address_5 : decode cX12_address 5 = .ok (.ifCond .eq 7, 3) := by decide +kernel
theorem dX12_address_8 : decode cX12_address 8 = .ok (.iconst 0, 1) := by decide +kernel
theorem dX12_address_9 : decode cX12_address 9 = .ok (.goto 4, 3) := by decide +kernel
theorem dX12_address_12 : decode cX12_address 12 = .ok (.iconst 1, 1) := by decide +kernel
theorem dX12_address_13 : decode cX12_address 13 = .ok (.invokevirtual 83, 3) := by decide +kernel
theorem dX12_address_16 : decode cX12_address 16 = .ok (.ifCond .eq 5, 3) := by decide +kernel
theorem dX12_address_19 : decode cX12_address 19 = .ok (.iconst 0, 1) := by decide +kernel
theorem dX12_address_20 : decode cX12_address 20 = .ok (.ireturn, 1) := by decide +kernel
theorem dX12_address_21 : decode cX12_address 21 = .ok (.bipush 96, 2) := by decide +kernel
theorem dX12_address_23 : decode cX12_address 23 = .ok (.istore_n 2, 1) := by decide +kernel
theorem dX12_address_24 : decode cX12_address 24 = .ok (.iload_n 2, 1) := by decide +kernel
theorem dX12_address_25 : decode cX12_address 25 = .ok (.bipush 96, 2) := by decide +kernel
theorem dX12_address_27 : decode cX12_address 27 = .ok (.aload_n 0, 1) := by decide +kernel
theorem dX12_address_28 : decode cX12_address 28 = .ok (.getfield 322, 3) := by decide +kernel
theorem dX12_address_31 : decode cX12_address 31 = .ok (.iadd, 1) := by decide +kernel
theorem dX12_address_32 : decode cX12_address 32 = .ok (.if_icmp .ge 129, 3) := by decide +kernel
theorem dX12_address_35 : decode cX12_address 35 = .ok (.aload_n 0, 1) := by decide +kernel
theorem dX12_address_36 : decode cX12_address 36 = .ok (.getfield 26, 3) := by decide +kernel
theorem dX12_address_39 : decode cX12_address 39 = .ok (.iload_n 2, 1) := by decide +kernel
theorem dX12_address_40 : decode cX12_address 40 = .ok (.iaload, 1) := by decide +kernel
theorem dX12_address_41 : decode cX12_address 41 = .ok (.iload_n 1, 1) := by decide +kernel
theorem dX12_address_42 : decode cX12_address 42 = .ok (.if_icmp .ne 23, 3) := by decide +kernel
theorem dX12_address_45 : decode cX12_address 45 = .ok (.aload_n 0, 1) := by decide +kernel
theorem dX12_address_46 : decode cX12_address 46 = .ok (.getfield 76, 3) := by decide +kernel
theorem dX12_address_49 : decode cX12_address 49 = .ok (.ifCond .le 16, 3) := by decide +kernel
theorem dX12_address_52 : decode cX12_address 52 = .ok (.aload_n 0, 1) := by decide +kernel
theorem dX12_address_53 : decode cX12_address 53 = .ok (.getfield 76, 3) := by decide +kernel
theorem dX12_address_56 : decode cX12_address 56 = .ok (.bipush 6, 2) := by decide +kernel
theorem dX12_address_58 : decode cX12_address 58 = .ok (.if_icmp .gt 7, 3) := by decide +kernel
theorem dX12_address_61 : decode cX12_address 61 = .ok (.iconst 1, 1) := by decide +kernel
theorem dX12_address_62 : decode cX12_address 62 = .ok (.goto 4, 3) := by decide +kernel
theorem dX12_address_65 : decode cX12_address 65 = .ok (.iconst 0, 1) := by decide +kernel
theorem dX12_address_66 : decode cX12_address 66 = .ok (.istore_n 3, 1) := by decide +kernel
theorem dX12_address_67 : decode cX12_address 67 = .ok (.iconst 0, 1) := by decide +kernel
theorem dX12_address_68 : decode cX12_address 68 = .ok (.istore 4, 2) := by decide +kernel
theorem dX12_address_70 : decode cX12_address 70 = .ok (.iload 4, 2) := by decide +kernel
theorem dX12_address_72 : decode cX12_address 72 = .ok (.bipush 6, 2) := by decide +kernel
theorem dX12_address_74 : decode cX12_address 74 = .ok (.if_icmp .ge 54, 3) := by decide +kernel
theorem dX12_address_77 : decode cX12_address 77 = .ok (.iload_n 3, 1) := by decide +kernel
theorem dX12_address_78 : decode cX12_address 78 = .ok (.ifCond .eq 50, 3) := by decide +kernel
theorem dX12_address_81 : decode cX12_address 81 = .ok (.aload_n 0, 1) := by decide +kernel
theorem dX12_address_82 : decode cX12_address 82 = .ok (.getfield 23, 3) := by decide +kernel
theorem dX12_address_85 : decode cX12_address 85 = .ok (.bipush 6, 2) := by decide +kernel
theorem dX12_address_87 : decode cX12_address 87 = .ok (.iload_n 2, 1) := by decide +kernel
theorem dX12_address_88 : decode cX12_address 88 = .ok (.imul, 1) := by decide +kernel
theorem dX12_address_89 : decode cX12_address 89 = .ok (.iload 4, 2) := by decide +kernel
theorem dX12_address_91 : decode cX12_address 91 = .ok (.iadd, 1) := by decide +kernel
theorem dX12_address_92 : decode cX12_address 92 = .ok (.caload, 1) := by decide +kernel
theorem dX12_address_93 : decode cX12_address 93 = .ok (.iload 4, 2) := by decide +kernel
theorem dX12_address_95 : decode cX12_address 95 = .ok (.aload_n 0, 1) := by decide +kernel
theorem dX12_address_96 : decode cX12_address 96 = .ok (.getfield 76, 3) := by decide +kernel
theorem dX12_address_99 : decode cX12_address 99 = .ok (.if_icmp .ge 13, 3) := by decide +kernel
theorem dX12_address_102 : decode cX12_address 102 = .ok (.aload_n 0, 1) := by decide +kernel
theorem dX12_address_103 : decode cX12_address 103 = .ok (.getfield 7, 3) := by decide +kernel
theorem dX12_address_106 : decode cX12_address 106 = .ok (.iload 4, 2) := by decide +kernel
theorem dX12_address_108 : decode cX12_address 108 = .ok (.caload, 1) := by decide +kernel
theorem dX12_address_109 : decode cX12_address 109 = .ok (.goto 4, 3) := by decide +kernel
theorem dX12_address_112 : decode cX12_address 112 = .ok (.iconst 0, 1) := by decide +kernel
theorem dX12_address_113 : decode cX12_address 113 = .ok (.if_icmp .ne 7, 3) := by decide +kernel
theorem dX12_address_116 : decode cX12_address 116 = .ok (.iconst 1, 1) := by decide +kernel
theorem dX12_address_117 : decode cX12_address 117 = .ok (.goto 4, 3) := by decide +kernel
theorem dX12_address_120 : decode cX12_address 120 = .ok (.iconst 0, 1) := by decide +kernel
theorem dX12_address_121 : decode cX12_address 121 = .ok (.istore_n 3, 1) := by decide +kernel
theorem dX12_address_122 : decode cX12_address 122 = .ok (.iinc 4 1, 3) := by decide +kernel
theorem dX12_address_125 : decode cX12_address 125 = .ok (.goto (-55), 3) := by decide +kernel
theorem dX12_address_128 : decode cX12_address 128 = .ok (.iload_n 3, 1) := by decide +kernel
theorem dX12_address_129 : decode cX12_address 129 = .ok (.ifCond .eq 26, 3) := by decide +kernel
theorem dX12_address_132 : decode cX12_address 132 = .ok (.aload_n 0, 1) := by decide +kernel
theorem dX12_address_133 : decode cX12_address 133 = .ok (.getfield 54, 3) := by decide +kernel
theorem dX12_address_136 : decode cX12_address 136 = .ok (.iconst 3, 1) := by decide +kernel
theorem dX12_address_137 : decode cX12_address 137 = .ok (.iload_n 1, 1) := by decide +kernel
theorem dX12_address_138 : decode cX12_address 138 = .ok (.imul, 1) := by decide +kernel
theorem dX12_address_139 : decode cX12_address 139 = .ok (.aload_n 0, 1) := by decide +kernel
theorem dX12_address_140 : decode cX12_address 140 = .ok (.getfield 29, 3) := by decide +kernel
theorem dX12_address_143 : decode cX12_address 143 = .ok (.iload_n 2, 1) := by decide +kernel
theorem dX12_address_144 : decode cX12_address 144 = .ok (.iaload, 1) := by decide +kernel
theorem dX12_address_145 : decode cX12_address 145 = .ok (.iadd, 1) := by decide +kernel
theorem dX12_address_146 : decode cX12_address 146 = .ok (.iaload, 1) := by decide +kernel
theorem dX12_address_147 : decode cX12_address 147 = .ok (.aload_n 0, 1) := by decide +kernel
theorem dX12_address_148 : decode cX12_address 148 = .ok (.getfield 32, 3) := by decide +kernel
theorem dX12_address_151 : decode cX12_address 151 = .ok (.iload_n 2, 1) := by decide +kernel
theorem dX12_address_152 : decode cX12_address 152 = .ok (.iaload, 1) := by decide +kernel
theorem dX12_address_153 : decode cX12_address 153 = .ok (.iadd, 1) := by decide +kernel
theorem dX12_address_154 : decode cX12_address 154 = .ok (.ireturn, 1) := by decide +kernel
theorem dX12_address_155 : decode cX12_address 155 = .ok (.iinc 2 1, 3) := by decide +kernel
theorem dX12_address_158 : decode cX12_address 158 = .ok (.goto (-134), 3) := by decide +kernel
theorem dX12_address_161 : decode cX12_address 161 = .ok (.iconst (-1), 1) := by decide +kernel
theorem dX12_address_162 : decode cX12_address 162 = .ok (.ireturn, 1) := by decide +kernel
theorem dX12_size_0 : decode cX12_size 0 = .ok (.aload_n 0, 1) := by decide +kernel
theorem dX12_size_1 : decode cX12_size 1 = .ok (.iload_n 1, 1) := by decide +kernel
theorem dX12_size_2 : decode cX12_size 2 = .ok (.invokestatic 87, 3) := by decide +kernel
theorem dX12_size_5 : decode cX12_size 5 = .ok (.ifCond .eq 16, 3) := by decide +kernel
theorem dX12_size_8 : decode cX12_size 8 = .ok (.iload_n 2, 1) := by decide +kernel
theorem dX12_size_9 : decode cX12_size 9 = .ok (.iconst 0, 1) := by decide +kernel
theorem dX12_size_10 : decode cX12_size 10 = .ok (.iconst 2, 1) := by decide +kernel
theorem dX12_size_11 : decode cX12_size 11 = .ok (.invokestatic 415, 3) := by decide +kernel
theorem dX12_size_14 : decode cX12_size 14 = .ok (.ifCond .eq 7, 3) := by decide +kernel
theorem dX12_size_17 : decode cX12_size 17 = .ok (.iconst 0, 1) := by decide +kernel
theorem dX12_size_18 : decode cX12_size 18 = .ok (.goto 4, 3) := by decide +kernel
theorem dX12_size_21 : decode cX12_size 21 = .ok (.iconst 1, 1) := by decide +kernel
theorem dX12_size_22 : decode cX12_size 22 = .ok (.invokevirtual 83, 3) := by decide +kernel
theorem dX12_size_25 : decode cX12_size 25 = .ok (.ifCond .eq 5, 3) := by decide +kernel
theorem dX12_size_28 : decode cX12_size 28 = .ok (.iconst 0, 1) := by decide +kernel
theorem dX12_size_29 : decode cX12_size 29 = .ok (.ireturn, 1) := by decide +kernel
theorem dX12_size_30 : decode cX12_size 30 = .ok (.aload_n 0, 1) := by decide +kernel
theorem dX12_size_31 : decode cX12_size 31 = .ok (.getfield 51, 3) := by decide +kernel
theorem dX12_size_34 : decode cX12_size 34 = .ok (.iconst 3, 1) := by decide +kernel
theorem dX12_size_35 : decode cX12_size 35 = .ok (.iload_n 1, 1) := by decide +kernel
theorem dX12_size_36 : decode cX12_size 36 = .ok (.imul, 1) := by decide +kernel
theorem dX12_size_37 : decode cX12_size 37 = .ok (.iload_n 2, 1) := by decide +kernel
theorem dX12_size_38 : decode cX12_size 38 = .ok (.iadd, 1) := by decide +kernel
theorem dX12_size_39 : decode cX12_size 39 = .ok (.iaload, 1) := by decide +kernel
theorem dX12_size_40 : decode cX12_size 40 = .ok (.ireturn, 1) := by decide +kernel
end
section
theorem dX0_init_0 : decode cX0_init 0 = .ok (.aload_n 0, 1) := by decide +kernel
theorem dX0_init_1 : decode cX0_init 1 = .ok (.invokespecial 3, 3) := by decide +kernel
theorem dX0_init_4 : decode cX0_init 4 = .ok (.aload_n 0, 1) := by decide +kernel
theorem dX0_init_5 : decode cX0_init 5 = .ok (.new 9, 3) := by decide +kernel
theorem dX0_init_8 : decode cX0_init 8 = .ok (.dup, 1) := by decide +kernel
theorem dX0_init_9 : decode cX0_init 9 = .ok (.invokespecial 11, 3) := by decide +kernel
theorem dX0_init_12 : decode cX0_init 12 = .ok (.putfield 12, 3) := by decide +kernel
theorem dX0_init_15 : decode cX0_init 15 = .ok (.aload_n 0, 1) := by decide +kernel
theorem dX0_init_16 : decode cX0_init 16 = .ok (.new 18, 3) := by decide +kernel
theorem dX0_init_19 : decode cX0_init 19 = .ok (.dup, 1) := by decide +kernel
theorem dX0_init_20 : decode cX0_init 20 = .ok (.invokespecial 20, 3) := by decide +kernel
theorem dX0_init_23 : decode cX0_init 23 = .ok (.putfield 21, 3) := by decide +kernel
theorem dX0_init_26 : decode cX0_init 26 = .ok (.aload_n 0, 1) := by decide +kernel
theorem dX0_init_27 : decode cX0_init 27 = .ok (.new 25, 3) := by decide +kernel
theorem dX0_init_30 : decode cX0_init 30 = .ok (.dup, 1) := by decide +kernel
theorem dX0_init_31 : decode cX0_init 31 = .ok (.invokespecial 27, 3) := by decide +kernel
theorem dX0_init_34 : decode cX0_init 34 = .ok (.putfield 28, 3) := by decide +kernel
theorem dX0_init_37 : decode cX0_init 37 = .ok (.return_, 1) := by decide +kernel
theorem dX0_clear_0 : decode cX0_clear 0 = .ok (.aload_n 0, 1) := by decide +kernel
theorem dX0_clear_1 : decode cX0_clear 1 = .ok (.getfield 12, 3) := by decide +kernel
theorem dX0_clear_4 : decode cX0_clear 4 = .ok (.iconst 0, 1) := by decide +kernel
theorem dX0_clear_5 : decode cX0_clear 5 = .ok (.putfield 32, 3) := by decide +kernel
theorem dX0_clear_8 : decode cX0_clear 8 = .ok (.aload_n 0, 1) := by decide +kernel
theorem dX0_clear_9 : decode cX0_clear 9 = .ok (.getfield 21, 3) := by decide +kernel
theorem dX0_clear_12 : decode cX0_clear 12 = .ok (.invokevirtual 36, 3) := by decide +kernel
theorem dX0_clear_15 : decode cX0_clear 15 = .ok (.aload_n 0, 1) := by decide +kernel
theorem dX0_clear_16 : decode cX0_clear 16 = .ok (.getfield 28, 3) := by decide +kernel
theorem dX0_clear_19 : decode cX0_clear 19 = .ok (.invokevirtual 39, 3) := by decide +kernel
theorem dX0_clear_22 : decode cX0_clear 22 = .ok (.return_, 1) := by decide +kernel
theorem dX0_addressOf_0 : decode cX0_addressOf 0 = .ok (.iload_n 1, 1) := by decide +kernel
theorem dX0_addressOf_1 : decode cX0_addressOf 1 = .ok (.ifCond .lt 14, 3) := by decide +kernel
theorem dX0_addressOf_4 : decode cX0_addressOf 4 = .ok (.iload_n 1, 1) := by decide +kernel
theorem dX0_addressOf_5 : decode cX0_addressOf 5 = .ok (.aload_n 0, 1) := by decide +kernel
theorem dX0_addressOf_6 : decode cX0_addressOf 6 = .ok (.getfield 12, 3) := by decide +kernel
theorem dX0_addressOf_9 : decode cX0_addressOf 9 = .ok (.getfield 32, 3) := by decide +kernel
theorem dX0_addressOf_12 : decode cX0_addressOf 12 = .ok (.if_icmp .lt 5, 3) := by decide +kernel
theorem dX0_addressOf_15 : decode cX0_addressOf 15 = .ok (.iconst (-1), 1) := by decide +kernel
theorem dX0_addressOf_16 : decode cX0_addressOf 16 = .ok (.ireturn, 1) := by decide +kernel
theorem dX0_addressOf_17 : decode cX0_addressOf 17 = .ok (.aload_n 0, 1) := by decide +kernel
theorem dX0_addressOf_18 : decode cX0_addressOf 18 = .ok (.getfield 21, 3) := by decide +kernel
theorem dX0_addressOf_21 : decode cX0_addressOf 21 = .ok (.getfield 40, 3) := by decide +kernel
theorem dX0_addressOf_24 : decode cX0_addressOf 24 = .ok (.aload_n 0, 1) := by decide +kernel
theorem dX0_addressOf_25 : decode cX0_addressOf 25 = .ok (.getfield 12, 3) := by decide +kernel
theorem dX0_addressOf_28 : decode cX0_addressOf 28 = .ok (.getfield 44, 3) := by decide +kernel
theorem dX0_addressOf_31 : decode cX0_addressOf 31 = .ok (.iload_n 1, 1) := by decide +kernel
theorem dX0_addressOf_32 : decode cX0_addressOf 32 = .ok (.iaload, 1) := by decide +kernel
theorem dX0_addressOf_33 : decode cX0_addressOf 33 = .ok (.aaload, 1) := by decide +kernel
theorem dX0_addressOf_34 : decode cX0_addressOf 34 = .ok (.aload_n 0, 1) := by decide +kernel
theorem dX0_addressOf_35 : decode cX0_addressOf 35 = .ok (.getfield 12, 3) := by decide +kernel
theorem dX0_addressOf_38 : decode cX0_addressOf 38 = .ok (.getfield 48, 3) := by decide +kernel
theorem dX0_addressOf_41 : decode cX0_addressOf 41 = .ok (.iload_n 1, 1) := by decide +kernel
theorem dX0_addressOf_42 : decode cX0_addressOf 42 = .ok (.iaload, 1) := by decide +kernel
theorem dX0_addressOf_43 : decode cX0_addressOf 43 = .ok (.iaload, 1) := by decide +kernel
theorem dX0_addressOf_44 : decode cX0_addressOf 44 = .ok (.aload_n 0, 1) := by decide +kernel
theorem dX0_addressOf_45 : decode cX0_addressOf 45 = .ok (.getfield 12, 3) := by decide +kernel
theorem dX0_addressOf_48 : decode cX0_addressOf 48 = .ok (.getfield 51, 3) := by decide +kernel
theorem dX0_addressOf_51 : decode cX0_addressOf 51 = .ok (.iload_n 1, 1) := by decide +kernel
theorem dX0_addressOf_52 : decode cX0_addressOf 52 = .ok (.iaload, 1) := by decide +kernel
theorem dX0_addressOf_53 : decode cX0_addressOf 53 = .ok (.iadd, 1) := by decide +kernel
theorem dX0_addressOf_54 : decode cX0_addressOf 54 = .ok (.ireturn, 1) := by decide +kernel
theorem dX0_layOut_0 : decode cX0_layOut 0 = .ok (.aload_n 0, 1) := by decide +kernel
theorem dX0_layOut_1 : decode cX0_layOut 1 = .ok (.getfield 21, 3) := by decide +kernel
theorem dX0_layOut_4 : decode cX0_layOut 4 = .ok (.getfield 54, 3) := by decide +kernel
theorem dX0_layOut_7 : decode cX0_layOut 7 = .ok (.iload_n 2, 1) := by decide +kernel
theorem dX0_layOut_8 : decode cX0_layOut 8 = .ok (.aaload, 1) := by decide +kernel
theorem dX0_layOut_9 : decode cX0_layOut 9 = .ok (.iload_n 3, 1) := by decide +kernel
theorem dX0_layOut_10 : decode cX0_layOut 10 = .ok (.iaload, 1) := by decide +kernel
theorem dX0_layOut_11 : decode cX0_layOut 11 = .ok (.istore 4, 2) := by decide +kernel
theorem dX0_layOut_13 : decode cX0_layOut 13 = .ok (.aload_n 1, 1) := by decide +kernel
theorem dX0_layOut_14 : decode cX0_layOut 14 = .ok (.iload_n 3, 1) := by decide +kernel
theorem dX0_layOut_15 : decode cX0_layOut 15 = .ok (.putfield 57, 3) := by decide +kernel
theorem dX0_layOut_18 : decode cX0_layOut 18 = .ok (.aload_n 1, 1) := by decide +kernel
theorem dX0_layOut_19 : decode cX0_layOut 19 = .ok (.iload 4, 2) := by decide +kernel
theorem dX0_layOut_21 : decode cX0_layOut 21 = .ok (.putfield 62, 3) := by decide +kernel
theorem dX0_layOut_24 : decode cX0_layOut 24 = .ok (.aload_n 1, 1) := by decide +kernel
theorem dX0_layOut_25 : decode cX0_layOut 25 = .ok (.getfield 65, 3) := by decide +kernel
theorem dX0_layOut_28 : decode cX0_layOut 28 = .ok (.lconst 0, 1) := by decide +kernel
theorem dX0_layOut_29 : decode cX0_layOut 29 = .ok (.lcmp, 1) := by decide +kernel
theorem dX0_layOut_30 : decode cX0_layOut 30 = .ok (.ifCond .eq 18, 3) := by decide +kernel
theorem dX0_layOut_33 : decode cX0_layOut 33 = .ok (.aload_n 0, 1) := by decide +kernel
theorem dX0_layOut_34 : decode cX0_layOut 34 = .ok (.getfield 12, 3) := by decide +kernel
theorem dX0_layOut_37 : decode cX0_layOut 37 = .ok (.aload_n 1, 1) := by decide +kernel
theorem dX0_layOut_38 : decode cX0_layOut 38 = .ok (.getfield 65, 3) := by decide +kernel
theorem dX0_layOut_41 : decode cX0_layOut 41 = .ok (.iload_n 2, 1) := by decide +kernel
theorem dX0_layOut_42 : decode cX0_layOut 42 = .ok (.iload_n 3, 1) := by decide +kernel
theorem dX0_layOut_43 : decode cX0_layOut 43 = .ok (.iload 4, 2) := by decide +kernel
theorem dX0_layOut_45 : decode cX0_layOut 45 = .ok (.invokevirtual 69, 3) := by decide +kernel
theorem dX0_layOut_48 : decode cX0_layOut 48 = .ok (.aload_n 1, 1) := by decide +kernel
theorem dX0_layOut_49 : decode cX0_layOut 49 = .ok (.getfield 73, 3) := by decide +kernel
theorem dX0_layOut_52 : decode cX0_layOut 52 = .ok (.bipush 6, 2) := by decide +kernel
theorem dX0_layOut_54 : decode cX0_layOut 54 = .ok (.if_icmp .ne 12, 3) := by decide +kernel
theorem dX0_layOut_57 : decode cX0_layOut 57 = .ok (.aload_n 1, 1) := by decide +kernel
theorem dX0_layOut_58 : decode cX0_layOut 58 = .ok (.iload 4, 2) := by decide +kernel
theorem dX0_layOut_60 : decode cX0_layOut 60 = .ok (.ineg, 1) := by decide +kernel
theorem dX0_layOut_61 : decode cX0_layOut 61 = .ok (.iconst 3, 1) := by decide +kernel
theorem dX0_layOut_62 : decode cX0_layOut 62 = .ok (.iand, 1) := by decide +kernel
theorem dX0_layOut_63 : decode cX0_layOut 63 = .ok (.putfield 76, 3) := by decide +kernel
theorem dX0_layOut_66 : decode cX0_layOut 66 = .ok (.aload_n 1, 1) := by decide +kernel
theorem dX0_layOut_67 : decode cX0_layOut 67 = .ok (.getfield 73, 3) := by decide +kernel
theorem dX0_layOut_70 : decode cX0_layOut 70 = .ok (.iconst 3, 1) := by decide +kernel
theorem dX0_layOut_71 : decode cX0_layOut 71 = .ok (.if_icmp .ne 7, 3) := by decide +kernel
theorem dX0_layOut_74 : decode cX0_layOut 74 = .ok (.iconst 1, 1) := by decide +kernel
theorem dX0_layOut_75 : decode cX0_layOut 75 = .ok (.goto 4, 3) := by decide +kernel
theorem dX0_layOut_78 : decode cX0_layOut 78 = .ok (.iconst 0, 1) := by decide +kernel
theorem dX0_layOut_79 : decode cX0_layOut 79 = .ok (.istore 5, 2) := by decide +kernel
theorem dX0_layOut_81 : decode cX0_layOut 81 = .ok (.aload_n 1, 1) := by decide +kernel
theorem dX0_layOut_82 : decode cX0_layOut 82 = .ok (.getfield 73, 3) := by decide +kernel
theorem dX0_layOut_85 : decode cX0_layOut 85 = .ok (.bipush 7, 2) := by decide +kernel
theorem dX0_layOut_87 : decode cX0_layOut 87 = .ok (.if_icmp .ne 7, 3) := by decide +kernel
theorem dX0_layOut_90 : decode cX0_layOut 90 = .ok (.iconst 1, 1) := by decide +kernel
theorem dX0_layOut_91 : decode cX0_layOut 91 = .ok (.goto 4, 3) := by decide +kernel
theorem dX0_layOut_94 : decode cX0_layOut 94 = .ok (.iconst 0, 1) := by decide +kernel
theorem dX0_layOut_95 : decode cX0_layOut 95 = .ok (.istore 6, 2) := by decide +kernel
theorem dX0_layOut_97 : decode cX0_layOut 97 = .ok (.iload 5, 2) := by decide +kernel
theorem dX0_layOut_99 : decode cX0_layOut 99 = .ok (.ifCond .ne 11, 3) := by decide +kernel
theorem dX0_layOut_102 : decode cX0_layOut 102 = .ok (.aload_n 1, 1) := by decide +kernel
theorem dX0_layOut_103 : decode cX0_layOut 103 = .ok (.getfield 73, 3) := by decide +kernel
theorem dX0_layOut_106 : decode cX0_layOut 106 = .ok (.iconst 4, 1) := by decide +kernel
theorem dX0_layOut_107 : decode cX0_layOut 107 = .ok (.if_icmp .ne 7, 3) := by decide +kernel
theorem dX0_layOut_110 : decode cX0_layOut 110 = .ok (.iconst 1, 1) := by decide +kernel
theorem dX0_layOut_111 : decode cX0_layOut 111 = .ok (.goto 4, 3) := by decide +kernel
theorem dX0_layOut_114 : decode cX0_layOut 114 = .ok (.iconst 0, 1) := by decide +kernel
theorem dX0_layOut_115 : decode cX0_layOut 115 = .ok (.istore 7, 2) := by decide +kernel
theorem dX0_layOut_117 : decode cX0_layOut 117 = .ok (.iload 7, 2) := by decide +kernel
theorem dX0_layOut_119 : decode cX0_layOut 119 = .ok (.ifCond .eq 8, 3) := by decide +kernel
theorem dX0_layOut_122 : decode cX0_layOut 122 = .ok (.iload_n 3, 1) := by decide +kernel
theorem dX0_layOut_123 : decode cX0_layOut 123 = .ok (.iconst 2, 1) := by decide +kernel
theorem dX0_layOut_124 : decode cX0_layOut 124 = .ok (.if_icmp .eq 12, 3) := by decide +kernel
theorem dX0_layOut_127 : decode cX0_layOut 127 = .ok (.iload 6, 2) := by decide +kernel
theorem dX0_layOut_129 : decode cX0_layOut 129 = .ok (.ifCond .eq 10, 3) := by decide +kernel
theorem dX0_layOut_132 : decode cX0_layOut 132 = .ok (.iload_n 3, 1) := by decide +kernel
theorem dX0_layOut_133 : decode cX0_layOut 133 = .ok (.ifCond .eq 6, 3) := by decide +kernel
theorem dX0_layOut_136 : decode cX0_layOut 136 = .ok (.bipush (-5), 2) := by decide +kernel
theorem dX0_layOut_138 : decode cX0_layOut 138 = .ok (.ireturn, 1) := by decide +kernel
theorem dX0_layOut_139 : decode cX0_layOut 139 = .ok (.iload 6, 2) := by decide +kernel
theorem dX0_layOut_141 : decode cX0_layOut 141 = .ok (.ifCond .eq 10, 3) := by decide +kernel
theorem dX0_layOut_144 : decode cX0_layOut 144 = .ok (.iload 4, 2) := by decide +kernel
theorem dX0_layOut_146 : decode cX0_layOut 146 = .ok (.iconst 1, 1) := by decide +kernel
theorem dX0_layOut_147 : decode cX0_layOut 147 = .ok (.iand, 1) := by decide +kernel
theorem dX0_layOut_148 : decode cX0_layOut 148 = .ok (.ifCond .ne 15, 3) := by decide +kernel
theorem dX0_layOut_151 : decode cX0_layOut 151 = .ok (.iload 5, 2) := by decide +kernel
theorem dX0_layOut_153 : decode cX0_layOut 153 = .ok (.ifCond .eq 13, 3) := by decide +kernel
theorem dX0_layOut_156 : decode cX0_layOut 156 = .ok (.iload 4, 2) := by decide +kernel
theorem dX0_layOut_158 : decode cX0_layOut 158 = .ok (.iconst 3, 1) := by decide +kernel
theorem dX0_layOut_159 : decode cX0_layOut 159 = .ok (.iand, 1) := by decide +kernel
theorem dX0_layOut_160 : decode cX0_layOut 160 = .ok (.ifCond .eq 6, 3) := by decide +kernel
theorem dX0_layOut_163 : decode cX0_layOut 163 = .ok (.bipush (-6), 2) := by decide +kernel
theorem dX0_layOut_165 : decode cX0_layOut 165 = .ok (.ireturn, 1) := by decide +kernel
theorem dX0_layOut_166 : decode cX0_layOut 166 = .ok (.iload 4, 2) := by decide +kernel
theorem dX0_layOut_168 : decode cX0_layOut 168 = .ok (.aload_n 1, 1) := by decide +kernel
theorem dX0_layOut_169 : decode cX0_layOut 169 = .ok (.getfield 76, 3) := by decide +kernel
theorem dX0_layOut_172 : decode cX0_layOut 172 = .ok (.iadd, 1) := by decide +kernel
theorem dX0_layOut_173 : decode cX0_layOut 173 = .ok (.sipush 1024, 3) := by decide +kernel
theorem dX0_layOut_176 : decode cX0_layOut 176 = .ok (.if_icmp .le 6, 3) := by decide +kernel
theorem dX0_layOut_179 : decode cX0_layOut 179 = .ok (.bipush (-7), 2) := by decide +kernel
theorem dX0_layOut_181 : decode cX0_layOut 181 = .ok (.ireturn, 1) := by decide +kernel
theorem dX0_layOut_182 : decode cX0_layOut 182 = .ok (.aload_n 0, 1) := by decide +kernel
theorem dX0_layOut_183 : decode cX0_layOut 183 = .ok (.getfield 21, 3) := by decide +kernel
theorem dX0_layOut_186 : decode cX0_layOut 186 = .ok (.getfield 54, 3) := by decide +kernel
theorem dX0_layOut_189 : decode cX0_layOut 189 = .ok (.iload_n 2, 1) := by decide +kernel
theorem dX0_layOut_190 : decode cX0_layOut 190 = .ok (.aaload, 1) := by decide +kernel
theorem dX0_layOut_191 : decode cX0_layOut 191 = .ok (.iload_n 3, 1) := by decide +kernel
theorem dX0_layOut_192 : decode cX0_layOut 192 = .ok (.iload 4, 2) := by decide +kernel
theorem dX0_layOut_194 : decode cX0_layOut 194 = .ok (.aload_n 1, 1) := by decide +kernel
theorem dX0_layOut_195 : decode cX0_layOut 195 = .ok (.getfield 76, 3) := by decide +kernel
theorem dX0_layOut_198 : decode cX0_layOut 198 = .ok (.iadd, 1) := by decide +kernel
theorem dX0_layOut_199 : decode cX0_layOut 199 = .ok (.iastore, 1) := by decide +kernel
theorem dX0_layOut_200 : decode cX0_layOut 200 = .ok (.iconst 0, 1) := by decide +kernel
theorem dX0_layOut_201 : decode cX0_layOut 201 = .ok (.ireturn, 1) := by decide +kernel
theorem dX0_write_0 : decode cX0_write 0 = .ok (.aload_n 1, 1) := by decide +kernel
theorem dX0_write_1 : decode cX0_write 1 = .ok (.getfield 57, 3) := by decide +kernel
theorem dX0_write_4 : decode cX0_write 4 = .ok (.iconst 1, 1) := by decide +kernel
theorem dX0_write_5 : decode cX0_write 5 = .ok (.if_icmp .ne 15, 3) := by decide +kernel
theorem dX0_write_8 : decode cX0_write 8 = .ok (.aload_n 0, 1) := by decide +kernel
theorem dX0_write_9 : decode cX0_write 9 = .ok (.getfield 21, 3) := by decide +kernel
theorem dX0_write_12 : decode cX0_write 12 = .ok (.getfield 79, 3) := by decide +kernel
theorem dX0_write_15 : decode cX0_write 15 = .ok (.iload_n 2, 1) := by decide +kernel
theorem dX0_write_16 : decode cX0_write 16 = .ok (.iaload, 1) := by decide +kernel
theorem dX0_write_17 : decode cX0_write 17 = .ok (.goto 17, 3) := by decide +kernel
theorem dX0_write_20 : decode cX0_write 20 = .ok (.aload_n 0, 1) := by decide +kernel
theorem dX0_write_21 : decode cX0_write 21 = .ok (.getfield 21, 3) := by decide +kernel
theorem dX0_write_24 : decode cX0_write 24 = .ok (.getfield 40, 3) := by decide +kernel
theorem dX0_write_27 : decode cX0_write 27 = .ok (.iload_n 2, 1) := by decide +kernel
theorem dX0_write_28 : decode cX0_write 28 = .ok (.aaload, 1) := by decide +kernel
theorem dX0_write_29 : decode cX0_write 29 = .ok (.aload_n 1, 1) := by decide +kernel
theorem dX0_write_30 : decode cX0_write 30 = .ok (.getfield 57, 3) := by decide +kernel
theorem dX0_write_33 : decode cX0_write 33 = .ok (.iaload, 1) := by decide +kernel
theorem dX0_write_34 : decode cX0_write 34 = .ok (.istore_n 3, 1) := by decide +kernel
theorem dX0_write_35 : decode cX0_write 35 = .ok (.iload_n 3, 1) := by decide +kernel
theorem dX0_write_36 : decode cX0_write 36 = .ok (.aload_n 1, 1) := by decide +kernel
theorem dX0_write_37 : decode cX0_write 37 = .ok (.getfield 62, 3) := by decide +kernel
theorem dX0_write_40 : decode cX0_write 40 = .ok (.iadd, 1) := by decide +kernel
theorem dX0_write_41 : decode cX0_write 41 = .ok (.istore 4, 2) := by decide +kernel
theorem dX0_write_43 : decode cX0_write 43 = .ok (.aload_n 1, 1) := by decide +kernel
theorem dX0_write_44 : decode cX0_write 44 = .ok (.getfield 73, 3) := by decide +kernel
theorem dX0_write_47 : decode cX0_write 47 = .ok (.tableswitch 66 3 7 #[33, 42, 66, 66, 57], 33) := by decide +kernel
theorem dX0_write_80 : decode cX0_write 80 = .ok (.aload_n 0, 1) := by decide +kernel
theorem dX0_write_81 : decode cX0_write 81 = .ok (.aload_n 1, 1) := by decide +kernel
theorem dX0_write_82 : decode cX0_write 82 = .ok (.iload_n 2, 1) := by decide +kernel
theorem dX0_write_83 : decode cX0_write 83 = .ok (.iload 4, 2) := by decide +kernel
theorem dX0_write_85 : decode cX0_write 85 = .ok (.invokevirtual 82, 3) := by decide +kernel
theorem dX0_write_88 : decode cX0_write 88 = .ok (.ireturn, 1) := by decide +kernel
theorem dX0_write_89 : decode cX0_write 89 = .ok (.aload_n 0, 1) := by decide +kernel
theorem dX0_write_90 : decode cX0_write 90 = .ok (.getfield 28, 3) := by decide +kernel
theorem dX0_write_93 : decode cX0_write 93 = .ok (.iload 4, 2) := by decide +kernel
theorem dX0_write_95 : decode cX0_write 95 = .ok (.aload_n 1, 1) := by decide +kernel
theorem dX0_write_96 : decode cX0_write 96 = .ok (.getfield 86, 3) := by decide +kernel
theorem dX0_write_99 : decode cX0_write 99 = .ok (.invokevirtual 89, 3) := by decide +kernel
theorem dX0_write_102 : decode cX0_write 102 = .ok (.iconst 0, 1) := by decide +kernel
theorem dX0_write_103 : decode cX0_write 103 = .ok (.ireturn, 1) := by decide +kernel
theorem dX0_write_104 : decode cX0_write 104 = .ok (.aload_n 0, 1) := by decide +kernel
theorem dX0_write_105 : decode cX0_write 105 = .ok (.aload_n 1, 1) := by decide +kernel
theorem dX0_write_106 : decode cX0_write 106 = .ok (.iload_n 2, 1) := by decide +kernel
theorem dX0_write_107 : decode cX0_write 107 = .ok (.iload 4, 2) := by decide +kernel
theorem dX0_write_109 : decode cX0_write 109 = .ok (.invokevirtual 93, 3) := by decide +kernel
theorem dX0_write_112 : decode cX0_write 112 = .ok (.ireturn, 1) := by decide +kernel
theorem dX0_write_113 : decode cX0_write 113 = .ok (.iconst 0, 1) := by decide +kernel
theorem dX0_write_114 : decode cX0_write 114 = .ok (.ireturn, 1) := by decide +kernel
theorem dX0_writeWord_0 : decode cX0_writeWord 0 = .ok (.aload_n 1, 1) := by decide +kernel
theorem dX0_writeWord_1 : decode cX0_writeWord 1 = .ok (.getfield 96, 3) := by decide +kernel
theorem dX0_writeWord_4 : decode cX0_writeWord 4 = .ok (.lconst 0, 1) := by decide +kernel
theorem dX0_writeWord_5 : decode cX0_writeWord 5 = .ok (.lcmp, 1) := by decide +kernel
theorem dX0_writeWord_6 : decode cX0_writeWord 6 = .ok (.ifCond .ne 7, 3) := by decide +kernel
theorem dX0_writeWord_9 : decode cX0_writeWord 9 = .ok (.iconst (-1), 1) := by decide +kernel
theorem dX0_writeWord_10 : decode cX0_writeWord 10 = .ok (.goto 12, 3) := by decide +kernel
theorem dX0_writeWord_13 : decode cX0_writeWord 13 = .ok (.aload_n 0, 1) := by decide +kernel
theorem dX0_writeWord_14 : decode cX0_writeWord 14 = .ok (.iload_n 2, 1) := by decide +kernel
theorem dX0_writeWord_15 : decode cX0_writeWord 15 = .ok (.aload_n 1, 1) := by decide +kernel
theorem dX0_writeWord_16 : decode cX0_writeWord 16 = .ok (.getfield 96, 3) := by decide +kernel
theorem dX0_writeWord_19 : decode cX0_writeWord 19 = .ok (.invokevirtual 99, 3) := by decide +kernel
theorem dX0_writeWord_22 : decode cX0_writeWord 22 = .ok (.istore 4, 2) := by decide +kernel
theorem dX0_writeWord_24 : decode cX0_writeWord 24 = .ok (.aload_n 1, 1) := by decide +kernel
theorem dX0_writeWord_25 : decode cX0_writeWord 25 = .ok (.getfield 96, 3) := by decide +kernel
theorem dX0_writeWord_28 : decode cX0_writeWord 28 = .ok (.lconst 0, 1) := by decide +kernel
theorem dX0_writeWord_29 : decode cX0_writeWord 29 = .ok (.lcmp, 1) := by decide +kernel
theorem dX0_writeWord_30 : decode cX0_writeWord 30 = .ok (.ifCond .eq 12, 3) := by decide +kernel
theorem dX0_writeWord_33 : decode cX0_writeWord 33 = .ok (.iload 4, 2) := by decide +kernel
theorem dX0_writeWord_35 : decode cX0_writeWord 35 = .ok (.iconst (-1), 1) := by decide +kernel
theorem dX0_writeWord_36 : decode cX0_writeWord 36 = .ok (.if_icmp .ne 6, 3) := by decide +kernel
theorem dX0_writeWord_39 : decode cX0_writeWord 39 = .ok (.bipush (-8), 2) := by decide +kernel
theorem dX0_writeWord_41 : decode cX0_writeWord 41 = .ok (.ireturn, 1) := by decide +kernel
theorem dX0_writeWord_42 : decode cX0_writeWord 42 = .ok (.aload_n 0, 1) := by decide +kernel
theorem dX0_writeWord_43 : decode cX0_writeWord 43 = .ok (.getfield 28, 3) := by decide +kernel
theorem dX0_writeWord_46 : decode cX0_writeWord 46 = .ok (.iload_n 3, 1) := by decide +kernel
theorem dX0_writeWord_47 : decode cX0_writeWord 47 = .ok (.aload_n 1, 1) := by decide +kernel
theorem dX0_writeWord_48 : decode cX0_writeWord 48 = .ok (.getfield 96, 3) := by decide +kernel
theorem dX0_writeWord_51 : decode cX0_writeWord 51 = .ok (.lconst 0, 1) := by decide +kernel
theorem dX0_writeWord_52 : decode cX0_writeWord 52 = .ok (.lcmp, 1) := by decide +kernel
theorem dX0_writeWord_53 : decode cX0_writeWord 53 = .ok (.ifCond .ne 10, 3) := by decide +kernel
theorem dX0_writeWord_56 : decode cX0_writeWord 56 = .ok (.aload_n 1, 1) := by decide +kernel
theorem dX0_writeWord_57 : decode cX0_writeWord 57 = .ok (.getfield 86, 3) := by decide +kernel
theorem dX0_writeWord_60 : decode cX0_writeWord 60 = .ok (.goto 14, 3) := by decide +kernel
theorem dX0_writeWord_63 : decode cX0_writeWord 63 = .ok (.aload_n 0, 1) := by decide +kernel
theorem dX0_writeWord_64 : decode cX0_writeWord 64 = .ok (.iload 4, 2) := by decide +kernel
theorem dX0_writeWord_66 : decode cX0_writeWord 66 = .ok (.invokevirtual 103, 3) := by decide +kernel
theorem dX0_writeWord_69 : decode cX0_writeWord 69 = .ok (.aload_n 1, 1) := by decide +kernel
theorem dX0_writeWord_70 : decode cX0_writeWord 70 = .ok (.getfield 86, 3) := by decide +kernel
theorem dX0_writeWord_73 : decode cX0_writeWord 73 = .ok (.iadd, 1) := by decide +kernel
theorem dX0_writeWord_74 : decode cX0_writeWord 74 = .ok (.invokevirtual 107, 3) := by decide +kernel
theorem dX0_writeWord_77 : decode cX0_writeWord 77 = .ok (.iconst 0, 1) := by decide +kernel
theorem dX0_writeWord_78 : decode cX0_writeWord 78 = .ok (.ireturn, 1) := by decide +kernel
theorem dX0_writeInstruction_0 : decode cX0_writeInstruction 0 = .ok (.aload_n 1, 1) := by decide +kernel
theorem dX0_writeInstruction_1 : decode cX0_writeInstruction 1 = .ok (.getfield 110, 3) := by decide +kernel
theorem dX0_writeInstruction_4 : decode cX0_writeInstruction 4 = .ok (.ifCond .ne 17, 3) := by decide +kernel
theorem dX0_writeInstruction_7 : decode cX0_writeInstruction 7 = .ok (.aload_n 0, 1) := by decide +kernel
theorem dX0_writeInstruction_8 : decode cX0_writeInstruction 8 = .ok (.getfield 28, 3) := by decide +kernel
theorem dX0_writeInstruction_11 : decode cX0_writeInstruction 11 = .ok (.iload_n 3, 1) := by decide +kernel
theorem dX0_writeInstruction_12 : decode cX0_writeInstruction 12 = .ok (.aload_n 1, 1) := by decide +kernel
theorem dX0_writeInstruction_13 : decode cX0_writeInstruction 13 = .ok (.getfield 86, 3) := by decide +kernel
theorem dX0_writeInstruction_16 : decode cX0_writeInstruction 16 = .ok (.invokevirtual 113, 3) := by decide +kernel
theorem dX0_writeInstruction_19 : decode cX0_writeInstruction 19 = .ok (.iconst 0, 1) := by decide +kernel
theorem dX0_writeInstruction_20 : decode cX0_writeInstruction 20 = .ok (.ireturn, 1) := by decide +kernel
theorem dX0_writeInstruction_21 : decode cX0_writeInstruction 21 = .ok (.aload_n 0, 1) := by decide +kernel
theorem dX0_writeInstruction_22 : decode cX0_writeInstruction 22 = .ok (.iload_n 2, 1) := by decide +kernel
theorem dX0_writeInstruction_23 : decode cX0_writeInstruction 23 = .ok (.aload_n 1, 1) := by decide +kernel
theorem dX0_writeInstruction_24 : decode cX0_writeInstruction 24 = .ok (.getfield 96, 3) := by decide +kernel
theorem dX0_writeInstruction_27 : decode cX0_writeInstruction 27 = .ok (.invokevirtual 99, 3) := by decide +kernel
theorem dX0_writeInstruction_30 : decode cX0_writeInstruction 30 = .ok (.istore 4, 2) := by decide +kernel
theorem dX0_writeInstruction_32 : decode cX0_writeInstruction 32 = .ok (.iload 4, 2) := by decide +kernel
theorem dX0_writeInstruction_34 : decode cX0_writeInstruction 34 = .ok (.iconst (-1), 1) := by decide +kernel
theorem dX0_writeInstruction_35 : decode cX0_writeInstruction 35 = .ok (.if_icmp .ne 6, 3) := by decide +kernel
theorem dX0_writeInstruction_38 : decode cX0_writeInstruction 38 = .ok (.bipush (-8), 2) := by decide +kernel
theorem dX0_writeInstruction_40 : decode cX0_writeInstruction 40 = .ok (.ireturn, 1) := by decide +kernel
theorem dX0_writeInstruction_41 : decode cX0_writeInstruction 41 = .ok (.aload_n 0, 1) := by decide +kernel
theorem dX0_writeInstruction_42 : decode cX0_writeInstruction 42 = .ok (.iload 4, 2) := by decide +kernel
theorem dX0_writeInstruction_44 : decode cX0_writeInstruction 44 = .ok (.invokevirtual 103, 3) := by decide +kernel
theorem dX0_writeInstruction_47 : decode cX0_writeInstruction 47 = .ok (.iconst 4, 1) := by decide +kernel
theorem dX0_writeInstruction_48 : decode cX0_writeInstruction 48 = .ok (.isub, 1) := by decide +kernel
theorem dX0_writeInstruction_49 : decode cX0_writeInstruction 49 = .ok (.aload_n 1, 1) := by decide +kernel
theorem dX0_writeInstruction_50 : decode cX0_writeInstruction 50 = .ok (.getfield 110, 3) := by decide +kernel
theorem dX0_writeInstruction_53 : decode cX0_writeInstruction 53 = .ok (.iconst 4, 1) := by decide +kernel
theorem dX0_writeInstruction_54 : decode cX0_writeInstruction 54 = .ok (.if_icmp .ne 10, 3) := by decide +kernel
theorem dX0_writeInstruction_57 : decode cX0_writeInstruction 57 = .ok (.iload_n 3, 1) := by decide +kernel
theorem dX0_writeInstruction_58 : decode cX0_writeInstruction 58 = .ok (.bipush (-4), 2) := by decide +kernel
theorem dX0_writeInstruction_60 : decode cX0_writeInstruction 60 = .ok (.iand, 1) := by decide +kernel
theorem dX0_writeInstruction_61 : decode cX0_writeInstruction 61 = .ok (.goto 4, 3) := by decide +kernel
theorem dX0_writeInstruction_64 : decode cX0_writeInstruction 64 = .ok (.iload_n 3, 1) := by decide +kernel
theorem dX0_writeInstruction_65 : decode cX0_writeInstruction 65 = .ok (.isub, 1) := by decide +kernel
theorem dX0_writeInstruction_66 : decode cX0_writeInstruction 66 = .ok (.istore 5, 2) := by decide +kernel
theorem dX0_writeInstruction_68 : decode cX0_writeInstruction 68 = .ok (.aload_n 0, 1) := by decide +kernel
theorem dX0_writeInstruction_69 : decode cX0_writeInstruction 69 = .ok (.getfield 12, 3) := by decide +kernel
theorem dX0_writeInstruction_72 : decode cX0_writeInstruction 72 = .ok (.getfield 44, 3) := by decide +kernel
theorem dX0_writeInstruction_75 : decode cX0_writeInstruction 75 = .ok (.iload 4, 2) := by decide +kernel
theorem dX0_writeInstruction_77 : decode cX0_writeInstruction 77 = .ok (.iaload, 1) := by decide +kernel
theorem dX0_writeInstruction_78 : decode cX0_writeInstruction 78 = .ok (.iload_n 2, 1) := by decide +kernel
theorem dX0_writeInstruction_79 : decode cX0_writeInstruction 79 = .ok (.if_icmp .ne 24, 3) := by decide +kernel
theorem dX0_writeInstruction_82 : decode cX0_writeInstruction 82 = .ok (.aload_n 0, 1) := by decide +kernel
theorem dX0_writeInstruction_83 : decode cX0_writeInstruction 83 = .ok (.getfield 12, 3) := by decide +kernel
theorem dX0_writeInstruction_86 : decode cX0_writeInstruction 86 = .ok (.getfield 48, 3) := by decide +kernel
theorem dX0_writeInstruction_89 : decode cX0_writeInstruction 89 = .ok (.iload 4, 2) := by decide +kernel
theorem dX0_writeInstruction_91 : decode cX0_writeInstruction 91 = .ok (.iaload, 1) := by decide +kernel
theorem dX0_writeInstruction_92 : decode cX0_writeInstruction 92 = .ok (.aload_n 1, 1) := by decide +kernel
theorem dX0_writeInstruction_93 : decode cX0_writeInstruction 93 = .ok (.getfield 57, 3) := by decide +kernel
theorem dX0_writeInstruction_96 : decode cX0_writeInstruction 96 = .ok (.if_icmp .ne 7, 3) := by decide +kernel
theorem dX0_writeInstruction_99 : decode cX0_writeInstruction 99 = .ok (.iconst 1, 1) := by decide +kernel
theorem dX0_writeInstruction_100 : decode cX0_writeInstruction 100 = .ok (.goto 4, 3) := by decide +kernel
theorem dX0_writeInstruction_103 : decode cX0_writeInstruction 103 = .ok (.iconst 0, 1) := by decide +kernel
theorem dX0_writeInstruction_104 : decode cX0_writeInstruction 104 = .ok (.istore 6, 2) := by decide +kernel
theorem dX0_writeInstruction_106 : decode cX0_writeInstruction 106 = .ok (.aload_n 1, 1) := by decide +kernel
theorem dX0_writeInstruction_107 : decode cX0_writeInstruction 107 = .ok (.getfield 110, 3) := by decide +kernel
theorem dX0_writeInstruction_110 : decode cX0_writeInstruction 110 = .ok (.iload 5, 2) := by decide +kernel
theorem dX0_writeInstruction_112 : decode cX0_writeInstruction 112 = .ok (.iload 6, 2) := by decide +kernel
theorem dX0_writeInstruction_114 : decode cX0_writeInstruction 114 = .ok (.invokestatic 116, 3) := by decide +kernel
theorem dX0_writeInstruction_117 : decode cX0_writeInstruction 117 = .ok (.ifCond .ne 6, 3) := by decide +kernel
theorem dX0_writeInstruction_120 : decode cX0_writeInstruction 120 = .ok (.bipush (-9), 2) := by decide +kernel
theorem dX0_writeInstruction_122 : decode cX0_writeInstruction 122 = .ok (.ireturn, 1) := by decide +kernel
theorem dX0_writeInstruction_123 : decode cX0_writeInstruction 123 = .ok (.aload_n 1, 1) := by decide +kernel
theorem dX0_writeInstruction_124 : decode cX0_writeInstruction 124 = .ok (.getfield 110, 3) := by decide +kernel
theorem dX0_writeInstruction_127 : decode cX0_writeInstruction 127 = .ok (.iconst 3, 1) := by decide +kernel
theorem dX0_writeInstruction_128 : decode cX0_writeInstruction 128 = .ok (.if_icmp .ne 19, 3) := by decide +kernel
theorem dX0_writeInstruction_131 : decode cX0_writeInstruction 131 = .ok (.aload_n 0, 1) := by decide +kernel
theorem dX0_writeInstruction_132 : decode cX0_writeInstruction 132 = .ok (.iload_n 3, 1) := by decide +kernel
theorem dX0_writeInstruction_133 : decode cX0_writeInstruction 133 = .ok (.aload_n 1, 1) := by decide +kernel
theorem dX0_writeInstruction_134 : decode cX0_writeInstruction 134 = .ok (.getfield 86, 3) := by decide +kernel
theorem dX0_writeInstruction_137 : decode cX0_writeInstruction 137 = .ok (.iload 5, 2) := by decide +kernel
theorem dX0_writeInstruction_139 : decode cX0_writeInstruction 139 = .ok (.iconst 1, 1) := by decide +kernel
theorem dX0_writeInstruction_140 : decode cX0_writeInstruction 140 = .ok (.ishr, 1) := by decide +kernel
theorem dX0_writeInstruction_141 : decode cX0_writeInstruction 141 = .ok (.invokevirtual 120, 3) := by decide +kernel
theorem dX0_writeInstruction_144 : decode cX0_writeInstruction 144 = .ok (.goto 25, 3) := by decide +kernel
theorem dX0_writeInstruction_147 : decode cX0_writeInstruction 147 = .ok (.aload_n 0, 1) := by decide +kernel
theorem dX0_writeInstruction_148 : decode cX0_writeInstruction 148 = .ok (.getfield 28, 3) := by decide +kernel
theorem dX0_writeInstruction_151 : decode cX0_writeInstruction 151 = .ok (.iload_n 3, 1) := by decide +kernel
theorem dX0_writeInstruction_152 : decode cX0_writeInstruction 152 = .ok (.aload_n 1, 1) := by decide +kernel
theorem dX0_writeInstruction_153 : decode cX0_writeInstruction 153 = .ok (.getfield 86, 3) := by decide +kernel
theorem dX0_writeInstruction_156 : decode cX0_writeInstruction 156 = .ok (.aload_n 1, 1) := by decide +kernel
theorem dX0_writeInstruction_157 : decode cX0_writeInstruction 157 = .ok (.getfield 110, 3) := by decide +kernel
theorem dX0_writeInstruction_160 : decode cX0_writeInstruction 160 = .ok (.iload 5, 2) := by decide +kernel
theorem dX0_writeInstruction_162 : decode cX0_writeInstruction 162 = .ok (.invokestatic 124, 3) := by decide +kernel
theorem dX0_writeInstruction_165 : decode cX0_writeInstruction 165 = .ok (.iadd, 1) := by decide +kernel
theorem dX0_writeInstruction_166 : decode cX0_writeInstruction 166 = .ok (.invokevirtual 113, 3) := by decide +kernel
theorem dX0_writeInstruction_169 : decode cX0_writeInstruction 169 = .ok (.iconst 0, 1) := by decide +kernel
theorem dX0_writeInstruction_170 : decode cX0_writeInstruction 170 = .ok (.ireturn, 1) := by decide +kernel
theorem dX0_resolve_0 : decode cX0_resolve 0 = .ok (.aload_n 0, 1) := by decide +kernel
theorem dX0_resolve_1 : decode cX0_resolve 1 = .ok (.getfield 12, 3) := by decide +kernel
theorem dX0_resolve_4 : decode cX0_resolve 4 = .ok (.iload_n 1, 1) := by decide +kernel
theorem dX0_resolve_5 : decode cX0_resolve 5 = .ok (.lload_n 2, 1) := by decide +kernel
theorem dX0_resolve_6 : decode cX0_resolve 6 = .ok (.invokevirtual 128, 3) := by decide +kernel
theorem dX0_resolve_9 : decode cX0_resolve 9 = .ok (.istore 4, 2) := by decide +kernel
theorem dX0_resolve_11 : decode cX0_resolve 11 = .ok (.iload 4, 2) := by decide +kernel
theorem dX0_resolve_13 : decode cX0_resolve 13 = .ok (.iconst (-1), 1) := by decide +kernel
theorem dX0_resolve_14 : decode cX0_resolve 14 = .ok (.if_icmp .eq 8, 3) := by decide +kernel
theorem dX0_resolve_17 : decode cX0_resolve 17 = .ok (.iload 4, 2) := by decide +kernel
theorem dX0_resolve_19 : decode cX0_resolve 19 = .ok (.goto 11, 3) := by decide +kernel
theorem dX0_resolve_22 : decode cX0_resolve 22 = .ok (.aload_n 0, 1) := by decide +kernel
theorem dX0_resolve_23 : decode cX0_resolve 23 = .ok (.getfield 12, 3) := by decide +kernel
theorem dX0_resolve_26 : decode cX0_resolve 26 = .ok (.lload_n 2, 1) := by decide +kernel
theorem dX0_resolve_27 : decode cX0_resolve 27 = .ok (.invokevirtual 131, 3) := by decide +kernel
theorem dX0_resolve_30 : decode cX0_resolve 30 = .ok (.ireturn, 1) := by decide +kernel
theorem dX0_reaches_0 : decode cX0_reaches 0 = .ok (.iload_n 0, 1) := by decide +kernel
theorem dX0_reaches_1 : decode cX0_reaches 1 = .ok (.tableswitch 107 1 3 #[27, 53, 83], 27) := by decide +kernel
theorem dX0_reaches_28 : decode cX0_reaches 28 = .ok (.iload_n 1, 1) := by decide +kernel
theorem dX0_reaches_29 : decode cX0_reaches 29 = .ok (.iconst 1, 1) := by decide +kernel
theorem dX0_reaches_30 : decode cX0_reaches 30 = .ok (.iand, 1) := by decide +kernel
theorem dX0_reaches_31 : decode cX0_reaches 31 = .ok (.ifCond .ne 21, 3) := by decide +kernel
theorem dX0_reaches_34 : decode cX0_reaches 34 = .ok (.iload_n 1, 1) := by decide +kernel
theorem dX0_reaches_35 : decode cX0_reaches 35 = .ok (.sipush (-2048), 3) := by decide +kernel
theorem dX0_reaches_38 : decode cX0_reaches 38 = .ok (.if_icmp .lt 14, 3) := by decide +kernel
theorem dX0_reaches_41 : decode cX0_reaches 41 = .ok (.iload_n 1, 1) := by decide +kernel
theorem dX0_reaches_42 : decode cX0_reaches 42 = .ok (.sipush 2046, 3) := by decide +kernel
theorem dX0_reaches_45 : decode cX0_reaches 45 = .ok (.if_icmp .gt 7, 3) := by decide +kernel
theorem dX0_reaches_48 : decode cX0_reaches 48 = .ok (.iconst 1, 1) := by decide +kernel
theorem dX0_reaches_49 : decode cX0_reaches 49 = .ok (.goto 4, 3) := by decide +kernel
theorem dX0_reaches_52 : decode cX0_reaches 52 = .ok (.iconst 0, 1) := by decide +kernel
theorem dX0_reaches_53 : decode cX0_reaches 53 = .ok (.ireturn, 1) := by decide +kernel
theorem dX0_reaches_54 : decode cX0_reaches 54 = .ok (.iload_n 2, 1) := by decide +kernel
theorem dX0_reaches_55 : decode cX0_reaches 55 = .ok (.ifCond .eq 27, 3) := by decide +kernel
theorem dX0_reaches_58 : decode cX0_reaches 58 = .ok (.iload_n 1, 1) := by decide +kernel
theorem dX0_reaches_59 : decode cX0_reaches 59 = .ok (.iconst 1, 1) := by decide +kernel
theorem dX0_reaches_60 : decode cX0_reaches 60 = .ok (.iand, 1) := by decide +kernel
theorem dX0_reaches_61 : decode cX0_reaches 61 = .ok (.ifCond .ne 21, 3) := by decide +kernel
theorem dX0_reaches_64 : decode cX0_reaches 64 = .ok (.iload_n 1, 1) := by decide +kernel
theorem dX0_reaches_65 : decode cX0_reaches 65 = .ok (.sipush (-256), 3) := by decide +kernel
theorem dX0_reaches_68 : decode cX0_reaches 68 = .ok (.if_icmp .lt 14, 3) := by decide +kernel
theorem dX0_reaches_71 : decode cX0_reaches 71 = .ok (.iload_n 1, 1) := by decide +kernel
theorem dX0_reaches_72 : decode cX0_reaches 72 = .ok (.sipush 254, 3) := by decide +kernel
theorem dX0_reaches_75 : decode cX0_reaches 75 = .ok (.if_icmp .gt 7, 3) := by decide +kernel
theorem dX0_reaches_78 : decode cX0_reaches 78 = .ok (.iconst 1, 1) := by decide +kernel
theorem dX0_reaches_79 : decode cX0_reaches 79 = .ok (.goto 4, 3) := by decide +kernel
theorem dX0_reaches_82 : decode cX0_reaches 82 = .ok (.iconst 0, 1) := by decide +kernel
theorem dX0_reaches_83 : decode cX0_reaches 83 = .ok (.ireturn, 1) := by decide +kernel
theorem dX0_reaches_84 : decode cX0_reaches 84 = .ok (.iload_n 1, 1) := by decide +kernel
theorem dX0_reaches_85 : decode cX0_reaches 85 = .ok (.iconst 1, 1) := by decide +kernel
theorem dX0_reaches_86 : decode cX0_reaches 86 = .ok (.iand, 1) := by decide +kernel
theorem dX0_reaches_87 : decode cX0_reaches 87 = .ok (.ifCond .ne 19, 3) := by decide +kernel
theorem dX0_reaches_90 : decode cX0_reaches 90 = .ok (.iload_n 1, 1) := by decide +kernel
theorem dX0_reaches_91 : decode cX0_reaches 91 = .ok (.ldc 135, 2) := by decide +kernel
theorem dX0_reaches_93 : decode cX0_reaches 93 = .ok (.if_icmp .lt 13, 3) := by decide +kernel
theorem dX0_reaches_96 : decode cX0_reaches 96 = .ok (.iload_n 1, 1) := by decide +kernel
theorem dX0_reaches_97 : decode cX0_reaches 97 = .ok (.ldc 136, 2) := by decide +kernel
theorem dX0_reaches_99 : decode cX0_reaches 99 = .ok (.if_icmp .gt 7, 3) := by decide +kernel
theorem dX0_reaches_102 : decode cX0_reaches 102 = .ok (.iconst 1, 1) := by decide +kernel
theorem dX0_reaches_103 : decode cX0_reaches 103 = .ok (.goto 4, 3) := by decide +kernel
theorem dX0_reaches_106 : decode cX0_reaches 106 = .ok (.iconst 0, 1) := by decide +kernel
theorem dX0_reaches_107 : decode cX0_reaches 107 = .ok (.ireturn, 1) := by decide +kernel
theorem dX0_reaches_108 : decode cX0_reaches 108 = .ok (.iload_n 2, 1) := by decide +kernel
theorem dX0_reaches_109 : decode cX0_reaches 109 = .ok (.ifCond .eq 24, 3) := by decide +kernel
theorem dX0_reaches_112 : decode cX0_reaches 112 = .ok (.iload_n 1, 1) := by decide +kernel
theorem dX0_reaches_113 : decode cX0_reaches 113 = .ok (.iconst 3, 1) := by decide +kernel
theorem dX0_reaches_114 : decode cX0_reaches 114 = .ok (.iand, 1) := by decide +kernel
theorem dX0_reaches_115 : decode cX0_reaches 115 = .ok (.ifCond .ne 18, 3) := by decide +kernel
theorem dX0_reaches_118 : decode cX0_reaches 118 = .ok (.iload_n 1, 1) := by decide +kernel
theorem dX0_reaches_119 : decode cX0_reaches 119 = .ok (.ifCond .lt 14, 3) := by decide +kernel
theorem dX0_reaches_122 : decode cX0_reaches 122 = .ok (.iload_n 1, 1) := by decide +kernel
theorem dX0_reaches_123 : decode cX0_reaches 123 = .ok (.sipush 1020, 3) := by decide +kernel
theorem dX0_reaches_126 : decode cX0_reaches 126 = .ok (.if_icmp .gt 7, 3) := by decide +kernel
theorem dX0_reaches_129 : decode cX0_reaches 129 = .ok (.iconst 1, 1) := by decide +kernel
theorem dX0_reaches_130 : decode cX0_reaches 130 = .ok (.goto 4, 3) := by decide +kernel
theorem dX0_reaches_133 : decode cX0_reaches 133 = .ok (.iconst 0, 1) := by decide +kernel
theorem dX0_reaches_134 : decode cX0_reaches 134 = .ok (.ireturn, 1) := by decide +kernel
theorem dX0_distanceBits_0 : decode cX0_distanceBits 0 = .ok (.iload_n 0, 1) := by decide +kernel
theorem dX0_distanceBits_1 : decode cX0_distanceBits 1 = .ok (.lookupswitch 43 #[(1, 27), (2, 35)], 27) := by decide +kernel
theorem dX0_distanceBits_28 : decode cX0_distanceBits 28 = .ok (.iload_n 1, 1) := by decide +kernel
theorem dX0_distanceBits_29 : decode cX0_distanceBits 29 = .ok (.iconst 1, 1) := by decide +kernel
theorem dX0_distanceBits_30 : decode cX0_distanceBits 30 = .ok (.ishr, 1) := by decide +kernel
theorem dX0_distanceBits_31 : decode cX0_distanceBits 31 = .ok (.sipush 2047, 3) := by decide +kernel
theorem dX0_distanceBits_34 : decode cX0_distanceBits 34 = .ok (.iand, 1) := by decide +kernel
theorem dX0_distanceBits_35 : decode cX0_distanceBits 35 = .ok (.ireturn, 1) := by decide +kernel
theorem dX0_distanceBits_36 : decode cX0_distanceBits 36 = .ok (.iload_n 1, 1) := by decide +kernel
theorem dX0_distanceBits_37 : decode cX0_distanceBits 37 = .ok (.iconst 1, 1) := by decide +kernel
theorem dX0_distanceBits_38 : decode cX0_distanceBits 38 = .ok (.ishr, 1) := by decide +kernel
theorem dX0_distanceBits_39 : decode cX0_distanceBits 39 = .ok (.sipush 255, 3) := by decide +kernel
theorem dX0_distanceBits_42 : decode cX0_distanceBits 42 = .ok (.iand, 1) := by decide +kernel
theorem dX0_distanceBits_43 : decode cX0_distanceBits 43 = .ok (.ireturn, 1) := by decide +kernel
theorem dX0_distanceBits_44 : decode cX0_distanceBits 44 = .ok (.iload_n 1, 1) := by decide +kernel
theorem dX0_distanceBits_45 : decode cX0_distanceBits 45 = .ok (.iconst 2, 1) := by decide +kernel
theorem dX0_distanceBits_46 : decode cX0_distanceBits 46 = .ok (.ishr, 1) := by decide +kernel
theorem dX0_distanceBits_47 : decode cX0_distanceBits 47 = .ok (.ireturn, 1) := by decide +kernel
theorem dX0_writeCall_0 : decode cX0_writeCall 0 = .ok (.iload_n 3, 1) := by decide +kernel
theorem dX0_writeCall_1 : decode cX0_writeCall 1 = .ok (.bipush 23, 2) := by decide +kernel
theorem dX0_writeCall_3 : decode cX0_writeCall 3 = .ok (.ishr, 1) := by decide +kernel
theorem dX0_writeCall_4 : decode cX0_writeCall 4 = .ok (.iconst 1, 1) := by decide +kernel
theorem dX0_writeCall_5 : decode cX0_writeCall 5 = .ok (.iand, 1) := by decide +kernel
theorem dX0_writeCall_6 : decode cX0_writeCall 6 = .ok (.istore 4, 2) := by decide +kernel
theorem dX0_writeCall_8 : decode cX0_writeCall 8 = .ok (.iload_n 3, 1) := by decide +kernel
theorem dX0_writeCall_9 : decode cX0_writeCall 9 = .ok (.bipush 22, 2) := by decide +kernel
theorem dX0_writeCall_11 : decode cX0_writeCall 11 = .ok (.ishr, 1) := by decide +kernel
theorem dX0_writeCall_12 : decode cX0_writeCall 12 = .ok (.iconst 1, 1) := by decide +kernel
theorem dX0_writeCall_13 : decode cX0_writeCall 13 = .ok (.iand, 1) := by decide +kernel
theorem dX0_writeCall_14 : decode cX0_writeCall 14 = .ok (.istore 5, 2) := by decide +kernel
theorem dX0_writeCall_16 : decode cX0_writeCall 16 = .ok (.iload_n 3, 1) := by decide +kernel
theorem dX0_writeCall_17 : decode cX0_writeCall 17 = .ok (.bipush 21, 2) := by decide +kernel
theorem dX0_writeCall_19 : decode cX0_writeCall 19 = .ok (.ishr, 1) := by decide +kernel
theorem dX0_writeCall_20 : decode cX0_writeCall 20 = .ok (.iconst 1, 1) := by decide +kernel
theorem dX0_writeCall_21 : decode cX0_writeCall 21 = .ok (.iand, 1) := by decide +kernel
theorem dX0_writeCall_22 : decode cX0_writeCall 22 = .ok (.istore 6, 2) := by decide +kernel
theorem dX0_writeCall_24 : decode cX0_writeCall 24 = .ok (.aload_n 0, 1) := by decide +kernel
theorem dX0_writeCall_25 : decode cX0_writeCall 25 = .ok (.getfield 28, 3) := by decide +kernel
theorem dX0_writeCall_28 : decode cX0_writeCall 28 = .ok (.iload_n 1, 1) := by decide +kernel
theorem dX0_writeCall_29 : decode cX0_writeCall 29 = .ok (.iload_n 2, 1) := by decide +kernel
theorem dX0_writeCall_30 : decode cX0_writeCall 30 = .ok (.sipush 1024, 3) := by decide +kernel
theorem dX0_writeCall_33 : decode cX0_writeCall 33 = .ok (.iload 4, 2) := by decide +kernel
theorem dX0_writeCall_35 : decode cX0_writeCall 35 = .ok (.imul, 1) := by decide +kernel
theorem dX0_writeCall_36 : decode cX0_writeCall 36 = .ok (.iadd, 1) := by decide +kernel
theorem dX0_writeCall_37 : decode cX0_writeCall 37 = .ok (.iload_n 3, 1) := by decide +kernel
theorem dX0_writeCall_38 : decode cX0_writeCall 38 = .ok (.bipush 11, 2) := by decide +kernel
theorem dX0_writeCall_40 : decode cX0_writeCall 40 = .ok (.ishr, 1) := by decide +kernel
theorem dX0_writeCall_41 : decode cX0_writeCall 41 = .ok (.sipush 1023, 3) := by decide +kernel
theorem dX0_writeCall_44 : decode cX0_writeCall 44 = .ok (.iand, 1) := by decide +kernel
theorem dX0_writeCall_45 : decode cX0_writeCall 45 = .ok (.iadd, 1) := by decide +kernel
theorem dX0_writeCall_46 : decode cX0_writeCall 46 = .ok (.invokevirtual 113, 3) := by decide +kernel
theorem dX0_writeCall_49 : decode cX0_writeCall 49 = .ok (.aload_n 0, 1) := by decide +kernel
theorem dX0_writeCall_50 : decode cX0_writeCall 50 = .ok (.getfield 28, 3) := by decide +kernel
theorem dX0_writeCall_53 : decode cX0_writeCall 53 = .ok (.iload_n 1, 1) := by decide +kernel
theorem dX0_writeCall_54 : decode cX0_writeCall 54 = .ok (.iconst 2, 1) := by decide +kernel
theorem dX0_writeCall_55 : decode cX0_writeCall 55 = .ok (.iadd, 1) := by decide +kernel
theorem dX0_writeCall_56 : decode cX0_writeCall 56 = .ok (.ldc 137, 2) := by decide +kernel
theorem dX0_writeCall_58 : decode cX0_writeCall 58 = .ok (.iload 5, 2) := by decide +kernel
theorem dX0_writeCall_60 : decode cX0_writeCall 60 = .ok (.iload 4, 2) := by decide +kernel
theorem dX0_writeCall_62 : decode cX0_writeCall 62 = .ok (.if_icmp .ne 9, 3) := by decide +kernel
theorem dX0_writeCall_65 : decode cX0_writeCall 65 = .ok (.sipush 8192, 3) := by decide +kernel
theorem dX0_writeCall_68 : decode cX0_writeCall 68 = .ok (.goto 4, 3) := by decide +kernel
theorem dX0_writeCall_71 : decode cX0_writeCall 71 = .ok (.iconst 0, 1) := by decide +kernel
theorem dX0_writeCall_72 : decode cX0_writeCall 72 = .ok (.iadd, 1) := by decide +kernel
theorem dX0_writeCall_73 : decode cX0_writeCall 73 = .ok (.iload 6, 2) := by decide +kernel
theorem dX0_writeCall_75 : decode cX0_writeCall 75 = .ok (.iload 4, 2) := by decide +kernel
theorem dX0_writeCall_77 : decode cX0_writeCall 77 = .ok (.if_icmp .ne 9, 3) := by decide +kernel
theorem dX0_writeCall_80 : decode cX0_writeCall 80 = .ok (.sipush 2048, 3) := by decide +kernel
theorem dX0_writeCall_83 : decode cX0_writeCall 83 = .ok (.goto 4, 3) := by decide +kernel
theorem dX0_writeCall_86 : decode cX0_writeCall 86 = .ok (.iconst 0, 1) := by decide +kernel
theorem dX0_writeCall_87 : decode cX0_writeCall 87 = .ok (.iadd, 1) := by decide +kernel
theorem dX0_writeCall_88 : decode cX0_writeCall 88 = .ok (.iload_n 3, 1) := by decide +kernel
theorem dX0_writeCall_89 : decode cX0_writeCall 89 = .ok (.sipush 2047, 3) := by decide +kernel
theorem dX0_writeCall_92 : decode cX0_writeCall 92 = .ok (.iand, 1) := by decide +kernel
theorem dX0_writeCall_93 : decode cX0_writeCall 93 = .ok (.iadd, 1) := by decide +kernel
theorem dX0_writeCall_94 : decode cX0_writeCall 94 = .ok (.invokevirtual 113, 3) := by decide +kernel
theorem dX0_writeCall_97 : decode cX0_writeCall 97 = .ok (.return_, 1) := by decide +kernel
theorem dX1_init_0 : decode cX1_init 0 = .ok (.aload_n 0, 1) := by decide +kernel
theorem dX1_init_1 : decode cX1_init 1 = .ok (.invokespecial 3, 3) := by decide +kernel
theorem dX1_init_4 : decode cX1_init 4 = .ok (.aload_n 0, 1) := by decide +kernel
theorem dX1_init_5 : decode cX1_init 5 = .ok (.iconst 0, 1) := by decide +kernel
theorem dX1_init_6 : decode cX1_init 6 = .ok (.putfield 9, 3) := by decide +kernel
theorem dX1_init_9 : decode cX1_init 9 = .ok (.aload_n 0, 1) := by decide +kernel
theorem dX1_init_10 : decode cX1_init 10 = .ok (.iconst (-1), 1) := by decide +kernel
theorem dX1_init_11 : decode cX1_init 11 = .ok (.putfield 15, 3) := by decide +kernel
theorem dX1_init_14 : decode cX1_init 14 = .ok (.aload_n 0, 1) := by decide +kernel
theorem dX1_init_15 : decode cX1_init 15 = .ok (.iconst (-1), 1) := by decide +kernel
theorem dX1_init_16 : decode cX1_init 16 = .ok (.putfield 18, 3) := by decide +kernel
theorem dX1_init_19 : decode cX1_init 19 = .ok (.aload_n 0, 1) := by decide +kernel
theorem dX1_init_20 : decode cX1_init 20 = .ok (.iconst (-1), 1) := by decide +kernel
theorem dX1_init_21 : decode cX1_init 21 = .ok (.putfield 21, 3) := by decide +kernel
theorem dX1_init_24 : decode cX1_init 24 = .ok (.return_, 1) := by decide +kernel
theorem dX1_forget_0 : decode cX1_forget 0 = .ok (.aload_n 0, 1) := by decide +kernel
theorem dX1_forget_1 : decode cX1_forget 1 = .ok (.iconst 0, 1) := by decide +kernel
theorem dX1_forget_2 : decode cX1_forget 2 = .ok (.putfield 9, 3) := by decide +kernel
theorem dX1_forget_5 : decode cX1_forget 5 = .ok (.aload_n 0, 1) := by decide +kernel
theorem dX1_forget_6 : decode cX1_forget 6 = .ok (.iconst (-1), 1) := by decide +kernel
theorem dX1_forget_7 : decode cX1_forget 7 = .ok (.putfield 15, 3) := by decide +kernel
theorem dX1_forget_10 : decode cX1_forget 10 = .ok (.aload_n 0, 1) := by decide +kernel
theorem dX1_forget_11 : decode cX1_forget 11 = .ok (.iconst (-1), 1) := by decide +kernel
theorem dX1_forget_12 : decode cX1_forget 12 = .ok (.putfield 18, 3) := by decide +kernel
theorem dX1_forget_15 : decode cX1_forget 15 = .ok (.aload_n 0, 1) := by decide +kernel
theorem dX1_forget_16 : decode cX1_forget 16 = .ok (.iconst (-1), 1) := by decide +kernel
theorem dX1_forget_17 : decode cX1_forget 17 = .ok (.putfield 21, 3) := by decide +kernel
theorem dX1_forget_20 : decode cX1_forget 20 = .ok (.return_, 1) := by decide +kernel
theorem dX1_tell_0 : decode cX1_tell 0 = .ok (.aload_n 0, 1) := by decide +kernel
theorem dX1_tell_1 : decode cX1_tell 1 = .ok (.iload_n 1, 1) := by decide +kernel
theorem dX1_tell_2 : decode cX1_tell 2 = .ok (.putfield 9, 3) := by decide +kernel
theorem dX1_tell_5 : decode cX1_tell 5 = .ok (.aload_n 0, 1) := by decide +kernel
theorem dX1_tell_6 : decode cX1_tell 6 = .ok (.iload_n 2, 1) := by decide +kernel
theorem dX1_tell_7 : decode cX1_tell 7 = .ok (.putfield 15, 3) := by decide +kernel
theorem dX1_tell_10 : decode cX1_tell 10 = .ok (.aload_n 0, 1) := by decide +kernel
theorem dX1_tell_11 : decode cX1_tell 11 = .ok (.iload_n 3, 1) := by decide +kernel
theorem dX1_tell_12 : decode cX1_tell 12 = .ok (.putfield 18, 3) := by decide +kernel
theorem dX1_tell_15 : decode cX1_tell 15 = .ok (.aload_n 0, 1) := by decide +kernel
theorem dX1_tell_16 : decode cX1_tell 16 = .ok (.iload 4, 2) := by decide +kernel
theorem dX1_tell_18 : decode cX1_tell 18 = .ok (.putfield 21, 3) := by decide +kernel
theorem dX1_tell_21 : decode cX1_tell 21 = .ok (.iconst 0, 1) := by decide +kernel
theorem dX1_tell_22 : decode cX1_tell 22 = .ok (.ireturn, 1) := by decide +kernel
theorem dX2_init_0 : decode cX2_init 0 = .ok (.aload_n 0, 1) := by decide +kernel
theorem dX2_init_1 : decode cX2_init 1 = .ok (.invokespecial 5, 3) := by decide +kernel
theorem dX2_init_4 : decode cX2_init 4 = .ok (.aload_n 0, 1) := by decide +kernel
theorem dX2_init_5 : decode cX2_init 5 = .ok (.sipush 2048, 3) := by decide +kernel
theorem dX2_init_8 : decode cX2_init 8 = .ok (.newarray .byte, 2) := by decide +kernel
theorem dX2_init_10 : decode cX2_init 10 = .ok (.putfield 11, 3) := by decide +kernel
theorem dX2_init_13 : decode cX2_init 13 = .ok (.return_, 1) := by decide +kernel
theorem dX2_clear_0 : decode cX2_clear 0 = .ok (.aload_n 0, 1) := by decide +kernel
theorem dX2_clear_1 : decode cX2_clear 1 = .ok (.getfield 11, 3) := by decide +kernel
theorem dX2_clear_4 : decode cX2_clear 4 = .ok (.iconst 0, 1) := by decide +kernel
theorem dX2_clear_5 : decode cX2_clear 5 = .ok (.invokestatic 15, 3) := by decide +kernel
theorem dX2_clear_8 : decode cX2_clear 8 = .ok (.aload_n 0, 1) := by decide +kernel
theorem dX2_clear_9 : decode cX2_clear 9 = .ok (.iconst 0, 1) := by decide +kernel
theorem dX2_clear_10 : decode cX2_clear 10 = .ok (.putfield 21, 3) := by decide +kernel
theorem dX2_clear_13 : decode cX2_clear 13 = .ok (.return_, 1) := by decide +kernel
theorem dX2_putByte_0 : decode cX2_putByte 0 = .ok (.iload_n 1, 1) := by decide +kernel
theorem dX2_putByte_1 : decode cX2_putByte 1 = .ok (.ifCond .lt 18, 3) := by decide +kernel
theorem dX2_putByte_4 : decode cX2_putByte 4 = .ok (.iload_n 1, 1) := by decide +kernel
theorem dX2_putByte_5 : decode cX2_putByte 5 = .ok (.sipush 2048, 3) := by decide +kernel
theorem dX2_putByte_8 : decode cX2_putByte 8 = .ok (.if_icmp .ge 11, 3) := by decide +kernel
theorem dX2_putByte_11 : decode cX2_putByte 11 = .ok (.aload_n 0, 1) := by decide +kernel
theorem dX2_putByte_12 : decode cX2_putByte 12 = .ok (.getfield 11, 3) := by decide +kernel
theorem dX2_putByte_15 : decode cX2_putByte 15 = .ok (.iload_n 1, 1) := by decide +kernel
theorem dX2_putByte_16 : decode cX2_putByte 16 = .ok (.iload_n 2, 1) := by decide +kernel
theorem dX2_putByte_17 : decode cX2_putByte 17 = .ok (.i2b, 1) := by decide +kernel
theorem dX2_putByte_18 : decode cX2_putByte 18 = .ok (.bastore, 1) := by decide +kernel
theorem dX2_putByte_19 : decode cX2_putByte 19 = .ok (.return_, 1) := by decide +kernel
theorem dX2_putHalf_0 : decode cX2_putHalf 0 = .ok (.aload_n 0, 1) := by decide +kernel
theorem dX2_putHalf_1 : decode cX2_putHalf 1 = .ok (.iload_n 1, 1) := by decide +kernel
theorem dX2_putHalf_2 : decode cX2_putHalf 2 = .ok (.iload_n 2, 1) := by decide +kernel
theorem dX2_putHalf_3 : decode cX2_putHalf 3 = .ok (.invokevirtual 25, 3) := by decide +kernel
theorem dX2_putHalf_6 : decode cX2_putHalf 6 = .ok (.aload_n 0, 1) := by decide +kernel
theorem dX2_putHalf_7 : decode cX2_putHalf 7 = .ok (.iload_n 1, 1) := by decide +kernel
theorem dX2_putHalf_8 : decode cX2_putHalf 8 = .ok (.iconst 1, 1) := by decide +kernel
theorem dX2_putHalf_9 : decode cX2_putHalf 9 = .ok (.iadd, 1) := by decide +kernel
theorem dX2_putHalf_10 : decode cX2_putHalf 10 = .ok (.iload_n 2, 1) := by decide +kernel
theorem dX2_putHalf_11 : decode cX2_putHalf 11 = .ok (.bipush 8, 2) := by decide +kernel
theorem dX2_putHalf_13 : decode cX2_putHalf 13 = .ok (.ishr, 1) := by decide +kernel
theorem dX2_putHalf_14 : decode cX2_putHalf 14 = .ok (.invokevirtual 25, 3) := by decide +kernel
theorem dX2_putHalf_17 : decode cX2_putHalf 17 = .ok (.return_, 1) := by decide +kernel
theorem dX2_putWord_0 : decode cX2_putWord 0 = .ok (.aload_n 0, 1) := by decide +kernel
theorem dX2_putWord_1 : decode cX2_putWord 1 = .ok (.iload_n 1, 1) := by decide +kernel
theorem dX2_putWord_2 : decode cX2_putWord 2 = .ok (.iload_n 2, 1) := by decide +kernel
theorem dX2_putWord_3 : decode cX2_putWord 3 = .ok (.invokevirtual 29, 3) := by decide +kernel
theorem dX2_putWord_6 : decode cX2_putWord 6 = .ok (.aload_n 0, 1) := by decide +kernel
theorem dX2_putWord_7 : decode cX2_putWord 7 = .ok (.iload_n 1, 1) := by decide +kernel
theorem dX2_putWord_8 : decode cX2_putWord 8 = .ok (.iconst 2, 1) := by decide +kernel
theorem dX2_putWord_9 : decode cX2_putWord 9 = .ok (.iadd, 1) := by decide +kernel
theorem dX2_putWord_10 : decode cX2_putWord 10 = .ok (.iload_n 2, 1) := by decide +kernel
theorem dX2_putWord_11 : decode cX2_putWord 11 = .ok (.bipush 16, 2) := by decide +kernel
theorem dX2_putWord_13 : decode cX2_putWord 13 = .ok (.ishr, 1) := by decide +kernel
theorem dX2_putWord_14 : decode cX2_putWord 14 = .ok (.invokevirtual 29, 3) := by decide +kernel
theorem dX2_putWord_17 : decode cX2_putWord 17 = .ok (.return_, 1) := by decide +kernel
theorem dX2_byteAt_0 : decode cX2_byteAt 0 = .ok (.iload_n 1, 1) := by decide +kernel
theorem dX2_byteAt_1 : decode cX2_byteAt 1 = .ok (.ifCond .lt 24, 3) := by decide +kernel
theorem dX2_byteAt_4 : decode cX2_byteAt 4 = .ok (.iload_n 1, 1) := by decide +kernel
theorem dX2_byteAt_5 : decode cX2_byteAt 5 = .ok (.aload_n 0, 1) := by decide +kernel
theorem dX2_byteAt_6 : decode cX2_byteAt 6 = .ok (.getfield 21, 3) := by decide +kernel
theorem dX2_byteAt_9 : decode cX2_byteAt 9 = .ok (.if_icmp .ge 16, 3) := by decide +kernel
theorem dX2_byteAt_12 : decode cX2_byteAt 12 = .ok (.aload_n 0, 1) := by decide +kernel
theorem dX2_byteAt_13 : decode cX2_byteAt 13 = .ok (.getfield 11, 3) := by decide +kernel
theorem dX2_byteAt_16 : decode cX2_byteAt 16 = .ok (.iload_n 1, 1) := by decide +kernel
theorem dX2_byteAt_17 : decode cX2_byteAt 17 = .ok (.baload, 1) := by decide +kernel
theorem dX2_byteAt_18 : decode cX2_byteAt 18 = .ok (.sipush 255, 3) := by decide +kernel
theorem dX2_byteAt_21 : decode cX2_byteAt 21 = .ok (.iand, 1) := by decide +kernel
theorem dX2_byteAt_22 : decode cX2_byteAt 22 = .ok (.goto 4, 3) := by decide +kernel
theorem dX2_byteAt_25 : decode cX2_byteAt 25 = .ok (.iconst (-1), 1) := by decide +kernel
theorem dX2_byteAt_26 : decode cX2_byteAt 26 = .ok (.ireturn, 1) := by decide +kernel
theorem dX2_recordCharacter_0 : decode cX2_recordCharacter 0 = .ok (.iload_n 1, 1) := by decide +kernel
theorem dX2_recordCharacter_1 : decode cX2_recordCharacter 1 = .ok (.ifCond .lt 10, 3) := by decide +kernel
theorem dX2_recordCharacter_4 : decode cX2_recordCharacter 4 = .ok (.aload_n 0, 1) := by decide +kernel
theorem dX2_recordCharacter_5 : decode cX2_recordCharacter 5 = .ok (.getfield 21, 3) := by decide +kernel
theorem dX2_recordCharacter_8 : decode cX2_recordCharacter 8 = .ok (.ifCond .ne 6, 3) := by decide +kernel
theorem dX2_recordCharacter_11 : decode cX2_recordCharacter 11 = .ok (.bipush 32, 2) := by decide +kernel
theorem dX2_recordCharacter_13 : decode cX2_recordCharacter 13 = .ok (.ireturn, 1) := by decide +kernel
theorem dX2_recordCharacter_14 : decode cX2_recordCharacter 14 = .ok (.iload_n 1, 1) := by decide +kernel
theorem dX2_recordCharacter_15 : decode cX2_recordCharacter 15 = .ok (.ldc 32, 2) := by decide +kernel
theorem dX2_recordCharacter_17 : decode cX2_recordCharacter 17 = .ok (.invokevirtual 34, 3) := by decide +kernel
theorem dX2_recordCharacter_20 : decode cX2_recordCharacter 20 = .ok (.if_icmp .ge 10, 3) := by decide +kernel
theorem dX2_recordCharacter_23 : decode cX2_recordCharacter 23 = .ok (.ldc 32, 2) := by decide +kernel
theorem dX2_recordCharacter_25 : decode cX2_recordCharacter 25 = .ok (.iload_n 1, 1) := by decide +kernel
theorem dX2_recordCharacter_26 : decode cX2_recordCharacter 26 = .ok (.invokevirtual 39, 3) := by decide +kernel
theorem dX2_recordCharacter_29 : decode cX2_recordCharacter 29 = .ok (.ireturn, 1) := by decide +kernel
theorem dX2_recordCharacter_30 : decode cX2_recordCharacter 30 = .ok (.iload_n 1, 1) := by decide +kernel
theorem dX2_recordCharacter_31 : decode cX2_recordCharacter 31 = .ok (.ldc 32, 2) := by decide +kernel
theorem dX2_recordCharacter_33 : decode cX2_recordCharacter 33 = .ok (.invokevirtual 34, 3) := by decide +kernel
theorem dX2_recordCharacter_36 : decode cX2_recordCharacter 36 = .ok (.isub, 1) := by decide +kernel
theorem dX2_recordCharacter_37 : decode cX2_recordCharacter 37 = .ok (.istore_n 2, 1) := by decide +kernel
theorem dX2_recordCharacter_38 : decode cX2_recordCharacter 38 = .ok (.aload_n 0, 1) := by decide +kernel
theorem dX2_recordCharacter_39 : decode cX2_recordCharacter 39 = .ok (.getfield 21, 3) := by decide +kernel
theorem dX2_recordCharacter_42 : decode cX2_recordCharacter 42 = .ok (.bipush 16, 2) := by decide +kernel
theorem dX2_recordCharacter_44 : decode cX2_recordCharacter 44 = .ok (.iadd, 1) := by decide +kernel
theorem dX2_recordCharacter_45 : decode cX2_recordCharacter 45 = .ok (.iconst 1, 1) := by decide +kernel
theorem dX2_recordCharacter_46 : decode cX2_recordCharacter 46 = .ok (.isub, 1) := by decide +kernel
theorem dX2_recordCharacter_47 : decode cX2_recordCharacter 47 = .ok (.bipush 16, 2) := by decide +kernel
theorem dX2_recordCharacter_49 : decode cX2_recordCharacter 49 = .ok (.idiv, 1) := by decide +kernel
theorem dX2_recordCharacter_50 : decode cX2_recordCharacter 50 = .ok (.istore_n 3, 1) := by decide +kernel
theorem dX2_recordCharacter_51 : decode cX2_recordCharacter 51 = .ok (.iload_n 3, 1) := by decide +kernel
theorem dX2_recordCharacter_52 : decode cX2_recordCharacter 52 = .ok (.bipush 12, 2) := by decide +kernel
theorem dX2_recordCharacter_54 : decode cX2_recordCharacter 54 = .ok (.imul, 1) := by decide +kernel
theorem dX2_recordCharacter_55 : decode cX2_recordCharacter 55 = .ok (.iconst 2, 1) := by decide +kernel
theorem dX2_recordCharacter_56 : decode cX2_recordCharacter 56 = .ok (.aload_n 0, 1) := by decide +kernel
theorem dX2_recordCharacter_57 : decode cX2_recordCharacter 57 = .ok (.getfield 21, 3) := by decide +kernel
theorem dX2_recordCharacter_60 : decode cX2_recordCharacter 60 = .ok (.imul, 1) := by decide +kernel
theorem dX2_recordCharacter_61 : decode cX2_recordCharacter 61 = .ok (.iadd, 1) := by decide +kernel
theorem dX2_recordCharacter_62 : decode cX2_recordCharacter 62 = .ok (.istore 4, 2) := by decide +kernel
theorem dX2_recordCharacter_64 : decode cX2_recordCharacter 64 = .ok (.iload_n 2, 1) := by decide +kernel
theorem dX2_recordCharacter_65 : decode cX2_recordCharacter 65 = .ok (.iload 4, 2) := by decide +kernel
theorem dX2_recordCharacter_67 : decode cX2_recordCharacter 67 = .ok (.if_icmp .ge 16, 3) := by decide +kernel
theorem dX2_recordCharacter_70 : decode cX2_recordCharacter 70 = .ok (.aload_n 0, 1) := by decide +kernel
theorem dX2_recordCharacter_71 : decode cX2_recordCharacter 71 = .ok (.iload_n 2, 1) := by decide +kernel
theorem dX2_recordCharacter_72 : decode cX2_recordCharacter 72 = .ok (.bipush 44, 2) := by decide +kernel
theorem dX2_recordCharacter_74 : decode cX2_recordCharacter 74 = .ok (.idiv, 1) := by decide +kernel
theorem dX2_recordCharacter_75 : decode cX2_recordCharacter 75 = .ok (.iload_n 2, 1) := by decide +kernel
theorem dX2_recordCharacter_76 : decode cX2_recordCharacter 76 = .ok (.bipush 44, 2) := by decide +kernel
theorem dX2_recordCharacter_78 : decode cX2_recordCharacter 78 = .ok (.irem, 1) := by decide +kernel
theorem dX2_recordCharacter_79 : decode cX2_recordCharacter 79 = .ok (.invokevirtual 43, 3) := by decide +kernel
theorem dX2_recordCharacter_82 : decode cX2_recordCharacter 82 = .ok (.ireturn, 1) := by decide +kernel
theorem dX2_recordCharacter_83 : decode cX2_recordCharacter 83 = .ok (.iload_n 2, 1) := by decide +kernel
theorem dX2_recordCharacter_84 : decode cX2_recordCharacter 84 = .ok (.iload 4, 2) := by decide +kernel
theorem dX2_recordCharacter_86 : decode cX2_recordCharacter 86 = .ok (.isub, 1) := by decide +kernel
theorem dX2_recordCharacter_87 : decode cX2_recordCharacter 87 = .ok (.istore_n 2, 1) := by decide +kernel
theorem dX2_recordCharacter_88 : decode cX2_recordCharacter 88 = .ok (.iload_n 2, 1) := by decide +kernel
theorem dX2_recordCharacter_89 : decode cX2_recordCharacter 89 = .ok (.ldc 47, 2) := by decide +kernel
theorem dX2_recordCharacter_91 : decode cX2_recordCharacter 91 = .ok (.invokevirtual 34, 3) := by decide +kernel
theorem dX2_recordCharacter_94 : decode cX2_recordCharacter 94 = .ok (.if_icmp .ge 12, 3) := by decide +kernel
theorem dX2_recordCharacter_97 : decode cX2_recordCharacter 97 = .ok (.ldc 47, 2) := by decide +kernel
theorem dX2_recordCharacter_99 : decode cX2_recordCharacter 99 = .ok (.iload_n 2, 1) := by decide +kernel
theorem dX2_recordCharacter_100 : decode cX2_recordCharacter 100 = .ok (.invokevirtual 39, 3) := by decide +kernel
theorem dX2_recordCharacter_103 : decode cX2_recordCharacter 103 = .ok (.goto 5, 3) := by decide +kernel
theorem dX2_recordCharacter_106 : decode cX2_recordCharacter 106 = .ok (.bipush 32, 2) := by decide +kernel
theorem dX2_recordCharacter_108 : decode cX2_recordCharacter 108 = .ok (.ireturn, 1) := by decide +kernel
theorem dX2_bodyCharacter_0 : decode cX2_bodyCharacter 0 = .ok (.bipush 16, 2) := by decide +kernel
theorem dX2_bodyCharacter_2 : decode cX2_bodyCharacter 2 = .ok (.aload_n 0, 1) := by decide +kernel
theorem dX2_bodyCharacter_3 : decode cX2_bodyCharacter 3 = .ok (.getfield 21, 3) := by decide +kernel
theorem dX2_bodyCharacter_6 : decode cX2_bodyCharacter 6 = .ok (.iload_n 1, 1) := by decide +kernel
theorem dX2_bodyCharacter_7 : decode cX2_bodyCharacter 7 = .ok (.bipush 16, 2) := by decide +kernel
theorem dX2_bodyCharacter_9 : decode cX2_bodyCharacter 9 = .ok (.imul, 1) := by decide +kernel
theorem dX2_bodyCharacter_10 : decode cX2_bodyCharacter 10 = .ok (.isub, 1) := by decide +kernel
theorem dX2_bodyCharacter_11 : decode cX2_bodyCharacter 11 = .ok (.invokestatic 49, 3) := by decide +kernel
theorem dX2_bodyCharacter_14 : decode cX2_bodyCharacter 14 = .ok (.istore_n 3, 1) := by decide +kernel
theorem dX2_bodyCharacter_15 : decode cX2_bodyCharacter 15 = .ok (.iload_n 2, 1) := by decide +kernel
theorem dX2_bodyCharacter_16 : decode cX2_bodyCharacter 16 = .ok (.ifCond .ne 6, 3) := by decide +kernel
theorem dX2_bodyCharacter_19 : decode cX2_bodyCharacter 19 = .ok (.bipush 58, 2) := by decide +kernel
theorem dX2_bodyCharacter_21 : decode cX2_bodyCharacter 21 = .ok (.ireturn, 1) := by decide +kernel
theorem dX2_bodyCharacter_22 : decode cX2_bodyCharacter 22 = .ok (.iload_n 2, 1) := by decide +kernel
theorem dX2_bodyCharacter_23 : decode cX2_bodyCharacter 23 = .ok (.bipush 12, 2) := by decide +kernel
theorem dX2_bodyCharacter_25 : decode cX2_bodyCharacter 25 = .ok (.iconst 2, 1) := by decide +kernel
theorem dX2_bodyCharacter_26 : decode cX2_bodyCharacter 26 = .ok (.iload_n 3, 1) := by decide +kernel
theorem dX2_bodyCharacter_27 : decode cX2_bodyCharacter 27 = .ok (.imul, 1) := by decide +kernel
theorem dX2_bodyCharacter_28 : decode cX2_bodyCharacter 28 = .ok (.iadd, 1) := by decide +kernel
theorem dX2_bodyCharacter_29 : decode cX2_bodyCharacter 29 = .ok (.iconst 1, 1) := by decide +kernel
theorem dX2_bodyCharacter_30 : decode cX2_bodyCharacter 30 = .ok (.isub, 1) := by decide +kernel
theorem dX2_bodyCharacter_31 : decode cX2_bodyCharacter 31 = .ok (.if_icmp .ne 6, 3) := by decide +kernel
theorem dX2_bodyCharacter_34 : decode cX2_bodyCharacter 34 = .ok (.bipush 10, 2) := by decide +kernel
theorem dX2_bodyCharacter_36 : decode cX2_bodyCharacter 36 = .ok (.ireturn, 1) := by decide +kernel
theorem dX2_bodyCharacter_37 : decode cX2_bodyCharacter 37 = .ok (.aload_n 0, 1) := by decide +kernel
theorem dX2_bodyCharacter_38 : decode cX2_bodyCharacter 38 = .ok (.iload_n 1, 1) := by decide +kernel
theorem dX2_bodyCharacter_39 : decode cX2_bodyCharacter 39 = .ok (.bipush 16, 2) := by decide +kernel
theorem dX2_bodyCharacter_41 : decode cX2_bodyCharacter 41 = .ok (.imul, 1) := by decide +kernel
theorem dX2_bodyCharacter_42 : decode cX2_bodyCharacter 42 = .ok (.iload_n 3, 1) := by decide +kernel
theorem dX2_bodyCharacter_43 : decode cX2_bodyCharacter 43 = .ok (.iload_n 2, 1) := by decide +kernel
theorem dX2_bodyCharacter_44 : decode cX2_bodyCharacter 44 = .ok (.iconst 1, 1) := by decide +kernel
theorem dX2_bodyCharacter_45 : decode cX2_bodyCharacter 45 = .ok (.isub, 1) := by decide +kernel
theorem dX2_bodyCharacter_46 : decode cX2_bodyCharacter 46 = .ok (.iconst 2, 1) := by decide +kernel
theorem dX2_bodyCharacter_47 : decode cX2_bodyCharacter 47 = .ok (.idiv, 1) := by decide +kernel
theorem dX2_bodyCharacter_48 : decode cX2_bodyCharacter 48 = .ok (.invokevirtual 55, 3) := by decide +kernel
theorem dX2_bodyCharacter_51 : decode cX2_bodyCharacter 51 = .ok (.istore 4, 2) := by decide +kernel
theorem dX2_bodyCharacter_53 : decode cX2_bodyCharacter 53 = .ok (.ldc 59, 2) := by decide +kernel
theorem dX2_bodyCharacter_55 : decode cX2_bodyCharacter 55 = .ok (.iload_n 2, 1) := by decide +kernel
theorem dX2_bodyCharacter_56 : decode cX2_bodyCharacter 56 = .ok (.iconst 1, 1) := by decide +kernel
theorem dX2_bodyCharacter_57 : decode cX2_bodyCharacter 57 = .ok (.iand, 1) := by decide +kernel
theorem dX2_bodyCharacter_58 : decode cX2_bodyCharacter 58 = .ok (.iconst 1, 1) := by decide +kernel
theorem dX2_bodyCharacter_59 : decode cX2_bodyCharacter 59 = .ok (.if_icmp .ne 13, 3) := by decide +kernel
theorem dX2_bodyCharacter_62 : decode cX2_bodyCharacter 62 = .ok (.iload 4, 2) := by decide +kernel
theorem dX2_bodyCharacter_64 : decode cX2_bodyCharacter 64 = .ok (.iconst 4, 1) := by decide +kernel
theorem dX2_bodyCharacter_65 : decode cX2_bodyCharacter 65 = .ok (.ishr, 1) := by decide +kernel
theorem dX2_bodyCharacter_66 : decode cX2_bodyCharacter 66 = .ok (.bipush 15, 2) := by decide +kernel
theorem dX2_bodyCharacter_68 : decode cX2_bodyCharacter 68 = .ok (.iand, 1) := by decide +kernel
theorem dX2_bodyCharacter_69 : decode cX2_bodyCharacter 69 = .ok (.goto 8, 3) := by decide +kernel
theorem dX2_bodyCharacter_72 : decode cX2_bodyCharacter 72 = .ok (.iload 4, 2) := by decide +kernel
theorem dX2_bodyCharacter_74 : decode cX2_bodyCharacter 74 = .ok (.bipush 15, 2) := by decide +kernel
theorem dX2_bodyCharacter_76 : decode cX2_bodyCharacter 76 = .ok (.iand, 1) := by decide +kernel
theorem dX2_bodyCharacter_77 : decode cX2_bodyCharacter 77 = .ok (.invokevirtual 39, 3) := by decide +kernel
theorem dX2_bodyCharacter_80 : decode cX2_bodyCharacter 80 = .ok (.ireturn, 1) := by decide +kernel
theorem dX2_recordByte_0 : decode cX2_recordByte 0 = .ok (.iload_n 3, 1) := by decide +kernel
theorem dX2_recordByte_1 : decode cX2_recordByte 1 = .ok (.iload_n 2, 1) := by decide +kernel
theorem dX2_recordByte_2 : decode cX2_recordByte 2 = .ok (.iconst 4, 1) := by decide +kernel
theorem dX2_recordByte_3 : decode cX2_recordByte 3 = .ok (.iadd, 1) := by decide +kernel
theorem dX2_recordByte_4 : decode cX2_recordByte 4 = .ok (.if_icmp .ne 44, 3) := by decide +kernel
theorem dX2_recordByte_7 : decode cX2_recordByte 7 = .ok (.iconst 0, 1) := by decide +kernel
theorem dX2_recordByte_8 : decode cX2_recordByte 8 = .ok (.istore 4, 2) := by decide +kernel
theorem dX2_recordByte_10 : decode cX2_recordByte 10 = .ok (.iconst 0, 1) := by decide +kernel
theorem dX2_recordByte_11 : decode cX2_recordByte 11 = .ok (.istore 5, 2) := by decide +kernel
theorem dX2_recordByte_13 : decode cX2_recordByte 13 = .ok (.iload 5, 2) := by decide +kernel
theorem dX2_recordByte_15 : decode cX2_recordByte 15 = .ok (.iload_n 2, 1) := by decide +kernel
theorem dX2_recordByte_16 : decode cX2_recordByte 16 = .ok (.iconst 4, 1) := by decide +kernel
theorem dX2_recordByte_17 : decode cX2_recordByte 17 = .ok (.iadd, 1) := by decide +kernel
theorem dX2_recordByte_18 : decode cX2_recordByte 18 = .ok (.if_icmp .ge 22, 3) := by decide +kernel
theorem dX2_recordByte_21 : decode cX2_recordByte 21 = .ok (.iload 4, 2) := by decide +kernel
theorem dX2_recordByte_23 : decode cX2_recordByte 23 = .ok (.aload_n 0, 1) := by decide +kernel
theorem dX2_recordByte_24 : decode cX2_recordByte 24 = .ok (.iload_n 1, 1) := by decide +kernel
theorem dX2_recordByte_25 : decode cX2_recordByte 25 = .ok (.iload_n 2, 1) := by decide +kernel
theorem dX2_recordByte_26 : decode cX2_recordByte 26 = .ok (.iload 5, 2) := by decide +kernel
theorem dX2_recordByte_28 : decode cX2_recordByte 28 = .ok (.invokevirtual 61, 3) := by decide +kernel
theorem dX2_recordByte_31 : decode cX2_recordByte 31 = .ok (.iadd, 1) := by decide +kernel
theorem dX2_recordByte_32 : decode cX2_recordByte 32 = .ok (.istore 4, 2) := by decide +kernel
theorem dX2_recordByte_34 : decode cX2_recordByte 34 = .ok (.iinc 5 1, 3) := by decide +kernel
theorem dX2_recordByte_37 : decode cX2_recordByte 37 = .ok (.goto (-24), 3) := by decide +kernel
theorem dX2_recordByte_40 : decode cX2_recordByte 40 = .ok (.iload 4, 2) := by decide +kernel
theorem dX2_recordByte_42 : decode cX2_recordByte 42 = .ok (.ineg, 1) := by decide +kernel
theorem dX2_recordByte_43 : decode cX2_recordByte 43 = .ok (.sipush 255, 3) := by decide +kernel
theorem dX2_recordByte_46 : decode cX2_recordByte 46 = .ok (.iand, 1) := by decide +kernel
theorem dX2_recordByte_47 : decode cX2_recordByte 47 = .ok (.ireturn, 1) := by decide +kernel
theorem dX2_recordByte_48 : decode cX2_recordByte 48 = .ok (.aload_n 0, 1) := by decide +kernel
theorem dX2_recordByte_49 : decode cX2_recordByte 49 = .ok (.iload_n 1, 1) := by decide +kernel
theorem dX2_recordByte_50 : decode cX2_recordByte 50 = .ok (.iload_n 2, 1) := by decide +kernel
theorem dX2_recordByte_51 : decode cX2_recordByte 51 = .ok (.iload_n 3, 1) := by decide +kernel
theorem dX2_recordByte_52 : decode cX2_recordByte 52 = .ok (.invokevirtual 61, 3) := by decide +kernel
theorem dX2_recordByte_55 : decode cX2_recordByte 55 = .ok (.ireturn, 1) := by decide +kernel
theorem dX2_plainRecordByte_0 : decode cX2_plainRecordByte 0 = .ok (.iload_n 3, 1) := by decide +kernel
theorem dX2_plainRecordByte_1 : decode cX2_plainRecordByte 1 = .ok (.tableswitch 50 0 3 #[31, 33, 42, 48], 31) := by decide +kernel
theorem dX2_plainRecordByte_32 : decode cX2_plainRecordByte 32 = .ok (.iload_n 2, 1) := by decide +kernel
theorem dX2_plainRecordByte_33 : decode cX2_plainRecordByte 33 = .ok (.ireturn, 1) := by decide +kernel
theorem dX2_plainRecordByte_34 : decode cX2_plainRecordByte 34 = .ok (.iload_n 1, 1) := by decide +kernel
theorem dX2_plainRecordByte_35 : decode cX2_plainRecordByte 35 = .ok (.bipush 8, 2) := by decide +kernel
theorem dX2_plainRecordByte_37 : decode cX2_plainRecordByte 37 = .ok (.ishr, 1) := by decide +kernel
theorem dX2_plainRecordByte_38 : decode cX2_plainRecordByte 38 = .ok (.sipush 255, 3) := by decide +kernel
theorem dX2_plainRecordByte_41 : decode cX2_plainRecordByte 41 = .ok (.iand, 1) := by decide +kernel
theorem dX2_plainRecordByte_42 : decode cX2_plainRecordByte 42 = .ok (.ireturn, 1) := by decide +kernel
theorem dX2_plainRecordByte_43 : decode cX2_plainRecordByte 43 = .ok (.iload_n 1, 1) := by decide +kernel
theorem dX2_plainRecordByte_44 : decode cX2_plainRecordByte 44 = .ok (.sipush 255, 3) := by decide +kernel
theorem dX2_plainRecordByte_47 : decode cX2_plainRecordByte 47 = .ok (.iand, 1) := by decide +kernel
theorem dX2_plainRecordByte_48 : decode cX2_plainRecordByte 48 = .ok (.ireturn, 1) := by decide +kernel
theorem dX2_plainRecordByte_49 : decode cX2_plainRecordByte 49 = .ok (.iconst 0, 1) := by decide +kernel
theorem dX2_plainRecordByte_50 : decode cX2_plainRecordByte 50 = .ok (.ireturn, 1) := by decide +kernel
theorem dX2_plainRecordByte_51 : decode cX2_plainRecordByte 51 = .ok (.aload_n 0, 1) := by decide +kernel
theorem dX2_plainRecordByte_52 : decode cX2_plainRecordByte 52 = .ok (.iload_n 1, 1) := by decide +kernel
theorem dX2_plainRecordByte_53 : decode cX2_plainRecordByte 53 = .ok (.iload_n 3, 1) := by decide +kernel
theorem dX2_plainRecordByte_54 : decode cX2_plainRecordByte 54 = .ok (.iadd, 1) := by decide +kernel
theorem dX2_plainRecordByte_55 : decode cX2_plainRecordByte 55 = .ok (.iconst 4, 1) := by decide +kernel
theorem dX2_plainRecordByte_56 : decode cX2_plainRecordByte 56 = .ok (.isub, 1) := by decide +kernel
theorem dX2_plainRecordByte_57 : decode cX2_plainRecordByte 57 = .ok (.invokevirtual 64, 3) := by decide +kernel
theorem dX2_plainRecordByte_60 : decode cX2_plainRecordByte 60 = .ok (.ireturn, 1) := by decide +kernel
theorem dX3_init_0 : decode cX3_init 0 = .ok (.aload_n 0, 1) := by decide +kernel
theorem dX3_init_1 : decode cX3_init 1 = .ok (.invokespecial 3, 3) := by decide +kernel
theorem dX3_init_4 : decode cX3_init 4 = .ok (.aload_n 0, 1) := by decide +kernel
theorem dX3_init_5 : decode cX3_init 5 = .ok (.bipush 96, 2) := by decide +kernel
theorem dX3_init_7 : decode cX3_init 7 = .ok (.newarray .long, 2) := by decide +kernel
theorem dX3_init_9 : decode cX3_init 9 = .ok (.putfield 9, 3) := by decide +kernel
theorem dX3_init_12 : decode cX3_init 12 = .ok (.aload_n 0, 1) := by decide +kernel
theorem dX3_init_13 : decode cX3_init 13 = .ok (.bipush 96, 2) := by decide +kernel
theorem dX3_init_15 : decode cX3_init 15 = .ok (.newarray .boolean, 2) := by decide +kernel
theorem dX3_init_17 : decode cX3_init 17 = .ok (.putfield 15, 3) := by decide +kernel
theorem dX3_init_20 : decode cX3_init 20 = .ok (.aload_n 0, 1) := by decide +kernel
theorem dX3_init_21 : decode cX3_init 21 = .ok (.bipush 96, 2) := by decide +kernel
theorem dX3_init_23 : decode cX3_init 23 = .ok (.newarray .int, 2) := by decide +kernel
theorem dX3_init_25 : decode cX3_init 25 = .ok (.putfield 19, 3) := by decide +kernel
theorem dX3_init_28 : decode cX3_init 28 = .ok (.aload_n 0, 1) := by decide +kernel
theorem dX3_init_29 : decode cX3_init 29 = .ok (.bipush 96, 2) := by decide +kernel
theorem dX3_init_31 : decode cX3_init 31 = .ok (.newarray .int, 2) := by decide +kernel
theorem dX3_init_33 : decode cX3_init 33 = .ok (.putfield 23, 3) := by decide +kernel
theorem dX3_init_36 : decode cX3_init 36 = .ok (.aload_n 0, 1) := by decide +kernel
theorem dX3_init_37 : decode cX3_init 37 = .ok (.bipush 96, 2) := by decide +kernel
theorem dX3_init_39 : decode cX3_init 39 = .ok (.newarray .int, 2) := by decide +kernel
theorem dX3_init_41 : decode cX3_init 41 = .ok (.putfield 26, 3) := by decide +kernel
theorem dX3_init_44 : decode cX3_init 44 = .ok (.return_, 1) := by decide +kernel
theorem dX3_append_0 : decode cX3_append 0 = .ok (.aload_n 0, 1) := by decide +kernel
theorem dX3_append_1 : decode cX3_append 1 = .ok (.getfield 29, 3) := by decide +kernel
theorem dX3_append_4 : decode cX3_append 4 = .ok (.bipush 96, 2) := by decide +kernel
theorem dX3_append_6 : decode cX3_append 6 = .ok (.if_icmp .ge 65, 3) := by decide +kernel
theorem dX3_append_9 : decode cX3_append 9 = .ok (.aload_n 0, 1) := by decide +kernel
theorem dX3_append_10 : decode cX3_append 10 = .ok (.getfield 9, 3) := by decide +kernel
theorem dX3_append_13 : decode cX3_append 13 = .ok (.aload_n 0, 1) := by decide +kernel
theorem dX3_append_14 : decode cX3_append 14 = .ok (.getfield 29, 3) := by decide +kernel
theorem dX3_append_17 : decode cX3_append 17 = .ok (.lload_n 1, 1) := by decide +kernel
theorem dX3_append_18 : decode cX3_append 18 = .ok (.lastore, 1) := by decide +kernel
theorem dX3_append_19 : decode cX3_append 19 = .ok (.aload_n 0, 1) := by decide +kernel
theorem dX3_append_20 : decode cX3_append 20 = .ok (.getfield 15, 3) := by decide +kernel
theorem dX3_append_23 : decode cX3_append 23 = .ok (.aload_n 0, 1) := by decide +kernel
theorem dX3_append_24 : decode cX3_append 24 = .ok (.getfield 29, 3) := by decide +kernel
theorem dX3_append_27 : decode cX3_append 27 = .ok (.iconst 0, 1) := by decide +kernel
theorem dX3_append_28 : decode cX3_append 28 = .ok (.bastore, 1) := by decide +kernel
theorem dX3_append_29 : decode cX3_append 29 = .ok (.aload_n 0, 1) := by decide +kernel
theorem dX3_append_30 : decode cX3_append 30 = .ok (.getfield 19, 3) := by decide +kernel
theorem dX3_append_33 : decode cX3_append 33 = .ok (.aload_n 0, 1) := by decide +kernel
theorem dX3_append_34 : decode cX3_append 34 = .ok (.getfield 29, 3) := by decide +kernel
theorem dX3_append_37 : decode cX3_append 37 = .ok (.iload_n 3, 1) := by decide +kernel
theorem dX3_append_38 : decode cX3_append 38 = .ok (.iastore, 1) := by decide +kernel
theorem dX3_append_39 : decode cX3_append 39 = .ok (.aload_n 0, 1) := by decide +kernel
theorem dX3_append_40 : decode cX3_append 40 = .ok (.getfield 23, 3) := by decide +kernel
theorem dX3_append_43 : decode cX3_append 43 = .ok (.aload_n 0, 1) := by decide +kernel
theorem dX3_append_44 : decode cX3_append 44 = .ok (.getfield 29, 3) := by decide +kernel
theorem dX3_append_47 : decode cX3_append 47 = .ok (.iload 4, 2) := by decide +kernel
theorem dX3_append_49 : decode cX3_append 49 = .ok (.iastore, 1) := by decide +kernel
theorem dX3_append_50 : decode cX3_append 50 = .ok (.aload_n 0, 1) := by decide +kernel
theorem dX3_append_51 : decode cX3_append 51 = .ok (.getfield 26, 3) := by decide +kernel
theorem dX3_append_54 : decode cX3_append 54 = .ok (.aload_n 0, 1) := by decide +kernel
theorem dX3_append_55 : decode cX3_append 55 = .ok (.getfield 29, 3) := by decide +kernel
theorem dX3_append_58 : decode cX3_append 58 = .ok (.iload 5, 2) := by decide +kernel
theorem dX3_append_60 : decode cX3_append 60 = .ok (.iastore, 1) := by decide +kernel
theorem dX3_append_61 : decode cX3_append 61 = .ok (.aload_n 0, 1) := by decide +kernel
theorem dX3_append_62 : decode cX3_append 62 = .ok (.dup, 1) := by decide +kernel
theorem dX3_append_63 : decode cX3_append 63 = .ok (.getfield 29, 3) := by decide +kernel
theorem dX3_append_66 : decode cX3_append 66 = .ok (.iconst 1, 1) := by decide +kernel
theorem dX3_append_67 : decode cX3_append 67 = .ok (.iadd, 1) := by decide +kernel
theorem dX3_append_68 : decode cX3_append 68 = .ok (.putfield 29, 3) := by decide +kernel
theorem dX3_append_71 : decode cX3_append 71 = .ok (.return_, 1) := by decide +kernel
theorem dX3_find_0 : decode cX3_find 0 = .ok (.iconst 0, 1) := by decide +kernel
theorem dX3_find_1 : decode cX3_find 1 = .ok (.istore 4, 2) := by decide +kernel
theorem dX3_find_3 : decode cX3_find 3 = .ok (.iload 4, 2) := by decide +kernel
theorem dX3_find_5 : decode cX3_find 5 = .ok (.aload_n 0, 1) := by decide +kernel
theorem dX3_find_6 : decode cX3_find 6 = .ok (.getfield 29, 3) := by decide +kernel
theorem dX3_find_9 : decode cX3_find 9 = .ok (.if_icmp .ge 35, 3) := by decide +kernel
theorem dX3_find_12 : decode cX3_find 12 = .ok (.aload_n 0, 1) := by decide +kernel
theorem dX3_find_13 : decode cX3_find 13 = .ok (.getfield 19, 3) := by decide +kernel
theorem dX3_find_16 : decode cX3_find 16 = .ok (.iload 4, 2) := by decide +kernel
theorem dX3_find_18 : decode cX3_find 18 = .ok (.iaload, 1) := by decide +kernel
theorem dX3_find_19 : decode cX3_find 19 = .ok (.iload_n 1, 1) := by decide +kernel
theorem dX3_find_20 : decode cX3_find 20 = .ok (.if_icmp .ne 18, 3) := by decide +kernel
theorem dX3_find_23 : decode cX3_find 23 = .ok (.aload_n 0, 1) := by decide +kernel
theorem dX3_find_24 : decode cX3_find 24 = .ok (.getfield 9, 3) := by decide +kernel
theorem dX3_find_27 : decode cX3_find 27 = .ok (.iload 4, 2) := by decide +kernel
theorem dX3_find_29 : decode cX3_find 29 = .ok (.laload, 1) := by decide +kernel
theorem dX3_find_30 : decode cX3_find 30 = .ok (.lload_n 2, 1) := by decide +kernel
theorem dX3_find_31 : decode cX3_find 31 = .ok (.lcmp, 1) := by decide +kernel
theorem dX3_find_32 : decode cX3_find 32 = .ok (.ifCond .ne 6, 3) := by decide +kernel
theorem dX3_find_35 : decode cX3_find 35 = .ok (.iload 4, 2) := by decide +kernel
theorem dX3_find_37 : decode cX3_find 37 = .ok (.ireturn, 1) := by decide +kernel
theorem dX3_find_38 : decode cX3_find 38 = .ok (.iinc 4 1, 3) := by decide +kernel
theorem dX3_find_41 : decode cX3_find 41 = .ok (.goto (-38), 3) := by decide +kernel
theorem dX3_find_44 : decode cX3_find 44 = .ok (.iconst (-1), 1) := by decide +kernel
theorem dX3_find_45 : decode cX3_find 45 = .ok (.ireturn, 1) := by decide +kernel
theorem dX3_findGlobal_0 : decode cX3_findGlobal 0 = .ok (.iconst 0, 1) := by decide +kernel
theorem dX3_findGlobal_1 : decode cX3_findGlobal 1 = .ok (.istore_n 3, 1) := by decide +kernel
theorem dX3_findGlobal_2 : decode cX3_findGlobal 2 = .ok (.iload_n 3, 1) := by decide +kernel
theorem dX3_findGlobal_3 : decode cX3_findGlobal 3 = .ok (.aload_n 0, 1) := by decide +kernel
theorem dX3_findGlobal_4 : decode cX3_findGlobal 4 = .ok (.getfield 29, 3) := by decide +kernel
theorem dX3_findGlobal_7 : decode cX3_findGlobal 7 = .ok (.if_icmp .ge 31, 3) := by decide +kernel
theorem dX3_findGlobal_10 : decode cX3_findGlobal 10 = .ok (.aload_n 0, 1) := by decide +kernel
theorem dX3_findGlobal_11 : decode cX3_findGlobal 11 = .ok (.getfield 15, 3) := by decide +kernel
theorem dX3_findGlobal_14 : decode cX3_findGlobal 14 = .ok (.iload_n 3, 1) := by decide +kernel
theorem dX3_findGlobal_15 : decode cX3_findGlobal 15 = .ok (.baload, 1) := by decide +kernel
theorem dX3_findGlobal_16 : decode cX3_findGlobal 16 = .ok (.ifCond .eq 16, 3) := by decide +kernel
theorem dX3_findGlobal_19 : decode cX3_findGlobal 19 = .ok (.aload_n 0, 1) := by decide +kernel
theorem dX3_findGlobal_20 : decode cX3_findGlobal 20 = .ok (.getfield 9, 3) := by decide +kernel
theorem dX3_findGlobal_23 : decode cX3_findGlobal 23 = .ok (.iload_n 3, 1) := by decide +kernel
theorem dX3_findGlobal_24 : decode cX3_findGlobal 24 = .ok (.laload, 1) := by decide +kernel
theorem dX3_findGlobal_25 : decode cX3_findGlobal 25 = .ok (.lload_n 1, 1) := by decide +kernel
theorem dX3_findGlobal_26 : decode cX3_findGlobal 26 = .ok (.lcmp, 1) := by decide +kernel
theorem dX3_findGlobal_27 : decode cX3_findGlobal 27 = .ok (.ifCond .ne 5, 3) := by decide +kernel
theorem dX3_findGlobal_30 : decode cX3_findGlobal 30 = .ok (.iload_n 3, 1) := by decide +kernel
theorem dX3_findGlobal_31 : decode cX3_findGlobal 31 = .ok (.ireturn, 1) := by decide +kernel
theorem dX3_findGlobal_32 : decode cX3_findGlobal 32 = .ok (.iinc 3 1, 3) := by decide +kernel
theorem dX3_findGlobal_35 : decode cX3_findGlobal 35 = .ok (.goto (-33), 3) := by decide +kernel
theorem dX3_findGlobal_38 : decode cX3_findGlobal 38 = .ok (.iconst (-1), 1) := by decide +kernel
theorem dX3_findGlobal_39 : decode cX3_findGlobal 39 = .ok (.ireturn, 1) := by decide +kernel
theorem dX3_makeGlobal_0 : decode cX3_makeGlobal 0 = .ok (.aload_n 0, 1) := by decide +kernel
theorem dX3_makeGlobal_1 : decode cX3_makeGlobal 1 = .ok (.iload_n 1, 1) := by decide +kernel
theorem dX3_makeGlobal_2 : decode cX3_makeGlobal 2 = .ok (.lload_n 2, 1) := by decide +kernel
theorem dX3_makeGlobal_3 : decode cX3_makeGlobal 3 = .ok (.invokevirtual 33, 3) := by decide +kernel
theorem dX3_makeGlobal_6 : decode cX3_makeGlobal 6 = .ok (.istore 4, 2) := by decide +kernel
theorem dX3_makeGlobal_8 : decode cX3_makeGlobal 8 = .ok (.iload 4, 2) := by decide +kernel
theorem dX3_makeGlobal_10 : decode cX3_makeGlobal 10 = .ok (.iconst (-1), 1) := by decide +kernel
theorem dX3_makeGlobal_11 : decode cX3_makeGlobal 11 = .ok (.if_icmp .ne 6, 3) := by decide +kernel
theorem dX3_makeGlobal_14 : decode cX3_makeGlobal 14 = .ok (.bipush (-8), 2) := by decide +kernel
theorem dX3_makeGlobal_16 : decode cX3_makeGlobal 16 = .ok (.ireturn, 1) := by decide +kernel
theorem dX3_makeGlobal_17 : decode cX3_makeGlobal 17 = .ok (.aload_n 0, 1) := by decide +kernel
theorem dX3_makeGlobal_18 : decode cX3_makeGlobal 18 = .ok (.lload_n 2, 1) := by decide +kernel
theorem dX3_makeGlobal_19 : decode cX3_makeGlobal 19 = .ok (.invokevirtual 37, 3) := by decide +kernel
theorem dX3_makeGlobal_22 : decode cX3_makeGlobal 22 = .ok (.iconst (-1), 1) := by decide +kernel
theorem dX3_makeGlobal_23 : decode cX3_makeGlobal 23 = .ok (.if_icmp .eq 6, 3) := by decide +kernel
theorem dX3_makeGlobal_26 : decode cX3_makeGlobal 26 = .ok (.bipush (-2), 2) := by decide +kernel
theorem dX3_makeGlobal_28 : decode cX3_makeGlobal 28 = .ok (.ireturn, 1) := by decide +kernel
theorem dX3_makeGlobal_29 : decode cX3_makeGlobal 29 = .ok (.aload_n 0, 1) := by decide +kernel
theorem dX3_makeGlobal_30 : decode cX3_makeGlobal 30 = .ok (.getfield 15, 3) := by decide +kernel
theorem dX3_makeGlobal_33 : decode cX3_makeGlobal 33 = .ok (.iload 4, 2) := by decide +kernel
theorem dX3_makeGlobal_35 : decode cX3_makeGlobal 35 = .ok (.iconst 1, 1) := by decide +kernel
theorem dX3_makeGlobal_36 : decode cX3_makeGlobal 36 = .ok (.bastore, 1) := by decide +kernel
theorem dX3_makeGlobal_37 : decode cX3_makeGlobal 37 = .ok (.iconst 0, 1) := by decide +kernel
theorem dX3_makeGlobal_38 : decode cX3_makeGlobal 38 = .ok (.ireturn, 1) := by decide +kernel
theorem dX4_init_0 : decode cX4_init 0 = .ok (.aload_n 0, 1) := by decide +kernel
theorem dX4_init_1 : decode cX4_init 1 = .ok (.invokespecial 3, 3) := by decide +kernel
theorem dX4_init_4 : decode cX4_init 4 = .ok (.aload_n 0, 1) := by decide +kernel
theorem dX4_init_5 : decode cX4_init 5 = .ok (.iconst 4, 1) := by decide +kernel
theorem dX4_init_6 : decode cX4_init 6 = .ok (.iconst 3, 1) := by decide +kernel
theorem dX4_init_7 : decode cX4_init 7 = .ok (.multianewarray 9 2, 4) := by decide +kernel
theorem dX4_init_11 : decode cX4_init 11 = .ok (.putfield 11, 3) := by decide +kernel
theorem dX4_init_14 : decode cX4_init 14 = .ok (.aload_n 0, 1) := by decide +kernel
theorem dX4_init_15 : decode cX4_init 15 = .ok (.iconst 4, 1) := by decide +kernel
theorem dX4_init_16 : decode cX4_init 16 = .ok (.iconst 3, 1) := by decide +kernel
theorem dX4_init_17 : decode cX4_init 17 = .ok (.multianewarray 9 2, 4) := by decide +kernel
theorem dX4_init_21 : decode cX4_init 21 = .ok (.putfield 16, 3) := by decide +kernel
theorem dX4_init_24 : decode cX4_init 24 = .ok (.aload_n 0, 1) := by decide +kernel
theorem dX4_init_25 : decode cX4_init 25 = .ok (.iconst 4, 1) := by decide +kernel
theorem dX4_init_26 : decode cX4_init 26 = .ok (.newarray .int, 2) := by decide +kernel
theorem dX4_init_28 : decode cX4_init 28 = .ok (.putfield 19, 3) := by decide +kernel
theorem dX4_init_31 : decode cX4_init 31 = .ok (.return_, 1) := by decide +kernel
theorem dX4_clear_0 : decode cX4_clear 0 = .ok (.iconst 0, 1) := by decide +kernel
theorem dX4_clear_1 : decode cX4_clear 1 = .ok (.istore_n 1, 1) := by decide +kernel
theorem dX4_clear_2 : decode cX4_clear 2 = .ok (.iload_n 1, 1) := by decide +kernel
theorem dX4_clear_3 : decode cX4_clear 3 = .ok (.iconst 4, 1) := by decide +kernel
theorem dX4_clear_4 : decode cX4_clear 4 = .ok (.if_icmp .ge 29, 3) := by decide +kernel
theorem dX4_clear_7 : decode cX4_clear 7 = .ok (.aload_n 0, 1) := by decide +kernel
theorem dX4_clear_8 : decode cX4_clear 8 = .ok (.getfield 11, 3) := by decide +kernel
theorem dX4_clear_11 : decode cX4_clear 11 = .ok (.iload_n 1, 1) := by decide +kernel
theorem dX4_clear_12 : decode cX4_clear 12 = .ok (.aaload, 1) := by decide +kernel
theorem dX4_clear_13 : decode cX4_clear 13 = .ok (.iconst 0, 1) := by decide +kernel
theorem dX4_clear_14 : decode cX4_clear 14 = .ok (.invokestatic 23, 3) := by decide +kernel
theorem dX4_clear_17 : decode cX4_clear 17 = .ok (.aload_n 0, 1) := by decide +kernel
theorem dX4_clear_18 : decode cX4_clear 18 = .ok (.getfield 16, 3) := by decide +kernel
theorem dX4_clear_21 : decode cX4_clear 21 = .ok (.iload_n 1, 1) := by decide +kernel
theorem dX4_clear_22 : decode cX4_clear 22 = .ok (.aaload, 1) := by decide +kernel
theorem dX4_clear_23 : decode cX4_clear 23 = .ok (.iconst 0, 1) := by decide +kernel
theorem dX4_clear_24 : decode cX4_clear 24 = .ok (.invokestatic 23, 3) := by decide +kernel
theorem dX4_clear_27 : decode cX4_clear 27 = .ok (.iinc 1 1, 3) := by decide +kernel
theorem dX4_clear_30 : decode cX4_clear 30 = .ok (.goto (-28), 3) := by decide +kernel
theorem dX4_clear_33 : decode cX4_clear 33 = .ok (.aload_n 0, 1) := by decide +kernel
theorem dX4_clear_34 : decode cX4_clear 34 = .ok (.getfield 19, 3) := by decide +kernel
theorem dX4_clear_37 : decode cX4_clear 37 = .ok (.iconst 0, 1) := by decide +kernel
theorem dX4_clear_38 : decode cX4_clear 38 = .ok (.invokestatic 23, 3) := by decide +kernel
theorem dX4_clear_41 : decode cX4_clear 41 = .ok (.aload_n 0, 1) := by decide +kernel
theorem dX4_clear_42 : decode cX4_clear 42 = .ok (.iconst 0, 1) := by decide +kernel
theorem dX4_clear_43 : decode cX4_clear 43 = .ok (.putfield 29, 3) := by decide +kernel
theorem dX4_clear_46 : decode cX4_clear 46 = .ok (.return_, 1) := by decide +kernel
theorem dX4_arrange_0 : decode cX4_arrange 0 = .ok (.aload_n 0, 1) := by decide +kernel
theorem dX4_arrange_1 : decode cX4_arrange 1 = .ok (.aload_n 0, 1) := by decide +kernel
theorem dX4_arrange_2 : decode cX4_arrange 2 = .ok (.iconst 0, 1) := by decide +kernel
theorem dX4_arrange_3 : decode cX4_arrange 3 = .ok (.bipush 8, 2) := by decide +kernel
theorem dX4_arrange_5 : decode cX4_arrange 5 = .ok (.invokevirtual 33, 3) := by decide +kernel
theorem dX4_arrange_8 : decode cX4_arrange 8 = .ok (.putfield 29, 3) := by decide +kernel
theorem dX4_arrange_11 : decode cX4_arrange 11 = .ok (.iconst 0, 1) := by decide +kernel
theorem dX4_arrange_12 : decode cX4_arrange 12 = .ok (.istore_n 1, 1) := by decide +kernel
theorem dX4_arrange_13 : decode cX4_arrange 13 = .ok (.iload_n 1, 1) := by decide +kernel
theorem dX4_arrange_14 : decode cX4_arrange 14 = .ok (.iconst 4, 1) := by decide +kernel
theorem dX4_arrange_15 : decode cX4_arrange 15 = .ok (.if_icmp .ge 59, 3) := by decide +kernel
theorem dX4_arrange_18 : decode cX4_arrange 18 = .ok (.aload_n 0, 1) := by decide +kernel
theorem dX4_arrange_19 : decode cX4_arrange 19 = .ok (.getfield 19, 3) := by decide +kernel
theorem dX4_arrange_22 : decode cX4_arrange 22 = .ok (.iload_n 1, 1) := by decide +kernel
theorem dX4_arrange_23 : decode cX4_arrange 23 = .ok (.aload_n 0, 1) := by decide +kernel
theorem dX4_arrange_24 : decode cX4_arrange 24 = .ok (.getfield 29, 3) := by decide +kernel
theorem dX4_arrange_27 : decode cX4_arrange 27 = .ok (.invokestatic 37, 3) := by decide +kernel
theorem dX4_arrange_30 : decode cX4_arrange 30 = .ok (.iastore, 1) := by decide +kernel
theorem dX4_arrange_31 : decode cX4_arrange 31 = .ok (.aload_n 0, 1) := by decide +kernel
theorem dX4_arrange_32 : decode cX4_arrange 32 = .ok (.aload_n 0, 1) := by decide +kernel
theorem dX4_arrange_33 : decode cX4_arrange 33 = .ok (.getfield 11, 3) := by decide +kernel
theorem dX4_arrange_36 : decode cX4_arrange 36 = .ok (.iload_n 1, 1) := by decide +kernel
theorem dX4_arrange_37 : decode cX4_arrange 37 = .ok (.aaload, 1) := by decide +kernel
theorem dX4_arrange_38 : decode cX4_arrange 38 = .ok (.iconst 1, 1) := by decide +kernel
theorem dX4_arrange_39 : decode cX4_arrange 39 = .ok (.iaload, 1) := by decide +kernel
theorem dX4_arrange_40 : decode cX4_arrange 40 = .ok (.ifCond .le 21, 3) := by decide +kernel
theorem dX4_arrange_43 : decode cX4_arrange 43 = .ok (.aload_n 0, 1) := by decide +kernel
theorem dX4_arrange_44 : decode cX4_arrange 44 = .ok (.getfield 19, 3) := by decide +kernel
theorem dX4_arrange_47 : decode cX4_arrange 47 = .ok (.iload_n 1, 1) := by decide +kernel
theorem dX4_arrange_48 : decode cX4_arrange 48 = .ok (.iaload, 1) := by decide +kernel
theorem dX4_arrange_49 : decode cX4_arrange 49 = .ok (.aload_n 0, 1) := by decide +kernel
theorem dX4_arrange_50 : decode cX4_arrange 50 = .ok (.getfield 11, 3) := by decide +kernel
theorem dX4_arrange_53 : decode cX4_arrange 53 = .ok (.iload_n 1, 1) := by decide +kernel
theorem dX4_arrange_54 : decode cX4_arrange 54 = .ok (.aaload, 1) := by decide +kernel
theorem dX4_arrange_55 : decode cX4_arrange 55 = .ok (.iconst 1, 1) := by decide +kernel
theorem dX4_arrange_56 : decode cX4_arrange 56 = .ok (.iaload, 1) := by decide +kernel
theorem dX4_arrange_57 : decode cX4_arrange 57 = .ok (.iadd, 1) := by decide +kernel
theorem dX4_arrange_58 : decode cX4_arrange 58 = .ok (.goto 7, 3) := by decide +kernel
theorem dX4_arrange_61 : decode cX4_arrange 61 = .ok (.aload_n 0, 1) := by decide +kernel
theorem dX4_arrange_62 : decode cX4_arrange 62 = .ok (.getfield 29, 3) := by decide +kernel
theorem dX4_arrange_65 : decode cX4_arrange 65 = .ok (.putfield 29, 3) := by decide +kernel
theorem dX4_arrange_68 : decode cX4_arrange 68 = .ok (.iinc 1 1, 3) := by decide +kernel
theorem dX4_arrange_71 : decode cX4_arrange 71 = .ok (.goto (-58), 3) := by decide +kernel
theorem dX4_arrange_74 : decode cX4_arrange 74 = .ok (.aload_n 0, 1) := by decide +kernel
theorem dX4_arrange_75 : decode cX4_arrange 75 = .ok (.iconst 2, 1) := by decide +kernel
theorem dX4_arrange_76 : decode cX4_arrange 76 = .ok (.aload_n 0, 1) := by decide +kernel
theorem dX4_arrange_77 : decode cX4_arrange 77 = .ok (.iconst 1, 1) := by decide +kernel
theorem dX4_arrange_78 : decode cX4_arrange 78 = .ok (.ldc 41, 2) := by decide +kernel
theorem dX4_arrange_80 : decode cX4_arrange 80 = .ok (.invokevirtual 33, 3) := by decide +kernel
theorem dX4_arrange_83 : decode cX4_arrange 83 = .ok (.invokevirtual 33, 3) := by decide +kernel
theorem dX4_arrange_86 : decode cX4_arrange 86 = .ok (.istore_n 1, 1) := by decide +kernel
theorem dX4_arrange_87 : decode cX4_arrange 87 = .ok (.aload_n 0, 1) := by decide +kernel
theorem dX4_arrange_88 : decode cX4_arrange 88 = .ok (.getfield 29, 3) := by decide +kernel
theorem dX4_arrange_91 : decode cX4_arrange 91 = .ok (.sipush 2048, 3) := by decide +kernel
theorem dX4_arrange_94 : decode cX4_arrange 94 = .ok (.if_icmp .gt 17, 3) := by decide +kernel
theorem dX4_arrange_97 : decode cX4_arrange 97 = .ok (.iload_n 1, 1) := by decide +kernel
theorem dX4_arrange_98 : decode cX4_arrange 98 = .ok (.ldc 41, 2) := by decide +kernel
theorem dX4_arrange_100 : decode cX4_arrange 100 = .ok (.isub, 1) := by decide +kernel
theorem dX4_arrange_101 : decode cX4_arrange 101 = .ok (.sipush 1024, 3) := by decide +kernel
theorem dX4_arrange_104 : decode cX4_arrange 104 = .ok (.if_icmp .gt 7, 3) := by decide +kernel
theorem dX4_arrange_107 : decode cX4_arrange 107 = .ok (.iconst 1, 1) := by decide +kernel
theorem dX4_arrange_108 : decode cX4_arrange 108 = .ok (.goto 4, 3) := by decide +kernel
theorem dX4_arrange_111 : decode cX4_arrange 111 = .ok (.iconst 0, 1) := by decide +kernel
theorem dX4_arrange_112 : decode cX4_arrange 112 = .ok (.ireturn, 1) := by decide +kernel
theorem dX4_line_0 : decode cX4_line 0 = .ok (.iload_n 2, 1) := by decide +kernel
theorem dX4_line_1 : decode cX4_line 1 = .ok (.istore_n 3, 1) := by decide +kernel
theorem dX4_line_2 : decode cX4_line 2 = .ok (.iconst 0, 1) := by decide +kernel
theorem dX4_line_3 : decode cX4_line 3 = .ok (.istore 4, 2) := by decide +kernel
theorem dX4_line_5 : decode cX4_line 5 = .ok (.iload 4, 2) := by decide +kernel
theorem dX4_line_7 : decode cX4_line 7 = .ok (.iconst 4, 1) := by decide +kernel
theorem dX4_line_8 : decode cX4_line 8 = .ok (.if_icmp .ge 58, 3) := by decide +kernel
theorem dX4_line_11 : decode cX4_line 11 = .ok (.aload_n 0, 1) := by decide +kernel
theorem dX4_line_12 : decode cX4_line 12 = .ok (.getfield 16, 3) := by decide +kernel
theorem dX4_line_15 : decode cX4_line 15 = .ok (.iload 4, 2) := by decide +kernel
theorem dX4_line_17 : decode cX4_line 17 = .ok (.aaload, 1) := by decide +kernel
theorem dX4_line_18 : decode cX4_line 18 = .ok (.iload_n 1, 1) := by decide +kernel
theorem dX4_line_19 : decode cX4_line 19 = .ok (.iload_n 3, 1) := by decide +kernel
theorem dX4_line_20 : decode cX4_line 20 = .ok (.invokestatic 37, 3) := by decide +kernel
theorem dX4_line_23 : decode cX4_line 23 = .ok (.iastore, 1) := by decide +kernel
theorem dX4_line_24 : decode cX4_line 24 = .ok (.aload_n 0, 1) := by decide +kernel
theorem dX4_line_25 : decode cX4_line 25 = .ok (.getfield 11, 3) := by decide +kernel
theorem dX4_line_28 : decode cX4_line 28 = .ok (.iload 4, 2) := by decide +kernel
theorem dX4_line_30 : decode cX4_line 30 = .ok (.aaload, 1) := by decide +kernel
theorem dX4_line_31 : decode cX4_line 31 = .ok (.iload_n 1, 1) := by decide +kernel
theorem dX4_line_32 : decode cX4_line 32 = .ok (.iaload, 1) := by decide +kernel
theorem dX4_line_33 : decode cX4_line 33 = .ok (.ifCond .le 25, 3) := by decide +kernel
theorem dX4_line_36 : decode cX4_line 36 = .ok (.aload_n 0, 1) := by decide +kernel
theorem dX4_line_37 : decode cX4_line 37 = .ok (.getfield 16, 3) := by decide +kernel
theorem dX4_line_40 : decode cX4_line 40 = .ok (.iload 4, 2) := by decide +kernel
theorem dX4_line_42 : decode cX4_line 42 = .ok (.aaload, 1) := by decide +kernel
theorem dX4_line_43 : decode cX4_line 43 = .ok (.iload_n 1, 1) := by decide +kernel
theorem dX4_line_44 : decode cX4_line 44 = .ok (.iaload, 1) := by decide +kernel
theorem dX4_line_45 : decode cX4_line 45 = .ok (.aload_n 0, 1) := by decide +kernel
theorem dX4_line_46 : decode cX4_line 46 = .ok (.getfield 11, 3) := by decide +kernel
theorem dX4_line_49 : decode cX4_line 49 = .ok (.iload 4, 2) := by decide +kernel
theorem dX4_line_51 : decode cX4_line 51 = .ok (.aaload, 1) := by decide +kernel
theorem dX4_line_52 : decode cX4_line 52 = .ok (.iload_n 1, 1) := by decide +kernel
theorem dX4_line_53 : decode cX4_line 53 = .ok (.iaload, 1) := by decide +kernel
theorem dX4_line_54 : decode cX4_line 54 = .ok (.iadd, 1) := by decide +kernel
theorem dX4_line_55 : decode cX4_line 55 = .ok (.goto 4, 3) := by decide +kernel
theorem dX4_line_58 : decode cX4_line 58 = .ok (.iload_n 3, 1) := by decide +kernel
theorem dX4_line_59 : decode cX4_line 59 = .ok (.istore_n 3, 1) := by decide +kernel
theorem dX4_line_60 : decode cX4_line 60 = .ok (.iinc 4 1, 3) := by decide +kernel
theorem dX4_line_63 : decode cX4_line 63 = .ok (.goto (-58), 3) := by decide +kernel
theorem dX4_line_66 : decode cX4_line 66 = .ok (.iload_n 3, 1) := by decide +kernel
theorem dX4_line_67 : decode cX4_line 67 = .ok (.ireturn, 1) := by decide +kernel
theorem dX4_nextFour_0 : decode cX4_nextFour 0 = .ok (.iload_n 0, 1) := by decide +kernel
theorem dX4_nextFour_1 : decode cX4_nextFour 1 = .ok (.iconst 3, 1) := by decide +kernel
theorem dX4_nextFour_2 : decode cX4_nextFour 2 = .ok (.iadd, 1) := by decide +kernel
theorem dX4_nextFour_3 : decode cX4_nextFour 3 = .ok (.bipush (-4), 2) := by decide +kernel
theorem dX4_nextFour_5 : decode cX4_nextFour 5 = .ok (.iand, 1) := by decide +kernel
theorem dX4_nextFour_6 : decode cX4_nextFour 6 = .ok (.ireturn, 1) := by decide +kernel
theorem dX6_init_0 : decode cX6_init 0 = .ok (.aload_n 0, 1) := by decide +kernel
theorem dX6_init_1 : decode cX6_init 1 = .ok (.invokespecial 3, 3) := by decide +kernel
theorem dX6_init_4 : decode cX6_init 4 = .ok (.aload_n 0, 1) := by decide +kernel
theorem dX6_init_5 : decode cX6_init 5 = .ok (.new 9, 3) := by decide +kernel
theorem dX6_init_8 : decode cX6_init 8 = .ok (.dup, 1) := by decide +kernel
theorem dX6_init_9 : decode cX6_init 9 = .ok (.invokespecial 11, 3) := by decide +kernel
theorem dX6_init_12 : decode cX6_init 12 = .ok (.putfield 12, 3) := by decide +kernel
theorem dX6_init_15 : decode cX6_init 15 = .ok (.return_, 1) := by decide +kernel
theorem dX6_parse_0 : decode cX6_parse 0 = .ok (.aload_n 2, 1) := by decide +kernel
theorem dX6_parse_1 : decode cX6_parse 1 = .ok (.invokevirtual 18, 3) := by decide +kernel
theorem dX6_parse_4 : decode cX6_parse 4 = .ok (.aload_n 0, 1) := by decide +kernel
theorem dX6_parse_5 : decode cX6_parse 5 = .ok (.getfield 12, 3) := by decide +kernel
theorem dX6_parse_8 : decode cX6_parse 8 = .ok (.aload_n 1, 1) := by decide +kernel
theorem dX6_parse_9 : decode cX6_parse 9 = .ok (.invokevirtual 23, 3) := by decide +kernel
theorem dX6_parse_12 : decode cX6_parse 12 = .ok (.aload_n 0, 1) := by decide +kernel
theorem dX6_parse_13 : decode cX6_parse 13 = .ok (.aload_n 2, 1) := by decide +kernel
theorem dX6_parse_14 : decode cX6_parse 14 = .ok (.invokevirtual 27, 3) := by decide +kernel
theorem dX6_parse_17 : decode cX6_parse 17 = .ok (.aload_n 0, 1) := by decide +kernel
theorem dX6_parse_18 : decode cX6_parse 18 = .ok (.getfield 12, 3) := by decide +kernel
theorem dX6_parse_21 : decode cX6_parse 21 = .ok (.invokevirtual 31, 3) := by decide +kernel
theorem dX6_parse_24 : decode cX6_parse 24 = .ok (.ifCond .ne 83, 3) := by decide +kernel
theorem dX6_parse_27 : decode cX6_parse 27 = .ok (.aload_n 2, 1) := by decide +kernel
theorem dX6_parse_28 : decode cX6_parse 28 = .ok (.aload_n 0, 1) := by decide +kernel
theorem dX6_parse_29 : decode cX6_parse 29 = .ok (.getfield 12, 3) := by decide +kernel
theorem dX6_parse_32 : decode cX6_parse 32 = .ok (.getfield 35, 3) := by decide +kernel
theorem dX6_parse_35 : decode cX6_parse 35 = .ok (.putfield 39, 3) := by decide +kernel
theorem dX6_parse_38 : decode cX6_parse 38 = .ok (.aload_n 0, 1) := by decide +kernel
theorem dX6_parse_39 : decode cX6_parse 39 = .ok (.getfield 12, 3) := by decide +kernel
theorem dX6_parse_42 : decode cX6_parse 42 = .ok (.invokevirtual 42, 3) := by decide +kernel
theorem dX6_parse_45 : decode cX6_parse 45 = .ok (.astore_n 3, 1) := by decide +kernel
theorem dX6_parse_46 : decode cX6_parse 46 = .ok (.aload_n 3, 1) := by decide +kernel
theorem dX6_parse_47 : decode cX6_parse 47 = .ok (.ifnonnull 22, 3) := by decide +kernel
theorem dX6_parse_50 : decode cX6_parse 50 = .ok (.aload_n 0, 1) := by decide +kernel
theorem dX6_parse_51 : decode cX6_parse 51 = .ok (.getfield 12, 3) := by decide +kernel
theorem dX6_parse_54 : decode cX6_parse 54 = .ok (.bipush (-3), 2) := by decide +kernel
theorem dX6_parse_56 : decode cX6_parse 56 = .ok (.aload_n 0, 1) := by decide +kernel
theorem dX6_parse_57 : decode cX6_parse 57 = .ok (.getfield 12, 3) := by decide +kernel
theorem dX6_parse_60 : decode cX6_parse 60 = .ok (.getfield 35, 3) := by decide +kernel
theorem dX6_parse_63 : decode cX6_parse 63 = .ok (.invokevirtual 46, 3) := by decide +kernel
theorem dX6_parse_66 : decode cX6_parse 66 = .ok (.goto 41, 3) := by decide +kernel
theorem dX6_parse_69 : decode cX6_parse 69 = .ok (.aload_n 3, 1) := by decide +kernel
theorem dX6_parse_70 : decode cX6_parse 70 = .ok (.getfield 50, 3) := by decide +kernel
theorem dX6_parse_73 : decode cX6_parse 73 = .ok (.bipush 6, 2) := by decide +kernel
theorem dX6_parse_75 : decode cX6_parse 75 = .ok (.if_icmp .ge 19, 3) := by decide +kernel
theorem dX6_parse_78 : decode cX6_parse 78 = .ok (.aload_n 0, 1) := by decide +kernel
theorem dX6_parse_79 : decode cX6_parse 79 = .ok (.getfield 12, 3) := by decide +kernel
theorem dX6_parse_82 : decode cX6_parse 82 = .ok (.invokevirtual 55, 3) := by decide +kernel
theorem dX6_parse_85 : decode cX6_parse 85 = .ok (.aload_n 0, 1) := by decide +kernel
theorem dX6_parse_86 : decode cX6_parse 86 = .ok (.aload_n 3, 1) := by decide +kernel
theorem dX6_parse_87 : decode cX6_parse 87 = .ok (.aload_n 2, 1) := by decide +kernel
theorem dX6_parse_88 : decode cX6_parse 88 = .ok (.invokevirtual 58, 3) := by decide +kernel
theorem dX6_parse_91 : decode cX6_parse 91 = .ok (.goto 16, 3) := by decide +kernel
theorem dX6_parse_94 : decode cX6_parse 94 = .ok (.aload_n 0, 1) := by decide +kernel
theorem dX6_parse_95 : decode cX6_parse 95 = .ok (.getfield 12, 3) := by decide +kernel
theorem dX6_parse_98 : decode cX6_parse 98 = .ok (.invokevirtual 55, 3) := by decide +kernel
theorem dX6_parse_101 : decode cX6_parse 101 = .ok (.aload_n 0, 1) := by decide +kernel
theorem dX6_parse_102 : decode cX6_parse 102 = .ok (.aload_n 3, 1) := by decide +kernel
theorem dX6_parse_103 : decode cX6_parse 103 = .ok (.aload_n 2, 1) := by decide +kernel
theorem dX6_parse_104 : decode cX6_parse 104 = .ok (.invokevirtual 62, 3) := by decide +kernel
theorem dX6_parse_107 : decode cX6_parse 107 = .ok (.aload_n 0, 1) := by decide +kernel
theorem dX6_parse_108 : decode cX6_parse 108 = .ok (.getfield 12, 3) := by decide +kernel
theorem dX6_parse_111 : decode cX6_parse 111 = .ok (.invokevirtual 31, 3) := by decide +kernel
theorem dX6_parse_114 : decode cX6_parse 114 = .ok (.ifCond .ne 19, 3) := by decide +kernel
theorem dX6_parse_117 : decode cX6_parse 117 = .ok (.aload_n 0, 1) := by decide +kernel
theorem dX6_parse_118 : decode cX6_parse 118 = .ok (.getfield 12, 3) := by decide +kernel
theorem dX6_parse_121 : decode cX6_parse 121 = .ok (.bipush (-3), 2) := by decide +kernel
theorem dX6_parse_123 : decode cX6_parse 123 = .ok (.aload_n 0, 1) := by decide +kernel
theorem dX6_parse_124 : decode cX6_parse 124 = .ok (.getfield 12, 3) := by decide +kernel
theorem dX6_parse_127 : decode cX6_parse 127 = .ok (.getfield 35, 3) := by decide +kernel
theorem dX6_parse_130 : decode cX6_parse 130 = .ok (.invokevirtual 46, 3) := by decide +kernel
theorem dX6_parse_133 : decode cX6_parse 133 = .ok (.aload_n 2, 1) := by decide +kernel
theorem dX6_parse_134 : decode cX6_parse 134 = .ok (.aload_n 0, 1) := by decide +kernel
theorem dX6_parse_135 : decode cX6_parse 135 = .ok (.getfield 12, 3) := by decide +kernel
theorem dX6_parse_138 : decode cX6_parse 138 = .ok (.getfield 65, 3) := by decide +kernel
theorem dX6_parse_141 : decode cX6_parse 141 = .ok (.putfield 68, 3) := by decide +kernel
theorem dX6_parse_144 : decode cX6_parse 144 = .ok (.aload_n 2, 1) := by decide +kernel
theorem dX6_parse_145 : decode cX6_parse 145 = .ok (.aload_n 0, 1) := by decide +kernel
theorem dX6_parse_146 : decode cX6_parse 146 = .ok (.getfield 12, 3) := by decide +kernel
theorem dX6_parse_149 : decode cX6_parse 149 = .ok (.getfield 69, 3) := by decide +kernel
theorem dX6_parse_152 : decode cX6_parse 152 = .ok (.putfield 72, 3) := by decide +kernel
theorem dX6_parse_155 : decode cX6_parse 155 = .ok (.return_, 1) := by decide +kernel
theorem dX6_label_0 : decode cX6_label 0 = .ok (.aload_n 0, 1) := by decide +kernel
theorem dX6_label_1 : decode cX6_label 1 = .ok (.getfield 12, 3) := by decide +kernel
theorem dX6_label_4 : decode cX6_label 4 = .ok (.invokevirtual 73, 3) := by decide +kernel
theorem dX6_label_7 : decode cX6_label 7 = .ok (.lstore_n 2, 1) := by decide +kernel
theorem dX6_label_8 : decode cX6_label 8 = .ok (.aload_n 0, 1) := by decide +kernel
theorem dX6_label_9 : decode cX6_label 9 = .ok (.getfield 12, 3) := by decide +kernel
theorem dX6_label_12 : decode cX6_label 12 = .ok (.getfield 35, 3) := by decide +kernel
theorem dX6_label_15 : decode cX6_label 15 = .ok (.istore 4, 2) := by decide +kernel
theorem dX6_label_17 : decode cX6_label 17 = .ok (.lload_n 2, 1) := by decide +kernel
theorem dX6_label_18 : decode cX6_label 18 = .ok (.lconst 0, 1) := by decide +kernel
theorem dX6_label_19 : decode cX6_label 19 = .ok (.lcmp, 1) := by decide +kernel
theorem dX6_label_20 : decode cX6_label 20 = .ok (.ifCond .ne 4, 3) := by decide +kernel
theorem dX6_label_23 : decode cX6_label 23 = .ok (.return_, 1) := by decide +kernel
theorem dX6_label_24 : decode cX6_label 24 = .ok (.aload_n 0, 1) := by decide +kernel
theorem dX6_label_25 : decode cX6_label 25 = .ok (.getfield 12, 3) := by decide +kernel
theorem dX6_label_28 : decode cX6_label 28 = .ok (.invokevirtual 55, 3) := by decide +kernel
theorem dX6_label_31 : decode cX6_label 31 = .ok (.aload_n 0, 1) := by decide +kernel
theorem dX6_label_32 : decode cX6_label 32 = .ok (.getfield 12, 3) := by decide +kernel
theorem dX6_label_35 : decode cX6_label 35 = .ok (.bipush 58, 2) := by decide +kernel
theorem dX6_label_37 : decode cX6_label 37 = .ok (.invokevirtual 77, 3) := by decide +kernel
theorem dX6_label_40 : decode cX6_label 40 = .ok (.ifCond .eq 17, 3) := by decide +kernel
theorem dX6_label_43 : decode cX6_label 43 = .ok (.aload_n 1, 1) := by decide +kernel
theorem dX6_label_44 : decode cX6_label 44 = .ok (.lload_n 2, 1) := by decide +kernel
theorem dX6_label_45 : decode cX6_label 45 = .ok (.putfield 81, 3) := by decide +kernel
theorem dX6_label_48 : decode cX6_label 48 = .ok (.aload_n 1, 1) := by decide +kernel
theorem dX6_label_49 : decode cX6_label 49 = .ok (.iload 4, 2) := by decide +kernel
theorem dX6_label_51 : decode cX6_label 51 = .ok (.putfield 84, 3) := by decide +kernel
theorem dX6_label_54 : decode cX6_label 54 = .ok (.goto 12, 3) := by decide +kernel
theorem dX6_label_57 : decode cX6_label 57 = .ok (.aload_n 0, 1) := by decide +kernel
theorem dX6_label_58 : decode cX6_label 58 = .ok (.getfield 12, 3) := by decide +kernel
theorem dX6_label_61 : decode cX6_label 61 = .ok (.iload 4, 2) := by decide +kernel
theorem dX6_label_63 : decode cX6_label 63 = .ok (.invokevirtual 87, 3) := by decide +kernel
theorem dX6_label_66 : decode cX6_label 66 = .ok (.return_, 1) := by decide +kernel
theorem dX6_directive_0 : decode cX6_directive 0 = .ok (.aload_n 1, 1) := by decide +kernel
theorem dX6_directive_1 : decode cX6_directive 1 = .ok (.getfield 50, 3) := by decide +kernel
theorem dX6_directive_4 : decode cX6_directive 4 = .ok (.tableswitch 135 0 4 #[36, 52, 65, 83, 112], 36) := by decide +kernel
theorem dX6_directive_40 : decode cX6_directive 40 = .ok (.aload_n 2, 1) := by decide +kernel
theorem dX6_directive_41 : decode cX6_directive 41 = .ok (.iconst 1, 1) := by decide +kernel
theorem dX6_directive_42 : decode cX6_directive 42 = .ok (.putfield 91, 3) := by decide +kernel
theorem dX6_directive_45 : decode cX6_directive 45 = .ok (.aload_n 2, 1) := by decide +kernel
theorem dX6_directive_46 : decode cX6_directive 46 = .ok (.aload_n 1, 1) := by decide +kernel
theorem dX6_directive_47 : decode cX6_directive 47 = .ok (.getfield 94, 3) := by decide +kernel
theorem dX6_directive_50 : decode cX6_directive 50 = .ok (.putfield 97, 3) := by decide +kernel
theorem dX6_directive_53 : decode cX6_directive 53 = .ok (.goto 92, 3) := by decide +kernel
theorem dX6_directive_56 : decode cX6_directive 56 = .ok (.aload_n 2, 1) := by decide +kernel
theorem dX6_directive_57 : decode cX6_directive 57 = .ok (.iconst 2, 1) := by decide +kernel
theorem dX6_directive_58 : decode cX6_directive 58 = .ok (.putfield 91, 3) := by decide +kernel
theorem dX6_directive_61 : decode cX6_directive 61 = .ok (.aload_n 0, 1) := by decide +kernel
theorem dX6_directive_62 : decode cX6_directive 62 = .ok (.aload_n 2, 1) := by decide +kernel
theorem dX6_directive_63 : decode cX6_directive 63 = .ok (.invokevirtual 100, 3) := by decide +kernel
theorem dX6_directive_66 : decode cX6_directive 66 = .ok (.goto 79, 3) := by decide +kernel
theorem dX6_directive_69 : decode cX6_directive 69 = .ok (.aload_n 2, 1) := by decide +kernel
theorem dX6_directive_70 : decode cX6_directive 70 = .ok (.iconst 3, 1) := by decide +kernel
theorem dX6_directive_71 : decode cX6_directive 71 = .ok (.putfield 91, 3) := by decide +kernel
theorem dX6_directive_74 : decode cX6_directive 74 = .ok (.aload_n 2, 1) := by decide +kernel
theorem dX6_directive_75 : decode cX6_directive 75 = .ok (.iconst 4, 1) := by decide +kernel
theorem dX6_directive_76 : decode cX6_directive 76 = .ok (.putfield 103, 3) := by decide +kernel
theorem dX6_directive_79 : decode cX6_directive 79 = .ok (.aload_n 0, 1) := by decide +kernel
theorem dX6_directive_80 : decode cX6_directive 80 = .ok (.aload_n 2, 1) := by decide +kernel
theorem dX6_directive_81 : decode cX6_directive 81 = .ok (.invokevirtual 106, 3) := by decide +kernel
theorem dX6_directive_84 : decode cX6_directive 84 = .ok (.goto 61, 3) := by decide +kernel
theorem dX6_directive_87 : decode cX6_directive 87 = .ok (.aload_n 2, 1) := by decide +kernel
theorem dX6_directive_88 : decode cX6_directive 88 = .ok (.iconst 4, 1) := by decide +kernel
theorem dX6_directive_89 : decode cX6_directive 89 = .ok (.putfield 91, 3) := by decide +kernel
theorem dX6_directive_92 : decode cX6_directive 92 = .ok (.aload_n 2, 1) := by decide +kernel
theorem dX6_directive_93 : decode cX6_directive 93 = .ok (.iconst 1, 1) := by decide +kernel
theorem dX6_directive_94 : decode cX6_directive 94 = .ok (.putfield 103, 3) := by decide +kernel
theorem dX6_directive_97 : decode cX6_directive 97 = .ok (.aload_n 2, 1) := by decide +kernel
theorem dX6_directive_98 : decode cX6_directive 98 = .ok (.aload_n 0, 1) := by decide +kernel
theorem dX6_directive_99 : decode cX6_directive 99 = .ok (.getfield 12, 3) := by decide +kernel
theorem dX6_directive_102 : decode cX6_directive 102 = .ok (.bipush (-128), 2) := by decide +kernel
theorem dX6_directive_104 : decode cX6_directive 104 = .ok (.sipush 255, 3) := by decide +kernel
theorem dX6_directive_107 : decode cX6_directive 107 = .ok (.invokevirtual 109, 3) := by decide +kernel
theorem dX6_directive_110 : decode cX6_directive 110 = .ok (.putfield 97, 3) := by decide +kernel
theorem dX6_directive_113 : decode cX6_directive 113 = .ok (.goto 32, 3) := by decide +kernel
theorem dX6_directive_116 : decode cX6_directive 116 = .ok (.aload_n 2, 1) := by decide +kernel
theorem dX6_directive_117 : decode cX6_directive 117 = .ok (.iconst 5, 1) := by decide +kernel
theorem dX6_directive_118 : decode cX6_directive 118 = .ok (.putfield 91, 3) := by decide +kernel
theorem dX6_directive_121 : decode cX6_directive 121 = .ok (.aload_n 2, 1) := by decide +kernel
theorem dX6_directive_122 : decode cX6_directive 122 = .ok (.aload_n 0, 1) := by decide +kernel
theorem dX6_directive_123 : decode cX6_directive 123 = .ok (.getfield 12, 3) := by decide +kernel
theorem dX6_directive_126 : decode cX6_directive 126 = .ok (.iconst 0, 1) := by decide +kernel
theorem dX6_directive_127 : decode cX6_directive 127 = .ok (.sipush 512, 3) := by decide +kernel
theorem dX6_directive_130 : decode cX6_directive 130 = .ok (.invokevirtual 109, 3) := by decide +kernel
theorem dX6_directive_133 : decode cX6_directive 133 = .ok (.putfield 103, 3) := by decide +kernel
theorem dX6_directive_136 : decode cX6_directive 136 = .ok (.goto 9, 3) := by decide +kernel
theorem dX6_directive_139 : decode cX6_directive 139 = .ok (.aload_n 2, 1) := by decide +kernel
theorem dX6_directive_140 : decode cX6_directive 140 = .ok (.bipush 6, 2) := by decide +kernel
theorem dX6_directive_142 : decode cX6_directive 142 = .ok (.putfield 91, 3) := by decide +kernel
theorem dX6_directive_145 : decode cX6_directive 145 = .ok (.return_, 1) := by decide +kernel
theorem dX6_reference_0 : decode cX6_reference 0 = .ok (.aload_n 1, 1) := by decide +kernel
theorem dX6_reference_1 : decode cX6_reference 1 = .ok (.aload_n 0, 1) := by decide +kernel
theorem dX6_reference_2 : decode cX6_reference 2 = .ok (.getfield 12, 3) := by decide +kernel
theorem dX6_reference_5 : decode cX6_reference 5 = .ok (.getfield 35, 3) := by decide +kernel
theorem dX6_reference_8 : decode cX6_reference 8 = .ok (.putfield 112, 3) := by decide +kernel
theorem dX6_reference_11 : decode cX6_reference 11 = .ok (.aload_n 1, 1) := by decide +kernel
theorem dX6_reference_12 : decode cX6_reference 12 = .ok (.aload_n 0, 1) := by decide +kernel
theorem dX6_reference_13 : decode cX6_reference 13 = .ok (.getfield 12, 3) := by decide +kernel
theorem dX6_reference_16 : decode cX6_reference 16 = .ok (.invokevirtual 115, 3) := by decide +kernel
theorem dX6_reference_19 : decode cX6_reference 19 = .ok (.putfield 118, 3) := by decide +kernel
theorem dX6_reference_22 : decode cX6_reference 22 = .ok (.return_, 1) := by decide +kernel
theorem dX6_value_0 : decode cX6_value 0 = .ok (.aload_n 0, 1) := by decide +kernel
theorem dX6_value_1 : decode cX6_value 1 = .ok (.getfield 12, 3) := by decide +kernel
theorem dX6_value_4 : decode cX6_value 4 = .ok (.invokevirtual 120, 3) := by decide +kernel
theorem dX6_value_7 : decode cX6_value 7 = .ok (.ifCond .ne 21, 3) := by decide +kernel
theorem dX6_value_10 : decode cX6_value 10 = .ok (.aload_n 1, 1) := by decide +kernel
theorem dX6_value_11 : decode cX6_value 11 = .ok (.aload_n 0, 1) := by decide +kernel
theorem dX6_value_12 : decode cX6_value 12 = .ok (.getfield 12, 3) := by decide +kernel
theorem dX6_value_15 : decode cX6_value 15 = .ok (.sipush (-9999), 3) := by decide +kernel
theorem dX6_value_18 : decode cX6_value 18 = .ok (.sipush 9999, 3) := by decide +kernel
theorem dX6_value_21 : decode cX6_value 21 = .ok (.invokevirtual 109, 3) := by decide +kernel
theorem dX6_value_24 : decode cX6_value 24 = .ok (.putfield 97, 3) := by decide +kernel
theorem dX6_value_27 : decode cX6_value 27 = .ok (.return_, 1) := by decide +kernel
theorem dX6_value_28 : decode cX6_value 28 = .ok (.aload_n 0, 1) := by decide +kernel
theorem dX6_value_29 : decode cX6_value 29 = .ok (.aload_n 1, 1) := by decide +kernel
theorem dX6_value_30 : decode cX6_value 30 = .ok (.invokevirtual 100, 3) := by decide +kernel
theorem dX6_value_33 : decode cX6_value 33 = .ok (.aload_n 0, 1) := by decide +kernel
theorem dX6_value_34 : decode cX6_value 34 = .ok (.getfield 12, 3) := by decide +kernel
theorem dX6_value_37 : decode cX6_value 37 = .ok (.bipush 43, 2) := by decide +kernel
theorem dX6_value_39 : decode cX6_value 39 = .ok (.invokevirtual 77, 3) := by decide +kernel
theorem dX6_value_42 : decode cX6_value 42 = .ok (.ifCond .eq 17, 3) := by decide +kernel
theorem dX6_value_45 : decode cX6_value 45 = .ok (.aload_n 1, 1) := by decide +kernel
theorem dX6_value_46 : decode cX6_value 46 = .ok (.aload_n 0, 1) := by decide +kernel
theorem dX6_value_47 : decode cX6_value 47 = .ok (.getfield 12, 3) := by decide +kernel
theorem dX6_value_50 : decode cX6_value 50 = .ok (.invokevirtual 123, 3) := by decide +kernel
theorem dX6_value_53 : decode cX6_value 53 = .ok (.putfield 97, 3) := by decide +kernel
theorem dX6_value_56 : decode cX6_value 56 = .ok (.goto 27, 3) := by decide +kernel
theorem dX6_value_59 : decode cX6_value 59 = .ok (.aload_n 0, 1) := by decide +kernel
theorem dX6_value_60 : decode cX6_value 60 = .ok (.getfield 12, 3) := by decide +kernel
theorem dX6_value_63 : decode cX6_value 63 = .ok (.bipush 45, 2) := by decide +kernel
theorem dX6_value_65 : decode cX6_value 65 = .ok (.invokevirtual 77, 3) := by decide +kernel
theorem dX6_value_68 : decode cX6_value 68 = .ok (.ifCond .eq 15, 3) := by decide +kernel
theorem dX6_value_71 : decode cX6_value 71 = .ok (.aload_n 1, 1) := by decide +kernel
theorem dX6_value_72 : decode cX6_value 72 = .ok (.aload_n 0, 1) := by decide +kernel
theorem dX6_value_73 : decode cX6_value 73 = .ok (.getfield 12, 3) := by decide +kernel
theorem dX6_value_76 : decode cX6_value 76 = .ok (.invokevirtual 123, 3) := by decide +kernel
theorem dX6_value_79 : decode cX6_value 79 = .ok (.ineg, 1) := by decide +kernel
theorem dX6_value_80 : decode cX6_value 80 = .ok (.putfield 97, 3) := by decide +kernel
theorem dX6_value_83 : decode cX6_value 83 = .ok (.return_, 1) := by decide +kernel
theorem dX6_instruction_0 : decode cX6_instruction 0 = .ok (.aload_n 2, 1) := by decide +kernel
theorem dX6_instruction_1 : decode cX6_instruction 1 = .ok (.bipush 7, 2) := by decide +kernel
theorem dX6_instruction_3 : decode cX6_instruction 3 = .ok (.putfield 91, 3) := by decide +kernel
theorem dX6_instruction_6 : decode cX6_instruction 6 = .ok (.aload_n 2, 1) := by decide +kernel
theorem dX6_instruction_7 : decode cX6_instruction 7 = .ok (.iconst 2, 1) := by decide +kernel
theorem dX6_instruction_8 : decode cX6_instruction 8 = .ok (.putfield 103, 3) := by decide +kernel
theorem dX6_instruction_11 : decode cX6_instruction 11 = .ok (.aload_n 1, 1) := by decide +kernel
theorem dX6_instruction_12 : decode cX6_instruction 12 = .ok (.getfield 50, 3) := by decide +kernel
theorem dX6_instruction_15 : decode cX6_instruction 15 = .ok (.tableswitch 294 7 16 #[53, 65, 77, 89, 101, 173, 198, 216, 234, 275], 53) := by decide +kernel
theorem dX6_instruction_68 : decode cX6_instruction 68 = .ok (.aload_n 2, 1) := by decide +kernel
theorem dX6_instruction_69 : decode cX6_instruction 69 = .ok (.aload_n 0, 1) := by decide +kernel
theorem dX6_instruction_70 : decode cX6_instruction 70 = .ok (.aload_n 1, 1) := by decide +kernel
theorem dX6_instruction_71 : decode cX6_instruction 71 = .ok (.invokevirtual 127, 3) := by decide +kernel
theorem dX6_instruction_74 : decode cX6_instruction 74 = .ok (.putfield 97, 3) := by decide +kernel
theorem dX6_instruction_77 : decode cX6_instruction 77 = .ok (.goto 240, 3) := by decide +kernel
theorem dX6_instruction_80 : decode cX6_instruction 80 = .ok (.aload_n 2, 1) := by decide +kernel
theorem dX6_instruction_81 : decode cX6_instruction 81 = .ok (.aload_n 0, 1) := by decide +kernel
theorem dX6_instruction_82 : decode cX6_instruction 82 = .ok (.aload_n 1, 1) := by decide +kernel
theorem dX6_instruction_83 : decode cX6_instruction 83 = .ok (.invokevirtual 131, 3) := by decide +kernel
theorem dX6_instruction_86 : decode cX6_instruction 86 = .ok (.putfield 97, 3) := by decide +kernel
theorem dX6_instruction_89 : decode cX6_instruction 89 = .ok (.goto 228, 3) := by decide +kernel
theorem dX6_instruction_92 : decode cX6_instruction 92 = .ok (.aload_n 2, 1) := by decide +kernel
theorem dX6_instruction_93 : decode cX6_instruction 93 = .ok (.aload_n 0, 1) := by decide +kernel
theorem dX6_instruction_94 : decode cX6_instruction 94 = .ok (.aload_n 1, 1) := by decide +kernel
theorem dX6_instruction_95 : decode cX6_instruction 95 = .ok (.invokevirtual 134, 3) := by decide +kernel
theorem dX6_instruction_98 : decode cX6_instruction 98 = .ok (.putfield 97, 3) := by decide +kernel
theorem dX6_instruction_101 : decode cX6_instruction 101 = .ok (.goto 216, 3) := by decide +kernel
theorem dX6_instruction_104 : decode cX6_instruction 104 = .ok (.aload_n 2, 1) := by decide +kernel
theorem dX6_instruction_105 : decode cX6_instruction 105 = .ok (.aload_n 0, 1) := by decide +kernel
theorem dX6_instruction_106 : decode cX6_instruction 106 = .ok (.aload_n 1, 1) := by decide +kernel
theorem dX6_instruction_107 : decode cX6_instruction 107 = .ok (.invokevirtual 137, 3) := by decide +kernel
theorem dX6_instruction_110 : decode cX6_instruction 110 = .ok (.putfield 97, 3) := by decide +kernel
theorem dX6_instruction_113 : decode cX6_instruction 113 = .ok (.goto 204, 3) := by decide +kernel
theorem dX6_instruction_116 : decode cX6_instruction 116 = .ok (.aload_n 2, 1) := by decide +kernel
theorem dX6_instruction_117 : decode cX6_instruction 117 = .ok (.aload_n 0, 1) := by decide +kernel
theorem dX6_instruction_118 : decode cX6_instruction 118 = .ok (.invokevirtual 140, 3) := by decide +kernel
theorem dX6_instruction_121 : decode cX6_instruction 121 = .ok (.putfield 97, 3) := by decide +kernel
theorem dX6_instruction_124 : decode cX6_instruction 124 = .ok (.aload_n 0, 1) := by decide +kernel
theorem dX6_instruction_125 : decode cX6_instruction 125 = .ok (.getfield 12, 3) := by decide +kernel
theorem dX6_instruction_128 : decode cX6_instruction 128 = .ok (.bipush 91, 2) := by decide +kernel
theorem dX6_instruction_130 : decode cX6_instruction 130 = .ok (.invokevirtual 143, 3) := by decide +kernel
theorem dX6_instruction_133 : decode cX6_instruction 133 = .ok (.ifCond .eq 25, 3) := by decide +kernel
theorem dX6_instruction_136 : decode cX6_instruction 136 = .ok (.aload_n 2, 1) := by decide +kernel
theorem dX6_instruction_137 : decode cX6_instruction 137 = .ok (.dup, 1) := by decide +kernel
theorem dX6_instruction_138 : decode cX6_instruction 138 = .ok (.getfield 97, 3) := by decide +kernel
theorem dX6_instruction_141 : decode cX6_instruction 141 = .ok (.aload_n 1, 1) := by decide +kernel
theorem dX6_instruction_142 : decode cX6_instruction 142 = .ok (.getfield 94, 3) := by decide +kernel
theorem dX6_instruction_145 : decode cX6_instruction 145 = .ok (.aload_n 0, 1) := by decide +kernel
theorem dX6_instruction_146 : decode cX6_instruction 146 = .ok (.iconst 2, 1) := by decide +kernel
theorem dX6_instruction_147 : decode cX6_instruction 147 = .ok (.invokevirtual 146, 3) := by decide +kernel
theorem dX6_instruction_150 : decode cX6_instruction 150 = .ok (.iadd, 1) := by decide +kernel
theorem dX6_instruction_151 : decode cX6_instruction 151 = .ok (.iadd, 1) := by decide +kernel
theorem dX6_instruction_152 : decode cX6_instruction 152 = .ok (.putfield 97, 3) := by decide +kernel
theorem dX6_instruction_155 : decode cX6_instruction 155 = .ok (.goto 162, 3) := by decide +kernel
theorem dX6_instruction_158 : decode cX6_instruction 158 = .ok (.aload_n 2, 1) := by decide +kernel
theorem dX6_instruction_159 : decode cX6_instruction 159 = .ok (.aload_n 1, 1) := by decide +kernel
theorem dX6_instruction_160 : decode cX6_instruction 160 = .ok (.getfield 150, 3) := by decide +kernel
theorem dX6_instruction_163 : decode cX6_instruction 163 = .ok (.sipush 256, 3) := by decide +kernel
theorem dX6_instruction_166 : decode cX6_instruction 166 = .ok (.aload_n 2, 1) := by decide +kernel
theorem dX6_instruction_167 : decode cX6_instruction 167 = .ok (.getfield 97, 3) := by decide +kernel
theorem dX6_instruction_170 : decode cX6_instruction 170 = .ok (.imul, 1) := by decide +kernel
theorem dX6_instruction_171 : decode cX6_instruction 171 = .ok (.iadd, 1) := by decide +kernel
theorem dX6_instruction_172 : decode cX6_instruction 172 = .ok (.putfield 97, 3) := by decide +kernel
theorem dX6_instruction_175 : decode cX6_instruction 175 = .ok (.aload_n 2, 1) := by decide +kernel
theorem dX6_instruction_176 : decode cX6_instruction 176 = .ok (.iconst 4, 1) := by decide +kernel
theorem dX6_instruction_177 : decode cX6_instruction 177 = .ok (.putfield 153, 3) := by decide +kernel
theorem dX6_instruction_180 : decode cX6_instruction 180 = .ok (.aload_n 0, 1) := by decide +kernel
theorem dX6_instruction_181 : decode cX6_instruction 181 = .ok (.aload_n 2, 1) := by decide +kernel
theorem dX6_instruction_182 : decode cX6_instruction 182 = .ok (.invokevirtual 100, 3) := by decide +kernel
theorem dX6_instruction_185 : decode cX6_instruction 185 = .ok (.goto 132, 3) := by decide +kernel
theorem dX6_instruction_188 : decode cX6_instruction 188 = .ok (.aload_n 2, 1) := by decide +kernel
theorem dX6_instruction_189 : decode cX6_instruction 189 = .ok (.aload_n 1, 1) := by decide +kernel
theorem dX6_instruction_190 : decode cX6_instruction 190 = .ok (.getfield 94, 3) := by decide +kernel
theorem dX6_instruction_193 : decode cX6_instruction 193 = .ok (.aload_n 0, 1) := by decide +kernel
theorem dX6_instruction_194 : decode cX6_instruction 194 = .ok (.invokevirtual 140, 3) := by decide +kernel
theorem dX6_instruction_197 : decode cX6_instruction 197 = .ok (.iadd, 1) := by decide +kernel
theorem dX6_instruction_198 : decode cX6_instruction 198 = .ok (.aload_n 0, 1) := by decide +kernel
theorem dX6_instruction_199 : decode cX6_instruction 199 = .ok (.aload_n 1, 1) := by decide +kernel
theorem dX6_instruction_200 : decode cX6_instruction 200 = .ok (.getfield 150, 3) := by decide +kernel
theorem dX6_instruction_203 : decode cX6_instruction 203 = .ok (.invokevirtual 146, 3) := by decide +kernel
theorem dX6_instruction_206 : decode cX6_instruction 206 = .ok (.iadd, 1) := by decide +kernel
theorem dX6_instruction_207 : decode cX6_instruction 207 = .ok (.putfield 97, 3) := by decide +kernel
theorem dX6_instruction_210 : decode cX6_instruction 210 = .ok (.goto 107, 3) := by decide +kernel
theorem dX6_instruction_213 : decode cX6_instruction 213 = .ok (.aload_n 2, 1) := by decide +kernel
theorem dX6_instruction_214 : decode cX6_instruction 214 = .ok (.aload_n 1, 1) := by decide +kernel
theorem dX6_instruction_215 : decode cX6_instruction 215 = .ok (.getfield 94, 3) := by decide +kernel
theorem dX6_instruction_218 : decode cX6_instruction 218 = .ok (.aload_n 0, 1) := by decide +kernel
theorem dX6_instruction_219 : decode cX6_instruction 219 = .ok (.ldc 156, 2) := by decide +kernel
theorem dX6_instruction_221 : decode cX6_instruction 221 = .ok (.invokevirtual 158, 3) := by decide +kernel
theorem dX6_instruction_224 : decode cX6_instruction 224 = .ok (.iadd, 1) := by decide +kernel
theorem dX6_instruction_225 : decode cX6_instruction 225 = .ok (.putfield 97, 3) := by decide +kernel
theorem dX6_instruction_228 : decode cX6_instruction 228 = .ok (.goto 89, 3) := by decide +kernel
theorem dX6_instruction_231 : decode cX6_instruction 231 = .ok (.aload_n 2, 1) := by decide +kernel
theorem dX6_instruction_232 : decode cX6_instruction 232 = .ok (.aload_n 1, 1) := by decide +kernel
theorem dX6_instruction_233 : decode cX6_instruction 233 = .ok (.getfield 94, 3) := by decide +kernel
theorem dX6_instruction_236 : decode cX6_instruction 236 = .ok (.aload_n 0, 1) := by decide +kernel
theorem dX6_instruction_237 : decode cX6_instruction 237 = .ok (.ldc 162, 2) := by decide +kernel
theorem dX6_instruction_239 : decode cX6_instruction 239 = .ok (.invokevirtual 158, 3) := by decide +kernel
theorem dX6_instruction_242 : decode cX6_instruction 242 = .ok (.iadd, 1) := by decide +kernel
theorem dX6_instruction_243 : decode cX6_instruction 243 = .ok (.putfield 97, 3) := by decide +kernel
theorem dX6_instruction_246 : decode cX6_instruction 246 = .ok (.goto 71, 3) := by decide +kernel
theorem dX6_instruction_249 : decode cX6_instruction 249 = .ok (.aload_n 2, 1) := by decide +kernel
theorem dX6_instruction_250 : decode cX6_instruction 250 = .ok (.aload_n 1, 1) := by decide +kernel
theorem dX6_instruction_251 : decode cX6_instruction 251 = .ok (.getfield 94, 3) := by decide +kernel
theorem dX6_instruction_254 : decode cX6_instruction 254 = .ok (.putfield 97, 3) := by decide +kernel
theorem dX6_instruction_257 : decode cX6_instruction 257 = .ok (.aload_n 2, 1) := by decide +kernel
theorem dX6_instruction_258 : decode cX6_instruction 258 = .ok (.aload_n 1, 1) := by decide +kernel
theorem dX6_instruction_259 : decode cX6_instruction 259 = .ok (.getfield 150, 3) := by decide +kernel
theorem dX6_instruction_262 : decode cX6_instruction 262 = .ok (.putfield 153, 3) := by decide +kernel
theorem dX6_instruction_265 : decode cX6_instruction 265 = .ok (.aload_n 2, 1) := by decide +kernel
theorem dX6_instruction_266 : decode cX6_instruction 266 = .ok (.aload_n 1, 1) := by decide +kernel
theorem dX6_instruction_267 : decode cX6_instruction 267 = .ok (.getfield 150, 3) := by decide +kernel
theorem dX6_instruction_270 : decode cX6_instruction 270 = .ok (.iconst 3, 1) := by decide +kernel
theorem dX6_instruction_271 : decode cX6_instruction 271 = .ok (.if_icmp .ne 7, 3) := by decide +kernel
theorem dX6_instruction_274 : decode cX6_instruction 274 = .ok (.iconst 4, 1) := by decide +kernel
theorem dX6_instruction_275 : decode cX6_instruction 275 = .ok (.goto 4, 3) := by decide +kernel
theorem dX6_instruction_278 : decode cX6_instruction 278 = .ok (.iconst 2, 1) := by decide +kernel
theorem dX6_instruction_279 : decode cX6_instruction 279 = .ok (.putfield 103, 3) := by decide +kernel
theorem dX6_instruction_282 : decode cX6_instruction 282 = .ok (.aload_n 0, 1) := by decide +kernel
theorem dX6_instruction_283 : decode cX6_instruction 283 = .ok (.aload_n 2, 1) := by decide +kernel
theorem dX6_instruction_284 : decode cX6_instruction 284 = .ok (.invokevirtual 100, 3) := by decide +kernel
theorem dX6_instruction_287 : decode cX6_instruction 287 = .ok (.goto 30, 3) := by decide +kernel
theorem dX6_instruction_290 : decode cX6_instruction 290 = .ok (.aload_n 2, 1) := by decide +kernel
theorem dX6_instruction_291 : decode cX6_instruction 291 = .ok (.aload_n 1, 1) := by decide +kernel
theorem dX6_instruction_292 : decode cX6_instruction 292 = .ok (.getfield 94, 3) := by decide +kernel
theorem dX6_instruction_295 : decode cX6_instruction 295 = .ok (.bipush 8, 2) := by decide +kernel
theorem dX6_instruction_297 : decode cX6_instruction 297 = .ok (.aload_n 0, 1) := by decide +kernel
theorem dX6_instruction_298 : decode cX6_instruction 298 = .ok (.invokevirtual 164, 3) := by decide +kernel
theorem dX6_instruction_301 : decode cX6_instruction 301 = .ok (.imul, 1) := by decide +kernel
theorem dX6_instruction_302 : decode cX6_instruction 302 = .ok (.iadd, 1) := by decide +kernel
theorem dX6_instruction_303 : decode cX6_instruction 303 = .ok (.putfield 97, 3) := by decide +kernel
theorem dX6_instruction_306 : decode cX6_instruction 306 = .ok (.goto 11, 3) := by decide +kernel
theorem dX6_instruction_309 : decode cX6_instruction 309 = .ok (.aload_n 2, 1) := by decide +kernel
theorem dX6_instruction_310 : decode cX6_instruction 310 = .ok (.aload_n 1, 1) := by decide +kernel
theorem dX6_instruction_311 : decode cX6_instruction 311 = .ok (.getfield 94, 3) := by decide +kernel
theorem dX6_instruction_314 : decode cX6_instruction 314 = .ok (.putfield 97, 3) := by decide +kernel
theorem dX6_instruction_317 : decode cX6_instruction 317 = .ok (.return_, 1) := by decide +kernel
theorem dX6_firstRegister_0 : decode cX6_firstRegister 0 = .ok (.aload_n 0, 1) := by decide +kernel
theorem dX6_firstRegister_1 : decode cX6_firstRegister 1 = .ok (.getfield 12, 3) := by decide +kernel
theorem dX6_firstRegister_4 : decode cX6_firstRegister 4 = .ok (.invokevirtual 167, 3) := by decide +kernel
theorem dX6_firstRegister_7 : decode cX6_firstRegister 7 = .ok (.istore_n 1, 1) := by decide +kernel
theorem dX6_firstRegister_8 : decode cX6_firstRegister 8 = .ok (.aload_n 0, 1) := by decide +kernel
theorem dX6_firstRegister_9 : decode cX6_firstRegister 9 = .ok (.getfield 12, 3) := by decide +kernel
theorem dX6_firstRegister_12 : decode cX6_firstRegister 12 = .ok (.bipush 44, 2) := by decide +kernel
theorem dX6_firstRegister_14 : decode cX6_firstRegister 14 = .ok (.invokevirtual 170, 3) := by decide +kernel
theorem dX6_firstRegister_17 : decode cX6_firstRegister 17 = .ok (.iload_n 1, 1) := by decide +kernel
theorem dX6_firstRegister_18 : decode cX6_firstRegister 18 = .ok (.ireturn, 1) := by decide +kernel
theorem dX6_move_0 : decode cX6_move 0 = .ok (.aload_n 0, 1) := by decide +kernel
theorem dX6_move_1 : decode cX6_move 1 = .ok (.invokevirtual 140, 3) := by decide +kernel
theorem dX6_move_4 : decode cX6_move 4 = .ok (.istore_n 2, 1) := by decide +kernel
theorem dX6_move_5 : decode cX6_move 5 = .ok (.aload_n 0, 1) := by decide +kernel
theorem dX6_move_6 : decode cX6_move 6 = .ok (.getfield 12, 3) := by decide +kernel
theorem dX6_move_9 : decode cX6_move 9 = .ok (.bipush 35, 2) := by decide +kernel
theorem dX6_move_11 : decode cX6_move 11 = .ok (.invokevirtual 77, 3) := by decide +kernel
theorem dX6_move_14 : decode cX6_move 14 = .ok (.ifCond .eq 26, 3) := by decide +kernel
theorem dX6_move_17 : decode cX6_move 17 = .ok (.aload_n 1, 1) := by decide +kernel
theorem dX6_move_18 : decode cX6_move 18 = .ok (.getfield 150, 3) := by decide +kernel
theorem dX6_move_21 : decode cX6_move 21 = .ok (.sipush 256, 3) := by decide +kernel
theorem dX6_move_24 : decode cX6_move 24 = .ok (.iload_n 2, 1) := by decide +kernel
theorem dX6_move_25 : decode cX6_move 25 = .ok (.imul, 1) := by decide +kernel
theorem dX6_move_26 : decode cX6_move 26 = .ok (.iadd, 1) := by decide +kernel
theorem dX6_move_27 : decode cX6_move 27 = .ok (.aload_n 0, 1) := by decide +kernel
theorem dX6_move_28 : decode cX6_move 28 = .ok (.getfield 12, 3) := by decide +kernel
theorem dX6_move_31 : decode cX6_move 31 = .ok (.iconst 0, 1) := by decide +kernel
theorem dX6_move_32 : decode cX6_move 32 = .ok (.sipush 255, 3) := by decide +kernel
theorem dX6_move_35 : decode cX6_move 35 = .ok (.invokevirtual 109, 3) := by decide +kernel
theorem dX6_move_38 : decode cX6_move 38 = .ok (.iadd, 1) := by decide +kernel
theorem dX6_move_39 : decode cX6_move 39 = .ok (.ireturn, 1) := by decide +kernel
theorem dX6_move_40 : decode cX6_move 40 = .ok (.aload_n 1, 1) := by decide +kernel
theorem dX6_move_41 : decode cX6_move 41 = .ok (.getfield 94, 3) := by decide +kernel
theorem dX6_move_44 : decode cX6_move 44 = .ok (.bipush 8, 2) := by decide +kernel
theorem dX6_move_46 : decode cX6_move 46 = .ok (.aload_n 0, 1) := by decide +kernel
theorem dX6_move_47 : decode cX6_move 47 = .ok (.getfield 12, 3) := by decide +kernel
theorem dX6_move_50 : decode cX6_move 50 = .ok (.invokevirtual 167, 3) := by decide +kernel
theorem dX6_move_53 : decode cX6_move 53 = .ok (.imul, 1) := by decide +kernel
theorem dX6_move_54 : decode cX6_move 54 = .ok (.iadd, 1) := by decide +kernel
theorem dX6_move_55 : decode cX6_move 55 = .ok (.iload_n 2, 1) := by decide +kernel
theorem dX6_move_56 : decode cX6_move 56 = .ok (.iadd, 1) := by decide +kernel
theorem dX6_move_57 : decode cX6_move 57 = .ok (.ireturn, 1) := by decide +kernel
theorem dX6_sum_0 : decode cX6_sum 0 = .ok (.aload_n 0, 1) := by decide +kernel
theorem dX6_sum_1 : decode cX6_sum 1 = .ok (.invokevirtual 140, 3) := by decide +kernel
theorem dX6_sum_4 : decode cX6_sum 4 = .ok (.istore_n 2, 1) := by decide +kernel
theorem dX6_sum_5 : decode cX6_sum 5 = .ok (.aload_n 0, 1) := by decide +kernel
theorem dX6_sum_6 : decode cX6_sum 6 = .ok (.getfield 12, 3) := by decide +kernel
theorem dX6_sum_9 : decode cX6_sum 9 = .ok (.bipush 35, 2) := by decide +kernel
theorem dX6_sum_11 : decode cX6_sum 11 = .ok (.invokevirtual 77, 3) := by decide +kernel
theorem dX6_sum_14 : decode cX6_sum 14 = .ok (.ifCond .eq 26, 3) := by decide +kernel
theorem dX6_sum_17 : decode cX6_sum 17 = .ok (.aload_n 1, 1) := by decide +kernel
theorem dX6_sum_18 : decode cX6_sum 18 = .ok (.getfield 150, 3) := by decide +kernel
theorem dX6_sum_21 : decode cX6_sum 21 = .ok (.sipush 256, 3) := by decide +kernel
theorem dX6_sum_24 : decode cX6_sum 24 = .ok (.iload_n 2, 1) := by decide +kernel
theorem dX6_sum_25 : decode cX6_sum 25 = .ok (.imul, 1) := by decide +kernel
theorem dX6_sum_26 : decode cX6_sum 26 = .ok (.iadd, 1) := by decide +kernel
theorem dX6_sum_27 : decode cX6_sum 27 = .ok (.aload_n 0, 1) := by decide +kernel
theorem dX6_sum_28 : decode cX6_sum 28 = .ok (.getfield 12, 3) := by decide +kernel
theorem dX6_sum_31 : decode cX6_sum 31 = .ok (.iconst 0, 1) := by decide +kernel
theorem dX6_sum_32 : decode cX6_sum 32 = .ok (.sipush 255, 3) := by decide +kernel
theorem dX6_sum_35 : decode cX6_sum 35 = .ok (.invokevirtual 109, 3) := by decide +kernel
theorem dX6_sum_38 : decode cX6_sum 38 = .ok (.iadd, 1) := by decide +kernel
theorem dX6_sum_39 : decode cX6_sum 39 = .ok (.ireturn, 1) := by decide +kernel
theorem dX6_sum_40 : decode cX6_sum 40 = .ok (.aload_n 0, 1) := by decide +kernel
theorem dX6_sum_41 : decode cX6_sum 41 = .ok (.getfield 12, 3) := by decide +kernel
theorem dX6_sum_44 : decode cX6_sum 44 = .ok (.invokevirtual 167, 3) := by decide +kernel
theorem dX6_sum_47 : decode cX6_sum 47 = .ok (.istore_n 3, 1) := by decide +kernel
theorem dX6_sum_48 : decode cX6_sum 48 = .ok (.aload_n 0, 1) := by decide +kernel
theorem dX6_sum_49 : decode cX6_sum 49 = .ok (.getfield 12, 3) := by decide +kernel
theorem dX6_sum_52 : decode cX6_sum 52 = .ok (.bipush 44, 2) := by decide +kernel
theorem dX6_sum_54 : decode cX6_sum 54 = .ok (.invokevirtual 170, 3) := by decide +kernel
theorem dX6_sum_57 : decode cX6_sum 57 = .ok (.aload_n 0, 1) := by decide +kernel
theorem dX6_sum_58 : decode cX6_sum 58 = .ok (.getfield 12, 3) := by decide +kernel
theorem dX6_sum_61 : decode cX6_sum 61 = .ok (.bipush 35, 2) := by decide +kernel
theorem dX6_sum_63 : decode cX6_sum 63 = .ok (.invokevirtual 77, 3) := by decide +kernel
theorem dX6_sum_66 : decode cX6_sum 66 = .ok (.ifCond .eq 33, 3) := by decide +kernel
theorem dX6_sum_69 : decode cX6_sum 69 = .ok (.aload_n 1, 1) := by decide +kernel
theorem dX6_sum_70 : decode cX6_sum 70 = .ok (.getfield 94, 3) := by decide +kernel
theorem dX6_sum_73 : decode cX6_sum 73 = .ok (.sipush 1024, 3) := by decide +kernel
theorem dX6_sum_76 : decode cX6_sum 76 = .ok (.iadd, 1) := by decide +kernel
theorem dX6_sum_77 : decode cX6_sum 77 = .ok (.bipush 64, 2) := by decide +kernel
theorem dX6_sum_79 : decode cX6_sum 79 = .ok (.aload_n 0, 1) := by decide +kernel
theorem dX6_sum_80 : decode cX6_sum 80 = .ok (.getfield 12, 3) := by decide +kernel
theorem dX6_sum_83 : decode cX6_sum 83 = .ok (.iconst 0, 1) := by decide +kernel
theorem dX6_sum_84 : decode cX6_sum 84 = .ok (.bipush 7, 2) := by decide +kernel
theorem dX6_sum_86 : decode cX6_sum 86 = .ok (.invokevirtual 109, 3) := by decide +kernel
theorem dX6_sum_89 : decode cX6_sum 89 = .ok (.imul, 1) := by decide +kernel
theorem dX6_sum_90 : decode cX6_sum 90 = .ok (.iadd, 1) := by decide +kernel
theorem dX6_sum_91 : decode cX6_sum 91 = .ok (.bipush 8, 2) := by decide +kernel
theorem dX6_sum_93 : decode cX6_sum 93 = .ok (.iload_n 3, 1) := by decide +kernel
theorem dX6_sum_94 : decode cX6_sum 94 = .ok (.imul, 1) := by decide +kernel
theorem dX6_sum_95 : decode cX6_sum 95 = .ok (.iadd, 1) := by decide +kernel
theorem dX6_sum_96 : decode cX6_sum 96 = .ok (.iload_n 2, 1) := by decide +kernel
theorem dX6_sum_97 : decode cX6_sum 97 = .ok (.iadd, 1) := by decide +kernel
theorem dX6_sum_98 : decode cX6_sum 98 = .ok (.ireturn, 1) := by decide +kernel
theorem dX6_sum_99 : decode cX6_sum 99 = .ok (.aload_n 1, 1) := by decide +kernel
theorem dX6_sum_100 : decode cX6_sum 100 = .ok (.getfield 94, 3) := by decide +kernel
theorem dX6_sum_103 : decode cX6_sum 103 = .ok (.bipush 64, 2) := by decide +kernel
theorem dX6_sum_105 : decode cX6_sum 105 = .ok (.aload_n 0, 1) := by decide +kernel
theorem dX6_sum_106 : decode cX6_sum 106 = .ok (.getfield 12, 3) := by decide +kernel
theorem dX6_sum_109 : decode cX6_sum 109 = .ok (.invokevirtual 167, 3) := by decide +kernel
theorem dX6_sum_112 : decode cX6_sum 112 = .ok (.imul, 1) := by decide +kernel
theorem dX6_sum_113 : decode cX6_sum 113 = .ok (.iadd, 1) := by decide +kernel
theorem dX6_sum_114 : decode cX6_sum 114 = .ok (.bipush 8, 2) := by decide +kernel
theorem dX6_sum_116 : decode cX6_sum 116 = .ok (.iload_n 3, 1) := by decide +kernel
theorem dX6_sum_117 : decode cX6_sum 117 = .ok (.imul, 1) := by decide +kernel
theorem dX6_sum_118 : decode cX6_sum 118 = .ok (.iadd, 1) := by decide +kernel
theorem dX6_sum_119 : decode cX6_sum 119 = .ok (.iload_n 2, 1) := by decide +kernel
theorem dX6_sum_120 : decode cX6_sum 120 = .ok (.iadd, 1) := by decide +kernel
theorem dX6_sum_121 : decode cX6_sum 121 = .ok (.ireturn, 1) := by decide +kernel
theorem dX6_shift_0 : decode cX6_shift 0 = .ok (.aload_n 0, 1) := by decide +kernel
theorem dX6_shift_1 : decode cX6_shift 1 = .ok (.invokevirtual 140, 3) := by decide +kernel
theorem dX6_shift_4 : decode cX6_shift 4 = .ok (.istore_n 2, 1) := by decide +kernel
theorem dX6_shift_5 : decode cX6_shift 5 = .ok (.aload_n 0, 1) := by decide +kernel
theorem dX6_shift_6 : decode cX6_shift 6 = .ok (.getfield 12, 3) := by decide +kernel
theorem dX6_shift_9 : decode cX6_shift 9 = .ok (.invokevirtual 167, 3) := by decide +kernel
theorem dX6_shift_12 : decode cX6_shift 12 = .ok (.istore_n 3, 1) := by decide +kernel
theorem dX6_shift_13 : decode cX6_shift 13 = .ok (.aload_n 0, 1) := by decide +kernel
theorem dX6_shift_14 : decode cX6_shift 14 = .ok (.getfield 12, 3) := by decide +kernel
theorem dX6_shift_17 : decode cX6_shift 17 = .ok (.bipush 44, 2) := by decide +kernel
theorem dX6_shift_19 : decode cX6_shift 19 = .ok (.invokevirtual 170, 3) := by decide +kernel
theorem dX6_shift_22 : decode cX6_shift 22 = .ok (.aload_n 0, 1) := by decide +kernel
theorem dX6_shift_23 : decode cX6_shift 23 = .ok (.getfield 12, 3) := by decide +kernel
theorem dX6_shift_26 : decode cX6_shift 26 = .ok (.bipush 35, 2) := by decide +kernel
theorem dX6_shift_28 : decode cX6_shift 28 = .ok (.invokevirtual 170, 3) := by decide +kernel
theorem dX6_shift_31 : decode cX6_shift 31 = .ok (.aload_n 0, 1) := by decide +kernel
theorem dX6_shift_32 : decode cX6_shift 32 = .ok (.getfield 12, 3) := by decide +kernel
theorem dX6_shift_35 : decode cX6_shift 35 = .ok (.aload_n 1, 1) := by decide +kernel
theorem dX6_shift_36 : decode cX6_shift 36 = .ok (.getfield 150, 3) := by decide +kernel
theorem dX6_shift_39 : decode cX6_shift 39 = .ok (.aload_n 1, 1) := by decide +kernel
theorem dX6_shift_40 : decode cX6_shift 40 = .ok (.getfield 150, 3) := by decide +kernel
theorem dX6_shift_43 : decode cX6_shift 43 = .ok (.bipush 31, 2) := by decide +kernel
theorem dX6_shift_45 : decode cX6_shift 45 = .ok (.iadd, 1) := by decide +kernel
theorem dX6_shift_46 : decode cX6_shift 46 = .ok (.invokevirtual 109, 3) := by decide +kernel
theorem dX6_shift_49 : decode cX6_shift 49 = .ok (.istore 4, 2) := by decide +kernel
theorem dX6_shift_51 : decode cX6_shift 51 = .ok (.aload_n 1, 1) := by decide +kernel
theorem dX6_shift_52 : decode cX6_shift 52 = .ok (.getfield 94, 3) := by decide +kernel
theorem dX6_shift_55 : decode cX6_shift 55 = .ok (.bipush 64, 2) := by decide +kernel
theorem dX6_shift_57 : decode cX6_shift 57 = .ok (.iload 4, 2) := by decide +kernel
theorem dX6_shift_59 : decode cX6_shift 59 = .ok (.bipush 31, 2) := by decide +kernel
theorem dX6_shift_61 : decode cX6_shift 61 = .ok (.iand, 1) := by decide +kernel
theorem dX6_shift_62 : decode cX6_shift 62 = .ok (.imul, 1) := by decide +kernel
theorem dX6_shift_63 : decode cX6_shift 63 = .ok (.iadd, 1) := by decide +kernel
theorem dX6_shift_64 : decode cX6_shift 64 = .ok (.bipush 8, 2) := by decide +kernel
theorem dX6_shift_66 : decode cX6_shift 66 = .ok (.iload_n 3, 1) := by decide +kernel
theorem dX6_shift_67 : decode cX6_shift 67 = .ok (.imul, 1) := by decide +kernel
theorem dX6_shift_68 : decode cX6_shift 68 = .ok (.iadd, 1) := by decide +kernel
theorem dX6_shift_69 : decode cX6_shift 69 = .ok (.iload_n 2, 1) := by decide +kernel
theorem dX6_shift_70 : decode cX6_shift 70 = .ok (.iadd, 1) := by decide +kernel
theorem dX6_shift_71 : decode cX6_shift 71 = .ok (.ireturn, 1) := by decide +kernel
theorem dX6_pair_0 : decode cX6_pair 0 = .ok (.aload_n 0, 1) := by decide +kernel
theorem dX6_pair_1 : decode cX6_pair 1 = .ok (.invokevirtual 140, 3) := by decide +kernel
theorem dX6_pair_4 : decode cX6_pair 4 = .ok (.istore_n 2, 1) := by decide +kernel
theorem dX6_pair_5 : decode cX6_pair 5 = .ok (.aload_n 1, 1) := by decide +kernel
theorem dX6_pair_6 : decode cX6_pair 6 = .ok (.getfield 94, 3) := by decide +kernel
theorem dX6_pair_9 : decode cX6_pair 9 = .ok (.bipush 8, 2) := by decide +kernel
theorem dX6_pair_11 : decode cX6_pair 11 = .ok (.aload_n 0, 1) := by decide +kernel
theorem dX6_pair_12 : decode cX6_pair 12 = .ok (.getfield 12, 3) := by decide +kernel
theorem dX6_pair_15 : decode cX6_pair 15 = .ok (.invokevirtual 167, 3) := by decide +kernel
theorem dX6_pair_18 : decode cX6_pair 18 = .ok (.imul, 1) := by decide +kernel
theorem dX6_pair_19 : decode cX6_pair 19 = .ok (.iadd, 1) := by decide +kernel
theorem dX6_pair_20 : decode cX6_pair 20 = .ok (.iload_n 2, 1) := by decide +kernel
theorem dX6_pair_21 : decode cX6_pair 21 = .ok (.iadd, 1) := by decide +kernel
theorem dX6_pair_22 : decode cX6_pair 22 = .ok (.ireturn, 1) := by decide +kernel
theorem dX6_memory_0 : decode cX6_memory 0 = .ok (.aload_n 0, 1) := by decide +kernel
theorem dX6_memory_1 : decode cX6_memory 1 = .ok (.getfield 12, 3) := by decide +kernel
theorem dX6_memory_4 : decode cX6_memory 4 = .ok (.bipush 91, 2) := by decide +kernel
theorem dX6_memory_6 : decode cX6_memory 6 = .ok (.invokevirtual 170, 3) := by decide +kernel
theorem dX6_memory_9 : decode cX6_memory 9 = .ok (.aload_n 0, 1) := by decide +kernel
theorem dX6_memory_10 : decode cX6_memory 10 = .ok (.getfield 12, 3) := by decide +kernel
theorem dX6_memory_13 : decode cX6_memory 13 = .ok (.invokevirtual 167, 3) := by decide +kernel
theorem dX6_memory_16 : decode cX6_memory 16 = .ok (.istore_n 2, 1) := by decide +kernel
theorem dX6_memory_17 : decode cX6_memory 17 = .ok (.aload_n 0, 1) := by decide +kernel
theorem dX6_memory_18 : decode cX6_memory 18 = .ok (.getfield 12, 3) := by decide +kernel
theorem dX6_memory_21 : decode cX6_memory 21 = .ok (.bipush 44, 2) := by decide +kernel
theorem dX6_memory_23 : decode cX6_memory 23 = .ok (.invokevirtual 170, 3) := by decide +kernel
theorem dX6_memory_26 : decode cX6_memory 26 = .ok (.aload_n 0, 1) := by decide +kernel
theorem dX6_memory_27 : decode cX6_memory 27 = .ok (.getfield 12, 3) := by decide +kernel
theorem dX6_memory_30 : decode cX6_memory 30 = .ok (.bipush 35, 2) := by decide +kernel
theorem dX6_memory_32 : decode cX6_memory 32 = .ok (.invokevirtual 170, 3) := by decide +kernel
theorem dX6_memory_35 : decode cX6_memory 35 = .ok (.aload_n 0, 1) := by decide +kernel
theorem dX6_memory_36 : decode cX6_memory 36 = .ok (.getfield 12, 3) := by decide +kernel
theorem dX6_memory_39 : decode cX6_memory 39 = .ok (.getfield 35, 3) := by decide +kernel
theorem dX6_memory_42 : decode cX6_memory 42 = .ok (.istore_n 3, 1) := by decide +kernel
theorem dX6_memory_43 : decode cX6_memory 43 = .ok (.aload_n 0, 1) := by decide +kernel
theorem dX6_memory_44 : decode cX6_memory 44 = .ok (.getfield 12, 3) := by decide +kernel
theorem dX6_memory_47 : decode cX6_memory 47 = .ok (.iconst 0, 1) := by decide +kernel
theorem dX6_memory_48 : decode cX6_memory 48 = .ok (.bipush 31, 2) := by decide +kernel
theorem dX6_memory_50 : decode cX6_memory 50 = .ok (.iload_n 1, 1) := by decide +kernel
theorem dX6_memory_51 : decode cX6_memory 51 = .ok (.ishl, 1) := by decide +kernel
theorem dX6_memory_52 : decode cX6_memory 52 = .ok (.invokevirtual 109, 3) := by decide +kernel
theorem dX6_memory_55 : decode cX6_memory 55 = .ok (.istore 4, 2) := by decide +kernel
theorem dX6_memory_57 : decode cX6_memory 57 = .ok (.iload 4, 2) := by decide +kernel
theorem dX6_memory_59 : decode cX6_memory 59 = .ok (.iload_n 1, 1) := by decide +kernel
theorem dX6_memory_60 : decode cX6_memory 60 = .ok (.ishr, 1) := by decide +kernel
theorem dX6_memory_61 : decode cX6_memory 61 = .ok (.iload_n 1, 1) := by decide +kernel
theorem dX6_memory_62 : decode cX6_memory 62 = .ok (.ishl, 1) := by decide +kernel
theorem dX6_memory_63 : decode cX6_memory 63 = .ok (.iload 4, 2) := by decide +kernel
theorem dX6_memory_65 : decode cX6_memory 65 = .ok (.if_icmp .eq 13, 3) := by decide +kernel
theorem dX6_memory_68 : decode cX6_memory 68 = .ok (.aload_n 0, 1) := by decide +kernel
theorem dX6_memory_69 : decode cX6_memory 69 = .ok (.getfield 12, 3) := by decide +kernel
theorem dX6_memory_72 : decode cX6_memory 72 = .ok (.bipush (-4), 2) := by decide +kernel
theorem dX6_memory_74 : decode cX6_memory 74 = .ok (.iload_n 3, 1) := by decide +kernel
theorem dX6_memory_75 : decode cX6_memory 75 = .ok (.invokevirtual 46, 3) := by decide +kernel
theorem dX6_memory_78 : decode cX6_memory 78 = .ok (.aload_n 0, 1) := by decide +kernel
theorem dX6_memory_79 : decode cX6_memory 79 = .ok (.getfield 12, 3) := by decide +kernel
theorem dX6_memory_82 : decode cX6_memory 82 = .ok (.bipush 93, 2) := by decide +kernel
theorem dX6_memory_84 : decode cX6_memory 84 = .ok (.invokevirtual 170, 3) := by decide +kernel
theorem dX6_memory_87 : decode cX6_memory 87 = .ok (.bipush 64, 2) := by decide +kernel
theorem dX6_memory_89 : decode cX6_memory 89 = .ok (.iload 4, 2) := by decide +kernel
theorem dX6_memory_91 : decode cX6_memory 91 = .ok (.iload_n 1, 1) := by decide +kernel
theorem dX6_memory_92 : decode cX6_memory 92 = .ok (.ishr, 1) := by decide +kernel
theorem dX6_memory_93 : decode cX6_memory 93 = .ok (.imul, 1) := by decide +kernel
theorem dX6_memory_94 : decode cX6_memory 94 = .ok (.bipush 8, 2) := by decide +kernel
theorem dX6_memory_96 : decode cX6_memory 96 = .ok (.iload_n 2, 1) := by decide +kernel
theorem dX6_memory_97 : decode cX6_memory 97 = .ok (.imul, 1) := by decide +kernel
theorem dX6_memory_98 : decode cX6_memory 98 = .ok (.iadd, 1) := by decide +kernel
theorem dX6_memory_99 : decode cX6_memory 99 = .ok (.ireturn, 1) := by decide +kernel
theorem dX6_list_0 : decode cX6_list 0 = .ok (.iconst 0, 1) := by decide +kernel
theorem dX6_list_1 : decode cX6_list 1 = .ok (.istore_n 2, 1) := by decide +kernel
theorem dX6_list_2 : decode cX6_list 2 = .ok (.iconst (-1), 1) := by decide +kernel
theorem dX6_list_3 : decode cX6_list 3 = .ok (.istore_n 3, 1) := by decide +kernel
theorem dX6_list_4 : decode cX6_list 4 = .ok (.iconst 1, 1) := by decide +kernel
theorem dX6_list_5 : decode cX6_list 5 = .ok (.istore 4, 2) := by decide +kernel
theorem dX6_list_7 : decode cX6_list 7 = .ok (.aload_n 0, 1) := by decide +kernel
theorem dX6_list_8 : decode cX6_list 8 = .ok (.getfield 12, 3) := by decide +kernel
theorem dX6_list_11 : decode cX6_list 11 = .ok (.bipush 123, 2) := by decide +kernel
theorem dX6_list_13 : decode cX6_list 13 = .ok (.invokevirtual 170, 3) := by decide +kernel
theorem dX6_list_16 : decode cX6_list 16 = .ok (.iconst 0, 1) := by decide +kernel
theorem dX6_list_17 : decode cX6_list 17 = .ok (.istore 5, 2) := by decide +kernel
theorem dX6_list_19 : decode cX6_list 19 = .ok (.iload 5, 2) := by decide +kernel
theorem dX6_list_21 : decode cX6_list 21 = .ok (.bipush 9, 2) := by decide +kernel
theorem dX6_list_23 : decode cX6_list 23 = .ok (.if_icmp .ge 109, 3) := by decide +kernel
theorem dX6_list_26 : decode cX6_list 26 = .ok (.iload 4, 2) := by decide +kernel
theorem dX6_list_28 : decode cX6_list 28 = .ok (.ifCond .eq 104, 3) := by decide +kernel
theorem dX6_list_31 : decode cX6_list 31 = .ok (.aload_n 0, 1) := by decide +kernel
theorem dX6_list_32 : decode cX6_list 32 = .ok (.getfield 12, 3) := by decide +kernel
theorem dX6_list_35 : decode cX6_list 35 = .ok (.invokevirtual 174, 3) := by decide +kernel
theorem dX6_list_38 : decode cX6_list 38 = .ok (.istore 6, 2) := by decide +kernel
theorem dX6_list_40 : decode cX6_list 40 = .ok (.aload_n 0, 1) := by decide +kernel
theorem dX6_list_41 : decode cX6_list 41 = .ok (.getfield 12, 3) := by decide +kernel
theorem dX6_list_44 : decode cX6_list 44 = .ok (.aload_n 1, 1) := by decide +kernel
theorem dX6_list_45 : decode cX6_list 45 = .ok (.invokevirtual 177, 3) := by decide +kernel
theorem dX6_list_48 : decode cX6_list 48 = .ok (.ifCond .eq 22, 3) := by decide +kernel
theorem dX6_list_51 : decode cX6_list 51 = .ok (.iinc 2 256, 6) := by decide +kernel
theorem dX6_list_57 : decode cX6_list 57 = .ok (.aload_n 0, 1) := by decide +kernel
theorem dX6_list_58 : decode cX6_list 58 = .ok (.getfield 12, 3) := by decide +kernel
theorem dX6_list_61 : decode cX6_list 61 = .ok (.invokevirtual 55, 3) := by decide +kernel
theorem dX6_list_64 : decode cX6_list 64 = .ok (.iconst 0, 1) := by decide +kernel
theorem dX6_list_65 : decode cX6_list 65 = .ok (.istore 4, 2) := by decide +kernel
theorem dX6_list_67 : decode cX6_list 67 = .ok (.goto 59, 3) := by decide +kernel
theorem dX6_list_70 : decode cX6_list 70 = .ok (.iload 6, 2) := by decide +kernel
theorem dX6_list_72 : decode cX6_list 72 = .ok (.iload_n 3, 1) := by decide +kernel
theorem dX6_list_73 : decode cX6_list 73 = .ok (.if_icmp .le 34, 3) := by decide +kernel
theorem dX6_list_76 : decode cX6_list 76 = .ok (.iload_n 2, 1) := by decide +kernel
theorem dX6_list_77 : decode cX6_list 77 = .ok (.iconst 1, 1) := by decide +kernel
theorem dX6_list_78 : decode cX6_list 78 = .ok (.iload 6, 2) := by decide +kernel
theorem dX6_list_80 : decode cX6_list 80 = .ok (.ishl, 1) := by decide +kernel
theorem dX6_list_81 : decode cX6_list 81 = .ok (.iadd, 1) := by decide +kernel
theorem dX6_list_82 : decode cX6_list 82 = .ok (.istore_n 2, 1) := by decide +kernel
theorem dX6_list_83 : decode cX6_list 83 = .ok (.iload 6, 2) := by decide +kernel
theorem dX6_list_85 : decode cX6_list 85 = .ok (.istore_n 3, 1) := by decide +kernel
theorem dX6_list_86 : decode cX6_list 86 = .ok (.aload_n 0, 1) := by decide +kernel
theorem dX6_list_87 : decode cX6_list 87 = .ok (.getfield 12, 3) := by decide +kernel
theorem dX6_list_90 : decode cX6_list 90 = .ok (.invokevirtual 55, 3) := by decide +kernel
theorem dX6_list_93 : decode cX6_list 93 = .ok (.aload_n 0, 1) := by decide +kernel
theorem dX6_list_94 : decode cX6_list 94 = .ok (.getfield 12, 3) := by decide +kernel
theorem dX6_list_97 : decode cX6_list 97 = .ok (.bipush 44, 2) := by decide +kernel
theorem dX6_list_99 : decode cX6_list 99 = .ok (.invokevirtual 77, 3) := by decide +kernel
theorem dX6_list_102 : decode cX6_list 102 = .ok (.istore 4, 2) := by decide +kernel
theorem dX6_list_104 : decode cX6_list 104 = .ok (.goto 22, 3) := by decide +kernel
theorem dX6_list_107 : decode cX6_list 107 = .ok (.aload_n 0, 1) := by decide +kernel
theorem dX6_list_108 : decode cX6_list 108 = .ok (.getfield 12, 3) := by decide +kernel
theorem dX6_list_111 : decode cX6_list 111 = .ok (.bipush (-3), 2) := by decide +kernel
theorem dX6_list_113 : decode cX6_list 113 = .ok (.aload_n 0, 1) := by decide +kernel
theorem dX6_list_114 : decode cX6_list 114 = .ok (.getfield 12, 3) := by decide +kernel
theorem dX6_list_117 : decode cX6_list 117 = .ok (.getfield 35, 3) := by decide +kernel
theorem dX6_list_120 : decode cX6_list 120 = .ok (.invokevirtual 46, 3) := by decide +kernel
theorem dX6_list_123 : decode cX6_list 123 = .ok (.iconst 0, 1) := by decide +kernel
theorem dX6_list_124 : decode cX6_list 124 = .ok (.istore 4, 2) := by decide +kernel
theorem dX6_list_126 : decode cX6_list 126 = .ok (.iinc 5 1, 3) := by decide +kernel
theorem dX6_list_129 : decode cX6_list 129 = .ok (.goto (-110), 3) := by decide +kernel
theorem dX6_list_132 : decode cX6_list 132 = .ok (.aload_n 0, 1) := by decide +kernel
theorem dX6_list_133 : decode cX6_list 133 = .ok (.getfield 12, 3) := by decide +kernel
theorem dX6_list_136 : decode cX6_list 136 = .ok (.bipush 125, 2) := by decide +kernel
theorem dX6_list_138 : decode cX6_list 138 = .ok (.invokevirtual 170, 3) := by decide +kernel
theorem dX6_list_141 : decode cX6_list 141 = .ok (.iload_n 2, 1) := by decide +kernel
theorem dX6_list_142 : decode cX6_list 142 = .ok (.ireturn, 1) := by decide +kernel
theorem dX6_exchanged_0 : decode cX6_exchanged 0 = .ok (.aload_n 0, 1) := by decide +kernel
theorem dX6_exchanged_1 : decode cX6_exchanged 1 = .ok (.getfield 12, 3) := by decide +kernel
theorem dX6_exchanged_4 : decode cX6_exchanged 4 = .ok (.ldc 156, 2) := by decide +kernel
theorem dX6_exchanged_6 : decode cX6_exchanged 6 = .ok (.invokevirtual 177, 3) := by decide +kernel
theorem dX6_exchanged_9 : decode cX6_exchanged 9 = .ok (.ifCond .eq 13, 3) := by decide +kernel
theorem dX6_exchanged_12 : decode cX6_exchanged 12 = .ok (.aload_n 0, 1) := by decide +kernel
theorem dX6_exchanged_13 : decode cX6_exchanged 13 = .ok (.getfield 12, 3) := by decide +kernel
theorem dX6_exchanged_16 : decode cX6_exchanged 16 = .ok (.invokevirtual 55, 3) := by decide +kernel
theorem dX6_exchanged_19 : decode cX6_exchanged 19 = .ok (.bipush 14, 2) := by decide +kernel
theorem dX6_exchanged_21 : decode cX6_exchanged 21 = .ok (.ireturn, 1) := by decide +kernel
theorem dX6_exchanged_22 : decode cX6_exchanged 22 = .ok (.aload_n 0, 1) := by decide +kernel
theorem dX6_exchanged_23 : decode cX6_exchanged 23 = .ok (.getfield 12, 3) := by decide +kernel
theorem dX6_exchanged_26 : decode cX6_exchanged 26 = .ok (.invokevirtual 167, 3) := by decide +kernel
theorem dX6_exchanged_29 : decode cX6_exchanged 29 = .ok (.ireturn, 1) := by decide +kernel
theorem dX7_init_0 : decode cX7_init 0 = .ok (.aload_n 0, 1) := by decide +kernel
theorem dX7_init_1 : decode cX7_init 1 = .ok (.invokespecial 3, 3) := by decide +kernel
theorem dX7_init_4 : decode cX7_init 4 = .ok (.aload_n 0, 1) := by decide +kernel
theorem dX7_init_5 : decode cX7_init 5 = .ok (.new 9, 3) := by decide +kernel
theorem dX7_init_8 : decode cX7_init 8 = .ok (.dup, 1) := by decide +kernel
theorem dX7_init_9 : decode cX7_init 9 = .ok (.invokespecial 11, 3) := by decide +kernel
theorem dX7_init_12 : decode cX7_init 12 = .ok (.putfield 12, 3) := by decide +kernel
theorem dX7_init_15 : decode cX7_init 15 = .ok (.return_, 1) := by decide +kernel
theorem dX7_begin_0 : decode cX7_begin 0 = .ok (.aload_n 0, 1) := by decide +kernel
theorem dX7_begin_1 : decode cX7_begin 1 = .ok (.aload_n 1, 1) := by decide +kernel
theorem dX7_begin_2 : decode cX7_begin 2 = .ok (.putfield 12, 3) := by decide +kernel
theorem dX7_begin_5 : decode cX7_begin 5 = .ok (.aload_n 0, 1) := by decide +kernel
theorem dX7_begin_6 : decode cX7_begin 6 = .ok (.iconst 0, 1) := by decide +kernel
theorem dX7_begin_7 : decode cX7_begin 7 = .ok (.putfield 18, 3) := by decide +kernel
theorem dX7_begin_10 : decode cX7_begin 10 = .ok (.aload_n 0, 1) := by decide +kernel
theorem dX7_begin_11 : decode cX7_begin 11 = .ok (.iconst 0, 1) := by decide +kernel
theorem dX7_begin_12 : decode cX7_begin 12 = .ok (.putfield 22, 3) := by decide +kernel
theorem dX7_begin_15 : decode cX7_begin 15 = .ok (.aload_n 0, 1) := by decide +kernel
theorem dX7_begin_16 : decode cX7_begin 16 = .ok (.iconst 0, 1) := by decide +kernel
theorem dX7_begin_17 : decode cX7_begin 17 = .ok (.putfield 25, 3) := by decide +kernel
theorem dX7_begin_20 : decode cX7_begin 20 = .ok (.aload_n 0, 1) := by decide +kernel
theorem dX7_begin_21 : decode cX7_begin 21 = .ok (.invokevirtual 28, 3) := by decide +kernel
theorem dX7_begin_24 : decode cX7_begin 24 = .ok (.return_, 1) := by decide +kernel
theorem dX7_step_0 : decode cX7_step 0 = .ok (.aload_n 0, 1) := by decide +kernel
theorem dX7_step_1 : decode cX7_step 1 = .ok (.aload_n 0, 1) := by decide +kernel
theorem dX7_step_2 : decode cX7_step 2 = .ok (.getfield 18, 3) := by decide +kernel
theorem dX7_step_5 : decode cX7_step 5 = .ok (.putfield 31, 3) := by decide +kernel
theorem dX7_step_8 : decode cX7_step 8 = .ok (.aload_n 0, 1) := by decide +kernel
theorem dX7_step_9 : decode cX7_step 9 = .ok (.getfield 31, 3) := by decide +kernel
theorem dX7_step_12 : decode cX7_step 12 = .ok (.aload_n 0, 1) := by decide +kernel
theorem dX7_step_13 : decode cX7_step 13 = .ok (.getfield 12, 3) := by decide +kernel
theorem dX7_step_16 : decode cX7_step 16 = .ok (.getfield 34, 3) := by decide +kernel
theorem dX7_step_19 : decode cX7_step 19 = .ok (.if_icmp .ge 33, 3) := by decide +kernel
theorem dX7_step_22 : decode cX7_step 22 = .ok (.aload_n 0, 1) := by decide +kernel
theorem dX7_step_23 : decode cX7_step 23 = .ok (.getfield 12, 3) := by decide +kernel
theorem dX7_step_26 : decode cX7_step 26 = .ok (.getfield 37, 3) := by decide +kernel
theorem dX7_step_29 : decode cX7_step 29 = .ok (.aload_n 0, 1) := by decide +kernel
theorem dX7_step_30 : decode cX7_step 30 = .ok (.getfield 31, 3) := by decide +kernel
theorem dX7_step_33 : decode cX7_step 33 = .ok (.caload, 1) := by decide +kernel
theorem dX7_step_34 : decode cX7_step 34 = .ok (.bipush 32, 2) := by decide +kernel
theorem dX7_step_36 : decode cX7_step 36 = .ok (.if_icmp .ne 16, 3) := by decide +kernel
theorem dX7_step_39 : decode cX7_step 39 = .ok (.aload_n 0, 1) := by decide +kernel
theorem dX7_step_40 : decode cX7_step 40 = .ok (.dup, 1) := by decide +kernel
theorem dX7_step_41 : decode cX7_step 41 = .ok (.getfield 31, 3) := by decide +kernel
theorem dX7_step_44 : decode cX7_step 44 = .ok (.iconst 1, 1) := by decide +kernel
theorem dX7_step_45 : decode cX7_step 45 = .ok (.iadd, 1) := by decide +kernel
theorem dX7_step_46 : decode cX7_step 46 = .ok (.putfield 31, 3) := by decide +kernel
theorem dX7_step_49 : decode cX7_step 49 = .ok (.goto (-41), 3) := by decide +kernel
theorem dX7_step_52 : decode cX7_step 52 = .ok (.aload_n 0, 1) := by decide +kernel
theorem dX7_step_53 : decode cX7_step 53 = .ok (.aload_n 0, 1) := by decide +kernel
theorem dX7_step_54 : decode cX7_step 54 = .ok (.getfield 31, 3) := by decide +kernel
theorem dX7_step_57 : decode cX7_step 57 = .ok (.putfield 18, 3) := by decide +kernel
theorem dX7_step_60 : decode cX7_step 60 = .ok (.aload_n 0, 1) := by decide +kernel
theorem dX7_step_61 : decode cX7_step 61 = .ok (.getfield 31, 3) := by decide +kernel
theorem dX7_step_64 : decode cX7_step 64 = .ok (.aload_n 0, 1) := by decide +kernel
theorem dX7_step_65 : decode cX7_step 65 = .ok (.getfield 12, 3) := by decide +kernel
theorem dX7_step_68 : decode cX7_step 68 = .ok (.getfield 34, 3) := by decide +kernel
theorem dX7_step_71 : decode cX7_step 71 = .ok (.if_icmp .lt 4, 3) := by decide +kernel
theorem dX7_step_74 : decode cX7_step 74 = .ok (.return_, 1) := by decide +kernel
theorem dX7_step_75 : decode cX7_step 75 = .ok (.aload_n 0, 1) := by decide +kernel
theorem dX7_step_76 : decode cX7_step 76 = .ok (.getfield 12, 3) := by decide +kernel
theorem dX7_step_79 : decode cX7_step 79 = .ok (.getfield 37, 3) := by decide +kernel
theorem dX7_step_82 : decode cX7_step 82 = .ok (.aload_n 0, 1) := by decide +kernel
theorem dX7_step_83 : decode cX7_step 83 = .ok (.getfield 31, 3) := by decide +kernel
theorem dX7_step_86 : decode cX7_step 86 = .ok (.caload, 1) := by decide +kernel
theorem dX7_step_87 : decode cX7_step 87 = .ok (.istore_n 1, 1) := by decide +kernel
theorem dX7_step_88 : decode cX7_step 88 = .ok (.aload_n 0, 1) := by decide +kernel
theorem dX7_step_89 : decode cX7_step 89 = .ok (.dup, 1) := by decide +kernel
theorem dX7_step_90 : decode cX7_step 90 = .ok (.getfield 18, 3) := by decide +kernel
theorem dX7_step_93 : decode cX7_step 93 = .ok (.iconst 1, 1) := by decide +kernel
theorem dX7_step_94 : decode cX7_step 94 = .ok (.iadd, 1) := by decide +kernel
theorem dX7_step_95 : decode cX7_step 95 = .ok (.putfield 18, 3) := by decide +kernel
theorem dX7_step_98 : decode cX7_step 98 = .ok (.iload_n 1, 1) := by decide +kernel
theorem dX7_step_99 : decode cX7_step 99 = .ok (.bipush 46, 2) := by decide +kernel
theorem dX7_step_101 : decode cX7_step 101 = .ok (.if_icmp .ne 48, 3) := by decide +kernel
theorem dX7_step_104 : decode cX7_step 104 = .ok (.aload_n 0, 1) := by decide +kernel
theorem dX7_step_105 : decode cX7_step 105 = .ok (.getfield 18, 3) := by decide +kernel
theorem dX7_step_108 : decode cX7_step 108 = .ok (.aload_n 0, 1) := by decide +kernel
theorem dX7_step_109 : decode cX7_step 109 = .ok (.getfield 12, 3) := by decide +kernel
theorem dX7_step_112 : decode cX7_step 112 = .ok (.getfield 34, 3) := by decide +kernel
theorem dX7_step_115 : decode cX7_step 115 = .ok (.if_icmp .ge 111, 3) := by decide +kernel
theorem dX7_step_118 : decode cX7_step 118 = .ok (.aload_n 0, 1) := by decide +kernel
theorem dX7_step_119 : decode cX7_step 119 = .ok (.getfield 12, 3) := by decide +kernel
theorem dX7_step_122 : decode cX7_step 122 = .ok (.getfield 37, 3) := by decide +kernel
theorem dX7_step_125 : decode cX7_step 125 = .ok (.aload_n 0, 1) := by decide +kernel
theorem dX7_step_126 : decode cX7_step 126 = .ok (.getfield 18, 3) := by decide +kernel
theorem dX7_step_129 : decode cX7_step 129 = .ok (.caload, 1) := by decide +kernel
theorem dX7_step_130 : decode cX7_step 130 = .ok (.invokestatic 41, 3) := by decide +kernel
theorem dX7_step_133 : decode cX7_step 133 = .ok (.ifCond .eq 93, 3) := by decide +kernel
theorem dX7_step_136 : decode cX7_step 136 = .ok (.aload_n 0, 1) := by decide +kernel
theorem dX7_step_137 : decode cX7_step 137 = .ok (.dup, 1) := by decide +kernel
theorem dX7_step_138 : decode cX7_step 138 = .ok (.getfield 18, 3) := by decide +kernel
theorem dX7_step_141 : decode cX7_step 141 = .ok (.iconst 1, 1) := by decide +kernel
theorem dX7_step_142 : decode cX7_step 142 = .ok (.iadd, 1) := by decide +kernel
theorem dX7_step_143 : decode cX7_step 143 = .ok (.putfield 18, 3) := by decide +kernel
theorem dX7_step_146 : decode cX7_step 146 = .ok (.goto (-42), 3) := by decide +kernel
theorem dX7_step_149 : decode cX7_step 149 = .ok (.iload_n 1, 1) := by decide +kernel
theorem dX7_step_150 : decode cX7_step 150 = .ok (.invokestatic 41, 3) := by decide +kernel
theorem dX7_step_153 : decode cX7_step 153 = .ok (.ifCond .ne 10, 3) := by decide +kernel
theorem dX7_step_156 : decode cX7_step 156 = .ok (.iload_n 1, 1) := by decide +kernel
theorem dX7_step_157 : decode cX7_step 157 = .ok (.invokestatic 45, 3) := by decide +kernel
theorem dX7_step_160 : decode cX7_step 160 = .ok (.ifCond .eq 66, 3) := by decide +kernel
theorem dX7_step_163 : decode cX7_step 163 = .ok (.aload_n 0, 1) := by decide +kernel
theorem dX7_step_164 : decode cX7_step 164 = .ok (.getfield 18, 3) := by decide +kernel
theorem dX7_step_167 : decode cX7_step 167 = .ok (.aload_n 0, 1) := by decide +kernel
theorem dX7_step_168 : decode cX7_step 168 = .ok (.getfield 12, 3) := by decide +kernel
theorem dX7_step_171 : decode cX7_step 171 = .ok (.getfield 34, 3) := by decide +kernel
theorem dX7_step_174 : decode cX7_step 174 = .ok (.if_icmp .ge 52, 3) := by decide +kernel
theorem dX7_step_177 : decode cX7_step 177 = .ok (.aload_n 0, 1) := by decide +kernel
theorem dX7_step_178 : decode cX7_step 178 = .ok (.getfield 12, 3) := by decide +kernel
theorem dX7_step_181 : decode cX7_step 181 = .ok (.getfield 37, 3) := by decide +kernel
theorem dX7_step_184 : decode cX7_step 184 = .ok (.aload_n 0, 1) := by decide +kernel
theorem dX7_step_185 : decode cX7_step 185 = .ok (.getfield 18, 3) := by decide +kernel
theorem dX7_step_188 : decode cX7_step 188 = .ok (.caload, 1) := by decide +kernel
theorem dX7_step_189 : decode cX7_step 189 = .ok (.invokestatic 41, 3) := by decide +kernel
theorem dX7_step_192 : decode cX7_step 192 = .ok (.ifCond .ne 21, 3) := by decide +kernel
theorem dX7_step_195 : decode cX7_step 195 = .ok (.aload_n 0, 1) := by decide +kernel
theorem dX7_step_196 : decode cX7_step 196 = .ok (.getfield 12, 3) := by decide +kernel
theorem dX7_step_199 : decode cX7_step 199 = .ok (.getfield 37, 3) := by decide +kernel
theorem dX7_step_202 : decode cX7_step 202 = .ok (.aload_n 0, 1) := by decide +kernel
theorem dX7_step_203 : decode cX7_step 203 = .ok (.getfield 18, 3) := by decide +kernel
theorem dX7_step_206 : decode cX7_step 206 = .ok (.caload, 1) := by decide +kernel
theorem dX7_step_207 : decode cX7_step 207 = .ok (.invokestatic 45, 3) := by decide +kernel
theorem dX7_step_210 : decode cX7_step 210 = .ok (.ifCond .eq 16, 3) := by decide +kernel
theorem dX7_step_213 : decode cX7_step 213 = .ok (.aload_n 0, 1) := by decide +kernel
theorem dX7_step_214 : decode cX7_step 214 = .ok (.dup, 1) := by decide +kernel
theorem dX7_step_215 : decode cX7_step 215 = .ok (.getfield 18, 3) := by decide +kernel
theorem dX7_step_218 : decode cX7_step 218 = .ok (.iconst 1, 1) := by decide +kernel
theorem dX7_step_219 : decode cX7_step 219 = .ok (.iadd, 1) := by decide +kernel
theorem dX7_step_220 : decode cX7_step 220 = .ok (.putfield 18, 3) := by decide +kernel
theorem dX7_step_223 : decode cX7_step 223 = .ok (.goto (-60), 3) := by decide +kernel
theorem dX7_step_226 : decode cX7_step 226 = .ok (.return_, 1) := by decide +kernel
theorem dX7_stepBackTo_0 : decode cX7_stepBackTo 0 = .ok (.aload_n 0, 1) := by decide +kernel
theorem dX7_stepBackTo_1 : decode cX7_stepBackTo 1 = .ok (.iload_n 1, 1) := by decide +kernel
theorem dX7_stepBackTo_2 : decode cX7_stepBackTo 2 = .ok (.putfield 18, 3) := by decide +kernel
theorem dX7_stepBackTo_5 : decode cX7_stepBackTo 5 = .ok (.aload_n 0, 1) := by decide +kernel
theorem dX7_stepBackTo_6 : decode cX7_stepBackTo 6 = .ok (.invokevirtual 28, 3) := by decide +kernel
theorem dX7_stepBackTo_9 : decode cX7_stepBackTo 9 = .ok (.return_, 1) := by decide +kernel
theorem dX7_fail_0 : decode cX7_fail 0 = .ok (.aload_n 0, 1) := by decide +kernel
theorem dX7_fail_1 : decode cX7_fail 1 = .ok (.getfield 22, 3) := by decide +kernel
theorem dX7_fail_4 : decode cX7_fail 4 = .ok (.ifCond .ne 13, 3) := by decide +kernel
theorem dX7_fail_7 : decode cX7_fail 7 = .ok (.aload_n 0, 1) := by decide +kernel
theorem dX7_fail_8 : decode cX7_fail 8 = .ok (.iload_n 1, 1) := by decide +kernel
theorem dX7_fail_9 : decode cX7_fail 9 = .ok (.putfield 22, 3) := by decide +kernel
theorem dX7_fail_12 : decode cX7_fail 12 = .ok (.aload_n 0, 1) := by decide +kernel
theorem dX7_fail_13 : decode cX7_fail 13 = .ok (.iload_n 2, 1) := by decide +kernel
theorem dX7_fail_14 : decode cX7_fail 14 = .ok (.putfield 25, 3) := by decide +kernel
theorem dX7_fail_17 : decode cX7_fail 17 = .ok (.return_, 1) := by decide +kernel
theorem dX7_atEnd_0 : decode cX7_atEnd 0 = .ok (.aload_n 0, 1) := by decide +kernel
theorem dX7_atEnd_1 : decode cX7_atEnd 1 = .ok (.getfield 31, 3) := by decide +kernel
theorem dX7_atEnd_4 : decode cX7_atEnd 4 = .ok (.aload_n 0, 1) := by decide +kernel
theorem dX7_atEnd_5 : decode cX7_atEnd 5 = .ok (.getfield 12, 3) := by decide +kernel
theorem dX7_atEnd_8 : decode cX7_atEnd 8 = .ok (.getfield 34, 3) := by decide +kernel
theorem dX7_atEnd_11 : decode cX7_atEnd 11 = .ok (.if_icmp .lt 7, 3) := by decide +kernel
theorem dX7_atEnd_14 : decode cX7_atEnd 14 = .ok (.iconst 1, 1) := by decide +kernel
theorem dX7_atEnd_15 : decode cX7_atEnd 15 = .ok (.goto 4, 3) := by decide +kernel
theorem dX7_atEnd_18 : decode cX7_atEnd 18 = .ok (.iconst 0, 1) := by decide +kernel
theorem dX7_atEnd_19 : decode cX7_atEnd 19 = .ok (.ireturn, 1) := by decide +kernel
theorem dX7_sees_0 : decode cX7_sees 0 = .ok (.aload_n 0, 1) := by decide +kernel
theorem dX7_sees_1 : decode cX7_sees 1 = .ok (.getfield 31, 3) := by decide +kernel
theorem dX7_sees_4 : decode cX7_sees 4 = .ok (.aload_n 0, 1) := by decide +kernel
theorem dX7_sees_5 : decode cX7_sees 5 = .ok (.getfield 12, 3) := by decide +kernel
theorem dX7_sees_8 : decode cX7_sees 8 = .ok (.getfield 34, 3) := by decide +kernel
theorem dX7_sees_11 : decode cX7_sees 11 = .ok (.if_icmp .ge 23, 3) := by decide +kernel
theorem dX7_sees_14 : decode cX7_sees 14 = .ok (.aload_n 0, 1) := by decide +kernel
theorem dX7_sees_15 : decode cX7_sees 15 = .ok (.getfield 12, 3) := by decide +kernel
theorem dX7_sees_18 : decode cX7_sees 18 = .ok (.getfield 37, 3) := by decide +kernel
theorem dX7_sees_21 : decode cX7_sees 21 = .ok (.aload_n 0, 1) := by decide +kernel
theorem dX7_sees_22 : decode cX7_sees 22 = .ok (.getfield 31, 3) := by decide +kernel
theorem dX7_sees_25 : decode cX7_sees 25 = .ok (.caload, 1) := by decide +kernel
theorem dX7_sees_26 : decode cX7_sees 26 = .ok (.iload_n 1, 1) := by decide +kernel
theorem dX7_sees_27 : decode cX7_sees 27 = .ok (.if_icmp .ne 7, 3) := by decide +kernel
theorem dX7_sees_30 : decode cX7_sees 30 = .ok (.iconst 1, 1) := by decide +kernel
theorem dX7_sees_31 : decode cX7_sees 31 = .ok (.goto 4, 3) := by decide +kernel
theorem dX7_sees_34 : decode cX7_sees 34 = .ok (.iconst 0, 1) := by decide +kernel
theorem dX7_sees_35 : decode cX7_sees 35 = .ok (.ireturn, 1) := by decide +kernel
theorem dX7_seesLetter_0 : decode cX7_seesLetter 0 = .ok (.aload_n 0, 1) := by decide +kernel
theorem dX7_seesLetter_1 : decode cX7_seesLetter 1 = .ok (.getfield 31, 3) := by decide +kernel
theorem dX7_seesLetter_4 : decode cX7_seesLetter 4 = .ok (.aload_n 0, 1) := by decide +kernel
theorem dX7_seesLetter_5 : decode cX7_seesLetter 5 = .ok (.getfield 12, 3) := by decide +kernel
theorem dX7_seesLetter_8 : decode cX7_seesLetter 8 = .ok (.getfield 34, 3) := by decide +kernel
theorem dX7_seesLetter_11 : decode cX7_seesLetter 11 = .ok (.if_icmp .ge 25, 3) := by decide +kernel
theorem dX7_seesLetter_14 : decode cX7_seesLetter 14 = .ok (.aload_n 0, 1) := by decide +kernel
theorem dX7_seesLetter_15 : decode cX7_seesLetter 15 = .ok (.getfield 12, 3) := by decide +kernel
theorem dX7_seesLetter_18 : decode cX7_seesLetter 18 = .ok (.getfield 37, 3) := by decide +kernel
theorem dX7_seesLetter_21 : decode cX7_seesLetter 21 = .ok (.aload_n 0, 1) := by decide +kernel
theorem dX7_seesLetter_22 : decode cX7_seesLetter 22 = .ok (.getfield 31, 3) := by decide +kernel
theorem dX7_seesLetter_25 : decode cX7_seesLetter 25 = .ok (.caload, 1) := by decide +kernel
theorem dX7_seesLetter_26 : decode cX7_seesLetter 26 = .ok (.invokestatic 41, 3) := by decide +kernel
theorem dX7_seesLetter_29 : decode cX7_seesLetter 29 = .ok (.ifCond .eq 7, 3) := by decide +kernel
theorem dX7_seesLetter_32 : decode cX7_seesLetter 32 = .ok (.iconst 1, 1) := by decide +kernel
theorem dX7_seesLetter_33 : decode cX7_seesLetter 33 = .ok (.goto 4, 3) := by decide +kernel
theorem dX7_seesLetter_36 : decode cX7_seesLetter 36 = .ok (.iconst 0, 1) := by decide +kernel
theorem dX7_seesLetter_37 : decode cX7_seesLetter 37 = .ok (.ireturn, 1) := by decide +kernel
theorem dX7_seesWord_0 : decode cX7_seesWord 0 = .ok (.aload_n 0, 1) := by decide +kernel
theorem dX7_seesWord_1 : decode cX7_seesWord 1 = .ok (.getfield 18, 3) := by decide +kernel
theorem dX7_seesWord_4 : decode cX7_seesWord 4 = .ok (.aload_n 0, 1) := by decide +kernel
theorem dX7_seesWord_5 : decode cX7_seesWord 5 = .ok (.getfield 31, 3) := by decide +kernel
theorem dX7_seesWord_8 : decode cX7_seesWord 8 = .ok (.isub, 1) := by decide +kernel
theorem dX7_seesWord_9 : decode cX7_seesWord 9 = .ok (.aload_n 1, 1) := by decide +kernel
theorem dX7_seesWord_10 : decode cX7_seesWord 10 = .ok (.invokevirtual 48, 3) := by decide +kernel
theorem dX7_seesWord_13 : decode cX7_seesWord 13 = .ok (.if_icmp .eq 5, 3) := by decide +kernel
theorem dX7_seesWord_16 : decode cX7_seesWord 16 = .ok (.iconst 0, 1) := by decide +kernel
theorem dX7_seesWord_17 : decode cX7_seesWord 17 = .ok (.ireturn, 1) := by decide +kernel
theorem dX7_seesWord_18 : decode cX7_seesWord 18 = .ok (.iconst 0, 1) := by decide +kernel
theorem dX7_seesWord_19 : decode cX7_seesWord 19 = .ok (.istore_n 2, 1) := by decide +kernel
theorem dX7_seesWord_20 : decode cX7_seesWord 20 = .ok (.iload_n 2, 1) := by decide +kernel
theorem dX7_seesWord_21 : decode cX7_seesWord 21 = .ok (.aload_n 1, 1) := by decide +kernel
theorem dX7_seesWord_22 : decode cX7_seesWord 22 = .ok (.invokevirtual 48, 3) := by decide +kernel
theorem dX7_seesWord_25 : decode cX7_seesWord 25 = .ok (.if_icmp .ge 33, 3) := by decide +kernel
theorem dX7_seesWord_28 : decode cX7_seesWord 28 = .ok (.aload_n 0, 1) := by decide +kernel
theorem dX7_seesWord_29 : decode cX7_seesWord 29 = .ok (.getfield 12, 3) := by decide +kernel
theorem dX7_seesWord_32 : decode cX7_seesWord 32 = .ok (.getfield 37, 3) := by decide +kernel
theorem dX7_seesWord_35 : decode cX7_seesWord 35 = .ok (.aload_n 0, 1) := by decide +kernel
theorem dX7_seesWord_36 : decode cX7_seesWord 36 = .ok (.getfield 31, 3) := by decide +kernel
theorem dX7_seesWord_39 : decode cX7_seesWord 39 = .ok (.iload_n 2, 1) := by decide +kernel
theorem dX7_seesWord_40 : decode cX7_seesWord 40 = .ok (.iadd, 1) := by decide +kernel
theorem dX7_seesWord_41 : decode cX7_seesWord 41 = .ok (.caload, 1) := by decide +kernel
theorem dX7_seesWord_42 : decode cX7_seesWord 42 = .ok (.aload_n 1, 1) := by decide +kernel
theorem dX7_seesWord_43 : decode cX7_seesWord 43 = .ok (.iload_n 2, 1) := by decide +kernel
theorem dX7_seesWord_44 : decode cX7_seesWord 44 = .ok (.invokevirtual 53, 3) := by decide +kernel
theorem dX7_seesWord_47 : decode cX7_seesWord 47 = .ok (.if_icmp .eq 5, 3) := by decide +kernel
theorem dX7_seesWord_50 : decode cX7_seesWord 50 = .ok (.iconst 0, 1) := by decide +kernel
theorem dX7_seesWord_51 : decode cX7_seesWord 51 = .ok (.ireturn, 1) := by decide +kernel
theorem dX7_seesWord_52 : decode cX7_seesWord 52 = .ok (.iinc 2 1, 3) := by decide +kernel
theorem dX7_seesWord_55 : decode cX7_seesWord 55 = .ok (.goto (-35), 3) := by decide +kernel
theorem dX7_seesWord_58 : decode cX7_seesWord 58 = .ok (.iconst 1, 1) := by decide +kernel
theorem dX7_seesWord_59 : decode cX7_seesWord 59 = .ok (.ireturn, 1) := by decide +kernel
theorem dX7_seenMnemonic_0 : decode cX7_seenMnemonic 0 = .ok (.iconst 0, 1) := by decide +kernel
theorem dX7_seenMnemonic_1 : decode cX7_seenMnemonic 1 = .ok (.istore_n 1, 1) := by decide +kernel
theorem dX7_seenMnemonic_2 : decode cX7_seenMnemonic 2 = .ok (.iload_n 1, 1) := by decide +kernel
theorem dX7_seenMnemonic_3 : decode cX7_seenMnemonic 3 = .ok (.getstatic 57, 3) := by decide +kernel
theorem dX7_seenMnemonic_6 : decode cX7_seenMnemonic 6 = .ok (.arraylength, 1) := by decide +kernel
theorem dX7_seenMnemonic_7 : decode cX7_seenMnemonic 7 = .ok (.if_icmp .ge 30, 3) := by decide +kernel
theorem dX7_seenMnemonic_10 : decode cX7_seenMnemonic 10 = .ok (.aload_n 0, 1) := by decide +kernel
theorem dX7_seenMnemonic_11 : decode cX7_seenMnemonic 11 = .ok (.getstatic 57, 3) := by decide +kernel
theorem dX7_seenMnemonic_14 : decode cX7_seenMnemonic 14 = .ok (.iload_n 1, 1) := by decide +kernel
theorem dX7_seenMnemonic_15 : decode cX7_seenMnemonic 15 = .ok (.aaload, 1) := by decide +kernel
theorem dX7_seenMnemonic_16 : decode cX7_seenMnemonic 16 = .ok (.getfield 63, 3) := by decide +kernel
theorem dX7_seenMnemonic_19 : decode cX7_seenMnemonic 19 = .ok (.invokevirtual 67, 3) := by decide +kernel
theorem dX7_seenMnemonic_22 : decode cX7_seenMnemonic 22 = .ok (.ifCond .eq 9, 3) := by decide +kernel
theorem dX7_seenMnemonic_25 : decode cX7_seenMnemonic 25 = .ok (.getstatic 57, 3) := by decide +kernel
theorem dX7_seenMnemonic_28 : decode cX7_seenMnemonic 28 = .ok (.iload_n 1, 1) := by decide +kernel
theorem dX7_seenMnemonic_29 : decode cX7_seenMnemonic 29 = .ok (.aaload, 1) := by decide +kernel
theorem dX7_seenMnemonic_30 : decode cX7_seenMnemonic 30 = .ok (.areturn, 1) := by decide +kernel
theorem dX7_seenMnemonic_31 : decode cX7_seenMnemonic 31 = .ok (.iinc 1 1, 3) := by decide +kernel
theorem dX7_seenMnemonic_34 : decode cX7_seenMnemonic 34 = .ok (.goto (-32), 3) := by decide +kernel
theorem dX7_seenMnemonic_37 : decode cX7_seenMnemonic 37 = .ok (.aconst_null, 1) := by decide +kernel
theorem dX7_seenMnemonic_38 : decode cX7_seenMnemonic 38 = .ok (.areturn, 1) := by decide +kernel
theorem dX7_seenRegister_0 : decode cX7_seenRegister 0 = .ok (.aload_n 0, 1) := by decide +kernel
theorem dX7_seenRegister_1 : decode cX7_seenRegister 1 = .ok (.getfield 18, 3) := by decide +kernel
theorem dX7_seenRegister_4 : decode cX7_seenRegister 4 = .ok (.aload_n 0, 1) := by decide +kernel
theorem dX7_seenRegister_5 : decode cX7_seenRegister 5 = .ok (.getfield 31, 3) := by decide +kernel
theorem dX7_seenRegister_8 : decode cX7_seenRegister 8 = .ok (.isub, 1) := by decide +kernel
theorem dX7_seenRegister_9 : decode cX7_seenRegister 9 = .ok (.iconst 2, 1) := by decide +kernel
theorem dX7_seenRegister_10 : decode cX7_seenRegister 10 = .ok (.if_icmp .ne 20, 3) := by decide +kernel
theorem dX7_seenRegister_13 : decode cX7_seenRegister 13 = .ok (.aload_n 0, 1) := by decide +kernel
theorem dX7_seenRegister_14 : decode cX7_seenRegister 14 = .ok (.getfield 12, 3) := by decide +kernel
theorem dX7_seenRegister_17 : decode cX7_seenRegister 17 = .ok (.getfield 37, 3) := by decide +kernel
theorem dX7_seenRegister_20 : decode cX7_seenRegister 20 = .ok (.aload_n 0, 1) := by decide +kernel
theorem dX7_seenRegister_21 : decode cX7_seenRegister 21 = .ok (.getfield 31, 3) := by decide +kernel
theorem dX7_seenRegister_24 : decode cX7_seenRegister 24 = .ok (.caload, 1) := by decide +kernel
theorem dX7_seenRegister_25 : decode cX7_seenRegister 25 = .ok (.bipush 114, 2) := by decide +kernel
theorem dX7_seenRegister_27 : decode cX7_seenRegister 27 = .ok (.if_icmp .eq 5, 3) := by decide +kernel
theorem dX7_seenRegister_30 : decode cX7_seenRegister 30 = .ok (.iconst (-1), 1) := by decide +kernel
theorem dX7_seenRegister_31 : decode cX7_seenRegister 31 = .ok (.ireturn, 1) := by decide +kernel
theorem dX7_seenRegister_32 : decode cX7_seenRegister 32 = .ok (.aload_n 0, 1) := by decide +kernel
theorem dX7_seenRegister_33 : decode cX7_seenRegister 33 = .ok (.getfield 12, 3) := by decide +kernel
theorem dX7_seenRegister_36 : decode cX7_seenRegister 36 = .ok (.getfield 37, 3) := by decide +kernel
theorem dX7_seenRegister_39 : decode cX7_seenRegister 39 = .ok (.aload_n 0, 1) := by decide +kernel
theorem dX7_seenRegister_40 : decode cX7_seenRegister 40 = .ok (.getfield 31, 3) := by decide +kernel
theorem dX7_seenRegister_43 : decode cX7_seenRegister 43 = .ok (.iconst 1, 1) := by decide +kernel
theorem dX7_seenRegister_44 : decode cX7_seenRegister 44 = .ok (.iadd, 1) := by decide +kernel
theorem dX7_seenRegister_45 : decode cX7_seenRegister 45 = .ok (.caload, 1) := by decide +kernel
theorem dX7_seenRegister_46 : decode cX7_seenRegister 46 = .ok (.istore_n 1, 1) := by decide +kernel
theorem dX7_seenRegister_47 : decode cX7_seenRegister 47 = .ok (.iload_n 1, 1) := by decide +kernel
theorem dX7_seenRegister_48 : decode cX7_seenRegister 48 = .ok (.bipush 48, 2) := by decide +kernel
theorem dX7_seenRegister_50 : decode cX7_seenRegister 50 = .ok (.if_icmp .lt 16, 3) := by decide +kernel
theorem dX7_seenRegister_53 : decode cX7_seenRegister 53 = .ok (.iload_n 1, 1) := by decide +kernel
theorem dX7_seenRegister_54 : decode cX7_seenRegister 54 = .ok (.bipush 55, 2) := by decide +kernel
theorem dX7_seenRegister_56 : decode cX7_seenRegister 56 = .ok (.if_icmp .gt 10, 3) := by decide +kernel
theorem dX7_seenRegister_59 : decode cX7_seenRegister 59 = .ok (.iload_n 1, 1) := by decide +kernel
theorem dX7_seenRegister_60 : decode cX7_seenRegister 60 = .ok (.bipush 48, 2) := by decide +kernel
theorem dX7_seenRegister_62 : decode cX7_seenRegister 62 = .ok (.isub, 1) := by decide +kernel
theorem dX7_seenRegister_63 : decode cX7_seenRegister 63 = .ok (.goto 4, 3) := by decide +kernel
theorem dX7_seenRegister_66 : decode cX7_seenRegister 66 = .ok (.iconst (-1), 1) := by decide +kernel
theorem dX7_seenRegister_67 : decode cX7_seenRegister 67 = .ok (.ireturn, 1) := by decide +kernel
theorem dX7_seenName_0 : decode cX7_seenName 0 = .ok (.aload_n 0, 1) := by decide +kernel
theorem dX7_seenName_1 : decode cX7_seenName 1 = .ok (.getfield 12, 3) := by decide +kernel
theorem dX7_seenName_4 : decode cX7_seenName 4 = .ok (.aload_n 0, 1) := by decide +kernel
theorem dX7_seenName_5 : decode cX7_seenName 5 = .ok (.getfield 31, 3) := by decide +kernel
theorem dX7_seenName_8 : decode cX7_seenName 8 = .ok (.aload_n 0, 1) := by decide +kernel
theorem dX7_seenName_9 : decode cX7_seenName 9 = .ok (.getfield 18, 3) := by decide +kernel
theorem dX7_seenName_12 : decode cX7_seenName 12 = .ok (.invokevirtual 71, 3) := by decide +kernel
theorem dX7_seenName_15 : decode cX7_seenName 15 = .ok (.lreturn, 1) := by decide +kernel
theorem dX7_accept_0 : decode cX7_accept 0 = .ok (.aload_n 0, 1) := by decide +kernel
theorem dX7_accept_1 : decode cX7_accept 1 = .ok (.iload_n 1, 1) := by decide +kernel
theorem dX7_accept_2 : decode cX7_accept 2 = .ok (.invokevirtual 75, 3) := by decide +kernel
theorem dX7_accept_5 : decode cX7_accept 5 = .ok (.istore_n 2, 1) := by decide +kernel
theorem dX7_accept_6 : decode cX7_accept 6 = .ok (.iload_n 2, 1) := by decide +kernel
theorem dX7_accept_7 : decode cX7_accept 7 = .ok (.ifCond .eq 7, 3) := by decide +kernel
theorem dX7_accept_10 : decode cX7_accept 10 = .ok (.aload_n 0, 1) := by decide +kernel
theorem dX7_accept_11 : decode cX7_accept 11 = .ok (.invokevirtual 28, 3) := by decide +kernel
theorem dX7_accept_14 : decode cX7_accept 14 = .ok (.iload_n 2, 1) := by decide +kernel
theorem dX7_accept_15 : decode cX7_accept 15 = .ok (.ireturn, 1) := by decide +kernel
theorem dX7_expect_0 : decode cX7_expect 0 = .ok (.aload_n 0, 1) := by decide +kernel
theorem dX7_expect_1 : decode cX7_expect 1 = .ok (.iload_n 1, 1) := by decide +kernel
theorem dX7_expect_2 : decode cX7_expect 2 = .ok (.invokevirtual 78, 3) := by decide +kernel
theorem dX7_expect_5 : decode cX7_expect 5 = .ok (.ifCond .ne 13, 3) := by decide +kernel
theorem dX7_expect_8 : decode cX7_expect 8 = .ok (.aload_n 0, 1) := by decide +kernel
theorem dX7_expect_9 : decode cX7_expect 9 = .ok (.bipush (-3), 2) := by decide +kernel
theorem dX7_expect_11 : decode cX7_expect 11 = .ok (.aload_n 0, 1) := by decide +kernel
theorem dX7_expect_12 : decode cX7_expect 12 = .ok (.getfield 31, 3) := by decide +kernel
theorem dX7_expect_15 : decode cX7_expect 15 = .ok (.invokevirtual 81, 3) := by decide +kernel
theorem dX7_expect_18 : decode cX7_expect 18 = .ok (.return_, 1) := by decide +kernel
theorem dX7_register_0 : decode cX7_register 0 = .ok (.aload_n 0, 1) := by decide +kernel
theorem dX7_register_1 : decode cX7_register 1 = .ok (.invokevirtual 85, 3) := by decide +kernel
theorem dX7_register_4 : decode cX7_register 4 = .ok (.istore_n 1, 1) := by decide +kernel
theorem dX7_register_5 : decode cX7_register 5 = .ok (.iload_n 1, 1) := by decide +kernel
theorem dX7_register_6 : decode cX7_register 6 = .ok (.iconst (-1), 1) := by decide +kernel
theorem dX7_register_7 : decode cX7_register 7 = .ok (.if_icmp .ne 15, 3) := by decide +kernel
theorem dX7_register_10 : decode cX7_register 10 = .ok (.aload_n 0, 1) := by decide +kernel
theorem dX7_register_11 : decode cX7_register 11 = .ok (.bipush (-3), 2) := by decide +kernel
theorem dX7_register_13 : decode cX7_register 13 = .ok (.aload_n 0, 1) := by decide +kernel
theorem dX7_register_14 : decode cX7_register 14 = .ok (.getfield 31, 3) := by decide +kernel
theorem dX7_register_17 : decode cX7_register 17 = .ok (.invokevirtual 81, 3) := by decide +kernel
theorem dX7_register_20 : decode cX7_register 20 = .ok (.iconst 0, 1) := by decide +kernel
theorem dX7_register_21 : decode cX7_register 21 = .ok (.ireturn, 1) := by decide +kernel
theorem dX7_register_22 : decode cX7_register 22 = .ok (.aload_n 0, 1) := by decide +kernel
theorem dX7_register_23 : decode cX7_register 23 = .ok (.invokevirtual 28, 3) := by decide +kernel
theorem dX7_register_26 : decode cX7_register 26 = .ok (.iload_n 1, 1) := by decide +kernel
theorem dX7_register_27 : decode cX7_register 27 = .ok (.ireturn, 1) := by decide +kernel
theorem dX7_name_0 : decode cX7_name 0 = .ok (.aload_n 0, 1) := by decide +kernel
theorem dX7_name_1 : decode cX7_name 1 = .ok (.invokevirtual 88, 3) := by decide +kernel
theorem dX7_name_4 : decode cX7_name 4 = .ok (.lstore_n 1, 1) := by decide +kernel
theorem dX7_name_5 : decode cX7_name 5 = .ok (.lload_n 1, 1) := by decide +kernel
theorem dX7_name_6 : decode cX7_name 6 = .ok (.lconst 0, 1) := by decide +kernel
theorem dX7_name_7 : decode cX7_name 7 = .ok (.lcmp, 1) := by decide +kernel
theorem dX7_name_8 : decode cX7_name 8 = .ok (.ifCond .ne 16, 3) := by decide +kernel
theorem dX7_name_11 : decode cX7_name 11 = .ok (.aload_n 0, 1) := by decide +kernel
theorem dX7_name_12 : decode cX7_name 12 = .ok (.bipush (-3), 2) := by decide +kernel
theorem dX7_name_14 : decode cX7_name 14 = .ok (.aload_n 0, 1) := by decide +kernel
theorem dX7_name_15 : decode cX7_name 15 = .ok (.getfield 31, 3) := by decide +kernel
theorem dX7_name_18 : decode cX7_name 18 = .ok (.invokevirtual 81, 3) := by decide +kernel
theorem dX7_name_21 : decode cX7_name 21 = .ok (.goto 7, 3) := by decide +kernel
theorem dX7_name_24 : decode cX7_name 24 = .ok (.aload_n 0, 1) := by decide +kernel
theorem dX7_name_25 : decode cX7_name 25 = .ok (.invokevirtual 28, 3) := by decide +kernel
theorem dX7_name_28 : decode cX7_name 28 = .ok (.lload_n 1, 1) := by decide +kernel
theorem dX7_name_29 : decode cX7_name 29 = .ok (.lreturn, 1) := by decide +kernel
theorem dX7_digits_0 : decode cX7_digits 0 = .ok (.aload_n 0, 1) := by decide +kernel
theorem dX7_digits_1 : decode cX7_digits 1 = .ok (.getfield 18, 3) := by decide +kernel
theorem dX7_digits_4 : decode cX7_digits 4 = .ok (.aload_n 0, 1) := by decide +kernel
theorem dX7_digits_5 : decode cX7_digits 5 = .ok (.getfield 31, 3) := by decide +kernel
theorem dX7_digits_8 : decode cX7_digits 8 = .ok (.if_icmp .le 20, 3) := by decide +kernel
theorem dX7_digits_11 : decode cX7_digits 11 = .ok (.aload_n 0, 1) := by decide +kernel
theorem dX7_digits_12 : decode cX7_digits 12 = .ok (.getfield 18, 3) := by decide +kernel
theorem dX7_digits_15 : decode cX7_digits 15 = .ok (.aload_n 0, 1) := by decide +kernel
theorem dX7_digits_16 : decode cX7_digits 16 = .ok (.getfield 31, 3) := by decide +kernel
theorem dX7_digits_19 : decode cX7_digits 19 = .ok (.isub, 1) := by decide +kernel
theorem dX7_digits_20 : decode cX7_digits 20 = .ok (.iconst 4, 1) := by decide +kernel
theorem dX7_digits_21 : decode cX7_digits 21 = .ok (.if_icmp .gt 7, 3) := by decide +kernel
theorem dX7_digits_24 : decode cX7_digits 24 = .ok (.iconst 1, 1) := by decide +kernel
theorem dX7_digits_25 : decode cX7_digits 25 = .ok (.goto 4, 3) := by decide +kernel
theorem dX7_digits_28 : decode cX7_digits 28 = .ok (.iconst 0, 1) := by decide +kernel
theorem dX7_digits_29 : decode cX7_digits 29 = .ok (.istore_n 1, 1) := by decide +kernel
theorem dX7_digits_30 : decode cX7_digits 30 = .ok (.iconst 0, 1) := by decide +kernel
theorem dX7_digits_31 : decode cX7_digits 31 = .ok (.istore_n 2, 1) := by decide +kernel
theorem dX7_digits_32 : decode cX7_digits 32 = .ok (.aload_n 0, 1) := by decide +kernel
theorem dX7_digits_33 : decode cX7_digits 33 = .ok (.getfield 31, 3) := by decide +kernel
theorem dX7_digits_36 : decode cX7_digits 36 = .ok (.istore_n 3, 1) := by decide +kernel
theorem dX7_digits_37 : decode cX7_digits 37 = .ok (.iload_n 1, 1) := by decide +kernel
theorem dX7_digits_38 : decode cX7_digits 38 = .ok (.ifCond .eq 48, 3) := by decide +kernel
theorem dX7_digits_41 : decode cX7_digits 41 = .ok (.iload_n 3, 1) := by decide +kernel
theorem dX7_digits_42 : decode cX7_digits 42 = .ok (.aload_n 0, 1) := by decide +kernel
theorem dX7_digits_43 : decode cX7_digits 43 = .ok (.getfield 18, 3) := by decide +kernel
theorem dX7_digits_46 : decode cX7_digits 46 = .ok (.if_icmp .ge 40, 3) := by decide +kernel
theorem dX7_digits_49 : decode cX7_digits 49 = .ok (.aload_n 0, 1) := by decide +kernel
theorem dX7_digits_50 : decode cX7_digits 50 = .ok (.getfield 12, 3) := by decide +kernel
theorem dX7_digits_53 : decode cX7_digits 53 = .ok (.getfield 37, 3) := by decide +kernel
theorem dX7_digits_56 : decode cX7_digits 56 = .ok (.iload_n 3, 1) := by decide +kernel
theorem dX7_digits_57 : decode cX7_digits 57 = .ok (.caload, 1) := by decide +kernel
theorem dX7_digits_58 : decode cX7_digits 58 = .ok (.invokestatic 45, 3) := by decide +kernel
theorem dX7_digits_61 : decode cX7_digits 61 = .ok (.istore_n 1, 1) := by decide +kernel
theorem dX7_digits_62 : decode cX7_digits 62 = .ok (.iload_n 2, 1) := by decide +kernel
theorem dX7_digits_63 : decode cX7_digits 63 = .ok (.bipush 10, 2) := by decide +kernel
theorem dX7_digits_65 : decode cX7_digits 65 = .ok (.imul, 1) := by decide +kernel
theorem dX7_digits_66 : decode cX7_digits 66 = .ok (.aload_n 0, 1) := by decide +kernel
theorem dX7_digits_67 : decode cX7_digits 67 = .ok (.getfield 12, 3) := by decide +kernel
theorem dX7_digits_70 : decode cX7_digits 70 = .ok (.getfield 37, 3) := by decide +kernel
theorem dX7_digits_73 : decode cX7_digits 73 = .ok (.iload_n 3, 1) := by decide +kernel
theorem dX7_digits_74 : decode cX7_digits 74 = .ok (.caload, 1) := by decide +kernel
theorem dX7_digits_75 : decode cX7_digits 75 = .ok (.iadd, 1) := by decide +kernel
theorem dX7_digits_76 : decode cX7_digits 76 = .ok (.bipush 48, 2) := by decide +kernel
theorem dX7_digits_78 : decode cX7_digits 78 = .ok (.isub, 1) := by decide +kernel
theorem dX7_digits_79 : decode cX7_digits 79 = .ok (.istore_n 2, 1) := by decide +kernel
theorem dX7_digits_80 : decode cX7_digits 80 = .ok (.iinc 3 1, 3) := by decide +kernel
theorem dX7_digits_83 : decode cX7_digits 83 = .ok (.goto (-46), 3) := by decide +kernel
theorem dX7_digits_86 : decode cX7_digits 86 = .ok (.iload_n 1, 1) := by decide +kernel
theorem dX7_digits_87 : decode cX7_digits 87 = .ok (.ifCond .ne 15, 3) := by decide +kernel
theorem dX7_digits_90 : decode cX7_digits 90 = .ok (.aload_n 0, 1) := by decide +kernel
theorem dX7_digits_91 : decode cX7_digits 91 = .ok (.bipush (-3), 2) := by decide +kernel
theorem dX7_digits_93 : decode cX7_digits 93 = .ok (.aload_n 0, 1) := by decide +kernel
theorem dX7_digits_94 : decode cX7_digits 94 = .ok (.getfield 31, 3) := by decide +kernel
theorem dX7_digits_97 : decode cX7_digits 97 = .ok (.invokevirtual 81, 3) := by decide +kernel
theorem dX7_digits_100 : decode cX7_digits 100 = .ok (.iconst 0, 1) := by decide +kernel
theorem dX7_digits_101 : decode cX7_digits 101 = .ok (.ireturn, 1) := by decide +kernel
theorem dX7_digits_102 : decode cX7_digits 102 = .ok (.aload_n 0, 1) := by decide +kernel
theorem dX7_digits_103 : decode cX7_digits 103 = .ok (.invokevirtual 28, 3) := by decide +kernel
theorem dX7_digits_106 : decode cX7_digits 106 = .ok (.iload_n 2, 1) := by decide +kernel
theorem dX7_digits_107 : decode cX7_digits 107 = .ok (.ireturn, 1) := by decide +kernel
theorem dX7_number_0 : decode cX7_number 0 = .ok (.aload_n 0, 1) := by decide +kernel
theorem dX7_number_1 : decode cX7_number 1 = .ok (.getfield 31, 3) := by decide +kernel
theorem dX7_number_4 : decode cX7_number 4 = .ok (.istore_n 3, 1) := by decide +kernel
theorem dX7_number_5 : decode cX7_number 5 = .ok (.aload_n 0, 1) := by decide +kernel
theorem dX7_number_6 : decode cX7_number 6 = .ok (.bipush 45, 2) := by decide +kernel
theorem dX7_number_8 : decode cX7_number 8 = .ok (.invokevirtual 78, 3) := by decide +kernel
theorem dX7_number_11 : decode cX7_number 11 = .ok (.ifCond .eq 11, 3) := by decide +kernel
theorem dX7_number_14 : decode cX7_number 14 = .ok (.aload_n 0, 1) := by decide +kernel
theorem dX7_number_15 : decode cX7_number 15 = .ok (.invokevirtual 92, 3) := by decide +kernel
theorem dX7_number_18 : decode cX7_number 18 = .ok (.ineg, 1) := by decide +kernel
theorem dX7_number_19 : decode cX7_number 19 = .ok (.goto 7, 3) := by decide +kernel
theorem dX7_number_22 : decode cX7_number 22 = .ok (.aload_n 0, 1) := by decide +kernel
theorem dX7_number_23 : decode cX7_number 23 = .ok (.invokevirtual 92, 3) := by decide +kernel
theorem dX7_number_26 : decode cX7_number 26 = .ok (.istore 4, 2) := by decide +kernel
theorem dX7_number_28 : decode cX7_number 28 = .ok (.iload 4, 2) := by decide +kernel
theorem dX7_number_30 : decode cX7_number 30 = .ok (.iload_n 1, 1) := by decide +kernel
theorem dX7_number_31 : decode cX7_number 31 = .ok (.if_icmp .lt 9, 3) := by decide +kernel
theorem dX7_number_34 : decode cX7_number 34 = .ok (.iload 4, 2) := by decide +kernel
theorem dX7_number_36 : decode cX7_number 36 = .ok (.iload_n 2, 1) := by decide +kernel
theorem dX7_number_37 : decode cX7_number 37 = .ok (.if_icmp .le 10, 3) := by decide +kernel
theorem dX7_number_40 : decode cX7_number 40 = .ok (.aload_n 0, 1) := by decide +kernel
theorem dX7_number_41 : decode cX7_number 41 = .ok (.bipush (-4), 2) := by decide +kernel
theorem dX7_number_43 : decode cX7_number 43 = .ok (.iload_n 3, 1) := by decide +kernel
theorem dX7_number_44 : decode cX7_number 44 = .ok (.invokevirtual 81, 3) := by decide +kernel
theorem dX7_number_47 : decode cX7_number 47 = .ok (.iload 4, 2) := by decide +kernel
theorem dX7_number_49 : decode cX7_number 49 = .ok (.ireturn, 1) := by decide +kernel
theorem dX8_init_0 : decode cX8_init 0 = .ok (.aload_n 0, 1) := by decide +kernel
theorem dX8_init_1 : decode cX8_init 1 = .ok (.invokespecial 3, 3) := by decide +kernel
theorem dX8_init_4 : decode cX8_init 4 = .ok (.aload_n 0, 1) := by decide +kernel
theorem dX8_init_5 : decode cX8_init 5 = .ok (.bipush 24, 2) := by decide +kernel
theorem dX8_init_7 : decode cX8_init 7 = .ok (.anewarray 9, 3) := by decide +kernel
theorem dX8_init_10 : decode cX8_init 10 = .ok (.putfield 11, 3) := by decide +kernel
theorem dX8_init_13 : decode cX8_init 13 = .ok (.iconst 0, 1) := by decide +kernel
theorem dX8_init_14 : decode cX8_init 14 = .ok (.istore_n 1, 1) := by decide +kernel
theorem dX8_init_15 : decode cX8_init 15 = .ok (.iload_n 1, 1) := by decide +kernel
theorem dX8_init_16 : decode cX8_init 16 = .ok (.bipush 24, 2) := by decide +kernel
theorem dX8_init_18 : decode cX8_init 18 = .ok (.if_icmp .ge 22, 3) := by decide +kernel
theorem dX8_init_21 : decode cX8_init 21 = .ok (.aload_n 0, 1) := by decide +kernel
theorem dX8_init_22 : decode cX8_init 22 = .ok (.getfield 11, 3) := by decide +kernel
theorem dX8_init_25 : decode cX8_init 25 = .ok (.iload_n 1, 1) := by decide +kernel
theorem dX8_init_26 : decode cX8_init 26 = .ok (.new 9, 3) := by decide +kernel
theorem dX8_init_29 : decode cX8_init 29 = .ok (.dup, 1) := by decide +kernel
theorem dX8_init_30 : decode cX8_init 30 = .ok (.invokespecial 17, 3) := by decide +kernel
theorem dX8_init_33 : decode cX8_init 33 = .ok (.aastore, 1) := by decide +kernel
theorem dX8_init_34 : decode cX8_init 34 = .ok (.iinc 1 1, 3) := by decide +kernel
theorem dX8_init_37 : decode cX8_init 37 = .ok (.goto (-22), 3) := by decide +kernel
theorem dX8_init_40 : decode cX8_init 40 = .ok (.return_, 1) := by decide +kernel
theorem dX9_init_0 : decode cX9_init 0 = .ok (.aload_n 0, 1) := by decide +kernel
theorem dX9_init_1 : decode cX9_init 1 = .ok (.invokespecial 3, 3) := by decide +kernel
theorem dX9_init_4 : decode cX9_init 4 = .ok (.return_, 1) := by decide +kernel
theorem dX9_clear_0 : decode cX9_clear 0 = .ok (.aload_n 0, 1) := by decide +kernel
theorem dX9_clear_1 : decode cX9_clear 1 = .ok (.lconst 0, 1) := by decide +kernel
theorem dX9_clear_2 : decode cX9_clear 2 = .ok (.putfield 9, 3) := by decide +kernel
theorem dX9_clear_5 : decode cX9_clear 5 = .ok (.aload_n 0, 1) := by decide +kernel
theorem dX9_clear_6 : decode cX9_clear 6 = .ok (.iconst 0, 1) := by decide +kernel
theorem dX9_clear_7 : decode cX9_clear 7 = .ok (.putfield 15, 3) := by decide +kernel
theorem dX9_clear_10 : decode cX9_clear 10 = .ok (.aload_n 0, 1) := by decide +kernel
theorem dX9_clear_11 : decode cX9_clear 11 = .ok (.iconst 0, 1) := by decide +kernel
theorem dX9_clear_12 : decode cX9_clear 12 = .ok (.putfield 19, 3) := by decide +kernel
theorem dX9_clear_15 : decode cX9_clear 15 = .ok (.aload_n 0, 1) := by decide +kernel
theorem dX9_clear_16 : decode cX9_clear 16 = .ok (.iconst 0, 1) := by decide +kernel
theorem dX9_clear_17 : decode cX9_clear 17 = .ok (.putfield 22, 3) := by decide +kernel
theorem dX9_clear_20 : decode cX9_clear 20 = .ok (.aload_n 0, 1) := by decide +kernel
theorem dX9_clear_21 : decode cX9_clear 21 = .ok (.iconst 0, 1) := by decide +kernel
theorem dX9_clear_22 : decode cX9_clear 22 = .ok (.putfield 25, 3) := by decide +kernel
theorem dX9_clear_25 : decode cX9_clear 25 = .ok (.aload_n 0, 1) := by decide +kernel
theorem dX9_clear_26 : decode cX9_clear 26 = .ok (.iconst 0, 1) := by decide +kernel
theorem dX9_clear_27 : decode cX9_clear 27 = .ok (.putfield 28, 3) := by decide +kernel
theorem dX9_clear_30 : decode cX9_clear 30 = .ok (.aload_n 0, 1) := by decide +kernel
theorem dX9_clear_31 : decode cX9_clear 31 = .ok (.iconst 0, 1) := by decide +kernel
theorem dX9_clear_32 : decode cX9_clear 32 = .ok (.putfield 31, 3) := by decide +kernel
theorem dX9_clear_35 : decode cX9_clear 35 = .ok (.aload_n 0, 1) := by decide +kernel
theorem dX9_clear_36 : decode cX9_clear 36 = .ok (.lconst 0, 1) := by decide +kernel
theorem dX9_clear_37 : decode cX9_clear 37 = .ok (.putfield 34, 3) := by decide +kernel
theorem dX9_clear_40 : decode cX9_clear 40 = .ok (.aload_n 0, 1) := by decide +kernel
theorem dX9_clear_41 : decode cX9_clear 41 = .ok (.iconst 0, 1) := by decide +kernel
theorem dX9_clear_42 : decode cX9_clear 42 = .ok (.putfield 37, 3) := by decide +kernel
theorem dX9_clear_45 : decode cX9_clear 45 = .ok (.aload_n 0, 1) := by decide +kernel
theorem dX9_clear_46 : decode cX9_clear 46 = .ok (.iconst 0, 1) := by decide +kernel
theorem dX9_clear_47 : decode cX9_clear 47 = .ok (.putfield 40, 3) := by decide +kernel
theorem dX9_clear_50 : decode cX9_clear 50 = .ok (.aload_n 0, 1) := by decide +kernel
theorem dX9_clear_51 : decode cX9_clear 51 = .ok (.iconst 0, 1) := by decide +kernel
theorem dX9_clear_52 : decode cX9_clear 52 = .ok (.putfield 43, 3) := by decide +kernel
theorem dX9_clear_55 : decode cX9_clear 55 = .ok (.aload_n 0, 1) := by decide +kernel
theorem dX9_clear_56 : decode cX9_clear 56 = .ok (.iconst 0, 1) := by decide +kernel
theorem dX9_clear_57 : decode cX9_clear 57 = .ok (.putfield 46, 3) := by decide +kernel
theorem dX9_clear_60 : decode cX9_clear 60 = .ok (.aload_n 0, 1) := by decide +kernel
theorem dX9_clear_61 : decode cX9_clear 61 = .ok (.iconst 0, 1) := by decide +kernel
theorem dX9_clear_62 : decode cX9_clear 62 = .ok (.putfield 49, 3) := by decide +kernel
theorem dX9_clear_65 : decode cX9_clear 65 = .ok (.return_, 1) := by decide +kernel
theorem dX10_init_0 : decode cX10_init 0 = .ok (.aload_n 0, 1) := by decide +kernel
theorem dX10_init_1 : decode cX10_init 1 = .ok (.invokespecial 3, 3) := by decide +kernel
theorem dX10_init_4 : decode cX10_init 4 = .ok (.aload_n 0, 1) := by decide +kernel
theorem dX10_init_5 : decode cX10_init 5 = .ok (.bipush 48, 2) := by decide +kernel
theorem dX10_init_7 : decode cX10_init 7 = .ok (.newarray .char, 2) := by decide +kernel
theorem dX10_init_9 : decode cX10_init 9 = .ok (.putfield 9, 3) := by decide +kernel
theorem dX10_init_12 : decode cX10_init 12 = .ok (.return_, 1) := by decide +kernel
theorem dX10_charactersIn_0 : decode cX10_charactersIn 0 = .ok (.iconst 0, 1) := by decide +kernel
theorem dX10_charactersIn_1 : decode cX10_charactersIn 1 = .ok (.istore_n 1, 1) := by decide +kernel
theorem dX10_charactersIn_2 : decode cX10_charactersIn 2 = .ok (.bipush 24, 2) := by decide +kernel
theorem dX10_charactersIn_4 : decode cX10_charactersIn 4 = .ok (.istore_n 2, 1) := by decide +kernel
theorem dX10_charactersIn_5 : decode cX10_charactersIn 5 = .ok (.iload_n 2, 1) := by decide +kernel
theorem dX10_charactersIn_6 : decode cX10_charactersIn 6 = .ok (.ifCond .lt 27, 3) := by decide +kernel
theorem dX10_charactersIn_9 : decode cX10_charactersIn 9 = .ok (.iload_n 1, 1) := by decide +kernel
theorem dX10_charactersIn_10 : decode cX10_charactersIn 10 = .ok (.iload_n 0, 1) := by decide +kernel
theorem dX10_charactersIn_11 : decode cX10_charactersIn 11 = .ok (.iload_n 2, 1) := by decide +kernel
theorem dX10_charactersIn_12 : decode cX10_charactersIn 12 = .ok (.iushr, 1) := by decide +kernel
theorem dX10_charactersIn_13 : decode cX10_charactersIn 13 = .ok (.sipush 255, 3) := by decide +kernel
theorem dX10_charactersIn_16 : decode cX10_charactersIn 16 = .ok (.iand, 1) := by decide +kernel
theorem dX10_charactersIn_17 : decode cX10_charactersIn 17 = .ok (.ifCond .eq 7, 3) := by decide +kernel
theorem dX10_charactersIn_20 : decode cX10_charactersIn 20 = .ok (.iconst 1, 1) := by decide +kernel
theorem dX10_charactersIn_21 : decode cX10_charactersIn 21 = .ok (.goto 4, 3) := by decide +kernel
theorem dX10_charactersIn_24 : decode cX10_charactersIn 24 = .ok (.iconst 0, 1) := by decide +kernel
theorem dX10_charactersIn_25 : decode cX10_charactersIn 25 = .ok (.iadd, 1) := by decide +kernel
theorem dX10_charactersIn_26 : decode cX10_charactersIn 26 = .ok (.istore_n 1, 1) := by decide +kernel
theorem dX10_charactersIn_27 : decode cX10_charactersIn 27 = .ok (.iinc 2 (-8), 3) := by decide +kernel
theorem dX10_charactersIn_30 : decode cX10_charactersIn 30 = .ok (.goto (-25), 3) := by decide +kernel
theorem dX10_charactersIn_33 : decode cX10_charactersIn 33 = .ok (.iload_n 1, 1) := by decide +kernel
theorem dX10_charactersIn_34 : decode cX10_charactersIn 34 = .ok (.ireturn, 1) := by decide +kernel
theorem dX10_appendFour_0 : decode cX10_appendFour 0 = .ok (.bipush 24, 2) := by decide +kernel
theorem dX10_appendFour_2 : decode cX10_appendFour 2 = .ok (.istore_n 2, 1) := by decide +kernel
theorem dX10_appendFour_3 : decode cX10_appendFour 3 = .ok (.iload_n 2, 1) := by decide +kernel
theorem dX10_appendFour_4 : decode cX10_appendFour 4 = .ok (.ifCond .lt 51, 3) := by decide +kernel
theorem dX10_appendFour_7 : decode cX10_appendFour 7 = .ok (.iload_n 1, 1) := by decide +kernel
theorem dX10_appendFour_8 : decode cX10_appendFour 8 = .ok (.iload_n 2, 1) := by decide +kernel
theorem dX10_appendFour_9 : decode cX10_appendFour 9 = .ok (.iushr, 1) := by decide +kernel
theorem dX10_appendFour_10 : decode cX10_appendFour 10 = .ok (.sipush 255, 3) := by decide +kernel
theorem dX10_appendFour_13 : decode cX10_appendFour 13 = .ok (.iand, 1) := by decide +kernel
theorem dX10_appendFour_14 : decode cX10_appendFour 14 = .ok (.istore_n 3, 1) := by decide +kernel
theorem dX10_appendFour_15 : decode cX10_appendFour 15 = .ok (.iload_n 3, 1) := by decide +kernel
theorem dX10_appendFour_16 : decode cX10_appendFour 16 = .ok (.ifCond .eq 33, 3) := by decide +kernel
theorem dX10_appendFour_19 : decode cX10_appendFour 19 = .ok (.aload_n 0, 1) := by decide +kernel
theorem dX10_appendFour_20 : decode cX10_appendFour 20 = .ok (.getfield 15, 3) := by decide +kernel
theorem dX10_appendFour_23 : decode cX10_appendFour 23 = .ok (.bipush 48, 2) := by decide +kernel
theorem dX10_appendFour_25 : decode cX10_appendFour 25 = .ok (.if_icmp .ge 24, 3) := by decide +kernel
theorem dX10_appendFour_28 : decode cX10_appendFour 28 = .ok (.aload_n 0, 1) := by decide +kernel
theorem dX10_appendFour_29 : decode cX10_appendFour 29 = .ok (.getfield 9, 3) := by decide +kernel
theorem dX10_appendFour_32 : decode cX10_appendFour 32 = .ok (.aload_n 0, 1) := by decide +kernel
theorem dX10_appendFour_33 : decode cX10_appendFour 33 = .ok (.getfield 15, 3) := by decide +kernel
theorem dX10_appendFour_36 : decode cX10_appendFour 36 = .ok (.iload_n 3, 1) := by decide +kernel
theorem dX10_appendFour_37 : decode cX10_appendFour 37 = .ok (.i2c, 1) := by decide +kernel
theorem dX10_appendFour_38 : decode cX10_appendFour 38 = .ok (.castore, 1) := by decide +kernel
theorem dX10_appendFour_39 : decode cX10_appendFour 39 = .ok (.aload_n 0, 1) := by decide +kernel
theorem dX10_appendFour_40 : decode cX10_appendFour 40 = .ok (.dup, 1) := by decide +kernel
theorem dX10_appendFour_41 : decode cX10_appendFour 41 = .ok (.getfield 15, 3) := by decide +kernel
theorem dX10_appendFour_44 : decode cX10_appendFour 44 = .ok (.iconst 1, 1) := by decide +kernel
theorem dX10_appendFour_45 : decode cX10_appendFour 45 = .ok (.iadd, 1) := by decide +kernel
theorem dX10_appendFour_46 : decode cX10_appendFour 46 = .ok (.putfield 15, 3) := by decide +kernel
theorem dX10_appendFour_49 : decode cX10_appendFour 49 = .ok (.iinc 2 (-8), 3) := by decide +kernel
theorem dX10_appendFour_52 : decode cX10_appendFour 52 = .ok (.goto (-49), 3) := by decide +kernel
theorem dX10_appendFour_55 : decode cX10_appendFour 55 = .ok (.return_, 1) := by decide +kernel
theorem dX10_nameBetween_0 : decode cX10_nameBetween 0 = .ok (.iload_n 1, 1) := by decide +kernel
theorem dX10_nameBetween_1 : decode cX10_nameBetween 1 = .ok (.ifCond .lt 36, 3) := by decide +kernel
theorem dX10_nameBetween_4 : decode cX10_nameBetween 4 = .ok (.iload_n 2, 1) := by decide +kernel
theorem dX10_nameBetween_5 : decode cX10_nameBetween 5 = .ok (.aload_n 0, 1) := by decide +kernel
theorem dX10_nameBetween_6 : decode cX10_nameBetween 6 = .ok (.getfield 15, 3) := by decide +kernel
theorem dX10_nameBetween_9 : decode cX10_nameBetween 9 = .ok (.if_icmp .gt 28, 3) := by decide +kernel
theorem dX10_nameBetween_12 : decode cX10_nameBetween 12 = .ok (.iload_n 2, 1) := by decide +kernel
theorem dX10_nameBetween_13 : decode cX10_nameBetween 13 = .ok (.iload_n 1, 1) := by decide +kernel
theorem dX10_nameBetween_14 : decode cX10_nameBetween 14 = .ok (.if_icmp .le 23, 3) := by decide +kernel
theorem dX10_nameBetween_17 : decode cX10_nameBetween 17 = .ok (.iload_n 2, 1) := by decide +kernel
theorem dX10_nameBetween_18 : decode cX10_nameBetween 18 = .ok (.iload_n 1, 1) := by decide +kernel
theorem dX10_nameBetween_19 : decode cX10_nameBetween 19 = .ok (.isub, 1) := by decide +kernel
theorem dX10_nameBetween_20 : decode cX10_nameBetween 20 = .ok (.bipush 6, 2) := by decide +kernel
theorem dX10_nameBetween_22 : decode cX10_nameBetween 22 = .ok (.if_icmp .gt 15, 3) := by decide +kernel
theorem dX10_nameBetween_25 : decode cX10_nameBetween 25 = .ok (.aload_n 0, 1) := by decide +kernel
theorem dX10_nameBetween_26 : decode cX10_nameBetween 26 = .ok (.getfield 9, 3) := by decide +kernel
theorem dX10_nameBetween_29 : decode cX10_nameBetween 29 = .ok (.iload_n 1, 1) := by decide +kernel
theorem dX10_nameBetween_30 : decode cX10_nameBetween 30 = .ok (.caload, 1) := by decide +kernel
theorem dX10_nameBetween_31 : decode cX10_nameBetween 31 = .ok (.invokestatic 19, 3) := by decide +kernel
theorem dX10_nameBetween_34 : decode cX10_nameBetween 34 = .ok (.ifCond .ne 5, 3) := by decide +kernel
theorem dX10_nameBetween_37 : decode cX10_nameBetween 37 = .ok (.lconst 0, 1) := by decide +kernel
theorem dX10_nameBetween_38 : decode cX10_nameBetween 38 = .ok (.lreturn, 1) := by decide +kernel
theorem dX10_nameBetween_39 : decode cX10_nameBetween 39 = .ok (.lconst 0, 1) := by decide +kernel
theorem dX10_nameBetween_40 : decode cX10_nameBetween 40 = .ok (.lstore_n 3, 1) := by decide +kernel
theorem dX10_nameBetween_41 : decode cX10_nameBetween 41 = .ok (.iload_n 1, 1) := by decide +kernel
theorem dX10_nameBetween_42 : decode cX10_nameBetween 42 = .ok (.istore 5, 2) := by decide +kernel
theorem dX10_nameBetween_44 : decode cX10_nameBetween 44 = .ok (.iload 5, 2) := by decide +kernel
theorem dX10_nameBetween_46 : decode cX10_nameBetween 46 = .ok (.iload_n 2, 1) := by decide +kernel
theorem dX10_nameBetween_47 : decode cX10_nameBetween 47 = .ok (.if_icmp .ge 51, 3) := by decide +kernel
theorem dX10_nameBetween_50 : decode cX10_nameBetween 50 = .ok (.aload_n 0, 1) := by decide +kernel
theorem dX10_nameBetween_51 : decode cX10_nameBetween 51 = .ok (.getfield 9, 3) := by decide +kernel
theorem dX10_nameBetween_54 : decode cX10_nameBetween 54 = .ok (.iload 5, 2) := by decide +kernel
theorem dX10_nameBetween_56 : decode cX10_nameBetween 56 = .ok (.caload, 1) := by decide +kernel
theorem dX10_nameBetween_57 : decode cX10_nameBetween 57 = .ok (.invokestatic 19, 3) := by decide +kernel
theorem dX10_nameBetween_60 : decode cX10_nameBetween 60 = .ok (.ifCond .ne 18, 3) := by decide +kernel
theorem dX10_nameBetween_63 : decode cX10_nameBetween 63 = .ok (.aload_n 0, 1) := by decide +kernel
theorem dX10_nameBetween_64 : decode cX10_nameBetween 64 = .ok (.getfield 9, 3) := by decide +kernel
theorem dX10_nameBetween_67 : decode cX10_nameBetween 67 = .ok (.iload 5, 2) := by decide +kernel
theorem dX10_nameBetween_69 : decode cX10_nameBetween 69 = .ok (.caload, 1) := by decide +kernel
theorem dX10_nameBetween_70 : decode cX10_nameBetween 70 = .ok (.invokestatic 23, 3) := by decide +kernel
theorem dX10_nameBetween_73 : decode cX10_nameBetween 73 = .ok (.ifCond .ne 5, 3) := by decide +kernel
theorem dX10_nameBetween_76 : decode cX10_nameBetween 76 = .ok (.lconst 0, 1) := by decide +kernel
theorem dX10_nameBetween_77 : decode cX10_nameBetween 77 = .ok (.lreturn, 1) := by decide +kernel
theorem dX10_nameBetween_78 : decode cX10_nameBetween 78 = .ok (.lload_n 3, 1) := by decide +kernel
theorem dX10_nameBetween_79 : decode cX10_nameBetween 79 = .ok (.bipush 8, 2) := by decide +kernel
theorem dX10_nameBetween_81 : decode cX10_nameBetween 81 = .ok (.lshl, 1) := by decide +kernel
theorem dX10_nameBetween_82 : decode cX10_nameBetween 82 = .ok (.aload_n 0, 1) := by decide +kernel
theorem dX10_nameBetween_83 : decode cX10_nameBetween 83 = .ok (.getfield 9, 3) := by decide +kernel
theorem dX10_nameBetween_86 : decode cX10_nameBetween 86 = .ok (.iload 5, 2) := by decide +kernel
theorem dX10_nameBetween_88 : decode cX10_nameBetween 88 = .ok (.caload, 1) := by decide +kernel
theorem dX10_nameBetween_89 : decode cX10_nameBetween 89 = .ok (.i2l, 1) := by decide +kernel
theorem dX10_nameBetween_90 : decode cX10_nameBetween 90 = .ok (.lor, 1) := by decide +kernel
theorem dX10_nameBetween_91 : decode cX10_nameBetween 91 = .ok (.lstore_n 3, 1) := by decide +kernel
theorem dX10_nameBetween_92 : decode cX10_nameBetween 92 = .ok (.iinc 5 1, 3) := by decide +kernel
theorem dX10_nameBetween_95 : decode cX10_nameBetween 95 = .ok (.goto (-51), 3) := by decide +kernel
theorem dX10_nameBetween_98 : decode cX10_nameBetween 98 = .ok (.lload_n 3, 1) := by decide +kernel
theorem dX10_nameBetween_99 : decode cX10_nameBetween 99 = .ok (.lreturn, 1) := by decide +kernel
theorem dX11_init_0 : decode cX11_init 0 = .ok (.aload_n 0, 1) := by decide +kernel
theorem dX11_init_1 : decode cX11_init 1 = .ok (.invokespecial 1, 3) := by decide +kernel
theorem dX11_init_4 : decode cX11_init 4 = .ok (.aload_n 0, 1) := by decide +kernel
theorem dX11_init_5 : decode cX11_init 5 = .ok (.new 7, 3) := by decide +kernel
theorem dX11_init_8 : decode cX11_init 8 = .ok (.dup, 1) := by decide +kernel
theorem dX11_init_9 : decode cX11_init 9 = .ok (.invokespecial 9, 3) := by decide +kernel
theorem dX11_init_12 : decode cX11_init 12 = .ok (.putfield 10, 3) := by decide +kernel
theorem dX11_init_15 : decode cX11_init 15 = .ok (.aload_n 0, 1) := by decide +kernel
theorem dX11_init_16 : decode cX11_init 16 = .ok (.iconst 4, 1) := by decide +kernel
theorem dX11_init_17 : decode cX11_init 17 = .ok (.anewarray 16, 3) := by decide +kernel
theorem dX11_init_20 : decode cX11_init 20 = .ok (.putfield 18, 3) := by decide +kernel
theorem dX11_init_23 : decode cX11_init 23 = .ok (.iconst 0, 1) := by decide +kernel
theorem dX11_init_24 : decode cX11_init 24 = .ok (.istore_n 1, 1) := by decide +kernel
theorem dX11_init_25 : decode cX11_init 25 = .ok (.iload_n 1, 1) := by decide +kernel
theorem dX11_init_26 : decode cX11_init 26 = .ok (.iconst 4, 1) := by decide +kernel
theorem dX11_init_27 : decode cX11_init 27 = .ok (.if_icmp .ge 22, 3) := by decide +kernel
theorem dX11_init_30 : decode cX11_init 30 = .ok (.aload_n 0, 1) := by decide +kernel
theorem dX11_init_31 : decode cX11_init 31 = .ok (.getfield 18, 3) := by decide +kernel
theorem dX11_init_34 : decode cX11_init 34 = .ok (.iload_n 1, 1) := by decide +kernel
theorem dX11_init_35 : decode cX11_init 35 = .ok (.new 16, 3) := by decide +kernel
theorem dX11_init_38 : decode cX11_init 38 = .ok (.dup, 1) := by decide +kernel
theorem dX11_init_39 : decode cX11_init 39 = .ok (.invokespecial 22, 3) := by decide +kernel
theorem dX11_init_42 : decode cX11_init 42 = .ok (.aastore, 1) := by decide +kernel
theorem dX11_init_43 : decode cX11_init 43 = .ok (.iinc 1 1, 3) := by decide +kernel
theorem dX11_init_46 : decode cX11_init 46 = .ok (.goto (-21), 3) := by decide +kernel
theorem dX11_init_49 : decode cX11_init 49 = .ok (.aload_n 0, 1) := by decide +kernel
theorem dX11_init_50 : decode cX11_init 50 = .ok (.new 23, 3) := by decide +kernel
theorem dX11_init_53 : decode cX11_init 53 = .ok (.dup, 1) := by decide +kernel
theorem dX11_init_54 : decode cX11_init 54 = .ok (.invokespecial 25, 3) := by decide +kernel
theorem dX11_init_57 : decode cX11_init 57 = .ok (.putfield 26, 3) := by decide +kernel
theorem dX11_init_60 : decode cX11_init 60 = .ok (.aload_n 0, 1) := by decide +kernel
theorem dX11_init_61 : decode cX11_init 61 = .ok (.new 30, 3) := by decide +kernel
theorem dX11_init_64 : decode cX11_init 64 = .ok (.dup, 1) := by decide +kernel
theorem dX11_init_65 : decode cX11_init 65 = .ok (.invokespecial 32, 3) := by decide +kernel
theorem dX11_init_68 : decode cX11_init 68 = .ok (.putfield 33, 3) := by decide +kernel
theorem dX11_init_71 : decode cX11_init 71 = .ok (.aload_n 0, 1) := by decide +kernel
theorem dX11_init_72 : decode cX11_init 72 = .ok (.new 37, 3) := by decide +kernel
theorem dX11_init_75 : decode cX11_init 75 = .ok (.dup, 1) := by decide +kernel
theorem dX11_init_76 : decode cX11_init 76 = .ok (.invokespecial 39, 3) := by decide +kernel
theorem dX11_init_79 : decode cX11_init 79 = .ok (.putfield 40, 3) := by decide +kernel
theorem dX11_init_82 : decode cX11_init 82 = .ok (.aload_n 0, 1) := by decide +kernel
theorem dX11_init_83 : decode cX11_init 83 = .ok (.new 37, 3) := by decide +kernel
theorem dX11_init_86 : decode cX11_init 86 = .ok (.dup, 1) := by decide +kernel
theorem dX11_init_87 : decode cX11_init 87 = .ok (.invokespecial 39, 3) := by decide +kernel
theorem dX11_init_90 : decode cX11_init 90 = .ok (.putfield 44, 3) := by decide +kernel
theorem dX11_init_93 : decode cX11_init 93 = .ok (.return_, 1) := by decide +kernel
theorem dX11_type_0 : decode cX11_type 0 = .ok (.iload_n 1, 1) := by decide +kernel
theorem dX11_type_1 : decode cX11_type 1 = .ok (.invokestatic 47, 3) := by decide +kernel
theorem dX11_type_4 : decode cX11_type 4 = .ok (.iload_n 2, 1) := by decide +kernel
theorem dX11_type_5 : decode cX11_type 5 = .ok (.invokestatic 47, 3) := by decide +kernel
theorem dX11_type_8 : decode cX11_type 8 = .ok (.iadd, 1) := by decide +kernel
theorem dX11_type_9 : decode cX11_type 9 = .ok (.iload_n 3, 1) := by decide +kernel
theorem dX11_type_10 : decode cX11_type 10 = .ok (.invokestatic 47, 3) := by decide +kernel
theorem dX11_type_13 : decode cX11_type 13 = .ok (.iadd, 1) := by decide +kernel
theorem dX11_type_14 : decode cX11_type 14 = .ok (.iload 4, 2) := by decide +kernel
theorem dX11_type_16 : decode cX11_type 16 = .ok (.invokestatic 47, 3) := by decide +kernel
theorem dX11_type_19 : decode cX11_type 19 = .ok (.iadd, 1) := by decide +kernel
theorem dX11_type_20 : decode cX11_type 20 = .ok (.istore 5, 2) := by decide +kernel
theorem dX11_type_22 : decode cX11_type 22 = .ok (.aload_n 0, 1) := by decide +kernel
theorem dX11_type_23 : decode cX11_type 23 = .ok (.getfield 10, 3) := by decide +kernel
theorem dX11_type_26 : decode cX11_type 26 = .ok (.getfield 51, 3) := by decide +kernel
theorem dX11_type_29 : decode cX11_type 29 = .ok (.iload 5, 2) := by decide +kernel
theorem dX11_type_31 : decode cX11_type 31 = .ok (.iadd, 1) := by decide +kernel
theorem dX11_type_32 : decode cX11_type 32 = .ok (.bipush 48, 2) := by decide +kernel
theorem dX11_type_34 : decode cX11_type 34 = .ok (.if_icmp .le 13, 3) := by decide +kernel
theorem dX11_type_37 : decode cX11_type 37 = .ok (.new 55, 3) := by decide +kernel
theorem dX11_type_40 : decode cX11_type 40 = .ok (.dup, 1) := by decide +kernel
theorem dX11_type_41 : decode cX11_type 41 = .ok (.ldc 57, 2) := by decide +kernel
theorem dX11_type_43 : decode cX11_type 43 = .ok (.invokespecial 59, 3) := by decide +kernel
theorem dX11_type_46 : decode cX11_type 46 = .ok (.athrow, 1) := by decide +kernel
theorem dX11_type_47 : decode cX11_type 47 = .ok (.aload_n 0, 1) := by decide +kernel
theorem dX11_type_48 : decode cX11_type 48 = .ok (.getfield 10, 3) := by decide +kernel
theorem dX11_type_51 : decode cX11_type 51 = .ok (.iload_n 1, 1) := by decide +kernel
theorem dX11_type_52 : decode cX11_type 52 = .ok (.invokevirtual 62, 3) := by decide +kernel
theorem dX11_type_55 : decode cX11_type 55 = .ok (.aload_n 0, 1) := by decide +kernel
theorem dX11_type_56 : decode cX11_type 56 = .ok (.getfield 10, 3) := by decide +kernel
theorem dX11_type_59 : decode cX11_type 59 = .ok (.iload_n 2, 1) := by decide +kernel
theorem dX11_type_60 : decode cX11_type 60 = .ok (.invokevirtual 62, 3) := by decide +kernel
theorem dX11_type_63 : decode cX11_type 63 = .ok (.aload_n 0, 1) := by decide +kernel
theorem dX11_type_64 : decode cX11_type 64 = .ok (.getfield 10, 3) := by decide +kernel
theorem dX11_type_67 : decode cX11_type 67 = .ok (.iload_n 3, 1) := by decide +kernel
theorem dX11_type_68 : decode cX11_type 68 = .ok (.invokevirtual 62, 3) := by decide +kernel
theorem dX11_type_71 : decode cX11_type 71 = .ok (.aload_n 0, 1) := by decide +kernel
theorem dX11_type_72 : decode cX11_type 72 = .ok (.getfield 10, 3) := by decide +kernel
theorem dX11_type_75 : decode cX11_type 75 = .ok (.iload 4, 2) := by decide +kernel
theorem dX11_type_77 : decode cX11_type 77 = .ok (.invokevirtual 62, 3) := by decide +kernel
theorem dX11_type_80 : decode cX11_type 80 = .ok (.aload_n 0, 1) := by decide +kernel
theorem dX11_type_81 : decode cX11_type 81 = .ok (.getfield 10, 3) := by decide +kernel
theorem dX11_type_84 : decode cX11_type 84 = .ok (.getfield 51, 3) := by decide +kernel
theorem dX11_type_87 : decode cX11_type 87 = .ok (.ireturn, 1) := by decide +kernel
theorem dX11_erase_0 : decode cX11_erase 0 = .ok (.aload_n 0, 1) := by decide +kernel
theorem dX11_erase_1 : decode cX11_erase 1 = .ok (.getfield 10, 3) := by decide +kernel
theorem dX11_erase_4 : decode cX11_erase 4 = .ok (.getfield 51, 3) := by decide +kernel
theorem dX11_erase_7 : decode cX11_erase 7 = .ok (.istore_n 1, 1) := by decide +kernel
theorem dX11_erase_8 : decode cX11_erase 8 = .ok (.aload_n 0, 1) := by decide +kernel
theorem dX11_erase_9 : decode cX11_erase 9 = .ok (.getfield 10, 3) := by decide +kernel
theorem dX11_erase_12 : decode cX11_erase 12 = .ok (.iconst 0, 1) := by decide +kernel
theorem dX11_erase_13 : decode cX11_erase 13 = .ok (.putfield 51, 3) := by decide +kernel
theorem dX11_erase_16 : decode cX11_erase 16 = .ok (.iload_n 1, 1) := by decide +kernel
theorem dX11_erase_17 : decode cX11_erase 17 = .ok (.ireturn, 1) := by decide +kernel
theorem dX11_add_0 : decode cX11_add 0 = .ok (.iload_n 1, 1) := by decide +kernel
theorem dX11_add_1 : decode cX11_add 1 = .ok (.invokestatic 66, 3) := by decide +kernel
theorem dX11_add_4 : decode cX11_add 4 = .ok (.ifCond .ne 13, 3) := by decide +kernel
theorem dX11_add_7 : decode cX11_add 7 = .ok (.new 70, 3) := by decide +kernel
theorem dX11_add_10 : decode cX11_add 10 = .ok (.dup, 1) := by decide +kernel
theorem dX11_add_11 : decode cX11_add 11 = .ok (.ldc 72, 2) := by decide +kernel
theorem dX11_add_13 : decode cX11_add 13 = .ok (.invokespecial 74, 3) := by decide +kernel
theorem dX11_add_16 : decode cX11_add 16 = .ok (.athrow, 1) := by decide +kernel
theorem dX11_add_17 : decode cX11_add 17 = .ok (.aload_n 0, 1) := by decide +kernel
theorem dX11_add_18 : decode cX11_add 18 = .ok (.getfield 18, 3) := by decide +kernel
theorem dX11_add_21 : decode cX11_add 21 = .ok (.iload_n 1, 1) := by decide +kernel
theorem dX11_add_22 : decode cX11_add 22 = .ok (.aaload, 1) := by decide +kernel
theorem dX11_add_23 : decode cX11_add 23 = .ok (.astore_n 2, 1) := by decide +kernel
theorem dX11_add_24 : decode cX11_add 24 = .ok (.aload_n 2, 1) := by decide +kernel
theorem dX11_add_25 : decode cX11_add 25 = .ok (.getfield 75, 3) := by decide +kernel
theorem dX11_add_28 : decode cX11_add 28 = .ok (.bipush 24, 2) := by decide +kernel
theorem dX11_add_30 : decode cX11_add 30 = .ok (.if_icmp .lt 13, 3) := by decide +kernel
theorem dX11_add_33 : decode cX11_add 33 = .ok (.new 55, 3) := by decide +kernel
theorem dX11_add_36 : decode cX11_add 36 = .ok (.dup, 1) := by decide +kernel
theorem dX11_add_37 : decode cX11_add 37 = .ok (.ldc 78, 2) := by decide +kernel
theorem dX11_add_39 : decode cX11_add 39 = .ok (.invokespecial 59, 3) := by decide +kernel
theorem dX11_add_42 : decode cX11_add 42 = .ok (.athrow, 1) := by decide +kernel
theorem dX11_add_43 : decode cX11_add 43 = .ok (.aload_n 0, 1) := by decide +kernel
theorem dX11_add_44 : decode cX11_add 44 = .ok (.getfield 26, 3) := by decide +kernel
theorem dX11_add_47 : decode cX11_add 47 = .ok (.aload_n 0, 1) := by decide +kernel
theorem dX11_add_48 : decode cX11_add 48 = .ok (.getfield 10, 3) := by decide +kernel
theorem dX11_add_51 : decode cX11_add 51 = .ok (.aload_n 2, 1) := by decide +kernel
theorem dX11_add_52 : decode cX11_add 52 = .ok (.getfield 80, 3) := by decide +kernel
theorem dX11_add_55 : decode cX11_add 55 = .ok (.aload_n 2, 1) := by decide +kernel
theorem dX11_add_56 : decode cX11_add 56 = .ok (.getfield 75, 3) := by decide +kernel
theorem dX11_add_59 : decode cX11_add 59 = .ok (.aaload, 1) := by decide +kernel
theorem dX11_add_60 : decode cX11_add 60 = .ok (.invokevirtual 84, 3) := by decide +kernel
theorem dX11_add_63 : decode cX11_add 63 = .ok (.aload_n 2, 1) := by decide +kernel
theorem dX11_add_64 : decode cX11_add 64 = .ok (.dup, 1) := by decide +kernel
theorem dX11_add_65 : decode cX11_add 65 = .ok (.getfield 75, 3) := by decide +kernel
theorem dX11_add_68 : decode cX11_add 68 = .ok (.iconst 1, 1) := by decide +kernel
theorem dX11_add_69 : decode cX11_add 69 = .ok (.iadd, 1) := by decide +kernel
theorem dX11_add_70 : decode cX11_add 70 = .ok (.putfield 75, 3) := by decide +kernel
theorem dX11_add_73 : decode cX11_add 73 = .ok (.aload_n 0, 1) := by decide +kernel
theorem dX11_add_74 : decode cX11_add 74 = .ok (.getfield 10, 3) := by decide +kernel
theorem dX11_add_77 : decode cX11_add 77 = .ok (.iconst 0, 1) := by decide +kernel
theorem dX11_add_78 : decode cX11_add 78 = .ok (.putfield 51, 3) := by decide +kernel
theorem dX11_add_81 : decode cX11_add 81 = .ok (.aload_n 2, 1) := by decide +kernel
theorem dX11_add_82 : decode cX11_add 82 = .ok (.getfield 75, 3) := by decide +kernel
theorem dX11_add_85 : decode cX11_add 85 = .ok (.ireturn, 1) := by decide +kernel
theorem dX11_change_0 : decode cX11_change 0 = .ok (.iload_n 1, 1) := by decide +kernel
theorem dX11_change_1 : decode cX11_change 1 = .ok (.invokestatic 66, 3) := by decide +kernel
theorem dX11_change_4 : decode cX11_change 4 = .ok (.ifCond .ne 13, 3) := by decide +kernel
theorem dX11_change_7 : decode cX11_change 7 = .ok (.new 70, 3) := by decide +kernel
theorem dX11_change_10 : decode cX11_change 10 = .ok (.dup, 1) := by decide +kernel
theorem dX11_change_11 : decode cX11_change 11 = .ok (.ldc 72, 2) := by decide +kernel
theorem dX11_change_13 : decode cX11_change 13 = .ok (.invokespecial 74, 3) := by decide +kernel
theorem dX11_change_16 : decode cX11_change 16 = .ok (.athrow, 1) := by decide +kernel
theorem dX11_change_17 : decode cX11_change 17 = .ok (.aload_n 0, 1) := by decide +kernel
theorem dX11_change_18 : decode cX11_change 18 = .ok (.getfield 18, 3) := by decide +kernel
theorem dX11_change_21 : decode cX11_change 21 = .ok (.iload_n 1, 1) := by decide +kernel
theorem dX11_change_22 : decode cX11_change 22 = .ok (.aaload, 1) := by decide +kernel
theorem dX11_change_23 : decode cX11_change 23 = .ok (.astore_n 3, 1) := by decide +kernel
theorem dX11_change_24 : decode cX11_change 24 = .ok (.iload_n 2, 1) := by decide +kernel
theorem dX11_change_25 : decode cX11_change 25 = .ok (.ifCond .lt 11, 3) := by decide +kernel
theorem dX11_change_28 : decode cX11_change 28 = .ok (.iload_n 2, 1) := by decide +kernel
theorem dX11_change_29 : decode cX11_change 29 = .ok (.aload_n 3, 1) := by decide +kernel
theorem dX11_change_30 : decode cX11_change 30 = .ok (.getfield 75, 3) := by decide +kernel
theorem dX11_change_33 : decode cX11_change 33 = .ok (.if_icmp .lt 13, 3) := by decide +kernel
theorem dX11_change_36 : decode cX11_change 36 = .ok (.new 70, 3) := by decide +kernel
theorem dX11_change_39 : decode cX11_change 39 = .ok (.dup, 1) := by decide +kernel
theorem dX11_change_40 : decode cX11_change 40 = .ok (.ldc 88, 2) := by decide +kernel
theorem dX11_change_42 : decode cX11_change 42 = .ok (.invokespecial 74, 3) := by decide +kernel
theorem dX11_change_45 : decode cX11_change 45 = .ok (.athrow, 1) := by decide +kernel
theorem dX11_change_46 : decode cX11_change 46 = .ok (.aload_n 0, 1) := by decide +kernel
theorem dX11_change_47 : decode cX11_change 47 = .ok (.getfield 26, 3) := by decide +kernel
theorem dX11_change_50 : decode cX11_change 50 = .ok (.aload_n 0, 1) := by decide +kernel
theorem dX11_change_51 : decode cX11_change 51 = .ok (.getfield 10, 3) := by decide +kernel
theorem dX11_change_54 : decode cX11_change 54 = .ok (.aload_n 3, 1) := by decide +kernel
theorem dX11_change_55 : decode cX11_change 55 = .ok (.getfield 80, 3) := by decide +kernel
theorem dX11_change_58 : decode cX11_change 58 = .ok (.iload_n 2, 1) := by decide +kernel
theorem dX11_change_59 : decode cX11_change 59 = .ok (.aaload, 1) := by decide +kernel
theorem dX11_change_60 : decode cX11_change 60 = .ok (.invokevirtual 84, 3) := by decide +kernel
theorem dX11_change_63 : decode cX11_change 63 = .ok (.aload_n 0, 1) := by decide +kernel
theorem dX11_change_64 : decode cX11_change 64 = .ok (.getfield 10, 3) := by decide +kernel
theorem dX11_change_67 : decode cX11_change 67 = .ok (.iconst 0, 1) := by decide +kernel
theorem dX11_change_68 : decode cX11_change 68 = .ok (.putfield 51, 3) := by decide +kernel
theorem dX11_change_71 : decode cX11_change 71 = .ok (.return_, 1) := by decide +kernel
theorem dX11_drop_0 : decode cX11_drop 0 = .ok (.iload_n 1, 1) := by decide +kernel
theorem dX11_drop_1 : decode cX11_drop 1 = .ok (.invokestatic 66, 3) := by decide +kernel
theorem dX11_drop_4 : decode cX11_drop 4 = .ok (.ifCond .ne 13, 3) := by decide +kernel
theorem dX11_drop_7 : decode cX11_drop 7 = .ok (.new 70, 3) := by decide +kernel
theorem dX11_drop_10 : decode cX11_drop 10 = .ok (.dup, 1) := by decide +kernel
theorem dX11_drop_11 : decode cX11_drop 11 = .ok (.ldc 72, 2) := by decide +kernel
theorem dX11_drop_13 : decode cX11_drop 13 = .ok (.invokespecial 74, 3) := by decide +kernel
theorem dX11_drop_16 : decode cX11_drop 16 = .ok (.athrow, 1) := by decide +kernel
theorem dX11_drop_17 : decode cX11_drop 17 = .ok (.aload_n 0, 1) := by decide +kernel
theorem dX11_drop_18 : decode cX11_drop 18 = .ok (.getfield 18, 3) := by decide +kernel
theorem dX11_drop_21 : decode cX11_drop 21 = .ok (.iload_n 1, 1) := by decide +kernel
theorem dX11_drop_22 : decode cX11_drop 22 = .ok (.aaload, 1) := by decide +kernel
theorem dX11_drop_23 : decode cX11_drop 23 = .ok (.getfield 75, 3) := by decide +kernel
theorem dX11_drop_26 : decode cX11_drop 26 = .ok (.istore_n 2, 1) := by decide +kernel
theorem dX11_drop_27 : decode cX11_drop 27 = .ok (.aload_n 0, 1) := by decide +kernel
theorem dX11_drop_28 : decode cX11_drop 28 = .ok (.getfield 18, 3) := by decide +kernel
theorem dX11_drop_31 : decode cX11_drop 31 = .ok (.iload_n 1, 1) := by decide +kernel
theorem dX11_drop_32 : decode cX11_drop 32 = .ok (.aaload, 1) := by decide +kernel
theorem dX11_drop_33 : decode cX11_drop 33 = .ok (.iconst 0, 1) := by decide +kernel
theorem dX11_drop_34 : decode cX11_drop 34 = .ok (.putfield 75, 3) := by decide +kernel
theorem dX11_drop_37 : decode cX11_drop 37 = .ok (.iload_n 2, 1) := by decide +kernel
theorem dX11_drop_38 : decode cX11_drop 38 = .ok (.ireturn, 1) := by decide +kernel
theorem dX11_link_0 : decode cX11_link 0 = .ok (.aload_n 0, 1) := by decide +kernel
theorem dX11_link_1 : decode cX11_link 1 = .ok (.getfield 33, 3) := by decide +kernel
theorem dX11_link_4 : decode cX11_link 4 = .ok (.invokevirtual 90, 3) := by decide +kernel
theorem dX11_link_7 : decode cX11_link 7 = .ok (.aload_n 0, 1) := by decide +kernel
theorem dX11_link_8 : decode cX11_link 8 = .ok (.getfield 44, 3) := by decide +kernel
theorem dX11_link_11 : decode cX11_link 11 = .ok (.invokevirtual 93, 3) := by decide +kernel
theorem dX11_link_14 : decode cX11_link 14 = .ok (.aload_n 0, 1) := by decide +kernel
theorem dX11_link_15 : decode cX11_link 15 = .ok (.invokevirtual 96, 3) := by decide +kernel
theorem dX11_link_18 : decode cX11_link 18 = .ok (.ifCond .eq 31, 3) := by decide +kernel
theorem dX11_link_21 : decode cX11_link 21 = .ok (.aload_n 0, 1) := by decide +kernel
theorem dX11_link_22 : decode cX11_link 22 = .ok (.invokevirtual 100, 3) := by decide +kernel
theorem dX11_link_25 : decode cX11_link 25 = .ok (.ifCond .eq 24, 3) := by decide +kernel
theorem dX11_link_28 : decode cX11_link 28 = .ok (.aload_n 0, 1) := by decide +kernel
theorem dX11_link_29 : decode cX11_link 29 = .ok (.invokevirtual 103, 3) := by decide +kernel
theorem dX11_link_32 : decode cX11_link 32 = .ok (.ifCond .eq 17, 3) := by decide +kernel
theorem dX11_link_35 : decode cX11_link 35 = .ok (.aload_n 0, 1) := by decide +kernel
theorem dX11_link_36 : decode cX11_link 36 = .ok (.invokevirtual 106, 3) := by decide +kernel
theorem dX11_link_39 : decode cX11_link 39 = .ok (.ifCond .eq 10, 3) := by decide +kernel
theorem dX11_link_42 : decode cX11_link 42 = .ok (.aload_n 0, 1) := by decide +kernel
theorem dX11_link_43 : decode cX11_link 43 = .ok (.invokevirtual 109, 3) := by decide +kernel
theorem dX11_link_46 : decode cX11_link 46 = .ok (.ifCond .ne 11, 3) := by decide +kernel
theorem dX11_link_49 : decode cX11_link 49 = .ok (.aload_n 0, 1) := by decide +kernel
theorem dX11_link_50 : decode cX11_link 50 = .ok (.getfield 33, 3) := by decide +kernel
theorem dX11_link_53 : decode cX11_link 53 = .ok (.getfield 112, 3) := by decide +kernel
theorem dX11_link_56 : decode cX11_link 56 = .ok (.ireturn, 1) := by decide +kernel
theorem dX11_link_57 : decode cX11_link 57 = .ok (.aload_n 0, 1) := by decide +kernel
theorem dX11_link_58 : decode cX11_link 58 = .ok (.getfield 44, 3) := by decide +kernel
theorem dX11_link_61 : decode cX11_link 61 = .ok (.astore_n 1, 1) := by decide +kernel
theorem dX11_link_62 : decode cX11_link 62 = .ok (.aload_n 0, 1) := by decide +kernel
theorem dX11_link_63 : decode cX11_link 63 = .ok (.aload_n 0, 1) := by decide +kernel
theorem dX11_link_64 : decode cX11_link 64 = .ok (.getfield 40, 3) := by decide +kernel
theorem dX11_link_67 : decode cX11_link 67 = .ok (.putfield 44, 3) := by decide +kernel
theorem dX11_link_70 : decode cX11_link 70 = .ok (.aload_n 0, 1) := by decide +kernel
theorem dX11_link_71 : decode cX11_link 71 = .ok (.aload_n 1, 1) := by decide +kernel
theorem dX11_link_72 : decode cX11_link 72 = .ok (.putfield 40, 3) := by decide +kernel
theorem dX11_link_75 : decode cX11_link 75 = .ok (.aload_n 0, 1) := by decide +kernel
theorem dX11_link_76 : decode cX11_link 76 = .ok (.getfield 40, 3) := by decide +kernel
theorem dX11_link_79 : decode cX11_link 79 = .ok (.getfield 115, 3) := by decide +kernel
theorem dX11_link_82 : decode cX11_link 82 = .ok (.getfield 119, 3) := by decide +kernel
theorem dX11_link_85 : decode cX11_link 85 = .ok (.ireturn, 1) := by decide +kernel
theorem dX11_fault_0 : decode cX11_fault 0 = .ok (.iload_n 1, 1) := by decide +kernel
theorem dX11_fault_1 : decode cX11_fault 1 = .ok (.tableswitch 51 0 2 #[27, 35, 43], 27) := by decide +kernel
theorem dX11_fault_28 : decode cX11_fault 28 = .ok (.aload_n 0, 1) := by decide +kernel
theorem dX11_fault_29 : decode cX11_fault 29 = .ok (.getfield 33, 3) := by decide +kernel
theorem dX11_fault_32 : decode cX11_fault 32 = .ok (.getfield 122, 3) := by decide +kernel
theorem dX11_fault_35 : decode cX11_fault 35 = .ok (.ireturn, 1) := by decide +kernel
theorem dX11_fault_36 : decode cX11_fault 36 = .ok (.aload_n 0, 1) := by decide +kernel
theorem dX11_fault_37 : decode cX11_fault 37 = .ok (.getfield 33, 3) := by decide +kernel
theorem dX11_fault_40 : decode cX11_fault 40 = .ok (.getfield 125, 3) := by decide +kernel
theorem dX11_fault_43 : decode cX11_fault 43 = .ok (.ireturn, 1) := by decide +kernel
theorem dX11_fault_44 : decode cX11_fault 44 = .ok (.aload_n 0, 1) := by decide +kernel
theorem dX11_fault_45 : decode cX11_fault 45 = .ok (.getfield 33, 3) := by decide +kernel
theorem dX11_fault_48 : decode cX11_fault 48 = .ok (.getfield 128, 3) := by decide +kernel
theorem dX11_fault_51 : decode cX11_fault 51 = .ok (.ireturn, 1) := by decide +kernel
theorem dX11_fault_52 : decode cX11_fault 52 = .ok (.new 70, 3) := by decide +kernel
theorem dX11_fault_55 : decode cX11_fault 55 = .ok (.dup, 1) := by decide +kernel
theorem dX11_fault_56 : decode cX11_fault 56 = .ok (.ldc 131, 2) := by decide +kernel
theorem dX11_fault_58 : decode cX11_fault 58 = .ok (.invokespecial 74, 3) := by decide +kernel
theorem dX11_fault_61 : decode cX11_fault 61 = .ok (.athrow, 1) := by decide +kernel
theorem dX11_octet_0 : decode cX11_octet 0 = .ok (.aload_n 0, 1) := by decide +kernel
theorem dX11_octet_1 : decode cX11_octet 1 = .ok (.getfield 40, 3) := by decide +kernel
theorem dX11_octet_4 : decode cX11_octet 4 = .ok (.getfield 115, 3) := by decide +kernel
theorem dX11_octet_7 : decode cX11_octet 7 = .ok (.iload_n 1, 1) := by decide +kernel
theorem dX11_octet_8 : decode cX11_octet 8 = .ok (.invokevirtual 133, 3) := by decide +kernel
theorem dX11_octet_11 : decode cX11_octet 11 = .ok (.ireturn, 1) := by decide +kernel
theorem dX11_hex_0 : decode cX11_hex 0 = .ok (.aload_n 0, 1) := by decide +kernel
theorem dX11_hex_1 : decode cX11_hex 1 = .ok (.getfield 40, 3) := by decide +kernel
theorem dX11_hex_4 : decode cX11_hex 4 = .ok (.getfield 115, 3) := by decide +kernel
theorem dX11_hex_7 : decode cX11_hex 7 = .ok (.iload_n 1, 1) := by decide +kernel
theorem dX11_hex_8 : decode cX11_hex 8 = .ok (.invokevirtual 136, 3) := by decide +kernel
theorem dX11_hex_11 : decode cX11_hex 11 = .ok (.ireturn, 1) := by decide +kernel
theorem dX11_address_0 : decode cX11_address 0 = .ok (.iload_n 1, 1) := by decide +kernel
theorem dX11_address_1 : decode cX11_address 1 = .ok (.invokestatic 66, 3) := by decide +kernel
theorem dX11_address_4 : decode cX11_address 4 = .ok (.ifCond .ne 13, 3) := by decide +kernel
theorem dX11_address_7 : decode cX11_address 7 = .ok (.new 70, 3) := by decide +kernel
theorem dX11_address_10 : decode cX11_address 10 = .ok (.dup, 1) := by decide +kernel
theorem dX11_address_11 : decode cX11_address 11 = .ok (.ldc 72, 2) := by decide +kernel
theorem dX11_address_13 : decode cX11_address 13 = .ok (.invokespecial 74, 3) := by decide +kernel
theorem dX11_address_16 : decode cX11_address 16 = .ok (.athrow, 1) := by decide +kernel
theorem dX11_address_17 : decode cX11_address 17 = .ok (.aload_n 0, 1) := by decide +kernel
theorem dX11_address_18 : decode cX11_address 18 = .ok (.getfield 40, 3) := by decide +kernel
theorem dX11_address_21 : decode cX11_address 21 = .ok (.aload_n 0, 1) := by decide +kernel
theorem dX11_address_22 : decode cX11_address 22 = .ok (.getfield 40, 3) := by decide +kernel
theorem dX11_address_25 : decode cX11_address 25 = .ok (.getfield 140, 3) := by decide +kernel
theorem dX11_address_28 : decode cX11_address 28 = .ok (.iload_n 1, 1) := by decide +kernel
theorem dX11_address_29 : decode cX11_address 29 = .ok (.aload_n 0, 1) := by decide +kernel
theorem dX11_address_30 : decode cX11_address 30 = .ok (.getfield 10, 3) := by decide +kernel
theorem dX11_address_33 : decode cX11_address 33 = .ok (.iconst 0, 1) := by decide +kernel
theorem dX11_address_34 : decode cX11_address 34 = .ok (.aload_n 0, 1) := by decide +kernel
theorem dX11_address_35 : decode cX11_address 35 = .ok (.getfield 10, 3) := by decide +kernel
theorem dX11_address_38 : decode cX11_address 38 = .ok (.getfield 51, 3) := by decide +kernel
theorem dX11_address_41 : decode cX11_address 41 = .ok (.invokevirtual 144, 3) := by decide +kernel
theorem dX11_address_44 : decode cX11_address 44 = .ok (.invokevirtual 148, 3) := by decide +kernel
theorem dX11_address_47 : decode cX11_address 47 = .ok (.invokevirtual 154, 3) := by decide +kernel
theorem dX11_address_50 : decode cX11_address 50 = .ok (.ireturn, 1) := by decide +kernel
theorem dX11_size_0 : decode cX11_size 0 = .ok (.iload_n 1, 1) := by decide +kernel
theorem dX11_size_1 : decode cX11_size 1 = .ok (.invokestatic 66, 3) := by decide +kernel
theorem dX11_size_4 : decode cX11_size 4 = .ok (.ifCond .eq 12, 3) := by decide +kernel
theorem dX11_size_7 : decode cX11_size 7 = .ok (.iload_n 2, 1) := by decide +kernel
theorem dX11_size_8 : decode cX11_size 8 = .ok (.ifCond .lt 8, 3) := by decide +kernel
theorem dX11_size_11 : decode cX11_size 11 = .ok (.iload_n 2, 1) := by decide +kernel
theorem dX11_size_12 : decode cX11_size 12 = .ok (.iconst 2, 1) := by decide +kernel
theorem dX11_size_13 : decode cX11_size 13 = .ok (.if_icmp .le 13, 3) := by decide +kernel
theorem dX11_size_16 : decode cX11_size 16 = .ok (.new 70, 3) := by decide +kernel
theorem dX11_size_19 : decode cX11_size 19 = .ok (.dup, 1) := by decide +kernel
theorem dX11_size_20 : decode cX11_size 20 = .ok (.ldc 157, 2) := by decide +kernel
theorem dX11_size_22 : decode cX11_size 22 = .ok (.invokespecial 74, 3) := by decide +kernel
theorem dX11_size_25 : decode cX11_size 25 = .ok (.athrow, 1) := by decide +kernel
theorem dX11_size_26 : decode cX11_size 26 = .ok (.aload_n 0, 1) := by decide +kernel
theorem dX11_size_27 : decode cX11_size 27 = .ok (.getfield 40, 3) := by decide +kernel
theorem dX11_size_30 : decode cX11_size 30 = .ok (.getfield 159, 3) := by decide +kernel
theorem dX11_size_33 : decode cX11_size 33 = .ok (.getfield 163, 3) := by decide +kernel
theorem dX11_size_36 : decode cX11_size 36 = .ok (.iload_n 1, 1) := by decide +kernel
theorem dX11_size_37 : decode cX11_size 37 = .ok (.aaload, 1) := by decide +kernel
theorem dX11_size_38 : decode cX11_size 38 = .ok (.iload_n 2, 1) := by decide +kernel
theorem dX11_size_39 : decode cX11_size 39 = .ok (.iaload, 1) := by decide +kernel
theorem dX11_size_40 : decode cX11_size 40 = .ok (.ireturn, 1) := by decide +kernel
theorem dX11_isModule_0 : decode cX11_isModule 0 = .ok (.iload_n 0, 1) := by decide +kernel
theorem dX11_isModule_1 : decode cX11_isModule 1 = .ok (.ifCond .lt 12, 3) := by decide +kernel
theorem dX11_isModule_4 : decode cX11_isModule 4 = .ok (.iload_n 0, 1) := by decide +kernel
theorem dX11_isModule_5 : decode cX11_isModule 5 = .ok (.iconst 4, 1) := by decide +kernel
theorem dX11_isModule_6 : decode cX11_isModule 6 = .ok (.if_icmp .ge 7, 3) := by decide +kernel
theorem dX11_isModule_9 : decode cX11_isModule 9 = .ok (.iconst 1, 1) := by decide +kernel
theorem dX11_isModule_10 : decode cX11_isModule 10 = .ok (.goto 4, 3) := by decide +kernel
theorem dX11_isModule_13 : decode cX11_isModule 13 = .ok (.iconst 0, 1) := by decide +kernel
theorem dX11_isModule_14 : decode cX11_isModule 14 = .ok (.ireturn, 1) := by decide +kernel
theorem dX11_isLetter_0 : decode cX11_isLetter 0 = .ok (.iload_n 0, 1) := by decide +kernel
theorem dX11_isLetter_1 : decode cX11_isLetter 1 = .ok (.bipush 97, 2) := by decide +kernel
theorem dX11_isLetter_3 : decode cX11_isLetter 3 = .ok (.if_icmp .lt 13, 3) := by decide +kernel
theorem dX11_isLetter_6 : decode cX11_isLetter 6 = .ok (.iload_n 0, 1) := by decide +kernel
theorem dX11_isLetter_7 : decode cX11_isLetter 7 = .ok (.bipush 122, 2) := by decide +kernel
theorem dX11_isLetter_9 : decode cX11_isLetter 9 = .ok (.if_icmp .gt 7, 3) := by decide +kernel
theorem dX11_isLetter_12 : decode cX11_isLetter 12 = .ok (.iconst 1, 1) := by decide +kernel
theorem dX11_isLetter_13 : decode cX11_isLetter 13 = .ok (.goto 4, 3) := by decide +kernel
theorem dX11_isLetter_16 : decode cX11_isLetter 16 = .ok (.iconst 0, 1) := by decide +kernel
theorem dX11_isLetter_17 : decode cX11_isLetter 17 = .ok (.ireturn, 1) := by decide +kernel
theorem dX11_isDigit_0 : decode cX11_isDigit 0 = .ok (.iload_n 0, 1) := by decide +kernel
theorem dX11_isDigit_1 : decode cX11_isDigit 1 = .ok (.bipush 48, 2) := by decide +kernel
theorem dX11_isDigit_3 : decode cX11_isDigit 3 = .ok (.if_icmp .lt 13, 3) := by decide +kernel
theorem dX11_isDigit_6 : decode cX11_isDigit 6 = .ok (.iload_n 0, 1) := by decide +kernel
theorem dX11_isDigit_7 : decode cX11_isDigit 7 = .ok (.bipush 57, 2) := by decide +kernel
theorem dX11_isDigit_9 : decode cX11_isDigit 9 = .ok (.if_icmp .gt 7, 3) := by decide +kernel
theorem dX11_isDigit_12 : decode cX11_isDigit 12 = .ok (.iconst 1, 1) := by decide +kernel
theorem dX11_isDigit_13 : decode cX11_isDigit 13 = .ok (.goto 4, 3) := by decide +kernel
theorem dX11_isDigit_16 : decode cX11_isDigit 16 = .ok (.iconst 0, 1) := by decide +kernel
theorem dX11_isDigit_17 : decode cX11_isDigit 17 = .ok (.ireturn, 1) := by decide +kernel
theorem dX11_layOutLines_0 : decode cX11_layOutLines 0 = .ok (.iconst 0, 1) := by decide +kernel
theorem dX11_layOutLines_1 : decode cX11_layOutLines 1 = .ok (.istore_n 1, 1) := by decide +kernel
theorem dX11_layOutLines_2 : decode cX11_layOutLines 2 = .ok (.iload_n 1, 1) := by decide +kernel
theorem dX11_layOutLines_3 : decode cX11_layOutLines 3 = .ok (.iconst 4, 1) := by decide +kernel
theorem dX11_layOutLines_4 : decode cX11_layOutLines 4 = .ok (.if_icmp .ge 177, 3) := by decide +kernel
theorem dX11_layOutLines_7 : decode cX11_layOutLines 7 = .ok (.aload_n 0, 1) := by decide +kernel
theorem dX11_layOutLines_8 : decode cX11_layOutLines 8 = .ok (.getfield 18, 3) := by decide +kernel
theorem dX11_layOutLines_11 : decode cX11_layOutLines 11 = .ok (.iload_n 1, 1) := by decide +kernel
theorem dX11_layOutLines_12 : decode cX11_layOutLines 12 = .ok (.aaload, 1) := by decide +kernel
theorem dX11_layOutLines_13 : decode cX11_layOutLines 13 = .ok (.astore_n 2, 1) := by decide +kernel
theorem dX11_layOutLines_14 : decode cX11_layOutLines 14 = .ok (.iconst 0, 1) := by decide +kernel
theorem dX11_layOutLines_15 : decode cX11_layOutLines 15 = .ok (.istore_n 3, 1) := by decide +kernel
theorem dX11_layOutLines_16 : decode cX11_layOutLines 16 = .ok (.iconst 0, 1) := by decide +kernel
theorem dX11_layOutLines_17 : decode cX11_layOutLines 17 = .ok (.istore 4, 2) := by decide +kernel
theorem dX11_layOutLines_19 : decode cX11_layOutLines 19 = .ok (.iload 4, 2) := by decide +kernel
theorem dX11_layOutLines_21 : decode cX11_layOutLines 21 = .ok (.aload_n 2, 1) := by decide +kernel
theorem dX11_layOutLines_22 : decode cX11_layOutLines 22 = .ok (.getfield 75, 3) := by decide +kernel
theorem dX11_layOutLines_25 : decode cX11_layOutLines 25 = .ok (.if_icmp .ge 150, 3) := by decide +kernel
theorem dX11_layOutLines_28 : decode cX11_layOutLines 28 = .ok (.aload_n 2, 1) := by decide +kernel
theorem dX11_layOutLines_29 : decode cX11_layOutLines 29 = .ok (.getfield 80, 3) := by decide +kernel
theorem dX11_layOutLines_32 : decode cX11_layOutLines 32 = .ok (.iload 4, 2) := by decide +kernel
theorem dX11_layOutLines_34 : decode cX11_layOutLines 34 = .ok (.aaload, 1) := by decide +kernel
theorem dX11_layOutLines_35 : decode cX11_layOutLines 35 = .ok (.astore 5, 2) := by decide +kernel
theorem dX11_layOutLines_37 : decode cX11_layOutLines 37 = .ok (.aload 5, 2) := by decide +kernel
theorem dX11_layOutLines_39 : decode cX11_layOutLines 39 = .ok (.getfield 169, 3) := by decide +kernel
theorem dX11_layOutLines_42 : decode cX11_layOutLines 42 = .ok (.lconst 0, 1) := by decide +kernel
theorem dX11_layOutLines_43 : decode cX11_layOutLines 43 = .ok (.lcmp, 1) := by decide +kernel
theorem dX11_layOutLines_44 : decode cX11_layOutLines 44 = .ok (.ifCond .eq 41, 3) := by decide +kernel
theorem dX11_layOutLines_47 : decode cX11_layOutLines 47 = .ok (.aload_n 0, 1) := by decide +kernel
theorem dX11_layOutLines_48 : decode cX11_layOutLines 48 = .ok (.getfield 44, 3) := by decide +kernel
theorem dX11_layOutLines_51 : decode cX11_layOutLines 51 = .ok (.getfield 140, 3) := by decide +kernel
theorem dX11_layOutLines_54 : decode cX11_layOutLines 54 = .ok (.iload_n 1, 1) := by decide +kernel
theorem dX11_layOutLines_55 : decode cX11_layOutLines 55 = .ok (.aload 5, 2) := by decide +kernel
theorem dX11_layOutLines_57 : decode cX11_layOutLines 57 = .ok (.getfield 169, 3) := by decide +kernel
theorem dX11_layOutLines_60 : decode cX11_layOutLines 60 = .ok (.invokevirtual 148, 3) := by decide +kernel
theorem dX11_layOutLines_63 : decode cX11_layOutLines 63 = .ok (.iconst (-1), 1) := by decide +kernel
theorem dX11_layOutLines_64 : decode cX11_layOutLines 64 = .ok (.if_icmp .eq 21, 3) := by decide +kernel
theorem dX11_layOutLines_67 : decode cX11_layOutLines 67 = .ok (.aload_n 0, 1) := by decide +kernel
theorem dX11_layOutLines_68 : decode cX11_layOutLines 68 = .ok (.getfield 33, 3) := by decide +kernel
theorem dX11_layOutLines_71 : decode cX11_layOutLines 71 = .ok (.bipush (-2), 2) := by decide +kernel
theorem dX11_layOutLines_73 : decode cX11_layOutLines 73 = .ok (.iload_n 1, 1) := by decide +kernel
theorem dX11_layOutLines_74 : decode cX11_layOutLines 74 = .ok (.iload 4, 2) := by decide +kernel
theorem dX11_layOutLines_76 : decode cX11_layOutLines 76 = .ok (.aload 5, 2) := by decide +kernel
theorem dX11_layOutLines_78 : decode cX11_layOutLines 78 = .ok (.getfield 175, 3) := by decide +kernel
theorem dX11_layOutLines_81 : decode cX11_layOutLines 81 = .ok (.invokevirtual 178, 3) := by decide +kernel
theorem dX11_layOutLines_84 : decode cX11_layOutLines 84 = .ok (.ireturn, 1) := by decide +kernel
theorem dX11_layOutLines_85 : decode cX11_layOutLines 85 = .ok (.aload 5, 2) := by decide +kernel
theorem dX11_layOutLines_87 : decode cX11_layOutLines 87 = .ok (.getfield 182, 3) := by decide +kernel
theorem dX11_layOutLines_90 : decode cX11_layOutLines 90 = .ok (.ifCond .eq 24, 3) := by decide +kernel
theorem dX11_layOutLines_93 : decode cX11_layOutLines 93 = .ok (.aload_n 0, 1) := by decide +kernel
theorem dX11_layOutLines_94 : decode cX11_layOutLines 94 = .ok (.getfield 33, 3) := by decide +kernel
theorem dX11_layOutLines_97 : decode cX11_layOutLines 97 = .ok (.aload 5, 2) := by decide +kernel
theorem dX11_layOutLines_99 : decode cX11_layOutLines 99 = .ok (.getfield 182, 3) := by decide +kernel
theorem dX11_layOutLines_102 : decode cX11_layOutLines 102 = .ok (.iload_n 1, 1) := by decide +kernel
theorem dX11_layOutLines_103 : decode cX11_layOutLines 103 = .ok (.iload 4, 2) := by decide +kernel
theorem dX11_layOutLines_105 : decode cX11_layOutLines 105 = .ok (.aload 5, 2) := by decide +kernel
theorem dX11_layOutLines_107 : decode cX11_layOutLines 107 = .ok (.getfield 185, 3) := by decide +kernel
theorem dX11_layOutLines_110 : decode cX11_layOutLines 110 = .ok (.invokevirtual 178, 3) := by decide +kernel
theorem dX11_layOutLines_113 : decode cX11_layOutLines 113 = .ok (.ireturn, 1) := by decide +kernel
theorem dX11_layOutLines_114 : decode cX11_layOutLines 114 = .ok (.aload_n 0, 1) := by decide +kernel
theorem dX11_layOutLines_115 : decode cX11_layOutLines 115 = .ok (.getfield 44, 3) := by decide +kernel
theorem dX11_layOutLines_118 : decode cX11_layOutLines 118 = .ok (.aload 5, 2) := by decide +kernel
theorem dX11_layOutLines_120 : decode cX11_layOutLines 120 = .ok (.iload_n 1, 1) := by decide +kernel
theorem dX11_layOutLines_121 : decode cX11_layOutLines 121 = .ok (.iload_n 3, 1) := by decide +kernel
theorem dX11_layOutLines_122 : decode cX11_layOutLines 122 = .ok (.invokevirtual 188, 3) := by decide +kernel
theorem dX11_layOutLines_125 : decode cX11_layOutLines 125 = .ok (.istore 6, 2) := by decide +kernel
theorem dX11_layOutLines_127 : decode cX11_layOutLines 127 = .ok (.iload 6, 2) := by decide +kernel
theorem dX11_layOutLines_129 : decode cX11_layOutLines 129 = .ok (.ifCond .eq 21, 3) := by decide +kernel
theorem dX11_layOutLines_132 : decode cX11_layOutLines 132 = .ok (.aload_n 0, 1) := by decide +kernel
theorem dX11_layOutLines_133 : decode cX11_layOutLines 133 = .ok (.getfield 33, 3) := by decide +kernel
theorem dX11_layOutLines_136 : decode cX11_layOutLines 136 = .ok (.iload 6, 2) := by decide +kernel
theorem dX11_layOutLines_138 : decode cX11_layOutLines 138 = .ok (.iload_n 1, 1) := by decide +kernel
theorem dX11_layOutLines_139 : decode cX11_layOutLines 139 = .ok (.iload 4, 2) := by decide +kernel
theorem dX11_layOutLines_141 : decode cX11_layOutLines 141 = .ok (.aload 5, 2) := by decide +kernel
theorem dX11_layOutLines_143 : decode cX11_layOutLines 143 = .ok (.getfield 192, 3) := by decide +kernel
theorem dX11_layOutLines_146 : decode cX11_layOutLines 146 = .ok (.invokevirtual 178, 3) := by decide +kernel
theorem dX11_layOutLines_149 : decode cX11_layOutLines 149 = .ok (.ireturn, 1) := by decide +kernel
theorem dX11_layOutLines_150 : decode cX11_layOutLines 150 = .ok (.aload 5, 2) := by decide +kernel
theorem dX11_layOutLines_152 : decode cX11_layOutLines 152 = .ok (.getfield 193, 3) := by decide +kernel
theorem dX11_layOutLines_155 : decode cX11_layOutLines 155 = .ok (.iconst 1, 1) := by decide +kernel
theorem dX11_layOutLines_156 : decode cX11_layOutLines 156 = .ok (.if_icmp .ne 11, 3) := by decide +kernel
theorem dX11_layOutLines_159 : decode cX11_layOutLines 159 = .ok (.aload 5, 2) := by decide +kernel
theorem dX11_layOutLines_161 : decode cX11_layOutLines 161 = .ok (.getfield 194, 3) := by decide +kernel
theorem dX11_layOutLines_164 : decode cX11_layOutLines 164 = .ok (.goto 4, 3) := by decide +kernel
theorem dX11_layOutLines_167 : decode cX11_layOutLines 167 = .ok (.iload_n 3, 1) := by decide +kernel
theorem dX11_layOutLines_168 : decode cX11_layOutLines 168 = .ok (.istore_n 3, 1) := by decide +kernel
theorem dX11_layOutLines_169 : decode cX11_layOutLines 169 = .ok (.iinc 4 1, 3) := by decide +kernel
theorem dX11_layOutLines_172 : decode cX11_layOutLines 172 = .ok (.goto (-153), 3) := by decide +kernel
theorem dX11_layOutLines_175 : decode cX11_layOutLines 175 = .ok (.iinc 1 1, 3) := by decide +kernel
theorem dX11_layOutLines_178 : decode cX11_layOutLines 178 = .ok (.goto (-176), 3) := by decide +kernel
theorem dX11_layOutLines_181 : decode cX11_layOutLines 181 = .ok (.iconst 1, 1) := by decide +kernel
theorem dX11_layOutLines_182 : decode cX11_layOutLines 182 = .ok (.ireturn, 1) := by decide +kernel
theorem dX11_tellGlobals_0 : decode cX11_tellGlobals 0 = .ok (.iconst 0, 1) := by decide +kernel
theorem dX11_tellGlobals_1 : decode cX11_tellGlobals 1 = .ok (.istore_n 1, 1) := by decide +kernel
theorem dX11_tellGlobals_2 : decode cX11_tellGlobals 2 = .ok (.iload_n 1, 1) := by decide +kernel
theorem dX11_tellGlobals_3 : decode cX11_tellGlobals 3 = .ok (.iconst 4, 1) := by decide +kernel
theorem dX11_tellGlobals_4 : decode cX11_tellGlobals 4 = .ok (.if_icmp .ge 93, 3) := by decide +kernel
theorem dX11_tellGlobals_7 : decode cX11_tellGlobals 7 = .ok (.aload_n 0, 1) := by decide +kernel
theorem dX11_tellGlobals_8 : decode cX11_tellGlobals 8 = .ok (.getfield 18, 3) := by decide +kernel
theorem dX11_tellGlobals_11 : decode cX11_tellGlobals 11 = .ok (.iload_n 1, 1) := by decide +kernel
theorem dX11_tellGlobals_12 : decode cX11_tellGlobals 12 = .ok (.aaload, 1) := by decide +kernel
theorem dX11_tellGlobals_13 : decode cX11_tellGlobals 13 = .ok (.astore_n 2, 1) := by decide +kernel
theorem dX11_tellGlobals_14 : decode cX11_tellGlobals 14 = .ok (.iconst 0, 1) := by decide +kernel
theorem dX11_tellGlobals_15 : decode cX11_tellGlobals 15 = .ok (.istore_n 3, 1) := by decide +kernel
theorem dX11_tellGlobals_16 : decode cX11_tellGlobals 16 = .ok (.iload_n 3, 1) := by decide +kernel
theorem dX11_tellGlobals_17 : decode cX11_tellGlobals 17 = .ok (.aload_n 2, 1) := by decide +kernel
theorem dX11_tellGlobals_18 : decode cX11_tellGlobals 18 = .ok (.getfield 75, 3) := by decide +kernel
theorem dX11_tellGlobals_21 : decode cX11_tellGlobals 21 = .ok (.if_icmp .ge 70, 3) := by decide +kernel
theorem dX11_tellGlobals_24 : decode cX11_tellGlobals 24 = .ok (.aload_n 2, 1) := by decide +kernel
theorem dX11_tellGlobals_25 : decode cX11_tellGlobals 25 = .ok (.getfield 80, 3) := by decide +kernel
theorem dX11_tellGlobals_28 : decode cX11_tellGlobals 28 = .ok (.iload_n 3, 1) := by decide +kernel
theorem dX11_tellGlobals_29 : decode cX11_tellGlobals 29 = .ok (.aaload, 1) := by decide +kernel
theorem dX11_tellGlobals_30 : decode cX11_tellGlobals 30 = .ok (.astore 4, 2) := by decide +kernel
theorem dX11_tellGlobals_32 : decode cX11_tellGlobals 32 = .ok (.aload 4, 2) := by decide +kernel
theorem dX11_tellGlobals_34 : decode cX11_tellGlobals 34 = .ok (.getfield 193, 3) := by decide +kernel
theorem dX11_tellGlobals_37 : decode cX11_tellGlobals 37 = .ok (.iconst 2, 1) := by decide +kernel
theorem dX11_tellGlobals_38 : decode cX11_tellGlobals 38 = .ok (.if_icmp .ne 22, 3) := by decide +kernel
theorem dX11_tellGlobals_41 : decode cX11_tellGlobals 41 = .ok (.aload_n 0, 1) := by decide +kernel
theorem dX11_tellGlobals_42 : decode cX11_tellGlobals 42 = .ok (.getfield 44, 3) := by decide +kernel
theorem dX11_tellGlobals_45 : decode cX11_tellGlobals 45 = .ok (.getfield 140, 3) := by decide +kernel
theorem dX11_tellGlobals_48 : decode cX11_tellGlobals 48 = .ok (.iload_n 1, 1) := by decide +kernel
theorem dX11_tellGlobals_49 : decode cX11_tellGlobals 49 = .ok (.aload 4, 2) := by decide +kernel
theorem dX11_tellGlobals_51 : decode cX11_tellGlobals 51 = .ok (.getfield 197, 3) := by decide +kernel
theorem dX11_tellGlobals_54 : decode cX11_tellGlobals 54 = .ok (.invokevirtual 200, 3) := by decide +kernel
theorem dX11_tellGlobals_57 : decode cX11_tellGlobals 57 = .ok (.goto 4, 3) := by decide +kernel
theorem dX11_tellGlobals_60 : decode cX11_tellGlobals 60 = .ok (.iconst 0, 1) := by decide +kernel
theorem dX11_tellGlobals_61 : decode cX11_tellGlobals 61 = .ok (.istore 5, 2) := by decide +kernel
theorem dX11_tellGlobals_63 : decode cX11_tellGlobals 63 = .ok (.iload 5, 2) := by decide +kernel
theorem dX11_tellGlobals_65 : decode cX11_tellGlobals 65 = .ok (.ifCond .eq 20, 3) := by decide +kernel
theorem dX11_tellGlobals_68 : decode cX11_tellGlobals 68 = .ok (.aload_n 0, 1) := by decide +kernel
theorem dX11_tellGlobals_69 : decode cX11_tellGlobals 69 = .ok (.getfield 33, 3) := by decide +kernel
theorem dX11_tellGlobals_72 : decode cX11_tellGlobals 72 = .ok (.iload 5, 2) := by decide +kernel
theorem dX11_tellGlobals_74 : decode cX11_tellGlobals 74 = .ok (.iload_n 1, 1) := by decide +kernel
theorem dX11_tellGlobals_75 : decode cX11_tellGlobals 75 = .ok (.iload_n 3, 1) := by decide +kernel
theorem dX11_tellGlobals_76 : decode cX11_tellGlobals 76 = .ok (.aload 4, 2) := by decide +kernel
theorem dX11_tellGlobals_78 : decode cX11_tellGlobals 78 = .ok (.getfield 203, 3) := by decide +kernel
theorem dX11_tellGlobals_81 : decode cX11_tellGlobals 81 = .ok (.invokevirtual 178, 3) := by decide +kernel
theorem dX11_tellGlobals_84 : decode cX11_tellGlobals 84 = .ok (.ireturn, 1) := by decide +kernel
theorem dX11_tellGlobals_85 : decode cX11_tellGlobals 85 = .ok (.iinc 3 1, 3) := by decide +kernel
theorem dX11_tellGlobals_88 : decode cX11_tellGlobals 88 = .ok (.goto (-72), 3) := by decide +kernel
theorem dX11_tellGlobals_91 : decode cX11_tellGlobals 91 = .ok (.iinc 1 1, 3) := by decide +kernel
theorem dX11_tellGlobals_94 : decode cX11_tellGlobals 94 = .ok (.goto (-92), 3) := by decide +kernel
theorem dX11_tellGlobals_97 : decode cX11_tellGlobals 97 = .ok (.iconst 1, 1) := by decide +kernel
theorem dX11_tellGlobals_98 : decode cX11_tellGlobals 98 = .ok (.ireturn, 1) := by decide +kernel
theorem dX11_findRoom_0 : decode cX11_findRoom 0 = .ok (.aload_n 0, 1) := by decide +kernel
theorem dX11_findRoom_1 : decode cX11_findRoom 1 = .ok (.getfield 44, 3) := by decide +kernel
theorem dX11_findRoom_4 : decode cX11_findRoom 4 = .ok (.getfield 159, 3) := by decide +kernel
theorem dX11_findRoom_7 : decode cX11_findRoom 7 = .ok (.invokevirtual 206, 3) := by decide +kernel
theorem dX11_findRoom_10 : decode cX11_findRoom 10 = .ok (.ifCond .ne 18, 3) := by decide +kernel
theorem dX11_findRoom_13 : decode cX11_findRoom 13 = .ok (.aload_n 0, 1) := by decide +kernel
theorem dX11_findRoom_14 : decode cX11_findRoom 14 = .ok (.getfield 33, 3) := by decide +kernel
theorem dX11_findRoom_17 : decode cX11_findRoom 17 = .ok (.bipush (-7), 2) := by decide +kernel
theorem dX11_findRoom_19 : decode cX11_findRoom 19 = .ok (.iconst (-1), 1) := by decide +kernel
theorem dX11_findRoom_20 : decode cX11_findRoom 20 = .ok (.iconst (-1), 1) := by decide +kernel
theorem dX11_findRoom_21 : decode cX11_findRoom 21 = .ok (.iconst (-1), 1) := by decide +kernel
theorem dX11_findRoom_22 : decode cX11_findRoom 22 = .ok (.invokevirtual 178, 3) := by decide +kernel
theorem dX11_findRoom_25 : decode cX11_findRoom 25 = .ok (.ifCond .eq 7, 3) := by decide +kernel
theorem dX11_findRoom_28 : decode cX11_findRoom 28 = .ok (.iconst 1, 1) := by decide +kernel
theorem dX11_findRoom_29 : decode cX11_findRoom 29 = .ok (.goto 4, 3) := by decide +kernel
theorem dX11_findRoom_32 : decode cX11_findRoom 32 = .ok (.iconst 0, 1) := by decide +kernel
theorem dX11_findRoom_33 : decode cX11_findRoom 33 = .ok (.ireturn, 1) := by decide +kernel
theorem dX11_writeLines_0 : decode cX11_writeLines 0 = .ok (.iconst 0, 1) := by decide +kernel
theorem dX11_writeLines_1 : decode cX11_writeLines 1 = .ok (.istore_n 1, 1) := by decide +kernel
theorem dX11_writeLines_2 : decode cX11_writeLines 2 = .ok (.iload_n 1, 1) := by decide +kernel
theorem dX11_writeLines_3 : decode cX11_writeLines 3 = .ok (.iconst 4, 1) := by decide +kernel
theorem dX11_writeLines_4 : decode cX11_writeLines 4 = .ok (.if_icmp .ge 74, 3) := by decide +kernel
theorem dX11_writeLines_7 : decode cX11_writeLines 7 = .ok (.aload_n 0, 1) := by decide +kernel
theorem dX11_writeLines_8 : decode cX11_writeLines 8 = .ok (.getfield 18, 3) := by decide +kernel
theorem dX11_writeLines_11 : decode cX11_writeLines 11 = .ok (.iload_n 1, 1) := by decide +kernel
theorem dX11_writeLines_12 : decode cX11_writeLines 12 = .ok (.aaload, 1) := by decide +kernel
theorem dX11_writeLines_13 : decode cX11_writeLines 13 = .ok (.astore_n 2, 1) := by decide +kernel
theorem dX11_writeLines_14 : decode cX11_writeLines 14 = .ok (.iconst 0, 1) := by decide +kernel
theorem dX11_writeLines_15 : decode cX11_writeLines 15 = .ok (.istore_n 3, 1) := by decide +kernel
theorem dX11_writeLines_16 : decode cX11_writeLines 16 = .ok (.iload_n 3, 1) := by decide +kernel
theorem dX11_writeLines_17 : decode cX11_writeLines 17 = .ok (.aload_n 2, 1) := by decide +kernel
theorem dX11_writeLines_18 : decode cX11_writeLines 18 = .ok (.getfield 75, 3) := by decide +kernel
theorem dX11_writeLines_21 : decode cX11_writeLines 21 = .ok (.if_icmp .ge 51, 3) := by decide +kernel
theorem dX11_writeLines_24 : decode cX11_writeLines 24 = .ok (.aload_n 0, 1) := by decide +kernel
theorem dX11_writeLines_25 : decode cX11_writeLines 25 = .ok (.getfield 44, 3) := by decide +kernel
theorem dX11_writeLines_28 : decode cX11_writeLines 28 = .ok (.aload_n 2, 1) := by decide +kernel
theorem dX11_writeLines_29 : decode cX11_writeLines 29 = .ok (.getfield 80, 3) := by decide +kernel
theorem dX11_writeLines_32 : decode cX11_writeLines 32 = .ok (.iload_n 3, 1) := by decide +kernel
theorem dX11_writeLines_33 : decode cX11_writeLines 33 = .ok (.aaload, 1) := by decide +kernel
theorem dX11_writeLines_34 : decode cX11_writeLines 34 = .ok (.iload_n 1, 1) := by decide +kernel
theorem dX11_writeLines_35 : decode cX11_writeLines 35 = .ok (.invokevirtual 209, 3) := by decide +kernel
theorem dX11_writeLines_38 : decode cX11_writeLines 38 = .ok (.istore 4, 2) := by decide +kernel
theorem dX11_writeLines_40 : decode cX11_writeLines 40 = .ok (.iload 4, 2) := by decide +kernel
theorem dX11_writeLines_42 : decode cX11_writeLines 42 = .ok (.ifCond .eq 24, 3) := by decide +kernel
theorem dX11_writeLines_45 : decode cX11_writeLines 45 = .ok (.aload_n 0, 1) := by decide +kernel
theorem dX11_writeLines_46 : decode cX11_writeLines 46 = .ok (.getfield 33, 3) := by decide +kernel
theorem dX11_writeLines_49 : decode cX11_writeLines 49 = .ok (.iload 4, 2) := by decide +kernel
theorem dX11_writeLines_51 : decode cX11_writeLines 51 = .ok (.iload_n 1, 1) := by decide +kernel
theorem dX11_writeLines_52 : decode cX11_writeLines 52 = .ok (.iload_n 3, 1) := by decide +kernel
theorem dX11_writeLines_53 : decode cX11_writeLines 53 = .ok (.aload_n 2, 1) := by decide +kernel
theorem dX11_writeLines_54 : decode cX11_writeLines 54 = .ok (.getfield 80, 3) := by decide +kernel
theorem dX11_writeLines_57 : decode cX11_writeLines 57 = .ok (.iload_n 3, 1) := by decide +kernel
theorem dX11_writeLines_58 : decode cX11_writeLines 58 = .ok (.aaload, 1) := by decide +kernel
theorem dX11_writeLines_59 : decode cX11_writeLines 59 = .ok (.getfield 203, 3) := by decide +kernel
theorem dX11_writeLines_62 : decode cX11_writeLines 62 = .ok (.invokevirtual 178, 3) := by decide +kernel
theorem dX11_writeLines_65 : decode cX11_writeLines 65 = .ok (.ireturn, 1) := by decide +kernel
theorem dX11_writeLines_66 : decode cX11_writeLines 66 = .ok (.iinc 3 1, 3) := by decide +kernel
theorem dX11_writeLines_69 : decode cX11_writeLines 69 = .ok (.goto (-53), 3) := by decide +kernel
theorem dX11_writeLines_72 : decode cX11_writeLines 72 = .ok (.iinc 1 1, 3) := by decide +kernel
theorem dX11_writeLines_75 : decode cX11_writeLines 75 = .ok (.goto (-73), 3) := by decide +kernel
theorem dX11_writeLines_78 : decode cX11_writeLines 78 = .ok (.iconst 1, 1) := by decide +kernel
theorem dX11_writeLines_79 : decode cX11_writeLines 79 = .ok (.ireturn, 1) := by decide +kernel
theorem dX11_writeVectors_0 : decode cX11_writeVectors 0 = .ok (.aload_n 0, 1) := by decide +kernel
theorem dX11_writeVectors_1 : decode cX11_writeVectors 1 = .ok (.getfield 44, 3) := by decide +kernel
theorem dX11_writeVectors_4 : decode cX11_writeVectors 4 = .ok (.getfield 140, 3) := by decide +kernel
theorem dX11_writeVectors_7 : decode cX11_writeVectors 7 = .ok (.ldc2_w 213, 3) := by decide +kernel
theorem dX11_writeVectors_10 : decode cX11_writeVectors 10 = .ok (.invokevirtual 215, 3) := by decide +kernel
theorem dX11_writeVectors_13 : decode cX11_writeVectors 13 = .ok (.istore_n 1, 1) := by decide +kernel
theorem dX11_writeVectors_14 : decode cX11_writeVectors 14 = .ok (.iload_n 1, 1) := by decide +kernel
theorem dX11_writeVectors_15 : decode cX11_writeVectors 15 = .ok (.iconst (-1), 1) := by decide +kernel
theorem dX11_writeVectors_16 : decode cX11_writeVectors 16 = .ok (.if_icmp .eq 18, 3) := by decide +kernel
theorem dX11_writeVectors_19 : decode cX11_writeVectors 19 = .ok (.aload_n 0, 1) := by decide +kernel
theorem dX11_writeVectors_20 : decode cX11_writeVectors 20 = .ok (.getfield 44, 3) := by decide +kernel
theorem dX11_writeVectors_23 : decode cX11_writeVectors 23 = .ok (.getfield 140, 3) := by decide +kernel
theorem dX11_writeVectors_26 : decode cX11_writeVectors 26 = .ok (.getfield 219, 3) := by decide +kernel
theorem dX11_writeVectors_29 : decode cX11_writeVectors 29 = .ok (.iload_n 1, 1) := by decide +kernel
theorem dX11_writeVectors_30 : decode cX11_writeVectors 30 = .ok (.iaload, 1) := by decide +kernel
theorem dX11_writeVectors_31 : decode cX11_writeVectors 31 = .ok (.ifCond .eq 16, 3) := by decide +kernel
theorem dX11_writeVectors_34 : decode cX11_writeVectors 34 = .ok (.aload_n 0, 1) := by decide +kernel
theorem dX11_writeVectors_35 : decode cX11_writeVectors 35 = .ok (.getfield 33, 3) := by decide +kernel
theorem dX11_writeVectors_38 : decode cX11_writeVectors 38 = .ok (.bipush (-8), 2) := by decide +kernel
theorem dX11_writeVectors_40 : decode cX11_writeVectors 40 = .ok (.iconst (-1), 1) := by decide +kernel
theorem dX11_writeVectors_41 : decode cX11_writeVectors 41 = .ok (.iconst (-1), 1) := by decide +kernel
theorem dX11_writeVectors_42 : decode cX11_writeVectors 42 = .ok (.iconst (-1), 1) := by decide +kernel
theorem dX11_writeVectors_43 : decode cX11_writeVectors 43 = .ok (.invokevirtual 178, 3) := by decide +kernel
theorem dX11_writeVectors_46 : decode cX11_writeVectors 46 = .ok (.ireturn, 1) := by decide +kernel
theorem dX11_writeVectors_47 : decode cX11_writeVectors 47 = .ok (.aload_n 0, 1) := by decide +kernel
theorem dX11_writeVectors_48 : decode cX11_writeVectors 48 = .ok (.getfield 44, 3) := by decide +kernel
theorem dX11_writeVectors_51 : decode cX11_writeVectors 51 = .ok (.getfield 115, 3) := by decide +kernel
theorem dX11_writeVectors_54 : decode cX11_writeVectors 54 = .ok (.iconst 0, 1) := by decide +kernel
theorem dX11_writeVectors_55 : decode cX11_writeVectors 55 = .ok (.ldc 223, 2) := by decide +kernel
theorem dX11_writeVectors_57 : decode cX11_writeVectors 57 = .ok (.invokevirtual 224, 3) := by decide +kernel
theorem dX11_writeVectors_60 : decode cX11_writeVectors 60 = .ok (.aload_n 0, 1) := by decide +kernel
theorem dX11_writeVectors_61 : decode cX11_writeVectors 61 = .ok (.getfield 44, 3) := by decide +kernel
theorem dX11_writeVectors_64 : decode cX11_writeVectors 64 = .ok (.getfield 115, 3) := by decide +kernel
theorem dX11_writeVectors_67 : decode cX11_writeVectors 67 = .ok (.iconst 4, 1) := by decide +kernel
theorem dX11_writeVectors_68 : decode cX11_writeVectors 68 = .ok (.aload_n 0, 1) := by decide +kernel
theorem dX11_writeVectors_69 : decode cX11_writeVectors 69 = .ok (.getfield 44, 3) := by decide +kernel
theorem dX11_writeVectors_72 : decode cX11_writeVectors 72 = .ok (.iload_n 1, 1) := by decide +kernel
theorem dX11_writeVectors_73 : decode cX11_writeVectors 73 = .ok (.invokevirtual 154, 3) := by decide +kernel
theorem dX11_writeVectors_76 : decode cX11_writeVectors 76 = .ok (.iconst 1, 1) := by decide +kernel
theorem dX11_writeVectors_77 : decode cX11_writeVectors 77 = .ok (.iadd, 1) := by decide +kernel
theorem dX11_writeVectors_78 : decode cX11_writeVectors 78 = .ok (.invokevirtual 224, 3) := by decide +kernel
theorem dX11_writeVectors_81 : decode cX11_writeVectors 81 = .ok (.aload_n 0, 1) := by decide +kernel
theorem dX11_writeVectors_82 : decode cX11_writeVectors 82 = .ok (.getfield 44, 3) := by decide +kernel
theorem dX11_writeVectors_85 : decode cX11_writeVectors 85 = .ok (.getfield 115, 3) := by decide +kernel
theorem dX11_writeVectors_88 : decode cX11_writeVectors 88 = .ok (.aload_n 0, 1) := by decide +kernel
theorem dX11_writeVectors_89 : decode cX11_writeVectors 89 = .ok (.getfield 44, 3) := by decide +kernel
theorem dX11_writeVectors_92 : decode cX11_writeVectors 92 = .ok (.getfield 159, 3) := by decide +kernel
theorem dX11_writeVectors_95 : decode cX11_writeVectors 95 = .ok (.getfield 228, 3) := by decide +kernel
theorem dX11_writeVectors_98 : decode cX11_writeVectors 98 = .ok (.putfield 119, 3) := by decide +kernel
theorem dX11_writeVectors_101 : decode cX11_writeVectors 101 = .ok (.iconst 1, 1) := by decide +kernel
theorem dX11_writeVectors_102 : decode cX11_writeVectors 102 = .ok (.ireturn, 1) := by decide +kernel
theorem dJ9_min_7cf53_0 : decode cJ9_min_7cf53 0 = .ok (.iload_n 0, 1) := by decide +kernel
theorem dJ9_min_7cf53_1 : decode cJ9_min_7cf53 1 = .ok (.iload_n 1, 1) := by decide +kernel
theorem dJ9_min_7cf53_2 : decode cJ9_min_7cf53 2 = .ok (.if_icmp .gt 7, 3) := by decide +kernel
theorem dJ9_min_7cf53_5 : decode cJ9_min_7cf53 5 = .ok (.iload_n 0, 1) := by decide +kernel
theorem dJ9_min_7cf53_6 : decode cJ9_min_7cf53 6 = .ok (.goto 4, 3) := by decide +kernel
theorem dJ9_min_7cf53_9 : decode cJ9_min_7cf53 9 = .ok (.iload_n 1, 1) := by decide +kernel
theorem dJ9_min_7cf53_10 : decode cJ9_min_7cf53 10 = .ok (.ireturn, 1) := by decide +kernel
theorem dJ0_length_8abf5_0 : decode cJ0_length_8abf5 0 = .ok (.aload_n 0, 1) := by decide +kernel
theorem dJ0_length_8abf5_1 : decode cJ0_length_8abf5 1 = .ok (.getfield 9, 3) := by decide +kernel
theorem dJ0_length_8abf5_4 : decode cJ0_length_8abf5 4 = .ok (.arraylength, 1) := by decide +kernel
theorem dJ0_length_8abf5_5 : decode cJ0_length_8abf5 5 = .ok (.aload_n 0, 1) := by decide +kernel
theorem dJ0_length_8abf5_6 : decode cJ0_length_8abf5 6 = .ok (.invokevirtual 335, 3) := by decide +kernel
theorem dJ0_length_8abf5_9 : decode cJ0_length_8abf5 9 = .ok (.ishr, 1) := by decide +kernel
theorem dJ0_length_8abf5_10 : decode cJ0_length_8abf5 10 = .ok (.ireturn, 1) := by decide +kernel
theorem dJ0_charAt_5068e_0 : decode cJ0_charAt_5068e 0 = .ok (.aload_n 0, 1) := by decide +kernel
theorem dJ0_charAt_5068e_1 : decode cJ0_charAt_5068e 1 = .ok (.invokevirtual 492, 3) := by decide +kernel
theorem dJ0_charAt_5068e_4 : decode cJ0_charAt_5068e 4 = .ok (.ifCond .eq 12, 3) := by decide +kernel
theorem dJ0_charAt_5068e_7 : decode cJ0_charAt_5068e 7 = .ok (.aload_n 0, 1) := by decide +kernel
theorem dJ0_charAt_5068e_8 : decode cJ0_charAt_5068e 8 = .ok (.getfield 9, 3) := by decide +kernel
theorem dJ0_charAt_5068e_11 : decode cJ0_charAt_5068e 11 = .ok (.iload_n 1, 1) := by decide +kernel
theorem dJ0_charAt_5068e_12 : decode cJ0_charAt_5068e 12 = .ok (.invokestatic 495, 3) := by decide +kernel
theorem dJ0_charAt_5068e_15 : decode cJ0_charAt_5068e 15 = .ok (.ireturn, 1) := by decide +kernel
theorem dJ0_charAt_5068e_16 : decode cJ0_charAt_5068e 16 = .ok (.aload_n 0, 1) := by decide +kernel
theorem dJ0_charAt_5068e_17 : decode cJ0_charAt_5068e 17 = .ok (.getfield 9, 3) := by decide +kernel
theorem dJ0_charAt_5068e_20 : decode cJ0_charAt_5068e 20 = .ok (.iload_n 1, 1) := by decide +kernel
theorem dJ0_charAt_5068e_21 : decode cJ0_charAt_5068e 21 = .ok (.invokestatic 498, 3) := by decide +kernel
theorem dJ0_charAt_5068e_24 : decode cJ0_charAt_5068e 24 = .ok (.ireturn, 1) := by decide +kernel
theorem dJ0_coder_7d493_0 : decode cJ0_coder_7d493 0 = .ok (.getstatic 38, 3) := by decide +kernel
theorem dJ0_coder_7d493_3 : decode cJ0_coder_7d493 3 = .ok (.ifCond .eq 10, 3) := by decide +kernel
theorem dJ0_coder_7d493_6 : decode cJ0_coder_7d493 6 = .ok (.aload_n 0, 1) := by decide +kernel
theorem dJ0_coder_7d493_7 : decode cJ0_coder_7d493 7 = .ok (.getfield 15, 3) := by decide +kernel
theorem dJ0_coder_7d493_10 : decode cJ0_coder_7d493 10 = .ok (.goto 4, 3) := by decide +kernel
theorem dJ0_coder_7d493_13 : decode cJ0_coder_7d493 13 = .ok (.iconst 1, 1) := by decide +kernel
theorem dJ0_coder_7d493_14 : decode cJ0_coder_7d493 14 = .ok (.ireturn, 1) := by decide +kernel
theorem dJ0_isLatin1_aae02_0 : decode cJ0_isLatin1_aae02 0 = .ok (.getstatic 38, 3) := by decide +kernel
theorem dJ0_isLatin1_aae02_3 : decode cJ0_isLatin1_aae02 3 = .ok (.ifCond .eq 14, 3) := by decide +kernel
theorem dJ0_isLatin1_aae02_6 : decode cJ0_isLatin1_aae02 6 = .ok (.aload_n 0, 1) := by decide +kernel
theorem dJ0_isLatin1_aae02_7 : decode cJ0_isLatin1_aae02 7 = .ok (.getfield 15, 3) := by decide +kernel
theorem dJ0_isLatin1_aae02_10 : decode cJ0_isLatin1_aae02 10 = .ok (.ifCond .ne 7, 3) := by decide +kernel
theorem dJ0_isLatin1_aae02_13 : decode cJ0_isLatin1_aae02 13 = .ok (.iconst 1, 1) := by decide +kernel
theorem dJ0_isLatin1_aae02_14 : decode cJ0_isLatin1_aae02 14 = .ok (.goto 4, 3) := by decide +kernel
theorem dJ0_isLatin1_aae02_17 : decode cJ0_isLatin1_aae02 17 = .ok (.iconst 0, 1) := by decide +kernel
theorem dJ0_isLatin1_aae02_18 : decode cJ0_isLatin1_aae02 18 = .ok (.ireturn, 1) := by decide +kernel
theorem dJ0_checkIndex_df160_0 : decode cJ0_checkIndex_df160 0 = .ok (.iload_n 0, 1) := by decide +kernel
theorem dJ0_checkIndex_df160_1 : decode cJ0_checkIndex_df160 1 = .ok (.iload_n 1, 1) := by decide +kernel
theorem dJ0_checkIndex_df160_2 : decode cJ0_checkIndex_df160 2 = .ok (.getstatic 1053, 3) := by decide +kernel
theorem dJ0_checkIndex_df160_5 : decode cJ0_checkIndex_df160 5 = .ok (.invokestatic 1059, 3) := by decide +kernel
theorem dJ0_checkIndex_df160_8 : decode cJ0_checkIndex_df160 8 = .ok (.pop, 1) := by decide +kernel
theorem dJ0_checkIndex_df160_9 : decode cJ0_checkIndex_df160 9 = .ok (.return_, 1) := by decide +kernel
theorem dJ1_charAt_3b067_0 : decode cJ1_charAt_3b067 0 = .ok (.iload_n 1, 1) := by decide +kernel
theorem dJ1_charAt_3b067_1 : decode cJ1_charAt_3b067 1 = .ok (.aload_n 0, 1) := by decide +kernel
theorem dJ1_charAt_3b067_2 : decode cJ1_charAt_3b067 2 = .ok (.arraylength, 1) := by decide +kernel
theorem dJ1_charAt_3b067_3 : decode cJ1_charAt_3b067 3 = .ok (.invokestatic 9, 3) := by decide +kernel
theorem dJ1_charAt_3b067_6 : decode cJ1_charAt_3b067 6 = .ok (.aload_n 0, 1) := by decide +kernel
theorem dJ1_charAt_3b067_7 : decode cJ1_charAt_3b067 7 = .ok (.iload_n 1, 1) := by decide +kernel
theorem dJ1_charAt_3b067_8 : decode cJ1_charAt_3b067 8 = .ok (.baload, 1) := by decide +kernel
theorem dJ1_charAt_3b067_9 : decode cJ1_charAt_3b067 9 = .ok (.sipush 255, 3) := by decide +kernel
theorem dJ1_charAt_3b067_12 : decode cJ1_charAt_3b067 12 = .ok (.iand, 1) := by decide +kernel
theorem dJ1_charAt_3b067_13 : decode cJ1_charAt_3b067 13 = .ok (.i2c, 1) := by decide +kernel
theorem dJ1_charAt_3b067_14 : decode cJ1_charAt_3b067 14 = .ok (.ireturn, 1) := by decide +kernel
theorem dJ2_getChar_3b067_0 : decode cJ2_getChar_3b067 0 = .ok (.getstatic 44, 3) := by decide +kernel
theorem dJ2_getChar_3b067_3 : decode cJ2_getChar_3b067 3 = .ok (.ifCond .ne 25, 3) := by decide +kernel
theorem dJ2_getChar_3b067_6 : decode cJ2_getChar_3b067 6 = .ok (.iload_n 1, 1) := by decide +kernel
theorem dJ2_getChar_3b067_7 : decode cJ2_getChar_3b067 7 = .ok (.ifCond .lt 11, 3) := by decide +kernel
theorem dJ2_getChar_3b067_10 : decode cJ2_getChar_3b067 10 = .ok (.iload_n 1, 1) := by decide +kernel
theorem dJ2_getChar_3b067_11 : decode cJ2_getChar_3b067 11 = .ok (.aload_n 0, 1) := by decide +kernel
theorem dJ2_getChar_3b067_12 : decode cJ2_getChar_3b067 12 = .ok (.invokestatic 48, 3) := by decide +kernel
theorem dJ2_getChar_3b067_15 : decode cJ2_getChar_3b067 15 = .ok (.if_icmp .lt 13, 3) := by decide +kernel
theorem dJ2_getChar_3b067_18 : decode cJ2_getChar_3b067 18 = .ok (.new 52, 3) := by decide +kernel
theorem dJ2_getChar_3b067_21 : decode cJ2_getChar_3b067 21 = .ok (.dup, 1) := by decide +kernel
theorem dJ2_getChar_3b067_22 : decode cJ2_getChar_3b067 22 = .ok (.ldc 54, 2) := by decide +kernel
theorem dJ2_getChar_3b067_24 : decode cJ2_getChar_3b067 24 = .ok (.invokespecial 56, 3) := by decide +kernel
theorem dJ2_getChar_3b067_27 : decode cJ2_getChar_3b067 27 = .ok (.athrow, 1) := by decide +kernel
theorem dJ2_getChar_3b067_28 : decode cJ2_getChar_3b067 28 = .ok (.iload_n 1, 1) := by decide +kernel
theorem dJ2_getChar_3b067_29 : decode cJ2_getChar_3b067 29 = .ok (.iconst 1, 1) := by decide +kernel
theorem dJ2_getChar_3b067_30 : decode cJ2_getChar_3b067 30 = .ok (.ishl, 1) := by decide +kernel
theorem dJ2_getChar_3b067_31 : decode cJ2_getChar_3b067 31 = .ok (.istore_n 1, 1) := by decide +kernel
theorem dJ2_getChar_3b067_32 : decode cJ2_getChar_3b067 32 = .ok (.aload_n 0, 1) := by decide +kernel
theorem dJ2_getChar_3b067_33 : decode cJ2_getChar_3b067 33 = .ok (.iload_n 1, 1) := by decide +kernel
theorem dJ2_getChar_3b067_34 : decode cJ2_getChar_3b067 34 = .ok (.iinc 1 1, 3) := by decide +kernel
theorem dJ2_getChar_3b067_37 : decode cJ2_getChar_3b067 37 = .ok (.baload, 1) := by decide +kernel
theorem dJ2_getChar_3b067_38 : decode cJ2_getChar_3b067 38 = .ok (.sipush 255, 3) := by decide +kernel
theorem dJ2_getChar_3b067_41 : decode cJ2_getChar_3b067 41 = .ok (.iand, 1) := by decide +kernel
theorem dJ2_getChar_3b067_42 : decode cJ2_getChar_3b067 42 = .ok (.getstatic 59, 3) := by decide +kernel
theorem dJ2_getChar_3b067_45 : decode cJ2_getChar_3b067 45 = .ok (.ishl, 1) := by decide +kernel
theorem dJ2_getChar_3b067_46 : decode cJ2_getChar_3b067 46 = .ok (.aload_n 0, 1) := by decide +kernel
theorem dJ2_getChar_3b067_47 : decode cJ2_getChar_3b067 47 = .ok (.iload_n 1, 1) := by decide +kernel
theorem dJ2_getChar_3b067_48 : decode cJ2_getChar_3b067 48 = .ok (.baload, 1) := by decide +kernel
theorem dJ2_getChar_3b067_49 : decode cJ2_getChar_3b067 49 = .ok (.sipush 255, 3) := by decide +kernel
theorem dJ2_getChar_3b067_52 : decode cJ2_getChar_3b067 52 = .ok (.iand, 1) := by decide +kernel
theorem dJ2_getChar_3b067_53 : decode cJ2_getChar_3b067 53 = .ok (.getstatic 63, 3) := by decide +kernel
theorem dJ2_getChar_3b067_56 : decode cJ2_getChar_3b067 56 = .ok (.ishl, 1) := by decide +kernel
theorem dJ2_getChar_3b067_57 : decode cJ2_getChar_3b067 57 = .ok (.ior, 1) := by decide +kernel
theorem dJ2_getChar_3b067_58 : decode cJ2_getChar_3b067 58 = .ok (.i2c, 1) := by decide +kernel
theorem dJ2_getChar_3b067_59 : decode cJ2_getChar_3b067 59 = .ok (.ireturn, 1) := by decide +kernel
theorem dJ2_length_9d52b_0 : decode cJ2_length_9d52b 0 = .ok (.aload_n 0, 1) := by decide +kernel
theorem dJ2_length_9d52b_1 : decode cJ2_length_9d52b 1 = .ok (.arraylength, 1) := by decide +kernel
theorem dJ2_length_9d52b_2 : decode cJ2_length_9d52b 2 = .ok (.iconst 1, 1) := by decide +kernel
theorem dJ2_length_9d52b_3 : decode cJ2_length_9d52b 3 = .ok (.ishr, 1) := by decide +kernel
theorem dJ2_length_9d52b_4 : decode cJ2_length_9d52b 4 = .ok (.ireturn, 1) := by decide +kernel
theorem dJ2_charAt_3b067_0 : decode cJ2_charAt_3b067 0 = .ok (.iload_n 1, 1) := by decide +kernel
theorem dJ2_charAt_3b067_1 : decode cJ2_charAt_3b067 1 = .ok (.aload_n 0, 1) := by decide +kernel
theorem dJ2_charAt_3b067_2 : decode cJ2_charAt_3b067 2 = .ok (.invokestatic 67, 3) := by decide +kernel
theorem dJ2_charAt_3b067_5 : decode cJ2_charAt_3b067 5 = .ok (.aload_n 0, 1) := by decide +kernel
theorem dJ2_charAt_3b067_6 : decode cJ2_charAt_3b067 6 = .ok (.iload_n 1, 1) := by decide +kernel
theorem dJ2_charAt_3b067_7 : decode cJ2_charAt_3b067 7 = .ok (.invokestatic 71, 3) := by decide +kernel
theorem dJ2_charAt_3b067_10 : decode cJ2_charAt_3b067 10 = .ok (.ireturn, 1) := by decide +kernel
theorem dJ2_checkIndex_2214a_0 : decode cJ2_checkIndex_2214a 0 = .ok (.iload_n 0, 1) := by decide +kernel
theorem dJ2_checkIndex_2214a_1 : decode cJ2_checkIndex_2214a 1 = .ok (.aload_n 1, 1) := by decide +kernel
theorem dJ2_checkIndex_2214a_2 : decode cJ2_checkIndex_2214a 2 = .ok (.invokestatic 48, 3) := by decide +kernel
theorem dJ2_checkIndex_2214a_5 : decode cJ2_checkIndex_2214a 5 = .ok (.invokestatic 414, 3) := by decide +kernel
theorem dJ2_checkIndex_2214a_8 : decode cJ2_checkIndex_2214a 8 = .ok (.return_, 1) := by decide +kernel
theorem dJ7_fill_53178_0 : decode cJ7_fill_53178 0 = .ok (.iconst 0, 1) := by decide +kernel
theorem dJ7_fill_53178_1 : decode cJ7_fill_53178 1 = .ok (.istore_n 2, 1) := by decide +kernel
theorem dJ7_fill_53178_2 : decode cJ7_fill_53178 2 = .ok (.aload_n 0, 1) := by decide +kernel
theorem dJ7_fill_53178_3 : decode cJ7_fill_53178 3 = .ok (.arraylength, 1) := by decide +kernel
theorem dJ7_fill_53178_4 : decode cJ7_fill_53178 4 = .ok (.istore_n 3, 1) := by decide +kernel
theorem dJ7_fill_53178_5 : decode cJ7_fill_53178 5 = .ok (.iload_n 2, 1) := by decide +kernel
theorem dJ7_fill_53178_6 : decode cJ7_fill_53178 6 = .ok (.iload_n 3, 1) := by decide +kernel
theorem dJ7_fill_53178_7 : decode cJ7_fill_53178 7 = .ok (.if_icmp .ge 13, 3) := by decide +kernel
theorem dJ7_fill_53178_10 : decode cJ7_fill_53178 10 = .ok (.aload_n 0, 1) := by decide +kernel
theorem dJ7_fill_53178_11 : decode cJ7_fill_53178 11 = .ok (.iload_n 2, 1) := by decide +kernel
theorem dJ7_fill_53178_12 : decode cJ7_fill_53178 12 = .ok (.iload_n 1, 1) := by decide +kernel
theorem dJ7_fill_53178_13 : decode cJ7_fill_53178 13 = .ok (.iastore, 1) := by decide +kernel
theorem dJ7_fill_53178_14 : decode cJ7_fill_53178 14 = .ok (.iinc 2 1, 3) := by decide +kernel
theorem dJ7_fill_53178_17 : decode cJ7_fill_53178 17 = .ok (.goto (-12), 3) := by decide +kernel
theorem dJ7_fill_53178_20 : decode cJ7_fill_53178 20 = .ok (.return_, 1) := by decide +kernel
theorem dJ7_fill_031fb_0 : decode cJ7_fill_031fb 0 = .ok (.iconst 0, 1) := by decide +kernel
theorem dJ7_fill_031fb_1 : decode cJ7_fill_031fb 1 = .ok (.istore_n 2, 1) := by decide +kernel
theorem dJ7_fill_031fb_2 : decode cJ7_fill_031fb 2 = .ok (.aload_n 0, 1) := by decide +kernel
theorem dJ7_fill_031fb_3 : decode cJ7_fill_031fb 3 = .ok (.arraylength, 1) := by decide +kernel
theorem dJ7_fill_031fb_4 : decode cJ7_fill_031fb 4 = .ok (.istore_n 3, 1) := by decide +kernel
theorem dJ7_fill_031fb_5 : decode cJ7_fill_031fb 5 = .ok (.iload_n 2, 1) := by decide +kernel
theorem dJ7_fill_031fb_6 : decode cJ7_fill_031fb 6 = .ok (.iload_n 3, 1) := by decide +kernel
theorem dJ7_fill_031fb_7 : decode cJ7_fill_031fb 7 = .ok (.if_icmp .ge 13, 3) := by decide +kernel
theorem dJ7_fill_031fb_10 : decode cJ7_fill_031fb 10 = .ok (.aload_n 0, 1) := by decide +kernel
theorem dJ7_fill_031fb_11 : decode cJ7_fill_031fb 11 = .ok (.iload_n 2, 1) := by decide +kernel
theorem dJ7_fill_031fb_12 : decode cJ7_fill_031fb 12 = .ok (.iload_n 1, 1) := by decide +kernel
theorem dJ7_fill_031fb_13 : decode cJ7_fill_031fb 13 = .ok (.bastore, 1) := by decide +kernel
theorem dJ7_fill_031fb_14 : decode cJ7_fill_031fb 14 = .ok (.iinc 2 1, 3) := by decide +kernel
theorem dJ7_fill_031fb_17 : decode cJ7_fill_031fb 17 = .ok (.goto (-12), 3) := by decide +kernel
theorem dJ7_fill_031fb_20 : decode cJ7_fill_031fb 20 = .ok (.return_, 1) := by decide +kernel
theorem dJ3_checkIndex_8e157_0 : decode cJ3_checkIndex_8e157 0 = .ok (.iload_n 0, 1) := by decide +kernel
theorem dJ3_checkIndex_8e157_1 : decode cJ3_checkIndex_8e157 1 = .ok (.ifCond .lt 8, 3) := by decide +kernel
theorem dJ3_checkIndex_8e157_4 : decode cJ3_checkIndex_8e157 4 = .ok (.iload_n 0, 1) := by decide +kernel
theorem dJ3_checkIndex_8e157_5 : decode cJ3_checkIndex_8e157 5 = .ok (.iload_n 1, 1) := by decide +kernel
theorem dJ3_checkIndex_8e157_6 : decode cJ3_checkIndex_8e157 6 = .ok (.if_icmp .lt 10, 3) := by decide +kernel
theorem dJ3_checkIndex_8e157_9 : decode cJ3_checkIndex_8e157 9 = .ok (.aload_n 2, 1) := by decide +kernel
theorem dJ3_checkIndex_8e157_10 : decode cJ3_checkIndex_8e157 10 = .ok (.iload_n 0, 1) := by decide +kernel
theorem dJ3_checkIndex_8e157_11 : decode cJ3_checkIndex_8e157 11 = .ok (.iload_n 1, 1) := by decide +kernel
theorem dJ3_checkIndex_8e157_12 : decode cJ3_checkIndex_8e157 12 = .ok (.invokestatic 95, 3) := by decide +kernel
theorem dJ3_checkIndex_8e157_15 : decode cJ3_checkIndex_8e157 15 = .ok (.athrow, 1) := by decide +kernel
theorem dJ3_checkIndex_8e157_16 : decode cJ3_checkIndex_8e157 16 = .ok (.iload_n 0, 1) := by decide +kernel
theorem dJ3_checkIndex_8e157_17 : decode cJ3_checkIndex_8e157 17 = .ok (.ireturn, 1) := by decide +kernel
theorem dL_type_0 : decode cL_type 0 = .ok (.aload 5, 2) := by decide +kernel
theorem dL_type_2 : decode cL_type 2 = .ok (.iconst 0, 1) := by decide +kernel
theorem dL_type_3 : decode cL_type 3 = .ok (.aload_n 0, 1) := by decide +kernel
theorem dL_type_4 : decode cL_type 4 = .ok (.iload_n 1, 1) := by decide +kernel
theorem dL_type_5 : decode cL_type 5 = .ok (.iload_n 2, 1) := by decide +kernel
theorem dL_type_6 : decode cL_type 6 = .ok (.iload_n 3, 1) := by decide +kernel
theorem dL_type_7 : decode cL_type 7 = .ok (.iload 4, 2) := by decide +kernel
theorem dL_type_9 : decode cL_type 9 = .ok (.invokevirtual 7, 3) := by decide +kernel
theorem dL_type_12 : decode cL_type 12 = .ok (.i2l, 1) := by decide +kernel
theorem dL_type_13 : decode cL_type 13 = .ok (.lastore, 1) := by decide +kernel
theorem dL_type_14 : decode cL_type 14 = .ok (.goto 7, 3) := by decide +kernel
theorem dL_type_17 : decode cL_type 17 = .ok (.astore 6, 2) := by decide +kernel
theorem dL_type_19 : decode cL_type 19 = .ok (.iconst 1, 1) := by decide +kernel
theorem dL_type_20 : decode cL_type 20 = .ok (.ireturn, 1) := by decide +kernel
theorem dL_type_21 : decode cL_type 21 = .ok (.iconst 0, 1) := by decide +kernel
theorem dL_type_22 : decode cL_type 22 = .ok (.ireturn, 1) := by decide +kernel
theorem dL_add_0 : decode cL_add 0 = .ok (.aload_n 2, 1) := by decide +kernel
theorem dL_add_1 : decode cL_add 1 = .ok (.iconst 0, 1) := by decide +kernel
theorem dL_add_2 : decode cL_add 2 = .ok (.aload_n 0, 1) := by decide +kernel
theorem dL_add_3 : decode cL_add 3 = .ok (.iload_n 1, 1) := by decide +kernel
theorem dL_add_4 : decode cL_add 4 = .ok (.invokevirtual 15, 3) := by decide +kernel
theorem dL_add_7 : decode cL_add 7 = .ok (.i2l, 1) := by decide +kernel
theorem dL_add_8 : decode cL_add 8 = .ok (.lastore, 1) := by decide +kernel
theorem dL_add_9 : decode cL_add 9 = .ok (.goto 9, 3) := by decide +kernel
theorem dL_add_12 : decode cL_add 12 = .ok (.astore_n 3, 1) := by decide +kernel
theorem dL_add_13 : decode cL_add 13 = .ok (.iconst 1, 1) := by decide +kernel
theorem dL_add_14 : decode cL_add 14 = .ok (.ireturn, 1) := by decide +kernel
theorem dL_add_15 : decode cL_add 15 = .ok (.astore_n 3, 1) := by decide +kernel
theorem dL_add_16 : decode cL_add 16 = .ok (.iconst 2, 1) := by decide +kernel
theorem dL_add_17 : decode cL_add 17 = .ok (.ireturn, 1) := by decide +kernel
theorem dL_add_18 : decode cL_add 18 = .ok (.iconst 0, 1) := by decide +kernel
theorem dL_add_19 : decode cL_add 19 = .ok (.ireturn, 1) := by decide +kernel
theorem dL_change_0 : decode cL_change 0 = .ok (.aload_n 0, 1) := by decide +kernel
theorem dL_change_1 : decode cL_change 1 = .ok (.iload_n 1, 1) := by decide +kernel
theorem dL_change_2 : decode cL_change 2 = .ok (.iload_n 2, 1) := by decide +kernel
theorem dL_change_3 : decode cL_change 3 = .ok (.invokevirtual 21, 3) := by decide +kernel
theorem dL_change_6 : decode cL_change 6 = .ok (.goto 6, 3) := by decide +kernel
theorem dL_change_9 : decode cL_change 9 = .ok (.astore_n 3, 1) := by decide +kernel
theorem dL_change_10 : decode cL_change 10 = .ok (.iconst 1, 1) := by decide +kernel
theorem dL_change_11 : decode cL_change 11 = .ok (.ireturn, 1) := by decide +kernel
theorem dL_change_12 : decode cL_change 12 = .ok (.iconst 0, 1) := by decide +kernel
theorem dL_change_13 : decode cL_change 13 = .ok (.ireturn, 1) := by decide +kernel
theorem dL_drop_0 : decode cL_drop 0 = .ok (.aload_n 2, 1) := by decide +kernel
theorem dL_drop_1 : decode cL_drop 1 = .ok (.iconst 0, 1) := by decide +kernel
theorem dL_drop_2 : decode cL_drop 2 = .ok (.aload_n 0, 1) := by decide +kernel
theorem dL_drop_3 : decode cL_drop 3 = .ok (.iload_n 1, 1) := by decide +kernel
theorem dL_drop_4 : decode cL_drop 4 = .ok (.invokevirtual 25, 3) := by decide +kernel
theorem dL_drop_7 : decode cL_drop 7 = .ok (.i2l, 1) := by decide +kernel
theorem dL_drop_8 : decode cL_drop 8 = .ok (.lastore, 1) := by decide +kernel
theorem dL_drop_9 : decode cL_drop 9 = .ok (.goto 6, 3) := by decide +kernel
theorem dL_drop_12 : decode cL_drop 12 = .ok (.astore_n 3, 1) := by decide +kernel
theorem dL_drop_13 : decode cL_drop 13 = .ok (.iconst 1, 1) := by decide +kernel
theorem dL_drop_14 : decode cL_drop 14 = .ok (.ireturn, 1) := by decide +kernel
theorem dL_drop_15 : decode cL_drop 15 = .ok (.iconst 0, 1) := by decide +kernel
theorem dL_drop_16 : decode cL_drop 16 = .ok (.ireturn, 1) := by decide +kernel
theorem dL_fault_0 : decode cL_fault 0 = .ok (.aload_n 2, 1) := by decide +kernel
theorem dL_fault_1 : decode cL_fault 1 = .ok (.iconst 0, 1) := by decide +kernel
theorem dL_fault_2 : decode cL_fault 2 = .ok (.aload_n 0, 1) := by decide +kernel
theorem dL_fault_3 : decode cL_fault 3 = .ok (.iload_n 1, 1) := by decide +kernel
theorem dL_fault_4 : decode cL_fault 4 = .ok (.invokevirtual 28, 3) := by decide +kernel
theorem dL_fault_7 : decode cL_fault 7 = .ok (.i2l, 1) := by decide +kernel
theorem dL_fault_8 : decode cL_fault 8 = .ok (.lastore, 1) := by decide +kernel
theorem dL_fault_9 : decode cL_fault 9 = .ok (.goto 6, 3) := by decide +kernel
theorem dL_fault_12 : decode cL_fault 12 = .ok (.astore_n 3, 1) := by decide +kernel
theorem dL_fault_13 : decode cL_fault 13 = .ok (.iconst 1, 1) := by decide +kernel
theorem dL_fault_14 : decode cL_fault 14 = .ok (.ireturn, 1) := by decide +kernel
theorem dL_fault_15 : decode cL_fault 15 = .ok (.iconst 0, 1) := by decide +kernel
theorem dL_fault_16 : decode cL_fault 16 = .ok (.ireturn, 1) := by decide +kernel
theorem dL_address_0 : decode cL_address 0 = .ok (.aload_n 2, 1) := by decide +kernel
theorem dL_address_1 : decode cL_address 1 = .ok (.iconst 0, 1) := by decide +kernel
theorem dL_address_2 : decode cL_address 2 = .ok (.aload_n 0, 1) := by decide +kernel
theorem dL_address_3 : decode cL_address 3 = .ok (.iload_n 1, 1) := by decide +kernel
theorem dL_address_4 : decode cL_address 4 = .ok (.invokevirtual 31, 3) := by decide +kernel
theorem dL_address_7 : decode cL_address 7 = .ok (.i2l, 1) := by decide +kernel
theorem dL_address_8 : decode cL_address 8 = .ok (.lastore, 1) := by decide +kernel
theorem dL_address_9 : decode cL_address 9 = .ok (.goto 6, 3) := by decide +kernel
theorem dL_address_12 : decode cL_address 12 = .ok (.astore_n 3, 1) := by decide +kernel
theorem dL_address_13 : decode cL_address 13 = .ok (.iconst 1, 1) := by decide +kernel
theorem dL_address_14 : decode cL_address 14 = .ok (.ireturn, 1) := by decide +kernel
theorem dL_address_15 : decode cL_address 15 = .ok (.iconst 0, 1) := by decide +kernel
theorem dL_address_16 : decode cL_address 16 = .ok (.ireturn, 1) := by decide +kernel
theorem dL_size_0 : decode cL_size 0 = .ok (.aload_n 3, 1) := by decide +kernel
theorem dL_size_1 : decode cL_size 1 = .ok (.iconst 0, 1) := by decide +kernel
theorem dL_size_2 : decode cL_size 2 = .ok (.aload_n 0, 1) := by decide +kernel
theorem dL_size_3 : decode cL_size 3 = .ok (.iload_n 1, 1) := by decide +kernel
theorem dL_size_4 : decode cL_size 4 = .ok (.iload_n 2, 1) := by decide +kernel
theorem dL_size_5 : decode cL_size 5 = .ok (.invokevirtual 34, 3) := by decide +kernel
theorem dL_size_8 : decode cL_size 8 = .ok (.i2l, 1) := by decide +kernel
theorem dL_size_9 : decode cL_size 9 = .ok (.lastore, 1) := by decide +kernel
theorem dL_size_10 : decode cL_size 10 = .ok (.goto 7, 3) := by decide +kernel
theorem dL_size_13 : decode cL_size 13 = .ok (.astore 4, 2) := by decide +kernel
theorem dL_size_15 : decode cL_size 15 = .ok (.iconst 1, 1) := by decide +kernel
theorem dL_size_16 : decode cL_size 16 = .ok (.ireturn, 1) := by decide +kernel
theorem dL_size_17 : decode cL_size 17 = .ok (.iconst 0, 1) := by decide +kernel
theorem dL_size_18 : decode cL_size 18 = .ok (.ireturn, 1) := by decide +kernel
theorem dL_law_0 : decode cL_law 0 = .ok (.new 8, 3) := by decide +kernel
theorem dL_law_3 : decode cL_law 3 = .ok (.dup, 1) := by decide +kernel
theorem dL_law_4 : decode cL_law 4 = .ok (.invokespecial 38, 3) := by decide +kernel
theorem dL_law_7 : decode cL_law 7 = .ok (.astore_n 1, 1) := by decide +kernel
theorem dL_law_8 : decode cL_law 8 = .ok (.new 39, 3) := by decide +kernel
theorem dL_law_11 : decode cL_law 11 = .ok (.dup, 1) := by decide +kernel
theorem dL_law_12 : decode cL_law 12 = .ok (.invokespecial 41, 3) := by decide +kernel
theorem dL_law_15 : decode cL_law 15 = .ok (.astore_n 2, 1) := by decide +kernel
theorem dL_law_16 : decode cL_law 16 = .ok (.iconst 1, 1) := by decide +kernel
theorem dL_law_17 : decode cL_law 17 = .ok (.newarray .long, 2) := by decide +kernel
theorem dL_law_19 : decode cL_law 19 = .ok (.astore_n 3, 1) := by decide +kernel
theorem dL_law_20 : decode cL_law 20 = .ok (.iconst 0, 1) := by decide +kernel
theorem dL_law_21 : decode cL_law 21 = .ok (.istore 4, 2) := by decide +kernel
theorem dL_law_23 : decode cL_law 23 = .ok (.iload 4, 2) := by decide +kernel
theorem dL_law_25 : decode cL_law 25 = .ok (.aload_n 0, 1) := by decide +kernel
theorem dL_law_26 : decode cL_law 26 = .ok (.arraylength, 1) := by decide +kernel
theorem dL_law_27 : decode cL_law 27 = .ok (.iconst 5, 1) := by decide +kernel
theorem dL_law_28 : decode cL_law 28 = .ok (.isub, 1) := by decide +kernel
theorem dL_law_29 : decode cL_law 29 = .ok (.if_icmp .gt 581, 3) := by decide +kernel
theorem dL_law_32 : decode cL_law 32 = .ok (.aload_n 0, 1) := by decide +kernel
theorem dL_law_33 : decode cL_law 33 = .ok (.iload 4, 2) := by decide +kernel
theorem dL_law_35 : decode cL_law 35 = .ok (.iaload, 1) := by decide +kernel
theorem dL_law_36 : decode cL_law 36 = .ok (.bipush 15, 2) := by decide +kernel
theorem dL_law_38 : decode cL_law 38 = .ok (.iand, 1) := by decide +kernel
theorem dL_law_39 : decode cL_law 39 = .ok (.tableswitch 565 0 10 #[57, 149, 162, 218, 266, 322, 335, 391, 416, 441, 497], 57) := by decide +kernel
theorem dL_law_96 : decode cL_law 96 = .ok (.aload_n 1, 1) := by decide +kernel
theorem dL_law_97 : decode cL_law 97 = .ok (.aload_n 0, 1) := by decide +kernel
theorem dL_law_98 : decode cL_law 98 = .ok (.iload 4, 2) := by decide +kernel
theorem dL_law_100 : decode cL_law 100 = .ok (.iconst 1, 1) := by decide +kernel
theorem dL_law_101 : decode cL_law 101 = .ok (.iadd, 1) := by decide +kernel
theorem dL_law_102 : decode cL_law 102 = .ok (.iaload, 1) := by decide +kernel
theorem dL_law_103 : decode cL_law 103 = .ok (.aload_n 0, 1) := by decide +kernel
theorem dL_law_104 : decode cL_law 104 = .ok (.iload 4, 2) := by decide +kernel
theorem dL_law_106 : decode cL_law 106 = .ok (.iconst 2, 1) := by decide +kernel
theorem dL_law_107 : decode cL_law 107 = .ok (.iadd, 1) := by decide +kernel
theorem dL_law_108 : decode cL_law 108 = .ok (.iaload, 1) := by decide +kernel
theorem dL_law_109 : decode cL_law 109 = .ok (.aload_n 0, 1) := by decide +kernel
theorem dL_law_110 : decode cL_law 110 = .ok (.iload 4, 2) := by decide +kernel
theorem dL_law_112 : decode cL_law 112 = .ok (.iconst 3, 1) := by decide +kernel
theorem dL_law_113 : decode cL_law 113 = .ok (.iadd, 1) := by decide +kernel
theorem dL_law_114 : decode cL_law 114 = .ok (.iaload, 1) := by decide +kernel
theorem dL_law_115 : decode cL_law 115 = .ok (.aload_n 0, 1) := by decide +kernel
theorem dL_law_116 : decode cL_law 116 = .ok (.iload 4, 2) := by decide +kernel
theorem dL_law_118 : decode cL_law 118 = .ok (.iconst 4, 1) := by decide +kernel
theorem dL_law_119 : decode cL_law 119 = .ok (.iadd, 1) := by decide +kernel
theorem dL_law_120 : decode cL_law 120 = .ok (.iaload, 1) := by decide +kernel
theorem dL_law_121 : decode cL_law 121 = .ok (.aload_n 3, 1) := by decide +kernel
theorem dL_law_122 : decode cL_law 122 = .ok (.invokestatic 42, 3) := by decide +kernel
theorem dL_law_125 : decode cL_law 125 = .ok (.istore 5, 2) := by decide +kernel
theorem dL_law_127 : decode cL_law 127 = .ok (.aload_n 2, 1) := by decide +kernel
theorem dL_law_128 : decode cL_law 128 = .ok (.aload_n 0, 1) := by decide +kernel
theorem dL_law_129 : decode cL_law 129 = .ok (.iload 4, 2) := by decide +kernel
theorem dL_law_131 : decode cL_law 131 = .ok (.iconst 1, 1) := by decide +kernel
theorem dL_law_132 : decode cL_law 132 = .ok (.iadd, 1) := by decide +kernel
theorem dL_law_133 : decode cL_law 133 = .ok (.iaload, 1) := by decide +kernel
theorem dL_law_134 : decode cL_law 134 = .ok (.aload_n 0, 1) := by decide +kernel
theorem dL_law_135 : decode cL_law 135 = .ok (.iload 4, 2) := by decide +kernel
theorem dL_law_137 : decode cL_law 137 = .ok (.iconst 2, 1) := by decide +kernel
theorem dL_law_138 : decode cL_law 138 = .ok (.iadd, 1) := by decide +kernel
theorem dL_law_139 : decode cL_law 139 = .ok (.iaload, 1) := by decide +kernel
theorem dL_law_140 : decode cL_law 140 = .ok (.aload_n 0, 1) := by decide +kernel
theorem dL_law_141 : decode cL_law 141 = .ok (.iload 4, 2) := by decide +kernel
theorem dL_law_143 : decode cL_law 143 = .ok (.iconst 3, 1) := by decide +kernel
theorem dL_law_144 : decode cL_law 144 = .ok (.iadd, 1) := by decide +kernel
theorem dL_law_145 : decode cL_law 145 = .ok (.iaload, 1) := by decide +kernel
theorem dL_law_146 : decode cL_law 146 = .ok (.aload_n 0, 1) := by decide +kernel
theorem dL_law_147 : decode cL_law 147 = .ok (.iload 4, 2) := by decide +kernel
theorem dL_law_149 : decode cL_law 149 = .ok (.iconst 4, 1) := by decide +kernel
theorem dL_law_150 : decode cL_law 150 = .ok (.iadd, 1) := by decide +kernel
theorem dL_law_151 : decode cL_law 151 = .ok (.iaload, 1) := by decide +kernel
theorem dL_law_152 : decode cL_law 152 = .ok (.invokevirtual 47, 3) := by decide +kernel
theorem dL_law_155 : decode cL_law 155 = .ok (.istore 6, 2) := by decide +kernel
theorem dL_law_157 : decode cL_law 157 = .ok (.aload_n 2, 1) := by decide +kernel
theorem dL_law_158 : decode cL_law 158 = .ok (.invokevirtual 48, 3) := by decide +kernel
theorem dL_law_161 : decode cL_law 161 = .ok (.iload 5, 2) := by decide +kernel
theorem dL_law_163 : decode cL_law 163 = .ok (.if_icmp .eq 5, 3) := by decide +kernel
theorem dL_law_166 : decode cL_law 166 = .ok (.iconst 0, 1) := by decide +kernel
theorem dL_law_167 : decode cL_law 167 = .ok (.ireturn, 1) := by decide +kernel
theorem dL_law_168 : decode cL_law 168 = .ok (.iload 5, 2) := by decide +kernel
theorem dL_law_170 : decode cL_law 170 = .ok (.ifCond .ne 15, 3) := by decide +kernel
theorem dL_law_173 : decode cL_law 173 = .ok (.aload_n 3, 1) := by decide +kernel
theorem dL_law_174 : decode cL_law 174 = .ok (.iconst 0, 1) := by decide +kernel
theorem dL_law_175 : decode cL_law 175 = .ok (.laload, 1) := by decide +kernel
theorem dL_law_176 : decode cL_law 176 = .ok (.iload 6, 2) := by decide +kernel
theorem dL_law_178 : decode cL_law 178 = .ok (.i2l, 1) := by decide +kernel
theorem dL_law_179 : decode cL_law 179 = .ok (.lcmp, 1) := by decide +kernel
theorem dL_law_180 : decode cL_law 180 = .ok (.ifCond .eq 5, 3) := by decide +kernel
theorem dL_law_183 : decode cL_law 183 = .ok (.iconst 0, 1) := by decide +kernel
theorem dL_law_184 : decode cL_law 184 = .ok (.ireturn, 1) := by decide +kernel
theorem dL_law_185 : decode cL_law 185 = .ok (.goto 419, 3) := by decide +kernel
theorem dL_law_188 : decode cL_law 188 = .ok (.aload_n 1, 1) := by decide +kernel
theorem dL_law_189 : decode cL_law 189 = .ok (.invokevirtual 52, 3) := by decide +kernel
theorem dL_law_192 : decode cL_law 192 = .ok (.aload_n 2, 1) := by decide +kernel
theorem dL_law_193 : decode cL_law 193 = .ok (.invokevirtual 55, 3) := by decide +kernel
theorem dL_law_196 : decode cL_law 196 = .ok (.if_icmp .eq 408, 3) := by decide +kernel
theorem dL_law_199 : decode cL_law 199 = .ok (.iconst 0, 1) := by decide +kernel
theorem dL_law_200 : decode cL_law 200 = .ok (.ireturn, 1) := by decide +kernel
theorem dL_law_201 : decode cL_law 201 = .ok (.aload_n 1, 1) := by decide +kernel
theorem dL_law_202 : decode cL_law 202 = .ok (.aload_n 0, 1) := by decide +kernel
theorem dL_law_203 : decode cL_law 203 = .ok (.iload 4, 2) := by decide +kernel
theorem dL_law_205 : decode cL_law 205 = .ok (.iconst 1, 1) := by decide +kernel
theorem dL_law_206 : decode cL_law 206 = .ok (.iadd, 1) := by decide +kernel
theorem dL_law_207 : decode cL_law 207 = .ok (.iaload, 1) := by decide +kernel
theorem dL_law_208 : decode cL_law 208 = .ok (.aload_n 3, 1) := by decide +kernel
theorem dL_law_209 : decode cL_law 209 = .ok (.invokestatic 56, 3) := by decide +kernel
theorem dL_law_212 : decode cL_law 212 = .ok (.istore 5, 2) := by decide +kernel
theorem dL_law_214 : decode cL_law 214 = .ok (.aload_n 2, 1) := by decide +kernel
theorem dL_law_215 : decode cL_law 215 = .ok (.aload_n 0, 1) := by decide +kernel
theorem dL_law_216 : decode cL_law 216 = .ok (.iload 4, 2) := by decide +kernel
theorem dL_law_218 : decode cL_law 218 = .ok (.iconst 1, 1) := by decide +kernel
theorem dL_law_219 : decode cL_law 219 = .ok (.iadd, 1) := by decide +kernel
theorem dL_law_220 : decode cL_law 220 = .ok (.iaload, 1) := by decide +kernel
theorem dL_law_221 : decode cL_law 221 = .ok (.invokevirtual 59, 3) := by decide +kernel
theorem dL_law_224 : decode cL_law 224 = .ok (.istore 6, 2) := by decide +kernel
theorem dL_law_226 : decode cL_law 226 = .ok (.aload_n 2, 1) := by decide +kernel
theorem dL_law_227 : decode cL_law 227 = .ok (.invokevirtual 48, 3) := by decide +kernel
theorem dL_law_230 : decode cL_law 230 = .ok (.iload 5, 2) := by decide +kernel
theorem dL_law_232 : decode cL_law 232 = .ok (.if_icmp .eq 5, 3) := by decide +kernel
theorem dL_law_235 : decode cL_law 235 = .ok (.iconst 0, 1) := by decide +kernel
theorem dL_law_236 : decode cL_law 236 = .ok (.ireturn, 1) := by decide +kernel
theorem dL_law_237 : decode cL_law 237 = .ok (.iload 5, 2) := by decide +kernel
theorem dL_law_239 : decode cL_law 239 = .ok (.ifCond .ne 15, 3) := by decide +kernel
theorem dL_law_242 : decode cL_law 242 = .ok (.aload_n 3, 1) := by decide +kernel
theorem dL_law_243 : decode cL_law 243 = .ok (.iconst 0, 1) := by decide +kernel
theorem dL_law_244 : decode cL_law 244 = .ok (.laload, 1) := by decide +kernel
theorem dL_law_245 : decode cL_law 245 = .ok (.iload 6, 2) := by decide +kernel
theorem dL_law_247 : decode cL_law 247 = .ok (.i2l, 1) := by decide +kernel
theorem dL_law_248 : decode cL_law 248 = .ok (.lcmp, 1) := by decide +kernel
theorem dL_law_249 : decode cL_law 249 = .ok (.ifCond .eq 5, 3) := by decide +kernel
theorem dL_law_252 : decode cL_law 252 = .ok (.iconst 0, 1) := by decide +kernel
theorem dL_law_253 : decode cL_law 253 = .ok (.ireturn, 1) := by decide +kernel
theorem dL_law_254 : decode cL_law 254 = .ok (.goto 350, 3) := by decide +kernel
theorem dL_law_257 : decode cL_law 257 = .ok (.aload_n 1, 1) := by decide +kernel
theorem dL_law_258 : decode cL_law 258 = .ok (.aload_n 0, 1) := by decide +kernel
theorem dL_law_259 : decode cL_law 259 = .ok (.iload 4, 2) := by decide +kernel
theorem dL_law_261 : decode cL_law 261 = .ok (.iconst 1, 1) := by decide +kernel
theorem dL_law_262 : decode cL_law 262 = .ok (.iadd, 1) := by decide +kernel
theorem dL_law_263 : decode cL_law 263 = .ok (.iaload, 1) := by decide +kernel
theorem dL_law_264 : decode cL_law 264 = .ok (.aload_n 0, 1) := by decide +kernel
theorem dL_law_265 : decode cL_law 265 = .ok (.iload 4, 2) := by decide +kernel
theorem dL_law_267 : decode cL_law 267 = .ok (.iconst 2, 1) := by decide +kernel
theorem dL_law_268 : decode cL_law 268 = .ok (.iadd, 1) := by decide +kernel
theorem dL_law_269 : decode cL_law 269 = .ok (.iaload, 1) := by decide +kernel
theorem dL_law_270 : decode cL_law 270 = .ok (.invokestatic 60, 3) := by decide +kernel
theorem dL_law_273 : decode cL_law 273 = .ok (.istore 5, 2) := by decide +kernel
theorem dL_law_275 : decode cL_law 275 = .ok (.aload_n 2, 1) := by decide +kernel
theorem dL_law_276 : decode cL_law 276 = .ok (.aload_n 0, 1) := by decide +kernel
theorem dL_law_277 : decode cL_law 277 = .ok (.iload 4, 2) := by decide +kernel
theorem dL_law_279 : decode cL_law 279 = .ok (.iconst 1, 1) := by decide +kernel
theorem dL_law_280 : decode cL_law 280 = .ok (.iadd, 1) := by decide +kernel
theorem dL_law_281 : decode cL_law 281 = .ok (.iaload, 1) := by decide +kernel
theorem dL_law_282 : decode cL_law 282 = .ok (.aload_n 0, 1) := by decide +kernel
theorem dL_law_283 : decode cL_law 283 = .ok (.iload 4, 2) := by decide +kernel
theorem dL_law_285 : decode cL_law 285 = .ok (.iconst 2, 1) := by decide +kernel
theorem dL_law_286 : decode cL_law 286 = .ok (.iadd, 1) := by decide +kernel
theorem dL_law_287 : decode cL_law 287 = .ok (.iaload, 1) := by decide +kernel
theorem dL_law_288 : decode cL_law 288 = .ok (.invokevirtual 63, 3) := by decide +kernel
theorem dL_law_291 : decode cL_law 291 = .ok (.aload_n 2, 1) := by decide +kernel
theorem dL_law_292 : decode cL_law 292 = .ok (.invokevirtual 48, 3) := by decide +kernel
theorem dL_law_295 : decode cL_law 295 = .ok (.iload 5, 2) := by decide +kernel
theorem dL_law_297 : decode cL_law 297 = .ok (.if_icmp .eq 5, 3) := by decide +kernel
theorem dL_law_300 : decode cL_law 300 = .ok (.iconst 0, 1) := by decide +kernel
theorem dL_law_301 : decode cL_law 301 = .ok (.ireturn, 1) := by decide +kernel
theorem dL_law_302 : decode cL_law 302 = .ok (.goto 302, 3) := by decide +kernel
theorem dL_law_305 : decode cL_law 305 = .ok (.aload_n 1, 1) := by decide +kernel
theorem dL_law_306 : decode cL_law 306 = .ok (.aload_n 0, 1) := by decide +kernel
theorem dL_law_307 : decode cL_law 307 = .ok (.iload 4, 2) := by decide +kernel
theorem dL_law_309 : decode cL_law 309 = .ok (.iconst 1, 1) := by decide +kernel
theorem dL_law_310 : decode cL_law 310 = .ok (.iadd, 1) := by decide +kernel
theorem dL_law_311 : decode cL_law 311 = .ok (.iaload, 1) := by decide +kernel
theorem dL_law_312 : decode cL_law 312 = .ok (.aload_n 3, 1) := by decide +kernel
theorem dL_law_313 : decode cL_law 313 = .ok (.invokestatic 64, 3) := by decide +kernel
theorem dL_law_316 : decode cL_law 316 = .ok (.istore 5, 2) := by decide +kernel
theorem dL_law_318 : decode cL_law 318 = .ok (.aload_n 2, 1) := by decide +kernel
theorem dL_law_319 : decode cL_law 319 = .ok (.aload_n 0, 1) := by decide +kernel
theorem dL_law_320 : decode cL_law 320 = .ok (.iload 4, 2) := by decide +kernel
theorem dL_law_322 : decode cL_law 322 = .ok (.iconst 1, 1) := by decide +kernel
theorem dL_law_323 : decode cL_law 323 = .ok (.iadd, 1) := by decide +kernel
theorem dL_law_324 : decode cL_law 324 = .ok (.iaload, 1) := by decide +kernel
theorem dL_law_325 : decode cL_law 325 = .ok (.invokevirtual 66, 3) := by decide +kernel
theorem dL_law_328 : decode cL_law 328 = .ok (.istore 6, 2) := by decide +kernel
theorem dL_law_330 : decode cL_law 330 = .ok (.aload_n 2, 1) := by decide +kernel
theorem dL_law_331 : decode cL_law 331 = .ok (.invokevirtual 48, 3) := by decide +kernel
theorem dL_law_334 : decode cL_law 334 = .ok (.iload 5, 2) := by decide +kernel
theorem dL_law_336 : decode cL_law 336 = .ok (.if_icmp .eq 5, 3) := by decide +kernel
theorem dL_law_339 : decode cL_law 339 = .ok (.iconst 0, 1) := by decide +kernel
theorem dL_law_340 : decode cL_law 340 = .ok (.ireturn, 1) := by decide +kernel
theorem dL_law_341 : decode cL_law 341 = .ok (.iload 5, 2) := by decide +kernel
theorem dL_law_343 : decode cL_law 343 = .ok (.ifCond .ne 15, 3) := by decide +kernel
theorem dL_law_346 : decode cL_law 346 = .ok (.aload_n 3, 1) := by decide +kernel
theorem dL_law_347 : decode cL_law 347 = .ok (.iconst 0, 1) := by decide +kernel
theorem dL_law_348 : decode cL_law 348 = .ok (.laload, 1) := by decide +kernel
theorem dL_law_349 : decode cL_law 349 = .ok (.iload 6, 2) := by decide +kernel
theorem dL_law_351 : decode cL_law 351 = .ok (.i2l, 1) := by decide +kernel
theorem dL_law_352 : decode cL_law 352 = .ok (.lcmp, 1) := by decide +kernel
theorem dL_law_353 : decode cL_law 353 = .ok (.ifCond .eq 5, 3) := by decide +kernel
theorem dL_law_356 : decode cL_law 356 = .ok (.iconst 0, 1) := by decide +kernel
theorem dL_law_357 : decode cL_law 357 = .ok (.ireturn, 1) := by decide +kernel
theorem dL_law_358 : decode cL_law 358 = .ok (.goto 246, 3) := by decide +kernel
theorem dL_law_361 : decode cL_law 361 = .ok (.aload_n 1, 1) := by decide +kernel
theorem dL_law_362 : decode cL_law 362 = .ok (.invokevirtual 67, 3) := by decide +kernel
theorem dL_law_365 : decode cL_law 365 = .ok (.aload_n 2, 1) := by decide +kernel
theorem dL_law_366 : decode cL_law 366 = .ok (.invokevirtual 70, 3) := by decide +kernel
theorem dL_law_369 : decode cL_law 369 = .ok (.if_icmp .eq 235, 3) := by decide +kernel
theorem dL_law_372 : decode cL_law 372 = .ok (.iconst 0, 1) := by decide +kernel
theorem dL_law_373 : decode cL_law 373 = .ok (.ireturn, 1) := by decide +kernel
theorem dL_law_374 : decode cL_law 374 = .ok (.aload_n 1, 1) := by decide +kernel
theorem dL_law_375 : decode cL_law 375 = .ok (.aload_n 0, 1) := by decide +kernel
theorem dL_law_376 : decode cL_law 376 = .ok (.iload 4, 2) := by decide +kernel
theorem dL_law_378 : decode cL_law 378 = .ok (.iconst 1, 1) := by decide +kernel
theorem dL_law_379 : decode cL_law 379 = .ok (.iadd, 1) := by decide +kernel
theorem dL_law_380 : decode cL_law 380 = .ok (.iaload, 1) := by decide +kernel
theorem dL_law_381 : decode cL_law 381 = .ok (.aload_n 3, 1) := by decide +kernel
theorem dL_law_382 : decode cL_law 382 = .ok (.invokestatic 71, 3) := by decide +kernel
theorem dL_law_385 : decode cL_law 385 = .ok (.istore 5, 2) := by decide +kernel
theorem dL_law_387 : decode cL_law 387 = .ok (.aload_n 2, 1) := by decide +kernel
theorem dL_law_388 : decode cL_law 388 = .ok (.aload_n 0, 1) := by decide +kernel
theorem dL_law_389 : decode cL_law 389 = .ok (.iload 4, 2) := by decide +kernel
theorem dL_law_391 : decode cL_law 391 = .ok (.iconst 1, 1) := by decide +kernel
theorem dL_law_392 : decode cL_law 392 = .ok (.iadd, 1) := by decide +kernel
theorem dL_law_393 : decode cL_law 393 = .ok (.iaload, 1) := by decide +kernel
theorem dL_law_394 : decode cL_law 394 = .ok (.invokevirtual 73, 3) := by decide +kernel
theorem dL_law_397 : decode cL_law 397 = .ok (.istore 6, 2) := by decide +kernel
theorem dL_law_399 : decode cL_law 399 = .ok (.aload_n 2, 1) := by decide +kernel
theorem dL_law_400 : decode cL_law 400 = .ok (.invokevirtual 48, 3) := by decide +kernel
theorem dL_law_403 : decode cL_law 403 = .ok (.iload 5, 2) := by decide +kernel
theorem dL_law_405 : decode cL_law 405 = .ok (.if_icmp .eq 5, 3) := by decide +kernel
theorem dL_law_408 : decode cL_law 408 = .ok (.iconst 0, 1) := by decide +kernel
theorem dL_law_409 : decode cL_law 409 = .ok (.ireturn, 1) := by decide +kernel
theorem dL_law_410 : decode cL_law 410 = .ok (.iload 5, 2) := by decide +kernel
theorem dL_law_412 : decode cL_law 412 = .ok (.ifCond .ne 15, 3) := by decide +kernel
theorem dL_law_415 : decode cL_law 415 = .ok (.aload_n 3, 1) := by decide +kernel
theorem dL_law_416 : decode cL_law 416 = .ok (.iconst 0, 1) := by decide +kernel
theorem dL_law_417 : decode cL_law 417 = .ok (.laload, 1) := by decide +kernel
theorem dL_law_418 : decode cL_law 418 = .ok (.iload 6, 2) := by decide +kernel
theorem dL_law_420 : decode cL_law 420 = .ok (.i2l, 1) := by decide +kernel
theorem dL_law_421 : decode cL_law 421 = .ok (.lcmp, 1) := by decide +kernel
theorem dL_law_422 : decode cL_law 422 = .ok (.ifCond .eq 5, 3) := by decide +kernel
theorem dL_law_425 : decode cL_law 425 = .ok (.iconst 0, 1) := by decide +kernel
theorem dL_law_426 : decode cL_law 426 = .ok (.ireturn, 1) := by decide +kernel
theorem dL_law_427 : decode cL_law 427 = .ok (.goto 177, 3) := by decide +kernel
theorem dL_law_430 : decode cL_law 430 = .ok (.aload_n 1, 1) := by decide +kernel
theorem dL_law_431 : decode cL_law 431 = .ok (.aload_n 0, 1) := by decide +kernel
theorem dL_law_432 : decode cL_law 432 = .ok (.iload 4, 2) := by decide +kernel
theorem dL_law_434 : decode cL_law 434 = .ok (.iconst 1, 1) := by decide +kernel
theorem dL_law_435 : decode cL_law 435 = .ok (.iadd, 1) := by decide +kernel
theorem dL_law_436 : decode cL_law 436 = .ok (.iaload, 1) := by decide +kernel
theorem dL_law_437 : decode cL_law 437 = .ok (.invokevirtual 74, 3) := by decide +kernel
theorem dL_law_440 : decode cL_law 440 = .ok (.aload_n 2, 1) := by decide +kernel
theorem dL_law_441 : decode cL_law 441 = .ok (.aload_n 0, 1) := by decide +kernel
theorem dL_law_442 : decode cL_law 442 = .ok (.iload 4, 2) := by decide +kernel
theorem dL_law_444 : decode cL_law 444 = .ok (.iconst 1, 1) := by decide +kernel
theorem dL_law_445 : decode cL_law 445 = .ok (.iadd, 1) := by decide +kernel
theorem dL_law_446 : decode cL_law 446 = .ok (.iaload, 1) := by decide +kernel
theorem dL_law_447 : decode cL_law 447 = .ok (.invokevirtual 77, 3) := by decide +kernel
theorem dL_law_450 : decode cL_law 450 = .ok (.if_icmp .eq 154, 3) := by decide +kernel
theorem dL_law_453 : decode cL_law 453 = .ok (.iconst 0, 1) := by decide +kernel
theorem dL_law_454 : decode cL_law 454 = .ok (.ireturn, 1) := by decide +kernel
theorem dL_law_455 : decode cL_law 455 = .ok (.aload_n 1, 1) := by decide +kernel
theorem dL_law_456 : decode cL_law 456 = .ok (.aload_n 0, 1) := by decide +kernel
theorem dL_law_457 : decode cL_law 457 = .ok (.iload 4, 2) := by decide +kernel
theorem dL_law_459 : decode cL_law 459 = .ok (.iconst 1, 1) := by decide +kernel
theorem dL_law_460 : decode cL_law 460 = .ok (.iadd, 1) := by decide +kernel
theorem dL_law_461 : decode cL_law 461 = .ok (.iaload, 1) := by decide +kernel
theorem dL_law_462 : decode cL_law 462 = .ok (.invokevirtual 78, 3) := by decide +kernel
theorem dL_law_465 : decode cL_law 465 = .ok (.aload_n 2, 1) := by decide +kernel
theorem dL_law_466 : decode cL_law 466 = .ok (.aload_n 0, 1) := by decide +kernel
theorem dL_law_467 : decode cL_law 467 = .ok (.iload 4, 2) := by decide +kernel
theorem dL_law_469 : decode cL_law 469 = .ok (.iconst 1, 1) := by decide +kernel
theorem dL_law_470 : decode cL_law 470 = .ok (.iadd, 1) := by decide +kernel
theorem dL_law_471 : decode cL_law 471 = .ok (.iaload, 1) := by decide +kernel
theorem dL_law_472 : decode cL_law 472 = .ok (.invokevirtual 82, 3) := by decide +kernel
theorem dL_law_475 : decode cL_law 475 = .ok (.if_icmp .eq 129, 3) := by decide +kernel
theorem dL_law_478 : decode cL_law 478 = .ok (.iconst 0, 1) := by decide +kernel
theorem dL_law_479 : decode cL_law 479 = .ok (.ireturn, 1) := by decide +kernel
theorem dL_law_480 : decode cL_law 480 = .ok (.aload_n 1, 1) := by decide +kernel
theorem dL_law_481 : decode cL_law 481 = .ok (.aload_n 0, 1) := by decide +kernel
theorem dL_law_482 : decode cL_law 482 = .ok (.iload 4, 2) := by decide +kernel
theorem dL_law_484 : decode cL_law 484 = .ok (.iconst 1, 1) := by decide +kernel
theorem dL_law_485 : decode cL_law 485 = .ok (.iadd, 1) := by decide +kernel
theorem dL_law_486 : decode cL_law 486 = .ok (.iaload, 1) := by decide +kernel
theorem dL_law_487 : decode cL_law 487 = .ok (.aload_n 3, 1) := by decide +kernel
theorem dL_law_488 : decode cL_law 488 = .ok (.invokestatic 83, 3) := by decide +kernel
theorem dL_law_491 : decode cL_law 491 = .ok (.istore 5, 2) := by decide +kernel
theorem dL_law_493 : decode cL_law 493 = .ok (.aload_n 2, 1) := by decide +kernel
theorem dL_law_494 : decode cL_law 494 = .ok (.aload_n 0, 1) := by decide +kernel
theorem dL_law_495 : decode cL_law 495 = .ok (.iload 4, 2) := by decide +kernel
theorem dL_law_497 : decode cL_law 497 = .ok (.iconst 1, 1) := by decide +kernel
theorem dL_law_498 : decode cL_law 498 = .ok (.iadd, 1) := by decide +kernel
theorem dL_law_499 : decode cL_law 499 = .ok (.iaload, 1) := by decide +kernel
theorem dL_law_500 : decode cL_law 500 = .ok (.invokevirtual 85, 3) := by decide +kernel
theorem dL_law_503 : decode cL_law 503 = .ok (.istore 6, 2) := by decide +kernel
theorem dL_law_505 : decode cL_law 505 = .ok (.aload_n 2, 1) := by decide +kernel
theorem dL_law_506 : decode cL_law 506 = .ok (.invokevirtual 48, 3) := by decide +kernel
theorem dL_law_509 : decode cL_law 509 = .ok (.iload 5, 2) := by decide +kernel
theorem dL_law_511 : decode cL_law 511 = .ok (.if_icmp .eq 5, 3) := by decide +kernel
theorem dL_law_514 : decode cL_law 514 = .ok (.iconst 0, 1) := by decide +kernel
theorem dL_law_515 : decode cL_law 515 = .ok (.ireturn, 1) := by decide +kernel
theorem dL_law_516 : decode cL_law 516 = .ok (.iload 5, 2) := by decide +kernel
theorem dL_law_518 : decode cL_law 518 = .ok (.ifCond .ne 15, 3) := by decide +kernel
theorem dL_law_521 : decode cL_law 521 = .ok (.aload_n 3, 1) := by decide +kernel
theorem dL_law_522 : decode cL_law 522 = .ok (.iconst 0, 1) := by decide +kernel
theorem dL_law_523 : decode cL_law 523 = .ok (.laload, 1) := by decide +kernel
theorem dL_law_524 : decode cL_law 524 = .ok (.iload 6, 2) := by decide +kernel
theorem dL_law_526 : decode cL_law 526 = .ok (.i2l, 1) := by decide +kernel
theorem dL_law_527 : decode cL_law 527 = .ok (.lcmp, 1) := by decide +kernel
theorem dL_law_528 : decode cL_law 528 = .ok (.ifCond .eq 5, 3) := by decide +kernel
theorem dL_law_531 : decode cL_law 531 = .ok (.iconst 0, 1) := by decide +kernel
theorem dL_law_532 : decode cL_law 532 = .ok (.ireturn, 1) := by decide +kernel
theorem dL_law_533 : decode cL_law 533 = .ok (.goto 71, 3) := by decide +kernel
theorem dL_law_536 : decode cL_law 536 = .ok (.aload_n 1, 1) := by decide +kernel
theorem dL_law_537 : decode cL_law 537 = .ok (.aload_n 0, 1) := by decide +kernel
theorem dL_law_538 : decode cL_law 538 = .ok (.iload 4, 2) := by decide +kernel
theorem dL_law_540 : decode cL_law 540 = .ok (.iconst 1, 1) := by decide +kernel
theorem dL_law_541 : decode cL_law 541 = .ok (.iadd, 1) := by decide +kernel
theorem dL_law_542 : decode cL_law 542 = .ok (.iaload, 1) := by decide +kernel
theorem dL_law_543 : decode cL_law 543 = .ok (.aload_n 0, 1) := by decide +kernel
theorem dL_law_544 : decode cL_law 544 = .ok (.iload 4, 2) := by decide +kernel
theorem dL_law_546 : decode cL_law 546 = .ok (.iconst 2, 1) := by decide +kernel
theorem dL_law_547 : decode cL_law 547 = .ok (.iadd, 1) := by decide +kernel
theorem dL_law_548 : decode cL_law 548 = .ok (.iaload, 1) := by decide +kernel
theorem dL_law_549 : decode cL_law 549 = .ok (.aload_n 3, 1) := by decide +kernel
theorem dL_law_550 : decode cL_law 550 = .ok (.invokestatic 86, 3) := by decide +kernel
theorem dL_law_553 : decode cL_law 553 = .ok (.istore 5, 2) := by decide +kernel
theorem dL_law_555 : decode cL_law 555 = .ok (.aload_n 2, 1) := by decide +kernel
theorem dL_law_556 : decode cL_law 556 = .ok (.aload_n 0, 1) := by decide +kernel
theorem dL_law_557 : decode cL_law 557 = .ok (.iload 4, 2) := by decide +kernel
theorem dL_law_559 : decode cL_law 559 = .ok (.iconst 1, 1) := by decide +kernel
theorem dL_law_560 : decode cL_law 560 = .ok (.iadd, 1) := by decide +kernel
theorem dL_law_561 : decode cL_law 561 = .ok (.iaload, 1) := by decide +kernel
theorem dL_law_562 : decode cL_law 562 = .ok (.aload_n 0, 1) := by decide +kernel
theorem dL_law_563 : decode cL_law 563 = .ok (.iload 4, 2) := by decide +kernel
theorem dL_law_565 : decode cL_law 565 = .ok (.iconst 2, 1) := by decide +kernel
theorem dL_law_566 : decode cL_law 566 = .ok (.iadd, 1) := by decide +kernel
theorem dL_law_567 : decode cL_law 567 = .ok (.iaload, 1) := by decide +kernel
theorem dL_law_568 : decode cL_law 568 = .ok (.invokevirtual 89, 3) := by decide +kernel
theorem dL_law_571 : decode cL_law 571 = .ok (.istore 6, 2) := by decide +kernel
theorem dL_law_573 : decode cL_law 573 = .ok (.aload_n 2, 1) := by decide +kernel
theorem dL_law_574 : decode cL_law 574 = .ok (.invokevirtual 48, 3) := by decide +kernel
theorem dL_law_577 : decode cL_law 577 = .ok (.iload 5, 2) := by decide +kernel
theorem dL_law_579 : decode cL_law 579 = .ok (.if_icmp .eq 5, 3) := by decide +kernel
theorem dL_law_582 : decode cL_law 582 = .ok (.iconst 0, 1) := by decide +kernel
theorem dL_law_583 : decode cL_law 583 = .ok (.ireturn, 1) := by decide +kernel
theorem dL_law_584 : decode cL_law 584 = .ok (.iload 5, 2) := by decide +kernel
theorem dL_law_586 : decode cL_law 586 = .ok (.ifCond .ne 15, 3) := by decide +kernel
theorem dL_law_589 : decode cL_law 589 = .ok (.aload_n 3, 1) := by decide +kernel
theorem dL_law_590 : decode cL_law 590 = .ok (.iconst 0, 1) := by decide +kernel
theorem dL_law_591 : decode cL_law 591 = .ok (.laload, 1) := by decide +kernel
theorem dL_law_592 : decode cL_law 592 = .ok (.iload 6, 2) := by decide +kernel
theorem dL_law_594 : decode cL_law 594 = .ok (.i2l, 1) := by decide +kernel
theorem dL_law_595 : decode cL_law 595 = .ok (.lcmp, 1) := by decide +kernel
theorem dL_law_596 : decode cL_law 596 = .ok (.ifCond .eq 5, 3) := by decide +kernel
theorem dL_law_599 : decode cL_law 599 = .ok (.iconst 0, 1) := by decide +kernel
theorem dL_law_600 : decode cL_law 600 = .ok (.ireturn, 1) := by decide +kernel
theorem dL_law_601 : decode cL_law 601 = .ok (.goto 3, 3) := by decide +kernel
theorem dL_law_604 : decode cL_law 604 = .ok (.iinc 4 5, 3) := by decide +kernel
theorem dL_law_607 : decode cL_law 607 = .ok (.goto (-584), 3) := by decide +kernel
theorem dL_law_610 : decode cL_law 610 = .ok (.iconst 1, 1) := by decide +kernel
theorem dL_law_611 : decode cL_law 611 = .ok (.ireturn, 1) := by decide +kernel
end
section
/-! WORDS: the good ones of the tables, the same for every method -/
def gw_tbl : List Cond := lw_tbl.filter goodWord
theorem gw_in {w : Cond} (i : Nat) (h : lw_tbl[i]? = some w) (hg : goodWord w = true) : w ∈ gw_tbl := List.mem_filter.mpr ⟨List.mem_of_getElem? h, hg⟩
theorem gw_mem {w : Cond} (h : w ∈ lw_tbl) (hg : goodWord w = true) : w ∈ gw_tbl := List.mem_filter.mpr ⟨h, hg⟩
theorem gw_all {ws : List Cond} (h : ∀ w ∈ ws, w ∈ lw_tbl) (hg : ws.all goodWord = true) : ∀ w ∈ ws, w ∈ gw_tbl := fun w hw => gw_mem (h w hw) (List.all_eq_true.mp hg w hw)
/-! ABSTRACT VALUES: a number, a long, a cell by its kind and its number there, null -/
abbrev AV : Type := Int32 ⊕ Int64 ⊕ Option (Nat × Nat)
abbrev vI (x : Int32) : AV := Sum.inl x
abbrev vJ (x : Int64) : AV := Sum.inr (Sum.inl x)
abbrev vR (k j : Nat) : AV := Sum.inr (Sum.inr (some (k, j)))
abbrev vN : AV := Sum.inr (Sum.inr none)
def cv (ad : Nat → Nat → Nat) : AV → Value
  | Sum.inl x => .int x
  | Sum.inr (Sum.inl x) => .long x
  | Sum.inr (Sum.inr (some (k, j))) => .ref (ad k j)
  | Sum.inr (Sum.inr none) => .null
/-! MEMORY: what int-like, long and reference slots hold; by kind, number, slot; a reference by the number of its target, whose kind is fixed -/
abbrev Mem : Type := (Nat → Nat → Nat → Int32) × (Nat → Nat → Nat → Int64) × (Nat → Nat → Nat → Nat)
def mI (M : Mem) (k j s : Nat) : Int32 := M.1 k j s
def mJ (M : Mem) (k j s : Nat) : Int64 := M.2.1 k j s
def mR (M : Mem) (k j s : Nat) : Nat := M.2.2 k j s
def up3 {α : Type} (f : Nat → Nat → Nat → α) (k j s : Nat) (v : α) : Nat → Nat → Nat → α := fun k' j' s' => if k' = k ∧ j' = j ∧ s' = s then v else f k' j' s'
def sI (M : Mem) (k j s : Nat) (v : Int32) : Mem := (up3 M.1 k j s v, M.2.1, M.2.2)
def sJ (M : Mem) (k j s : Nat) (v : Int64) : Mem := (M.1, up3 M.2.1 k j s v, M.2.2)
def sR (M : Mem) (k j s : Nat) (v : Nat) : Mem := (M.1, M.2.1, up3 M.2.2 k j s v)
/-! KINDS: 0 .. 11 objects (the classes of vwCl), 12 .. 41 arrays; 50 the enum's array, 51 its constants, 52 texts (not written) -/
def kF : Nat → List Nat
  | 0 => [5, 6, 4]
  | 1 => [0, 0, 0, 0]
  | 2 => [23, 0]
  | 3 => [17, 18, 19, 19, 19, 0]
  | 4 => [20, 20, 22, 0]
  | 5 => [8]
  | 6 => [11, 0, 0, 0, 0]
  | 7 => [16, 0]
  | 8 => [1, 0, 0, 0, 0, 0, 0, 1, 0, 0, 0, 0, 0]
  | 9 => [14, 0]
  | 10 => [11, 15, 7, 3, 2, 2]
  | 11 => [0, 24, 0, 25, 26, 27, 0, 0, 0, 0, 0, 0, 0, 0, 0, 0, 0, 0, 0, 0, 0, 28, 29, 30, 31, 32, 33, 34, 35, 36, 0, 37, 38, 39, 0, 40, 41, 0, 42, 0]
  | _ => []
/-- an array kind: number of its type, length, what a place holds -/
def kA : Nat → Nat × Nat × Nat
  | 12 => (1, 48, 0)
  | 13 => (5, 4, 9)
  | 14 => (6, 24, 10)
  | 15 => (3, 96, 1)
  | 16 => (4, 96, 0)
  | 17 => (2, 96, 0)
  | 18 => (7, 4, 21)
  | 19 => (2, 3, 0)
  | 20 => (2, 4, 0)
  | 21 => (0, 2048, 0)
  | 22 => (1, 48, 0)
  | 23 => (2, 4, 0)
  | 24 => (2, 96, 0)
  | 25 => (1, 4608, 0)
  | 26 => (1, 1152, 0)
  | 27 => (2, 192, 0)
  | 28 => (2, 192, 0)
  | 29 => (2, 192, 0)
  | 30 => (4, 192, 0)
  | 31 => (2, 12, 0)
  | 32 => (2, 12, 0)
  | 33 => (2, 12, 0)
  | 34 => (2, 12288, 0)
  | 35 => (2, 12, 0)
  | 36 => (2, 12, 0)
  | 37 => (2, 2048, 0)
  | 38 => (2, 3, 0)
  | 39 => (1, 6400, 0)
  | 40 => (2, 12, 0)
  | 41 => (3, 1, 1)
  | _ => (0, 0, 0)
def kCnt : Nat → Nat
  | 0 => 2
  | 1 => 1
  | 2 => 2
  | 3 => 2
  | 4 => 2
  | 5 => 1
  | 6 => 1
  | 7 => 4
  | 8 => 96
  | 9 => 2
  | 10 => 1
  | 11 => 1
  | 12 => 2
  | 13 => 1
  | 14 => 4
  | 15 => 2
  | 16 => 2
  | 17 => 6
  | 18 => 4
  | 19 => 16
  | 20 => 2
  | 21 => 2
  | 22 => 1
  | 23 => 1
  | 24 => 1
  | 25 => 1
  | 26 => 1
  | 27 => 1
  | 28 => 1
  | 29 => 1
  | 30 => 1
  | 31 => 1
  | 32 => 1
  | 33 => 1
  | 34 => 1
  | 35 => 1
  | 36 => 1
  | 37 => 1
  | 38 => 1
  | 39 => 1
  | 40 => 1
  | 41 => 1
  | 50 => 1
  | 51 => 49
  | 52 => 60
  | _ => 0
def tyT : Nat → FieldType
  | 0 => .byte
  | 1 => .char
  | 2 => .int
  | 3 => .long
  | 4 => .boolean
  | 5 => .object "ThumbLinker$Source"
  | 6 => .object "ThumbLinker$Statement"
  | _ => .array .int
def PL : List (Nat × Nat) := (List.range 42).flatMap (fun k => (List.range (kCnt k)).map (fun j => (k, j)))
theorem mem_PL {k j : Nat} : (k, j) ∈ PL ↔ k < 42 ∧ j < kCnt k := by
  unfold PL
  simp only [List.mem_flatMap, List.mem_range, List.mem_map, Prod.mk.injEq]
  constructor
  · rintro ⟨a, ha, b, hb, rfl, rfl⟩; exact ⟨ha, hb⟩
  · rintro ⟨h1, h2⟩; exact ⟨k, h1, j, h2, rfl, rfl⟩
theorem PL_nodup : PL.Nodup := by decide +kernel
/-! THE WORLD: launch, classes' numbers and slots, array classes, addresses of cells, addresses of texts' bytes -/
abbrev GX : Type := Launch × va_G × (Nat → ClassId) × (Nat → Nat → Nat) × (Nat → Nat)
abbrev gD (G : GX) : va_G := G.2.1
abbrev gC (G : GX) : Nat → ClassId := G.2.2.1
abbrev gA (G : GX) : Nat → Nat → Nat := G.2.2.2.1
abbrev gV (G : GX) : Nat → Nat := G.2.2.2.2
def valC (ad : Nat → Nat → Nat) (M : Mem) (k j s : Nat) : Nat → Value
  | 0 => .int (mI M k j s)
  | 1 => .long (mJ M k j s)
  | t + 2 => .ref (ad t (mR M k j s))
def contC (ad : Nat → Nat → Nat) (M : Mem) (k j : Nat) : Nat → ((Nat → Int32) ⊕ (Nat → Int64) ⊕ (Nat → UInt32) ⊕ (Nat → UInt64) ⊕ (Nat → Option Nat))
  | 0 => .inl (fun i => mI M k j i)
  | 1 => .inr (.inl (fun i => mJ M k j i))
  | t + 2 => .inr (.inr (.inr (.inr (fun i => some (ad t (mR M k j i))))))
def flds (G : GX) (M : Mem) (k j : Nat) : List Value := (List.range (kF k).length).map (fun s => valC (gA G) M k j s ((kF k).getD s 0))
def cellE (G : GX) (M : Mem) (k j : Nat) : va_E := if k < 12 then .inr (k, flds G M k j) else .inl (gC G (kA k).1, (kA k).2.1, contC (gA G) M k j (kA k).2.2)
def wsM (G : GX) (M : Mem) : va_W := PL.map (fun q => (gA G q.1 q.2, cellE G M q.1 q.2))
def tysG (G : GX) : List (ClassId × FieldType) := (List.range 8).map (fun t => (gC G t, tyT t))
theorem tysG_at (G : GX) {t : Nat} (h : t < 8) : (tysG G)[t]? = some (gC G t, tyT t) := by
  unfold tysG
  rw [List.getElem?_map, List.getElem?_range h]; rfl
def InjG (G : GX) : Prop := ∀ k j k' j', (k, j) ∈ PL → (k', j') ∈ PL → gA G k j = gA G k' j' → k = k' ∧ j = j'
def gPool (G : GX) (sz : Nat) : Nat → Prop := fun q => (∃ k j, (k, j) ∈ PL ∧ gA G k j = q) ∨ sz ≤ q
def Pw (G : GX) (M : Mem) (H : Heap) : Prop := va_P (gD G) vwCl (wsM G M) H
/-! VALID VALUES -/
def okV : AV → Prop
  | Sum.inr (Sum.inr (some (k, j))) => j < kCnt k
  | _ => True
def okVs (st : List AV) : Prop := ∀ v ∈ st, okV v
def okLs (ls : List (Option AV)) : Prop := ∀ (i : Nat) (v : AV), ls[i]? = some (some v) → okV v
def okO (r : Option AV) : Prop := ∀ v, r = some v → okV v
def slotC (k s : Nat) : Nat := if k < 12 then (kF k).getD s 0 else (kA k).2.2
def kLen (k : Nat) : Nat := if k < 12 then (kF k).length else (kA k).2.1
/-- the references that change: the linker's two builds, the scanner's line -/
def mutR (k s : Nat) : Bool := (k == 10 && (s == 4 || s == 5)) || (k == 6 && s == 0)
/-- the others: made once -/
def fixR (k j s : Nat) : Nat := match k, s with
  | 0, _ => j
  | 3, 0 => j
  | 3, 1 => j
  | 3, 2 => 3 * j
  | 3, 3 => 3 * j + 1
  | 3, 4 => 3 * j + 2
  | 4, 0 => 2 * j
  | 4, 1 => 2 * j + 1
  | 4, 2 => j
  | 2, 0 => j
  | 7, 0 => j
  | 9, 0 => j
  | 13, m => m
  | 14, i => 24 * j + i
  | 18, i => 4 * j + i
  | _, _ => 0
def okM (M : Mem) : Prop := ∀ k j s t : Nat, (k, j) ∈ PL → s < kLen k → slotC k s = t + 2 → mR M k j s < kCnt t ∧ (mutR k s = false → mR M k j s = fixR k j s)
theorem okVs.I {st : List AV} (h : okVs st) (x : Int32) : okVs (vI x :: st) := fun v hv => (List.mem_cons.mp hv).elim (fun e => by rw [e]; exact trivial) (h v)
theorem okVs.J {st : List AV} (h : okVs st) (x : Int64) : okVs (vJ x :: st) := fun v hv => (List.mem_cons.mp hv).elim (fun e => by rw [e]; exact trivial) (h v)
theorem okVs.d {st : List AV} {a : AV} (h : okVs (a :: st)) : okVs st := fun v hv => h v (List.mem_cons_of_mem _ hv)
theorem okVs.hd {st : List AV} {a : AV} (h : okVs (a :: st)) : okV a := h a List.mem_cons_self
theorem okVs.c {st : List AV} {a : AV} (ha : okV a) (h : okVs st) : okVs (a :: st) := fun v hv => (List.mem_cons.mp hv).elim (fun e => by rw [e]; exact ha) (h v)
theorem okVs.app {st st' : List AV} (h : okVs st) (h' : okVs st') : okVs (st ++ st') := fun v hv => (List.mem_append.mp hv).elim (h v) (h' v)
/-! LOCALS -/
def lvL (ad : Nat → Nat → Nat) : Nat → List (Option AV) → List (Nat × Value)
  | _, [] => []
  | i, none :: t => lvL ad (i + 1) t
  | i, some v :: t => (i, cv ad v) :: lvL ad (i + 1) t
theorem mem_lvL {ad : Nat → Nat → Nat} : ∀ {ls : List (Option AV)} {n : Nat} {q : Nat × Value}, q ∈ lvL ad n ls ↔ ∃ (i : Nat) (v : AV), ls[i]? = some (some v) ∧ q = (n + i, cv ad v)
  | [], n, q => by simp [lvL]
  | none :: t, n, q => by
    rw [lvL, mem_lvL (ls := t)]
    constructor
    · rintro ⟨i, v, h, e⟩; exact ⟨i + 1, v, by simpa using h, by rw [e]; congr 1; omega⟩
    · rintro ⟨i, v, h, e⟩
      cases i with
      | zero => simp at h
      | succ i => exact ⟨i, v, by simpa using h, by rw [e]; congr 1; omega⟩
  | some w :: t, n, q => by
    rw [lvL, List.mem_cons, mem_lvL (ls := t)]
    constructor
    · rintro (e | ⟨i, v, h, e⟩)
      · exact ⟨0, w, rfl, e⟩
      · exact ⟨i + 1, v, by simpa using h, by rw [e]; congr 1; omega⟩
    · rintro ⟨i, v, h, e⟩
      cases i with
      | zero => left; simp at h; rw [e, h]; rfl
      | succ i => right; exact ⟨i, v, by simpa using h, by rw [e]; congr 1; omega⟩
theorem lvAt {ad : Nat → Nat → Nat} {lsA : Array Slot} {nL i : Nat} {ls : List (Option AV)} {v : AV} (h : lv_has lsA nL (lvL ad 0 ls)) (hl : ls[i]? = some (some v)) : lsA[i]? = some (.val (cv ad v)) :=
  h.2.2 (i, cv ad v) (mem_lvL.mpr ⟨i, v, hl, by rw [Nat.zero_add]⟩)
/-- place i isn't the second half of a long -/
def notL (ls : List (Option AV)) : Nat → Bool
  | 0 => true
  | i + 1 => match ls[i]? with
    | some (some (Sum.inr (Sum.inl _))) => false
    | _ => true
theorem cv_cat1 {ad : Nat → Nat → Nat} {v : AV} (h : (cv ad v).category = 2) : ∃ x, v = vJ x := by
  rcases v with x | x | _ | ⟨k, j⟩
  · cases h
  · exact ⟨x, rfl⟩
  · cases h
  · cases h
theorem lvSet1 {ad : Nat → Nat → Nat} {nL i : Nat} {ls : List (Option AV)} {v : AV} (hn : notL ls i = true) :
    ∀ lsA : Array Slot, lv_has lsA nL ((i, cv ad v) :: (lvL ad 0 ls).filter (fun q => !(q.1 == i) && !(q.1 + 1 == i && q.2.category == 2))) → lv_has lsA nL (lvL ad 0 (ls.set i (some v))) := by
  intro lsA h
  refine ⟨h.1, h.2.1, fun q hq => h.2.2 q ?_⟩
  obtain ⟨a, w, ha, rfl⟩ := mem_lvL.mp hq
  rw [List.getElem?_set] at ha
  by_cases hi : i = a
  · subst hi
    rw [if_pos rfl] at ha
    split at ha
    · cases ha; simp
    · cases ha
  · rw [if_neg hi] at ha
    refine List.mem_cons_of_mem _ (List.mem_filter.mpr ⟨mem_lvL.mpr ⟨a, w, ha, rfl⟩, ?_⟩)
    simp only [Nat.zero_add, Bool.and_eq_true, Bool.not_eq_true', Bool.and_eq_false_iff, beq_eq_false_iff_ne, ne_eq]
    refine ⟨fun q => hi q.symm, ?_⟩
    by_cases h2 : a + 1 = i
    · right
      intro hc
      obtain ⟨x, rfl⟩ := cv_cat1 hc
      subst h2
      simp [notL, ha] at hn
    · left; exact h2
theorem lvSet2 {ad : Nat → Nat → Nat} {nL i : Nat} {ls : List (Option AV)} {v : AV} (hn : notL ls i = true) :
    ∀ lsA : Array Slot, lv_has lsA nL ((i, cv ad v) :: (lvL ad 0 ls).filter (fun q => !(q.1 == i) && (!(q.1 == i + 1) && !(q.1 + 1 == i && q.2.category == 2)))) → lv_has lsA nL (lvL ad 0 ((ls.set i (some v)).set (i + 1) none)) := by
  intro lsA h
  refine ⟨h.1, h.2.1, fun q hq => h.2.2 q ?_⟩
  obtain ⟨a, w, ha, rfl⟩ := mem_lvL.mp hq
  rw [List.getElem?_set] at ha
  by_cases h1 : i + 1 = a
  · rw [if_pos h1] at ha
    split at ha <;> cases ha
  · rw [if_neg h1, List.getElem?_set] at ha
    by_cases hi : i = a
    · subst hi
      rw [if_pos rfl] at ha
      split at ha
      · cases ha; simp
      · cases ha
    · rw [if_neg hi] at ha
      refine List.mem_cons_of_mem _ (List.mem_filter.mpr ⟨mem_lvL.mpr ⟨a, w, ha, rfl⟩, ?_⟩)
      simp only [Nat.zero_add, Bool.and_eq_true, Bool.not_eq_true', Bool.and_eq_false_iff, beq_eq_false_iff_ne, ne_eq]
      refine ⟨fun q => hi q.symm, fun q => h1 q.symm, ?_⟩
      by_cases h2 : a + 1 = i
      · right
        intro hc
        obtain ⟨x, rfl⟩ := cv_cat1 hc
        subst h2
        simp [notL, ha] at hn
      · left; exact h2
theorem okLs.set {ls : List (Option AV)} {i : Nat} {v : AV} (h : okLs ls) (hv : okV v) : okLs (ls.set i (some v)) := by
  intro a w ha
  rw [List.getElem?_set] at ha
  split at ha
  · split at ha
    · cases ha; exact hv
    · cases ha
  · exact h a w ha
theorem okLs.set0 {ls : List (Option AV)} {i : Nat} (h : okLs ls) : okLs (ls.set i none) := by
  intro a w ha
  rw [List.getElem?_set] at ha
  split at ha
  · split at ha <;> cases ha
  · exact h a w ha
end
section
def strB : List (List Int32) := [[46, 116, 101, 120, 116], [46, 100, 97, 116, 97], [46, 98, 115, 115], [46, 103, 108, 111, 98, 97, 108], [46, 119, 111, 114, 100], [46, 98, 121, 116, 101], [46, 115, 112, 97, 99, 101], [46, 97, 108, 105, 103, 110], [110, 111, 112], [109, 111, 118, 115], [99, 109, 112], [97, 100, 100, 115], [115, 117, 98, 115], [108, 115, 108, 115], [108, 115, 114, 115], [97, 115, 114, 115], [97, 110, 100, 115], [101, 111, 114, 115], [97, 100, 99, 115], [115, 98, 99, 115], [116, 115, 116], [110, 101, 103, 115], [111, 114, 114, 115], [109, 117, 108, 115], [98, 105, 99, 115], [109, 118, 110, 115], [108, 100, 114], [115, 116, 114], [108, 100, 114, 98], [115, 116, 114, 98], [112, 117, 115, 104], [112, 111, 112], [98], [98, 108], [98, 101, 113], [98, 110, 101], [98, 99, 115], [98, 99, 99], [98, 109, 105], [98, 112, 108], [98, 118, 115], [98, 118, 99], [98, 104, 105], [98, 108, 115], [98, 103, 101], [98, 108, 116], [98, 103, 116], [98, 108, 101], [98, 120], [108, 114], [112, 99], [58, 48, 50, 48, 48, 48, 48, 48, 52, 48, 48, 48, 48, 70, 65, 10], [58, 48, 48, 48, 48, 48, 48, 48, 49, 70, 70, 10], [48, 49, 50, 51, 52, 53, 54, 55, 56, 57, 65, 66, 67, 68, 69, 70], [109, 111, 114, 101, 32, 116, 104, 97, 110, 32, 52, 56, 32, 99, 104, 97, 114, 97, 99, 116, 101, 114, 115], [110, 111, 32, 115, 117, 99, 104, 32, 109, 111, 100, 117, 108, 101], [116, 104, 101, 32, 109, 111, 100, 117, 108, 101, 32, 104, 97, 115, 32, 50, 52, 32, 108, 105, 110, 101, 115], [110, 111, 32, 115, 117, 99, 104, 32, 108, 105, 110, 101], [110, 101, 105, 116, 104, 101, 114, 32, 48, 44, 32, 49, 32, 110, 111, 114, 32, 50], [110, 111, 32, 115, 117, 99, 104, 32, 109, 111, 100, 117, 108, 101, 32, 111, 114, 32, 115, 101, 99, 116, 105, 111, 110]]
def mnT : List (Int32 × Int32 × Int32) := [(0, 0, 0), (0, 1, 0), (0, 2, 0), (1, 0, 0), (2, 0, 0), (3, 0, 0), (4, 0, 0), (5, 0, 0), (6, 48896, 0), (7, 0, 8192), (7, 17024, 10240), (8, 6144, 12288), (8, 6656, 14336), (9, 0, 0), (9, 2048, 1), (9, 4096, 1), (10, 16384, 0), (10, 16448, 0), (10, 16704, 0), (10, 16768, 0), (10, 16896, 0), (10, 16960, 0), (10, 17152, 0), (10, 17216, 0), (10, 17280, 0), (10, 17344, 0), (11, 26624, 18432), (12, 24576, 2), (12, 30720, 0), (12, 28672, 0), (13, 46080, 0), (14, 48128, 0), (15, 57344, 1), (15, 61440, 3), (15, 53248, 2), (15, 53504, 2), (15, 53760, 2), (15, 54016, 2), (15, 54272, 2), (15, 54528, 2), (15, 54784, 2), (15, 55040, 2), (15, 55296, 2), (15, 55552, 2), (15, 55808, 2), (15, 56064, 2), (15, 56320, 2), (15, 56576, 2), (16, 18176, 0)]
def strR : List (String × Nat × String × Nat) := [("ThumbLinker$Parser", 156, "lr", 49), ("ThumbLinker$Parser", 162, "pc", 50), ("ThumbLinker$Image", 32, ":020000040000FA\n", 51), ("ThumbLinker$Image", 47, ":00000001FF\n", 52), ("ThumbLinker$Image", 59, "0123456789ABCDEF", 53), ("ThumbLinker", 57, "more than 48 characters", 54), ("ThumbLinker", 72, "no such module", 55), ("ThumbLinker", 78, "the module has 24 lines", 56), ("ThumbLinker", 88, "no such line", 57), ("ThumbLinker", 131, "neither 0, 1 nor 2", 58), ("ThumbLinker", 157, "no such module or section", 59)]
abbrev RMn : String := "ThumbLinker$Mnemonic"
def ROa (G : GX) (A : Nat → Prop) (U : State) (H : Heap) : Prop :=
  va_Z RMn "ALL" "[LThumbLinker$Mnemonic;" (.ref (gA G 50 0)) A U H ∧
  va_T (.object RMn) (gA G 50 0) 49 (fun j => .ref (gA G 51 j)) A U H ∧
  va_Ef 49 RMn "form" "I" (fun j => .int (mnT.getD j (0, 0, 0)).1) (gA G 51) A U H ∧
  va_Ef 49 RMn "code" "I" (fun j => .int (mnT.getD j (0, 0, 0)).2.1) (gA G 51) A U H ∧
  va_Ef 49 RMn "extra" "I" (fun j => .int (mnT.getD j (0, 0, 0)).2.2) (gA G 51) A U H ∧
  va_Ef 49 RMn "word" "Ljava/lang/String;" (fun j => .ref (gA G 52 j)) (gA G 51) A U H ∧
  (∀ i : Nat, i < 60 → va_O "java/lang/String" (gA G 52 i) A U H ∧ va_OF "java/lang/String" "coder" "B" (.int 0) (gA G 52 i) A U H ∧ va_OF "java/lang/String" "value" "[B" (.ref (gV G i)) (gA G 52 i) A U H ∧ va_T .byte (gV G i) (strB.getD i []).length (fun j => .int ((strB.getD i []).getD j 0)) A U H) ∧
  va_Z "java/lang/String" "COMPACT_STRINGS" "Z" (.int 1) A U H ∧
  ∀ q ∈ strR, vk_R q.1 q.2.1 q.2.2.1 (gA G 52 q.2.2.2) U
theorem ROa.kept {G : GX} {A : Nat → Prop} {U : State} {H H1 : Heap} (h : ROa G A U H) (hq : ∀ a : Nat, a < H.size → ¬ A a → H1[a]? = H[a]?) : ROa G A U H1 :=
  ⟨h.1.kept hq, h.2.1.kept hq, h.2.2.1.kept hq, h.2.2.2.1.kept hq, h.2.2.2.2.1.kept hq, h.2.2.2.2.2.1.kept hq, fun i hi => ⟨(h.2.2.2.2.2.2.1 i hi).1.kept hq, (h.2.2.2.2.2.2.1 i hi).2.1.kept hq, (h.2.2.2.2.2.2.1 i hi).2.2.1.kept hq, (h.2.2.2.2.2.2.1 i hi).2.2.2.kept hq⟩, h.2.2.2.2.2.2.2.1.kept hq, h.2.2.2.2.2.2.2.2⟩
theorem ROa.narrow {G : GX} {A B : Nat → Prop} {U : State} {H : Heap} (h : ROa G A U H) (hq : ∀ q, B q → A q) : ROa G B U H :=
  ⟨h.1.narrow hq, h.2.1.narrow hq, h.2.2.1.narrow hq, h.2.2.2.1.narrow hq, h.2.2.2.2.1.narrow hq, h.2.2.2.2.2.1.narrow hq, fun i hi => ⟨(h.2.2.2.2.2.2.1 i hi).1.narrow hq, (h.2.2.2.2.2.2.1 i hi).2.1.narrow hq, (h.2.2.2.2.2.2.1 i hi).2.2.1.narrow hq, (h.2.2.2.2.2.2.1 i hi).2.2.2.narrow hq⟩, h.2.2.2.2.2.2.2.1.narrow hq, h.2.2.2.2.2.2.2.2⟩
theorem ROa.warm {G : GX} {A : Nat → Prop} {s U : State} {H : Heap} (hW : s.WarmedH U.vm) (h : ROa G A s H) : ROa G A U H :=
  ⟨va_Z.moved hW.alike h.1, va_T.moved hW.alike h.2.1, va_Ef.moved hW.alike h.2.2.1, va_Ef.moved hW.alike h.2.2.2.1, va_Ef.moved hW.alike h.2.2.2.2.1, va_Ef.moved hW.alike h.2.2.2.2.2.1, fun i hi => ⟨va_O.moved hW.alike (h.2.2.2.2.2.2.1 i hi).1, va_OF.moved hW.alike (h.2.2.2.2.2.2.1 i hi).2.1, va_OF.moved hW.alike (h.2.2.2.2.2.2.1 i hi).2.2.1, va_T.moved hW.alike (h.2.2.2.2.2.2.1 i hi).2.2.2⟩, va_Z.moved hW.alike h.2.2.2.2.2.2.2.1, fun q hq => vk_R.warm hW (h.2.2.2.2.2.2.2.2 q hq)⟩
theorem ROa.same {G : GX} {A : Nat → Prop} {u U : State} {H : Heap} (hv : U.vm = u.vm) (h : ROa G A u H) : ROa G A U H :=
  ⟨va_Z.moved (by rw [hv]; exact Vm.Alike.refl _) h.1, va_T.moved (by rw [hv]; exact Vm.Alike.refl _) h.2.1, va_Ef.moved (by rw [hv]; exact Vm.Alike.refl _) h.2.2.1, va_Ef.moved (by rw [hv]; exact Vm.Alike.refl _) h.2.2.2.1, va_Ef.moved (by rw [hv]; exact Vm.Alike.refl _) h.2.2.2.2.1, va_Ef.moved (by rw [hv]; exact Vm.Alike.refl _) h.2.2.2.2.2.1, fun i hi => ⟨va_O.moved (by rw [hv]; exact Vm.Alike.refl _) (h.2.2.2.2.2.2.1 i hi).1, va_OF.moved (by rw [hv]; exact Vm.Alike.refl _) (h.2.2.2.2.2.2.1 i hi).2.1, va_OF.moved (by rw [hv]; exact Vm.Alike.refl _) (h.2.2.2.2.2.2.1 i hi).2.2.1, va_T.moved (by rw [hv]; exact Vm.Alike.refl _) (h.2.2.2.2.2.2.1 i hi).2.2.2⟩, va_Z.moved (by rw [hv]; exact Vm.Alike.refl _) h.2.2.2.2.2.2.2.1, fun q hq => vk_R.same hv (h.2.2.2.2.2.2.2.2 q hq)⟩
def nmL : List (String × Nat × MethodName) := [("ThumbLinker$Scanner", 41, yX11_isLetter), ("ThumbLinker$Scanner", 45, yX11_isDigit), ("ThumbLinker$Text", 19, yX11_isLetter), ("ThumbLinker$Text", 23, yX11_isDigit)]
def ROb (U : State) : Prop := (∀ q ∈ nmL, va_Nw (.methodLinkNest q.1 q.2.1 q.2.2 "ThumbLinker") U) ∧ va_Nw (.fieldLinkNest "ThumbLinker$Scanner" 57 RMn "ALL" "[LThumbLinker$Mnemonic;" "ThumbLinker") U
def RO (G : GX) (A : Nat → Prop) (U : State) (H : Heap) : Prop := ROa G A U H ∧ ROb U
theorem ROb.warm {s U : State} (hW : s.WarmedH U.vm) (h : ROb s) : ROb U := ⟨fun q hq => va_Nw.warmM hW (h.1 q hq), va_Nw.warmF hW h.2⟩
theorem ROb.same {u U : State} (hv : U.vm = u.vm) (h : ROb u) : ROb U := ⟨fun q hq => va_Nw.same rfl hv.symm (h.1 q hq), va_Nw.same rfl hv.symm h.2⟩
theorem RO.kept {G : GX} {A : Nat → Prop} {U : State} {H H1 : Heap} (h : RO G A U H) (hq : ∀ a : Nat, a < H.size → ¬ A a → H1[a]? = H[a]?) : RO G A U H1 := ⟨h.1.kept hq, h.2⟩
theorem RO.narrow {G : GX} {A B : Nat → Prop} {U : State} {H : Heap} (h : RO G A U H) (hq : ∀ q, B q → A q) : RO G B U H := ⟨h.1.narrow hq, h.2⟩
theorem RO.warm {G : GX} {A : Nat → Prop} {s U : State} {H : Heap} (hW : s.WarmedH U.vm) (h : RO G A s H) : RO G A U H := ⟨h.1.warm hW, h.2.warm hW⟩
theorem RO.same {G : GX} {A : Nat → Prop} {u U : State} {H : Heap} (hv : U.vm = u.vm) (h : RO G A u H) : RO G A U H := ⟨h.1.same hv, h.2.same hv⟩
/-! THE JUDGEMENT. MIx: a method's bytes, its class, its locals, what it returns, its room -/
abbrev MIx : Type := ByteArray × String × Nat × Option FieldType × Room
def Cx (G : GX) (I : MIx) (p : Program) (s : State) (m : MethodId) (args : Array Value) (meth : Method) (c : Code) : Prop :=
  p.tables.exec = Jvm.exec ∧ c.code = I.1 ∧ c.maxLocals = I.2.2.1 ∧ meth.sig.returnType = I.2.2.2.1 ∧ s.vm.findClass I.2.1 = some m.cls ∧ (∀ w ∈ gw_tbl, w.before args s = true) ∧ va_K (gD G) vwCl (tysG G) s ∧ meth.locks = false ∧ InjG G ∧ RO G (gPool G s.heap.size) s s.heap
def QcM (G : GX) (Post : Option AV → Mem → Prop) : Array Value → State → Outcome → State → Prop := fun _ st oc t =>
  (∃ (r : Option AV) (M' : Mem), oc = .returned (r.map (cv (gA G))) ∧ Post r M' ∧ okO r ∧ okM M' ∧ Pw G M' t.heap) ∧ va_F (gPool G st.heap.size) st t
def Rn (G : GX) (I : MIx) (Post : Option AV → Mem → Prop) (pc : Nat) (ls : List (Option AV)) (st : List AV) (M : Mem) : Prop :=
  ∀ (p : Program) (e : Env) (s : State) (m : MethodId) (args : Array Value) (below : List Frame) (meth : Method) (c : Code), Cx G I p s m args meth c →
  ∀ (H : Heap) (locs : List Loc) (lsA : Array Slot), Pw G M H → va_S (gPool G s.heap.size) s.heap H locs → lv_has lsA I.2.2.1 (lvL (gA G) 0 ls) → okM M → okLs ls → okVs st →
  W p G.1 e I.2.2.2.2 s m args below meth c H locs 0 0 (MQ below (QcM G Post) args s 0 0 (gPool G s.heap.size)) (F0 m pc lsA (st.map (cv (gA G))))
section RULES
variable {G : GX} {I : MIx} {Post : Option AV → Mem → Prop} {pc : Nat} {ls : List (Option AV)} {st : List AV} {M : Mem}
theorem Rn.iconst {n : Int} {v : Int32} (hd : decode I.1 pc = .ok (.iconst n, 1)) (hv : Int32.ofInt n = v) (k : Rn G I Post (pc + 1) ls (vI v :: st) M) : Rn G I Post pc ls (st) M :=
  fun p e s m args below meth c hc H locs lsA hP hS hL hM hLs hSt => lv_iconst hc.1 hc.2.1 hd hv (k p e s m args below meth c hc H locs lsA hP hS hL hM hLs (hSt.I _))
theorem Rn.bipush {n : Int} {v : Int32} (hd : decode I.1 pc = .ok (.bipush n, 2)) (hv : (Int8.ofInt n).toInt32 = v) (k : Rn G I Post (pc + 2) ls (vI v :: st) M) : Rn G I Post pc ls (st) M :=
  fun p e s m args below meth c hc H locs lsA hP hS hL hM hLs hSt => lv_bipush hc.1 hc.2.1 hd hv (k p e s m args below meth c hc H locs lsA hP hS hL hM hLs (hSt.I _))
theorem Rn.sipush {n : Int} {v : Int32} (hd : decode I.1 pc = .ok (.sipush n, 3)) (hv : (Int16.ofInt n).toInt32 = v) (k : Rn G I Post (pc + 3) ls (vI v :: st) M) : Rn G I Post pc ls (st) M :=
  fun p e s m args below meth c hc H locs lsA hP hS hL hM hLs hSt => lv_sipush hc.1 hc.2.1 hd hv (k p e s m args below meth c hc H locs lsA hP hS hL hM hLs (hSt.I _))
theorem Rn.lconst {n : Fin 2} {v : Int64} (hd : decode I.1 pc = .ok (.lconst n, 1)) (hv : Int64.ofNat (n : Nat) = v) (k : Rn G I Post (pc + 1) ls (vJ v :: st) M) : Rn G I Post pc ls (st) M :=
  fun p e s m args below meth c hc H locs lsA hP hS hL hM hLs hSt => lv_lconst hc.1 hc.2.1 hd hv (k p e s m args below meth c hc H locs lsA hP hS hL hM hLs (hSt.J _))
theorem Rn.iadd {x y : Int32} (hd : decode I.1 pc = .ok (.iadd, 1)) (k : Rn G I Post (pc + 1) ls (vI (x + y) :: st) M) : Rn G I Post pc ls (vI y :: vI x :: st) M :=
  fun p e s m args below meth c hc H locs lsA hP hS hL hM hLs hSt => lv_iadd hc.1 hc.2.1 hd (k p e s m args below meth c hc H locs lsA hP hS hL hM hLs (hSt.d.d.I _))
theorem Rn.isub {x y : Int32} (hd : decode I.1 pc = .ok (.isub, 1)) (k : Rn G I Post (pc + 1) ls (vI (x - y) :: st) M) : Rn G I Post pc ls (vI y :: vI x :: st) M :=
  fun p e s m args below meth c hc H locs lsA hP hS hL hM hLs hSt => lv_isub hc.1 hc.2.1 hd (k p e s m args below meth c hc H locs lsA hP hS hL hM hLs (hSt.d.d.I _))
theorem Rn.imul {x y : Int32} (hd : decode I.1 pc = .ok (.imul, 1)) (k : Rn G I Post (pc + 1) ls (vI (x * y) :: st) M) : Rn G I Post pc ls (vI y :: vI x :: st) M :=
  fun p e s m args below meth c hc H locs lsA hP hS hL hM hLs hSt => lv_imul hc.1 hc.2.1 hd (k p e s m args below meth c hc H locs lsA hP hS hL hM hLs (hSt.d.d.I _))
theorem Rn.iand {x y : Int32} (hd : decode I.1 pc = .ok (.iand, 1)) (k : Rn G I Post (pc + 1) ls (vI (x &&& y) :: st) M) : Rn G I Post pc ls (vI y :: vI x :: st) M :=
  fun p e s m args below meth c hc H locs lsA hP hS hL hM hLs hSt => lv_iand hc.1 hc.2.1 hd (k p e s m args below meth c hc H locs lsA hP hS hL hM hLs (hSt.d.d.I _))
theorem Rn.ior {x y : Int32} (hd : decode I.1 pc = .ok (.ior, 1)) (k : Rn G I Post (pc + 1) ls (vI (x ||| y) :: st) M) : Rn G I Post pc ls (vI y :: vI x :: st) M :=
  fun p e s m args below meth c hc H locs lsA hP hS hL hM hLs hSt => lv_ior hc.1 hc.2.1 hd (k p e s m args below meth c hc H locs lsA hP hS hL hM hLs (hSt.d.d.I _))
theorem Rn.ixor {x y : Int32} (hd : decode I.1 pc = .ok (.ixor, 1)) (k : Rn G I Post (pc + 1) ls (vI (x ^^^ y) :: st) M) : Rn G I Post pc ls (vI y :: vI x :: st) M :=
  fun p e s m args below meth c hc H locs lsA hP hS hL hM hLs hSt => lv_ixor hc.1 hc.2.1 hd (k p e s m args below meth c hc H locs lsA hP hS hL hM hLs (hSt.d.d.I _))
theorem Rn.ishl {x y : Int32} (hd : decode I.1 pc = .ok (.ishl, 1)) (k : Rn G I Post (pc + 1) ls (vI (x <<< (y &&& 31)) :: st) M) : Rn G I Post pc ls (vI y :: vI x :: st) M :=
  fun p e s m args below meth c hc H locs lsA hP hS hL hM hLs hSt => lv_ishl hc.1 hc.2.1 hd (k p e s m args below meth c hc H locs lsA hP hS hL hM hLs (hSt.d.d.I _))
theorem Rn.ishr {x y : Int32} (hd : decode I.1 pc = .ok (.ishr, 1)) (k : Rn G I Post (pc + 1) ls (vI (x >>> (y &&& 31)) :: st) M) : Rn G I Post pc ls (vI y :: vI x :: st) M :=
  fun p e s m args below meth c hc H locs lsA hP hS hL hM hLs hSt => lv_ishr hc.1 hc.2.1 hd (k p e s m args below meth c hc H locs lsA hP hS hL hM hLs (hSt.d.d.I _))
theorem Rn.idiv {x y : Int32} (hd : decode I.1 pc = .ok (.idiv, 1)) (hne : ¬ y = 0) (k : Rn G I Post (pc + 1) ls (vI (x / y) :: st) M) : Rn G I Post pc ls (vI y :: vI x :: st) M :=
  fun p e s m args below meth c hc H locs lsA hP hS hL hM hLs hSt => lv_idiv hc.1 hc.2.1 hd hne (k p e s m args below meth c hc H locs lsA hP hS hL hM hLs (hSt.d.d.I _))
theorem Rn.irem {x y : Int32} (hd : decode I.1 pc = .ok (.irem, 1)) (hne : ¬ y = 0) (k : Rn G I Post (pc + 1) ls (vI (x - x / y * y) :: st) M) : Rn G I Post pc ls (vI y :: vI x :: st) M :=
  fun p e s m args below meth c hc H locs lsA hP hS hL hM hLs hSt => lv_irem hc.1 hc.2.1 hd hne (k p e s m args below meth c hc H locs lsA hP hS hL hM hLs (hSt.d.d.I _))
theorem Rn.ineg {x : Int32} (hd : decode I.1 pc = .ok (.ineg, 1)) (k : Rn G I Post (pc + 1) ls (vI (-x) :: st) M) : Rn G I Post pc ls (vI x :: st) M :=
  fun p e s m args below meth c hc H locs lsA hP hS hL hM hLs hSt => lv_ineg hc.1 hc.2.1 hd (k p e s m args below meth c hc H locs lsA hP hS hL hM hLs (hSt.d.I _))
theorem Rn.iushr {x y : Int32} (hd : decode I.1 pc = .ok (.iushr, 1)) (k : Rn G I Post (pc + 1) ls (vI ((x.toUInt32 >>> (y.toUInt32 &&& Int32.toUInt32 31)).toInt32) :: st) M) : Rn G I Post pc ls (vI y :: vI x :: st) M :=
  fun p e s m args below meth c hc H locs lsA hP hS hL hM hLs hSt => lv_iushr hc.1 hc.2.1 hd rfl (k p e s m args below meth c hc H locs lsA hP hS hL hM hLs (hSt.d.d.I _))
theorem Rn.ladd {x y : Int64} (hd : decode I.1 pc = .ok (.ladd, 1)) (k : Rn G I Post (pc + 1) ls (vJ (x + y) :: st) M) : Rn G I Post pc ls (vJ y :: vJ x :: st) M :=
  fun p e s m args below meth c hc H locs lsA hP hS hL hM hLs hSt => lv_ladd hc.1 hc.2.1 hd (k p e s m args below meth c hc H locs lsA hP hS hL hM hLs (hSt.d.d.J _))
theorem Rn.lsub {x y : Int64} (hd : decode I.1 pc = .ok (.lsub, 1)) (k : Rn G I Post (pc + 1) ls (vJ (x - y) :: st) M) : Rn G I Post pc ls (vJ y :: vJ x :: st) M :=
  fun p e s m args below meth c hc H locs lsA hP hS hL hM hLs hSt => lv_lsub hc.1 hc.2.1 hd (k p e s m args below meth c hc H locs lsA hP hS hL hM hLs (hSt.d.d.J _))
theorem Rn.land {x y : Int64} (hd : decode I.1 pc = .ok (.land, 1)) (k : Rn G I Post (pc + 1) ls (vJ (x &&& y) :: st) M) : Rn G I Post pc ls (vJ y :: vJ x :: st) M :=
  fun p e s m args below meth c hc H locs lsA hP hS hL hM hLs hSt => lv_land hc.1 hc.2.1 hd (k p e s m args below meth c hc H locs lsA hP hS hL hM hLs (hSt.d.d.J _))
theorem Rn.lor {x y : Int64} (hd : decode I.1 pc = .ok (.lor, 1)) (k : Rn G I Post (pc + 1) ls (vJ (x ||| y) :: st) M) : Rn G I Post pc ls (vJ y :: vJ x :: st) M :=
  fun p e s m args below meth c hc H locs lsA hP hS hL hM hLs hSt => lv_lor hc.1 hc.2.1 hd (k p e s m args below meth c hc H locs lsA hP hS hL hM hLs (hSt.d.d.J _))
theorem Rn.lneg {x : Int64} (hd : decode I.1 pc = .ok (.lneg, 1)) (k : Rn G I Post (pc + 1) ls (vJ (-x) :: st) M) : Rn G I Post pc ls (vJ x :: st) M :=
  fun p e s m args below meth c hc H locs lsA hP hS hL hM hLs hSt => lv_lneg hc.1 hc.2.1 hd (k p e s m args below meth c hc H locs lsA hP hS hL hM hLs (hSt.d.J _))
theorem Rn.lshl {x : Int64} {y : Int32} (hd : decode I.1 pc = .ok (.lshl, 1)) (k : Rn G I Post (pc + 1) ls (vJ (x <<< (y.toInt64 &&& 63)) :: st) M) : Rn G I Post pc ls (vI y :: vJ x :: st) M :=
  fun p e s m args below meth c hc H locs lsA hP hS hL hM hLs hSt => lv_lshl hc.1 hc.2.1 hd rfl (k p e s m args below meth c hc H locs lsA hP hS hL hM hLs (hSt.d.d.J _))
theorem Rn.lshr {x : Int64} {y : Int32} (hd : decode I.1 pc = .ok (.lshr, 1)) (k : Rn G I Post (pc + 1) ls (vJ (x >>> (y.toInt64 &&& 63)) :: st) M) : Rn G I Post pc ls (vI y :: vJ x :: st) M :=
  fun p e s m args below meth c hc H locs lsA hP hS hL hM hLs hSt => lv_lshr hc.1 hc.2.1 hd rfl (k p e s m args below meth c hc H locs lsA hP hS hL hM hLs (hSt.d.d.J _))
theorem Rn.lcmp {x y : Int64} (hd : decode I.1 pc = .ok (.lcmp, 1)) (k : Rn G I Post (pc + 1) ls (vI (lg_cmp x y) :: st) M) : Rn G I Post pc ls (vJ y :: vJ x :: st) M :=
  fun p e s m args below meth c hc H locs lsA hP hS hL hM hLs hSt => W.lcmp hc.1 hc.2.1 hd (k p e s m args below meth c hc H locs lsA hP hS hL hM hLs (hSt.d.d.I _))
theorem Rn.i2l {x : Int32} (hd : decode I.1 pc = .ok (.i2l, 1)) (k : Rn G I Post (pc + 1) ls (vJ x.toInt64 :: st) M) : Rn G I Post pc ls (vI x :: st) M :=
  fun p e s m args below meth c hc H locs lsA hP hS hL hM hLs hSt => lv_i2l hc.1 hc.2.1 hd rfl (k p e s m args below meth c hc H locs lsA hP hS hL hM hLs (hSt.d.J _))
theorem Rn.l2i {x : Int64} (hd : decode I.1 pc = .ok (.l2i, 1)) (k : Rn G I Post (pc + 1) ls (vI x.toInt32 :: st) M) : Rn G I Post pc ls (vJ x :: st) M :=
  fun p e s m args below meth c hc H locs lsA hP hS hL hM hLs hSt => lv_l2i hc.1 hc.2.1 hd rfl (k p e s m args below meth c hc H locs lsA hP hS hL hM hLs (hSt.d.I _))
theorem Rn.i2b {x : Int32} (hd : decode I.1 pc = .ok (.i2b, 1)) (k : Rn G I Post (pc + 1) ls (vI x.toInt8.toInt32 :: st) M) : Rn G I Post pc ls (vI x :: st) M :=
  fun p e s m args below meth c hc H locs lsA hP hS hL hM hLs hSt => lv_i2b hc.1 hc.2.1 hd rfl (k p e s m args below meth c hc H locs lsA hP hS hL hM hLs (hSt.d.I _))
theorem Rn.i2c {x : Int32} (hd : decode I.1 pc = .ok (.i2c, 1)) (k : Rn G I Post (pc + 1) ls (vI (x.toUInt32 % 65536).toInt32 :: st) M) : Rn G I Post pc ls (vI x :: st) M :=
  fun p e s m args below meth c hc H locs lsA hP hS hL hM hLs hSt => lv_i2c hc.1 hc.2.1 hd rfl (k p e s m args below meth c hc H locs lsA hP hS hL hM hLs (hSt.d.I _))
theorem cv_i {G : GX} (x : Int32) : cv (gA G) (vI x) = .int x := rfl
theorem Rn.iload_n {x : Int32} {i : Nat} {k : Fin 4} (hd : decode I.1 pc = .ok (.iload_n k, 1)) (hi : (k : Nat) = i) (hl : ls[i]? = some (some (vI x))) (k9 : Rn G I Post (pc + 1) ls (vI x :: st) M) : Rn G I Post pc ls st M :=
  fun p e s m args below meth c hc H locs lsA hP hS hL hM hLs hSt => lv_iload_n hc.1 hc.2.1 hd hi (lvAt hL hl) (k9 p e s m args below meth c hc H locs lsA hP hS hL hM hLs (okVs.c (hLs _ _ hl) hSt))
theorem Rn.iload {x : Int32} {i : Nat} (hd : decode I.1 pc = .ok (.iload i, 2)) (hl : ls[i]? = some (some (vI x))) (k9 : Rn G I Post (pc + 2) ls (vI x :: st) M) : Rn G I Post pc ls st M :=
  fun p e s m args below meth c hc H locs lsA hP hS hL hM hLs hSt => lv_iload hc.1 hc.2.1 hd (lvAt hL hl) (k9 p e s m args below meth c hc H locs lsA hP hS hL hM hLs (okVs.c (hLs _ _ hl) hSt))
theorem Rn.lload_n {x : Int64} {i : Nat} {k : Fin 4} (hd : decode I.1 pc = .ok (.lload_n k, 1)) (hi : (k : Nat) = i) (hl : ls[i]? = some (some (vJ x))) (k9 : Rn G I Post (pc + 1) ls (vJ x :: st) M) : Rn G I Post pc ls st M :=
  fun p e s m args below meth c hc H locs lsA hP hS hL hM hLs hSt => lv_lload_n hc.1 hc.2.1 hd hi (lvAt hL hl) (k9 p e s m args below meth c hc H locs lsA hP hS hL hM hLs (okVs.c (hLs _ _ hl) hSt))
theorem Rn.lload {x : Int64} {i : Nat} (hd : decode I.1 pc = .ok (.lload i, 2)) (hl : ls[i]? = some (some (vJ x))) (k9 : Rn G I Post (pc + 2) ls (vJ x :: st) M) : Rn G I Post pc ls st M :=
  fun p e s m args below meth c hc H locs lsA hP hS hL hM hLs hSt => lv_lload hc.1 hc.2.1 hd (lvAt hL hl) (k9 p e s m args below meth c hc H locs lsA hP hS hL hM hLs (okVs.c (hLs _ _ hl) hSt))
theorem Rn.aload_n {r j : Nat} {i : Nat} {k : Fin 4} (hd : decode I.1 pc = .ok (.aload_n k, 1)) (hi : (k : Nat) = i) (hl : ls[i]? = some (some (vR r j))) (k9 : Rn G I Post (pc + 1) ls (vR r j :: st) M) : Rn G I Post pc ls st M :=
  fun p e s m args below meth c hc H locs lsA hP hS hL hM hLs hSt => lv_aload_n hc.1 hc.2.1 hd hi (lvAt hL hl) (k9 p e s m args below meth c hc H locs lsA hP hS hL hM hLs (okVs.c (hLs _ _ hl) hSt))
theorem Rn.aload_nN {i : Nat} {k : Fin 4} (hd : decode I.1 pc = .ok (.aload_n k, 1)) (hi : (k : Nat) = i) (hl : ls[i]? = some (some vN)) (k9 : Rn G I Post (pc + 1) ls (vN :: st) M) : Rn G I Post pc ls st M :=
  fun p e s m args below meth c hc H locs lsA hP hS hL hM hLs hSt => lv_aload_nN hc.1 hc.2.1 hd hi (lvAt hL hl) (k9 p e s m args below meth c hc H locs lsA hP hS hL hM hLs (okVs.c (hLs _ _ hl) hSt))
theorem Rn.aload {r j : Nat} {i : Nat} (hd : decode I.1 pc = .ok (.aload i, 2)) (hl : ls[i]? = some (some (vR r j))) (k9 : Rn G I Post (pc + 2) ls (vR r j :: st) M) : Rn G I Post pc ls st M :=
  fun p e s m args below meth c hc H locs lsA hP hS hL hM hLs hSt => lv_aload hc.1 hc.2.1 hd (lvAt hL hl) (k9 p e s m args below meth c hc H locs lsA hP hS hL hM hLs (okVs.c (hLs _ _ hl) hSt))
theorem Rn.aloadN {i : Nat} (hd : decode I.1 pc = .ok (.aload i, 2)) (hl : ls[i]? = some (some vN)) (k9 : Rn G I Post (pc + 2) ls (vN :: st) M) : Rn G I Post pc ls st M :=
  fun p e s m args below meth c hc H locs lsA hP hS hL hM hLs hSt => lv_aloadN hc.1 hc.2.1 hd (lvAt hL hl) (k9 p e s m args below meth c hc H locs lsA hP hS hL hM hLs (okVs.c (hLs _ _ hl) hSt))
theorem Rn.istore_n {x : Int32} {i : Nat} {ls' : List (Option AV)} {k : Fin 4} (hd : decode I.1 pc = .ok (.istore_n k, 1)) (hi : (k : Nat) = i) (hn : i < I.2.2.1) (hp : notL ls i = true) (hl : ls.set i (some (vI x)) = ls') (k9 : Rn G I Post (pc + 1) ls' st M) : Rn G I Post pc ls (vI x :: st) M :=
  fun p e s m args below meth c hc H locs lsA hP hS hL hM hLs hSt => lv_istore_n hc.1 hc.2.1 hd hi hL hn rfl (fun lsB hB => k9 p e s m args below meth c hc H locs lsB hP hS (hl ▸ lvSet1 (v := vI x) hp lsB hB) hM (hl ▸ hLs.set hSt.hd) hSt.d)
theorem Rn.istore {x : Int32} {i : Nat} {ls' : List (Option AV)} (hd : decode I.1 pc = .ok (.istore i, 2)) (hn : i < I.2.2.1) (hp : notL ls i = true) (hl : ls.set i (some (vI x)) = ls') (k9 : Rn G I Post (pc + 2) ls' st M) : Rn G I Post pc ls (vI x :: st) M :=
  fun p e s m args below meth c hc H locs lsA hP hS hL hM hLs hSt => lv_istore hc.1 hc.2.1 hd hL hn rfl (fun lsB hB => k9 p e s m args below meth c hc H locs lsB hP hS (hl ▸ lvSet1 (v := vI x) hp lsB hB) hM (hl ▸ hLs.set hSt.hd) hSt.d)
theorem Rn.astore_n {r j : Nat} {i : Nat} {ls' : List (Option AV)} {k : Fin 4} (hd : decode I.1 pc = .ok (.astore_n k, 1)) (hi : (k : Nat) = i) (hn : i < I.2.2.1) (hp : notL ls i = true) (hl : ls.set i (some (vR r j)) = ls') (k9 : Rn G I Post (pc + 1) ls' st M) : Rn G I Post pc ls (vR r j :: st) M :=
  fun p e s m args below meth c hc H locs lsA hP hS hL hM hLs hSt => lv_astore_n hc.1 hc.2.1 hd hi hL hn rfl (fun lsB hB => k9 p e s m args below meth c hc H locs lsB hP hS (hl ▸ lvSet1 (v := vR r j) hp lsB hB) hM (hl ▸ hLs.set hSt.hd) hSt.d)
theorem Rn.astore {r j : Nat} {i : Nat} {ls' : List (Option AV)} (hd : decode I.1 pc = .ok (.astore i, 2)) (hn : i < I.2.2.1) (hp : notL ls i = true) (hl : ls.set i (some (vR r j)) = ls') (k9 : Rn G I Post (pc + 2) ls' st M) : Rn G I Post pc ls (vR r j :: st) M :=
  fun p e s m args below meth c hc H locs lsA hP hS hL hM hLs hSt => lv_astore hc.1 hc.2.1 hd hL hn rfl (fun lsB hB => k9 p e s m args below meth c hc H locs lsB hP hS (hl ▸ lvSet1 (v := vR r j) hp lsB hB) hM (hl ▸ hLs.set hSt.hd) hSt.d)
theorem Rn.astore_nN {i : Nat} {ls' : List (Option AV)} {k : Fin 4} (hd : decode I.1 pc = .ok (.astore_n k, 1)) (hi : (k : Nat) = i) (hn : i < I.2.2.1) (hp : notL ls i = true) (hl : ls.set i (some vN) = ls') (k9 : Rn G I Post (pc + 1) ls' st M) : Rn G I Post pc ls (vN :: st) M :=
  fun p e s m args below meth c hc H locs lsA hP hS hL hM hLs hSt => lv_astore_nN hc.1 hc.2.1 hd hi hL hn rfl (fun lsB hB => k9 p e s m args below meth c hc H locs lsB hP hS (hl ▸ lvSet1 (v := vN) hp lsB hB) hM (hl ▸ hLs.set hSt.hd) hSt.d)
theorem Rn.astoreN {i : Nat} {ls' : List (Option AV)} (hd : decode I.1 pc = .ok (.astore i, 2)) (hn : i < I.2.2.1) (hp : notL ls i = true) (hl : ls.set i (some vN) = ls') (k9 : Rn G I Post (pc + 2) ls' st M) : Rn G I Post pc ls (vN :: st) M :=
  fun p e s m args below meth c hc H locs lsA hP hS hL hM hLs hSt => lv_astoreN hc.1 hc.2.1 hd hL hn rfl (fun lsB hB => k9 p e s m args below meth c hc H locs lsB hP hS (hl ▸ lvSet1 (v := vN) hp lsB hB) hM (hl ▸ hLs.set hSt.hd) hSt.d)
theorem Rn.lstore_n {x : Int64} {i : Nat} {ls' : List (Option AV)} {k : Fin 4} (hd : decode I.1 pc = .ok (.lstore_n k, 1)) (hi : (k : Nat) = i) (hn : i + 1 < I.2.2.1) (hp : notL ls i = true) (hl : (ls.set i (some (vJ x))).set (i + 1) none = ls') (k9 : Rn G I Post (pc + 1) ls' st M) : Rn G I Post pc ls (vJ x :: st) M :=
  fun p e s m args below meth c hc H locs lsA hP hS hL hM hLs hSt => lv_lstore_n hc.1 hc.2.1 hd hi hL hn rfl (fun lsB hB => k9 p e s m args below meth c hc H locs lsB hP hS (hl ▸ lvSet2 (v := vJ x) hp lsB hB) hM (hl ▸ (hLs.set hSt.hd).set0) hSt.d)
theorem Rn.lstore {x : Int64} {i : Nat} {ls' : List (Option AV)} (hd : decode I.1 pc = .ok (.lstore i, 2)) (hn : i + 1 < I.2.2.1) (hp : notL ls i = true) (hl : (ls.set i (some (vJ x))).set (i + 1) none = ls') (k9 : Rn G I Post (pc + 2) ls' st M) : Rn G I Post pc ls (vJ x :: st) M :=
  fun p e s m args below meth c hc H locs lsA hP hS hL hM hLs hSt => lv_lstore hc.1 hc.2.1 hd hL hn rfl (fun lsB hB => k9 p e s m args below meth c hc H locs lsB hP hS (hl ▸ lvSet2 (v := vJ x) hp lsB hB) hM (hl ▸ (hLs.set hSt.hd).set0) hSt.d)
theorem Rn.iaddN {x y : Nat} (hd : decode I.1 pc = .ok (.iadd, 1)) (k : Rn G I Post (pc + 1) ls (vI (nI (x + y)) :: st) M) : Rn G I Post pc ls (vI (nI y) :: vI (nI x) :: st) M := Rn.iadd hd (by rw [nI_add]; exact k)
theorem Rn.imulN {x y : Nat} (hd : decode I.1 pc = .ok (.imul, 1)) (k : Rn G I Post (pc + 1) ls (vI (nI (x * y)) :: st) M) : Rn G I Post pc ls (vI (nI y) :: vI (nI x) :: st) M := Rn.imul hd (by rw [pk_mul]; exact k)
theorem Rn.iinc {x v : Int32} {n : Int} {i : Nat} {ls' : List (Option AV)} (hd : decode I.1 pc = .ok (.iinc i n, 3)) (hx : ls[i]? = some (some (vI x))) (hv : x + Int32.ofInt n = v) (hn : i < I.2.2.1) (hp : notL ls i = true) (hl : ls.set i (some (vI v)) = ls') (k9 : Rn G I Post (pc + 3) ls' st M) : Rn G I Post pc ls st M := by
  intro p e s m args below meth c hc H locs lsA hP hS hL hM hLs hSt
  obtain ⟨q, hq⟩ := List.getElem?_of_mem (mem_lvL.mpr ⟨i, _, hx, by rw [Nat.zero_add]⟩ : (i, cv (gA G) (vI x)) ∈ lvL (gA G) 0 ls)
  exact lv_iinc (k := q) hc.1 hc.2.1 hd hL hq hv hn rfl (fun lsB hB => k9 p e s m args below meth c hc H locs lsB hP hS (hl ▸ lvSet1 (v := vI v) hp lsB hB) hM (hl ▸ hLs.set (v := vI v) trivial) hSt)
theorem Rn.dupI {x y : Int32} {r j : Nat} (hd : decode I.1 pc = .ok (.dup, 1)) (k : Rn G I Post (pc + 1) ls (vI x :: vI x :: st) M) : Rn G I Post pc ls (vI x :: st) M :=
  fun p e s m args below meth c hc H locs lsA hP hS hL hM hLs hSt => lv_dup hc.1 hc.2.1 hd rfl (k p e s m args below meth c hc H locs lsA hP hS hL hM hLs (hSt.I _))
theorem Rn.dupR {x y : Int32} {r j : Nat} (hd : decode I.1 pc = .ok (.dup, 1)) (k : Rn G I Post (pc + 1) ls (vR r j :: vR r j :: st) M) : Rn G I Post pc ls (vR r j :: st) M :=
  fun p e s m args below meth c hc H locs lsA hP hS hL hM hLs hSt => lv_dup hc.1 hc.2.1 hd rfl (k p e s m args below meth c hc H locs lsA hP hS hL hM hLs (okVs.c hSt.hd hSt))
theorem Rn.popI {x y : Int32} {r j : Nat} (hd : decode I.1 pc = .ok (.pop, 1)) (k : Rn G I Post (pc + 1) ls (st) M) : Rn G I Post pc ls (vI x :: st) M :=
  fun p e s m args below meth c hc H locs lsA hP hS hL hM hLs hSt => lv_pop hc.1 hc.2.1 hd rfl (k p e s m args below meth c hc H locs lsA hP hS hL hM hLs hSt.d)
theorem Rn.dup_x1I {x y : Int32} {r j : Nat} (hd : decode I.1 pc = .ok (.dup_x1, 1)) (k : Rn G I Post (pc + 1) ls (vI x :: vR r j :: vI x :: st) M) : Rn G I Post pc ls (vI x :: vR r j :: st) M :=
  fun p e s m args below meth c hc H locs lsA hP hS hL hM hLs hSt => lv_dup_x1 hc.1 hc.2.1 hd rfl rfl (k p e s m args below meth c hc H locs lsA hP hS hL hM hLs ((okVs.c hSt.d.hd (hSt.d.d.I _)).I _))
theorem Rn.dup_x2I {x y : Int32} {r j : Nat} (hd : decode I.1 pc = .ok (.dup_x2, 1)) (k : Rn G I Post (pc + 1) ls (vI x :: vI y :: vR r j :: vI x :: st) M) : Rn G I Post pc ls (vI x :: vI y :: vR r j :: st) M :=
  fun p e s m args below meth c hc H locs lsA hP hS hL hM hLs hSt => lv_dup_x2 hc.1 hc.2.1 hd rfl rfl rfl (k p e s m args below meth c hc H locs lsA hP hS hL hM hLs (((okVs.c hSt.d.d.hd (hSt.d.d.d.I _)).I _).I _))
theorem Rn.dup2IR {x y : Int32} {r j : Nat} (hd : decode I.1 pc = .ok (.dup2, 1)) (k : Rn G I Post (pc + 1) ls (vI x :: vR r j :: vI x :: vR r j :: st) M) : Rn G I Post pc ls (vI x :: vR r j :: st) M :=
  fun p e s m args below meth c hc H locs lsA hP hS hL hM hLs hSt => lv_dup2_11 hc.1 hc.2.1 hd rfl rfl (k p e s m args below meth c hc H locs lsA hP hS hL hM hLs ((okVs.c hSt.d.hd hSt).I _))
theorem Rn.if_eq {x y : Int32} {off : Int} {tgt : Nat} (hd : decode I.1 pc = .ok (.ifCond .eq off, 3)) (ht : (pc : Int) + off = (tgt : Int)) (kt : x = 0 → Rn G I Post tgt ls st M) (kf : ¬ x = 0 → Rn G I Post (pc + 3) ls st M) : Rn G I Post pc ls (vI x :: st) M :=
  fun p e s m args below meth c hc H locs lsA hP hS hL hM hLs hSt => lv_if_eq hc.1 hc.2.1 hd ht (fun h9 => kt h9 p e s m args below meth c hc H locs lsA hP hS hL hM hLs hSt.d) (fun h9 => kf h9 p e s m args below meth c hc H locs lsA hP hS hL hM hLs hSt.d)
theorem Rn.icmp_eq {x y : Int32} {off : Int} {tgt : Nat} (hd : decode I.1 pc = .ok (.if_icmp .eq off, 3)) (ht : (pc : Int) + off = (tgt : Int)) (kt : x = y → Rn G I Post tgt ls st M) (kf : ¬ x = y → Rn G I Post (pc + 3) ls st M) : Rn G I Post pc ls (vI y :: vI x :: st) M :=
  fun p e s m args below meth c hc H locs lsA hP hS hL hM hLs hSt => lv_icmp_eq hc.1 hc.2.1 hd ht (fun h9 => kt h9 p e s m args below meth c hc H locs lsA hP hS hL hM hLs hSt.d.d) (fun h9 => kf h9 p e s m args below meth c hc H locs lsA hP hS hL hM hLs hSt.d.d)
theorem Rn.if_ne {x y : Int32} {off : Int} {tgt : Nat} (hd : decode I.1 pc = .ok (.ifCond .ne off, 3)) (ht : (pc : Int) + off = (tgt : Int)) (kt : ¬ x = 0 → Rn G I Post tgt ls st M) (kf : x = 0 → Rn G I Post (pc + 3) ls st M) : Rn G I Post pc ls (vI x :: st) M :=
  fun p e s m args below meth c hc H locs lsA hP hS hL hM hLs hSt => lv_if_ne hc.1 hc.2.1 hd ht (fun h9 => kt h9 p e s m args below meth c hc H locs lsA hP hS hL hM hLs hSt.d) (fun h9 => kf h9 p e s m args below meth c hc H locs lsA hP hS hL hM hLs hSt.d)
theorem Rn.icmp_ne {x y : Int32} {off : Int} {tgt : Nat} (hd : decode I.1 pc = .ok (.if_icmp .ne off, 3)) (ht : (pc : Int) + off = (tgt : Int)) (kt : ¬ x = y → Rn G I Post tgt ls st M) (kf : x = y → Rn G I Post (pc + 3) ls st M) : Rn G I Post pc ls (vI y :: vI x :: st) M :=
  fun p e s m args below meth c hc H locs lsA hP hS hL hM hLs hSt => lv_icmp_ne hc.1 hc.2.1 hd ht (fun h9 => kt h9 p e s m args below meth c hc H locs lsA hP hS hL hM hLs hSt.d.d) (fun h9 => kf h9 p e s m args below meth c hc H locs lsA hP hS hL hM hLs hSt.d.d)
theorem Rn.if_lt {x y : Int32} {off : Int} {tgt : Nat} (hd : decode I.1 pc = .ok (.ifCond .lt off, 3)) (ht : (pc : Int) + off = (tgt : Int)) (kt : x < 0 → Rn G I Post tgt ls st M) (kf : ¬ x < 0 → Rn G I Post (pc + 3) ls st M) : Rn G I Post pc ls (vI x :: st) M :=
  fun p e s m args below meth c hc H locs lsA hP hS hL hM hLs hSt => lv_if_lt hc.1 hc.2.1 hd ht (fun h9 => kt h9 p e s m args below meth c hc H locs lsA hP hS hL hM hLs hSt.d) (fun h9 => kf h9 p e s m args below meth c hc H locs lsA hP hS hL hM hLs hSt.d)
theorem Rn.icmp_lt {x y : Int32} {off : Int} {tgt : Nat} (hd : decode I.1 pc = .ok (.if_icmp .lt off, 3)) (ht : (pc : Int) + off = (tgt : Int)) (kt : x < y → Rn G I Post tgt ls st M) (kf : ¬ x < y → Rn G I Post (pc + 3) ls st M) : Rn G I Post pc ls (vI y :: vI x :: st) M :=
  fun p e s m args below meth c hc H locs lsA hP hS hL hM hLs hSt => lv_icmp_lt hc.1 hc.2.1 hd ht (fun h9 => kt h9 p e s m args below meth c hc H locs lsA hP hS hL hM hLs hSt.d.d) (fun h9 => kf h9 p e s m args below meth c hc H locs lsA hP hS hL hM hLs hSt.d.d)
theorem Rn.if_ge {x y : Int32} {off : Int} {tgt : Nat} (hd : decode I.1 pc = .ok (.ifCond .ge off, 3)) (ht : (pc : Int) + off = (tgt : Int)) (kt : 0 ≤ x → Rn G I Post tgt ls st M) (kf : ¬ 0 ≤ x → Rn G I Post (pc + 3) ls st M) : Rn G I Post pc ls (vI x :: st) M :=
  fun p e s m args below meth c hc H locs lsA hP hS hL hM hLs hSt => lv_if_ge hc.1 hc.2.1 hd ht (fun h9 => kt h9 p e s m args below meth c hc H locs lsA hP hS hL hM hLs hSt.d) (fun h9 => kf h9 p e s m args below meth c hc H locs lsA hP hS hL hM hLs hSt.d)
theorem Rn.icmp_ge {x y : Int32} {off : Int} {tgt : Nat} (hd : decode I.1 pc = .ok (.if_icmp .ge off, 3)) (ht : (pc : Int) + off = (tgt : Int)) (kt : y ≤ x → Rn G I Post tgt ls st M) (kf : ¬ y ≤ x → Rn G I Post (pc + 3) ls st M) : Rn G I Post pc ls (vI y :: vI x :: st) M :=
  fun p e s m args below meth c hc H locs lsA hP hS hL hM hLs hSt => lv_icmp_ge hc.1 hc.2.1 hd ht (fun h9 => kt h9 p e s m args below meth c hc H locs lsA hP hS hL hM hLs hSt.d.d) (fun h9 => kf h9 p e s m args below meth c hc H locs lsA hP hS hL hM hLs hSt.d.d)
theorem Rn.if_gt {x y : Int32} {off : Int} {tgt : Nat} (hd : decode I.1 pc = .ok (.ifCond .gt off, 3)) (ht : (pc : Int) + off = (tgt : Int)) (kt : 0 < x → Rn G I Post tgt ls st M) (kf : ¬ 0 < x → Rn G I Post (pc + 3) ls st M) : Rn G I Post pc ls (vI x :: st) M :=
  fun p e s m args below meth c hc H locs lsA hP hS hL hM hLs hSt => lv_if_gt hc.1 hc.2.1 hd ht (fun h9 => kt h9 p e s m args below meth c hc H locs lsA hP hS hL hM hLs hSt.d) (fun h9 => kf h9 p e s m args below meth c hc H locs lsA hP hS hL hM hLs hSt.d)
theorem Rn.icmp_gt {x y : Int32} {off : Int} {tgt : Nat} (hd : decode I.1 pc = .ok (.if_icmp .gt off, 3)) (ht : (pc : Int) + off = (tgt : Int)) (kt : y < x → Rn G I Post tgt ls st M) (kf : ¬ y < x → Rn G I Post (pc + 3) ls st M) : Rn G I Post pc ls (vI y :: vI x :: st) M :=
  fun p e s m args below meth c hc H locs lsA hP hS hL hM hLs hSt => lv_icmp_gt hc.1 hc.2.1 hd ht (fun h9 => kt h9 p e s m args below meth c hc H locs lsA hP hS hL hM hLs hSt.d.d) (fun h9 => kf h9 p e s m args below meth c hc H locs lsA hP hS hL hM hLs hSt.d.d)
theorem Rn.if_le {x y : Int32} {off : Int} {tgt : Nat} (hd : decode I.1 pc = .ok (.ifCond .le off, 3)) (ht : (pc : Int) + off = (tgt : Int)) (kt : x ≤ 0 → Rn G I Post tgt ls st M) (kf : ¬ x ≤ 0 → Rn G I Post (pc + 3) ls st M) : Rn G I Post pc ls (vI x :: st) M :=
  fun p e s m args below meth c hc H locs lsA hP hS hL hM hLs hSt => lv_if_le hc.1 hc.2.1 hd ht (fun h9 => kt h9 p e s m args below meth c hc H locs lsA hP hS hL hM hLs hSt.d) (fun h9 => kf h9 p e s m args below meth c hc H locs lsA hP hS hL hM hLs hSt.d)
theorem Rn.icmp_le {x y : Int32} {off : Int} {tgt : Nat} (hd : decode I.1 pc = .ok (.if_icmp .le off, 3)) (ht : (pc : Int) + off = (tgt : Int)) (kt : x ≤ y → Rn G I Post tgt ls st M) (kf : ¬ x ≤ y → Rn G I Post (pc + 3) ls st M) : Rn G I Post pc ls (vI y :: vI x :: st) M :=
  fun p e s m args below meth c hc H locs lsA hP hS hL hM hLs hSt => lv_icmp_le hc.1 hc.2.1 hd ht (fun h9 => kt h9 p e s m args below meth c hc H locs lsA hP hS hL hM hLs hSt.d.d) (fun h9 => kf h9 p e s m args below meth c hc H locs lsA hP hS hL hM hLs hSt.d.d)
theorem Rn.iincN {x n : Nat} {i : Nat} {ls' : List (Option AV)} (hd : decode I.1 pc = .ok (.iinc i (n : Int), 3)) (hx : ls[i]? = some (some (vI (nI x)))) (hv : Int32.ofInt (n : Int) = nI n) (hn : i < I.2.2.1) (hp : notL ls i = true) (hl : ls.set i (some (vI (nI (x + n)))) = ls') (k9 : Rn G I Post (pc + 3) ls' st M) : Rn G I Post pc ls st M := Rn.iinc hd hx (by rw [hv, nI_add]) hn hp hl k9
theorem Rn.icmp_eqN {x y : Nat} {off : Int} {tgt : Nat} (hd : decode I.1 pc = .ok (.if_icmp .eq off, 3)) (ht : (pc : Int) + off = (tgt : Int)) (hx : x < 2 ^ 31) (hy : y < 2 ^ 31) (kt : x = y → Rn G I Post tgt ls st M) (kf : ¬ x = y → Rn G I Post (pc + 3) ls st M) : Rn G I Post pc ls (vI (nI y) :: vI (nI x) :: st) M := Rn.icmp_eq hd ht (fun h => kt ((nI_eq hx hy).mp h)) (fun h => kf (fun e => h ((nI_eq hx hy).mpr e)))
theorem Rn.icmp_neN {x y : Nat} {off : Int} {tgt : Nat} (hd : decode I.1 pc = .ok (.if_icmp .ne off, 3)) (ht : (pc : Int) + off = (tgt : Int)) (hx : x < 2 ^ 31) (hy : y < 2 ^ 31) (kt : ¬ x = y → Rn G I Post tgt ls st M) (kf : x = y → Rn G I Post (pc + 3) ls st M) : Rn G I Post pc ls (vI (nI y) :: vI (nI x) :: st) M := Rn.icmp_ne hd ht (fun h => kt (fun e => h ((nI_eq hx hy).mpr e))) (fun h => kf ((nI_eq hx hy).mp h))
theorem Rn.icmp_ltN {x y : Nat} {off : Int} {tgt : Nat} (hd : decode I.1 pc = .ok (.if_icmp .lt off, 3)) (ht : (pc : Int) + off = (tgt : Int)) (hx : x < 2 ^ 31) (hy : y < 2 ^ 31) (kt : x < y → Rn G I Post tgt ls st M) (kf : y ≤ x → Rn G I Post (pc + 3) ls st M) : Rn G I Post pc ls (vI (nI y) :: vI (nI x) :: st) M := Rn.icmp_lt hd ht (fun h => kt ((nI_ltI hx hy).mp h)) (fun h => kf (Nat.not_lt.mp fun e => h ((nI_ltI hx hy).mpr e)))
theorem Rn.icmp_geN {x y : Nat} {off : Int} {tgt : Nat} (hd : decode I.1 pc = .ok (.if_icmp .ge off, 3)) (ht : (pc : Int) + off = (tgt : Int)) (hx : x < 2 ^ 31) (hy : y < 2 ^ 31) (kt : y ≤ x → Rn G I Post tgt ls st M) (kf : x < y → Rn G I Post (pc + 3) ls st M) : Rn G I Post pc ls (vI (nI y) :: vI (nI x) :: st) M := Rn.icmp_ge hd ht (fun h => kt ((nI_leI hy hx).mp h)) (fun h => kf (Nat.not_le.mp fun e => h ((nI_leI hy hx).mpr e)))
theorem Rn.icmp_gtN {x y : Nat} {off : Int} {tgt : Nat} (hd : decode I.1 pc = .ok (.if_icmp .gt off, 3)) (ht : (pc : Int) + off = (tgt : Int)) (hx : x < 2 ^ 31) (hy : y < 2 ^ 31) (kt : y < x → Rn G I Post tgt ls st M) (kf : x ≤ y → Rn G I Post (pc + 3) ls st M) : Rn G I Post pc ls (vI (nI y) :: vI (nI x) :: st) M := Rn.icmp_gt hd ht (fun h => kt ((nI_ltI hy hx).mp h)) (fun h => kf (Nat.not_lt.mp fun e => h ((nI_ltI hy hx).mpr e)))
theorem Rn.icmp_leN {x y : Nat} {off : Int} {tgt : Nat} (hd : decode I.1 pc = .ok (.if_icmp .le off, 3)) (ht : (pc : Int) + off = (tgt : Int)) (hx : x < 2 ^ 31) (hy : y < 2 ^ 31) (kt : x ≤ y → Rn G I Post tgt ls st M) (kf : y < x → Rn G I Post (pc + 3) ls st M) : Rn G I Post pc ls (vI (nI y) :: vI (nI x) :: st) M := Rn.icmp_le hd ht (fun h => kt ((nI_leI hx hy).mp h)) (fun h => kf (Nat.not_le.mp fun e => h ((nI_leI hx hy).mpr e)))
theorem Rn.goto {off : Int} {tgt : Nat} (hd : decode I.1 pc = .ok (.goto off, 3)) (ht : (pc : Int) + off = (tgt : Int)) (k : Rn G I Post tgt ls st M) : Rn G I Post pc ls st M :=
  fun p e s m args below meth c hc H locs lsA hP hS hL hM hLs hSt => lv_goto hc.1 hc.2.1 hd ht (k p e s m args below meth c hc H locs lsA hP hS hL hM hLs hSt)
theorem Rn.ifnonnull {r j : Nat} {off : Int} {tgt : Nat} (hd : decode I.1 pc = .ok (.ifnonnull off, 3)) (ht : (pc : Int) + off = (tgt : Int)) (k : Rn G I Post tgt ls st M) : Rn G I Post pc ls (vR r j :: st) M :=
  fun p e s m args below meth c hc H locs lsA hP hS hL hM hLs hSt => lv_ifnonnull hc.1 hc.2.1 hd ht (k p e s m args below meth c hc H locs lsA hP hS hL hM hLs hSt.d)
theorem Rn.ifnonnullN {off : Int} (hd : decode I.1 pc = .ok (.ifnonnull off, 3)) (k : Rn G I Post (pc + 3) ls st M) : Rn G I Post pc ls (vN :: st) M :=
  fun p e s m args below meth c hc H locs lsA hP hS hL hM hLs hSt => lv_ifnonnullN hc.1 hc.2.1 hd (k p e s m args below meth c hc H locs lsA hP hS hL hM hLs hSt.d)
theorem Rn.null (hd : decode I.1 pc = .ok (.aconst_null, 1)) (k : Rn G I Post (pc + 1) ls (vN :: st) M) : Rn G I Post pc ls st M :=
  fun p e s m args below meth c hc H locs lsA hP hS hL hM hLs hSt => lv_null hc.1 hc.2.1 hd (k p e s m args below meth c hc H locs lsA hP hS hL hM hLs (okVs.c trivial hSt))
theorem Rn.lookup {dflt : Int} {ps : Array (Int × Int)} {len : Nat} {x : Int32} {off : Int} {tgt : Nat} (hd : decode I.1 pc = .ok (.lookupswitch dflt ps, len)) (hp : (ps.toList.zip (ps.toList.drop 1)).all (fun (a, next) => a.1 < next.1) = true) (ho : Op.lookupswitch.offset ps.toList dflt x.toInt = off) (ht : (pc : Int) + off = (tgt : Int)) (k : Rn G I Post tgt ls st M) : Rn G I Post pc ls (vI x :: st) M :=
  fun p e s m args below meth c hc H locs lsA hP hS hL hM hLs hSt => lv_lookup hc.1 hc.2.1 hd hp ho ht (k p e s m args below meth c hc H locs lsA hP hS hL hM hLs hSt.d)
theorem Rn.tableOut {dflt lo hi : Int} {offs : Array Int} {len : Nat} {x : Int32} {tgt : Nat} (hd : decode I.1 pc = .ok (.tableswitch dflt lo hi offs, len)) (h : x.toInt < lo ∨ hi < x.toInt) (ht : (pc : Int) + dflt = (tgt : Int)) (k : Rn G I Post tgt ls st M) : Rn G I Post pc ls (vI x :: st) M :=
  fun p e s m args below meth c hc H locs lsA hP hS hL hM hLs hSt => lv_tableOut hc.1 hc.2.1 hd h ht (k p e s m args below meth c hc H locs lsA hP hS hL hM hLs hSt.d)
theorem Rn.tableIn {dflt lo hi : Int} {offs : Array Int} {len : Nat} {x : Int32} {off : Int} {tgt : Nat} (hd : decode I.1 pc = .ok (.tableswitch dflt lo hi offs, len)) (h1 : ¬ x.toInt < lo) (h2 : ¬ hi < x.toInt) (ho : offs[(x.toInt - lo).toNat]? = some off) (ht : (pc : Int) + off = (tgt : Int)) (k : Rn G I Post tgt ls st M) : Rn G I Post pc ls (vI x :: st) M :=
  fun p e s m args below meth c hc H locs lsA hP hS hL hM hLs hSt => lv_tableIn hc.1 hc.2.1 hd h1 h2 ho ht (k p e s m args below meth c hc H locs lsA hP hS hL hM hLs hSt.d)
theorem Rn.ldc {index : Nat} {v : Int32} (hd : decode I.1 pc = .ok (.ldc index, 2)) (hw : Cond.constant I.2.1 index v ∈ gw_tbl) (k : Rn G I Post (pc + 2) ls (vI v :: st) M) : Rn G I Post pc ls st M :=
  fun p e s m args below meth c hc H locs lsA hP hS hL hM hLs hSt => lv_ldc hc.1 hc.2.1 hc.2.2.2.2.1 (hc.2.2.2.2.2.1 _ hw) hd (k p e s m args below meth c hc H locs lsA hP hS hL hM hLs (hSt.I _))
theorem Rn.ldc2 {index : Nat} {v : Int64} (hd : decode I.1 pc = .ok (.ldc2_w index, 3)) (hw : Cond.constantLong I.2.1 index v ∈ gw_tbl) (k : Rn G I Post (pc + 3) ls (vJ v :: st) M) : Rn G I Post pc ls st M :=
  fun p e s m args below meth c hc H locs lsA hP hS hL hM hLs hSt => lv_ldc2 hc.1 hc.2.1 hc.2.2.2.2.1 (hc.2.2.2.2.2.1 _ hw) hd (k p e s m args below meth c hc H locs lsA hP hS hL hM hLs (hSt.J _))
theorem Rn.ldcS {index j : Nat} {tx : String} (hd : decode I.1 pc = .ok (.ldc index, 2)) (hw : (I.2.1, index, tx, j) ∈ strR) (hj : j < 60) (k : Rn G I Post (pc + 2) ls (vR 52 j :: st) M) : Rn G I Post pc ls st M :=
  fun p e s m args below meth c hc H locs lsA hP hS hL hM hLs hSt => va_ldcS hc.1 hc.2.1 hc.2.2.2.2.1 (hc.2.2.2.2.2.2.2.2.2.1.2.2.2.2.2.2.2.2 _ hw) hd (k p e s m args below meth c hc H locs lsA hP hS hL hM hLs (okVs.c hj hSt))
end RULES
end
section
theorem mI_sI {M : Mem} {k j s k' j' s' : Nat} {v : Int32} : mI (sI M k j s v) k' j' s' = if k' = k ∧ j' = j ∧ s' = s then v else mI M k' j' s' := rfl
theorem mJ_sI {M : Mem} {k j s k' j' s' : Nat} {v : Int32} : mJ (sI M k j s v) k' j' s' = mJ M k' j' s' := rfl
theorem mR_sI {M : Mem} {k j s k' j' s' : Nat} {v : Int32} : mR (sI M k j s v) k' j' s' = mR M k' j' s' := rfl
theorem mI_sJ {M : Mem} {k j s k' j' s' : Nat} {v : Int64} : mI (sJ M k j s v) k' j' s' = mI M k' j' s' := rfl
theorem mJ_sJ {M : Mem} {k j s k' j' s' : Nat} {v : Int64} : mJ (sJ M k j s v) k' j' s' = if k' = k ∧ j' = j ∧ s' = s then v else mJ M k' j' s' := rfl
theorem mR_sJ {M : Mem} {k j s k' j' s' : Nat} {v : Int64} : mR (sJ M k j s v) k' j' s' = mR M k' j' s' := rfl
theorem mI_sR {M : Mem} {k j s k' j' s' : Nat} {v : Nat} : mI (sR M k j s v) k' j' s' = mI M k' j' s' := rfl
theorem mJ_sR {M : Mem} {k j s k' j' s' : Nat} {v : Nat} : mJ (sR M k j s v) k' j' s' = mJ M k' j' s' := rfl
theorem mR_sR {M : Mem} {k j s k' j' s' : Nat} {v : Nat} : mR (sR M k j s v) k' j' s' = if k' = k ∧ j' = j ∧ s' = s then v else mR M k' j' s' := rfl
theorem okM.I {M : Mem} (h : okM M) (k j s : Nat) (v : Int32) : okM (sI M k j s v) := h
theorem okM.J {M : Mem} (h : okM M) (k j s : Nat) (v : Int64) : okM (sJ M k j s v) := h
theorem okM.R {M : Mem} (h : okM M) {k j s v t : Nat} (hc : slotC k s = t + 2) (hm : mutR k s = true) (hv : v < kCnt t) : okM (sR M k j s v) := by
  intro k' j' s' t' h1 h0 h2
  rw [mR_sR]
  split
  · rename_i h3
    obtain ⟨rfl, rfl, rfl⟩ := h3
    rw [hc] at h2
    have : t = t' := by omega
    subst this
    exact ⟨hv, fun e => by rw [hm] at e; cases e⟩
  · exact h k' j' s' t' h1 h0 h2
theorem nd_inj {α : Type} {l : List α} (h : l.Nodup) {i j : Nat} {a : α} (hi : l[i]? = some a) (hj : l[j]? = some a) : i = j := by
  obtain ⟨h1, e1⟩ := List.getElem?_eq_some_iff.mp hi
  obtain ⟨h2, e2⟩ := List.getElem?_eq_some_iff.mp hj
  rcases Nat.lt_trichotomy i j with q | q | q
  · exact absurd (e1.trans e2.symm) (List.pairwise_iff_getElem.mp h i j h1 h2 q)
  · exact q
  · exact absurd (e2.trans e1.symm) (List.pairwise_iff_getElem.mp h j i h2 h1 q)
theorem wsM_at {G : GX} {M : Mem} {k j : Nat} (h : (k, j) ∈ PL) : ∃ i : Nat, PL[i]? = some (k, j) ∧ (wsM G M)[i]? = some (gA G k j, cellE G M k j) := by
  obtain ⟨i, hi⟩ := List.getElem?_of_mem h
  exact ⟨i, hi, by unfold wsM; rw [List.getElem?_map, hi]; rfl⟩
theorem wsM_set {G : GX} {M M' : Mem} {i k j : Nat} (hi : PL[i]? = some (k, j)) (he : ∀ k' j', ¬ (k' = k ∧ j' = j) → cellE G M' k' j' = cellE G M k' j') : (wsM G M).set i (gA G k j, cellE G M' k j) = wsM G M' := by
  apply List.ext_getElem?
  intro n
  rw [List.getElem?_set]
  by_cases h : i = n
  · subst h
    have hl : i < (wsM G M).length := by
      unfold wsM; rw [List.length_map]; exact (List.getElem?_eq_some_iff.mp hi).1
    rw [if_pos rfl, if_pos hl]
    unfold wsM
    rw [List.getElem?_map, hi]; rfl
  · rw [if_neg h]
    unfold wsM
    rw [List.getElem?_map, List.getElem?_map]
    cases hn : PL[n]? with
    | none => rfl
    | some q =>
      obtain ⟨a, b⟩ := q
      refine congrArg some (Prod.ext rfl ?_)
      refine (he a b fun e => h ?_).symm
      obtain ⟨rfl, rfl⟩ := e
      exact nd_inj PL_nodup hi hn
theorem valC_I {ad : Nat → Nat → Nat} {M : Mem} {k j s k' j' s' t : Nat} {v : Int32} (h : ¬ (k' = k ∧ j' = j ∧ s' = s)) : valC ad (sI M k j s v) k' j' s' t = valC ad M k' j' s' t := by
  rcases t with _ | _ | t
  · show Value.int (mI _ _ _ _) = Value.int _; rw [mI_sI, if_neg h]
  · rfl
  · rfl
theorem valC_J {ad : Nat → Nat → Nat} {M : Mem} {k j s k' j' s' t : Nat} {v : Int64} (h : ¬ (k' = k ∧ j' = j ∧ s' = s)) : valC ad (sJ M k j s v) k' j' s' t = valC ad M k' j' s' t := by
  rcases t with _ | _ | t
  · rfl
  · show Value.long (mJ _ _ _ _) = Value.long _; rw [mJ_sJ, if_neg h]
  · rfl
theorem valC_R {ad : Nat → Nat → Nat} {M : Mem} {k j s k' j' s' t : Nat} {v : Nat} (h : ¬ (k' = k ∧ j' = j ∧ s' = s)) : valC ad (sR M k j s v) k' j' s' t = valC ad M k' j' s' t := by
  rcases t with _ | _ | t
  · rfl
  · rfl
  · show Value.ref (ad t (mR _ _ _ _)) = Value.ref _; rw [mR_sR, if_neg h]
theorem contC_I {ad : Nat → Nat → Nat} {M : Mem} {k j s k' j' t : Nat} {v : Int32} (h : ¬ (k' = k ∧ j' = j)) : contC ad (sI M k j s v) k' j' t = contC ad M k' j' t := by
  rcases t with _ | _ | t
  · show Sum.inl (fun i => mI _ _ _ i) = Sum.inl _
    congr 1; funext i; rw [mI_sI, if_neg (fun q => h ⟨q.1, q.2.1⟩)]
  · rfl
  · rfl
theorem contC_J {ad : Nat → Nat → Nat} {M : Mem} {k j s k' j' t : Nat} {v : Int64} (h : ¬ (k' = k ∧ j' = j)) : contC ad (sJ M k j s v) k' j' t = contC ad M k' j' t := by
  rcases t with _ | _ | t
  · rfl
  · show Sum.inr (Sum.inl (fun i => mJ _ _ _ i)) = Sum.inr (Sum.inl _)
    congr 2; funext i; rw [mJ_sJ, if_neg (fun q => h ⟨q.1, q.2.1⟩)]
  · rfl
theorem contC_R {ad : Nat → Nat → Nat} {M : Mem} {k j s k' j' t : Nat} {v : Nat} (h : ¬ (k' = k ∧ j' = j)) : contC ad (sR M k j s v) k' j' t = contC ad M k' j' t := by
  rcases t with _ | _ | t
  · rfl
  · rfl
  · show Sum.inr (Sum.inr (Sum.inr (Sum.inr (fun i => some (ad t (mR _ _ _ i)))))) = Sum.inr (Sum.inr (Sum.inr (Sum.inr _)))
    congr 5; funext i; rw [mR_sR, if_neg (fun q => h ⟨q.1, q.2.1⟩)]
theorem flds_sI {G : GX} {M : Mem} {k j s k' j' : Nat} {v : Int32} (h : ¬ (k' = k ∧ j' = j)) : flds G (sI M k j s v) k' j' = flds G M k' j' := by
  unfold flds
  apply List.map_congr_left
  intro a _
  exact valC_I (fun q => h ⟨q.1, q.2.1⟩)
theorem cellE_sI {G : GX} {M : Mem} {k j s : Nat} {v : Int32} : ∀ k' j', ¬ (k' = k ∧ j' = j) → cellE G (sI M k j s v) k' j' = cellE G M k' j' := by
  intro k' j' h
  unfold cellE
  rw [flds_sI h, contC_I h]
theorem flds_setI {G : GX} {M : Mem} {k j s : Nat} {v : Int32} (w : Value) (hw : valC (gA G) (sI M k j s v) k j s ((kF k).getD s 0) = w) : (flds G M k j).set s w = flds G (sI M k j s v) k j := by
  apply List.ext_getElem?
  intro n
  rw [List.getElem?_set]
  unfold flds
  by_cases h : s = n
  · subst h
    rw [if_pos rfl, List.length_map, List.length_range, List.getElem?_map]
    by_cases h2 : s < (kF k).length
    · rw [if_pos h2, List.getElem?_range h2]; exact congrArg some hw.symm
    · rw [if_neg h2, List.getElem?_eq_none (by rw [List.length_range]; omega)]; rfl
  · rw [if_neg h, List.getElem?_map, List.getElem?_map]
    cases hn : (List.range (kF k).length)[n]? with
    | none => rfl
    | some a =>
      have ha : a = n := by
        have := (List.getElem?_eq_some_iff.mp hn).2
        rw [List.getElem_range] at this; exact this.symm
      exact congrArg some (valC_I (fun q => h (by omega))).symm
theorem flds_sJ {G : GX} {M : Mem} {k j s k' j' : Nat} {v : Int64} (h : ¬ (k' = k ∧ j' = j)) : flds G (sJ M k j s v) k' j' = flds G M k' j' := by
  unfold flds
  apply List.map_congr_left
  intro a _
  exact valC_J (fun q => h ⟨q.1, q.2.1⟩)
theorem cellE_sJ {G : GX} {M : Mem} {k j s : Nat} {v : Int64} : ∀ k' j', ¬ (k' = k ∧ j' = j) → cellE G (sJ M k j s v) k' j' = cellE G M k' j' := by
  intro k' j' h
  unfold cellE
  rw [flds_sJ h, contC_J h]
theorem flds_setJ {G : GX} {M : Mem} {k j s : Nat} {v : Int64} (w : Value) (hw : valC (gA G) (sJ M k j s v) k j s ((kF k).getD s 0) = w) : (flds G M k j).set s w = flds G (sJ M k j s v) k j := by
  apply List.ext_getElem?
  intro n
  rw [List.getElem?_set]
  unfold flds
  by_cases h : s = n
  · subst h
    rw [if_pos rfl, List.length_map, List.length_range, List.getElem?_map]
    by_cases h2 : s < (kF k).length
    · rw [if_pos h2, List.getElem?_range h2]; exact congrArg some hw.symm
    · rw [if_neg h2, List.getElem?_eq_none (by rw [List.length_range]; omega)]; rfl
  · rw [if_neg h, List.getElem?_map, List.getElem?_map]
    cases hn : (List.range (kF k).length)[n]? with
    | none => rfl
    | some a =>
      have ha : a = n := by
        have := (List.getElem?_eq_some_iff.mp hn).2
        rw [List.getElem_range] at this; exact this.symm
      exact congrArg some (valC_J (fun q => h (by omega))).symm
theorem flds_sR {G : GX} {M : Mem} {k j s k' j' : Nat} {v : Nat} (h : ¬ (k' = k ∧ j' = j)) : flds G (sR M k j s v) k' j' = flds G M k' j' := by
  unfold flds
  apply List.map_congr_left
  intro a _
  exact valC_R (fun q => h ⟨q.1, q.2.1⟩)
theorem cellE_sR {G : GX} {M : Mem} {k j s : Nat} {v : Nat} : ∀ k' j', ¬ (k' = k ∧ j' = j) → cellE G (sR M k j s v) k' j' = cellE G M k' j' := by
  intro k' j' h
  unfold cellE
  rw [flds_sR h, contC_R h]
theorem flds_setR {G : GX} {M : Mem} {k j s : Nat} {v : Nat} (w : Value) (hw : valC (gA G) (sR M k j s v) k j s ((kF k).getD s 0) = w) : (flds G M k j).set s w = flds G (sR M k j s v) k j := by
  apply List.ext_getElem?
  intro n
  rw [List.getElem?_set]
  unfold flds
  by_cases h : s = n
  · subst h
    rw [if_pos rfl, List.length_map, List.length_range, List.getElem?_map]
    by_cases h2 : s < (kF k).length
    · rw [if_pos h2, List.getElem?_range h2]; exact congrArg some hw.symm
    · rw [if_neg h2, List.getElem?_eq_none (by rw [List.length_range]; omega)]; rfl
  · rw [if_neg h, List.getElem?_map, List.getElem?_map]
    cases hn : (List.range (kF k).length)[n]? with
    | none => rfl
    | some a =>
      have ha : a = n := by
        have := (List.getElem?_eq_some_iff.mp hn).2
        rw [List.getElem_range] at this; exact this.symm
      exact congrArg some (valC_R (fun q => h (by omega))).symm
/-! FIELDS: FL own index k s t: the class own's entry 'index' names field s of the objects of kind k, which holds t -/
def FL (own : String) (index k s t : Nat) (C : String) (T : u_T) (ty : Nat → FieldType) (N : Nat) : Prop :=
  (k < 12 ∧ s < N ∧ N = (kF k).length ∧ (kF k).getD s 0 = t) ∧ vwCl[k]? = some (C, T, N) ∧ (∀ w ∈ u_ws C T N, w ∈ gw_tbl) ∧ Cond.fieldLink own index (T s).1 (T s).2.1 (T s).2.2.1 ∈ gw_tbl ∧
  (∀ a, a < N → parseFieldDescriptor (T a).2.2.1 = some (ty a)) ∧ (∀ a, a < N → ∀ b, b < N → a ≠ b → (T a).2.1 ≠ (T b).2.1)
theorem flds_at {G : GX} {M : Mem} {k j s t N : Nat} (h : k < 12 ∧ s < N ∧ N = (kF k).length ∧ (kF k).getD s 0 = t) : (flds G M k j)[s]? = some (valC (gA G) M k j s t) := by
  obtain ⟨-, h2, h3, h4⟩ := h
  unfold flds
  rw [List.getElem?_map, List.getElem?_range (by omega), ← h4]; rfl
theorem cellE_o {G : GX} {M : Mem} {k j : Nat} (h : k < 12) : cellE G M k j = .inr (k, flds G M k j) := if_pos h
theorem cellE_a {G : GX} {M : Mem} {k j t n cd : Nat} (h : (12 ≤ k ∧ k < 42) ∧ kA k = (t, n, cd)) : cellE G M k j = .inl (gC G t, n, contC (gA G) M k j cd) := by
  unfold cellE
  rw [if_neg (by omega), h.2]
theorem gDis {G : GX} (hI : InjG G) (M : Mem) (sz : Nat) : va_D (gPool G sz) (wsM G M) := by
  refine ⟨fun i j p q hi hj e => ?_, fun k q hk => ?_⟩
  · unfold wsM at hi hj
    rw [List.getElem?_map] at hi hj
    cases h1 : PL[i]? with
    | none => rw [h1] at hi; cases hi
    | some a =>
      cases h2 : PL[j]? with
      | none => rw [h2] at hj; cases hj
      | some b =>
        rw [h1] at hi; rw [h2] at hj
        cases hi; cases hj
        obtain ⟨e1, e2⟩ := hI a.1 a.2 b.1 b.2 (List.mem_of_getElem? h1) (List.mem_of_getElem? h2) e
        have hab : a = b := Prod.ext e1 e2
        subst hab
        exact nd_inj PL_nodup h1 h2
  · unfold wsM at hk
    rw [List.getElem?_map] at hk
    cases h1 : PL[k]? with
    | none => rw [h1] at hk; cases hk
    | some a =>
      rw [h1] at hk; cases hk
      exact Or.inl ⟨a.1, a.2, List.mem_of_getElem? h1, rfl⟩
theorem gSub {G : GX} {a b : Nat} (h : a ≤ b) : ∀ q, gPool G b q → gPool G a q := fun q hq => hq.elim Or.inl (fun h2 => Or.inr (Nat.le_trans h h2))
section HEAP
variable {G : GX} {I : MIx} {Post : Option AV → Mem → Prop} {pc : Nat} {ls : List (Option AV)} {st : List AV} {M : Mem} {C : String} {T : u_T} {ty : Nat → FieldType} {N : Nat}
theorem Rn.getI {k j s t index : Nat} (hf : FL I.2.1 index k s (0) C T ty N) {x : Int32} (hv : mI M k j s = x) (hd : decode I.1 pc = .ok (.getfield index, 3)) (k9 : Rn G I Post (pc + 3) ls (vI x :: st) M) : Rn G I Post pc ls (vR k j :: st) M := by
  subst hv
  intro p e s0 m args below meth c hc H locs lsA hP hS hL hM hLs hSt
  have hpl : (k, j) ∈ PL := mem_PL.mpr ⟨by have := hf.1.1; omega, hSt.hd⟩
  obtain ⟨i, -, hi⟩ := wsM_at (G := G) (M := M) hpl
  rw [cellE_o hf.1.1] at hi
  exact va_get (D := gD G) (ci := k) (C := C) (T := T) (N := N) hc.1 hc.2.1 hc.2.2.2.2.2.1 hf.2.2.1 hc.2.2.2.2.1 hc.2.2.2.2.2.2.1 hP i hi hf.2.1 s hf.1.2.1 (hc.2.2.2.2.2.1 _ hf.2.2.2.1) (fun _ h9 => h9) (flds_at hf.1) hd (k9 p e s0 m args below meth c hc H locs lsA hP hS hL hM hLs (hSt.d.I _))
theorem Rn.getJ {k j s t index : Nat} (hf : FL I.2.1 index k s (1) C T ty N) {x : Int64} (hv : mJ M k j s = x) (hd : decode I.1 pc = .ok (.getfield index, 3)) (k9 : Rn G I Post (pc + 3) ls (vJ x :: st) M) : Rn G I Post pc ls (vR k j :: st) M := by
  subst hv
  intro p e s0 m args below meth c hc H locs lsA hP hS hL hM hLs hSt
  have hpl : (k, j) ∈ PL := mem_PL.mpr ⟨by have := hf.1.1; omega, hSt.hd⟩
  obtain ⟨i, -, hi⟩ := wsM_at (G := G) (M := M) hpl
  rw [cellE_o hf.1.1] at hi
  exact va_get (D := gD G) (ci := k) (C := C) (T := T) (N := N) hc.1 hc.2.1 hc.2.2.2.2.2.1 hf.2.2.1 hc.2.2.2.2.1 hc.2.2.2.2.2.2.1 hP i hi hf.2.1 s hf.1.2.1 (hc.2.2.2.2.2.1 _ hf.2.2.2.1) (fun _ h9 => h9) (flds_at hf.1) hd (k9 p e s0 m args below meth c hc H locs lsA hP hS hL hM hLs (hSt.d.J _))
theorem Rn.getRm {k j s t index : Nat} (hf : FL I.2.1 index k s (t + 2) C T ty N) {x : Nat} (hv : mR M k j s = x) (hd : decode I.1 pc = .ok (.getfield index, 3)) (k9 : Rn G I Post (pc + 3) ls (vR t x :: st) M) : Rn G I Post pc ls (vR k j :: st) M := by
  subst hv
  intro p e s0 m args below meth c hc H locs lsA hP hS hL hM hLs hSt
  have hpl : (k, j) ∈ PL := mem_PL.mpr ⟨by have := hf.1.1; omega, hSt.hd⟩
  obtain ⟨i, -, hi⟩ := wsM_at (G := G) (M := M) hpl
  rw [cellE_o hf.1.1] at hi
  exact va_get (D := gD G) (ci := k) (C := C) (T := T) (N := N) hc.1 hc.2.1 hc.2.2.2.2.2.1 hf.2.2.1 hc.2.2.2.2.1 hc.2.2.2.2.2.2.1 hP i hi hf.2.1 s hf.1.2.1 (hc.2.2.2.2.2.1 _ hf.2.2.2.1) (fun _ h9 => h9) (flds_at hf.1) hd (k9 p e s0 m args below meth c hc H locs lsA hP hS hL hM hLs (okVs.c (hM k j s t hpl (by unfold kLen; rw [if_pos hf.1.1, ← hf.1.2.2.1]; exact hf.1.2.1) (by unfold slotC; rw [if_pos hf.1.1]; exact hf.1.2.2.2)).1 hSt.d))
theorem Rn.getR {k j s t index r : Nat} (hf : FL I.2.1 index k s (t + 2) C T ty N) (hm : mutR k s = false) (hr : fixR k j s = r) (hd : decode I.1 pc = .ok (.getfield index, 3)) (k9 : Rn G I Post (pc + 3) ls (vR t r :: st) M) : Rn G I Post pc ls (vR k j :: st) M := by
  intro p e s0 m args below meth c hc H locs lsA hP hS hL hM hLs hSt
  have hpl : (k, j) ∈ PL := mem_PL.mpr ⟨by have := hf.1.1; omega, hSt.hd⟩
  have hx := (hM k j s t hpl (by unfold kLen; rw [if_pos hf.1.1, ← hf.1.2.2.1]; exact hf.1.2.1) (by unfold slotC; rw [if_pos hf.1.1]; exact hf.1.2.2.2)).2 hm
  exact Rn.getRm hf (hx.trans hr) hd k9 p e s0 m args below meth c hc H locs lsA hP hS hL hM hLs hSt
theorem Rn.putI {k j s t index : Nat} {x : Int32} (hf : FL I.2.1 index k s (0) C T ty N) (hfin : (T s).2.2.2 = false) (hty : ty s = .int) (hd : decode I.1 pc = .ok (.putfield index, 3)) (k9 : Rn G I Post (pc + 3) ls st (sI M k j s x)) : Rn G I Post pc ls (vI x :: vR k j :: st) M := by
  intro p e s0 m args below meth c hc H locs lsA hP hS hL hM hLs hSt
  have hpl : (k, j) ∈ PL := mem_PL.mpr ⟨by have := hf.1.1; omega, hSt.d.hd⟩
  obtain ⟨i, hpi, hi⟩ := wsM_at (G := G) (M := M) hpl
  rw [cellE_o hf.1.1] at hi
  refine va_put (D := gD G) (ci := k) (C := C) (T := T) (N := N) (ty := .int) hc.1 hc.2.1 hc.2.2.2.2.2.1 hf.2.2.1 ty hf.2.2.2.2.1 hf.2.2.2.2.2 hc.2.2.2.2.1 hc.2.2.2.2.2.2.1 hP (gDis hc.2.2.2.2.2.2.2.2.1 M _) hS i hi hf.2.1 s hf.1.2.1 (hc.2.2.2.2.2.1 _ hf.2.2.2.1) (fun _ h9 => h9) hfin (by rw [hf.2.2.2.2.1 s hf.1.2.1, hty]) rfl rfl (by unfold flds; rw [List.length_map, List.length_range, ← hf.1.2.2.1]; exact hf.1.2.1) hd (fun H1 locs1 hP1 _ hS1 => ?_)
  have hset := flds_setI (G := G) (M := M) (k := k) (j := j) (s := s) (v := x) (cv (gA G) (vI x)) (by rw [hf.1.2.2.2]; show Value.int (mI _ _ _ _) = _; rw [mI_sI, if_pos ⟨rfl, rfl, rfl⟩]; rfl)
  have hw := wsM_set (G := G) (M := M) (M' := sI M k j s x) hpi cellE_sI
  rw [cellE_o hf.1.1, ← hset] at hw
  have hP2 : Pw G (sI M k j s x) H1 := by unfold Pw; rw [← hw]; exact hP1
  exact k9 p e s0 m args below meth c hc H1 locs1 lsA hP2 hS1 hL hM hLs hSt.d.d
theorem Rn.putJ {k j s t index : Nat} {x : Int64} (hf : FL I.2.1 index k s (1) C T ty N) (hfin : (T s).2.2.2 = false) (hty : ty s = .long) (hd : decode I.1 pc = .ok (.putfield index, 3)) (k9 : Rn G I Post (pc + 3) ls st (sJ M k j s x)) : Rn G I Post pc ls (vJ x :: vR k j :: st) M := by
  intro p e s0 m args below meth c hc H locs lsA hP hS hL hM hLs hSt
  have hpl : (k, j) ∈ PL := mem_PL.mpr ⟨by have := hf.1.1; omega, hSt.d.hd⟩
  obtain ⟨i, hpi, hi⟩ := wsM_at (G := G) (M := M) hpl
  rw [cellE_o hf.1.1] at hi
  refine va_put (D := gD G) (ci := k) (C := C) (T := T) (N := N) (ty := .long) hc.1 hc.2.1 hc.2.2.2.2.2.1 hf.2.2.1 ty hf.2.2.2.2.1 hf.2.2.2.2.2 hc.2.2.2.2.1 hc.2.2.2.2.2.2.1 hP (gDis hc.2.2.2.2.2.2.2.2.1 M _) hS i hi hf.2.1 s hf.1.2.1 (hc.2.2.2.2.2.1 _ hf.2.2.2.1) (fun _ h9 => h9) hfin (by rw [hf.2.2.2.2.1 s hf.1.2.1, hty]) rfl rfl (by unfold flds; rw [List.length_map, List.length_range, ← hf.1.2.2.1]; exact hf.1.2.1) hd (fun H1 locs1 hP1 _ hS1 => ?_)
  have hset := flds_setJ (G := G) (M := M) (k := k) (j := j) (s := s) (v := x) (cv (gA G) (vJ x)) (by rw [hf.1.2.2.2]; show Value.long (mJ _ _ _ _) = _; rw [mJ_sJ, if_pos ⟨rfl, rfl, rfl⟩]; rfl)
  have hw := wsM_set (G := G) (M := M) (M' := sJ M k j s x) hpi cellE_sJ
  rw [cellE_o hf.1.1, ← hset] at hw
  have hP2 : Pw G (sJ M k j s x) H1 := by unfold Pw; rw [← hw]; exact hP1
  exact k9 p e s0 m args below meth c hc H1 locs1 lsA hP2 hS1 hL hM hLs hSt.d.d
theorem Rn.putR {k j s t index : Nat} {x : Nat} {C9 : String} (hmu : mutR k s = true) (hf : FL I.2.1 index k s (t + 2) C T ty N) (hfin : (T s).2.2.2 = false) (hty : ty s = .object C9) (hd : decode I.1 pc = .ok (.putfield index, 3)) (k9 : Rn G I Post (pc + 3) ls st (sR M k j s x)) : Rn G I Post pc ls (vR t x :: vR k j :: st) M := by
  intro p e s0 m args below meth c hc H locs lsA hP hS hL hM hLs hSt
  have hpl : (k, j) ∈ PL := mem_PL.mpr ⟨by have := hf.1.1; omega, hSt.d.hd⟩
  obtain ⟨i, hpi, hi⟩ := wsM_at (G := G) (M := M) hpl
  rw [cellE_o hf.1.1] at hi
  refine va_put (D := gD G) (ci := k) (C := C) (T := T) (N := N) (ty := .object C9) hc.1 hc.2.1 hc.2.2.2.2.2.1 hf.2.2.1 ty hf.2.2.2.2.1 hf.2.2.2.2.2 hc.2.2.2.2.1 hc.2.2.2.2.2.2.1 hP (gDis hc.2.2.2.2.2.2.2.2.1 M _) hS i hi hf.2.1 s hf.1.2.1 (hc.2.2.2.2.2.1 _ hf.2.2.2.1) (fun _ h9 => h9) hfin (by rw [hf.2.2.2.2.1 s hf.1.2.1, hty]) rfl rfl (by unfold flds; rw [List.length_map, List.length_range, ← hf.1.2.2.1]; exact hf.1.2.1) hd (fun H1 locs1 hP1 _ hS1 => ?_)
  have hset := flds_setR (G := G) (M := M) (k := k) (j := j) (s := s) (v := x) (cv (gA G) (vR t x)) (by rw [hf.1.2.2.2]; show Value.ref (gA G t (mR _ _ _ _)) = _; rw [mR_sR, if_pos ⟨rfl, rfl, rfl⟩]; rfl)
  have hw := wsM_set (G := G) (M := M) (M' := sR M k j s x) hpi cellE_sR
  rw [cellE_o hf.1.1, ← hset] at hw
  have hP2 : Pw G (sR M k j s x) H1 := by unfold Pw; rw [← hw]; exact hP1
  exact k9 p e s0 m args below meth c hc H1 locs1 lsA hP2 hS1 hL (hM.R (by unfold slotC; rw [if_pos hf.1.1]; exact hf.1.2.2.2) hmu hSt.hd) hLs hSt.d.d
theorem Rn.iald {k j n : Nat} {i : Int32} (hk : (12 ≤ k ∧ k < 42) ∧ kA k = (2, n, 0)) (hin : vp_in i n) (hd : decode I.1 pc = .ok (.iaload, 1)) (k9 : Rn G I Post (pc + 1) ls (vI (mI M k j i.toNatClampNeg) :: st) M) : Rn G I Post pc ls (vI i :: vR k j :: st) M := by
  intro p e s0 m args below meth c hc H locs lsA hP hS hL hM hLs hSt
  obtain ⟨q, -, hq⟩ := wsM_at (G := G) (M := M) (mem_PL.mpr ⟨hk.1.2, hSt.d.hd⟩ : (k, j) ∈ PL)
  rw [cellE_a hk] at hq
  exact va_iald (f := fun i => mI M k j i) hc.1 hc.2.1 hc.2.2.2.2.2.2.1 hP q 2 hq (tysG_at G (by decide)) hin hd (k9 p e s0 m args below meth c hc H locs lsA hP hS hL hM hLs (hSt.d.d.I _))
theorem Rn.bald {k j n : Nat} {i : Int32} (hk : (12 ≤ k ∧ k < 42) ∧ kA k = (0, n, 0)) (hin : vp_in i n) (hd : decode I.1 pc = .ok (.baload, 1)) (k9 : Rn G I Post (pc + 1) ls (vI (mI M k j i.toNatClampNeg) :: st) M) : Rn G I Post pc ls (vI i :: vR k j :: st) M := by
  intro p e s0 m args below meth c hc H locs lsA hP hS hL hM hLs hSt
  obtain ⟨q, -, hq⟩ := wsM_at (G := G) (M := M) (mem_PL.mpr ⟨hk.1.2, hSt.d.hd⟩ : (k, j) ∈ PL)
  rw [cellE_a hk] at hq
  exact va_bald (f := fun i => mI M k j i) hc.1 hc.2.1 hc.2.2.2.2.2.2.1 hP q 0 hq (tysG_at G (by decide)) hin hd (k9 p e s0 m args below meth c hc H locs lsA hP hS hL hM hLs (hSt.d.d.I _))
theorem Rn.zald {k j n : Nat} {i : Int32} (hk : (12 ≤ k ∧ k < 42) ∧ kA k = (4, n, 0)) (hin : vp_in i n) (hd : decode I.1 pc = .ok (.baload, 1)) (k9 : Rn G I Post (pc + 1) ls (vI (mI M k j i.toNatClampNeg) :: st) M) : Rn G I Post pc ls (vI i :: vR k j :: st) M := by
  intro p e s0 m args below meth c hc H locs lsA hP hS hL hM hLs hSt
  obtain ⟨q, -, hq⟩ := wsM_at (G := G) (M := M) (mem_PL.mpr ⟨hk.1.2, hSt.d.hd⟩ : (k, j) ∈ PL)
  rw [cellE_a hk] at hq
  exact va_zald (f := fun i => mI M k j i) hc.1 hc.2.1 hc.2.2.2.2.2.2.1 hP q 4 hq (tysG_at G (by decide)) hin hd (k9 p e s0 m args below meth c hc H locs lsA hP hS hL hM hLs (hSt.d.d.I _))
theorem Rn.cald {k j n : Nat} {i : Int32} (hk : (12 ≤ k ∧ k < 42) ∧ kA k = (1, n, 0)) (hin : vp_in i n) (hd : decode I.1 pc = .ok (.caload, 1)) (k9 : Rn G I Post (pc + 1) ls (vI (mI M k j i.toNatClampNeg) :: st) M) : Rn G I Post pc ls (vI i :: vR k j :: st) M := by
  intro p e s0 m args below meth c hc H locs lsA hP hS hL hM hLs hSt
  obtain ⟨q, -, hq⟩ := wsM_at (G := G) (M := M) (mem_PL.mpr ⟨hk.1.2, hSt.d.hd⟩ : (k, j) ∈ PL)
  rw [cellE_a hk] at hq
  exact va_cald (f := fun i => mI M k j i) hc.1 hc.2.1 hc.2.2.2.2.2.2.1 hP q 1 hq (tysG_at G (by decide)) hin hd (k9 p e s0 m args below meth c hc H locs lsA hP hS hL hM hLs (hSt.d.d.I _))
theorem Rn.lald {k j n : Nat} {i : Int32} (hk : (12 ≤ k ∧ k < 42) ∧ kA k = (3, n, 1)) (hin : vp_in i n) (hd : decode I.1 pc = .ok (.laload, 1)) (k9 : Rn G I Post (pc + 1) ls (vJ (mJ M k j i.toNatClampNeg) :: st) M) : Rn G I Post pc ls (vI i :: vR k j :: st) M := by
  intro p e s0 m args below meth c hc H locs lsA hP hS hL hM hLs hSt
  obtain ⟨q, -, hq⟩ := wsM_at (G := G) (M := M) (mem_PL.mpr ⟨hk.1.2, hSt.d.hd⟩ : (k, j) ∈ PL)
  rw [cellE_a hk] at hq
  exact va_lald (f := fun i => mJ M k j i) hc.1 hc.2.1 hc.2.2.2.2.2.2.1 hP q 3 hq (tysG_at G (by decide)) hin hd (k9 p e s0 m args below meth c hc H locs lsA hP hS hL hM hLs (hSt.d.d.J _))
theorem Rn.aald {k j n t t0 : Nat} {i : Int32} (hk : (12 ≤ k ∧ k < 42) ∧ kA k = (t0, n, t + 2)) (ht0 : t0 < 8) (hrf : (tyT t0).isReference = true) (hin : vp_in i n) (hd : decode I.1 pc = .ok (.aaload, 1)) (k9 : Rn G I Post (pc + 1) ls (vR t (mR M k j i.toNatClampNeg) :: st) M) : Rn G I Post pc ls (vI i :: vR k j :: st) M := by
  intro p e s0 m args below meth c hc H locs lsA hP hS hL hM hLs hSt
  have hpl : (k, j) ∈ PL := mem_PL.mpr ⟨hk.1.2, hSt.d.hd⟩
  obtain ⟨q, -, hq⟩ := wsM_at (G := G) (M := M) hpl
  rw [cellE_a hk] at hq
  have hlt : i.toNatClampNeg < n := Nat.not_le.mp fun q => hin (Or.inr q)
  have hcell := hP q _ hq
  exact W.aald (v := .ref (gA G t (mR M k j i.toNatClampNeg))) (ty := tyT t0) hc.1 hc.2.1 hcell ((hc.2.2.2.2.2.2.1.2 t0 _ (tysG_at G ht0)).1 n (fun j9 => va_rf (some (gA G t (mR M k j j9))))) hrf (fun q => by cases q) (by show ¬ (i < 0 ∨ (arrV _ _ _).slots.size ≤ _); rw [arrV_size]; exact hin) (by show (arrV _ _ _).slots[_]? = _; rw [arrV_read _ _ hlt]; rfl) rfl rfl hd (k9 p e s0 m args below meth c hc H locs lsA hP hS hL hM hLs (okVs.c (hM k j _ t hpl (by unfold kLen; rw [if_neg (by omega), hk.2]; exact hlt) (by unfold slotC; rw [if_neg (by omega), hk.2])).1 hSt.d.d))
theorem Rn.alen {k j n t cd : Nat} (hk : (12 ≤ k ∧ k < 42) ∧ kA k = (t, n, cd)) (ht : t < 8) (hd : decode I.1 pc = .ok (.arraylength, 1)) (k9 : Rn G I Post (pc + 1) ls (vI (Int32.ofNat n) :: st) M) : Rn G I Post pc ls (vR k j :: st) M := by
  intro p e s0 m args below meth c hc H locs lsA hP hS hL hM hLs hSt
  obtain ⟨q, -, hq⟩ := wsM_at (G := G) (M := M) (mem_PL.mpr ⟨hk.1.2, hSt.hd⟩ : (k, j) ∈ PL)
  rw [cellE_a hk] at hq
  exact va_alen (v := Int32.ofNat n) hc.1 hc.2.1 hc.2.2.2.2.2.2.1 hP q t hq (tysG_at G ht) rfl hd (k9 p e s0 m args below meth c hc H locs lsA hP hS hL hM hLs (hSt.d.I _))
theorem Rn.iast {k j n : Nat} {i x : Int32} (hk : (12 ≤ k ∧ k < 42) ∧ kA k = (2, n, 0)) (hin : vp_in i n) (hd : decode I.1 pc = .ok (.iastore, 1)) (k9 : Rn G I Post (pc + 1) ls st (sI M k j i.toNatClampNeg x)) : Rn G I Post pc ls (vI x :: vI i :: vR k j :: st) M := by
  intro p e s0 m args below meth c hc H locs lsA hP hS hL hM hLs hSt
  obtain ⟨q, hpi, hq⟩ := wsM_at (G := G) (M := M) (mem_PL.mpr ⟨hk.1.2, hSt.d.d.hd⟩ : (k, j) ∈ PL)
  rw [cellE_a hk] at hq
  refine va_iast (f := fun i => mI M k j i) hc.1 hc.2.1 hc.2.2.2.2.2.2.1 hP (gDis hc.2.2.2.2.2.2.2.2.1 M _) hS q 2 hq (tysG_at G (by decide)) hin hd (fun H1 locs1 hP1 _ hS1 => ?_)
  have hw := wsM_set (G := G) (M := M) (M' := sI M k j i.toNatClampNeg x) hpi cellE_sI
  rw [cellE_a hk] at hw
  have hf : contC (gA G) (sI M k j i.toNatClampNeg x) k j 0 = .inl (upd (fun i => mI M k j i) i.toNatClampNeg x) := by
    show Sum.inl _ = Sum.inl _
    congr 1; funext a
    rw [mI_sI]
    unfold upd
    by_cases h : a = i.toNatClampNeg
    · rw [if_pos ⟨rfl, rfl, h⟩, if_pos h]
    · rw [if_neg (fun q => h q.2.2), if_neg h]
  rw [hf] at hw
  have hP2 : Pw G (sI M k j i.toNatClampNeg x) H1 := by unfold Pw; rw [← hw]; exact hP1
  exact k9 p e s0 m args below meth c hc H1 locs1 lsA hP2 hS1 hL hM hLs hSt.d.d.d
theorem Rn.bast {k j n : Nat} {i x : Int32} (hk : (12 ≤ k ∧ k < 42) ∧ kA k = (0, n, 0)) (hin : vp_in i n) (hd : decode I.1 pc = .ok (.bastore, 1)) (k9 : Rn G I Post (pc + 1) ls st (sI M k j i.toNatClampNeg (vp_nar .byte x))) : Rn G I Post pc ls (vI x :: vI i :: vR k j :: st) M := by
  intro p e s0 m args below meth c hc H locs lsA hP hS hL hM hLs hSt
  obtain ⟨q, hpi, hq⟩ := wsM_at (G := G) (M := M) (mem_PL.mpr ⟨hk.1.2, hSt.d.d.hd⟩ : (k, j) ∈ PL)
  rw [cellE_a hk] at hq
  refine va_bast (f := fun i => mI M k j i) hc.1 hc.2.1 hc.2.2.2.2.2.2.1 hP (gDis hc.2.2.2.2.2.2.2.2.1 M _) hS q 0 hq (tysG_at G (by decide)) hin hd (fun H1 locs1 hP1 _ hS1 => ?_)
  have hw := wsM_set (G := G) (M := M) (M' := sI M k j i.toNatClampNeg (vp_nar .byte x)) hpi cellE_sI
  rw [cellE_a hk] at hw
  have hf : contC (gA G) (sI M k j i.toNatClampNeg (vp_nar .byte x)) k j 0 = .inl (upd (fun i => mI M k j i) i.toNatClampNeg (vp_nar .byte x)) := by
    show Sum.inl _ = Sum.inl _
    congr 1; funext a
    rw [mI_sI]
    unfold upd
    by_cases h : a = i.toNatClampNeg
    · rw [if_pos ⟨rfl, rfl, h⟩, if_pos h]
    · rw [if_neg (fun q => h q.2.2), if_neg h]
  rw [hf] at hw
  have hP2 : Pw G (sI M k j i.toNatClampNeg (vp_nar .byte x)) H1 := by unfold Pw; rw [← hw]; exact hP1
  exact k9 p e s0 m args below meth c hc H1 locs1 lsA hP2 hS1 hL hM hLs hSt.d.d.d
theorem Rn.zast {k j n : Nat} {i x : Int32} (hk : (12 ≤ k ∧ k < 42) ∧ kA k = (4, n, 0)) (hin : vp_in i n) (hd : decode I.1 pc = .ok (.bastore, 1)) (k9 : Rn G I Post (pc + 1) ls st (sI M k j i.toNatClampNeg (vp_nar .boolean x))) : Rn G I Post pc ls (vI x :: vI i :: vR k j :: st) M := by
  intro p e s0 m args below meth c hc H locs lsA hP hS hL hM hLs hSt
  obtain ⟨q, hpi, hq⟩ := wsM_at (G := G) (M := M) (mem_PL.mpr ⟨hk.1.2, hSt.d.d.hd⟩ : (k, j) ∈ PL)
  rw [cellE_a hk] at hq
  refine va_zast (f := fun i => mI M k j i) hc.1 hc.2.1 hc.2.2.2.2.2.2.1 hP (gDis hc.2.2.2.2.2.2.2.2.1 M _) hS q 4 hq (tysG_at G (by decide)) hin hd (fun H1 locs1 hP1 _ hS1 => ?_)
  have hw := wsM_set (G := G) (M := M) (M' := sI M k j i.toNatClampNeg (vp_nar .boolean x)) hpi cellE_sI
  rw [cellE_a hk] at hw
  have hf : contC (gA G) (sI M k j i.toNatClampNeg (vp_nar .boolean x)) k j 0 = .inl (upd (fun i => mI M k j i) i.toNatClampNeg (vp_nar .boolean x)) := by
    show Sum.inl _ = Sum.inl _
    congr 1; funext a
    rw [mI_sI]
    unfold upd
    by_cases h : a = i.toNatClampNeg
    · rw [if_pos ⟨rfl, rfl, h⟩, if_pos h]
    · rw [if_neg (fun q => h q.2.2), if_neg h]
  rw [hf] at hw
  have hP2 : Pw G (sI M k j i.toNatClampNeg (vp_nar .boolean x)) H1 := by unfold Pw; rw [← hw]; exact hP1
  exact k9 p e s0 m args below meth c hc H1 locs1 lsA hP2 hS1 hL hM hLs hSt.d.d.d
theorem Rn.cast {k j n : Nat} {i x : Int32} (hk : (12 ≤ k ∧ k < 42) ∧ kA k = (1, n, 0)) (hin : vp_in i n) (hd : decode I.1 pc = .ok (.castore, 1)) (k9 : Rn G I Post (pc + 1) ls st (sI M k j i.toNatClampNeg (vp_nar .char x))) : Rn G I Post pc ls (vI x :: vI i :: vR k j :: st) M := by
  intro p e s0 m args below meth c hc H locs lsA hP hS hL hM hLs hSt
  obtain ⟨q, hpi, hq⟩ := wsM_at (G := G) (M := M) (mem_PL.mpr ⟨hk.1.2, hSt.d.d.hd⟩ : (k, j) ∈ PL)
  rw [cellE_a hk] at hq
  refine va_cast (f := fun i => mI M k j i) hc.1 hc.2.1 hc.2.2.2.2.2.2.1 hP (gDis hc.2.2.2.2.2.2.2.2.1 M _) hS q 1 hq (tysG_at G (by decide)) hin hd (fun H1 locs1 hP1 _ hS1 => ?_)
  have hw := wsM_set (G := G) (M := M) (M' := sI M k j i.toNatClampNeg (vp_nar .char x)) hpi cellE_sI
  rw [cellE_a hk] at hw
  have hf : contC (gA G) (sI M k j i.toNatClampNeg (vp_nar .char x)) k j 0 = .inl (upd (fun i => mI M k j i) i.toNatClampNeg (vp_nar .char x)) := by
    show Sum.inl _ = Sum.inl _
    congr 1; funext a
    rw [mI_sI]
    unfold upd
    by_cases h : a = i.toNatClampNeg
    · rw [if_pos ⟨rfl, rfl, h⟩, if_pos h]
    · rw [if_neg (fun q => h q.2.2), if_neg h]
  rw [hf] at hw
  have hP2 : Pw G (sI M k j i.toNatClampNeg (vp_nar .char x)) H1 := by unfold Pw; rw [← hw]; exact hP1
  exact k9 p e s0 m args below meth c hc H1 locs1 lsA hP2 hS1 hL hM hLs hSt.d.d.d
theorem Rn.last {k j n : Nat} {i : Int32} {x : Int64} (hk : (12 ≤ k ∧ k < 42) ∧ kA k = (3, n, 1)) (hin : vp_in i n) (hd : decode I.1 pc = .ok (.lastore, 1)) (k9 : Rn G I Post (pc + 1) ls st (sJ M k j i.toNatClampNeg x)) : Rn G I Post pc ls (vJ x :: vI i :: vR k j :: st) M := by
  intro p e s0 m args below meth c hc H locs lsA hP hS hL hM hLs hSt
  obtain ⟨q, hpi, hq⟩ := wsM_at (G := G) (M := M) (mem_PL.mpr ⟨hk.1.2, hSt.d.d.hd⟩ : (k, j) ∈ PL)
  rw [cellE_a hk] at hq
  refine va_last (f := fun i => mJ M k j i) hc.1 hc.2.1 hc.2.2.2.2.2.2.1 hP (gDis hc.2.2.2.2.2.2.2.2.1 M _) hS q 3 hq (tysG_at G (by decide)) hin hd (fun H1 locs1 hP1 _ hS1 => ?_)
  have hw := wsM_set (G := G) (M := M) (M' := sJ M k j i.toNatClampNeg x) hpi cellE_sJ
  rw [cellE_a hk] at hw
  have hf : contC (gA G) (sJ M k j i.toNatClampNeg x) k j 1 = .inr (.inl (vp_updL (fun i => mJ M k j i) i.toNatClampNeg x)) := by
    show Sum.inr (Sum.inl _) = Sum.inr (Sum.inl _)
    congr 2; funext a
    rw [mJ_sJ]
    unfold vp_updL
    by_cases h : a = i.toNatClampNeg
    · rw [if_pos ⟨rfl, rfl, h⟩, if_pos h]
    · rw [if_neg (fun q => h q.2.2), if_neg h]
  rw [hf] at hw
  have hP2 : Pw G (sJ M k j i.toNatClampNeg x) H1 := by unfold Pw; rw [← hw]; exact hP1
  exact k9 p e s0 m args below meth c hc H1 locs1 lsA hP2 hS1 hL hM hLs hSt.d.d.d
/-! RETURNS -/
theorem Rn.iret {x : Int32} (hr : I.2.2.2.1 = some .int) (hd : decode I.1 pc = .ok (.ireturn, 1)) (hp : Post (some (vI x)) M) : Rn G I Post pc ls [vI x] M := by
  intro p e s0 m args below meth c hc H locs lsA hP hS hL hM hLs hSt
  exact W.iret (v := x) hc.1 hc.2.1 (hc.2.2.2.1.trans hr) (fun t ht hW => ⟨⟨some (vI x), M, rfl, hp, fun v h => by cases h; exact trivial, hM, by rw [ht]; exact hP⟩, hS.F ht⟩) hS.2.2 hd hc.2.2.2.2.2.2.2.1
theorem Rn.zret {x : Int32} {ty0 : FieldType} (hr : I.2.2.2.1 = some ty0) (hn : narrow ty0 (.int x) = .int x) (hd : decode I.1 pc = .ok (.ireturn, 1)) (hp : Post (some (vI x)) M) : Rn G I Post pc ls [vI x] M := by
  intro p e s0 m args below meth c hc H locs lsA hP hS hL hM hLs hSt
  exact W.zret (v := x) hc.1 hc.2.1 (hc.2.2.2.1.trans hr) hn (fun t ht hW => ⟨⟨some (vI x), M, rfl, hp, fun v h => by cases h; exact trivial, hM, by rw [ht]; exact hP⟩, hS.F ht⟩) hS.2.2 hd hc.2.2.2.2.2.2.2.1
theorem Rn.vret (hr : I.2.2.2.1 = none) (hd : decode I.1 pc = .ok (.return_, 1)) (hp : Post none M) : Rn G I Post pc ls [] M := by
  intro p e s0 m args below meth c hc H locs lsA hP hS hL hM hLs hSt
  exact W.vret hc.1 hc.2.1 (hc.2.2.2.1.trans hr) (fun t ht hW => ⟨⟨none, M, rfl, hp, (fun v h => nomatch h), hM, by rw [ht]; exact hP⟩, hS.F ht⟩) hS.2.2 hd hc.2.2.2.2.2.2.2.1
theorem Rn.lret {x : Int64} (hr : I.2.2.2.1 = some .long) (hd : decode I.1 pc = .ok (.lreturn, 1)) (hp : Post (some (vJ x)) M) : Rn G I Post pc ls [vJ x] M := by
  intro p e s0 m args below meth c hc H locs lsA hP hS hL hM hLs hSt
  exact W.lret (v := x) hc.1 hc.2.1 (hc.2.2.2.1.trans hr) (fun t ht hW => ⟨⟨some (vJ x), M, rfl, hp, fun v h => by cases h; exact trivial, hM, by rw [ht]; exact hP⟩, hS.F ht⟩) hS.2.2 hd hc.2.2.2.2.2.2.2.1
theorem Rn.aret {v : AV} {Cn : String} (hv : v = vN ∨ ∃ k j, v = vR k j) (hr : I.2.2.2.1 = some (.object Cn)) (hd : decode I.1 pc = .ok (.areturn, 1)) (hp : Post (some v) M) : Rn G I Post pc ls [v] M := by
  intro p e s0 m args below meth c hc H locs lsA hP hS hL hM hLs hSt
  exact W.aret (v := cv (gA G) v) hc.1 hc.2.1 (hc.2.2.2.1.trans hr) (Or.inl ⟨Cn, rfl⟩) (by rcases hv with rfl | ⟨k, j, rfl⟩; exact Or.inl rfl; exact Or.inr ⟨_, rfl⟩) (fun t ht hW => ⟨⟨some v, M, rfl, hp, fun v' h => by cases h; exact hSt.hd, hM, by rw [ht]; exact hP⟩, hS.F ht⟩) hS.2.2 hd hc.2.2.2.2.2.2.2.1

theorem Rn.ialdN {k j n e9 : Nat} {x : Int32} (hk : (12 ≤ k ∧ k < 42) ∧ kA k = (2, n, 0)) (he : e9 < n) (hn : n < 2 ^ 31) (hv : mI M k j e9 = x) (hd : decode I.1 pc = .ok (.iaload, 1)) (k9 : Rn G I Post (pc + 1) ls (vI x :: st) M) : Rn G I Post pc ls (vI (nI e9) :: vR k j :: st) M := Rn.iald hk (vp_in_nI he hn) hd (by rw [nI_clamp (by omega), hv]; exact k9)
theorem Rn.baldN {k j n e9 : Nat} {x : Int32} (hk : (12 ≤ k ∧ k < 42) ∧ kA k = (0, n, 0)) (he : e9 < n) (hn : n < 2 ^ 31) (hv : mI M k j e9 = x) (hd : decode I.1 pc = .ok (.baload, 1)) (k9 : Rn G I Post (pc + 1) ls (vI x :: st) M) : Rn G I Post pc ls (vI (nI e9) :: vR k j :: st) M := Rn.bald hk (vp_in_nI he hn) hd (by rw [nI_clamp (by omega), hv]; exact k9)
theorem Rn.zaldN {k j n e9 : Nat} {x : Int32} (hk : (12 ≤ k ∧ k < 42) ∧ kA k = (4, n, 0)) (he : e9 < n) (hn : n < 2 ^ 31) (hv : mI M k j e9 = x) (hd : decode I.1 pc = .ok (.baload, 1)) (k9 : Rn G I Post (pc + 1) ls (vI x :: st) M) : Rn G I Post pc ls (vI (nI e9) :: vR k j :: st) M := Rn.zald hk (vp_in_nI he hn) hd (by rw [nI_clamp (by omega), hv]; exact k9)
theorem Rn.caldN {k j n e9 : Nat} {x : Int32} (hk : (12 ≤ k ∧ k < 42) ∧ kA k = (1, n, 0)) (he : e9 < n) (hn : n < 2 ^ 31) (hv : mI M k j e9 = x) (hd : decode I.1 pc = .ok (.caload, 1)) (k9 : Rn G I Post (pc + 1) ls (vI x :: st) M) : Rn G I Post pc ls (vI (nI e9) :: vR k j :: st) M := Rn.cald hk (vp_in_nI he hn) hd (by rw [nI_clamp (by omega), hv]; exact k9)
theorem Rn.laldN {k j n e9 : Nat} {x : Int64} (hk : (12 ≤ k ∧ k < 42) ∧ kA k = (3, n, 1)) (he : e9 < n) (hn : n < 2 ^ 31) (hv : mJ M k j e9 = x) (hd : decode I.1 pc = .ok (.laload, 1)) (k9 : Rn G I Post (pc + 1) ls (vJ x :: st) M) : Rn G I Post pc ls (vI (nI e9) :: vR k j :: st) M := Rn.lald hk (vp_in_nI he hn) hd (by rw [nI_clamp (by omega), hv]; exact k9)
theorem Rn.aaldN {k j n t t0 e9 r : Nat} (hk : (12 ≤ k ∧ k < 42) ∧ kA k = (t0, n, t + 2)) (ht0 : t0 < 8) (hrf : (tyT t0).isReference = true) (he : e9 < n) (hn : n < 2 ^ 31) (hr : fixR k j e9 = r) (hd : decode I.1 pc = .ok (.aaload, 1)) (k9 : Rn G I Post (pc + 1) ls (vR t r :: st) M) : Rn G I Post pc ls (vI (nI e9) :: vR k j :: st) M := by
  intro p e s0 m args below meth c hc H locs lsA hP hS hL hM hLs hSt
  have hpl : (k, j) ∈ PL := mem_PL.mpr ⟨hk.1.2, hSt.d.hd⟩
  have hmu : mutR k e9 = false := by
    have h1 : (k == 10) = false := by rw [beq_eq_false_iff_ne]; omega
    have h2 : (k == 6) = false := by rw [beq_eq_false_iff_ne]; omega
    unfold mutR; rw [h1, h2]; rfl
  have hx := (hM k j e9 t hpl (by unfold kLen; rw [if_neg (by omega), hk.2]; exact he) (by unfold slotC; rw [if_neg (by omega), hk.2])).2 hmu
  refine Rn.aald hk ht0 hrf (vp_in_nI he hn) hd ?_ p e s0 m args below meth c hc H locs lsA hP hS hL hM hLs hSt
  rw [nI_clamp (by omega), hx, hr]
  exact k9
theorem Rn.iastN {k j n e9 : Nat} {x : Int32} (hk : (12 ≤ k ∧ k < 42) ∧ kA k = (2, n, 0)) (he : e9 < n) (hn : n < 2 ^ 31) (hd : decode I.1 pc = .ok (.iastore, 1)) (k9 : Rn G I Post (pc + 1) ls st (sI M k j e9 x)) : Rn G I Post pc ls (vI x :: vI (nI e9) :: vR k j :: st) M := Rn.iast hk (vp_in_nI he hn) hd (by rw [nI_clamp (by omega)]; exact k9)
theorem Rn.bastN {k j n e9 : Nat} {x z : Int32} (hk : (12 ≤ k ∧ k < 42) ∧ kA k = (0, n, 0)) (he : e9 < n) (hn : n < 2 ^ 31) (hz : vp_nar .byte x = z) (hd : decode I.1 pc = .ok (.bastore, 1)) (k9 : Rn G I Post (pc + 1) ls st (sI M k j e9 z)) : Rn G I Post pc ls (vI x :: vI (nI e9) :: vR k j :: st) M := Rn.bast hk (vp_in_nI he hn) hd (by rw [nI_clamp (by omega), hz]; exact k9)
theorem Rn.zastN {k j n e9 : Nat} {x z : Int32} (hk : (12 ≤ k ∧ k < 42) ∧ kA k = (4, n, 0)) (he : e9 < n) (hn : n < 2 ^ 31) (hz : vp_nar .boolean x = z) (hd : decode I.1 pc = .ok (.bastore, 1)) (k9 : Rn G I Post (pc + 1) ls st (sI M k j e9 z)) : Rn G I Post pc ls (vI x :: vI (nI e9) :: vR k j :: st) M := Rn.zast hk (vp_in_nI he hn) hd (by rw [nI_clamp (by omega), hz]; exact k9)
theorem Rn.castN {k j n e9 : Nat} {x z : Int32} (hk : (12 ≤ k ∧ k < 42) ∧ kA k = (1, n, 0)) (he : e9 < n) (hn : n < 2 ^ 31) (hz : vp_nar .char x = z) (hd : decode I.1 pc = .ok (.castore, 1)) (k9 : Rn G I Post (pc + 1) ls st (sI M k j e9 z)) : Rn G I Post pc ls (vI x :: vI (nI e9) :: vR k j :: st) M := Rn.cast hk (vp_in_nI he hn) hd (by rw [nI_clamp (by omega), hz]; exact k9)
theorem Rn.lastN {k j n e9 : Nat} {x : Int64} (hk : (12 ≤ k ∧ k < 42) ∧ kA k = (3, n, 1)) (he : e9 < n) (hn : n < 2 ^ 31) (hd : decode I.1 pc = .ok (.lastore, 1)) (k9 : Rn G I Post (pc + 1) ls st (sJ M k j e9 x)) : Rn G I Post pc ls (vJ x :: vI (nI e9) :: vR k j :: st) M := Rn.last hk (vp_in_nI he hn) hd (by rw [nI_clamp (by omega)]; exact k9)
end HEAP
end
section
/-! CONTRACTS AND CALLS -/
def MetM (G : GX) (y : MethodName) (I : MIx) (as : List AV) (M : Mem) (Post : Option AV → Mem → Prop) : Prop :=
  okVs as → okM M → ∀ sz : Nat, Met G.1 y (Cond.code y I.1 I.2.2.1 I.2.2.2.1 :: gw_tbl) I.2.2.2.2 (va_Pc (as.map (cv (gA G))) (fun U => U.heap.size = sz ∧ Pw G M U.heap ∧ va_K (gD G) vwCl (tysG G) U ∧ InjG G ∧ RO G (gPool G sz) U U.heap)) (QcM G Post) 0 0 (gPool G sz)
def entA : List AV → List (Option AV)
  | [] => []
  | Sum.inr (Sum.inl x) :: t => some (Sum.inr (Sum.inl x)) :: none :: entA t
  | Sum.inl x :: t => some (Sum.inl x) :: entA t
  | Sum.inr (Sum.inr x) :: t => some (Sum.inr (Sum.inr x)) :: entA t
theorem lvL_none (ad : Nat → Nat → Nat) : ∀ (m n : Nat), lvL ad n (List.replicate m none) = []
  | 0, _ => rfl
  | m + 1, n => by rw [List.replicate_succ, lvL]; exact lvL_none ad m (n + 1)
theorem lvL_ent (ad : Nat → Nat → Nat) (m : Nat) : ∀ (as : List AV) (n : Nat), lvL ad n (entA as ++ List.replicate m none) = lv_args n (as.map (cv ad))
  | [], n => lvL_none ad m n
  | Sum.inl x :: t, n => by
    show (n, Value.int x) :: lvL ad (n + 1) _ = (n, Value.int x) :: lv_args (n + 1) _
    exact congrArg (List.cons _) (lvL_ent ad m t _)
  | Sum.inr (Sum.inl x) :: t, n => by
    show (n, Value.long x) :: lvL ad (n + 1 + 1) _ = (n, Value.long x) :: lv_args (n + 2) _
    exact congrArg (List.cons _) (lvL_ent ad m t _)
  | Sum.inr (Sum.inr none) :: t, n => by
    show (n, Value.null) :: lvL ad (n + 1) _ = (n, Value.null) :: lv_args (n + 1) _
    exact congrArg (List.cons _) (lvL_ent ad m t _)
  | Sum.inr (Sum.inr (some (k, j))) :: t, n => by
    show (n, Value.ref (ad k j)) :: lvL ad (n + 1) _ = (n, Value.ref (ad k j)) :: lv_args (n + 1) _
    exact congrArg (List.cons _) (lvL_ent ad m t _)
theorem ent_len (ad : Nat → Nat → Nat) : ∀ as : List AV, (lg_sl (as.map (cv ad))).length = (entA as).length
  | [] => rfl
  | Sum.inl x :: t => by
    show (lg_sl (t.map (cv ad))).length + 1 = (entA t).length + 1
    rw [ent_len ad t]
  | Sum.inr (Sum.inl x) :: t => by
    show (lg_sl (t.map (cv ad))).length + 1 + 1 = (entA t).length + 1 + 1
    rw [ent_len ad t]
  | Sum.inr (Sum.inr none) :: t => by
    show (lg_sl (t.map (cv ad))).length + 1 = (entA t).length + 1
    rw [ent_len ad t]
  | Sum.inr (Sum.inr (some (k, j))) :: t => by
    show (lg_sl (t.map (cv ad))).length + 1 = (entA t).length + 1
    rw [ent_len ad t]
theorem okLs_ent {as : List AV} (h : okVs as) (m : Nat) : okLs (entA as ++ List.replicate m none) := by
  have key : ∀ (as : List AV), okVs as → ∀ o ∈ entA as, ∀ v, o = some v → okV v := by
    intro as
    induction as with
    | nil => intro _ o ho; cases ho
    | cons a t ih =>
      intro h o ho v e
      rcases a with x | x | x
      · rcases List.mem_cons.mp ho with rfl | ho
        · cases e; exact trivial
        · exact ih h.d o ho v e
      · rcases List.mem_cons.mp ho with rfl | ho
        · cases e; exact trivial
        · rcases List.mem_cons.mp ho with rfl | ho
          · cases e
          · exact ih h.d o ho v e
      · rcases List.mem_cons.mp ho with rfl | ho
        · cases e; exact h.hd
        · exact ih h.d o ho v e
  intro i v hi
  rcases List.mem_append.mp (List.mem_of_getElem? hi) with h1 | h1
  · exact key as h _ h1 v rfl
  · cases (List.eq_of_mem_replicate h1)
theorem MetM.of {G : GX} {y : MethodName} {I : MIx} {as : List AV} {M : Mem} {Post : Option AV → Mem → Prop} {ls : List (Option AV)} (hy : plainName y.cls = true) (hown : I.2.1 = y.cls) (hlen : (entA as).length ≤ I.2.2.1) (hls : entA as ++ List.replicate (I.2.2.1 - (entA as).length) none = ls) (h : okM M → Rn G I Post 0 ls [] M) : MetM G y I as M Post := by
  intro hok hM sz
  refine Met.ofW (cc := I.1) (maxL := I.2.2.1) (ret := I.2.2.2.1) hy rfl ?_
  intro p e s m args below meth c s₁ B hml hv
  obtain ⟨rfl, hsz, hP, hK, hI, hR⟩ := hv
  subst hsz
  have hts := atoms_spec (ws := Cond.code y I.1 I.2.2.1 I.2.2.2.1 :: gw_tbl) B.pre
  have hcx : Cx G I p s m (as.map (cv (gA G))).toArray meth c := ⟨B.exec, B.bytes, hml, B.returns, by rw [hown]; exact findClass_of_methodNamed B.named, fun w hw => hts w (List.mem_cons_of_mem _ hw), hK, B.notSynchronized, hI, hR⟩
  have hl := lv_entry (as.map (cv (gA G))) (n := I.2.2.1) (by rw [ent_len]; exact hlen)
  rw [lg_entry_eq]
  rw [← lvL_ent (gA G) (I.2.2.1 - (entA as).length), hls] at hl
  exact h hM p e s m _ below meth c hcx s.heap [] _ hP va_S.rf hl hM (hls ▸ okLs_ent hok _) (fun v h => nomatch h)
def avc : AV → Nat
  | Sum.inr (Sum.inl _) => 2
  | _ => 1
theorem avc_cat (ad : Nat → Nat → Nat) (v : AV) : (cv ad v).category = avc v := by
  rcases v with x | x | _ | ⟨k, j⟩ <;> rfl
theorem avc_sum (ad : Nat → Nat → Nat) (l : List AV) : ((l.map (cv ad)).map fun v => v.category).sum = (l.map avc).sum := by
  rw [List.map_map]
  congr 1
  apply List.map_congr_left
  intro v _
  exact avc_cat ad v
section CALLS
variable {G : GX} {I : MIx} {Post : Option AV → Mem → Prop} {pc : Nat} {ls : List (Option AV)} {st : List AV} {M : Mem}
theorem Rn.call {P : Option AV → Mem → Prop} {rest : List AV} (hrest : ∀ v ∈ rest, v ∈ st)
    (hr : ∀ (p : Program) (e : Env) (s : State) (m : MethodId) (args : Array Value) (below : List Frame) (meth : Method) (c : Code), Cx G I p s m args meth c → ∀ (H : Heap) (locs : List Loc) (lsA : Array Slot), Pw G M H → va_S (gPool G s.heap.size) s.heap H locs → lv_has lsA I.2.2.1 (lvL (gA G) 0 ls) → okM M → okVs st →
      ∃ a, va_Run p G.1 e I.2.2.2.2 s m args below meth c H locs 0 0 0 0 (F0 m pc lsA (st.map (cv (gA G)))) (rest.map (cv (gA G))) (QcM G P a) (gPool G H.size))
    (kk : ∀ r M', P r M' → Rn G I Post (pc + 3) ls (r.toList ++ rest) M') : Rn G I Post pc ls st M := by
  intro p e s m args below meth c hc H locs lsA hP hS hL hM hLs hSt
  obtain ⟨a, hrun⟩ := hr p e s m args below meth c hc H locs lsA hP hS hL hM hSt
  intro T hT X
  obtain ⟨v, st₀, t, T', L, h0, X', hLf, e1, e2, ⟨⟨r, M', hv, hp, hro, hm', hP'⟩, hz, hk⟩, stp⟩ := hrun T hT X
  rw [h0] at hz hk
  have hsub := gSub (G := G) hS.1
  have hS1 : va_S (gPool G s.heap.size) s.heap T'.heap (locs ++ L) := by
    refine ⟨Nat.le_trans hS.1 (by rw [e1]; exact hz), fun q h1 h2 => ?_, fun q hq => ?_⟩
    · rw [e1, hk q (Nat.lt_of_lt_of_le h1 hS.1) (fun z => h2 (hsub q z))]; exact hS.2.1 q h1 h2
    · rcases List.mem_append.mp hq with h | h
      · exact hS.2.2 q h
      · exact hsub _ (hLf q h)
  obtain ⟨t2, a1, b1⟩ := kk r M' hp p e s m args below meth c hc T'.heap (locs ++ L) lsA (by rw [e1]; exact hP') hS1 hL hm' hLs
    (okVs.app (fun v hv => hro v (by rcases r with _ | x; cases hv; rw [List.mem_singleton.mp hv])) (fun v hv => hSt v (hrest v hv))) T' rfl X'
  refine ⟨t2, stp t2 ?_, b1⟩
  cases hv
  have hstk : (r.toList ++ rest).map (cv (gA G)) = (r.map (cv (gA G))).toList ++ rest.map (cv (gA G)) := by cases r <;> rfl
  rw [hstk] at a1
  exact a1
theorem gw_good {y : MethodName} {b : ByteArray} {n : Nat} {r : Option FieldType} (h : Cond.code y b n r ∈ gw_tbl) {big : List Cond} (hb : ∀ w ∈ gw_tbl, w ∈ big) : GoodIn big (Cond.code y b n r :: gw_tbl) := by
  intro w hw
  have h1 : w ∈ gw_tbl := (List.mem_cons.mp hw).elim (fun e => by rw [e]; exact h) id
  exact ⟨hb w h1, good_of_word (List.mem_filter.mp h1).2⟩
theorem preM {y : MethodName} {Iy : MIx} {as : List AV} {H : Heap} {s : State} {locs : List Loc} {args : Array Value} {p : Program} {m : MethodId} {meth : Method} {c : Code} (hc : Cx G I p s m args meth c) (hP : Pw G M H) (hS : va_S (gPool G s.heap.size) s.heap H locs) :
    FrameBlind (va_Pc (as.map (cv (gA G))) (fun U => U.heap.size = H.size ∧ Pw G M U.heap ∧ va_K (gD G) vwCl (tysG G) U ∧ InjG G ∧ RO G (gPool G H.size) U U.heap)) ∧
    ∀ U : State, U.heap = H → s.WarmedH U.vm → va_Pc (as.map (cv (gA G))) (fun U => U.heap.size = H.size ∧ Pw G M U.heap ∧ va_K (gD G) vwCl (tysG G) U ∧ InjG G ∧ RO G (gPool G H.size) U U.heap) (as.map (cv (gA G))).toArray U := by
  refine ⟨fun a U g mk q => ?_, fun U hU hW => ?_⟩
  · obtain ⟨q0, q1, q2, q3, q4, q5⟩ := q
    exact ⟨q0, q1, q2, va_K.moved (u := U) (U := U.calling g mk a) (Vm.Alike.refl U.vm) q3, q4, RO.same (u := U) (U := U.calling g mk a) rfl q5⟩
  · refine ⟨rfl, by rw [hU], by rw [hU]; exact hP, va_K.moved hW.alike hc.2.2.2.2.2.2.1, hc.2.2.2.2.2.2.2.2.1, ?_⟩
    rw [hU]
    exact RO.warm hW (RO.narrow (RO.kept hc.2.2.2.2.2.2.2.2.2 hS.2.1) (gSub hS.1))
abbrev nMH : String := "java/lang/invoke/MethodHandle"
abbrev nVH : String := "java/lang/invoke/VarHandle"
def CV (own : String) (index : Nat) (C : String) (y : MethodName) (Iy : MIx) (n : Nat) : Prop :=
  (Cond.methodLink own index y ∈ gw_tbl ∧ Cond.instanceMethod y ∈ gw_tbl ∧ Cond.selects C y y ∈ gw_tbl ∧ Cond.initialized C ∈ gw_tbl ∧ Cond.code y Iy.1 Iy.2.2.1 Iy.2.2.2.1 ∈ gw_tbl) ∧ (y.cls = C ∧ y.cls ≠ nMH ∧ y.cls ≠ nVH ∧ (parseMethodDescriptor y.desc).map (fun d => d.parameters.length) = some n) ∧ Iy.2.2.2.2.cells = 0 ∧ Iy.2.2.2.2.slots = 0
def CS (own : String) (index : Nat) (y : MethodName) (Iy : MIx) (n : Nat) : Prop :=
  (Cond.methodLink own index y ∈ gw_tbl ∧ Cond.static y ∈ gw_tbl ∧ Cond.initialized y.cls ∈ gw_tbl ∧ Cond.code y Iy.1 Iy.2.2.1 Iy.2.2.2.1 ∈ gw_tbl) ∧ (y.cls ≠ nMH ∧ y.cls ≠ nVH ∧ (parseMethodDescriptor y.desc).map (fun d => d.parameters.length) = some n) ∧ Iy.2.2.2.2.cells = 0 ∧ Iy.2.2.2.2.slots = 0
def CN (own : String) (index : Nat) (y : MethodName) (Iy : MIx) (n : Nat) : Prop :=
  ((own, index, y) ∈ nmL ∧ Cond.static y ∈ gw_tbl ∧ Cond.initialized y.cls ∈ gw_tbl ∧ Cond.code y Iy.1 Iy.2.2.1 Iy.2.2.2.1 ∈ gw_tbl) ∧ (y.cls ≠ nMH ∧ y.cls ≠ nVH ∧ (parseMethodDescriptor y.desc).map (fun d => d.parameters.length) = some n) ∧ Iy.2.2.2.2.cells = 0 ∧ Iy.2.2.2.2.slots = 0
/-- what a call asks of the rooms -/
def RmOK (I Iy : MIx) : Prop := Iy.2.2.2.2.frames + 1 ≤ I.2.2.2.2.frames ∧ 8 + (Iy.2.2.1 + 11) + Iy.2.2.2.2.locals ≤ I.2.2.2.2.locals
theorem Rn.callV {k j index : Nat} {as rest : List AV} {y : MethodName} {Iy : MIx} {C : String} {T : u_T} {N : Nat} {P : Option AV → Mem → Prop} (hcv : CV I.2.1 index C y Iy as.length) (hkc : k < 12 ∧ vwCl[k]? = some (C, T, N)) (hrm : RmOK I Iy) (hd : decode I.1 pc = .ok (.invokevirtual index, 3)) (hW : (rest.map avc).sum ≤ 8) (hst : st = as.reverse ++ vR k j :: rest) (hm : MetM G y Iy (vR k j :: as) M P)
    (kk : ∀ r M', P r M' → Rn G I Post (pc + 3) ls (r.toList ++ rest) M') : Rn G I Post pc ls st M := by
  subst hst
  refine Rn.call (P := P) (rest := rest) (fun v hv => List.mem_append_right _ (List.mem_cons_of_mem _ hv)) ?_ kk
  intro p e s m args below meth c hc H locs lsA hP hS hL hM hSt
  have hgood : ∀ w ∈ gw_tbl, w.before args s = true := hc.2.2.2.2.2.1
  have hok : okVs (vR k j :: as) := okVs.c (hSt _ (List.mem_append_right _ List.mem_cons_self)) (fun v hv => hSt v (List.mem_append_left _ (List.mem_reverse.mpr hv)))
  have hpl : (k, j) ∈ PL := mem_PL.mpr ⟨by have := hkc.1; omega, hok.hd⟩
  obtain ⟨i, -, hi⟩ := wsM_at (G := G) (M := M) hpl
  rw [cellE_o hkc.1] at hi
  obtain ⟨hb, hPc⟩ := preM (G := G) (I := I) (M := M) (y := y) (Iy := Iy) (as := vR k j :: as) hc hP hS
  have hcw : CallW I.2.2.2.2 s args I.2.1 C index y Iy.1 Iy.2.2.1 Iy.2.2.2.1 (Cond.code y Iy.1 Iy.2.2.1 Iy.2.2.2.1 :: gw_tbl) Iy.2.2.2.2 0 0 (as.map (cv (gA G))).length :=
    ⟨callB_of _ hgood (gw_good hcv.1.2.2.2.2 (fun w h => h)) rfl hcv.2.2.1 hcv.2.2.2 (by rw [hcv.2.1.1]; exact hgood _ hcv.1.2.2.2.1) (hgood _ hcv.1.1) (by rw [List.length_map]; exact hcv.2.1.2) hrm, hgood _ hcv.1.2.1, hgood _ hcv.1.2.2.1⟩
  exact ⟨_, va_runV (Ts := gw_tbl) (As := as.map (cv (gA G))) (rest := rest.map (cv (gA G))) (b := gA G k j) (nL := I.2.2.1) ⟨hc.1, hc.2.1, hc.2.2.1, hc.2.2.2.2.1, hgood⟩ (hm hok hM H.size) hcw ⟨hb, va_recv hc.2.2.2.2.2.2.1 hP hkc.2 hi, hPc⟩ rfl rfl hL.1 (by show List.map (cv (gA G)) (as.reverse ++ vR k j :: rest) = _; rw [List.map_append, List.map_reverse]; rfl) (by rw [avc_sum]; show 0 + _ ≤ 8; omega) hd ⟨Nat.zero_le _, Nat.zero_le _⟩⟩
theorem Rn.callS {index : Nat} {as rest : List AV} {y : MethodName} {Iy : MIx} {P : Option AV → Mem → Prop} (hcv : CS I.2.1 index y Iy as.length) (hrm : RmOK I Iy) (hd : decode I.1 pc = .ok (.invokestatic index, 3)) (hW : (rest.map avc).sum ≤ 8) (hst : st = as.reverse ++ rest) (hm : MetM G y Iy as M P)
    (kk : ∀ r M', P r M' → Rn G I Post (pc + 3) ls (r.toList ++ rest) M') : Rn G I Post pc ls st M := by
  subst hst
  refine Rn.call (P := P) (rest := rest) (fun v hv => List.mem_append_right _ hv) ?_ kk
  intro p e s m args below meth c hc H locs lsA hP hS hL hM hSt
  have hgood : ∀ w ∈ gw_tbl, w.before args s = true := hc.2.2.2.2.2.1
  have hok : okVs as := fun v hv => hSt v (List.mem_append_left _ (List.mem_reverse.mpr hv))
  obtain ⟨hb, hPc⟩ := preM (G := G) (I := I) (M := M) (y := y) (Iy := Iy) (as := as) hc hP hS
  exact ⟨_, va_runS (Ts := gw_tbl) (As := as.map (cv (gA G))) (rest := rest.map (cv (gA G))) (nL := I.2.2.1) ⟨hc.1, hc.2.1, hc.2.2.1, hc.2.2.2.2.1, hgood⟩ (hm hok hM H.size) ⟨callB_of _ hgood (gw_good hcv.1.2.2.2 (fun w h => h)) rfl hcv.2.2.1 hcv.2.2.2 (hgood _ hcv.1.2.2.1) (hgood _ hcv.1.1) (by rw [List.length_map]; exact hcv.2.1) hrm, hgood _ hcv.1.2.1⟩ ⟨hb, hPc⟩ rfl rfl hL.1 (by show List.map (cv (gA G)) (as.reverse ++ rest) = _; rw [List.map_append, List.map_reverse]) (by rw [avc_sum]; show 0 + _ ≤ 8; omega) hd ⟨Nat.zero_le _, Nat.zero_le _⟩⟩
theorem Rn.callN {index : Nat} {as rest : List AV} {y : MethodName} {Iy : MIx} {P : Option AV → Mem → Prop} (hcv : CN I.2.1 index y Iy as.length) (hrm : RmOK I Iy) (hd : decode I.1 pc = .ok (.invokestatic index, 3)) (hW : (rest.map avc).sum ≤ 8) (hst : st = as.reverse ++ rest) (hm : MetM G y Iy as M P)
    (kk : ∀ r M', P r M' → Rn G I Post (pc + 3) ls (r.toList ++ rest) M') : Rn G I Post pc ls st M := by
  subst hst
  refine Rn.call (P := P) (rest := rest) (fun v hv => List.mem_append_right _ hv) ?_ kk
  intro p e s m args below meth c hc H locs lsA hP hS hL hM hSt
  have hgood : ∀ w ∈ gw_tbl, w.before args s = true := hc.2.2.2.2.2.1
  have hok : okVs as := fun v hv => hSt v (List.mem_append_left _ (List.mem_reverse.mpr hv))
  obtain ⟨hb, hPc⟩ := preM (G := G) (I := I) (M := M) (y := y) (Iy := Iy) (as := as) hc hP hS
  exact ⟨_, va_runSN (Ts := gw_tbl) (As := as.map (cv (gA G))) (rest := rest.map (cv (gA G))) (nL := I.2.2.1) (host := "ThumbLinker") ⟨hc.1, hc.2.1, hc.2.2.1, hc.2.2.2.2.1, hgood⟩ (hm hok hM H.size) ⟨va_cnB _ hgood (gw_good hcv.1.2.2.2 (fun w h => h)) rfl hcv.2.2.1 hcv.2.2.2 (hc.2.2.2.2.2.2.2.2.2.2.1 _ hcv.1.1) (hgood _ hcv.1.2.2.1) (by rw [List.length_map]; exact hcv.2.1) hrm, hgood _ hcv.1.2.1, trivial⟩ ⟨hb, hPc⟩ rfl rfl hL.1 (by show List.map (cv (gA G)) (as.reverse ++ rest) = _; rw [List.map_append, List.map_reverse]) (by rw [avc_sum]; show 0 + _ ≤ 8; omega) hd ⟨Nat.zero_le _, Nat.zero_le _⟩⟩
end CALLS
end
section
theorem gw_at {w : Cond} (i : Nat) (h : (lw_tbl[i]? == some w) = true) (hg : goodWord w = true) : w ∈ gw_tbl := gw_in i (beq_iff_eq.mp h) hg
set_option maxRecDepth 100000 in
theorem gnX0 : ∀ w ∈ u_ws RX0 TX0 3, w ∈ gw_tbl := gw_all inX0 (by decide +kernel)
set_option maxRecDepth 100000 in
theorem gnX1 : ∀ w ∈ u_ws RX1 TX1 4, w ∈ gw_tbl := gw_all inX1 (by decide +kernel)
set_option maxRecDepth 100000 in
theorem gnX2 : ∀ w ∈ u_ws RX2 TX2 2, w ∈ gw_tbl := gw_all inX2 (by decide +kernel)
set_option maxRecDepth 100000 in
theorem gnX3 : ∀ w ∈ u_ws RX3 TX3 6, w ∈ gw_tbl := gw_all inX3 (by decide +kernel)
set_option maxRecDepth 100000 in
theorem gnX4 : ∀ w ∈ u_ws RX4 TX4 4, w ∈ gw_tbl := gw_all inX4 (by decide +kernel)
set_option maxRecDepth 100000 in
theorem gnX6 : ∀ w ∈ u_ws RX6 TX6 1, w ∈ gw_tbl := gw_all inX6 (by decide +kernel)
set_option maxRecDepth 100000 in
theorem gnX7 : ∀ w ∈ u_ws RX7 TX7 5, w ∈ gw_tbl := gw_all inX7 (by decide +kernel)
set_option maxRecDepth 100000 in
theorem gnX8 : ∀ w ∈ u_ws RX8 TX8 2, w ∈ gw_tbl := gw_all inX8 (by decide +kernel)
set_option maxRecDepth 100000 in
theorem gnX9 : ∀ w ∈ u_ws RX9 TX9 13, w ∈ gw_tbl := gw_all inX9 (by decide +kernel)
set_option maxRecDepth 100000 in
theorem gnX10 : ∀ w ∈ u_ws RX10 TX10 2, w ∈ gw_tbl := gw_all inX10 (by decide +kernel)
set_option maxRecDepth 100000 in
theorem gnX11 : ∀ w ∈ u_ws RX11 TX11 6, w ∈ gw_tbl := gw_all inX11 (by decide +kernel)
set_option maxRecDepth 100000 in
theorem gnX12 : ∀ w ∈ u_ws RX12 TX12 40, w ∈ gw_tbl := gw_all inX12 (by decide +kernel)
set_option maxRecDepth 100000 in
theorem flX11_10 : FL RX11 10 10 0 (9 + 2) RX11 TX11 tyX11 6 := ⟨⟨by decide, by decide, rfl, rfl⟩, rfl, gnX11, gw_at 375 (by decide +kernel) rfl, tyX11_ok, nmX11⟩
set_option maxRecDepth 100000 in
theorem flX11_18 : FL RX11 18 10 1 (13 + 2) RX11 TX11 tyX11 6 := ⟨⟨by decide, by decide, rfl, rfl⟩, rfl, gnX11, gw_at 376 (by decide +kernel) rfl, tyX11_ok, nmX11⟩
set_option maxRecDepth 100000 in
theorem flX11_26 : FL RX11 26 10 2 (5 + 2) RX11 TX11 tyX11 6 := ⟨⟨by decide, by decide, rfl, rfl⟩, rfl, gnX11, gw_at 377 (by decide +kernel) rfl, tyX11_ok, nmX11⟩
set_option maxRecDepth 100000 in
theorem flX11_33 : FL RX11 33 10 3 (1 + 2) RX11 TX11 tyX11 6 := ⟨⟨by decide, by decide, rfl, rfl⟩, rfl, gnX11, gw_at 378 (by decide +kernel) rfl, tyX11_ok, nmX11⟩
set_option maxRecDepth 100000 in
theorem flX11_40 : FL RX11 40 10 4 (0 + 2) RX11 TX11 tyX11 6 := ⟨⟨by decide, by decide, rfl, rfl⟩, rfl, gnX11, gw_at 379 (by decide +kernel) rfl, tyX11_ok, nmX11⟩
set_option maxRecDepth 100000 in
theorem flX11_44 : FL RX11 44 10 5 (0 + 2) RX11 TX11 tyX11 6 := ⟨⟨by decide, by decide, rfl, rfl⟩, rfl, gnX11, gw_at 380 (by decide +kernel) rfl, tyX11_ok, nmX11⟩
set_option maxRecDepth 100000 in
theorem flX11_51 : FL RX11 51 9 1 0 RX10 TX10 tyX10 2 := ⟨⟨by decide, by decide, rfl, rfl⟩, rfl, gnX10, gw_at 123 (by decide +kernel) rfl, tyX10_ok, nmX10⟩
set_option maxRecDepth 100000 in
theorem flX11_75 : FL RX11 75 7 1 0 RX8 TX8 tyX8 2 := ⟨⟨by decide, by decide, rfl, rfl⟩, rfl, gnX8, gw_at 216 (by decide +kernel) rfl, tyX8_ok, nmX8⟩
set_option maxRecDepth 100000 in
theorem flX11_80 : FL RX11 80 7 0 (14 + 2) RX8 TX8 tyX8 2 := ⟨⟨by decide, by decide, rfl, rfl⟩, rfl, gnX8, gw_at 215 (by decide +kernel) rfl, tyX8_ok, nmX8⟩
set_option maxRecDepth 100000 in
theorem flX11_112 : FL RX11 112 1 0 0 RX1 TX1 tyX1 4 := ⟨⟨by decide, by decide, rfl, rfl⟩, rfl, gnX1, gw_at 266 (by decide +kernel) rfl, tyX1_ok, nmX1⟩
set_option maxRecDepth 100000 in
theorem flX11_115 : FL RX11 115 0 2 (2 + 2) RX0 TX0 tyX0 3 := ⟨⟨by decide, by decide, rfl, rfl⟩, rfl, gnX0, gw_at 367 (by decide +kernel) rfl, tyX0_ok, nmX0⟩
set_option maxRecDepth 100000 in
theorem flX11_119 : FL RX11 119 2 1 0 RX2 TX2 tyX2 2 := ⟨⟨by decide, by decide, rfl, rfl⟩, rfl, gnX2, gw_at 355 (by decide +kernel) rfl, tyX2_ok, nmX2⟩
set_option maxRecDepth 100000 in
theorem flX11_122 : FL RX11 122 1 1 0 RX1 TX1 tyX1 4 := ⟨⟨by decide, by decide, rfl, rfl⟩, rfl, gnX1, gw_at 268 (by decide +kernel) rfl, tyX1_ok, nmX1⟩
set_option maxRecDepth 100000 in
theorem flX11_125 : FL RX11 125 1 2 0 RX1 TX1 tyX1 4 := ⟨⟨by decide, by decide, rfl, rfl⟩, rfl, gnX1, gw_at 270 (by decide +kernel) rfl, tyX1_ok, nmX1⟩
set_option maxRecDepth 100000 in
theorem flX11_128 : FL RX11 128 1 3 0 RX1 TX1 tyX1 4 := ⟨⟨by decide, by decide, rfl, rfl⟩, rfl, gnX1, gw_at 272 (by decide +kernel) rfl, tyX1_ok, nmX1⟩
set_option maxRecDepth 100000 in
theorem flX11_140 : FL RX11 140 0 0 (3 + 2) RX0 TX0 tyX0 3 := ⟨⟨by decide, by decide, rfl, rfl⟩, rfl, gnX0, gw_at 363 (by decide +kernel) rfl, tyX0_ok, nmX0⟩
set_option maxRecDepth 100000 in
theorem flX11_159 : FL RX11 159 0 1 (4 + 2) RX0 TX0 tyX0 3 := ⟨⟨by decide, by decide, rfl, rfl⟩, rfl, gnX0, gw_at 365 (by decide +kernel) rfl, tyX0_ok, nmX0⟩
set_option maxRecDepth 100000 in
theorem flX11_163 : FL RX11 163 4 0 (18 + 2) RX4 TX4 tyX4 4 := ⟨⟨by decide, by decide, rfl, rfl⟩, rfl, gnX4, gw_at 331 (by decide +kernel) rfl, tyX4_ok, nmX4⟩
set_option maxRecDepth 100000 in
theorem flX11_169 : FL RX11 169 8 0 1 RX9 TX9 tyX9 13 := ⟨⟨by decide, by decide, rfl, rfl⟩, rfl, gnX9, gw_at 149 (by decide +kernel) rfl, tyX9_ok, nmX9⟩
set_option maxRecDepth 100000 in
theorem flX11_175 : FL RX11 175 8 1 0 RX9 TX9 tyX9 13 := ⟨⟨by decide, by decide, rfl, rfl⟩, rfl, gnX9, gw_at 152 (by decide +kernel) rfl, tyX9_ok, nmX9⟩
set_option maxRecDepth 100000 in
theorem flX11_182 : FL RX11 182 8 11 0 RX9 TX9 tyX9 13 := ⟨⟨by decide, by decide, rfl, rfl⟩, rfl, gnX9, gw_at 183 (by decide +kernel) rfl, tyX9_ok, nmX9⟩
set_option maxRecDepth 100000 in
theorem flX11_185 : FL RX11 185 8 12 0 RX9 TX9 tyX9 13 := ⟨⟨by decide, by decide, rfl, rfl⟩, rfl, gnX9, gw_at 186 (by decide +kernel) rfl, tyX9_ok, nmX9⟩
set_option maxRecDepth 100000 in
theorem flX11_192 : FL RX11 192 8 2 0 RX9 TX9 tyX9 13 := ⟨⟨by decide, by decide, rfl, rfl⟩, rfl, gnX9, gw_at 155 (by decide +kernel) rfl, tyX9_ok, nmX9⟩
set_option maxRecDepth 100000 in
theorem flX11_193 : FL RX11 193 8 3 0 RX9 TX9 tyX9 13 := ⟨⟨by decide, by decide, rfl, rfl⟩, rfl, gnX9, gw_at 159 (by decide +kernel) rfl, tyX9_ok, nmX9⟩
set_option maxRecDepth 100000 in
theorem flX11_194 : FL RX11 194 8 5 0 RX9 TX9 tyX9 13 := ⟨⟨by decide, by decide, rfl, rfl⟩, rfl, gnX9, gw_at 166 (by decide +kernel) rfl, tyX9_ok, nmX9⟩
set_option maxRecDepth 100000 in
theorem flX11_197 : FL RX11 197 8 7 1 RX9 TX9 tyX9 13 := ⟨⟨by decide, by decide, rfl, rfl⟩, rfl, gnX9, gw_at 173 (by decide +kernel) rfl, tyX9_ok, nmX9⟩
set_option maxRecDepth 100000 in
theorem flX11_203 : FL RX11 203 8 8 0 RX9 TX9 tyX9 13 := ⟨⟨by decide, by decide, rfl, rfl⟩, rfl, gnX9, gw_at 176 (by decide +kernel) rfl, tyX9_ok, nmX9⟩
set_option maxRecDepth 100000 in
theorem flX11_219 : FL RX11 219 3 3 (17 + 2) RX3 TX3 tyX3 6 := ⟨⟨by decide, by decide, rfl, rfl⟩, rfl, gnX3, gw_at 300 (by decide +kernel) rfl, tyX3_ok, nmX3⟩
set_option maxRecDepth 100000 in
theorem flX11_228 : FL RX11 228 4 3 0 RX4 TX4 tyX4 4 := ⟨⟨by decide, by decide, rfl, rfl⟩, rfl, gnX4, gw_at 337 (by decide +kernel) rfl, tyX4_ok, nmX4⟩
set_option maxRecDepth 100000 in
theorem flX0_12 : FL RX0 12 0 0 (3 + 2) RX0 TX0 tyX0 3 := ⟨⟨by decide, by decide, rfl, rfl⟩, rfl, gnX0, gw_at 362 (by decide +kernel) rfl, tyX0_ok, nmX0⟩
set_option maxRecDepth 100000 in
theorem flX0_21 : FL RX0 21 0 1 (4 + 2) RX0 TX0 tyX0 3 := ⟨⟨by decide, by decide, rfl, rfl⟩, rfl, gnX0, gw_at 364 (by decide +kernel) rfl, tyX0_ok, nmX0⟩
set_option maxRecDepth 100000 in
theorem flX0_28 : FL RX0 28 0 2 (2 + 2) RX0 TX0 tyX0 3 := ⟨⟨by decide, by decide, rfl, rfl⟩, rfl, gnX0, gw_at 366 (by decide +kernel) rfl, tyX0_ok, nmX0⟩
set_option maxRecDepth 100000 in
theorem flX0_32 : FL RX0 32 3 5 0 RX3 TX3 tyX3 6 := ⟨⟨by decide, by decide, rfl, rfl⟩, rfl, gnX3, gw_at 304 (by decide +kernel) rfl, tyX3_ok, nmX3⟩
set_option maxRecDepth 100000 in
theorem flX0_40 : FL RX0 40 4 1 (18 + 2) RX4 TX4 tyX4 4 := ⟨⟨by decide, by decide, rfl, rfl⟩, rfl, gnX4, gw_at 333 (by decide +kernel) rfl, tyX4_ok, nmX4⟩
set_option maxRecDepth 100000 in
theorem flX0_44 : FL RX0 44 3 2 (17 + 2) RX3 TX3 tyX3 6 := ⟨⟨by decide, by decide, rfl, rfl⟩, rfl, gnX3, gw_at 297 (by decide +kernel) rfl, tyX3_ok, nmX3⟩
set_option maxRecDepth 100000 in
theorem flX0_48 : FL RX0 48 3 3 (17 + 2) RX3 TX3 tyX3 6 := ⟨⟨by decide, by decide, rfl, rfl⟩, rfl, gnX3, gw_at 299 (by decide +kernel) rfl, tyX3_ok, nmX3⟩
set_option maxRecDepth 100000 in
theorem flX0_51 : FL RX0 51 3 4 (17 + 2) RX3 TX3 tyX3 6 := ⟨⟨by decide, by decide, rfl, rfl⟩, rfl, gnX3, gw_at 302 (by decide +kernel) rfl, tyX3_ok, nmX3⟩
set_option maxRecDepth 100000 in
theorem flX0_54 : FL RX0 54 4 0 (18 + 2) RX4 TX4 tyX4 4 := ⟨⟨by decide, by decide, rfl, rfl⟩, rfl, gnX4, gw_at 330 (by decide +kernel) rfl, tyX4_ok, nmX4⟩
set_option maxRecDepth 100000 in
theorem flX0_57 : FL RX0 57 8 9 0 RX9 TX9 tyX9 13 := ⟨⟨by decide, by decide, rfl, rfl⟩, rfl, gnX9, gw_at 178 (by decide +kernel) rfl, tyX9_ok, nmX9⟩
set_option maxRecDepth 100000 in
theorem flX0_62 : FL RX0 62 8 10 0 RX9 TX9 tyX9 13 := ⟨⟨by decide, by decide, rfl, rfl⟩, rfl, gnX9, gw_at 180 (by decide +kernel) rfl, tyX9_ok, nmX9⟩
set_option maxRecDepth 100000 in
theorem flX0_65 : FL RX0 65 8 0 1 RX9 TX9 tyX9 13 := ⟨⟨by decide, by decide, rfl, rfl⟩, rfl, gnX9, gw_at 148 (by decide +kernel) rfl, tyX9_ok, nmX9⟩
set_option maxRecDepth 100000 in
theorem flX0_73 : FL RX0 73 8 3 0 RX9 TX9 tyX9 13 := ⟨⟨by decide, by decide, rfl, rfl⟩, rfl, gnX9, gw_at 158 (by decide +kernel) rfl, tyX9_ok, nmX9⟩
set_option maxRecDepth 100000 in
theorem flX0_76 : FL RX0 76 8 6 0 RX9 TX9 tyX9 13 := ⟨⟨by decide, by decide, rfl, rfl⟩, rfl, gnX9, gw_at 168 (by decide +kernel) rfl, tyX9_ok, nmX9⟩
set_option maxRecDepth 100000 in
theorem flX0_79 : FL RX0 79 4 2 (20 + 2) RX4 TX4 tyX4 4 := ⟨⟨by decide, by decide, rfl, rfl⟩, rfl, gnX4, gw_at 335 (by decide +kernel) rfl, tyX4_ok, nmX4⟩
set_option maxRecDepth 100000 in
theorem flX0_86 : FL RX0 86 8 5 0 RX9 TX9 tyX9 13 := ⟨⟨by decide, by decide, rfl, rfl⟩, rfl, gnX9, gw_at 165 (by decide +kernel) rfl, tyX9_ok, nmX9⟩
set_option maxRecDepth 100000 in
theorem flX0_96 : FL RX0 96 8 7 1 RX9 TX9 tyX9 13 := ⟨⟨by decide, by decide, rfl, rfl⟩, rfl, gnX9, gw_at 172 (by decide +kernel) rfl, tyX9_ok, nmX9⟩
set_option maxRecDepth 100000 in
theorem flX0_110 : FL RX0 110 8 4 0 RX9 TX9 tyX9 13 := ⟨⟨by decide, by decide, rfl, rfl⟩, rfl, gnX9, gw_at 161 (by decide +kernel) rfl, tyX9_ok, nmX9⟩
set_option maxRecDepth 100000 in
theorem flX1_9 : FL RX1 9 1 0 0 RX1 TX1 tyX1 4 := ⟨⟨by decide, by decide, rfl, rfl⟩, rfl, gnX1, gw_at 265 (by decide +kernel) rfl, tyX1_ok, nmX1⟩
set_option maxRecDepth 100000 in
theorem flX1_15 : FL RX1 15 1 1 0 RX1 TX1 tyX1 4 := ⟨⟨by decide, by decide, rfl, rfl⟩, rfl, gnX1, gw_at 267 (by decide +kernel) rfl, tyX1_ok, nmX1⟩
set_option maxRecDepth 100000 in
theorem flX1_18 : FL RX1 18 1 2 0 RX1 TX1 tyX1 4 := ⟨⟨by decide, by decide, rfl, rfl⟩, rfl, gnX1, gw_at 269 (by decide +kernel) rfl, tyX1_ok, nmX1⟩
set_option maxRecDepth 100000 in
theorem flX1_21 : FL RX1 21 1 3 0 RX1 TX1 tyX1 4 := ⟨⟨by decide, by decide, rfl, rfl⟩, rfl, gnX1, gw_at 271 (by decide +kernel) rfl, tyX1_ok, nmX1⟩
set_option maxRecDepth 100000 in
theorem flX2_11 : FL RX2 11 2 0 (21 + 2) RX2 TX2 tyX2 2 := ⟨⟨by decide, by decide, rfl, rfl⟩, rfl, gnX2, gw_at 353 (by decide +kernel) rfl, tyX2_ok, nmX2⟩
set_option maxRecDepth 100000 in
theorem flX2_21 : FL RX2 21 2 1 0 RX2 TX2 tyX2 2 := ⟨⟨by decide, by decide, rfl, rfl⟩, rfl, gnX2, gw_at 354 (by decide +kernel) rfl, tyX2_ok, nmX2⟩
set_option maxRecDepth 100000 in
theorem flX3_9 : FL RX3 9 3 0 (15 + 2) RX3 TX3 tyX3 6 := ⟨⟨by decide, by decide, rfl, rfl⟩, rfl, gnX3, gw_at 294 (by decide +kernel) rfl, tyX3_ok, nmX3⟩
set_option maxRecDepth 100000 in
theorem flX3_15 : FL RX3 15 3 1 (16 + 2) RX3 TX3 tyX3 6 := ⟨⟨by decide, by decide, rfl, rfl⟩, rfl, gnX3, gw_at 295 (by decide +kernel) rfl, tyX3_ok, nmX3⟩
set_option maxRecDepth 100000 in
theorem flX3_19 : FL RX3 19 3 2 (17 + 2) RX3 TX3 tyX3 6 := ⟨⟨by decide, by decide, rfl, rfl⟩, rfl, gnX3, gw_at 296 (by decide +kernel) rfl, tyX3_ok, nmX3⟩
set_option maxRecDepth 100000 in
theorem flX3_23 : FL RX3 23 3 3 (17 + 2) RX3 TX3 tyX3 6 := ⟨⟨by decide, by decide, rfl, rfl⟩, rfl, gnX3, gw_at 298 (by decide +kernel) rfl, tyX3_ok, nmX3⟩
set_option maxRecDepth 100000 in
theorem flX3_26 : FL RX3 26 3 4 (17 + 2) RX3 TX3 tyX3 6 := ⟨⟨by decide, by decide, rfl, rfl⟩, rfl, gnX3, gw_at 301 (by decide +kernel) rfl, tyX3_ok, nmX3⟩
set_option maxRecDepth 100000 in
theorem flX3_29 : FL RX3 29 3 5 0 RX3 TX3 tyX3 6 := ⟨⟨by decide, by decide, rfl, rfl⟩, rfl, gnX3, gw_at 303 (by decide +kernel) rfl, tyX3_ok, nmX3⟩
set_option maxRecDepth 100000 in
theorem flX4_11 : FL RX4 11 4 0 (18 + 2) RX4 TX4 tyX4 4 := ⟨⟨by decide, by decide, rfl, rfl⟩, rfl, gnX4, gw_at 329 (by decide +kernel) rfl, tyX4_ok, nmX4⟩
set_option maxRecDepth 100000 in
theorem flX4_16 : FL RX4 16 4 1 (18 + 2) RX4 TX4 tyX4 4 := ⟨⟨by decide, by decide, rfl, rfl⟩, rfl, gnX4, gw_at 332 (by decide +kernel) rfl, tyX4_ok, nmX4⟩
set_option maxRecDepth 100000 in
theorem flX4_19 : FL RX4 19 4 2 (20 + 2) RX4 TX4 tyX4 4 := ⟨⟨by decide, by decide, rfl, rfl⟩, rfl, gnX4, gw_at 334 (by decide +kernel) rfl, tyX4_ok, nmX4⟩
set_option maxRecDepth 100000 in
theorem flX4_29 : FL RX4 29 4 3 0 RX4 TX4 tyX4 4 := ⟨⟨by decide, by decide, rfl, rfl⟩, rfl, gnX4, gw_at 336 (by decide +kernel) rfl, tyX4_ok, nmX4⟩
set_option maxRecDepth 100000 in
theorem flX6_12 : FL RX6 12 5 0 (6 + 2) RX6 TX6 tyX6 1 := ⟨⟨by decide, by decide, rfl, rfl⟩, rfl, gnX6, gw_at 255 (by decide +kernel) rfl, tyX6_ok, nmX6⟩
set_option maxRecDepth 100000 in
theorem flX6_35 : FL RX6 35 6 2 0 RX7 TX7 tyX7 5 := ⟨⟨by decide, by decide, rfl, rfl⟩, rfl, gnX7, gw_at 238 (by decide +kernel) rfl, tyX7_ok, nmX7⟩
set_option maxRecDepth 100000 in
theorem flX6_39 : FL RX6 39 8 2 0 RX9 TX9 tyX9 13 := ⟨⟨by decide, by decide, rfl, rfl⟩, rfl, gnX9, gw_at 154 (by decide +kernel) rfl, tyX9_ok, nmX9⟩
set_option maxRecDepth 100000 in
theorem flX6_65 : FL RX6 65 6 3 0 RX7 TX7 tyX7 5 := ⟨⟨by decide, by decide, rfl, rfl⟩, rfl, gnX7, gw_at 241 (by decide +kernel) rfl, tyX7_ok, nmX7⟩
set_option maxRecDepth 100000 in
theorem flX6_68 : FL RX6 68 8 11 0 RX9 TX9 tyX9 13 := ⟨⟨by decide, by decide, rfl, rfl⟩, rfl, gnX9, gw_at 182 (by decide +kernel) rfl, tyX9_ok, nmX9⟩
set_option maxRecDepth 100000 in
theorem flX6_69 : FL RX6 69 6 4 0 RX7 TX7 tyX7 5 := ⟨⟨by decide, by decide, rfl, rfl⟩, rfl, gnX7, gw_at 243 (by decide +kernel) rfl, tyX7_ok, nmX7⟩
set_option maxRecDepth 100000 in
theorem flX6_72 : FL RX6 72 8 12 0 RX9 TX9 tyX9 13 := ⟨⟨by decide, by decide, rfl, rfl⟩, rfl, gnX9, gw_at 185 (by decide +kernel) rfl, tyX9_ok, nmX9⟩
set_option maxRecDepth 100000 in
theorem flX6_81 : FL RX6 81 8 0 1 RX9 TX9 tyX9 13 := ⟨⟨by decide, by decide, rfl, rfl⟩, rfl, gnX9, gw_at 147 (by decide +kernel) rfl, tyX9_ok, nmX9⟩
set_option maxRecDepth 100000 in
theorem flX6_84 : FL RX6 84 8 1 0 RX9 TX9 tyX9 13 := ⟨⟨by decide, by decide, rfl, rfl⟩, rfl, gnX9, gw_at 151 (by decide +kernel) rfl, tyX9_ok, nmX9⟩
set_option maxRecDepth 100000 in
theorem flX6_91 : FL RX6 91 8 3 0 RX9 TX9 tyX9 13 := ⟨⟨by decide, by decide, rfl, rfl⟩, rfl, gnX9, gw_at 157 (by decide +kernel) rfl, tyX9_ok, nmX9⟩
set_option maxRecDepth 100000 in
theorem flX6_97 : FL RX6 97 8 5 0 RX9 TX9 tyX9 13 := ⟨⟨by decide, by decide, rfl, rfl⟩, rfl, gnX9, gw_at 164 (by decide +kernel) rfl, tyX9_ok, nmX9⟩
set_option maxRecDepth 100000 in
theorem flX6_103 : FL RX6 103 8 6 0 RX9 TX9 tyX9 13 := ⟨⟨by decide, by decide, rfl, rfl⟩, rfl, gnX9, gw_at 169 (by decide +kernel) rfl, tyX9_ok, nmX9⟩
set_option maxRecDepth 100000 in
theorem flX6_112 : FL RX6 112 8 8 0 RX9 TX9 tyX9 13 := ⟨⟨by decide, by decide, rfl, rfl⟩, rfl, gnX9, gw_at 175 (by decide +kernel) rfl, tyX9_ok, nmX9⟩
set_option maxRecDepth 100000 in
theorem flX6_118 : FL RX6 118 8 7 1 RX9 TX9 tyX9 13 := ⟨⟨by decide, by decide, rfl, rfl⟩, rfl, gnX9, gw_at 171 (by decide +kernel) rfl, tyX9_ok, nmX9⟩
set_option maxRecDepth 100000 in
theorem flX6_153 : FL RX6 153 8 4 0 RX9 TX9 tyX9 13 := ⟨⟨by decide, by decide, rfl, rfl⟩, rfl, gnX9, gw_at 162 (by decide +kernel) rfl, tyX9_ok, nmX9⟩
set_option maxRecDepth 100000 in
theorem flX7_12 : FL RX7 12 6 0 (9 + 2) RX7 TX7 tyX7 5 := ⟨⟨by decide, by decide, rfl, rfl⟩, rfl, gnX7, gw_at 236 (by decide +kernel) rfl, tyX7_ok, nmX7⟩
set_option maxRecDepth 100000 in
theorem flX7_18 : FL RX7 18 6 1 0 RX7 TX7 tyX7 5 := ⟨⟨by decide, by decide, rfl, rfl⟩, rfl, gnX7, gw_at 237 (by decide +kernel) rfl, tyX7_ok, nmX7⟩
set_option maxRecDepth 100000 in
theorem flX7_22 : FL RX7 22 6 3 0 RX7 TX7 tyX7 5 := ⟨⟨by decide, by decide, rfl, rfl⟩, rfl, gnX7, gw_at 240 (by decide +kernel) rfl, tyX7_ok, nmX7⟩
set_option maxRecDepth 100000 in
theorem flX7_25 : FL RX7 25 6 4 0 RX7 TX7 tyX7 5 := ⟨⟨by decide, by decide, rfl, rfl⟩, rfl, gnX7, gw_at 242 (by decide +kernel) rfl, tyX7_ok, nmX7⟩
set_option maxRecDepth 100000 in
theorem flX7_31 : FL RX7 31 6 2 0 RX7 TX7 tyX7 5 := ⟨⟨by decide, by decide, rfl, rfl⟩, rfl, gnX7, gw_at 239 (by decide +kernel) rfl, tyX7_ok, nmX7⟩
set_option maxRecDepth 100000 in
theorem flX7_34 : FL RX7 34 9 1 0 RX10 TX10 tyX10 2 := ⟨⟨by decide, by decide, rfl, rfl⟩, rfl, gnX10, gw_at 124 (by decide +kernel) rfl, tyX10_ok, nmX10⟩
set_option maxRecDepth 100000 in
theorem flX7_37 : FL RX7 37 9 0 (12 + 2) RX10 TX10 tyX10 2 := ⟨⟨by decide, by decide, rfl, rfl⟩, rfl, gnX10, gw_at 122 (by decide +kernel) rfl, tyX10_ok, nmX10⟩
set_option maxRecDepth 100000 in
theorem flX8_11 : FL RX8 11 7 0 (14 + 2) RX8 TX8 tyX8 2 := ⟨⟨by decide, by decide, rfl, rfl⟩, rfl, gnX8, gw_at 214 (by decide +kernel) rfl, tyX8_ok, nmX8⟩
set_option maxRecDepth 100000 in
theorem flX9_9 : FL RX9 9 8 0 1 RX9 TX9 tyX9 13 := ⟨⟨by decide, by decide, rfl, rfl⟩, rfl, gnX9, gw_at 146 (by decide +kernel) rfl, tyX9_ok, nmX9⟩
set_option maxRecDepth 100000 in
theorem flX9_15 : FL RX9 15 8 1 0 RX9 TX9 tyX9 13 := ⟨⟨by decide, by decide, rfl, rfl⟩, rfl, gnX9, gw_at 150 (by decide +kernel) rfl, tyX9_ok, nmX9⟩
set_option maxRecDepth 100000 in
theorem flX9_19 : FL RX9 19 8 2 0 RX9 TX9 tyX9 13 := ⟨⟨by decide, by decide, rfl, rfl⟩, rfl, gnX9, gw_at 153 (by decide +kernel) rfl, tyX9_ok, nmX9⟩
set_option maxRecDepth 100000 in
theorem flX9_22 : FL RX9 22 8 3 0 RX9 TX9 tyX9 13 := ⟨⟨by decide, by decide, rfl, rfl⟩, rfl, gnX9, gw_at 156 (by decide +kernel) rfl, tyX9_ok, nmX9⟩
set_option maxRecDepth 100000 in
theorem flX9_25 : FL RX9 25 8 4 0 RX9 TX9 tyX9 13 := ⟨⟨by decide, by decide, rfl, rfl⟩, rfl, gnX9, gw_at 160 (by decide +kernel) rfl, tyX9_ok, nmX9⟩
set_option maxRecDepth 100000 in
theorem flX9_28 : FL RX9 28 8 5 0 RX9 TX9 tyX9 13 := ⟨⟨by decide, by decide, rfl, rfl⟩, rfl, gnX9, gw_at 163 (by decide +kernel) rfl, tyX9_ok, nmX9⟩
set_option maxRecDepth 100000 in
theorem flX9_31 : FL RX9 31 8 6 0 RX9 TX9 tyX9 13 := ⟨⟨by decide, by decide, rfl, rfl⟩, rfl, gnX9, gw_at 167 (by decide +kernel) rfl, tyX9_ok, nmX9⟩
set_option maxRecDepth 100000 in
theorem flX9_34 : FL RX9 34 8 7 1 RX9 TX9 tyX9 13 := ⟨⟨by decide, by decide, rfl, rfl⟩, rfl, gnX9, gw_at 170 (by decide +kernel) rfl, tyX9_ok, nmX9⟩
set_option maxRecDepth 100000 in
theorem flX9_37 : FL RX9 37 8 8 0 RX9 TX9 tyX9 13 := ⟨⟨by decide, by decide, rfl, rfl⟩, rfl, gnX9, gw_at 174 (by decide +kernel) rfl, tyX9_ok, nmX9⟩
set_option maxRecDepth 100000 in
theorem flX9_40 : FL RX9 40 8 9 0 RX9 TX9 tyX9 13 := ⟨⟨by decide, by decide, rfl, rfl⟩, rfl, gnX9, gw_at 177 (by decide +kernel) rfl, tyX9_ok, nmX9⟩
set_option maxRecDepth 100000 in
theorem flX9_43 : FL RX9 43 8 10 0 RX9 TX9 tyX9 13 := ⟨⟨by decide, by decide, rfl, rfl⟩, rfl, gnX9, gw_at 179 (by decide +kernel) rfl, tyX9_ok, nmX9⟩
set_option maxRecDepth 100000 in
theorem flX9_46 : FL RX9 46 8 11 0 RX9 TX9 tyX9 13 := ⟨⟨by decide, by decide, rfl, rfl⟩, rfl, gnX9, gw_at 181 (by decide +kernel) rfl, tyX9_ok, nmX9⟩
set_option maxRecDepth 100000 in
theorem flX9_49 : FL RX9 49 8 12 0 RX9 TX9 tyX9 13 := ⟨⟨by decide, by decide, rfl, rfl⟩, rfl, gnX9, gw_at 184 (by decide +kernel) rfl, tyX9_ok, nmX9⟩
set_option maxRecDepth 100000 in
theorem flX10_9 : FL RX10 9 9 0 (12 + 2) RX10 TX10 tyX10 2 := ⟨⟨by decide, by decide, rfl, rfl⟩, rfl, gnX10, gw_at 121 (by decide +kernel) rfl, tyX10_ok, nmX10⟩
set_option maxRecDepth 100000 in
theorem flX10_15 : FL RX10 15 9 1 0 RX10 TX10 tyX10 2 := ⟨⟨by decide, by decide, rfl, rfl⟩, rfl, gnX10, gw_at 125 (by decide +kernel) rfl, tyX10_ok, nmX10⟩
set_option maxRecDepth 100000 in
theorem flX12_7 : FL RX12 7 11 1 (22 + 2) RX12 TX12 tyX12 40 := ⟨⟨by decide, by decide, rfl, rfl⟩, rfl, gnX12, gw_at 931 (by decide +kernel) rfl, tyX12_ok, nmX12⟩
set_option maxRecDepth 100000 in
theorem flX12_13 : FL RX12 13 11 3 (23 + 2) RX12 TX12 tyX12 40 := ⟨⟨by decide, by decide, rfl, rfl⟩, rfl, gnX12, gw_at 933 (by decide +kernel) rfl, tyX12_ok, nmX12⟩
set_option maxRecDepth 100000 in
theorem flX12_17 : FL RX12 17 11 4 (24 + 2) RX12 TX12 tyX12 40 := ⟨⟨by decide, by decide, rfl, rfl⟩, rfl, gnX12, gw_at 934 (by decide +kernel) rfl, tyX12_ok, nmX12⟩
set_option maxRecDepth 100000 in
theorem flX12_20 : FL RX12 20 11 5 (25 + 2) RX12 TX12 tyX12 40 := ⟨⟨by decide, by decide, rfl, rfl⟩, rfl, gnX12, gw_at 935 (by decide +kernel) rfl, tyX12_ok, nmX12⟩
set_option maxRecDepth 100000 in
theorem flX12_23 : FL RX12 23 11 21 (26 + 2) RX12 TX12 tyX12 40 := ⟨⟨by decide, by decide, rfl, rfl⟩, rfl, gnX12, gw_at 951 (by decide +kernel) rfl, tyX12_ok, nmX12⟩
set_option maxRecDepth 100000 in
theorem flX12_26 : FL RX12 26 11 22 (27 + 2) RX12 TX12 tyX12 40 := ⟨⟨by decide, by decide, rfl, rfl⟩, rfl, gnX12, gw_at 952 (by decide +kernel) rfl, tyX12_ok, nmX12⟩
set_option maxRecDepth 100000 in
theorem flX12_29 : FL RX12 29 11 23 (28 + 2) RX12 TX12 tyX12 40 := ⟨⟨by decide, by decide, rfl, rfl⟩, rfl, gnX12, gw_at 953 (by decide +kernel) rfl, tyX12_ok, nmX12⟩
set_option maxRecDepth 100000 in
theorem flX12_32 : FL RX12 32 11 24 (29 + 2) RX12 TX12 tyX12 40 := ⟨⟨by decide, by decide, rfl, rfl⟩, rfl, gnX12, gw_at 954 (by decide +kernel) rfl, tyX12_ok, nmX12⟩
set_option maxRecDepth 100000 in
theorem flX12_35 : FL RX12 35 11 25 (30 + 2) RX12 TX12 tyX12 40 := ⟨⟨by decide, by decide, rfl, rfl⟩, rfl, gnX12, gw_at 955 (by decide +kernel) rfl, tyX12_ok, nmX12⟩
set_option maxRecDepth 100000 in
theorem flX12_39 : FL RX12 39 11 26 (31 + 2) RX12 TX12 tyX12 40 := ⟨⟨by decide, by decide, rfl, rfl⟩, rfl, gnX12, gw_at 956 (by decide +kernel) rfl, tyX12_ok, nmX12⟩
set_option maxRecDepth 100000 in
theorem flX12_42 : FL RX12 42 11 27 (32 + 2) RX12 TX12 tyX12 40 := ⟨⟨by decide, by decide, rfl, rfl⟩, rfl, gnX12, gw_at 957 (by decide +kernel) rfl, tyX12_ok, nmX12⟩
set_option maxRecDepth 100000 in
theorem flX12_45 : FL RX12 45 11 28 (33 + 2) RX12 TX12 tyX12 40 := ⟨⟨by decide, by decide, rfl, rfl⟩, rfl, gnX12, gw_at 958 (by decide +kernel) rfl, tyX12_ok, nmX12⟩
set_option maxRecDepth 100000 in
theorem flX12_48 : FL RX12 48 11 29 (34 + 2) RX12 TX12 tyX12 40 := ⟨⟨by decide, by decide, rfl, rfl⟩, rfl, gnX12, gw_at 959 (by decide +kernel) rfl, tyX12_ok, nmX12⟩
set_option maxRecDepth 100000 in
theorem flX12_51 : FL RX12 51 11 31 (35 + 2) RX12 TX12 tyX12 40 := ⟨⟨by decide, by decide, rfl, rfl⟩, rfl, gnX12, gw_at 961 (by decide +kernel) rfl, tyX12_ok, nmX12⟩
set_option maxRecDepth 100000 in
theorem flX12_54 : FL RX12 54 11 32 (36 + 2) RX12 TX12 tyX12 40 := ⟨⟨by decide, by decide, rfl, rfl⟩, rfl, gnX12, gw_at 962 (by decide +kernel) rfl, tyX12_ok, nmX12⟩
set_option maxRecDepth 100000 in
theorem flX12_57 : FL RX12 57 11 33 (37 + 2) RX12 TX12 tyX12 40 := ⟨⟨by decide, by decide, rfl, rfl⟩, rfl, gnX12, gw_at 963 (by decide +kernel) rfl, tyX12_ok, nmX12⟩
set_option maxRecDepth 100000 in
theorem flX12_60 : FL RX12 60 11 35 (38 + 2) RX12 TX12 tyX12 40 := ⟨⟨by decide, by decide, rfl, rfl⟩, rfl, gnX12, gw_at 965 (by decide +kernel) rfl, tyX12_ok, nmX12⟩
set_option maxRecDepth 100000 in
theorem flX12_63 : FL RX12 63 11 36 (39 + 2) RX12 TX12 tyX12 40 := ⟨⟨by decide, by decide, rfl, rfl⟩, rfl, gnX12, gw_at 966 (by decide +kernel) rfl, tyX12_ok, nmX12⟩
set_option maxRecDepth 100000 in
theorem flX12_66 : FL RX12 66 11 38 (40 + 2) RX12 TX12 tyX12 40 := ⟨⟨by decide, by decide, rfl, rfl⟩, rfl, gnX12, gw_at 968 (by decide +kernel) rfl, tyX12_ok, nmX12⟩
set_option maxRecDepth 100000 in
theorem flX12_72 : FL RX12 72 11 0 0 RX12 TX12 tyX12 40 := ⟨⟨by decide, by decide, rfl, rfl⟩, rfl, gnX12, gw_at 930 (by decide +kernel) rfl, tyX12_ok, nmX12⟩
set_option maxRecDepth 100000 in
theorem flX12_76 : FL RX12 76 11 2 0 RX12 TX12 tyX12 40 := ⟨⟨by decide, by decide, rfl, rfl⟩, rfl, gnX12, gw_at 932 (by decide +kernel) rfl, tyX12_ok, nmX12⟩
set_option maxRecDepth 100000 in
theorem flX12_94 : FL RX12 94 11 7 0 RX12 TX12 tyX12 40 := ⟨⟨by decide, by decide, rfl, rfl⟩, rfl, gnX12, gw_at 937 (by decide +kernel) rfl, tyX12_ok, nmX12⟩
set_option maxRecDepth 100000 in
theorem flX12_97 : FL RX12 97 11 8 0 RX12 TX12 tyX12 40 := ⟨⟨by decide, by decide, rfl, rfl⟩, rfl, gnX12, gw_at 938 (by decide +kernel) rfl, tyX12_ok, nmX12⟩
set_option maxRecDepth 100000 in
theorem flX12_100 : FL RX12 100 11 9 0 RX12 TX12 tyX12 40 := ⟨⟨by decide, by decide, rfl, rfl⟩, rfl, gnX12, gw_at 939 (by decide +kernel) rfl, tyX12_ok, nmX12⟩
set_option maxRecDepth 100000 in
theorem flX12_103 : FL RX12 103 11 6 0 RX12 TX12 tyX12 40 := ⟨⟨by decide, by decide, rfl, rfl⟩, rfl, gnX12, gw_at 936 (by decide +kernel) rfl, tyX12_ok, nmX12⟩
set_option maxRecDepth 100000 in
theorem flX12_106 : FL RX12 106 11 10 0 RX12 TX12 tyX12 40 := ⟨⟨by decide, by decide, rfl, rfl⟩, rfl, gnX12, gw_at 940 (by decide +kernel) rfl, tyX12_ok, nmX12⟩
set_option maxRecDepth 100000 in
theorem flX12_142 : FL RX12 142 11 17 0 RX12 TX12 tyX12 40 := ⟨⟨by decide, by decide, rfl, rfl⟩, rfl, gnX12, gw_at 947 (by decide +kernel) rfl, tyX12_ok, nmX12⟩
set_option maxRecDepth 100000 in
theorem flX12_145 : FL RX12 145 11 18 0 RX12 TX12 tyX12 40 := ⟨⟨by decide, by decide, rfl, rfl⟩, rfl, gnX12, gw_at 948 (by decide +kernel) rfl, tyX12_ok, nmX12⟩
set_option maxRecDepth 100000 in
theorem flX12_156 : FL RX12 156 11 13 0 RX12 TX12 tyX12 40 := ⟨⟨by decide, by decide, rfl, rfl⟩, rfl, gnX12, gw_at 943 (by decide +kernel) rfl, tyX12_ok, nmX12⟩
set_option maxRecDepth 100000 in
theorem flX12_159 : FL RX12 159 11 15 0 RX12 TX12 tyX12 40 := ⟨⟨by decide, by decide, rfl, rfl⟩, rfl, gnX12, gw_at 945 (by decide +kernel) rfl, tyX12_ok, nmX12⟩
set_option maxRecDepth 100000 in
theorem flX12_193 : FL RX12 193 11 16 0 RX12 TX12 tyX12 40 := ⟨⟨by decide, by decide, rfl, rfl⟩, rfl, gnX12, gw_at 946 (by decide +kernel) rfl, tyX12_ok, nmX12⟩
set_option maxRecDepth 100000 in
theorem flX12_294 : FL RX12 294 11 11 0 RX12 TX12 tyX12 40 := ⟨⟨by decide, by decide, rfl, rfl⟩, rfl, gnX12, gw_at 941 (by decide +kernel) rfl, tyX12_ok, nmX12⟩
set_option maxRecDepth 100000 in
theorem flX12_297 : FL RX12 297 11 12 0 RX12 TX12 tyX12 40 := ⟨⟨by decide, by decide, rfl, rfl⟩, rfl, gnX12, gw_at 942 (by decide +kernel) rfl, tyX12_ok, nmX12⟩
set_option maxRecDepth 100000 in
theorem flX12_304 : FL RX12 304 11 14 0 RX12 TX12 tyX12 40 := ⟨⟨by decide, by decide, rfl, rfl⟩, rfl, gnX12, gw_at 944 (by decide +kernel) rfl, tyX12_ok, nmX12⟩
set_option maxRecDepth 100000 in
theorem flX12_319 : FL RX12 319 11 19 0 RX12 TX12 tyX12 40 := ⟨⟨by decide, by decide, rfl, rfl⟩, rfl, gnX12, gw_at 949 (by decide +kernel) rfl, tyX12_ok, nmX12⟩
set_option maxRecDepth 100000 in
theorem flX12_322 : FL RX12 322 11 20 0 RX12 TX12 tyX12 40 := ⟨⟨by decide, by decide, rfl, rfl⟩, rfl, gnX12, gw_at 950 (by decide +kernel) rfl, tyX12_ok, nmX12⟩
set_option maxRecDepth 100000 in
theorem flX12_325 : FL RX12 325 11 30 0 RX12 TX12 tyX12 40 := ⟨⟨by decide, by decide, rfl, rfl⟩, rfl, gnX12, gw_at 960 (by decide +kernel) rfl, tyX12_ok, nmX12⟩
set_option maxRecDepth 100000 in
theorem flX12_393 : FL RX12 393 11 34 0 RX12 TX12 tyX12 40 := ⟨⟨by decide, by decide, rfl, rfl⟩, rfl, gnX12, gw_at 964 (by decide +kernel) rfl, tyX12_ok, nmX12⟩
set_option maxRecDepth 100000 in
theorem flX12_402 : FL RX12 402 11 39 0 RX12 TX12 tyX12 40 := ⟨⟨by decide, by decide, rfl, rfl⟩, rfl, gnX12, gw_at 969 (by decide +kernel) rfl, tyX12_ok, nmX12⟩
set_option maxRecDepth 100000 in
theorem flX12_405 : FL RX12 405 11 37 0 RX12 TX12 tyX12 40 := ⟨⟨by decide, by decide, rfl, rfl⟩, rfl, gnX12, gw_at 967 (by decide +kernel) rfl, tyX12_ok, nmX12⟩
set_option maxRecDepth 100000 in
theorem wcX11_223 : Cond.constant RX11 223 (nI 536871936) ∈ gw_tbl := gw_at 532 (by decide +kernel) rfl
set_option maxRecDepth 100000 in
theorem wcX0_135 : Cond.constant RX0 135 (-16777216) ∈ gw_tbl := gw_at 516 (by decide +kernel) rfl
set_option maxRecDepth 100000 in
theorem wcX0_136 : Cond.constant RX0 136 (nI 16777214) ∈ gw_tbl := gw_at 517 (by decide +kernel) rfl
set_option maxRecDepth 100000 in
theorem wcX0_137 : Cond.constant RX0 137 (nI 53248) ∈ gw_tbl := gw_at 522 (by decide +kernel) rfl
set_option maxRecDepth 100000 in
theorem wcX4_41 : Cond.constant RX4 41 (nI 536870912) ∈ gw_tbl := gw_at 472 (by decide +kernel) rfl
set_option maxRecDepth 100000 in
theorem wcX12_202 : Cond.constant RX12 202 (nI 48896) ∈ gw_tbl := gw_at 1177 (by decide +kernel) rfl
set_option maxRecDepth 100000 in
theorem wcX12_268 : Cond.constant RX12 268 (nI 46080) ∈ gw_tbl := gw_at 1244 (by decide +kernel) rfl
set_option maxRecDepth 100000 in
theorem wcX12_277 : Cond.constant RX12 277 (nI 48128) ∈ gw_tbl := gw_at 1251 (by decide +kernel) rfl
set_option maxRecDepth 100000 in
theorem wcX12_282 : Cond.constant RX12 282 (nI 57344) ∈ gw_tbl := gw_at 1254 (by decide +kernel) rfl
set_option maxRecDepth 100000 in
theorem wcX12_293 : Cond.constant RX12 293 (nI 53248) ∈ gw_tbl := gw_at 1265 (by decide +kernel) rfl
set_option maxRecDepth 100000 in
theorem wcX12_362 : Cond.constant RX12 362 (nI 61440) ∈ gw_tbl := gw_at 1323 (by decide +kernel) rfl
set_option maxRecDepth 100000 in
theorem wcX12_363 : Cond.constant RX12 363 (-16777216) ∈ gw_tbl := gw_at 1324 (by decide +kernel) rfl
set_option maxRecDepth 100000 in
theorem wcX12_364 : Cond.constant RX12 364 (nI 16777214) ∈ gw_tbl := gw_at 1325 (by decide +kernel) rfl
set_option maxRecDepth 100000 in
theorem wcX12_382 : Cond.constant RX12 382 (nI 536870912) ∈ gw_tbl := gw_at 1305 (by decide +kernel) rfl
set_option maxRecDepth 100000 in
theorem wcX12_383 : Cond.constant RX12 383 (nI 536871936) ∈ gw_tbl := gw_at 1306 (by decide +kernel) rfl
set_option maxRecDepth 100000 in
theorem wlX11_213 : Cond.constantLong RX11 213 (lN 1835100526) ∈ gw_tbl := gw_at 530 (by decide +kernel) rfl
set_option maxRecDepth 100000 in
theorem wlX12_129 : Cond.constantLong RX12 129 (lN 255) ∈ gw_tbl := gw_at 1144 (by decide +kernel) rfl
set_option maxRecDepth 100000 in
theorem wlX12_178 : Cond.constantLong RX12 178 (lN 199521302644) ∈ gw_tbl := gw_at 1139 (by decide +kernel) rfl
set_option maxRecDepth 100000 in
theorem wlX12_180 : Cond.constantLong RX12 180 (lN 199252604001) ∈ gw_tbl := gw_at 1145 (by decide +kernel) rfl
set_option maxRecDepth 100000 in
theorem wlX12_182 : Cond.constantLong RX12 182 (lN 778204019) ∈ gw_tbl := gw_at 1146 (by decide +kernel) rfl
set_option maxRecDepth 100000 in
theorem wlX12_184 : Cond.constantLong RX12 184 (lN 13061564351537516) ∈ gw_tbl := gw_at 1147 (by decide +kernel) rfl
set_option maxRecDepth 100000 in
theorem wlX12_186 : Cond.constantLong RX12 186 (lN 199572288100) ∈ gw_tbl := gw_at 1152 (by decide +kernel) rfl
set_option maxRecDepth 100000 in
theorem wlX12_191 : Cond.constantLong RX12 191 (lN 199220622437) ∈ gw_tbl := gw_at 1169 (by decide +kernel) rfl
set_option maxRecDepth 100000 in
theorem wlX12_196 : Cond.constantLong RX12 196 (lN 51073341547365) ∈ gw_tbl := gw_at 1170 (by decide +kernel) rfl
set_option maxRecDepth 100000 in
theorem wlX12_198 : Cond.constantLong RX12 198 (lN 50995965552494) ∈ gw_tbl := gw_at 1171 (by decide +kernel) rfl
set_option maxRecDepth 100000 in
theorem wlX12_200 : Cond.constantLong RX12 200 (lN 7237488) ∈ gw_tbl := gw_at 1176 (by decide +kernel) rfl
set_option maxRecDepth 100000 in
theorem wlX12_203 : Cond.constantLong RX12 203 (lN 1836021363) ∈ gw_tbl := gw_at 1182 (by decide +kernel) rfl
set_option maxRecDepth 100000 in
theorem wlX12_208 : Cond.constantLong RX12 208 (lN 6516080) ∈ gw_tbl := gw_at 1199 (by decide +kernel) rfl
set_option maxRecDepth 100000 in
theorem wlX12_210 : Cond.constantLong RX12 210 (lN 1633969267) ∈ gw_tbl := gw_at 1200 (by decide +kernel) rfl
set_option maxRecDepth 100000 in
theorem wlX12_215 : Cond.constantLong RX12 215 (lN 1937072755) ∈ gw_tbl := gw_at 1205 (by decide +kernel) rfl
set_option maxRecDepth 100000 in
theorem wlX12_217 : Cond.constantLong RX12 217 (lN 1819503731) ∈ gw_tbl := gw_at 1206 (by decide +kernel) rfl
set_option maxRecDepth 100000 in
theorem wlX12_223 : Cond.constantLong RX12 223 (lN 1819505267) ∈ gw_tbl := gw_at 1211 (by decide +kernel) rfl
set_option maxRecDepth 100000 in
theorem wlX12_225 : Cond.constantLong RX12 225 (lN 1634955891) ∈ gw_tbl := gw_at 1212 (by decide +kernel) rfl
set_option maxRecDepth 100000 in
theorem wlX12_234 : Cond.constantLong RX12 234 (lN 1634624627) ∈ gw_tbl := gw_at 1217 (by decide +kernel) rfl
set_option maxRecDepth 100000 in
theorem wlX12_236 : Cond.constantLong RX12 236 (lN 1701802611) ∈ gw_tbl := gw_at 1218 (by decide +kernel) rfl
set_option maxRecDepth 100000 in
theorem wlX12_238 : Cond.constantLong RX12 238 (lN 1633969011) ∈ gw_tbl := gw_at 1219 (by decide +kernel) rfl
set_option maxRecDepth 100000 in
theorem wlX12_240 : Cond.constantLong RX12 240 (lN 1935827827) ∈ gw_tbl := gw_at 1220 (by decide +kernel) rfl
set_option maxRecDepth 100000 in
theorem wlX12_242 : Cond.constantLong RX12 242 (lN 7631732) ∈ gw_tbl := gw_at 1221 (by decide +kernel) rfl
set_option maxRecDepth 100000 in
theorem wlX12_244 : Cond.constantLong RX12 244 (lN 1852139379) ∈ gw_tbl := gw_at 1222 (by decide +kernel) rfl
set_option maxRecDepth 100000 in
theorem wlX12_246 : Cond.constantLong RX12 246 (lN 1869771379) ∈ gw_tbl := gw_at 1223 (by decide +kernel) rfl
set_option maxRecDepth 100000 in
theorem wlX12_248 : Cond.constantLong RX12 248 (lN 1836412019) ∈ gw_tbl := gw_at 1224 (by decide +kernel) rfl
set_option maxRecDepth 100000 in
theorem wlX12_250 : Cond.constantLong RX12 250 (lN 1651073907) ∈ gw_tbl := gw_at 1225 (by decide +kernel) rfl
set_option maxRecDepth 100000 in
theorem wlX12_252 : Cond.constantLong RX12 252 (lN 1836478067) ∈ gw_tbl := gw_at 1226 (by decide +kernel) rfl
set_option maxRecDepth 100000 in
theorem wlX12_254 : Cond.constantLong RX12 254 (lN 7103602) ∈ gw_tbl := gw_at 1235 (by decide +kernel) rfl
set_option maxRecDepth 100000 in
theorem wlX12_260 : Cond.constantLong RX12 260 (lN 7566450) ∈ gw_tbl := gw_at 1240 (by decide +kernel) rfl
set_option maxRecDepth 100000 in
theorem wlX12_262 : Cond.constantLong RX12 262 (lN 1818522210) ∈ gw_tbl := gw_at 1241 (by decide +kernel) rfl
set_option maxRecDepth 100000 in
theorem wlX12_264 : Cond.constantLong RX12 264 (lN 1937011298) ∈ gw_tbl := gw_at 1242 (by decide +kernel) rfl
set_option maxRecDepth 100000 in
theorem wlX12_266 : Cond.constantLong RX12 266 (lN 1886745448) ∈ gw_tbl := gw_at 1243 (by decide +kernel) rfl
set_option maxRecDepth 100000 in
theorem wlX12_269 : Cond.constantLong RX12 269 (lN 27762) ∈ gw_tbl := gw_at 1245 (by decide +kernel) rfl
set_option maxRecDepth 100000 in
theorem wlX12_275 : Cond.constantLong RX12 275 (lN 7368560) ∈ gw_tbl := gw_at 1250 (by decide +kernel) rfl
set_option maxRecDepth 100000 in
theorem wlX12_278 : Cond.constantLong RX12 278 (lN 28771) ∈ gw_tbl := gw_at 1252 (by decide +kernel) rfl
set_option maxRecDepth 100000 in
theorem wlX12_280 : Cond.constantLong RX12 280 (lN 98) ∈ gw_tbl := gw_at 1253 (by decide +kernel) rfl
set_option maxRecDepth 100000 in
theorem wlX12_286 : Cond.constantLong RX12 286 (lN 25196) ∈ gw_tbl := gw_at 1259 (by decide +kernel) rfl
set_option maxRecDepth 100000 in
theorem wlX12_288 : Cond.constantLong RX12 288 (lN 25208) ∈ gw_tbl := gw_at 1260 (by decide +kernel) rfl
abbrev iX0_init : MIx := (cX0_init, RX0, 1, none, { frames := 1, cells := 0, slots := 0, locals := 20 })
set_option maxRecDepth 100000 in
theorem wkX0_init : Cond.code yX0_init iX0_init.1 iX0_init.2.2.1 iX0_init.2.2.2.1 ∈ gw_tbl := gw_at 286 (by decide +kernel) rfl
abbrev iX0_clear : MIx := (cX0_clear, RX0, 1, none, { frames := 2, cells := 0, slots := 0, locals := 44 })
set_option maxRecDepth 100000 in
theorem wkX0_clear : Cond.code yX0_clear iX0_clear.1 iX0_clear.2.2.1 iX0_clear.2.2.2.1 ∈ gw_tbl := gw_at 409 (by decide +kernel) rfl
abbrev iX0_addressOf : MIx := (cX0_addressOf, RX0, 2, (some .int), { frames := 0, cells := 0, slots := 0, locals := 0 })
set_option maxRecDepth 100000 in
theorem wkX0_addressOf : Cond.code yX0_addressOf iX0_addressOf.1 iX0_addressOf.2.2.1 iX0_addressOf.2.2.2.1 ∈ gw_tbl := gw_at 494 (by decide +kernel) rfl
abbrev iX0_layOut : MIx := (cX0_layOut, RX0, 8, (some .int), { frames := 1, cells := 0, slots := 0, locals := 25 })
set_option maxRecDepth 100000 in
theorem wkX0_layOut : Cond.code yX0_layOut iX0_layOut.1 iX0_layOut.2.2.1 iX0_layOut.2.2.2.1 ∈ gw_tbl := gw_at 439 (by decide +kernel) rfl
abbrev iX0_write : MIx := (cX0_write, RX0, 5, (some .int), { frames := 4, cells := 0, slots := 0, locals := 96 })
set_option maxRecDepth 100000 in
theorem wkX0_write : Cond.code yX0_write iX0_write.1 iX0_write.2.2.1 iX0_write.2.2.2.1 ∈ gw_tbl := gw_at 480 (by decide +kernel) rfl
abbrev iX0_writeWord : MIx := (cX0_writeWord, RX0, 5, (some .int), { frames := 3, cells := 0, slots := 0, locals := 66 })
set_option maxRecDepth 100000 in
theorem wkX0_writeWord : Cond.code yX0_writeWord iX0_writeWord.1 iX0_writeWord.2.2.1 iX0_writeWord.2.2.2.1 ∈ gw_tbl := gw_at 484 (by decide +kernel) rfl
abbrev iX0_writeInstruction : MIx := (cX0_writeInstruction, RX0, 7, (some .int), { frames := 3, cells := 0, slots := 0, locals := 70 })
set_option maxRecDepth 100000 in
theorem wkX0_writeInstruction : Cond.code yX0_writeInstruction iX0_writeInstruction.1 iX0_writeInstruction.2.2.1 iX0_writeInstruction.2.2.2.1 ∈ gw_tbl := gw_at 511 (by decide +kernel) rfl
abbrev iX0_resolve : MIx := (cX0_resolve, RX0, 5, (some .int), { frames := 1, cells := 0, slots := 0, locals := 24 })
set_option maxRecDepth 100000 in
theorem wkX0_resolve : Cond.code yX0_resolve iX0_resolve.1 iX0_resolve.2.2.1 iX0_resolve.2.2.2.1 ∈ gw_tbl := gw_at 488 (by decide +kernel) rfl
abbrev iX0_reaches : MIx := (cX0_reaches, RX0, 3, (some .boolean), { frames := 0, cells := 0, slots := 0, locals := 0 })
set_option maxRecDepth 100000 in
theorem wkX0_reaches : Cond.code yX0_reaches iX0_reaches.1 iX0_reaches.2.2.1 iX0_reaches.2.2.2.1 ∈ gw_tbl := gw_at 515 (by decide +kernel) rfl
abbrev iX0_distanceBits : MIx := (cX0_distanceBits, RX0, 2, (some .int), { frames := 0, cells := 0, slots := 0, locals := 0 })
set_option maxRecDepth 100000 in
theorem wkX0_distanceBits : Cond.code yX0_distanceBits iX0_distanceBits.1 iX0_distanceBits.2.2.1 iX0_distanceBits.2.2.2.1 ∈ gw_tbl := gw_at 525 (by decide +kernel) rfl
abbrev iX0_writeCall : MIx := (cX0_writeCall, RX0, 7, none, { frames := 2, cells := 0, slots := 0, locals := 44 })
set_option maxRecDepth 100000 in
theorem wkX0_writeCall : Cond.code yX0_writeCall iX0_writeCall.1 iX0_writeCall.2.2.1 iX0_writeCall.2.2.2.1 ∈ gw_tbl := gw_at 521 (by decide +kernel) rfl
abbrev iX1_init : MIx := (cX1_init, RX1, 1, none, { frames := 0, cells := 0, slots := 0, locals := 0 })
set_option maxRecDepth 100000 in
theorem wkX1_init : Cond.code yX1_init iX1_init.1 iX1_init.2.2.1 iX1_init.2.2.2.1 ∈ gw_tbl := gw_at 263 (by decide +kernel) rfl
abbrev iX1_forget : MIx := (cX1_forget, RX1, 1, none, { frames := 0, cells := 0, slots := 0, locals := 0 })
set_option maxRecDepth 100000 in
theorem wkX1_forget : Cond.code yX1_forget iX1_forget.1 iX1_forget.2.2.1 iX1_forget.2.2.2.1 ∈ gw_tbl := gw_at 405 (by decide +kernel) rfl
abbrev iX1_tell : MIx := (cX1_tell, RX1, 5, (some .boolean), { frames := 0, cells := 0, slots := 0, locals := 0 })
set_option maxRecDepth 100000 in
theorem wkX1_tell : Cond.code yX1_tell iX1_tell.1 iX1_tell.2.2.1 iX1_tell.2.2.2.1 ∈ gw_tbl := gw_at 435 (by decide +kernel) rfl
abbrev iX2_init : MIx := (cX2_init, RX2, 1, none, { frames := 0, cells := 0, slots := 0, locals := 0 })
set_option maxRecDepth 100000 in
theorem wkX2_init : Cond.code yX2_init iX2_init.1 iX2_init.2.2.1 iX2_init.2.2.2.1 ∈ gw_tbl := gw_at 351 (by decide +kernel) rfl
abbrev iX2_clear : MIx := (cX2_clear, RX2, 1, none, { frames := 1, cells := 0, slots := 0, locals := 23 })
set_option maxRecDepth 100000 in
theorem wkX2_clear : Cond.code yX2_clear iX2_clear.1 iX2_clear.2.2.1 iX2_clear.2.2.2.1 ∈ gw_tbl := gw_at 420 (by decide +kernel) rfl
abbrev iX2_putByte : MIx := (cX2_putByte, RX2, 3, none, { frames := 0, cells := 0, slots := 0, locals := 0 })
set_option maxRecDepth 100000 in
theorem wkX2_putByte : Cond.code yX2_putByte iX2_putByte.1 iX2_putByte.2.2.1 iX2_putByte.2.2.2.1 ∈ gw_tbl := gw_at 506 (by decide +kernel) rfl
abbrev iX2_putHalf : MIx := (cX2_putHalf, RX2, 3, none, { frames := 1, cells := 0, slots := 0, locals := 22 })
set_option maxRecDepth 100000 in
theorem wkX2_putHalf : Cond.code yX2_putHalf iX2_putHalf.1 iX2_putHalf.2.2.1 iX2_putHalf.2.2.2.1 ∈ gw_tbl := gw_at 502 (by decide +kernel) rfl
abbrev iX2_putWord : MIx := (cX2_putWord, RX2, 3, none, { frames := 2, cells := 0, slots := 0, locals := 44 })
set_option maxRecDepth 100000 in
theorem wkX2_putWord : Cond.code yX2_putWord iX2_putWord.1 iX2_putWord.2.2.1 iX2_putWord.2.2.2.1 ∈ gw_tbl := gw_at 498 (by decide +kernel) rfl
abbrev iX2_byteAt : MIx := (cX2_byteAt, RX2, 2, (some .int), { frames := 0, cells := 0, slots := 0, locals := 0 })
set_option maxRecDepth 100000 in
theorem wkX2_byteAt : Cond.code yX2_byteAt iX2_byteAt.1 iX2_byteAt.2.2.1 iX2_byteAt.2.2.2.1 ∈ gw_tbl := gw_at 542 (by decide +kernel) rfl
abbrev iX2_recordCharacter : MIx := (cX2_recordCharacter, RX2, 5, (some .char), { frames := 6, cells := 0, slots := 0, locals := 130 })
set_option maxRecDepth 100000 in
theorem wkX2_recordCharacter : Cond.code yX2_recordCharacter iX2_recordCharacter.1 iX2_recordCharacter.2.2.1 iX2_recordCharacter.2.2.2.1 ∈ gw_tbl := gw_at 550 (by decide +kernel) rfl
abbrev iX2_bodyCharacter : MIx := (cX2_bodyCharacter, RX2, 5, (some .char), { frames := 5, cells := 0, slots := 0, locals := 106 })
set_option maxRecDepth 100000 in
theorem wkX2_bodyCharacter : Cond.code yX2_bodyCharacter iX2_bodyCharacter.1 iX2_bodyCharacter.2.2.1 iX2_bodyCharacter.2.2.2.1 ∈ gw_tbl := gw_at 603 (by decide +kernel) rfl
abbrev iX2_recordByte : MIx := (cX2_recordByte, RX2, 6, (some .int), { frames := 2, cells := 0, slots := 0, locals := 44 })
set_option maxRecDepth 100000 in
theorem wkX2_recordByte : Cond.code yX2_recordByte iX2_recordByte.1 iX2_recordByte.2.2.1 iX2_recordByte.2.2.2.1 ∈ gw_tbl := gw_at 610 (by decide +kernel) rfl
abbrev iX2_plainRecordByte : MIx := (cX2_plainRecordByte, RX2, 4, (some .int), { frames := 1, cells := 0, slots := 0, locals := 21 })
set_option maxRecDepth 100000 in
theorem wkX2_plainRecordByte : Cond.code yX2_plainRecordByte iX2_plainRecordByte.1 iX2_plainRecordByte.2.2.1 iX2_plainRecordByte.2.2.2.1 ∈ gw_tbl := gw_at 614 (by decide +kernel) rfl
abbrev iX3_init : MIx := (cX3_init, RX3, 1, none, { frames := 0, cells := 0, slots := 0, locals := 0 })
set_option maxRecDepth 100000 in
theorem wkX3_init : Cond.code yX3_init iX3_init.1 iX3_init.2.2.1 iX3_init.2.2.2.1 ∈ gw_tbl := gw_at 292 (by decide +kernel) rfl
abbrev iX3_append : MIx := (cX3_append, RX3, 6, none, { frames := 0, cells := 0, slots := 0, locals := 0 })
set_option maxRecDepth 100000 in
theorem wkX3_append : Cond.code yX3_append iX3_append.1 iX3_append.2.2.1 iX3_append.2.2.2.1 ∈ gw_tbl := gw_at 443 (by decide +kernel) rfl
abbrev iX3_find : MIx := (cX3_find, RX3, 5, (some .int), { frames := 0, cells := 0, slots := 0, locals := 0 })
set_option maxRecDepth 100000 in
theorem wkX3_find : Cond.code yX3_find iX3_find.1 iX3_find.2.2.1 iX3_find.2.2.2.1 ∈ gw_tbl := gw_at 431 (by decide +kernel) rfl
abbrev iX3_findGlobal : MIx := (cX3_findGlobal, RX3, 4, (some .int), { frames := 0, cells := 0, slots := 0, locals := 0 })
set_option maxRecDepth 100000 in
theorem wkX3_findGlobal : Cond.code yX3_findGlobal iX3_findGlobal.1 iX3_findGlobal.2.2.1 iX3_findGlobal.2.2.2.1 ∈ gw_tbl := gw_at 456 (by decide +kernel) rfl
abbrev iX3_makeGlobal : MIx := (cX3_makeGlobal, RX3, 5, (some .int), { frames := 1, cells := 0, slots := 0, locals := 24 })
set_option maxRecDepth 100000 in
theorem wkX3_makeGlobal : Cond.code yX3_makeGlobal iX3_makeGlobal.1 iX3_makeGlobal.2.2.1 iX3_makeGlobal.2.2.2.1 ∈ gw_tbl := gw_at 451 (by decide +kernel) rfl
abbrev iX4_init : MIx := (cX4_init, RX4, 1, none, { frames := 0, cells := 0, slots := 0, locals := 0 })
set_option maxRecDepth 100000 in
theorem wkX4_init : Cond.code yX4_init iX4_init.1 iX4_init.2.2.1 iX4_init.2.2.2.1 ∈ gw_tbl := gw_at 325 (by decide +kernel) rfl
abbrev iX4_clear : MIx := (cX4_clear, RX4, 2, none, { frames := 1, cells := 0, slots := 0, locals := 23 })
set_option maxRecDepth 100000 in
theorem wkX4_clear : Cond.code yX4_clear iX4_clear.1 iX4_clear.2.2.1 iX4_clear.2.2.2.1 ∈ gw_tbl := gw_at 413 (by decide +kernel) rfl
abbrev iX4_arrange : MIx := (cX4_arrange, RX4, 2, (some .boolean), { frames := 2, cells := 0, slots := 0, locals := 44 })
set_option maxRecDepth 100000 in
theorem wkX4_arrange : Cond.code yX4_arrange iX4_arrange.1 iX4_arrange.2.2.1 iX4_arrange.2.2.2.1 ∈ gw_tbl := gw_at 464 (by decide +kernel) rfl
abbrev iX4_line : MIx := (cX4_line, RX4, 5, (some .int), { frames := 1, cells := 0, slots := 0, locals := 20 })
set_option maxRecDepth 100000 in
theorem wkX4_line : Cond.code yX4_line iX4_line.1 iX4_line.2.2.1 iX4_line.2.2.2.1 ∈ gw_tbl := gw_at 468 (by decide +kernel) rfl
abbrev iX4_nextFour : MIx := (cX4_nextFour, RX4, 1, (some .int), { frames := 0, cells := 0, slots := 0, locals := 0 })
set_option maxRecDepth 100000 in
theorem wkX4_nextFour : Cond.code yX4_nextFour iX4_nextFour.1 iX4_nextFour.2.2.1 iX4_nextFour.2.2.2.1 ∈ gw_tbl := gw_at 471 (by decide +kernel) rfl
abbrev iX6_init : MIx := (cX6_init, RX6, 1, none, { frames := 2, cells := 0, slots := 0, locals := 40 })
set_option maxRecDepth 100000 in
theorem wkX6_init : Cond.code yX6_init iX6_init.1 iX6_init.2.2.1 iX6_init.2.2.2.1 ∈ gw_tbl := gw_at 226 (by decide +kernel) rfl
abbrev iX6_parse : MIx := (cX6_parse, RX6, 4, none, { frames := 8, cells := 0, slots := 0, locals := 176 })
set_option maxRecDepth 100000 in
theorem wkX6_parse : Cond.code yX6_parse iX6_parse.1 iX6_parse.2.2.1 iX6_parse.2.2.2.1 ∈ gw_tbl := gw_at 730 (by decide +kernel) rfl
abbrev iX6_label : MIx := (cX6_label, RX6, 5, none, { frames := 3, cells := 0, slots := 0, locals := 65 })
set_option maxRecDepth 100000 in
theorem wkX6_label : Cond.code yX6_label iX6_label.1 iX6_label.2.2.1 iX6_label.2.2.2.1 ∈ gw_tbl := gw_at 752 (by decide +kernel) rfl
abbrev iX6_directive : MIx := (cX6_directive, RX6, 3, none, { frames := 6, cells := 0, slots := 0, locals := 129 })
set_option maxRecDepth 100000 in
theorem wkX6_directive : Cond.code yX6_directive iX6_directive.1 iX6_directive.2.2.1 iX6_directive.2.2.2.1 ∈ gw_tbl := gw_at 799 (by decide +kernel) rfl
abbrev iX6_reference : MIx := (cX6_reference, RX6, 2, none, { frames := 4, cells := 0, slots := 0, locals := 87 })
set_option maxRecDepth 100000 in
theorem wkX6_reference : Cond.code yX6_reference iX6_reference.1 iX6_reference.2.2.1 iX6_reference.2.2.2.1 ∈ gw_tbl := gw_at 803 (by decide +kernel) rfl
abbrev iX6_value : MIx := (cX6_value, RX6, 2, none, { frames := 5, cells := 0, slots := 0, locals := 108 })
set_option maxRecDepth 100000 in
theorem wkX6_value : Cond.code yX6_value iX6_value.1 iX6_value.2.2.1 iX6_value.2.2.2.1 ∈ gw_tbl := gw_at 813 (by decide +kernel) rfl
abbrev iX6_instruction : MIx := (cX6_instruction, RX6, 3, none, { frames := 7, cells := 0, slots := 0, locals := 154 })
set_option maxRecDepth 100000 in
theorem wkX6_instruction : Cond.code yX6_instruction iX6_instruction.1 iX6_instruction.2.2.1 iX6_instruction.2.2.2.1 ∈ gw_tbl := gw_at 831 (by decide +kernel) rfl
abbrev iX6_firstRegister : MIx := (cX6_firstRegister, RX6, 2, (some .int), { frames := 4, cells := 0, slots := 0, locals := 84 })
set_option maxRecDepth 100000 in
theorem wkX6_firstRegister : Cond.code yX6_firstRegister iX6_firstRegister.1 iX6_firstRegister.2.2.1 iX6_firstRegister.2.2.2.1 ∈ gw_tbl := gw_at 839 (by decide +kernel) rfl
abbrev iX6_move : MIx := (cX6_move, RX6, 3, (some .int), { frames := 5, cells := 0, slots := 0, locals := 105 })
set_option maxRecDepth 100000 in
theorem wkX6_move : Cond.code yX6_move iX6_move.1 iX6_move.2.2.1 iX6_move.2.2.2.1 ∈ gw_tbl := gw_at 835 (by decide +kernel) rfl
abbrev iX6_sum : MIx := (cX6_sum, RX6, 4, (some .int), { frames := 5, cells := 0, slots := 0, locals := 105 })
set_option maxRecDepth 100000 in
theorem wkX6_sum : Cond.code yX6_sum iX6_sum.1 iX6_sum.2.2.1 iX6_sum.2.2.2.1 ∈ gw_tbl := gw_at 855 (by decide +kernel) rfl
abbrev iX6_shift : MIx := (cX6_shift, RX6, 5, (some .int), { frames := 5, cells := 0, slots := 0, locals := 105 })
set_option maxRecDepth 100000 in
theorem wkX6_shift : Cond.code yX6_shift iX6_shift.1 iX6_shift.2.2.1 iX6_shift.2.2.2.1 ∈ gw_tbl := gw_at 859 (by decide +kernel) rfl
abbrev iX6_pair : MIx := (cX6_pair, RX6, 3, (some .int), { frames := 5, cells := 0, slots := 0, locals := 105 })
set_option maxRecDepth 100000 in
theorem wkX6_pair : Cond.code yX6_pair iX6_pair.1 iX6_pair.2.2.1 iX6_pair.2.2.2.1 ∈ gw_tbl := gw_at 863 (by decide +kernel) rfl
abbrev iX6_memory : MIx := (cX6_memory, RX6, 5, (some .int), { frames := 4, cells := 0, slots := 0, locals := 88 })
set_option maxRecDepth 100000 in
theorem wkX6_memory : Cond.code yX6_memory iX6_memory.1 iX6_memory.2.2.1 iX6_memory.2.2.2.1 ∈ gw_tbl := gw_at 868 (by decide +kernel) rfl
abbrev iX6_list : MIx := (cX6_list, RX6, 7, (some .int), { frames := 6, cells := 0, slots := 0, locals := 128 })
set_option maxRecDepth 100000 in
theorem wkX6_list : Cond.code yX6_list iX6_list.1 iX6_list.2.2.1 iX6_list.2.2.2.1 ∈ gw_tbl := gw_at 873 (by decide +kernel) rfl
abbrev iX6_exchanged : MIx := (cX6_exchanged, RX6, 1, (some .int), { frames := 6, cells := 0, slots := 0, locals := 128 })
set_option maxRecDepth 100000 in
theorem wkX6_exchanged : Cond.code yX6_exchanged iX6_exchanged.1 iX6_exchanged.2.2.1 iX6_exchanged.2.2.2.1 ∈ gw_tbl := gw_at 880 (by decide +kernel) rfl
abbrev iX7_init : MIx := (cX7_init, RX7, 1, none, { frames := 1, cells := 0, slots := 0, locals := 20 })
set_option maxRecDepth 100000 in
theorem wkX7_init : Cond.code yX7_init iX7_init.1 iX7_init.2.2.1 iX7_init.2.2.2.1 ∈ gw_tbl := gw_at 232 (by decide +kernel) rfl
abbrev iX7_begin : MIx := (cX7_begin, RX7, 2, none, { frames := 2, cells := 0, slots := 0, locals := 41 })
set_option maxRecDepth 100000 in
theorem wkX7_begin : Cond.code yX7_begin iX7_begin.1 iX7_begin.2.2.1 iX7_begin.2.2.2.1 ∈ gw_tbl := gw_at 738 (by decide +kernel) rfl
abbrev iX7_step : MIx := (cX7_step, RX7, 2, none, { frames := 1, cells := 0, slots := 0, locals := 20 })
set_option maxRecDepth 100000 in
theorem wkX7_step : Cond.code yX7_step iX7_step.1 iX7_step.2.2.1 iX7_step.2.2.2.1 ∈ gw_tbl := gw_at 742 (by decide +kernel) rfl
abbrev iX7_stepBackTo : MIx := (cX7_stepBackTo, RX7, 2, none, { frames := 2, cells := 0, slots := 0, locals := 41 })
set_option maxRecDepth 100000 in
theorem wkX7_stepBackTo : Cond.code yX7_stepBackTo iX7_stepBackTo.1 iX7_stepBackTo.2.2.1 iX7_stepBackTo.2.2.2.1 ∈ gw_tbl := gw_at 775 (by decide +kernel) rfl
abbrev iX7_fail : MIx := (cX7_fail, RX7, 3, none, { frames := 0, cells := 0, slots := 0, locals := 0 })
set_option maxRecDepth 100000 in
theorem wkX7_fail : Cond.code yX7_fail iX7_fail.1 iX7_fail.2.2.1 iX7_fail.2.2.2.1 ∈ gw_tbl := gw_at 795 (by decide +kernel) rfl
abbrev iX7_atEnd : MIx := (cX7_atEnd, RX7, 1, (some .boolean), { frames := 0, cells := 0, slots := 0, locals := 0 })
set_option maxRecDepth 100000 in
theorem wkX7_atEnd : Cond.code yX7_atEnd iX7_atEnd.1 iX7_atEnd.2.2.1 iX7_atEnd.2.2.2.1 ∈ gw_tbl := gw_at 779 (by decide +kernel) rfl
abbrev iX7_sees : MIx := (cX7_sees, RX7, 2, (some .boolean), { frames := 0, cells := 0, slots := 0, locals := 0 })
set_option maxRecDepth 100000 in
theorem wkX7_sees : Cond.code yX7_sees iX7_sees.1 iX7_sees.2.2.1 iX7_sees.2.2.2.1 ∈ gw_tbl := gw_at 771 (by decide +kernel) rfl
abbrev iX7_seesLetter : MIx := (cX7_seesLetter, RX7, 1, (some .boolean), { frames := 1, cells := 0, slots := 0, locals := 20 })
set_option maxRecDepth 100000 in
theorem wkX7_seesLetter : Cond.code yX7_seesLetter iX7_seesLetter.1 iX7_seesLetter.2.2.1 iX7_seesLetter.2.2.2.1 ∈ gw_tbl := gw_at 817 (by decide +kernel) rfl
abbrev iX7_seesWord : MIx := (cX7_seesWord, RX7, 3, (some .boolean), { frames := 5, cells := 0, slots := 0, locals := 106 })
set_option maxRecDepth 100000 in
theorem wkX7_seesWord : Cond.code yX7_seesWord iX7_seesWord.1 iX7_seesWord.2.2.1 iX7_seesWord.2.2.2.1 ∈ gw_tbl := gw_at 789 (by decide +kernel) rfl
abbrev iX7_seenMnemonic : MIx := (cX7_seenMnemonic, RX7, 2, (some (.object "ThumbLinker$Mnemonic")), { frames := 6, cells := 0, slots := 0, locals := 128 })
set_option maxRecDepth 100000 in
theorem wkX7_seenMnemonic : Cond.code yX7_seenMnemonic iX7_seenMnemonic.1 iX7_seenMnemonic.2.2.1 iX7_seenMnemonic.2.2.2.1 ∈ gw_tbl := gw_at 783 (by decide +kernel) rfl
abbrev iX7_seenRegister : MIx := (cX7_seenRegister, RX7, 2, (some .int), { frames := 0, cells := 0, slots := 0, locals := 0 })
set_option maxRecDepth 100000 in
theorem wkX7_seenRegister : Cond.code yX7_seenRegister iX7_seenRegister.1 iX7_seenRegister.2.2.1 iX7_seenRegister.2.2.2.1 ∈ gw_tbl := gw_at 847 (by decide +kernel) rfl
abbrev iX7_seenName : MIx := (cX7_seenName, RX7, 1, (some .long), { frames := 2, cells := 0, slots := 0, locals := 45 })
set_option maxRecDepth 100000 in
theorem wkX7_seenName : Cond.code yX7_seenName iX7_seenName.1 iX7_seenName.2.2.1 iX7_seenName.2.2.2.1 ∈ gw_tbl := gw_at 756 (by decide +kernel) rfl
abbrev iX7_accept : MIx := (cX7_accept, RX7, 3, (some .boolean), { frames := 2, cells := 0, slots := 0, locals := 41 })
set_option maxRecDepth 100000 in
theorem wkX7_accept : Cond.code yX7_accept iX7_accept.1 iX7_accept.2.2.1 iX7_accept.2.2.2.1 ∈ gw_tbl := gw_at 767 (by decide +kernel) rfl
abbrev iX7_expect : MIx := (cX7_expect, RX7, 2, none, { frames := 3, cells := 0, slots := 0, locals := 63 })
set_option maxRecDepth 100000 in
theorem wkX7_expect : Cond.code yX7_expect iX7_expect.1 iX7_expect.2.2.1 iX7_expect.2.2.2.1 ∈ gw_tbl := gw_at 851 (by decide +kernel) rfl
abbrev iX7_register : MIx := (cX7_register, RX7, 2, (some .int), { frames := 2, cells := 0, slots := 0, locals := 41 })
set_option maxRecDepth 100000 in
theorem wkX7_register : Cond.code yX7_register iX7_register.1 iX7_register.2.2.1 iX7_register.2.2.2.1 ∈ gw_tbl := gw_at 843 (by decide +kernel) rfl
abbrev iX7_name : MIx := (cX7_name, RX7, 3, (some .long), { frames := 3, cells := 0, slots := 0, locals := 65 })
set_option maxRecDepth 100000 in
theorem wkX7_name : Cond.code yX7_name iX7_name.1 iX7_name.2.2.1 iX7_name.2.2.2.1 ∈ gw_tbl := gw_at 807 (by decide +kernel) rfl
abbrev iX7_digits : MIx := (cX7_digits, RX7, 4, (some .int), { frames := 2, cells := 0, slots := 0, locals := 41 })
set_option maxRecDepth 100000 in
theorem wkX7_digits : Cond.code yX7_digits iX7_digits.1 iX7_digits.2.2.1 iX7_digits.2.2.2.1 ∈ gw_tbl := gw_at 826 (by decide +kernel) rfl
abbrev iX7_number : MIx := (cX7_number, RX7, 5, (some .int), { frames := 3, cells := 0, slots := 0, locals := 64 })
set_option maxRecDepth 100000 in
theorem wkX7_number : Cond.code yX7_number iX7_number.1 iX7_number.2.2.1 iX7_number.2.2.2.1 ∈ gw_tbl := gw_at 821 (by decide +kernel) rfl
abbrev iX8_init : MIx := (cX8_init, RX8, 2, none, { frames := 1, cells := 0, slots := 0, locals := 20 })
set_option maxRecDepth 100000 in
theorem wkX8_init : Cond.code yX8_init iX8_init.1 iX8_init.2.2.1 iX8_init.2.2.2.1 ∈ gw_tbl := gw_at 137 (by decide +kernel) rfl
abbrev iX9_init : MIx := (cX9_init, RX9, 1, none, { frames := 0, cells := 0, slots := 0, locals := 0 })
set_option maxRecDepth 100000 in
theorem wkX9_init : Cond.code yX9_init iX9_init.1 iX9_init.2.2.1 iX9_init.2.2.2.1 ∈ gw_tbl := gw_at 144 (by decide +kernel) rfl
abbrev iX9_clear : MIx := (cX9_clear, RX9, 1, none, { frames := 0, cells := 0, slots := 0, locals := 0 })
set_option maxRecDepth 100000 in
theorem wkX9_clear : Cond.code yX9_clear iX9_clear.1 iX9_clear.2.2.1 iX9_clear.2.2.2.1 ∈ gw_tbl := gw_at 734 (by decide +kernel) rfl
abbrev iX10_init : MIx := (cX10_init, RX10, 1, none, { frames := 0, cells := 0, slots := 0, locals := 0 })
set_option maxRecDepth 100000 in
theorem wkX10_init : Cond.code yX10_init iX10_init.1 iX10_init.2.2.1 iX10_init.2.2.2.1 ∈ gw_tbl := gw_at 119 (by decide +kernel) rfl
abbrev iX10_charactersIn : MIx := (cX10_charactersIn, RX10, 3, (some .int), { frames := 0, cells := 0, slots := 0, locals := 0 })
set_option maxRecDepth 100000 in
theorem wkX10_charactersIn : Cond.code yX10_charactersIn iX10_charactersIn.1 iX10_charactersIn.2.2.1 iX10_charactersIn.2.2.2.1 ∈ gw_tbl := gw_at 628 (by decide +kernel) rfl
abbrev iX10_appendFour : MIx := (cX10_appendFour, RX10, 4, none, { frames := 0, cells := 0, slots := 0, locals := 0 })
set_option maxRecDepth 100000 in
theorem wkX10_appendFour : Cond.code yX10_appendFour iX10_appendFour.1 iX10_appendFour.2.2.1 iX10_appendFour.2.2.2.1 ∈ gw_tbl := gw_at 698 (by decide +kernel) rfl
abbrev iX10_nameBetween : MIx := (cX10_nameBetween, RX10, 6, (some .long), { frames := 1, cells := 0, slots := 0, locals := 20 })
set_option maxRecDepth 100000 in
theorem wkX10_nameBetween : Cond.code yX10_nameBetween iX10_nameBetween.1 iX10_nameBetween.2.2.1 iX10_nameBetween.2.2.2.1 ∈ gw_tbl := gw_at 760 (by decide +kernel) rfl
abbrev iX11_init : MIx := (cX11_init, RX11, 2, none, { frames := 3, cells := 0, slots := 0, locals := 60 })
set_option maxRecDepth 100000 in
theorem wkX11_init : Cond.code yX11_init iX11_init.1 iX11_init.2.2.1 iX11_init.2.2.2.1 ∈ gw_tbl := gw_at 111 (by decide +kernel) rfl
abbrev iX11_type : MIx := (cX11_type, RX11, 6, (some .int), { frames := 1, cells := 0, slots := 0, locals := 23 })
set_option maxRecDepth 100000 in
theorem wkX11_type : Cond.code yX11_type iX11_type.1 iX11_type.2.2.1 iX11_type.2.2.2.1 ∈ gw_tbl := gw_at 625 (by decide +kernel) rfl
abbrev iX11_erase : MIx := (cX11_erase, RX11, 2, (some .int), { frames := 0, cells := 0, slots := 0, locals := 0 })
set_option maxRecDepth 100000 in
theorem wkX11_erase : Cond.code yX11_erase iX11_erase.1 iX11_erase.2.2.1 iX11_erase.2.2.2.1 ∈ gw_tbl := gw_at 397 (by decide +kernel) rfl
abbrev iX11_add : MIx := (cX11_add, RX11, 3, (some .int), { frames := 9, cells := 0, slots := 0, locals := 199 })
set_option maxRecDepth 100000 in
theorem wkX11_add : Cond.code yX11_add iX11_add.1 iX11_add.2.2.1 iX11_add.2.2.2.1 ∈ gw_tbl := gw_at 706 (by decide +kernel) rfl
abbrev iX11_change : MIx := (cX11_change, RX11, 4, none, { frames := 9, cells := 0, slots := 0, locals := 199 })
set_option maxRecDepth 100000 in
theorem wkX11_change : Cond.code yX11_change iX11_change.1 iX11_change.2.2.1 iX11_change.2.2.2.1 ∈ gw_tbl := gw_at 887 (by decide +kernel) rfl
abbrev iX11_drop : MIx := (cX11_drop, RX11, 3, (some .int), { frames := 1, cells := 0, slots := 0, locals := 20 })
set_option maxRecDepth 100000 in
theorem wkX11_drop : Cond.code yX11_drop iX11_drop.1 iX11_drop.2.2.1 iX11_drop.2.2.2.1 ∈ gw_tbl := gw_at 895 (by decide +kernel) rfl
abbrev iX11_link : MIx := (cX11_link, RX11, 2, (some .int), { frames := 6, cells := 0, slots := 0, locals := 144 })
set_option maxRecDepth 100000 in
theorem wkX11_link : Cond.code yX11_link iX11_link.1 iX11_link.2.2.1 iX11_link.2.2.2.1 ∈ gw_tbl := gw_at 401 (by decide +kernel) rfl
abbrev iX11_fault : MIx := (cX11_fault, RX11, 2, (some .int), { frames := 0, cells := 0, slots := 0, locals := 0 })
set_option maxRecDepth 100000 in
theorem wkX11_fault : Cond.code yX11_fault iX11_fault.1 iX11_fault.2.2.1 iX11_fault.2.2.2.1 ∈ gw_tbl := gw_at 902 (by decide +kernel) rfl
abbrev iX11_octet : MIx := (cX11_octet, RX11, 2, (some .int), { frames := 1, cells := 0, slots := 0, locals := 21 })
set_option maxRecDepth 100000 in
theorem wkX11_octet : Cond.code yX11_octet iX11_octet.1 iX11_octet.2.2.1 iX11_octet.2.2.2.1 ∈ gw_tbl := gw_at 538 (by decide +kernel) rfl
abbrev iX11_hex : MIx := (cX11_hex, RX11, 2, (some .char), { frames := 7, cells := 0, slots := 0, locals := 154 })
set_option maxRecDepth 100000 in
theorem wkX11_hex : Cond.code yX11_hex iX11_hex.1 iX11_hex.2.2.1 iX11_hex.2.2.2.1 ∈ gw_tbl := gw_at 546 (by decide +kernel) rfl
abbrev iX11_address : MIx := (cX11_address, RX11, 2, (some .int), { frames := 2, cells := 0, slots := 0, locals := 45 })
set_option maxRecDepth 100000 in
theorem wkX11_address : Cond.code yX11_address iX11_address.1 iX11_address.2.2.1 iX11_address.2.2.2.1 ∈ gw_tbl := gw_at 910 (by decide +kernel) rfl
abbrev iX11_size : MIx := (cX11_size, RX11, 3, (some .int), { frames := 1, cells := 0, slots := 0, locals := 20 })
set_option maxRecDepth 100000 in
theorem wkX11_size : Cond.code yX11_size iX11_size.1 iX11_size.2.2.1 iX11_size.2.2.2.1 ∈ gw_tbl := gw_at 918 (by decide +kernel) rfl
abbrev iX11_isModule : MIx := (cX11_isModule, RX11, 1, (some .boolean), { frames := 0, cells := 0, slots := 0, locals := 0 })
set_option maxRecDepth 100000 in
theorem wkX11_isModule : Cond.code yX11_isModule iX11_isModule.1 iX11_isModule.2.2.1 iX11_isModule.2.2.2.1 ∈ gw_tbl := gw_at 709 (by decide +kernel) rfl
abbrev iX11_isLetter : MIx := (cX11_isLetter, RX11, 1, (some .boolean), { frames := 0, cells := 0, slots := 0, locals := 0 })
set_option maxRecDepth 100000 in
theorem wkX11_isLetter : Cond.code yX11_isLetter iX11_isLetter.1 iX11_isLetter.2.2.1 iX11_isLetter.2.2.2.1 ∈ gw_tbl := gw_at 745 (by decide +kernel) rfl
abbrev iX11_isDigit : MIx := (cX11_isDigit, RX11, 1, (some .boolean), { frames := 0, cells := 0, slots := 0, locals := 0 })
set_option maxRecDepth 100000 in
theorem wkX11_isDigit : Cond.code yX11_isDigit iX11_isDigit.1 iX11_isDigit.2.2.1 iX11_isDigit.2.2.2.1 ∈ gw_tbl := gw_at 748 (by decide +kernel) rfl
abbrev iX11_layOutLines : MIx := (cX11_layOutLines, RX11, 7, (some .boolean), { frames := 2, cells := 0, slots := 0, locals := 52 })
set_option maxRecDepth 100000 in
theorem wkX11_layOutLines : Cond.code yX11_layOutLines iX11_layOutLines.1 iX11_layOutLines.2.2.1 iX11_layOutLines.2.2.2.1 ∈ gw_tbl := gw_at 427 (by decide +kernel) rfl
abbrev iX11_tellGlobals : MIx := (cX11_tellGlobals, RX11, 6, (some .boolean), { frames := 2, cells := 0, slots := 0, locals := 48 })
set_option maxRecDepth 100000 in
theorem wkX11_tellGlobals : Cond.code yX11_tellGlobals iX11_tellGlobals.1 iX11_tellGlobals.2.2.1 iX11_tellGlobals.2.2.2.1 ∈ gw_tbl := gw_at 447 (by decide +kernel) rfl
abbrev iX11_findRoom : MIx := (cX11_findRoom, RX11, 1, (some .boolean), { frames := 3, cells := 0, slots := 0, locals := 65 })
set_option maxRecDepth 100000 in
theorem wkX11_findRoom : Cond.code yX11_findRoom iX11_findRoom.1 iX11_findRoom.2.2.1 iX11_findRoom.2.2.2.1 ∈ gw_tbl := gw_at 460 (by decide +kernel) rfl
abbrev iX11_writeLines : MIx := (cX11_writeLines, RX11, 5, (some .boolean), { frames := 5, cells := 0, slots := 0, locals := 120 })
set_option maxRecDepth 100000 in
theorem wkX11_writeLines : Cond.code yX11_writeLines iX11_writeLines.1 iX11_writeLines.2.2.1 iX11_writeLines.2.2.2.1 ∈ gw_tbl := gw_at 476 (by decide +kernel) rfl
abbrev iX11_writeVectors : MIx := (cX11_writeVectors, RX11, 2, (some .boolean), { frames := 3, cells := 0, slots := 0, locals := 66 })
set_option maxRecDepth 100000 in
theorem wkX11_writeVectors : Cond.code yX11_writeVectors iX11_writeVectors.1 iX11_writeVectors.2.2.1 iX11_writeVectors.2.2.2.1 ∈ gw_tbl := gw_at 529 (by decide +kernel) rfl
abbrev iX12_init : MIx := (cX12_init, RX12, 1, none, { frames := 1, cells := 0, slots := 0, locals := 21 })
set_option maxRecDepth 100000 in
theorem wkX12_init : Cond.code yX12_init iX12_init.1 iX12_init.2.2.1 iX12_init.2.2.2.1 ∈ gw_tbl := gw_at 924 (by decide +kernel) rfl
abbrev iX12_thrown : MIx := (cX12_thrown, RX12, 1, (some .int), { frames := 0, cells := 0, slots := 0, locals := 0 })
set_option maxRecDepth 100000 in
theorem wkX12_thrown : Cond.code yX12_thrown iX12_thrown.1 iX12_thrown.2.2.1 iX12_thrown.2.2.2.1 ∈ gw_tbl := gw_at 1054 (by decide +kernel) rfl
abbrev iX12_refused : MIx := (cX12_refused, RX12, 2, (some .boolean), { frames := 0, cells := 0, slots := 0, locals := 0 })
set_option maxRecDepth 100000 in
theorem wkX12_refused : Cond.code yX12_refused iX12_refused.1 iX12_refused.2.2.1 iX12_refused.2.2.2.1 ∈ gw_tbl := gw_at 1066 (by decide +kernel) rfl
abbrev iX12_forget : MIx := (cX12_forget, RX12, 2, none, { frames := 0, cells := 0, slots := 0, locals := 0 })
set_option maxRecDepth 100000 in
theorem wkX12_forget : Cond.code yX12_forget iX12_forget.1 iX12_forget.2.2.1 iX12_forget.2.2.2.1 ∈ gw_tbl := gw_at 929 (by decide +kernel) rfl
abbrev iX12_isIn : MIx := (cX12_isIn, RX12, 3, (some .boolean), { frames := 0, cells := 0, slots := 0, locals := 0 })
set_option maxRecDepth 100000 in
theorem wkX12_isIn : Cond.code yX12_isIn iX12_isIn.1 iX12_isIn.2.2.1 iX12_isIn.2.2.2.1 ∈ gw_tbl := gw_at 1360 (by decide +kernel) rfl
abbrev iX12_put : MIx := (cX12_put, RX12, 4, none, { frames := 0, cells := 0, slots := 0, locals := 0 })
set_option maxRecDepth 100000 in
theorem wkX12_put : Cond.code yX12_put iX12_put.1 iX12_put.2.2.1 iX12_put.2.2.2.1 ∈ gw_tbl := gw_at 1062 (by decide +kernel) rfl
abbrev iX12_type : MIx := (cX12_type, RX12, 9, (some .int), { frames := 1, cells := 0, slots := 0, locals := 23 })
set_option maxRecDepth 100000 in
theorem wkX12_type : Cond.code yX12_type iX12_type.1 iX12_type.2.2.1 iX12_type.2.2.2.1 ∈ gw_tbl := gw_at 1058 (by decide +kernel) rfl
abbrev iX12_erase : MIx := (cX12_erase, RX12, 2, (some .int), { frames := 0, cells := 0, slots := 0, locals := 0 })
set_option maxRecDepth 100000 in
theorem wkX12_erase : Cond.code yX12_erase iX12_erase.1 iX12_erase.2.2.1 iX12_erase.2.2.2.1 ∈ gw_tbl := gw_at 1070 (by decide +kernel) rfl
abbrev iX12_store : MIx := (cX12_store, RX12, 3, none, { frames := 0, cells := 0, slots := 0, locals := 0 })
set_option maxRecDepth 100000 in
theorem wkX12_store : Cond.code yX12_store iX12_store.1 iX12_store.2.2.1 iX12_store.2.2.2.1 ∈ gw_tbl := gw_at 1081 (by decide +kernel) rfl
abbrev iX12_isModule : MIx := (cX12_isModule, RX12, 1, (some .boolean), { frames := 0, cells := 0, slots := 0, locals := 0 })
set_option maxRecDepth 100000 in
theorem wkX12_isModule : Cond.code yX12_isModule iX12_isModule.1 iX12_isModule.2.2.1 iX12_isModule.2.2.2.1 ∈ gw_tbl := gw_at 1077 (by decide +kernel) rfl
abbrev iX12_add : MIx := (cX12_add, RX12, 2, (some .int), { frames := 1, cells := 0, slots := 0, locals := 22 })
set_option maxRecDepth 100000 in
theorem wkX12_add : Cond.code yX12_add iX12_add.1 iX12_add.2.2.1 iX12_add.2.2.2.1 ∈ gw_tbl := gw_at 1074 (by decide +kernel) rfl
abbrev iX12_change : MIx := (cX12_change, RX12, 3, none, { frames := 1, cells := 0, slots := 0, locals := 22 })
set_option maxRecDepth 100000 in
theorem wkX12_change : Cond.code yX12_change iX12_change.1 iX12_change.2.2.1 iX12_change.2.2.2.1 ∈ gw_tbl := gw_at 1085 (by decide +kernel) rfl
abbrev iX12_drop : MIx := (cX12_drop, RX12, 3, (some .int), { frames := 1, cells := 0, slots := 0, locals := 21 })
set_option maxRecDepth 100000 in
theorem wkX12_drop : Cond.code yX12_drop iX12_drop.1 iX12_drop.2.2.1 iX12_drop.2.2.2.1 ∈ gw_tbl := gw_at 1089 (by decide +kernel) rfl
abbrev iX12_next : MIx := (cX12_next, RX12, 1, (some .char), { frames := 0, cells := 0, slots := 0, locals := 0 })
set_option maxRecDepth 100000 in
theorem wkX12_next : Cond.code yX12_next iX12_next.1 iX12_next.2.2.1 iX12_next.2.2.2.1 ∈ gw_tbl := gw_at 1105 (by decide +kernel) rfl
abbrev iX12_wrong : MIx := (cX12_wrong, RX12, 3, none, { frames := 0, cells := 0, slots := 0, locals := 0 })
set_option maxRecDepth 100000 in
theorem wkX12_wrong : Cond.code yX12_wrong iX12_wrong.1 iX12_wrong.2.2.1 iX12_wrong.2.2.2.1 ∈ gw_tbl := gw_at 1134 (by decide +kernel) rfl
abbrev iX12_isSmall : MIx := (cX12_isSmall, RX12, 1, (some .boolean), { frames := 0, cells := 0, slots := 0, locals := 0 })
set_option maxRecDepth 100000 in
theorem wkX12_isSmall : Cond.code yX12_isSmall iX12_isSmall.1 iX12_isSmall.2.2.1 iX12_isSmall.2.2.2.1 ∈ gw_tbl := gw_at 1112 (by decide +kernel) rfl
abbrev iX12_isDigit : MIx := (cX12_isDigit, RX12, 1, (some .boolean), { frames := 0, cells := 0, slots := 0, locals := 0 })
set_option maxRecDepth 100000 in
theorem wkX12_isDigit : Cond.code yX12_isDigit iX12_isDigit.1 iX12_isDigit.2.2.1 iX12_isDigit.2.2.2.1 ∈ gw_tbl := gw_at 1118 (by decide +kernel) rfl
abbrev iX12_isWordSign : MIx := (cX12_isWordSign, RX12, 1, (some .boolean), { frames := 1, cells := 0, slots := 0, locals := 20 })
set_option maxRecDepth 100000 in
theorem wkX12_isWordSign : Cond.code yX12_isWordSign iX12_isWordSign.1 iX12_isWordSign.2.2.1 iX12_isWordSign.2.2.2.1 ∈ gw_tbl := gw_at 1115 (by decide +kernel) rfl
abbrev iX12_takes : MIx := (cX12_takes, RX12, 2, (some .boolean), { frames := 1, cells := 0, slots := 0, locals := 20 })
set_option maxRecDepth 100000 in
theorem wkX12_takes : Cond.code yX12_takes iX12_takes.1 iX12_takes.2.2.1 iX12_takes.2.2.2.1 ∈ gw_tbl := gw_at 1168 (by decide +kernel) rfl
abbrev iX12_want : MIx := (cX12_want, RX12, 2, none, { frames := 2, cells := 0, slots := 0, locals := 41 })
set_option maxRecDepth 100000 in
theorem wkX12_want : Cond.code yX12_want iX12_want.1 iX12_want.2.2.1 iX12_want.2.2.2.1 ∈ gw_tbl := gw_at 1194 (by decide +kernel) rfl
abbrev iX12_wordEnd : MIx := (cX12_wordEnd, RX12, 2, (some .int), { frames := 2, cells := 0, slots := 0, locals := 40 })
set_option maxRecDepth 100000 in
theorem wkX12_wordEnd : Cond.code yX12_wordEnd iX12_wordEnd.1 iX12_wordEnd.2.2.1 iX12_wordEnd.2.2.2.1 ∈ gw_tbl := gw_at 1109 (by decide +kernel) rfl
abbrev iX12_isWord : MIx := (cX12_isWord, RX12, 8, (some .boolean), { frames := 0, cells := 0, slots := 0, locals := 0 })
set_option maxRecDepth 100000 in
theorem wkX12_isWord : Cond.code yX12_isWord iX12_isWord.1 iX12_isWord.2.2.1 iX12_isWord.2.2.2.1 ∈ gw_tbl := gw_at 1143 (by decide +kernel) rfl
abbrev iX12_isName : MIx := (cX12_isName, RX12, 5, (some .boolean), { frames := 1, cells := 0, slots := 0, locals := 20 })
set_option maxRecDepth 100000 in
theorem wkX12_isName : Cond.code yX12_isName iX12_isName.1 iX12_isName.2.2.1 iX12_isName.2.2.2.1 ∈ gw_tbl := gw_at 1122 (by decide +kernel) rfl
abbrev iX12_register : MIx := (cX12_register, RX12, 4, (some .int), { frames := 3, cells := 0, slots := 0, locals := 61 })
set_option maxRecDepth 100000 in
theorem wkX12_register : Cond.code yX12_register iX12_register.1 iX12_register.2.2.1 iX12_register.2.2.2.1 ∈ gw_tbl := gw_at 1190 (by decide +kernel) rfl
abbrev iX12_digits : MIx := (cX12_digits, RX12, 5, (some .int), { frames := 3, cells := 0, slots := 0, locals := 61 })
set_option maxRecDepth 100000 in
theorem wkX12_digits : Cond.code yX12_digits iX12_digits.1 iX12_digits.2.2.1 iX12_digits.2.2.2.1 ∈ gw_tbl := gw_at 1164 (by decide +kernel) rfl
abbrev iX12_readNumber : MIx := (cX12_readNumber, RX12, 7, (some .int), { frames := 4, cells := 0, slots := 0, locals := 85 })
set_option maxRecDepth 100000 in
theorem wkX12_readNumber : Cond.code yX12_readNumber iX12_readNumber.1 iX12_readNumber.2.2.1 iX12_readNumber.2.2.2.1 ∈ gw_tbl := gw_at 1160 (by decide +kernel) rfl
abbrev iX12_readName : MIx := (cX12_readName, RX12, 2, none, { frames := 3, cells := 0, slots := 0, locals := 61 })
set_option maxRecDepth 100000 in
theorem wkX12_readName : Cond.code yX12_readName iX12_readName.1 iX12_readName.2.2.1 iX12_readName.2.2.2.1 ∈ gw_tbl := gw_at 1151 (by decide +kernel) rfl
abbrev iX12_immediate : MIx := (cX12_immediate, RX12, 4, (some .int), { frames := 5, cells := 0, slots := 0, locals := 111 })
set_option maxRecDepth 100000 in
theorem wkX12_immediate : Cond.code yX12_immediate iX12_immediate.1 iX12_immediate.2.2.1 iX12_immediate.2.2.2.1 ∈ gw_tbl := gw_at 1198 (by decide +kernel) rfl
abbrev iX12_plain : MIx := (cX12_plain, RX12, 2, none, { frames := 0, cells := 0, slots := 0, locals := 0 })
set_option maxRecDepth 100000 in
theorem wkX12_plain : Cond.code yX12_plain iX12_plain.1 iX12_plain.2.2.1 iX12_plain.2.2.2.1 ∈ gw_tbl := gw_at 1181 (by decide +kernel) rfl
abbrev iX12_two : MIx := (cX12_two, RX12, 3, none, { frames := 4, cells := 0, slots := 0, locals := 84 })
set_option maxRecDepth 100000 in
theorem wkX12_two : Cond.code yX12_two iX12_two.1 iX12_two.2.2.1 iX12_two.2.2.2.1 ∈ gw_tbl := gw_at 1230 (by decide +kernel) rfl
abbrev iX12_oneOrNumber : MIx := (cX12_oneOrNumber, RX12, 5, none, { frames := 6, cells := 0, slots := 0, locals := 134 })
set_option maxRecDepth 100000 in
theorem wkX12_oneOrNumber : Cond.code yX12_oneOrNumber iX12_oneOrNumber.1 iX12_oneOrNumber.2.2.1 iX12_oneOrNumber.2.2.2.1 ∈ gw_tbl := gw_at 1186 (by decide +kernel) rfl
abbrev iX12_sums : MIx := (cX12_sums, RX12, 5, none, { frames := 6, cells := 0, slots := 0, locals := 134 })
set_option maxRecDepth 100000 in
theorem wkX12_sums : Cond.code yX12_sums iX12_sums.1 iX12_sums.2.2.1 iX12_sums.2.2.2.1 ∈ gw_tbl := gw_at 1204 (by decide +kernel) rfl
abbrev iX12_shifts : MIx := (cX12_shifts, RX12, 6, none, { frames := 6, cells := 0, slots := 0, locals := 134 })
set_option maxRecDepth 100000 in
theorem wkX12_shifts : Cond.code yX12_shifts iX12_shifts.1 iX12_shifts.2.2.1 iX12_shifts.2.2.2.1 ∈ gw_tbl := gw_at 1210 (by decide +kernel) rfl
abbrev iX12_memory : MIx := (cX12_memory, RX12, 7, none, { frames := 6, cells := 0, slots := 0, locals := 134 })
set_option maxRecDepth 100000 in
theorem wkX12_memory : Cond.code yX12_memory iX12_memory.1 iX12_memory.2.2.1 iX12_memory.2.2.2.1 ∈ gw_tbl := gw_at 1239 (by decide +kernel) rfl
abbrev iX12_listed : MIx := (cX12_listed, RX12, 10, none, { frames := 4, cells := 0, slots := 0, locals := 84 })
set_option maxRecDepth 100000 in
theorem wkX12_listed : Cond.code yX12_listed iX12_listed.1 iX12_listed.2.2.1 iX12_listed.2.2.2.1 ∈ gw_tbl := gw_at 1249 (by decide +kernel) rfl
abbrev iX12_jump : MIx := (cX12_jump, RX12, 3, none, { frames := 4, cells := 0, slots := 0, locals := 82 })
set_option maxRecDepth 100000 in
theorem wkX12_jump : Cond.code yX12_jump iX12_jump.1 iX12_jump.2.2.1 iX12_jump.2.2.2.1 ∈ gw_tbl := gw_at 1258 (by decide +kernel) rfl
abbrev iX12_condition : MIx := (cX12_condition, RX12, 4, (some .int), { frames := 0, cells := 0, slots := 0, locals := 0 })
set_option maxRecDepth 100000 in
theorem wkX12_condition : Cond.code yX12_condition iX12_condition.1 iX12_condition.2.2.1 iX12_condition.2.2.2.1 ∈ gw_tbl := gw_at 1264 (by decide +kernel) rfl
abbrev iX12_directive : MIx := (cX12_directive, RX12, 3, (some .boolean), { frames := 6, cells := 0, slots := 0, locals := 132 })
set_option maxRecDepth 100000 in
theorem wkX12_directive : Cond.code yX12_directive iX12_directive.1 iX12_directive.2.2.1 iX12_directive.2.2.2.1 ∈ gw_tbl := gw_at 1138 (by decide +kernel) rfl
abbrev iX12_word : MIx := (cX12_word, RX12, 2, none, { frames := 5, cells := 0, slots := 0, locals := 111 })
set_option maxRecDepth 100000 in
theorem wkX12_word : Cond.code yX12_word iX12_word.1 iX12_word.2.2.1 iX12_word.2.2.2.1 ∈ gw_tbl := gw_at 1156 (by decide +kernel) rfl
abbrev iX12_simple : MIx := (cX12_simple, RX12, 4, (some .boolean), { frames := 7, cells := 0, slots := 0, locals := 159 })
set_option maxRecDepth 100000 in
theorem wkX12_simple : Cond.code yX12_simple iX12_simple.1 iX12_simple.2.2.1 iX12_simple.2.2.2.1 ∈ gw_tbl := gw_at 1175 (by decide +kernel) rfl
abbrev iX12_pairOf : MIx := (cX12_pairOf, RX12, 3, (some .int), { frames := 1, cells := 0, slots := 0, locals := 27 })
set_option maxRecDepth 100000 in
theorem wkX12_pairOf : Cond.code yX12_pairOf iX12_pairOf.1 iX12_pairOf.2.2.1 iX12_pairOf.2.2.2.1 ∈ gw_tbl := gw_at 1216 (by decide +kernel) rfl
abbrev iX12_other : MIx := (cX12_other, RX12, 6, (some .boolean), { frames := 7, cells := 0, slots := 0, locals := 160 })
set_option maxRecDepth 100000 in
theorem wkX12_other : Cond.code yX12_other iX12_other.1 iX12_other.2.2.1 iX12_other.2.2.2.1 ∈ gw_tbl := gw_at 1234 (by decide +kernel) rfl
abbrev iX12_isTwice : MIx := (cX12_isTwice, RX12, 2, (some .boolean), { frames := 1, cells := 0, slots := 0, locals := 28 })
set_option maxRecDepth 100000 in
theorem wkX12_isTwice : Cond.code yX12_isTwice iX12_isTwice.1 iX12_isTwice.2.2.1 iX12_isTwice.2.2.2.1 ∈ gw_tbl := gw_at 1126 (by decide +kernel) rfl
abbrev iX12_read : MIx := (cX12_read, RX12, 6, none, { frames := 8, cells := 0, slots := 0, locals := 185 })
set_option maxRecDepth 100000 in
theorem wkX12_read : Cond.code yX12_read iX12_read.1 iX12_read.2.2.1 iX12_read.2.2.2.1 ∈ gw_tbl := gw_at 1101 (by decide +kernel) rfl
abbrev iX12_labelOf : MIx := (cX12_labelOf, RX12, 9, (some .int), { frames := 0, cells := 0, slots := 0, locals := 0 })
set_option maxRecDepth 100000 in
theorem wkX12_labelOf : Cond.code yX12_labelOf iX12_labelOf.1 iX12_labelOf.2.2.1 iX12_labelOf.2.2.2.1 ∈ gw_tbl := gw_at 1130 (by decide +kernel) rfl
abbrev iX12_addLabel : MIx := (cX12_addLabel, RX12, 3, none, { frames := 0, cells := 0, slots := 0, locals := 0 })
set_option maxRecDepth 100000 in
theorem wkX12_addLabel : Cond.code yX12_addLabel iX12_addLabel.1 iX12_addLabel.2.2.1 iX12_addLabel.2.2.2.1 ∈ gw_tbl := gw_at 1273 (by decide +kernel) rfl
abbrev iX12_putByte : MIx := (cX12_putByte, RX12, 3, none, { frames := 0, cells := 0, slots := 0, locals := 0 })
set_option maxRecDepth 100000 in
theorem wkX12_putByte : Cond.code yX12_putByte iX12_putByte.1 iX12_putByte.2.2.1 iX12_putByte.2.2.2.1 ∈ gw_tbl := gw_at 1281 (by decide +kernel) rfl
abbrev iX12_putMany : MIx := (cX12_putMany, RX12, 5, none, { frames := 1, cells := 0, slots := 0, locals := 22 })
set_option maxRecDepth 100000 in
theorem wkX12_putMany : Cond.code yX12_putMany iX12_putMany.1 iX12_putMany.2.2.1 iX12_putMany.2.2.2.1 ∈ gw_tbl := gw_at 1285 (by decide +kernel) rfl
abbrev iX12_lay : MIx := (cX12_lay, RX12, 7, (some .int), { frames := 2, cells := 0, slots := 0, locals := 46 })
set_option maxRecDepth 100000 in
theorem wkX12_lay : Cond.code yX12_lay iX12_lay.1 iX12_lay.2.2.1 iX12_lay.2.2.2.1 ∈ gw_tbl := gw_at 1277 (by decide +kernel) rfl
abbrev iX12_report : MIx := (cX12_report, RX12, 5, (some .int), { frames := 0, cells := 0, slots := 0, locals := 0 })
set_option maxRecDepth 100000 in
theorem wkX12_report : Cond.code yX12_report iX12_report.1 iX12_report.2.2.1 iX12_report.2.2.2.1 ∈ gw_tbl := gw_at 1269 (by decide +kernel) rfl
abbrev iX12_firstPass : MIx := (cX12_firstPass, RX12, 4, (some .int), { frames := 9, cells := 0, slots := 0, locals := 210 })
set_option maxRecDepth 100000 in
theorem wkX12_firstPass : Cond.code yX12_firstPass iX12_firstPass.1 iX12_firstPass.2.2.1 iX12_firstPass.2.2.2.1 ∈ gw_tbl := gw_at 1097 (by decide +kernel) rfl
abbrev iX12_isGlobalName : MIx := (cX12_isGlobalName, RX12, 3, (some .boolean), { frames := 2, cells := 0, slots := 0, locals := 52 })
set_option maxRecDepth 100000 in
theorem wkX12_isGlobalName : Cond.code yX12_isGlobalName iX12_isGlobalName.1 iX12_isGlobalName.2.2.1 iX12_isGlobalName.2.2.2.1 ∈ gw_tbl := gw_at 1293 (by decide +kernel) rfl
abbrev iX12_globalOf : MIx := (cX12_globalOf, RX12, 5, (some .int), { frames := 1, cells := 0, slots := 0, locals := 28 })
set_option maxRecDepth 100000 in
theorem wkX12_globalOf : Cond.code yX12_globalOf iX12_globalOf.1 iX12_globalOf.2.2.1 iX12_globalOf.2.2.2.1 ∈ gw_tbl := gw_at 1297 (by decide +kernel) rfl
abbrev iX12_secondPass : MIx := (cX12_secondPass, RX12, 4, (some .int), { frames := 9, cells := 0, slots := 0, locals := 210 })
set_option maxRecDepth 100000 in
theorem wkX12_secondPass : Cond.code yX12_secondPass iX12_secondPass.1 iX12_secondPass.2.2.1 iX12_secondPass.2.2.2.1 ∈ gw_tbl := gw_at 1289 (by decide +kernel) rfl
abbrev iX12_up : MIx := (cX12_up, RX12, 1, (some .int), { frames := 0, cells := 0, slots := 0, locals := 0 })
set_option maxRecDepth 100000 in
theorem wkX12_up : Cond.code yX12_up iX12_up.1 iX12_up.2.2.1 iX12_up.2.2.2.1 ∈ gw_tbl := gw_at 1304 (by decide +kernel) rfl
abbrev iX12_place : MIx := (cX12_place, RX12, 7, (some .int), { frames := 1, cells := 0, slots := 0, locals := 20 })
set_option maxRecDepth 100000 in
theorem wkX12_place : Cond.code yX12_place iX12_place.1 iX12_place.2.2.1 iX12_place.2.2.2.1 ∈ gw_tbl := gw_at 1301 (by decide +kernel) rfl
abbrev iX12_addressOf : MIx := (cX12_addressOf, RX12, 2, (some .int), { frames := 0, cells := 0, slots := 0, locals := 0 })
set_option maxRecDepth 100000 in
theorem wkX12_addressOf : Cond.code yX12_addressOf iX12_addressOf.1 iX12_addressOf.2.2.1 iX12_addressOf.2.2.2.1 ∈ gw_tbl := gw_at 1318 (by decide +kernel) rfl
abbrev iX12_setHalf : MIx := (cX12_setHalf, RX12, 4, none, { frames := 0, cells := 0, slots := 0, locals := 0 })
set_option maxRecDepth 100000 in
theorem wkX12_setHalf : Cond.code yX12_setHalf iX12_setHalf.1 iX12_setHalf.2.2.1 iX12_setHalf.2.2.2.1 ∈ gw_tbl := gw_at 1322 (by decide +kernel) rfl
abbrev iX12_resolve : MIx := (cX12_resolve, RX12, 11, (some .boolean), { frames := 1, cells := 0, slots := 0, locals := 23 })
set_option maxRecDepth 100000 in
theorem wkX12_resolve : Cond.code yX12_resolve iX12_resolve.1 iX12_resolve.2.2.1 iX12_resolve.2.2.2.1 ∈ gw_tbl := gw_at 1314 (by decide +kernel) rfl
abbrev iX12_thirdPass : MIx := (cX12_thirdPass, RX12, 6, (some .int), { frames := 9, cells := 0, slots := 0, locals := 210 })
set_option maxRecDepth 100000 in
theorem wkX12_thirdPass : Cond.code yX12_thirdPass iX12_thirdPass.1 iX12_thirdPass.2.2.1 iX12_thirdPass.2.2.2.1 ∈ gw_tbl := gw_at 1310 (by decide +kernel) rfl
abbrev iX12_sizeOf : MIx := (cX12_sizeOf, RX12, 2, (some .int), { frames := 1, cells := 0, slots := 0, locals := 20 })
set_option maxRecDepth 100000 in
theorem wkX12_sizeOf : Cond.code yX12_sizeOf iX12_sizeOf.1 iX12_sizeOf.2.2.1 iX12_sizeOf.2.2.2.1 ∈ gw_tbl := gw_at 1329 (by decide +kernel) rfl
abbrev iX12_mainAddress : MIx := (cX12_mainAddress, RX12, 3, (some .int), { frames := 1, cells := 0, slots := 0, locals := 21 })
set_option maxRecDepth 100000 in
theorem wkX12_mainAddress : Cond.code yX12_mainAddress iX12_mainAddress.1 iX12_mainAddress.2.2.1 iX12_mainAddress.2.2.2.1 ∈ gw_tbl := gw_at 1333 (by decide +kernel) rfl
abbrev iX12_link : MIx := (cX12_link, RX12, 5, (some .int), { frames := 10, cells := 0, slots := 0, locals := 235 })
set_option maxRecDepth 100000 in
theorem wkX12_link : Cond.code yX12_link iX12_link.1 iX12_link.2.2.1 iX12_link.2.2.2.1 ∈ gw_tbl := gw_at 1093 (by decide +kernel) rfl
abbrev iX12_setWord : MIx := (cX12_setWord, RX12, 4, none, { frames := 0, cells := 0, slots := 0, locals := 0 })
set_option maxRecDepth 100000 in
theorem wkX12_setWord : Cond.code yX12_setWord iX12_setWord.1 iX12_setWord.2.2.1 iX12_setWord.2.2.2.1 ∈ gw_tbl := gw_at 1341 (by decide +kernel) rfl
abbrev iX12_finish : MIx := (cX12_finish, RX12, 6, none, { frames := 3, cells := 0, slots := 0, locals := 69 })
set_option maxRecDepth 100000 in
theorem wkX12_finish : Cond.code yX12_finish iX12_finish.1 iX12_finish.2.2.1 iX12_finish.2.2.2.1 ∈ gw_tbl := gw_at 1337 (by decide +kernel) rfl
abbrev iX12_putHex : MIx := (cX12_putHex, RX12, 4, none, { frames := 0, cells := 0, slots := 0, locals := 0 })
set_option maxRecDepth 100000 in
theorem wkX12_putHex : Cond.code yX12_putHex iX12_putHex.1 iX12_putHex.2.2.1 iX12_putHex.2.2.2.1 ∈ gw_tbl := gw_at 1353 (by decide +kernel) rfl
abbrev iX12_record : MIx := (cX12_record, RX12, 6, none, { frames := 1, cells := 0, slots := 0, locals := 23 })
set_option maxRecDepth 100000 in
theorem wkX12_record : Cond.code yX12_record iX12_record.1 iX12_record.2.2.1 iX12_record.2.2.2.1 ∈ gw_tbl := gw_at 1349 (by decide +kernel) rfl
abbrev iX12_write : MIx := (cX12_write, RX12, 2, none, { frames := 2, cells := 0, slots := 0, locals := 48 })
set_option maxRecDepth 100000 in
theorem wkX12_write : Cond.code yX12_write iX12_write.1 iX12_write.2.2.1 iX12_write.2.2.2.1 ∈ gw_tbl := gw_at 1345 (by decide +kernel) rfl
abbrev iX12_fault : MIx := (cX12_fault, RX12, 2, (some .int), { frames := 1, cells := 0, slots := 0, locals := 22 })
set_option maxRecDepth 100000 in
theorem wkX12_fault : Cond.code yX12_fault iX12_fault.1 iX12_fault.2.2.1 iX12_fault.2.2.2.1 ∈ gw_tbl := gw_at 1357 (by decide +kernel) rfl
abbrev iX12_octet : MIx := (cX12_octet, RX12, 2, (some .int), { frames := 1, cells := 0, slots := 0, locals := 22 })
set_option maxRecDepth 100000 in
theorem wkX12_octet : Cond.code yX12_octet iX12_octet.1 iX12_octet.2.2.1 iX12_octet.2.2.2.1 ∈ gw_tbl := gw_at 1364 (by decide +kernel) rfl
abbrev iX12_hex : MIx := (cX12_hex, RX12, 2, (some .char), { frames := 1, cells := 0, slots := 0, locals := 22 })
set_option maxRecDepth 100000 in
theorem wkX12_hex : Cond.code yX12_hex iX12_hex.1 iX12_hex.2.2.1 iX12_hex.2.2.2.1 ∈ gw_tbl := gw_at 1368 (by decide +kernel) rfl
abbrev iX12_address : MIx := (cX12_address, RX12, 5, (some .int), { frames := 1, cells := 0, slots := 0, locals := 21 })
set_option maxRecDepth 100000 in
theorem wkX12_address : Cond.code yX12_address iX12_address.1 iX12_address.2.2.1 iX12_address.2.2.2.1 ∈ gw_tbl := gw_at 1372 (by decide +kernel) rfl
abbrev iX12_size : MIx := (cX12_size, RX12, 3, (some .int), { frames := 1, cells := 0, slots := 0, locals := 22 })
set_option maxRecDepth 100000 in
theorem wkX12_size : Cond.code yX12_size iX12_size.1 iX12_size.2.2.1 iX12_size.2.2.2.1 ∈ gw_tbl := gw_at 1376 (by decide +kernel) rfl
abbrev iJ9_min_7cf53 : MIx := (cJ9_min_7cf53, RJ9, 2, (some .int), { frames := 0, cells := 0, slots := 0, locals := 0 })
set_option maxRecDepth 100000 in
theorem wkJ9_min_7cf53 : Cond.code yJ9_min_7cf53 iJ9_min_7cf53.1 iJ9_min_7cf53.2.2.1 iJ9_min_7cf53.2.2.2.1 ∈ gw_tbl := gw_at 606 (by decide +kernel) rfl
abbrev iJ0_length_8abf5 : MIx := (cJ0_length_8abf5, RJ0, 1, (some .int), { frames := 1, cells := 0, slots := 0, locals := 20 })
set_option maxRecDepth 100000 in
theorem wkJ0_length_8abf5 : Cond.code yJ0_length_8abf5 iJ0_length_8abf5.1 iJ0_length_8abf5.2.2.1 iJ0_length_8abf5.2.2.2.1 ∈ gw_tbl := gw_at 555 (by decide +kernel) rfl
abbrev iJ0_charAt_5068e : MIx := (cJ0_charAt_5068e, RJ0, 2, (some .char), { frames := 4, cells := 0, slots := 0, locals := 85 })
set_option maxRecDepth 100000 in
theorem wkJ0_charAt_5068e : Cond.code yJ0_charAt_5068e iJ0_charAt_5068e.1 iJ0_charAt_5068e.2.2.1 iJ0_charAt_5068e.2.2.2.1 ∈ gw_tbl := gw_at 565 (by decide +kernel) rfl
abbrev iJ0_coder_7d493 : MIx := (cJ0_coder_7d493, RJ0, 1, (some .byte), { frames := 0, cells := 0, slots := 0, locals := 0 })
set_option maxRecDepth 100000 in
theorem wkJ0_coder_7d493 : Cond.code yJ0_coder_7d493 iJ0_coder_7d493.1 iJ0_coder_7d493.2.2.1 iJ0_coder_7d493.2.2.2.1 ∈ gw_tbl := gw_at 559 (by decide +kernel) rfl
abbrev iJ0_isLatin1_aae02 : MIx := (cJ0_isLatin1_aae02, RJ0, 1, (some .boolean), { frames := 0, cells := 0, slots := 0, locals := 0 })
set_option maxRecDepth 100000 in
theorem wkJ0_isLatin1_aae02 : Cond.code yJ0_isLatin1_aae02 iJ0_isLatin1_aae02.1 iJ0_isLatin1_aae02.2.2.1 iJ0_isLatin1_aae02.2.2.2.1 ∈ gw_tbl := gw_at 569 (by decide +kernel) rfl
abbrev iJ0_checkIndex_df160 : MIx := (cJ0_checkIndex_df160, RJ0, 2, none, { frames := 1, cells := 0, slots := 0, locals := 22 })
set_option maxRecDepth 100000 in
theorem wkJ0_checkIndex_df160 : Cond.code yJ0_checkIndex_df160 iJ0_checkIndex_df160.1 iJ0_checkIndex_df160.2.2.1 iJ0_checkIndex_df160.2.2.2.1 ∈ gw_tbl := gw_at 575 (by decide +kernel) rfl
abbrev iJ1_charAt_3b067 : MIx := (cJ1_charAt_3b067, RJ1, 2, (some .char), { frames := 2, cells := 0, slots := 0, locals := 43 })
set_option maxRecDepth 100000 in
theorem wkJ1_charAt_3b067 : Cond.code yJ1_charAt_3b067 iJ1_charAt_3b067.1 iJ1_charAt_3b067.2.2.1 iJ1_charAt_3b067.2.2.2.1 ∈ gw_tbl := gw_at 572 (by decide +kernel) rfl
abbrev iJ2_getChar_3b067 : MIx := (cJ2_getChar_3b067, RJ2, 2, (some .char), { frames := 1, cells := 0, slots := 0, locals := 20 })
set_option maxRecDepth 100000 in
theorem wkJ2_getChar_3b067 : Cond.code yJ2_getChar_3b067 iJ2_getChar_3b067.1 iJ2_getChar_3b067.2.2.1 iJ2_getChar_3b067.2.2.2.1 ∈ gw_tbl := gw_at 593 (by decide +kernel) rfl
abbrev iJ2_length_9d52b : MIx := (cJ2_length_9d52b, RJ2, 1, (some .int), { frames := 0, cells := 0, slots := 0, locals := 0 })
set_option maxRecDepth 100000 in
theorem wkJ2_length_9d52b : Cond.code yJ2_length_9d52b iJ2_length_9d52b.1 iJ2_length_9d52b.2.2.1 iJ2_length_9d52b.2.2.2.1 ∈ gw_tbl := gw_at 589 (by decide +kernel) rfl
abbrev iJ2_charAt_3b067 : MIx := (cJ2_charAt_3b067, RJ2, 2, (some .char), { frames := 3, cells := 0, slots := 0, locals := 64 })
set_option maxRecDepth 100000 in
theorem wkJ2_charAt_3b067 : Cond.code yJ2_charAt_3b067 iJ2_charAt_3b067.1 iJ2_charAt_3b067.2.2.1 iJ2_charAt_3b067.2.2.2.1 ∈ gw_tbl := gw_at 583 (by decide +kernel) rfl
abbrev iJ2_checkIndex_2214a : MIx := (cJ2_checkIndex_2214a, RJ2, 2, none, { frames := 2, cells := 0, slots := 0, locals := 43 })
set_option maxRecDepth 100000 in
theorem wkJ2_checkIndex_2214a : Cond.code yJ2_checkIndex_2214a iJ2_checkIndex_2214a.1 iJ2_checkIndex_2214a.2.2.1 iJ2_checkIndex_2214a.2.2.2.1 ∈ gw_tbl := gw_at 586 (by decide +kernel) rfl
abbrev iJ7_fill_53178 : MIx := (cJ7_fill_53178, RJ7, 4, none, { frames := 0, cells := 0, slots := 0, locals := 0 })
set_option maxRecDepth 100000 in
theorem wkJ7_fill_53178 : Cond.code yJ7_fill_53178 iJ7_fill_53178.1 iJ7_fill_53178.2.2.1 iJ7_fill_53178.2.2.2.1 ∈ gw_tbl := gw_at 416 (by decide +kernel) rfl
abbrev iJ7_fill_031fb : MIx := (cJ7_fill_031fb, RJ7, 4, none, { frames := 0, cells := 0, slots := 0, locals := 0 })
set_option maxRecDepth 100000 in
theorem wkJ7_fill_031fb : Cond.code yJ7_fill_031fb iJ7_fill_031fb.1 iJ7_fill_031fb.2.2.1 iJ7_fill_031fb.2.2.2.1 ∈ gw_tbl := gw_at 423 (by decide +kernel) rfl
abbrev iJ3_checkIndex_8e157 : MIx := (cJ3_checkIndex_8e157, RJ3, 3, (some .int), { frames := 0, cells := 0, slots := 0, locals := 0 })
set_option maxRecDepth 100000 in
theorem wkJ3_checkIndex_8e157 : Cond.code yJ3_checkIndex_8e157 iJ3_checkIndex_8e157.1 iJ3_checkIndex_8e157.2.2.1 iJ3_checkIndex_8e157.2.2.2.1 ∈ gw_tbl := gw_at 580 (by decide +kernel) rfl
set_option maxRecDepth 100000 in
theorem cvX0_36 : CV RX0 36 RX4 yX4_clear iX4_clear 0 := ⟨⟨gw_at 410 (by decide +kernel) rfl, gw_at 411 (by decide +kernel) rfl, gw_at 412 (by decide +kernel) rfl, gw_at 91 (by decide +kernel) rfl, wkX4_clear⟩, (by decide +kernel), rfl, rfl⟩
set_option maxRecDepth 100000 in
theorem cvX0_39 : CV RX0 39 RX2 yX2_clear iX2_clear 0 := ⟨⟨gw_at 417 (by decide +kernel) rfl, gw_at 418 (by decide +kernel) rfl, gw_at 419 (by decide +kernel) rfl, gw_at 92 (by decide +kernel) rfl, wkX2_clear⟩, (by decide +kernel), rfl, rfl⟩
set_option maxRecDepth 100000 in
theorem cvX0_69 : CV RX0 69 RX3 yX3_append iX3_append 4 := ⟨⟨gw_at 440 (by decide +kernel) rfl, gw_at 441 (by decide +kernel) rfl, gw_at 442 (by decide +kernel) rfl, gw_at 90 (by decide +kernel) rfl, wkX3_append⟩, (by decide +kernel), rfl, rfl⟩
set_option maxRecDepth 100000 in
theorem cvX0_82 : CV RX0 82 RX0 yX0_writeWord iX0_writeWord 3 := ⟨⟨gw_at 481 (by decide +kernel) rfl, gw_at 483 (by decide +kernel) rfl, gw_at 5 (by decide +kernel) rfl, gw_at 89 (by decide +kernel) rfl, wkX0_writeWord⟩, (by decide +kernel), rfl, rfl⟩
set_option maxRecDepth 100000 in
theorem cvX0_89 : CV RX0 89 RX2 yX2_putByte iX2_putByte 2 := ⟨⟨gw_at 507 (by decide +kernel) rfl, gw_at 504 (by decide +kernel) rfl, gw_at 505 (by decide +kernel) rfl, gw_at 92 (by decide +kernel) rfl, wkX2_putByte⟩, (by decide +kernel), rfl, rfl⟩
set_option maxRecDepth 100000 in
theorem cvX0_93 : CV RX0 93 RX0 yX0_writeInstruction iX0_writeInstruction 3 := ⟨⟨gw_at 508 (by decide +kernel) rfl, gw_at 510 (by decide +kernel) rfl, gw_at 7 (by decide +kernel) rfl, gw_at 89 (by decide +kernel) rfl, wkX0_writeInstruction⟩, (by decide +kernel), rfl, rfl⟩
set_option maxRecDepth 100000 in
theorem cvX0_99 : CV RX0 99 RX0 yX0_resolve iX0_resolve 2 := ⟨⟨gw_at 485 (by decide +kernel) rfl, gw_at 487 (by decide +kernel) rfl, gw_at 6 (by decide +kernel) rfl, gw_at 89 (by decide +kernel) rfl, wkX0_resolve⟩, (by decide +kernel), rfl, rfl⟩
set_option maxRecDepth 100000 in
theorem cvX0_103 : CV RX0 103 RX0 yX0_addressOf iX0_addressOf 1 := ⟨⟨gw_at 491 (by decide +kernel) rfl, gw_at 492 (by decide +kernel) rfl, gw_at 493 (by decide +kernel) rfl, gw_at 89 (by decide +kernel) rfl, wkX0_addressOf⟩, (by decide +kernel), rfl, rfl⟩
set_option maxRecDepth 100000 in
theorem cvX0_107 : CV RX0 107 RX2 yX2_putWord iX2_putWord 2 := ⟨⟨gw_at 495 (by decide +kernel) rfl, gw_at 496 (by decide +kernel) rfl, gw_at 497 (by decide +kernel) rfl, gw_at 92 (by decide +kernel) rfl, wkX2_putWord⟩, (by decide +kernel), rfl, rfl⟩
set_option maxRecDepth 100000 in
theorem cvX0_113 : CV RX0 113 RX2 yX2_putHalf iX2_putHalf 2 := ⟨⟨gw_at 512 (by decide +kernel) rfl, gw_at 500 (by decide +kernel) rfl, gw_at 501 (by decide +kernel) rfl, gw_at 92 (by decide +kernel) rfl, wkX2_putHalf⟩, (by decide +kernel), rfl, rfl⟩
set_option maxRecDepth 100000 in
theorem csX0_116 : CS RX0 116 yX0_reaches iX0_reaches 3 := ⟨⟨gw_at 513 (by decide +kernel) rfl, gw_at 514 (by decide +kernel) rfl, gw_at 89 (by decide +kernel) rfl, wkX0_reaches⟩, (by decide +kernel), rfl, rfl⟩
set_option maxRecDepth 100000 in
theorem cvX0_120 : CV RX0 120 RX0 yX0_writeCall iX0_writeCall 3 := ⟨⟨gw_at 518 (by decide +kernel) rfl, gw_at 520 (by decide +kernel) rfl, gw_at 8 (by decide +kernel) rfl, gw_at 89 (by decide +kernel) rfl, wkX0_writeCall⟩, (by decide +kernel), rfl, rfl⟩
set_option maxRecDepth 100000 in
theorem csX0_124 : CS RX0 124 yX0_distanceBits iX0_distanceBits 2 := ⟨⟨gw_at 523 (by decide +kernel) rfl, gw_at 524 (by decide +kernel) rfl, gw_at 89 (by decide +kernel) rfl, wkX0_distanceBits⟩, (by decide +kernel), rfl, rfl⟩
set_option maxRecDepth 100000 in
theorem cvX0_128 : CV RX0 128 RX3 yX3_find iX3_find 2 := ⟨⟨gw_at 489 (by decide +kernel) rfl, gw_at 429 (by decide +kernel) rfl, gw_at 430 (by decide +kernel) rfl, gw_at 90 (by decide +kernel) rfl, wkX3_find⟩, (by decide +kernel), rfl, rfl⟩
set_option maxRecDepth 100000 in
theorem cvX0_131 : CV RX0 131 RX3 yX3_findGlobal iX3_findGlobal 1 := ⟨⟨gw_at 490 (by decide +kernel) rfl, gw_at 454 (by decide +kernel) rfl, gw_at 455 (by decide +kernel) rfl, gw_at 90 (by decide +kernel) rfl, wkX3_findGlobal⟩, (by decide +kernel), rfl, rfl⟩
set_option maxRecDepth 100000 in
theorem csX2_15 : CS RX2 15 yJ7_fill_031fb iJ7_fill_031fb 2 := ⟨⟨gw_at 421 (by decide +kernel) rfl, gw_at 422 (by decide +kernel) rfl, gw_at 105 (by decide +kernel) rfl, wkJ7_fill_031fb⟩, (by decide +kernel), rfl, rfl⟩
set_option maxRecDepth 100000 in
theorem cvX2_25 : CV RX2 25 RX2 yX2_putByte iX2_putByte 2 := ⟨⟨gw_at 503 (by decide +kernel) rfl, gw_at 504 (by decide +kernel) rfl, gw_at 505 (by decide +kernel) rfl, gw_at 92 (by decide +kernel) rfl, wkX2_putByte⟩, (by decide +kernel), rfl, rfl⟩
set_option maxRecDepth 100000 in
theorem cvX2_29 : CV RX2 29 RX2 yX2_putHalf iX2_putHalf 2 := ⟨⟨gw_at 499 (by decide +kernel) rfl, gw_at 500 (by decide +kernel) rfl, gw_at 501 (by decide +kernel) rfl, gw_at 92 (by decide +kernel) rfl, wkX2_putHalf⟩, (by decide +kernel), rfl, rfl⟩
set_option maxRecDepth 100000 in
theorem cvX2_34 : CV RX2 34 RJ0 yJ0_length_8abf5 iJ0_length_8abf5 0 := ⟨⟨gw_at 552 (by decide +kernel) rfl, gw_at 553 (by decide +kernel) rfl, gw_at 554 (by decide +kernel) rfl, gw_at 101 (by decide +kernel) rfl, wkJ0_length_8abf5⟩, (by decide +kernel), rfl, rfl⟩
set_option maxRecDepth 100000 in
theorem cvX2_39 : CV RX2 39 RJ0 yJ0_charAt_5068e iJ0_charAt_5068e 1 := ⟨⟨gw_at 562 (by decide +kernel) rfl, gw_at 563 (by decide +kernel) rfl, gw_at 564 (by decide +kernel) rfl, gw_at 101 (by decide +kernel) rfl, wkJ0_charAt_5068e⟩, (by decide +kernel), rfl, rfl⟩
set_option maxRecDepth 100000 in
theorem cvX2_43 : CV RX2 43 RX2 yX2_bodyCharacter iX2_bodyCharacter 2 := ⟨⟨gw_at 600 (by decide +kernel) rfl, gw_at 602 (by decide +kernel) rfl, gw_at 10 (by decide +kernel) rfl, gw_at 92 (by decide +kernel) rfl, wkX2_bodyCharacter⟩, (by decide +kernel), rfl, rfl⟩
set_option maxRecDepth 100000 in
theorem csX2_49 : CS RX2 49 yJ9_min_7cf53 iJ9_min_7cf53 2 := ⟨⟨gw_at 604 (by decide +kernel) rfl, gw_at 605 (by decide +kernel) rfl, gw_at 106 (by decide +kernel) rfl, wkJ9_min_7cf53⟩, (by decide +kernel), rfl, rfl⟩
set_option maxRecDepth 100000 in
theorem cvX2_55 : CV RX2 55 RX2 yX2_recordByte iX2_recordByte 3 := ⟨⟨gw_at 607 (by decide +kernel) rfl, gw_at 609 (by decide +kernel) rfl, gw_at 11 (by decide +kernel) rfl, gw_at 92 (by decide +kernel) rfl, wkX2_recordByte⟩, (by decide +kernel), rfl, rfl⟩
set_option maxRecDepth 100000 in
theorem cvX2_61 : CV RX2 61 RX2 yX2_plainRecordByte iX2_plainRecordByte 3 := ⟨⟨gw_at 611 (by decide +kernel) rfl, gw_at 613 (by decide +kernel) rfl, gw_at 12 (by decide +kernel) rfl, gw_at 92 (by decide +kernel) rfl, wkX2_plainRecordByte⟩, (by decide +kernel), rfl, rfl⟩
set_option maxRecDepth 100000 in
theorem cvX2_64 : CV RX2 64 RX2 yX2_byteAt iX2_byteAt 1 := ⟨⟨gw_at 615 (by decide +kernel) rfl, gw_at 540 (by decide +kernel) rfl, gw_at 541 (by decide +kernel) rfl, gw_at 92 (by decide +kernel) rfl, wkX2_byteAt⟩, (by decide +kernel), rfl, rfl⟩
set_option maxRecDepth 100000 in
theorem cvX3_33 : CV RX3 33 RX3 yX3_find iX3_find 2 := ⟨⟨gw_at 452 (by decide +kernel) rfl, gw_at 429 (by decide +kernel) rfl, gw_at 430 (by decide +kernel) rfl, gw_at 90 (by decide +kernel) rfl, wkX3_find⟩, (by decide +kernel), rfl, rfl⟩
set_option maxRecDepth 100000 in
theorem cvX3_37 : CV RX3 37 RX3 yX3_findGlobal iX3_findGlobal 1 := ⟨⟨gw_at 453 (by decide +kernel) rfl, gw_at 454 (by decide +kernel) rfl, gw_at 455 (by decide +kernel) rfl, gw_at 90 (by decide +kernel) rfl, wkX3_findGlobal⟩, (by decide +kernel), rfl, rfl⟩
set_option maxRecDepth 100000 in
theorem csX4_23 : CS RX4 23 yJ7_fill_53178 iJ7_fill_53178 2 := ⟨⟨gw_at 414 (by decide +kernel) rfl, gw_at 415 (by decide +kernel) rfl, gw_at 105 (by decide +kernel) rfl, wkJ7_fill_53178⟩, (by decide +kernel), rfl, rfl⟩
set_option maxRecDepth 100000 in
theorem cvX4_33 : CV RX4 33 RX4 yX4_line iX4_line 2 := ⟨⟨gw_at 465 (by decide +kernel) rfl, gw_at 467 (by decide +kernel) rfl, gw_at 3 (by decide +kernel) rfl, gw_at 91 (by decide +kernel) rfl, wkX4_line⟩, (by decide +kernel), rfl, rfl⟩
set_option maxRecDepth 100000 in
theorem csX4_37 : CS RX4 37 yX4_nextFour iX4_nextFour 1 := ⟨⟨gw_at 469 (by decide +kernel) rfl, gw_at 470 (by decide +kernel) rfl, gw_at 91 (by decide +kernel) rfl, wkX4_nextFour⟩, (by decide +kernel), rfl, rfl⟩
set_option maxRecDepth 100000 in
theorem cvX6_18 : CV RX6 18 RX9 yX9_clear iX9_clear 0 := ⟨⟨gw_at 731 (by decide +kernel) rfl, gw_at 732 (by decide +kernel) rfl, gw_at 733 (by decide +kernel) rfl, gw_at 85 (by decide +kernel) rfl, wkX9_clear⟩, (by decide +kernel), rfl, rfl⟩
set_option maxRecDepth 100000 in
theorem cvX6_23 : CV RX6 23 RX7 yX7_begin iX7_begin 1 := ⟨⟨gw_at 735 (by decide +kernel) rfl, gw_at 736 (by decide +kernel) rfl, gw_at 737 (by decide +kernel) rfl, gw_at 87 (by decide +kernel) rfl, wkX7_begin⟩, (by decide +kernel), rfl, rfl⟩
set_option maxRecDepth 100000 in
theorem cvX6_27 : CV RX6 27 RX6 yX6_label iX6_label 1 := ⟨⟨gw_at 749 (by decide +kernel) rfl, gw_at 751 (by decide +kernel) rfl, gw_at 14 (by decide +kernel) rfl, gw_at 86 (by decide +kernel) rfl, wkX6_label⟩, (by decide +kernel), rfl, rfl⟩
set_option maxRecDepth 100000 in
theorem cvX6_31 : CV RX6 31 RX7 yX7_atEnd iX7_atEnd 0 := ⟨⟨gw_at 776 (by decide +kernel) rfl, gw_at 777 (by decide +kernel) rfl, gw_at 778 (by decide +kernel) rfl, gw_at 87 (by decide +kernel) rfl, wkX7_atEnd⟩, (by decide +kernel), rfl, rfl⟩
set_option maxRecDepth 100000 in
theorem cvX6_42 : CV RX6 42 RX7 yX7_seenMnemonic iX7_seenMnemonic 0 := ⟨⟨gw_at 780 (by decide +kernel) rfl, gw_at 781 (by decide +kernel) rfl, gw_at 782 (by decide +kernel) rfl, gw_at 87 (by decide +kernel) rfl, wkX7_seenMnemonic⟩, (by decide +kernel), rfl, rfl⟩
set_option maxRecDepth 100000 in
theorem cvX6_46 : CV RX6 46 RX7 yX7_fail iX7_fail 2 := ⟨⟨gw_at 792 (by decide +kernel) rfl, gw_at 793 (by decide +kernel) rfl, gw_at 794 (by decide +kernel) rfl, gw_at 87 (by decide +kernel) rfl, wkX7_fail⟩, (by decide +kernel), rfl, rfl⟩
set_option maxRecDepth 100000 in
theorem cvX6_55 : CV RX6 55 RX7 yX7_step iX7_step 0 := ⟨⟨gw_at 763 (by decide +kernel) rfl, gw_at 740 (by decide +kernel) rfl, gw_at 741 (by decide +kernel) rfl, gw_at 87 (by decide +kernel) rfl, wkX7_step⟩, (by decide +kernel), rfl, rfl⟩
set_option maxRecDepth 100000 in
theorem cvX6_58 : CV RX6 58 RX6 yX6_directive iX6_directive 2 := ⟨⟨gw_at 796 (by decide +kernel) rfl, gw_at 798 (by decide +kernel) rfl, gw_at 15 (by decide +kernel) rfl, gw_at 86 (by decide +kernel) rfl, wkX6_directive⟩, (by decide +kernel), rfl, rfl⟩
set_option maxRecDepth 100000 in
theorem cvX6_62 : CV RX6 62 RX6 yX6_instruction iX6_instruction 2 := ⟨⟨gw_at 828 (by decide +kernel) rfl, gw_at 830 (by decide +kernel) rfl, gw_at 18 (by decide +kernel) rfl, gw_at 86 (by decide +kernel) rfl, wkX6_instruction⟩, (by decide +kernel), rfl, rfl⟩
set_option maxRecDepth 100000 in
theorem cvX6_73 : CV RX6 73 RX7 yX7_seenName iX7_seenName 0 := ⟨⟨gw_at 753 (by decide +kernel) rfl, gw_at 754 (by decide +kernel) rfl, gw_at 755 (by decide +kernel) rfl, gw_at 87 (by decide +kernel) rfl, wkX7_seenName⟩, (by decide +kernel), rfl, rfl⟩
set_option maxRecDepth 100000 in
theorem cvX6_77 : CV RX6 77 RX7 yX7_accept iX7_accept 1 := ⟨⟨gw_at 764 (by decide +kernel) rfl, gw_at 765 (by decide +kernel) rfl, gw_at 766 (by decide +kernel) rfl, gw_at 87 (by decide +kernel) rfl, wkX7_accept⟩, (by decide +kernel), rfl, rfl⟩
set_option maxRecDepth 100000 in
theorem cvX6_87 : CV RX6 87 RX7 yX7_stepBackTo iX7_stepBackTo 1 := ⟨⟨gw_at 772 (by decide +kernel) rfl, gw_at 773 (by decide +kernel) rfl, gw_at 774 (by decide +kernel) rfl, gw_at 87 (by decide +kernel) rfl, wkX7_stepBackTo⟩, (by decide +kernel), rfl, rfl⟩
set_option maxRecDepth 100000 in
theorem cvX6_100 : CV RX6 100 RX6 yX6_reference iX6_reference 1 := ⟨⟨gw_at 800 (by decide +kernel) rfl, gw_at 802 (by decide +kernel) rfl, gw_at 16 (by decide +kernel) rfl, gw_at 86 (by decide +kernel) rfl, wkX6_reference⟩, (by decide +kernel), rfl, rfl⟩
set_option maxRecDepth 100000 in
theorem cvX6_106 : CV RX6 106 RX6 yX6_value iX6_value 1 := ⟨⟨gw_at 810 (by decide +kernel) rfl, gw_at 812 (by decide +kernel) rfl, gw_at 17 (by decide +kernel) rfl, gw_at 86 (by decide +kernel) rfl, wkX6_value⟩, (by decide +kernel), rfl, rfl⟩
set_option maxRecDepth 100000 in
theorem cvX6_109 : CV RX6 109 RX7 yX7_number iX7_number 2 := ⟨⟨gw_at 818 (by decide +kernel) rfl, gw_at 819 (by decide +kernel) rfl, gw_at 820 (by decide +kernel) rfl, gw_at 87 (by decide +kernel) rfl, wkX7_number⟩, (by decide +kernel), rfl, rfl⟩
set_option maxRecDepth 100000 in
theorem cvX6_115 : CV RX6 115 RX7 yX7_name iX7_name 0 := ⟨⟨gw_at 804 (by decide +kernel) rfl, gw_at 805 (by decide +kernel) rfl, gw_at 806 (by decide +kernel) rfl, gw_at 87 (by decide +kernel) rfl, wkX7_name⟩, (by decide +kernel), rfl, rfl⟩
set_option maxRecDepth 100000 in
theorem cvX6_120 : CV RX6 120 RX7 yX7_seesLetter iX7_seesLetter 0 := ⟨⟨gw_at 814 (by decide +kernel) rfl, gw_at 815 (by decide +kernel) rfl, gw_at 816 (by decide +kernel) rfl, gw_at 87 (by decide +kernel) rfl, wkX7_seesLetter⟩, (by decide +kernel), rfl, rfl⟩
set_option maxRecDepth 100000 in
theorem cvX6_123 : CV RX6 123 RX7 yX7_digits iX7_digits 0 := ⟨⟨gw_at 827 (by decide +kernel) rfl, gw_at 824 (by decide +kernel) rfl, gw_at 825 (by decide +kernel) rfl, gw_at 87 (by decide +kernel) rfl, wkX7_digits⟩, (by decide +kernel), rfl, rfl⟩
set_option maxRecDepth 100000 in
theorem cvX6_127 : CV RX6 127 RX6 yX6_move iX6_move 1 := ⟨⟨gw_at 832 (by decide +kernel) rfl, gw_at 834 (by decide +kernel) rfl, gw_at 19 (by decide +kernel) rfl, gw_at 86 (by decide +kernel) rfl, wkX6_move⟩, (by decide +kernel), rfl, rfl⟩
set_option maxRecDepth 100000 in
theorem cvX6_131 : CV RX6 131 RX6 yX6_sum iX6_sum 1 := ⟨⟨gw_at 852 (by decide +kernel) rfl, gw_at 854 (by decide +kernel) rfl, gw_at 21 (by decide +kernel) rfl, gw_at 86 (by decide +kernel) rfl, wkX6_sum⟩, (by decide +kernel), rfl, rfl⟩
set_option maxRecDepth 100000 in
theorem cvX6_134 : CV RX6 134 RX6 yX6_shift iX6_shift 1 := ⟨⟨gw_at 856 (by decide +kernel) rfl, gw_at 858 (by decide +kernel) rfl, gw_at 22 (by decide +kernel) rfl, gw_at 86 (by decide +kernel) rfl, wkX6_shift⟩, (by decide +kernel), rfl, rfl⟩
set_option maxRecDepth 100000 in
theorem cvX6_137 : CV RX6 137 RX6 yX6_pair iX6_pair 1 := ⟨⟨gw_at 860 (by decide +kernel) rfl, gw_at 862 (by decide +kernel) rfl, gw_at 23 (by decide +kernel) rfl, gw_at 86 (by decide +kernel) rfl, wkX6_pair⟩, (by decide +kernel), rfl, rfl⟩
set_option maxRecDepth 100000 in
theorem cvX6_140 : CV RX6 140 RX6 yX6_firstRegister iX6_firstRegister 0 := ⟨⟨gw_at 836 (by decide +kernel) rfl, gw_at 838 (by decide +kernel) rfl, gw_at 20 (by decide +kernel) rfl, gw_at 86 (by decide +kernel) rfl, wkX6_firstRegister⟩, (by decide +kernel), rfl, rfl⟩
set_option maxRecDepth 100000 in
theorem cvX6_143 : CV RX6 143 RX7 yX7_sees iX7_sees 1 := ⟨⟨gw_at 864 (by decide +kernel) rfl, gw_at 769 (by decide +kernel) rfl, gw_at 770 (by decide +kernel) rfl, gw_at 87 (by decide +kernel) rfl, wkX7_sees⟩, (by decide +kernel), rfl, rfl⟩
set_option maxRecDepth 100000 in
theorem cvX6_146 : CV RX6 146 RX6 yX6_memory iX6_memory 1 := ⟨⟨gw_at 865 (by decide +kernel) rfl, gw_at 867 (by decide +kernel) rfl, gw_at 24 (by decide +kernel) rfl, gw_at 86 (by decide +kernel) rfl, wkX6_memory⟩, (by decide +kernel), rfl, rfl⟩
set_option maxRecDepth 100000 in
theorem cvX6_158 : CV RX6 158 RX6 yX6_list iX6_list 1 := ⟨⟨gw_at 870 (by decide +kernel) rfl, gw_at 872 (by decide +kernel) rfl, gw_at 25 (by decide +kernel) rfl, gw_at 86 (by decide +kernel) rfl, wkX6_list⟩, (by decide +kernel), rfl, rfl⟩
set_option maxRecDepth 100000 in
theorem cvX6_164 : CV RX6 164 RX6 yX6_exchanged iX6_exchanged 0 := ⟨⟨gw_at 877 (by decide +kernel) rfl, gw_at 879 (by decide +kernel) rfl, gw_at 26 (by decide +kernel) rfl, gw_at 86 (by decide +kernel) rfl, wkX6_exchanged⟩, (by decide +kernel), rfl, rfl⟩
set_option maxRecDepth 100000 in
theorem cvX6_167 : CV RX6 167 RX7 yX7_register iX7_register 0 := ⟨⟨gw_at 840 (by decide +kernel) rfl, gw_at 841 (by decide +kernel) rfl, gw_at 842 (by decide +kernel) rfl, gw_at 87 (by decide +kernel) rfl, wkX7_register⟩, (by decide +kernel), rfl, rfl⟩
set_option maxRecDepth 100000 in
theorem cvX6_170 : CV RX6 170 RX7 yX7_expect iX7_expect 1 := ⟨⟨gw_at 848 (by decide +kernel) rfl, gw_at 849 (by decide +kernel) rfl, gw_at 850 (by decide +kernel) rfl, gw_at 87 (by decide +kernel) rfl, wkX7_expect⟩, (by decide +kernel), rfl, rfl⟩
set_option maxRecDepth 100000 in
theorem cvX6_174 : CV RX6 174 RX7 yX7_seenRegister iX7_seenRegister 0 := ⟨⟨gw_at 874 (by decide +kernel) rfl, gw_at 845 (by decide +kernel) rfl, gw_at 846 (by decide +kernel) rfl, gw_at 87 (by decide +kernel) rfl, wkX7_seenRegister⟩, (by decide +kernel), rfl, rfl⟩
set_option maxRecDepth 100000 in
theorem cvX6_177 : CV RX6 177 RX7 yX7_seesWord iX7_seesWord 1 := ⟨⟨gw_at 875 (by decide +kernel) rfl, gw_at 787 (by decide +kernel) rfl, gw_at 788 (by decide +kernel) rfl, gw_at 87 (by decide +kernel) rfl, wkX7_seesWord⟩, (by decide +kernel), rfl, rfl⟩
set_option maxRecDepth 100000 in
theorem cvX7_28 : CV RX7 28 RX7 yX7_step iX7_step 0 := ⟨⟨gw_at 739 (by decide +kernel) rfl, gw_at 740 (by decide +kernel) rfl, gw_at 741 (by decide +kernel) rfl, gw_at 87 (by decide +kernel) rfl, wkX7_step⟩, (by decide +kernel), rfl, rfl⟩
set_option maxRecDepth 100000 in
theorem cnX7_41 : CN RX7 41 yX11_isLetter iX11_isLetter 1 := ⟨⟨by decide, gw_at 744 (by decide +kernel) rfl, gw_at 82 (by decide +kernel) rfl, wkX11_isLetter⟩, (by decide +kernel), rfl, rfl⟩
set_option maxRecDepth 100000 in
theorem cnX7_45 : CN RX7 45 yX11_isDigit iX11_isDigit 1 := ⟨⟨by decide, gw_at 747 (by decide +kernel) rfl, gw_at 82 (by decide +kernel) rfl, wkX11_isDigit⟩, (by decide +kernel), rfl, rfl⟩
set_option maxRecDepth 100000 in
theorem cvX7_48 : CV RX7 48 RJ0 yJ0_length_8abf5 iJ0_length_8abf5 0 := ⟨⟨gw_at 790 (by decide +kernel) rfl, gw_at 553 (by decide +kernel) rfl, gw_at 554 (by decide +kernel) rfl, gw_at 101 (by decide +kernel) rfl, wkJ0_length_8abf5⟩, (by decide +kernel), rfl, rfl⟩
set_option maxRecDepth 100000 in
theorem cvX7_53 : CV RX7 53 RJ0 yJ0_charAt_5068e iJ0_charAt_5068e 1 := ⟨⟨gw_at 791 (by decide +kernel) rfl, gw_at 563 (by decide +kernel) rfl, gw_at 564 (by decide +kernel) rfl, gw_at 101 (by decide +kernel) rfl, wkJ0_charAt_5068e⟩, (by decide +kernel), rfl, rfl⟩
set_option maxRecDepth 100000 in
theorem cvX7_67 : CV RX7 67 RX7 yX7_seesWord iX7_seesWord 1 := ⟨⟨gw_at 786 (by decide +kernel) rfl, gw_at 787 (by decide +kernel) rfl, gw_at 788 (by decide +kernel) rfl, gw_at 87 (by decide +kernel) rfl, wkX7_seesWord⟩, (by decide +kernel), rfl, rfl⟩
set_option maxRecDepth 100000 in
theorem cvX7_71 : CV RX7 71 RX10 yX10_nameBetween iX10_nameBetween 2 := ⟨⟨gw_at 757 (by decide +kernel) rfl, gw_at 758 (by decide +kernel) rfl, gw_at 759 (by decide +kernel) rfl, gw_at 83 (by decide +kernel) rfl, wkX10_nameBetween⟩, (by decide +kernel), rfl, rfl⟩
set_option maxRecDepth 100000 in
theorem cvX7_75 : CV RX7 75 RX7 yX7_sees iX7_sees 1 := ⟨⟨gw_at 768 (by decide +kernel) rfl, gw_at 769 (by decide +kernel) rfl, gw_at 770 (by decide +kernel) rfl, gw_at 87 (by decide +kernel) rfl, wkX7_sees⟩, (by decide +kernel), rfl, rfl⟩
set_option maxRecDepth 100000 in
theorem cvX7_78 : CV RX7 78 RX7 yX7_accept iX7_accept 1 := ⟨⟨gw_at 822 (by decide +kernel) rfl, gw_at 765 (by decide +kernel) rfl, gw_at 766 (by decide +kernel) rfl, gw_at 87 (by decide +kernel) rfl, wkX7_accept⟩, (by decide +kernel), rfl, rfl⟩
set_option maxRecDepth 100000 in
theorem cvX7_81 : CV RX7 81 RX7 yX7_fail iX7_fail 2 := ⟨⟨gw_at 809 (by decide +kernel) rfl, gw_at 793 (by decide +kernel) rfl, gw_at 794 (by decide +kernel) rfl, gw_at 87 (by decide +kernel) rfl, wkX7_fail⟩, (by decide +kernel), rfl, rfl⟩
set_option maxRecDepth 100000 in
theorem cvX7_85 : CV RX7 85 RX7 yX7_seenRegister iX7_seenRegister 0 := ⟨⟨gw_at 844 (by decide +kernel) rfl, gw_at 845 (by decide +kernel) rfl, gw_at 846 (by decide +kernel) rfl, gw_at 87 (by decide +kernel) rfl, wkX7_seenRegister⟩, (by decide +kernel), rfl, rfl⟩
set_option maxRecDepth 100000 in
theorem cvX7_88 : CV RX7 88 RX7 yX7_seenName iX7_seenName 0 := ⟨⟨gw_at 808 (by decide +kernel) rfl, gw_at 754 (by decide +kernel) rfl, gw_at 755 (by decide +kernel) rfl, gw_at 87 (by decide +kernel) rfl, wkX7_seenName⟩, (by decide +kernel), rfl, rfl⟩
set_option maxRecDepth 100000 in
theorem cvX7_92 : CV RX7 92 RX7 yX7_digits iX7_digits 0 := ⟨⟨gw_at 823 (by decide +kernel) rfl, gw_at 824 (by decide +kernel) rfl, gw_at 825 (by decide +kernel) rfl, gw_at 87 (by decide +kernel) rfl, wkX7_digits⟩, (by decide +kernel), rfl, rfl⟩
set_option maxRecDepth 100000 in
theorem cnX10_19 : CN RX10 19 yX11_isLetter iX11_isLetter 1 := ⟨⟨by decide, gw_at 744 (by decide +kernel) rfl, gw_at 82 (by decide +kernel) rfl, wkX11_isLetter⟩, (by decide +kernel), rfl, rfl⟩
set_option maxRecDepth 100000 in
theorem cnX10_23 : CN RX10 23 yX11_isDigit iX11_isDigit 1 := ⟨⟨by decide, gw_at 747 (by decide +kernel) rfl, gw_at 82 (by decide +kernel) rfl, wkX11_isDigit⟩, (by decide +kernel), rfl, rfl⟩
set_option maxRecDepth 100000 in
theorem csX11_47 : CS RX11 47 yX10_charactersIn iX10_charactersIn 1 := ⟨⟨gw_at 626 (by decide +kernel) rfl, gw_at 627 (by decide +kernel) rfl, gw_at 83 (by decide +kernel) rfl, wkX10_charactersIn⟩, (by decide +kernel), rfl, rfl⟩
set_option maxRecDepth 100000 in
theorem cvX11_62 : CV RX11 62 RX10 yX10_appendFour iX10_appendFour 1 := ⟨⟨gw_at 695 (by decide +kernel) rfl, gw_at 696 (by decide +kernel) rfl, gw_at 697 (by decide +kernel) rfl, gw_at 83 (by decide +kernel) rfl, wkX10_appendFour⟩, (by decide +kernel), rfl, rfl⟩
set_option maxRecDepth 100000 in
theorem csX11_66 : CS RX11 66 yX11_isModule iX11_isModule 1 := ⟨⟨gw_at 707 (by decide +kernel) rfl, gw_at 708 (by decide +kernel) rfl, gw_at 82 (by decide +kernel) rfl, wkX11_isModule⟩, (by decide +kernel), rfl, rfl⟩
set_option maxRecDepth 100000 in
theorem cvX11_84 : CV RX11 84 RX6 yX6_parse iX6_parse 2 := ⟨⟨gw_at 727 (by decide +kernel) rfl, gw_at 728 (by decide +kernel) rfl, gw_at 729 (by decide +kernel) rfl, gw_at 86 (by decide +kernel) rfl, wkX6_parse⟩, (by decide +kernel), rfl, rfl⟩
set_option maxRecDepth 100000 in
theorem cvX11_90 : CV RX11 90 RX1 yX1_forget iX1_forget 0 := ⟨⟨gw_at 402 (by decide +kernel) rfl, gw_at 403 (by decide +kernel) rfl, gw_at 404 (by decide +kernel) rfl, gw_at 88 (by decide +kernel) rfl, wkX1_forget⟩, (by decide +kernel), rfl, rfl⟩
set_option maxRecDepth 100000 in
theorem cvX11_93 : CV RX11 93 RX0 yX0_clear iX0_clear 0 := ⟨⟨gw_at 406 (by decide +kernel) rfl, gw_at 407 (by decide +kernel) rfl, gw_at 408 (by decide +kernel) rfl, gw_at 89 (by decide +kernel) rfl, wkX0_clear⟩, (by decide +kernel), rfl, rfl⟩
set_option maxRecDepth 100000 in
theorem cvX11_96 : CV RX11 96 RX11 yX11_layOutLines iX11_layOutLines 0 := ⟨⟨gw_at 424 (by decide +kernel) rfl, gw_at 426 (by decide +kernel) rfl, gw_at 0 (by decide +kernel) rfl, gw_at 82 (by decide +kernel) rfl, wkX11_layOutLines⟩, (by decide +kernel), rfl, rfl⟩
set_option maxRecDepth 100000 in
theorem cvX11_100 : CV RX11 100 RX11 yX11_tellGlobals iX11_tellGlobals 0 := ⟨⟨gw_at 444 (by decide +kernel) rfl, gw_at 446 (by decide +kernel) rfl, gw_at 1 (by decide +kernel) rfl, gw_at 82 (by decide +kernel) rfl, wkX11_tellGlobals⟩, (by decide +kernel), rfl, rfl⟩
set_option maxRecDepth 100000 in
theorem cvX11_103 : CV RX11 103 RX11 yX11_findRoom iX11_findRoom 0 := ⟨⟨gw_at 457 (by decide +kernel) rfl, gw_at 459 (by decide +kernel) rfl, gw_at 2 (by decide +kernel) rfl, gw_at 82 (by decide +kernel) rfl, wkX11_findRoom⟩, (by decide +kernel), rfl, rfl⟩
set_option maxRecDepth 100000 in
theorem cvX11_106 : CV RX11 106 RX11 yX11_writeLines iX11_writeLines 0 := ⟨⟨gw_at 473 (by decide +kernel) rfl, gw_at 475 (by decide +kernel) rfl, gw_at 4 (by decide +kernel) rfl, gw_at 82 (by decide +kernel) rfl, wkX11_writeLines⟩, (by decide +kernel), rfl, rfl⟩
set_option maxRecDepth 100000 in
theorem cvX11_109 : CV RX11 109 RX11 yX11_writeVectors iX11_writeVectors 0 := ⟨⟨gw_at 526 (by decide +kernel) rfl, gw_at 528 (by decide +kernel) rfl, gw_at 9 (by decide +kernel) rfl, gw_at 82 (by decide +kernel) rfl, wkX11_writeVectors⟩, (by decide +kernel), rfl, rfl⟩
set_option maxRecDepth 100000 in
theorem cvX11_133 : CV RX11 133 RX2 yX2_byteAt iX2_byteAt 1 := ⟨⟨gw_at 539 (by decide +kernel) rfl, gw_at 540 (by decide +kernel) rfl, gw_at 541 (by decide +kernel) rfl, gw_at 92 (by decide +kernel) rfl, wkX2_byteAt⟩, (by decide +kernel), rfl, rfl⟩
set_option maxRecDepth 100000 in
theorem cvX11_136 : CV RX11 136 RX2 yX2_recordCharacter iX2_recordCharacter 1 := ⟨⟨gw_at 547 (by decide +kernel) rfl, gw_at 548 (by decide +kernel) rfl, gw_at 549 (by decide +kernel) rfl, gw_at 92 (by decide +kernel) rfl, wkX2_recordCharacter⟩, (by decide +kernel), rfl, rfl⟩
set_option maxRecDepth 100000 in
theorem cvX11_144 : CV RX11 144 RX10 yX10_nameBetween iX10_nameBetween 2 := ⟨⟨gw_at 911 (by decide +kernel) rfl, gw_at 758 (by decide +kernel) rfl, gw_at 759 (by decide +kernel) rfl, gw_at 83 (by decide +kernel) rfl, wkX10_nameBetween⟩, (by decide +kernel), rfl, rfl⟩
set_option maxRecDepth 100000 in
theorem cvX11_148 : CV RX11 148 RX3 yX3_find iX3_find 2 := ⟨⟨gw_at 428 (by decide +kernel) rfl, gw_at 429 (by decide +kernel) rfl, gw_at 430 (by decide +kernel) rfl, gw_at 90 (by decide +kernel) rfl, wkX3_find⟩, (by decide +kernel), rfl, rfl⟩
set_option maxRecDepth 100000 in
theorem cvX11_154 : CV RX11 154 RX0 yX0_addressOf iX0_addressOf 1 := ⟨⟨gw_at 534 (by decide +kernel) rfl, gw_at 492 (by decide +kernel) rfl, gw_at 493 (by decide +kernel) rfl, gw_at 89 (by decide +kernel) rfl, wkX0_addressOf⟩, (by decide +kernel), rfl, rfl⟩
set_option maxRecDepth 100000 in
theorem cvX11_178 : CV RX11 178 RX1 yX1_tell iX1_tell 4 := ⟨⟨gw_at 432 (by decide +kernel) rfl, gw_at 433 (by decide +kernel) rfl, gw_at 434 (by decide +kernel) rfl, gw_at 88 (by decide +kernel) rfl, wkX1_tell⟩, (by decide +kernel), rfl, rfl⟩
set_option maxRecDepth 100000 in
theorem cvX11_188 : CV RX11 188 RX0 yX0_layOut iX0_layOut 3 := ⟨⟨gw_at 436 (by decide +kernel) rfl, gw_at 437 (by decide +kernel) rfl, gw_at 438 (by decide +kernel) rfl, gw_at 89 (by decide +kernel) rfl, wkX0_layOut⟩, (by decide +kernel), rfl, rfl⟩
set_option maxRecDepth 100000 in
theorem cvX11_200 : CV RX11 200 RX3 yX3_makeGlobal iX3_makeGlobal 2 := ⟨⟨gw_at 448 (by decide +kernel) rfl, gw_at 449 (by decide +kernel) rfl, gw_at 450 (by decide +kernel) rfl, gw_at 90 (by decide +kernel) rfl, wkX3_makeGlobal⟩, (by decide +kernel), rfl, rfl⟩
set_option maxRecDepth 100000 in
theorem cvX11_206 : CV RX11 206 RX4 yX4_arrange iX4_arrange 0 := ⟨⟨gw_at 461 (by decide +kernel) rfl, gw_at 462 (by decide +kernel) rfl, gw_at 463 (by decide +kernel) rfl, gw_at 91 (by decide +kernel) rfl, wkX4_arrange⟩, (by decide +kernel), rfl, rfl⟩
set_option maxRecDepth 100000 in
theorem cvX11_209 : CV RX11 209 RX0 yX0_write iX0_write 2 := ⟨⟨gw_at 477 (by decide +kernel) rfl, gw_at 478 (by decide +kernel) rfl, gw_at 479 (by decide +kernel) rfl, gw_at 89 (by decide +kernel) rfl, wkX0_write⟩, (by decide +kernel), rfl, rfl⟩
set_option maxRecDepth 100000 in
theorem cvX11_215 : CV RX11 215 RX3 yX3_findGlobal iX3_findGlobal 1 := ⟨⟨gw_at 531 (by decide +kernel) rfl, gw_at 454 (by decide +kernel) rfl, gw_at 455 (by decide +kernel) rfl, gw_at 90 (by decide +kernel) rfl, wkX3_findGlobal⟩, (by decide +kernel), rfl, rfl⟩
set_option maxRecDepth 100000 in
theorem cvX11_224 : CV RX11 224 RX2 yX2_putWord iX2_putWord 2 := ⟨⟨gw_at 533 (by decide +kernel) rfl, gw_at 496 (by decide +kernel) rfl, gw_at 497 (by decide +kernel) rfl, gw_at 92 (by decide +kernel) rfl, wkX2_putWord⟩, (by decide +kernel), rfl, rfl⟩
set_option maxRecDepth 100000 in
theorem cvX12_69 : CV RX12 69 RX12 yX12_forget iX12_forget 0 := ⟨⟨gw_at 926 (by decide +kernel) rfl, gw_at 928 (by decide +kernel) rfl, gw_at 27 (by decide +kernel) rfl, gw_at 93 (by decide +kernel) rfl, wkX12_forget⟩, (by decide +kernel), rfl, rfl⟩
set_option maxRecDepth 100000 in
theorem cvX12_79 : CV RX12 79 RX12 yX12_put iX12_put 2 := ⟨⟨gw_at 1059 (by decide +kernel) rfl, gw_at 1061 (by decide +kernel) rfl, gw_at 28 (by decide +kernel) rfl, gw_at 93 (by decide +kernel) rfl, wkX12_put⟩, (by decide +kernel), rfl, rfl⟩
set_option maxRecDepth 100000 in
theorem cvX12_83 : CV RX12 83 RX12 yX12_refused iX12_refused 1 := ⟨⟨gw_at 1063 (by decide +kernel) rfl, gw_at 1065 (by decide +kernel) rfl, gw_at 29 (by decide +kernel) rfl, gw_at 93 (by decide +kernel) rfl, wkX12_refused⟩, (by decide +kernel), rfl, rfl⟩
set_option maxRecDepth 100000 in
theorem csX12_87 : CS RX12 87 yX12_isModule iX12_isModule 1 := ⟨⟨gw_at 1075 (by decide +kernel) rfl, gw_at 1076 (by decide +kernel) rfl, gw_at 93 (by decide +kernel) rfl, wkX12_isModule⟩, (by decide +kernel), rfl, rfl⟩
set_option maxRecDepth 100000 in
theorem cvX12_90 : CV RX12 90 RX12 yX12_store iX12_store 1 := ⟨⟨gw_at 1078 (by decide +kernel) rfl, gw_at 1080 (by decide +kernel) rfl, gw_at 30 (by decide +kernel) rfl, gw_at 93 (by decide +kernel) rfl, wkX12_store⟩, (by decide +kernel), rfl, rfl⟩
set_option maxRecDepth 100000 in
theorem csX12_109 : CS RX12 109 yX12_isSmall iX12_isSmall 1 := ⟨⟨gw_at 1110 (by decide +kernel) rfl, gw_at 1111 (by decide +kernel) rfl, gw_at 93 (by decide +kernel) rfl, wkX12_isSmall⟩, (by decide +kernel), rfl, rfl⟩
set_option maxRecDepth 100000 in
theorem csX12_113 : CS RX12 113 yX12_isDigit iX12_isDigit 1 := ⟨⟨gw_at 1116 (by decide +kernel) rfl, gw_at 1117 (by decide +kernel) rfl, gw_at 93 (by decide +kernel) rfl, wkX12_isDigit⟩, (by decide +kernel), rfl, rfl⟩
set_option maxRecDepth 100000 in
theorem cvX12_116 : CV RX12 116 RX12 yX12_next iX12_next 0 := ⟨⟨gw_at 1102 (by decide +kernel) rfl, gw_at 1104 (by decide +kernel) rfl, gw_at 33 (by decide +kernel) rfl, gw_at 93 (by decide +kernel) rfl, wkX12_next⟩, (by decide +kernel), rfl, rfl⟩
set_option maxRecDepth 100000 in
theorem cvX12_120 : CV RX12 120 RX12 yX12_takes iX12_takes 1 := ⟨⟨gw_at 1165 (by decide +kernel) rfl, gw_at 1167 (by decide +kernel) rfl, gw_at 45 (by decide +kernel) rfl, gw_at 93 (by decide +kernel) rfl, wkX12_takes⟩, (by decide +kernel), rfl, rfl⟩
set_option maxRecDepth 100000 in
theorem cvX12_123 : CV RX12 123 RX12 yX12_wrong iX12_wrong 2 := ⟨⟨gw_at 1131 (by decide +kernel) rfl, gw_at 1133 (by decide +kernel) rfl, gw_at 38 (by decide +kernel) rfl, gw_at 93 (by decide +kernel) rfl, wkX12_wrong⟩, (by decide +kernel), rfl, rfl⟩
set_option maxRecDepth 100000 in
theorem csX12_126 : CS RX12 126 yX12_isWordSign iX12_isWordSign 1 := ⟨⟨gw_at 1113 (by decide +kernel) rfl, gw_at 1114 (by decide +kernel) rfl, gw_at 93 (by decide +kernel) rfl, wkX12_isWordSign⟩, (by decide +kernel), rfl, rfl⟩
set_option maxRecDepth 100000 in
theorem cvX12_131 : CV RX12 131 RX12 yX12_wordEnd iX12_wordEnd 0 := ⟨⟨gw_at 1106 (by decide +kernel) rfl, gw_at 1108 (by decide +kernel) rfl, gw_at 34 (by decide +kernel) rfl, gw_at 93 (by decide +kernel) rfl, wkX12_wordEnd⟩, (by decide +kernel), rfl, rfl⟩
set_option maxRecDepth 100000 in
theorem cvX12_135 : CV RX12 135 RX12 yX12_digits iX12_digits 0 := ⟨⟨gw_at 1161 (by decide +kernel) rfl, gw_at 1163 (by decide +kernel) rfl, gw_at 44 (by decide +kernel) rfl, gw_at 93 (by decide +kernel) rfl, wkX12_digits⟩, (by decide +kernel), rfl, rfl⟩
set_option maxRecDepth 100000 in
theorem cvX12_138 : CV RX12 138 RX12 yX12_isName iX12_isName 2 := ⟨⟨gw_at 1119 (by decide +kernel) rfl, gw_at 1121 (by decide +kernel) rfl, gw_at 35 (by decide +kernel) rfl, gw_at 93 (by decide +kernel) rfl, wkX12_isName⟩, (by decide +kernel), rfl, rfl⟩
set_option maxRecDepth 100000 in
theorem cvX12_148 : CV RX12 148 RX12 yX12_want iX12_want 1 := ⟨⟨gw_at 1191 (by decide +kernel) rfl, gw_at 1193 (by decide +kernel) rfl, gw_at 50 (by decide +kernel) rfl, gw_at 93 (by decide +kernel) rfl, wkX12_want⟩, (by decide +kernel), rfl, rfl⟩
set_option maxRecDepth 100000 in
theorem cvX12_152 : CV RX12 152 RX12 yX12_readNumber iX12_readNumber 3 := ⟨⟨gw_at 1157 (by decide +kernel) rfl, gw_at 1159 (by decide +kernel) rfl, gw_at 43 (by decide +kernel) rfl, gw_at 93 (by decide +kernel) rfl, wkX12_readNumber⟩, (by decide +kernel), rfl, rfl⟩
set_option maxRecDepth 100000 in
theorem cvX12_162 : CV RX12 162 RX12 yX12_register iX12_register 0 := ⟨⟨gw_at 1187 (by decide +kernel) rfl, gw_at 1189 (by decide +kernel) rfl, gw_at 49 (by decide +kernel) rfl, gw_at 93 (by decide +kernel) rfl, wkX12_register⟩, (by decide +kernel), rfl, rfl⟩
set_option maxRecDepth 100000 in
theorem cvX12_165 : CV RX12 165 RX12 yX12_plain iX12_plain 1 := ⟨⟨gw_at 1178 (by decide +kernel) rfl, gw_at 1180 (by decide +kernel) rfl, gw_at 47 (by decide +kernel) rfl, gw_at 93 (by decide +kernel) rfl, wkX12_plain⟩, (by decide +kernel), rfl, rfl⟩
set_option maxRecDepth 100000 in
theorem cvX12_168 : CV RX12 168 RX12 yX12_immediate iX12_immediate 3 := ⟨⟨gw_at 1195 (by decide +kernel) rfl, gw_at 1197 (by decide +kernel) rfl, gw_at 51 (by decide +kernel) rfl, gw_at 93 (by decide +kernel) rfl, wkX12_immediate⟩, (by decide +kernel), rfl, rfl⟩
set_option maxRecDepth 100000 in
theorem cvX12_171 : CV RX12 171 RX12 yX12_readName iX12_readName 0 := ⟨⟨gw_at 1148 (by decide +kernel) rfl, gw_at 1150 (by decide +kernel) rfl, gw_at 41 (by decide +kernel) rfl, gw_at 93 (by decide +kernel) rfl, wkX12_readName⟩, (by decide +kernel), rfl, rfl⟩
set_option maxRecDepth 100000 in
theorem cvX12_174 : CV RX12 174 RX12 yX12_isWord iX12_isWord 3 := ⟨⟨gw_at 1140 (by decide +kernel) rfl, gw_at 1142 (by decide +kernel) rfl, gw_at 40 (by decide +kernel) rfl, gw_at 93 (by decide +kernel) rfl, wkX12_isWord⟩, (by decide +kernel), rfl, rfl⟩
set_option maxRecDepth 100000 in
theorem cvX12_188 : CV RX12 188 RX12 yX12_word iX12_word 0 := ⟨⟨gw_at 1153 (by decide +kernel) rfl, gw_at 1155 (by decide +kernel) rfl, gw_at 42 (by decide +kernel) rfl, gw_at 93 (by decide +kernel) rfl, wkX12_word⟩, (by decide +kernel), rfl, rfl⟩
set_option maxRecDepth 100000 in
theorem cvX12_205 : CV RX12 205 RX12 yX12_oneOrNumber iX12_oneOrNumber 2 := ⟨⟨gw_at 1183 (by decide +kernel) rfl, gw_at 1185 (by decide +kernel) rfl, gw_at 48 (by decide +kernel) rfl, gw_at 93 (by decide +kernel) rfl, wkX12_oneOrNumber⟩, (by decide +kernel), rfl, rfl⟩
set_option maxRecDepth 100000 in
theorem cvX12_212 : CV RX12 212 RX12 yX12_sums iX12_sums 2 := ⟨⟨gw_at 1201 (by decide +kernel) rfl, gw_at 1203 (by decide +kernel) rfl, gw_at 52 (by decide +kernel) rfl, gw_at 93 (by decide +kernel) rfl, wkX12_sums⟩, (by decide +kernel), rfl, rfl⟩
set_option maxRecDepth 100000 in
theorem cvX12_219 : CV RX12 219 RX12 yX12_shifts iX12_shifts 3 := ⟨⟨gw_at 1207 (by decide +kernel) rfl, gw_at 1209 (by decide +kernel) rfl, gw_at 53 (by decide +kernel) rfl, gw_at 93 (by decide +kernel) rfl, wkX12_shifts⟩, (by decide +kernel), rfl, rfl⟩
set_option maxRecDepth 100000 in
theorem cvX12_227 : CV RX12 227 RX12 yX12_pairOf iX12_pairOf 2 := ⟨⟨gw_at 1213 (by decide +kernel) rfl, gw_at 1215 (by decide +kernel) rfl, gw_at 54 (by decide +kernel) rfl, gw_at 93 (by decide +kernel) rfl, wkX12_pairOf⟩, (by decide +kernel), rfl, rfl⟩
set_option maxRecDepth 100000 in
theorem cvX12_231 : CV RX12 231 RX12 yX12_two iX12_two 1 := ⟨⟨gw_at 1227 (by decide +kernel) rfl, gw_at 1229 (by decide +kernel) rfl, gw_at 55 (by decide +kernel) rfl, gw_at 93 (by decide +kernel) rfl, wkX12_two⟩, (by decide +kernel), rfl, rfl⟩
set_option maxRecDepth 100000 in
theorem cvX12_256 : CV RX12 256 RX12 yX12_memory iX12_memory 3 := ⟨⟨gw_at 1236 (by decide +kernel) rfl, gw_at 1238 (by decide +kernel) rfl, gw_at 57 (by decide +kernel) rfl, gw_at 93 (by decide +kernel) rfl, wkX12_memory⟩, (by decide +kernel), rfl, rfl⟩
set_option maxRecDepth 100000 in
theorem cvX12_271 : CV RX12 271 RX12 yX12_listed iX12_listed 2 := ⟨⟨gw_at 1246 (by decide +kernel) rfl, gw_at 1248 (by decide +kernel) rfl, gw_at 58 (by decide +kernel) rfl, gw_at 93 (by decide +kernel) rfl, wkX12_listed⟩, (by decide +kernel), rfl, rfl⟩
set_option maxRecDepth 100000 in
theorem cvX12_283 : CV RX12 283 RX12 yX12_jump iX12_jump 2 := ⟨⟨gw_at 1255 (by decide +kernel) rfl, gw_at 1257 (by decide +kernel) rfl, gw_at 59 (by decide +kernel) rfl, gw_at 93 (by decide +kernel) rfl, wkX12_jump⟩, (by decide +kernel), rfl, rfl⟩
set_option maxRecDepth 100000 in
theorem cvX12_290 : CV RX12 290 RX12 yX12_condition iX12_condition 2 := ⟨⟨gw_at 1261 (by decide +kernel) rfl, gw_at 1263 (by decide +kernel) rfl, gw_at 60 (by decide +kernel) rfl, gw_at 93 (by decide +kernel) rfl, wkX12_condition⟩, (by decide +kernel), rfl, rfl⟩
set_option maxRecDepth 100000 in
theorem cvX12_300 : CV RX12 300 RX12 yX12_labelOf iX12_labelOf 4 := ⟨⟨gw_at 1127 (by decide +kernel) rfl, gw_at 1129 (by decide +kernel) rfl, gw_at 37 (by decide +kernel) rfl, gw_at 93 (by decide +kernel) rfl, wkX12_labelOf⟩, (by decide +kernel), rfl, rfl⟩
set_option maxRecDepth 100000 in
theorem cvX12_307 : CV RX12 307 RX12 yX12_isTwice iX12_isTwice 1 := ⟨⟨gw_at 1123 (by decide +kernel) rfl, gw_at 1125 (by decide +kernel) rfl, gw_at 36 (by decide +kernel) rfl, gw_at 93 (by decide +kernel) rfl, wkX12_isTwice⟩, (by decide +kernel), rfl, rfl⟩
set_option maxRecDepth 100000 in
theorem cvX12_310 : CV RX12 310 RX12 yX12_directive iX12_directive 2 := ⟨⟨gw_at 1135 (by decide +kernel) rfl, gw_at 1137 (by decide +kernel) rfl, gw_at 39 (by decide +kernel) rfl, gw_at 93 (by decide +kernel) rfl, wkX12_directive⟩, (by decide +kernel), rfl, rfl⟩
set_option maxRecDepth 100000 in
theorem cvX12_313 : CV RX12 313 RX12 yX12_simple iX12_simple 2 := ⟨⟨gw_at 1172 (by decide +kernel) rfl, gw_at 1174 (by decide +kernel) rfl, gw_at 46 (by decide +kernel) rfl, gw_at 93 (by decide +kernel) rfl, wkX12_simple⟩, (by decide +kernel), rfl, rfl⟩
set_option maxRecDepth 100000 in
theorem cvX12_316 : CV RX12 316 RX12 yX12_other iX12_other 2 := ⟨⟨gw_at 1231 (by decide +kernel) rfl, gw_at 1233 (by decide +kernel) rfl, gw_at 56 (by decide +kernel) rfl, gw_at 93 (by decide +kernel) rfl, wkX12_other⟩, (by decide +kernel), rfl, rfl⟩
set_option maxRecDepth 100000 in
theorem cvX12_328 : CV RX12 328 RX12 yX12_putByte iX12_putByte 2 := ⟨⟨gw_at 1278 (by decide +kernel) rfl, gw_at 1280 (by decide +kernel) rfl, gw_at 64 (by decide +kernel) rfl, gw_at 93 (by decide +kernel) rfl, wkX12_putByte⟩, (by decide +kernel), rfl, rfl⟩
set_option maxRecDepth 100000 in
theorem cvX12_331 : CV RX12 331 RX12 yX12_putMany iX12_putMany 3 := ⟨⟨gw_at 1282 (by decide +kernel) rfl, gw_at 1284 (by decide +kernel) rfl, gw_at 65 (by decide +kernel) rfl, gw_at 93 (by decide +kernel) rfl, wkX12_putMany⟩, (by decide +kernel), rfl, rfl⟩
set_option maxRecDepth 100000 in
theorem cvX12_334 : CV RX12 334 RX12 yX12_read iX12_read 3 := ⟨⟨gw_at 1098 (by decide +kernel) rfl, gw_at 1100 (by decide +kernel) rfl, gw_at 32 (by decide +kernel) rfl, gw_at 93 (by decide +kernel) rfl, wkX12_read⟩, (by decide +kernel), rfl, rfl⟩
set_option maxRecDepth 100000 in
theorem cvX12_337 : CV RX12 337 RX12 yX12_report iX12_report 4 := ⟨⟨gw_at 1266 (by decide +kernel) rfl, gw_at 1268 (by decide +kernel) rfl, gw_at 61 (by decide +kernel) rfl, gw_at 93 (by decide +kernel) rfl, wkX12_report⟩, (by decide +kernel), rfl, rfl⟩
set_option maxRecDepth 100000 in
theorem cvX12_340 : CV RX12 340 RX12 yX12_addLabel iX12_addLabel 1 := ⟨⟨gw_at 1270 (by decide +kernel) rfl, gw_at 1272 (by decide +kernel) rfl, gw_at 62 (by decide +kernel) rfl, gw_at 93 (by decide +kernel) rfl, wkX12_addLabel⟩, (by decide +kernel), rfl, rfl⟩
set_option maxRecDepth 100000 in
theorem cvX12_343 : CV RX12 343 RX12 yX12_lay iX12_lay 1 := ⟨⟨gw_at 1274 (by decide +kernel) rfl, gw_at 1276 (by decide +kernel) rfl, gw_at 63 (by decide +kernel) rfl, gw_at 93 (by decide +kernel) rfl, wkX12_lay⟩, (by decide +kernel), rfl, rfl⟩
set_option maxRecDepth 100000 in
theorem cvX12_347 : CV RX12 347 RX12 yX12_globalOf iX12_globalOf 2 := ⟨⟨gw_at 1294 (by decide +kernel) rfl, gw_at 1296 (by decide +kernel) rfl, gw_at 68 (by decide +kernel) rfl, gw_at 93 (by decide +kernel) rfl, wkX12_globalOf⟩, (by decide +kernel), rfl, rfl⟩
set_option maxRecDepth 100000 in
theorem cvX12_350 : CV RX12 350 RX12 yX12_isGlobalName iX12_isGlobalName 2 := ⟨⟨gw_at 1290 (by decide +kernel) rfl, gw_at 1292 (by decide +kernel) rfl, gw_at 67 (by decide +kernel) rfl, gw_at 93 (by decide +kernel) rfl, wkX12_isGlobalName⟩, (by decide +kernel), rfl, rfl⟩
set_option maxRecDepth 100000 in
theorem csX12_353 : CS RX12 353 yX12_up iX12_up 1 := ⟨⟨gw_at 1302 (by decide +kernel) rfl, gw_at 1303 (by decide +kernel) rfl, gw_at 93 (by decide +kernel) rfl, wkX12_up⟩, (by decide +kernel), rfl, rfl⟩
set_option maxRecDepth 100000 in
theorem cvX12_356 : CV RX12 356 RX12 yX12_addressOf iX12_addressOf 1 := ⟨⟨gw_at 1315 (by decide +kernel) rfl, gw_at 1317 (by decide +kernel) rfl, gw_at 72 (by decide +kernel) rfl, gw_at 93 (by decide +kernel) rfl, wkX12_addressOf⟩, (by decide +kernel), rfl, rfl⟩
set_option maxRecDepth 100000 in
theorem cvX12_359 : CV RX12 359 RX12 yX12_setHalf iX12_setHalf 3 := ⟨⟨gw_at 1319 (by decide +kernel) rfl, gw_at 1321 (by decide +kernel) rfl, gw_at 73 (by decide +kernel) rfl, gw_at 93 (by decide +kernel) rfl, wkX12_setHalf⟩, (by decide +kernel), rfl, rfl⟩
set_option maxRecDepth 100000 in
theorem cvX12_365 : CV RX12 365 RX12 yX12_resolve iX12_resolve 4 := ⟨⟨gw_at 1311 (by decide +kernel) rfl, gw_at 1313 (by decide +kernel) rfl, gw_at 71 (by decide +kernel) rfl, gw_at 93 (by decide +kernel) rfl, wkX12_resolve⟩, (by decide +kernel), rfl, rfl⟩
set_option maxRecDepth 100000 in
theorem cvX12_369 : CV RX12 369 RX12 yX12_sizeOf iX12_sizeOf 1 := ⟨⟨gw_at 1326 (by decide +kernel) rfl, gw_at 1328 (by decide +kernel) rfl, gw_at 74 (by decide +kernel) rfl, gw_at 93 (by decide +kernel) rfl, wkX12_sizeOf⟩, (by decide +kernel), rfl, rfl⟩
set_option maxRecDepth 100000 in
theorem cvX12_372 : CV RX12 372 RX12 yX12_firstPass iX12_firstPass 0 := ⟨⟨gw_at 1094 (by decide +kernel) rfl, gw_at 1096 (by decide +kernel) rfl, gw_at 31 (by decide +kernel) rfl, gw_at 93 (by decide +kernel) rfl, wkX12_firstPass⟩, (by decide +kernel), rfl, rfl⟩
set_option maxRecDepth 100000 in
theorem cvX12_375 : CV RX12 375 RX12 yX12_secondPass iX12_secondPass 0 := ⟨⟨gw_at 1286 (by decide +kernel) rfl, gw_at 1288 (by decide +kernel) rfl, gw_at 66 (by decide +kernel) rfl, gw_at 93 (by decide +kernel) rfl, wkX12_secondPass⟩, (by decide +kernel), rfl, rfl⟩
set_option maxRecDepth 100000 in
theorem cvX12_378 : CV RX12 378 RX12 yX12_place iX12_place 3 := ⟨⟨gw_at 1298 (by decide +kernel) rfl, gw_at 1300 (by decide +kernel) rfl, gw_at 69 (by decide +kernel) rfl, gw_at 93 (by decide +kernel) rfl, wkX12_place⟩, (by decide +kernel), rfl, rfl⟩
set_option maxRecDepth 100000 in
theorem cvX12_384 : CV RX12 384 RX12 yX12_thirdPass iX12_thirdPass 0 := ⟨⟨gw_at 1307 (by decide +kernel) rfl, gw_at 1309 (by decide +kernel) rfl, gw_at 70 (by decide +kernel) rfl, gw_at 93 (by decide +kernel) rfl, wkX12_thirdPass⟩, (by decide +kernel), rfl, rfl⟩
set_option maxRecDepth 100000 in
theorem cvX12_387 : CV RX12 387 RX12 yX12_mainAddress iX12_mainAddress 0 := ⟨⟨gw_at 1330 (by decide +kernel) rfl, gw_at 1332 (by decide +kernel) rfl, gw_at 75 (by decide +kernel) rfl, gw_at 93 (by decide +kernel) rfl, wkX12_mainAddress⟩, (by decide +kernel), rfl, rfl⟩
set_option maxRecDepth 100000 in
theorem cvX12_390 : CV RX12 390 RX12 yX12_finish iX12_finish 2 := ⟨⟨gw_at 1334 (by decide +kernel) rfl, gw_at 1336 (by decide +kernel) rfl, gw_at 76 (by decide +kernel) rfl, gw_at 93 (by decide +kernel) rfl, wkX12_finish⟩, (by decide +kernel), rfl, rfl⟩
set_option maxRecDepth 100000 in
theorem cvX12_396 : CV RX12 396 RX12 yX12_setWord iX12_setWord 2 := ⟨⟨gw_at 1338 (by decide +kernel) rfl, gw_at 1340 (by decide +kernel) rfl, gw_at 77 (by decide +kernel) rfl, gw_at 93 (by decide +kernel) rfl, wkX12_setWord⟩, (by decide +kernel), rfl, rfl⟩
set_option maxRecDepth 100000 in
theorem cvX12_399 : CV RX12 399 RX12 yX12_write iX12_write 0 := ⟨⟨gw_at 1342 (by decide +kernel) rfl, gw_at 1344 (by decide +kernel) rfl, gw_at 78 (by decide +kernel) rfl, gw_at 93 (by decide +kernel) rfl, wkX12_write⟩, (by decide +kernel), rfl, rfl⟩
set_option maxRecDepth 100000 in
theorem cvX12_408 : CV RX12 408 RX12 yX12_putHex iX12_putHex 1 := ⟨⟨gw_at 1350 (by decide +kernel) rfl, gw_at 1352 (by decide +kernel) rfl, gw_at 80 (by decide +kernel) rfl, gw_at 93 (by decide +kernel) rfl, wkX12_putHex⟩, (by decide +kernel), rfl, rfl⟩
set_option maxRecDepth 100000 in
theorem cvX12_411 : CV RX12 411 RX12 yX12_record iX12_record 4 := ⟨⟨gw_at 1346 (by decide +kernel) rfl, gw_at 1348 (by decide +kernel) rfl, gw_at 79 (by decide +kernel) rfl, gw_at 93 (by decide +kernel) rfl, wkX12_record⟩, (by decide +kernel), rfl, rfl⟩
set_option maxRecDepth 100000 in
theorem csX12_415 : CS RX12 415 yX12_isIn iX12_isIn 3 := ⟨⟨gw_at 1358 (by decide +kernel) rfl, gw_at 1359 (by decide +kernel) rfl, gw_at 93 (by decide +kernel) rfl, wkX12_isIn⟩, (by decide +kernel), rfl, rfl⟩
set_option maxRecDepth 100000 in
theorem cvJ0_335 : CV RJ0 335 RJ0 yJ0_coder_7d493 iJ0_coder_7d493 0 := ⟨⟨gw_at 556 (by decide +kernel) rfl, gw_at 557 (by decide +kernel) rfl, gw_at 558 (by decide +kernel) rfl, gw_at 101 (by decide +kernel) rfl, wkJ0_coder_7d493⟩, (by decide +kernel), rfl, rfl⟩
set_option maxRecDepth 100000 in
theorem cvJ0_492 : CV RJ0 492 RJ0 yJ0_isLatin1_aae02 iJ0_isLatin1_aae02 0 := ⟨⟨gw_at 566 (by decide +kernel) rfl, gw_at 567 (by decide +kernel) rfl, gw_at 568 (by decide +kernel) rfl, gw_at 101 (by decide +kernel) rfl, wkJ0_isLatin1_aae02⟩, (by decide +kernel), rfl, rfl⟩
set_option maxRecDepth 100000 in
theorem csJ0_495 : CS RJ0 495 yJ1_charAt_3b067 iJ1_charAt_3b067 2 := ⟨⟨gw_at 570 (by decide +kernel) rfl, gw_at 571 (by decide +kernel) rfl, gw_at 102 (by decide +kernel) rfl, wkJ1_charAt_3b067⟩, (by decide +kernel), rfl, rfl⟩
set_option maxRecDepth 100000 in
theorem csJ0_498 : CS RJ0 498 yJ2_charAt_3b067 iJ2_charAt_3b067 2 := ⟨⟨gw_at 581 (by decide +kernel) rfl, gw_at 582 (by decide +kernel) rfl, gw_at 104 (by decide +kernel) rfl, wkJ2_charAt_3b067⟩, (by decide +kernel), rfl, rfl⟩
set_option maxRecDepth 100000 in
theorem csJ0_1059 : CS RJ0 1059 yJ3_checkIndex_8e157 iJ3_checkIndex_8e157 3 := ⟨⟨gw_at 578 (by decide +kernel) rfl, gw_at 579 (by decide +kernel) rfl, gw_at 103 (by decide +kernel) rfl, wkJ3_checkIndex_8e157⟩, (by decide +kernel), rfl, rfl⟩
set_option maxRecDepth 100000 in
theorem csJ1_9 : CS RJ1 9 yJ0_checkIndex_df160 iJ0_checkIndex_df160 2 := ⟨⟨gw_at 573 (by decide +kernel) rfl, gw_at 574 (by decide +kernel) rfl, gw_at 101 (by decide +kernel) rfl, wkJ0_checkIndex_df160⟩, (by decide +kernel), rfl, rfl⟩
set_option maxRecDepth 100000 in
theorem csJ2_48 : CS RJ2 48 yJ2_length_9d52b iJ2_length_9d52b 1 := ⟨⟨gw_at 587 (by decide +kernel) rfl, gw_at 588 (by decide +kernel) rfl, gw_at 104 (by decide +kernel) rfl, wkJ2_length_9d52b⟩, (by decide +kernel), rfl, rfl⟩
set_option maxRecDepth 100000 in
theorem csJ2_67 : CS RJ2 67 yJ2_checkIndex_2214a iJ2_checkIndex_2214a 2 := ⟨⟨gw_at 584 (by decide +kernel) rfl, gw_at 585 (by decide +kernel) rfl, gw_at 104 (by decide +kernel) rfl, wkJ2_checkIndex_2214a⟩, (by decide +kernel), rfl, rfl⟩
set_option maxRecDepth 100000 in
theorem csJ2_71 : CS RJ2 71 yJ2_getChar_3b067 iJ2_getChar_3b067 2 := ⟨⟨gw_at 591 (by decide +kernel) rfl, gw_at 592 (by decide +kernel) rfl, gw_at 104 (by decide +kernel) rfl, wkJ2_getChar_3b067⟩, (by decide +kernel), rfl, rfl⟩
set_option maxRecDepth 100000 in
theorem csJ2_414 : CS RJ2 414 yJ0_checkIndex_df160 iJ0_checkIndex_df160 2 := ⟨⟨gw_at 590 (by decide +kernel) rfl, gw_at 574 (by decide +kernel) rfl, gw_at 101 (by decide +kernel) rfl, wkJ0_checkIndex_df160⟩, (by decide +kernel), rfl, rfl⟩
set_option maxRecDepth 100000 in
theorem cvL_7 : CV RL 7 RX11 yX11_type iX11_type 4 := ⟨⟨gw_at 622 (by decide +kernel) rfl, gw_at 623 (by decide +kernel) rfl, gw_at 624 (by decide +kernel) rfl, gw_at 82 (by decide +kernel) rfl, wkX11_type⟩, (by decide +kernel), rfl, rfl⟩
set_option maxRecDepth 100000 in
theorem cvL_15 : CV RL 15 RX11 yX11_add iX11_add 1 := ⟨⟨gw_at 703 (by decide +kernel) rfl, gw_at 704 (by decide +kernel) rfl, gw_at 705 (by decide +kernel) rfl, gw_at 82 (by decide +kernel) rfl, wkX11_add⟩, (by decide +kernel), rfl, rfl⟩
set_option maxRecDepth 100000 in
theorem cvL_21 : CV RL 21 RX11 yX11_change iX11_change 2 := ⟨⟨gw_at 884 (by decide +kernel) rfl, gw_at 885 (by decide +kernel) rfl, gw_at 886 (by decide +kernel) rfl, gw_at 82 (by decide +kernel) rfl, wkX11_change⟩, (by decide +kernel), rfl, rfl⟩
set_option maxRecDepth 100000 in
theorem cvL_25 : CV RL 25 RX11 yX11_drop iX11_drop 1 := ⟨⟨gw_at 892 (by decide +kernel) rfl, gw_at 893 (by decide +kernel) rfl, gw_at 894 (by decide +kernel) rfl, gw_at 82 (by decide +kernel) rfl, wkX11_drop⟩, (by decide +kernel), rfl, rfl⟩
set_option maxRecDepth 100000 in
theorem cvL_28 : CV RL 28 RX11 yX11_fault iX11_fault 1 := ⟨⟨gw_at 899 (by decide +kernel) rfl, gw_at 900 (by decide +kernel) rfl, gw_at 901 (by decide +kernel) rfl, gw_at 82 (by decide +kernel) rfl, wkX11_fault⟩, (by decide +kernel), rfl, rfl⟩
set_option maxRecDepth 100000 in
theorem cvL_31 : CV RL 31 RX11 yX11_address iX11_address 1 := ⟨⟨gw_at 907 (by decide +kernel) rfl, gw_at 908 (by decide +kernel) rfl, gw_at 909 (by decide +kernel) rfl, gw_at 82 (by decide +kernel) rfl, wkX11_address⟩, (by decide +kernel), rfl, rfl⟩
set_option maxRecDepth 100000 in
theorem cvL_34 : CV RL 34 RX11 yX11_size iX11_size 2 := ⟨⟨gw_at 915 (by decide +kernel) rfl, gw_at 916 (by decide +kernel) rfl, gw_at 917 (by decide +kernel) rfl, gw_at 82 (by decide +kernel) rfl, wkX11_size⟩, (by decide +kernel), rfl, rfl⟩
set_option maxRecDepth 100000 in
theorem cvL_47 : CV RL 47 RX12 yX12_type iX12_type 4 := ⟨⟨gw_at 1055 (by decide +kernel) rfl, gw_at 1056 (by decide +kernel) rfl, gw_at 1057 (by decide +kernel) rfl, gw_at 93 (by decide +kernel) rfl, wkX12_type⟩, (by decide +kernel), rfl, rfl⟩
set_option maxRecDepth 100000 in
theorem cvL_48 : CV RL 48 RX12 yX12_thrown iX12_thrown 0 := ⟨⟨gw_at 1051 (by decide +kernel) rfl, gw_at 1052 (by decide +kernel) rfl, gw_at 1053 (by decide +kernel) rfl, gw_at 93 (by decide +kernel) rfl, wkX12_thrown⟩, (by decide +kernel), rfl, rfl⟩
set_option maxRecDepth 100000 in
theorem cvL_52 : CV RL 52 RX11 yX11_erase iX11_erase 0 := ⟨⟨gw_at 394 (by decide +kernel) rfl, gw_at 395 (by decide +kernel) rfl, gw_at 396 (by decide +kernel) rfl, gw_at 82 (by decide +kernel) rfl, wkX11_erase⟩, (by decide +kernel), rfl, rfl⟩
set_option maxRecDepth 100000 in
theorem cvL_55 : CV RL 55 RX12 yX12_erase iX12_erase 0 := ⟨⟨gw_at 1067 (by decide +kernel) rfl, gw_at 1068 (by decide +kernel) rfl, gw_at 1069 (by decide +kernel) rfl, gw_at 93 (by decide +kernel) rfl, wkX12_erase⟩, (by decide +kernel), rfl, rfl⟩
set_option maxRecDepth 100000 in
theorem cvL_59 : CV RL 59 RX12 yX12_add iX12_add 1 := ⟨⟨gw_at 1071 (by decide +kernel) rfl, gw_at 1072 (by decide +kernel) rfl, gw_at 1073 (by decide +kernel) rfl, gw_at 93 (by decide +kernel) rfl, wkX12_add⟩, (by decide +kernel), rfl, rfl⟩
set_option maxRecDepth 100000 in
theorem cvL_63 : CV RL 63 RX12 yX12_change iX12_change 2 := ⟨⟨gw_at 1082 (by decide +kernel) rfl, gw_at 1083 (by decide +kernel) rfl, gw_at 1084 (by decide +kernel) rfl, gw_at 93 (by decide +kernel) rfl, wkX12_change⟩, (by decide +kernel), rfl, rfl⟩
set_option maxRecDepth 100000 in
theorem cvL_66 : CV RL 66 RX12 yX12_drop iX12_drop 1 := ⟨⟨gw_at 1086 (by decide +kernel) rfl, gw_at 1087 (by decide +kernel) rfl, gw_at 1088 (by decide +kernel) rfl, gw_at 93 (by decide +kernel) rfl, wkX12_drop⟩, (by decide +kernel), rfl, rfl⟩
set_option maxRecDepth 100000 in
theorem cvL_67 : CV RL 67 RX11 yX11_link iX11_link 0 := ⟨⟨gw_at 398 (by decide +kernel) rfl, gw_at 399 (by decide +kernel) rfl, gw_at 400 (by decide +kernel) rfl, gw_at 82 (by decide +kernel) rfl, wkX11_link⟩, (by decide +kernel), rfl, rfl⟩
set_option maxRecDepth 100000 in
theorem cvL_70 : CV RL 70 RX12 yX12_link iX12_link 0 := ⟨⟨gw_at 1090 (by decide +kernel) rfl, gw_at 1091 (by decide +kernel) rfl, gw_at 1092 (by decide +kernel) rfl, gw_at 93 (by decide +kernel) rfl, wkX12_link⟩, (by decide +kernel), rfl, rfl⟩
set_option maxRecDepth 100000 in
theorem cvL_73 : CV RL 73 RX12 yX12_fault iX12_fault 1 := ⟨⟨gw_at 1354 (by decide +kernel) rfl, gw_at 1355 (by decide +kernel) rfl, gw_at 1356 (by decide +kernel) rfl, gw_at 93 (by decide +kernel) rfl, wkX12_fault⟩, (by decide +kernel), rfl, rfl⟩
set_option maxRecDepth 100000 in
theorem cvL_74 : CV RL 74 RX11 yX11_octet iX11_octet 1 := ⟨⟨gw_at 535 (by decide +kernel) rfl, gw_at 536 (by decide +kernel) rfl, gw_at 537 (by decide +kernel) rfl, gw_at 82 (by decide +kernel) rfl, wkX11_octet⟩, (by decide +kernel), rfl, rfl⟩
set_option maxRecDepth 100000 in
theorem cvL_77 : CV RL 77 RX12 yX12_octet iX12_octet 1 := ⟨⟨gw_at 1361 (by decide +kernel) rfl, gw_at 1362 (by decide +kernel) rfl, gw_at 1363 (by decide +kernel) rfl, gw_at 93 (by decide +kernel) rfl, wkX12_octet⟩, (by decide +kernel), rfl, rfl⟩
set_option maxRecDepth 100000 in
theorem cvL_78 : CV RL 78 RX11 yX11_hex iX11_hex 1 := ⟨⟨gw_at 543 (by decide +kernel) rfl, gw_at 544 (by decide +kernel) rfl, gw_at 545 (by decide +kernel) rfl, gw_at 82 (by decide +kernel) rfl, wkX11_hex⟩, (by decide +kernel), rfl, rfl⟩
set_option maxRecDepth 100000 in
theorem cvL_82 : CV RL 82 RX12 yX12_hex iX12_hex 1 := ⟨⟨gw_at 1365 (by decide +kernel) rfl, gw_at 1366 (by decide +kernel) rfl, gw_at 1367 (by decide +kernel) rfl, gw_at 93 (by decide +kernel) rfl, wkX12_hex⟩, (by decide +kernel), rfl, rfl⟩
set_option maxRecDepth 100000 in
theorem cvL_85 : CV RL 85 RX12 yX12_address iX12_address 1 := ⟨⟨gw_at 1369 (by decide +kernel) rfl, gw_at 1370 (by decide +kernel) rfl, gw_at 1371 (by decide +kernel) rfl, gw_at 93 (by decide +kernel) rfl, wkX12_address⟩, (by decide +kernel), rfl, rfl⟩
set_option maxRecDepth 100000 in
theorem cvL_89 : CV RL 89 RX12 yX12_size iX12_size 2 := ⟨⟨gw_at 1373 (by decide +kernel) rfl, gw_at 1374 (by decide +kernel) rfl, gw_at 1375 (by decide +kernel) rfl, gw_at 93 (by decide +kernel) rfl, wkX12_size⟩, (by decide +kernel), rfl, rfl⟩
end
section
theorem st1_0 {a v : Option AV} : [a].set 0 v = [v] := rfl
theorem st2_0 {a b v : Option AV} : [a, b].set 0 v = [v, b] := rfl
theorem sl2_0 {a b v : Option AV} : ([a, b].set 0 v).set (0 + 1) none = [v, none] := rfl
theorem st2_1 {a b v : Option AV} : [a, b].set 1 v = [a, v] := rfl
theorem st3_0 {a b c v : Option AV} : [a, b, c].set 0 v = [v, b, c] := rfl
theorem sl3_0 {a b c v : Option AV} : ([a, b, c].set 0 v).set (0 + 1) none = [v, none, c] := rfl
theorem st3_1 {a b c v : Option AV} : [a, b, c].set 1 v = [a, v, c] := rfl
theorem sl3_1 {a b c v : Option AV} : ([a, b, c].set 1 v).set (1 + 1) none = [a, v, none] := rfl
theorem st3_2 {a b c v : Option AV} : [a, b, c].set 2 v = [a, b, v] := rfl
theorem st4_0 {a b c d v : Option AV} : [a, b, c, d].set 0 v = [v, b, c, d] := rfl
theorem sl4_0 {a b c d v : Option AV} : ([a, b, c, d].set 0 v).set (0 + 1) none = [v, none, c, d] := rfl
theorem st4_1 {a b c d v : Option AV} : [a, b, c, d].set 1 v = [a, v, c, d] := rfl
theorem sl4_1 {a b c d v : Option AV} : ([a, b, c, d].set 1 v).set (1 + 1) none = [a, v, none, d] := rfl
theorem st4_2 {a b c d v : Option AV} : [a, b, c, d].set 2 v = [a, b, v, d] := rfl
theorem sl4_2 {a b c d v : Option AV} : ([a, b, c, d].set 2 v).set (2 + 1) none = [a, b, v, none] := rfl
theorem st4_3 {a b c d v : Option AV} : [a, b, c, d].set 3 v = [a, b, c, v] := rfl
theorem st5_0 {a b c d e v : Option AV} : [a, b, c, d, e].set 0 v = [v, b, c, d, e] := rfl
theorem sl5_0 {a b c d e v : Option AV} : ([a, b, c, d, e].set 0 v).set (0 + 1) none = [v, none, c, d, e] := rfl
theorem st5_1 {a b c d e v : Option AV} : [a, b, c, d, e].set 1 v = [a, v, c, d, e] := rfl
theorem sl5_1 {a b c d e v : Option AV} : ([a, b, c, d, e].set 1 v).set (1 + 1) none = [a, v, none, d, e] := rfl
theorem st5_2 {a b c d e v : Option AV} : [a, b, c, d, e].set 2 v = [a, b, v, d, e] := rfl
theorem sl5_2 {a b c d e v : Option AV} : ([a, b, c, d, e].set 2 v).set (2 + 1) none = [a, b, v, none, e] := rfl
theorem st5_3 {a b c d e v : Option AV} : [a, b, c, d, e].set 3 v = [a, b, c, v, e] := rfl
theorem sl5_3 {a b c d e v : Option AV} : ([a, b, c, d, e].set 3 v).set (3 + 1) none = [a, b, c, v, none] := rfl
theorem st5_4 {a b c d e v : Option AV} : [a, b, c, d, e].set 4 v = [a, b, c, d, v] := rfl
theorem st6_0 {a b c d e f v : Option AV} : [a, b, c, d, e, f].set 0 v = [v, b, c, d, e, f] := rfl
theorem sl6_0 {a b c d e f v : Option AV} : ([a, b, c, d, e, f].set 0 v).set (0 + 1) none = [v, none, c, d, e, f] := rfl
theorem st6_1 {a b c d e f v : Option AV} : [a, b, c, d, e, f].set 1 v = [a, v, c, d, e, f] := rfl
theorem sl6_1 {a b c d e f v : Option AV} : ([a, b, c, d, e, f].set 1 v).set (1 + 1) none = [a, v, none, d, e, f] := rfl
theorem st6_2 {a b c d e f v : Option AV} : [a, b, c, d, e, f].set 2 v = [a, b, v, d, e, f] := rfl
theorem sl6_2 {a b c d e f v : Option AV} : ([a, b, c, d, e, f].set 2 v).set (2 + 1) none = [a, b, v, none, e, f] := rfl
theorem st6_3 {a b c d e f v : Option AV} : [a, b, c, d, e, f].set 3 v = [a, b, c, v, e, f] := rfl
theorem sl6_3 {a b c d e f v : Option AV} : ([a, b, c, d, e, f].set 3 v).set (3 + 1) none = [a, b, c, v, none, f] := rfl
theorem st6_4 {a b c d e f v : Option AV} : [a, b, c, d, e, f].set 4 v = [a, b, c, d, v, f] := rfl
theorem sl6_4 {a b c d e f v : Option AV} : ([a, b, c, d, e, f].set 4 v).set (4 + 1) none = [a, b, c, d, v, none] := rfl
theorem st6_5 {a b c d e f v : Option AV} : [a, b, c, d, e, f].set 5 v = [a, b, c, d, e, v] := rfl
theorem st7_0 {a b c d e f g v : Option AV} : [a, b, c, d, e, f, g].set 0 v = [v, b, c, d, e, f, g] := rfl
theorem sl7_0 {a b c d e f g v : Option AV} : ([a, b, c, d, e, f, g].set 0 v).set (0 + 1) none = [v, none, c, d, e, f, g] := rfl
theorem st7_1 {a b c d e f g v : Option AV} : [a, b, c, d, e, f, g].set 1 v = [a, v, c, d, e, f, g] := rfl
theorem sl7_1 {a b c d e f g v : Option AV} : ([a, b, c, d, e, f, g].set 1 v).set (1 + 1) none = [a, v, none, d, e, f, g] := rfl
theorem st7_2 {a b c d e f g v : Option AV} : [a, b, c, d, e, f, g].set 2 v = [a, b, v, d, e, f, g] := rfl
theorem sl7_2 {a b c d e f g v : Option AV} : ([a, b, c, d, e, f, g].set 2 v).set (2 + 1) none = [a, b, v, none, e, f, g] := rfl
theorem st7_3 {a b c d e f g v : Option AV} : [a, b, c, d, e, f, g].set 3 v = [a, b, c, v, e, f, g] := rfl
theorem sl7_3 {a b c d e f g v : Option AV} : ([a, b, c, d, e, f, g].set 3 v).set (3 + 1) none = [a, b, c, v, none, f, g] := rfl
theorem st7_4 {a b c d e f g v : Option AV} : [a, b, c, d, e, f, g].set 4 v = [a, b, c, d, v, f, g] := rfl
theorem sl7_4 {a b c d e f g v : Option AV} : ([a, b, c, d, e, f, g].set 4 v).set (4 + 1) none = [a, b, c, d, v, none, g] := rfl
theorem st7_5 {a b c d e f g v : Option AV} : [a, b, c, d, e, f, g].set 5 v = [a, b, c, d, e, v, g] := rfl
theorem sl7_5 {a b c d e f g v : Option AV} : ([a, b, c, d, e, f, g].set 5 v).set (5 + 1) none = [a, b, c, d, e, v, none] := rfl
theorem st7_6 {a b c d e f g v : Option AV} : [a, b, c, d, e, f, g].set 6 v = [a, b, c, d, e, f, v] := rfl
theorem st8_0 {a b c d e f g h v : Option AV} : [a, b, c, d, e, f, g, h].set 0 v = [v, b, c, d, e, f, g, h] := rfl
theorem sl8_0 {a b c d e f g h v : Option AV} : ([a, b, c, d, e, f, g, h].set 0 v).set (0 + 1) none = [v, none, c, d, e, f, g, h] := rfl
theorem st8_1 {a b c d e f g h v : Option AV} : [a, b, c, d, e, f, g, h].set 1 v = [a, v, c, d, e, f, g, h] := rfl
theorem sl8_1 {a b c d e f g h v : Option AV} : ([a, b, c, d, e, f, g, h].set 1 v).set (1 + 1) none = [a, v, none, d, e, f, g, h] := rfl
theorem st8_2 {a b c d e f g h v : Option AV} : [a, b, c, d, e, f, g, h].set 2 v = [a, b, v, d, e, f, g, h] := rfl
theorem sl8_2 {a b c d e f g h v : Option AV} : ([a, b, c, d, e, f, g, h].set 2 v).set (2 + 1) none = [a, b, v, none, e, f, g, h] := rfl
theorem st8_3 {a b c d e f g h v : Option AV} : [a, b, c, d, e, f, g, h].set 3 v = [a, b, c, v, e, f, g, h] := rfl
theorem sl8_3 {a b c d e f g h v : Option AV} : ([a, b, c, d, e, f, g, h].set 3 v).set (3 + 1) none = [a, b, c, v, none, f, g, h] := rfl
theorem st8_4 {a b c d e f g h v : Option AV} : [a, b, c, d, e, f, g, h].set 4 v = [a, b, c, d, v, f, g, h] := rfl
theorem sl8_4 {a b c d e f g h v : Option AV} : ([a, b, c, d, e, f, g, h].set 4 v).set (4 + 1) none = [a, b, c, d, v, none, g, h] := rfl
theorem st8_5 {a b c d e f g h v : Option AV} : [a, b, c, d, e, f, g, h].set 5 v = [a, b, c, d, e, v, g, h] := rfl
theorem sl8_5 {a b c d e f g h v : Option AV} : ([a, b, c, d, e, f, g, h].set 5 v).set (5 + 1) none = [a, b, c, d, e, v, none, h] := rfl
theorem st8_6 {a b c d e f g h v : Option AV} : [a, b, c, d, e, f, g, h].set 6 v = [a, b, c, d, e, f, v, h] := rfl
theorem sl8_6 {a b c d e f g h v : Option AV} : ([a, b, c, d, e, f, g, h].set 6 v).set (6 + 1) none = [a, b, c, d, e, f, v, none] := rfl
theorem st8_7 {a b c d e f g h v : Option AV} : [a, b, c, d, e, f, g, h].set 7 v = [a, b, c, d, e, f, g, v] := rfl
theorem st9_0 {a b c d e f g h i v : Option AV} : [a, b, c, d, e, f, g, h, i].set 0 v = [v, b, c, d, e, f, g, h, i] := rfl
theorem sl9_0 {a b c d e f g h i v : Option AV} : ([a, b, c, d, e, f, g, h, i].set 0 v).set (0 + 1) none = [v, none, c, d, e, f, g, h, i] := rfl
theorem st9_1 {a b c d e f g h i v : Option AV} : [a, b, c, d, e, f, g, h, i].set 1 v = [a, v, c, d, e, f, g, h, i] := rfl
theorem sl9_1 {a b c d e f g h i v : Option AV} : ([a, b, c, d, e, f, g, h, i].set 1 v).set (1 + 1) none = [a, v, none, d, e, f, g, h, i] := rfl
theorem st9_2 {a b c d e f g h i v : Option AV} : [a, b, c, d, e, f, g, h, i].set 2 v = [a, b, v, d, e, f, g, h, i] := rfl
theorem sl9_2 {a b c d e f g h i v : Option AV} : ([a, b, c, d, e, f, g, h, i].set 2 v).set (2 + 1) none = [a, b, v, none, e, f, g, h, i] := rfl
theorem st9_3 {a b c d e f g h i v : Option AV} : [a, b, c, d, e, f, g, h, i].set 3 v = [a, b, c, v, e, f, g, h, i] := rfl
theorem sl9_3 {a b c d e f g h i v : Option AV} : ([a, b, c, d, e, f, g, h, i].set 3 v).set (3 + 1) none = [a, b, c, v, none, f, g, h, i] := rfl
theorem st9_4 {a b c d e f g h i v : Option AV} : [a, b, c, d, e, f, g, h, i].set 4 v = [a, b, c, d, v, f, g, h, i] := rfl
theorem sl9_4 {a b c d e f g h i v : Option AV} : ([a, b, c, d, e, f, g, h, i].set 4 v).set (4 + 1) none = [a, b, c, d, v, none, g, h, i] := rfl
theorem st9_5 {a b c d e f g h i v : Option AV} : [a, b, c, d, e, f, g, h, i].set 5 v = [a, b, c, d, e, v, g, h, i] := rfl
theorem sl9_5 {a b c d e f g h i v : Option AV} : ([a, b, c, d, e, f, g, h, i].set 5 v).set (5 + 1) none = [a, b, c, d, e, v, none, h, i] := rfl
theorem st9_6 {a b c d e f g h i v : Option AV} : [a, b, c, d, e, f, g, h, i].set 6 v = [a, b, c, d, e, f, v, h, i] := rfl
theorem sl9_6 {a b c d e f g h i v : Option AV} : ([a, b, c, d, e, f, g, h, i].set 6 v).set (6 + 1) none = [a, b, c, d, e, f, v, none, i] := rfl
theorem st9_7 {a b c d e f g h i v : Option AV} : [a, b, c, d, e, f, g, h, i].set 7 v = [a, b, c, d, e, f, g, v, i] := rfl
theorem sl9_7 {a b c d e f g h i v : Option AV} : ([a, b, c, d, e, f, g, h, i].set 7 v).set (7 + 1) none = [a, b, c, d, e, f, g, v, none] := rfl
theorem st9_8 {a b c d e f g h i v : Option AV} : [a, b, c, d, e, f, g, h, i].set 8 v = [a, b, c, d, e, f, g, h, v] := rfl
theorem st10_0 {a b c d e f g h i j v : Option AV} : [a, b, c, d, e, f, g, h, i, j].set 0 v = [v, b, c, d, e, f, g, h, i, j] := rfl
theorem st10_1 {a b c d e f g h i j v : Option AV} : [a, b, c, d, e, f, g, h, i, j].set 1 v = [a, v, c, d, e, f, g, h, i, j] := rfl
theorem st10_2 {a b c d e f g h i j v : Option AV} : [a, b, c, d, e, f, g, h, i, j].set 2 v = [a, b, v, d, e, f, g, h, i, j] := rfl
theorem st10_3 {a b c d e f g h i j v : Option AV} : [a, b, c, d, e, f, g, h, i, j].set 3 v = [a, b, c, v, e, f, g, h, i, j] := rfl
theorem st10_4 {a b c d e f g h i j v : Option AV} : [a, b, c, d, e, f, g, h, i, j].set 4 v = [a, b, c, d, v, f, g, h, i, j] := rfl
theorem st10_5 {a b c d e f g h i j v : Option AV} : [a, b, c, d, e, f, g, h, i, j].set 5 v = [a, b, c, d, e, v, g, h, i, j] := rfl
theorem st10_6 {a b c d e f g h i j v : Option AV} : [a, b, c, d, e, f, g, h, i, j].set 6 v = [a, b, c, d, e, f, v, h, i, j] := rfl
theorem st10_7 {a b c d e f g h i j v : Option AV} : [a, b, c, d, e, f, g, h, i, j].set 7 v = [a, b, c, d, e, f, g, v, i, j] := rfl
theorem st10_8 {a b c d e f g h i j v : Option AV} : [a, b, c, d, e, f, g, h, i, j].set 8 v = [a, b, c, d, e, f, g, h, v, j] := rfl
theorem st10_9 {a b c d e f g h i j v : Option AV} : [a, b, c, d, e, f, g, h, i, j].set 9 v = [a, b, c, d, e, f, g, h, i, v] := rfl
theorem st11_0 {a b c d e f g h i j k v : Option AV} : [a, b, c, d, e, f, g, h, i, j, k].set 0 v = [v, b, c, d, e, f, g, h, i, j, k] := rfl
theorem st11_1 {a b c d e f g h i j k v : Option AV} : [a, b, c, d, e, f, g, h, i, j, k].set 1 v = [a, v, c, d, e, f, g, h, i, j, k] := rfl
theorem st11_2 {a b c d e f g h i j k v : Option AV} : [a, b, c, d, e, f, g, h, i, j, k].set 2 v = [a, b, v, d, e, f, g, h, i, j, k] := rfl
theorem st11_3 {a b c d e f g h i j k v : Option AV} : [a, b, c, d, e, f, g, h, i, j, k].set 3 v = [a, b, c, v, e, f, g, h, i, j, k] := rfl
theorem st11_4 {a b c d e f g h i j k v : Option AV} : [a, b, c, d, e, f, g, h, i, j, k].set 4 v = [a, b, c, d, v, f, g, h, i, j, k] := rfl
theorem st11_5 {a b c d e f g h i j k v : Option AV} : [a, b, c, d, e, f, g, h, i, j, k].set 5 v = [a, b, c, d, e, v, g, h, i, j, k] := rfl
theorem st11_6 {a b c d e f g h i j k v : Option AV} : [a, b, c, d, e, f, g, h, i, j, k].set 6 v = [a, b, c, d, e, f, v, h, i, j, k] := rfl
theorem st11_7 {a b c d e f g h i j k v : Option AV} : [a, b, c, d, e, f, g, h, i, j, k].set 7 v = [a, b, c, d, e, f, g, v, i, j, k] := rfl
theorem st11_8 {a b c d e f g h i j k v : Option AV} : [a, b, c, d, e, f, g, h, i, j, k].set 8 v = [a, b, c, d, e, f, g, h, v, j, k] := rfl
theorem st11_9 {a b c d e f g h i j k v : Option AV} : [a, b, c, d, e, f, g, h, i, j, k].set 9 v = [a, b, c, d, e, f, g, h, i, v, k] := rfl
theorem st11_10 {a b c d e f g h i j k v : Option AV} : [a, b, c, d, e, f, g, h, i, j, k].set 10 v = [a, b, c, d, e, f, g, h, i, j, v] := rfl
theorem st12_0 {a b c d e f g h i j k l v : Option AV} : [a, b, c, d, e, f, g, h, i, j, k, l].set 0 v = [v, b, c, d, e, f, g, h, i, j, k, l] := rfl
theorem st12_1 {a b c d e f g h i j k l v : Option AV} : [a, b, c, d, e, f, g, h, i, j, k, l].set 1 v = [a, v, c, d, e, f, g, h, i, j, k, l] := rfl
theorem st12_2 {a b c d e f g h i j k l v : Option AV} : [a, b, c, d, e, f, g, h, i, j, k, l].set 2 v = [a, b, v, d, e, f, g, h, i, j, k, l] := rfl
theorem st12_3 {a b c d e f g h i j k l v : Option AV} : [a, b, c, d, e, f, g, h, i, j, k, l].set 3 v = [a, b, c, v, e, f, g, h, i, j, k, l] := rfl
theorem st12_4 {a b c d e f g h i j k l v : Option AV} : [a, b, c, d, e, f, g, h, i, j, k, l].set 4 v = [a, b, c, d, v, f, g, h, i, j, k, l] := rfl
theorem st12_5 {a b c d e f g h i j k l v : Option AV} : [a, b, c, d, e, f, g, h, i, j, k, l].set 5 v = [a, b, c, d, e, v, g, h, i, j, k, l] := rfl
theorem st12_6 {a b c d e f g h i j k l v : Option AV} : [a, b, c, d, e, f, g, h, i, j, k, l].set 6 v = [a, b, c, d, e, f, v, h, i, j, k, l] := rfl
theorem st12_7 {a b c d e f g h i j k l v : Option AV} : [a, b, c, d, e, f, g, h, i, j, k, l].set 7 v = [a, b, c, d, e, f, g, v, i, j, k, l] := rfl
theorem st12_8 {a b c d e f g h i j k l v : Option AV} : [a, b, c, d, e, f, g, h, i, j, k, l].set 8 v = [a, b, c, d, e, f, g, h, v, j, k, l] := rfl
theorem st12_9 {a b c d e f g h i j k l v : Option AV} : [a, b, c, d, e, f, g, h, i, j, k, l].set 9 v = [a, b, c, d, e, f, g, h, i, v, k, l] := rfl
theorem st12_10 {a b c d e f g h i j k l v : Option AV} : [a, b, c, d, e, f, g, h, i, j, k, l].set 10 v = [a, b, c, d, e, f, g, h, i, j, v, l] := rfl
theorem st12_11 {a b c d e f g h i j k l v : Option AV} : [a, b, c, d, e, f, g, h, i, j, k, l].set 11 v = [a, b, c, d, e, f, g, h, i, j, k, v] := rfl
theorem fx0_0 {j : Nat} : fixR 0 j 0 = j := rfl
theorem fx0_1 {j : Nat} : fixR 0 j 1 = j := rfl
theorem fx0_2 {j : Nat} : fixR 0 j 2 = j := rfl
theorem fx3_0 {j : Nat} : fixR 3 j 0 = j := rfl
theorem fx3_1 {j : Nat} : fixR 3 j 1 = j := rfl
theorem fx3_2 {j : Nat} : fixR 3 j 2 = 3 * j := rfl
theorem fx3_3 {j : Nat} : fixR 3 j 3 = 3 * j + 1 := rfl
theorem fx3_4 {j : Nat} : fixR 3 j 4 = 3 * j + 2 := rfl
theorem fx4_0 {j : Nat} : fixR 4 j 0 = 2 * j := rfl
theorem fx4_1 {j : Nat} : fixR 4 j 1 = 2 * j + 1 := rfl
theorem fx4_2 {j : Nat} : fixR 4 j 2 = j := rfl
theorem fx2_0 {j : Nat} : fixR 2 j 0 = j := rfl
theorem fx7_0 {j : Nat} : fixR 7 j 0 = j := rfl
theorem fx9_0 {j : Nat} : fixR 9 j 0 = j := rfl
theorem fx10_0 {j : Nat} : fixR 10 j 0 = 0 := rfl
theorem fx13 {j m : Nat} : fixR 13 j m = m := rfl
theorem fx14 {j m : Nat} : fixR 14 j m = 24 * j + m := rfl
theorem fx18 {j m : Nat} : fixR 18 j m = 4 * j + m := rfl
/-! booleans as the machine has them -/
def bI (b : Bool) : Int32 := if b then nI 1 else nI 0
theorem bI_0 {b : Bool} : bI b = 0 ↔ b = false := by cases b <;> decide
theorem bI_n {b : Bool} : narrow .boolean (.int (bI b)) = .int (bI b) := by cases b <;> rfl
section BOO
variable {G : GX} {I : MIx} {Post : Option AV → Mem → Prop} {pc : Nat} {ls : List (Option AV)} {st : List AV} {M : Mem}
theorem Rn.if_eqB {b : Bool} {off : Int} {tgt : Nat} (hd : decode I.1 pc = .ok (.ifCond .eq off, 3)) (ht : (pc : Int) + off = (tgt : Int)) (kt : b = false → Rn G I Post tgt ls st M) (kf : b = true → Rn G I Post (pc + 3) ls st M) : Rn G I Post pc ls (vI (bI b) :: st) M :=
  Rn.if_eq (y := 0) hd ht (fun h => kt (bI_0.mp h)) (fun h => kf (by cases b; exact absurd rfl h; rfl))
theorem Rn.if_neB {b : Bool} {off : Int} {tgt : Nat} (hd : decode I.1 pc = .ok (.ifCond .ne off, 3)) (ht : (pc : Int) + off = (tgt : Int)) (kt : b = true → Rn G I Post tgt ls st M) (kf : b = false → Rn G I Post (pc + 3) ls st M) : Rn G I Post pc ls (vI (bI b) :: st) M :=
  Rn.if_ne (y := 0) hd ht (fun h => kt (by cases b; exact absurd rfl h; rfl)) (fun h => kf (by cases b; rfl; exact absurd h (by decide)))
end BOO
theorem nI_ch {x : Nat} (h : x < 65536) : narrow .char (.int (nI x)) = .int (nI x) := (pk_charN h).1
theorem vnc {x : Nat} (h : x < 65536) : vp_nar .char (nI x) = nI x := by
  have := (pk_charN h).1
  unfold vp_nar
  rw [this]
/-! memory: writes in a row -/
theorem up3_up3 {α : Type} (f : Nat → Nat → Nat → α) (k j s : Nat) (v w : α) : up3 (up3 f k j s v) k j s w = up3 f k j s w := by
  funext a b c
  unfold up3
  split <;> rfl
theorem up3_comm {α : Type} (f : Nat → Nat → Nat → α) {k j s k' j' s' : Nat} (v w : α) (h : ¬ (k = k' ∧ j = j' ∧ s = s')) : up3 (up3 f k j s v) k' j' s' w = up3 (up3 f k' j' s' w) k j s v := by
  funext a b c
  unfold up3
  by_cases h1 : a = k ∧ b = j ∧ c = s
  · by_cases h2 : a = k' ∧ b = j' ∧ c = s'
    · exact absurd ⟨h1.1.symm.trans h2.1, h1.2.1.symm.trans h2.2.1, h1.2.2.symm.trans h2.2.2⟩ h
    · rw [if_neg h2, if_pos h1, if_pos h1]
  · by_cases h2 : a = k' ∧ b = j' ∧ c = s'
    · rw [if_pos h2, if_neg h1, if_pos h2]
    · rw [if_neg h2, if_neg h1, if_neg h1, if_neg h2]
theorem sI_sI {M : Mem} {k j s : Nat} {v w : Int32} : sI (sI M k j s v) k j s w = sI M k j s w := by
  unfold sI; rw [up3_up3]
theorem sI_comm {M : Mem} {k j s k' j' s' : Nat} {v w : Int32} (h : ¬ (k = k' ∧ j = j' ∧ s = s')) : sI (sI M k j s v) k' j' s' w = sI (sI M k' j' s' w) k j s v := by
  unfold sI; rw [up3_comm _ _ _ h]
theorem sI_self {M : Mem} {k j s : Nat} {v : Int32} (h : mI M k j s = v) : sI M k j s v = M := by
  unfold sI
  refine Prod.ext ?_ rfl
  funext a b c
  show (if _ then _ else _) = _
  split
  · rename_i q; obtain ⟨rfl, rfl, rfl⟩ := q; exact h.symm
  · rfl
/-! runs of characters -/
def runF (p : Nat → Bool) (L : Nat → Nat) : Nat → Nat → Nat
  | 0, a => a
  | f + 1, a => if p (L a) then runF p L f (a + 1) else a
def run (p : Nat → Bool) (L : Nat → Nat) (n a : Nat) : Nat := runF p L (n - a) a
theorem run_end {p : Nat → Bool} {L : Nat → Nat} {n a : Nat} (h : n ≤ a) : run p L n a = a := by
  unfold run; rw [Nat.sub_eq_zero_of_le h]; rfl
theorem run_yes {p : Nat → Bool} {L : Nat → Nat} {n a : Nat} (h : a < n) (hp : p (L a) = true) : run p L n a = run p L n (a + 1) := by
  unfold run
  obtain ⟨d, hd⟩ : ∃ d, n - a = d + 1 := ⟨n - a - 1, by omega⟩
  rw [hd, show n - (a + 1) = d by omega, runF, if_pos hp]
theorem run_no {p : Nat → Bool} {L : Nat → Nat} {n a : Nat} (h : a < n) (hp : p (L a) = false) : run p L n a = a := by
  unfold run
  obtain ⟨d, hd⟩ : ∃ d, n - a = d + 1 := ⟨n - a - 1, by omega⟩
  rw [hd, runF, if_neg (by rw [hp]; decide)]
theorem run_spec (p : Nat → Bool) (L : Nat → Nat) (n : Nat) : ∀ (d a : Nat), n - a = d → a ≤ n → a ≤ run p L n a ∧ run p L n a ≤ n ∧ (∀ i, a ≤ i → i < run p L n a → p (L i) = true) ∧ (run p L n a < n → p (L (run p L n a)) = false) := by
  intro d
  induction d with
  | zero =>
    intro a hd ha
    rw [run_end (by omega)]
    exact ⟨Nat.le_refl _, ha, fun i h1 h2 => by omega, fun h => by omega⟩
  | succ d ih =>
    intro a hd ha
    cases hp : p (L a) with
    | true =>
      rw [run_yes (by omega) hp]
      obtain ⟨h1, h2, h3, h4⟩ := ih (a + 1) (by omega) (by omega)
      refine ⟨by omega, h2, fun i h5 h6 => ?_, h4⟩
      rcases Nat.lt_or_ge a i with h | h
      · exact h3 i h h6
      · rw [show i = a by omega]; exact hp
    | false =>
      rw [run_no (by omega) hp]
      exact ⟨Nat.le_refl _, ha, fun i h1 h2 => by omega, fun _ => hp⟩
theorem run_ge {p : Nat → Bool} {L : Nat → Nat} {n a : Nat} (h : a ≤ n) : a ≤ run p L n a := (run_spec p L n _ a rfl h).1
theorem run_le {p : Nat → Bool} {L : Nat → Nat} {n a : Nat} (h : a ≤ n) : run p L n a ≤ n := (run_spec p L n _ a rfl h).2.1
theorem run_all {p : Nat → Bool} {L : Nat → Nat} {n a : Nat} (h : a ≤ n) : ∀ i, a ≤ i → i < run p L n a → p (L i) = true := (run_spec p L n _ a rfl h).2.2.1
theorem run_stop {p : Nat → Bool} {L : Nat → Nat} {n a : Nat} (h : a ≤ n) : run p L n a < n → p (L (run p L n a)) = false := (run_spec p L n _ a rfl h).2.2.2
def isLow (c : Nat) : Bool := decide (97 ≤ c) && decide (c ≤ 122)
def isDig (c : Nat) : Bool := decide (48 ≤ c) && decide (c ≤ 57)
def isWs (c : Nat) : Bool := isLow c || isDig c
def isBl (c : Nat) : Bool := decide (c = 32)
def skp (L : Nat → Nat) (n a : Nat) : Nat := run isBl L n a
def chA (L : Nat → Nat) (n a : Nat) : Nat := if a < n then L a else 0
/-- where the word ends that begins at a (blanks are behind) -/
def wEnd (L : Nat → Nat) (n a : Nat) : Nat := if a < n ∧ L a = 46 then run isLow L n (a + 1) else run isWs L n a
end
section
/-! THE MODEL'S PARSER: a line at the place o of its text, n characters L; position a (from o), fault f, its place fp -/
def wP (o : Nat) (M : Mem) (a : Nat) (f fp : Int32) : Mem := sI (sI (sI M 11 0 7 (nI (o + a))) 11 0 9 f) 11 0 10 fp
theorem wP_at {o : Nat} {M : Mem} {a : Nat} {f fp : Int32} : mI (wP o M a f fp) 11 0 7 = nI (o + a) := rfl
theorem wP_f {o : Nat} {M : Mem} {a : Nat} {f fp : Int32} : mI (wP o M a f fp) 11 0 9 = f := rfl
theorem wP_s7 {o : Nat} {M : Mem} {a b : Nat} {f fp : Int32} : sI (wP o M a f fp) 11 0 7 (nI (o + b)) = wP o M b f fp := by
  unfold wP
  rw [sI_comm (by decide), sI_comm (k := 11) (j := 0) (s := 9) (by decide), sI_sI]
theorem wP_s9 {o : Nat} {M : Mem} {a : Nat} {f g fp : Int32} : sI (wP o M a f fp) 11 0 9 g = wP o M a g fp := by
  unfold wP
  rw [sI_comm (by decide), sI_sI]
theorem wP_s10 {o : Nat} {M : Mem} {a : Nat} {f fp gp : Int32} : sI (wP o M a f fp) 11 0 10 gp = wP o M a f gp := by
  unfold wP
  rw [sI_sI]
/-- a line of the model's text -/
def LnOK (o n : Nat) (L : Nat → Nat) (M : Mem) : Prop := mI M 11 0 8 = nI (o + n) ∧ o + n ≤ 4608 ∧ n ≤ 48 ∧ (∀ i, i < n → mI M 25 0 (o + i) = nI (L i)) ∧ (∀ i, i < n → 0 < L i ∧ L i < 256) ∧ ∃ l : Nat, o = 48 * l ∧ mI M 11 0 6 = nI l
set_option maxRecDepth 20000 in
set_option maxHeartbeats 4000000 in
theorem c_isSmall (G : GX) {M : Mem} (x : Nat) (hx : x < 2 ^ 31) : MetM G yX12_isSmall iX12_isSmall [vI (nI x)] M (fun r M' => r = some (vI (bI (isLow x))) ∧ M' = M) := by
  refine MetM.of (ls := [some (vI (nI x))]) (by decide) rfl (Nat.le_of_ble_eq_true rfl) rfl ?_
  intro hM0
  refine Rn.iload_n dX12_isSmall_0 rfl rfl ?_
  refine Rn.bipush (v := nI 97) dX12_isSmall_1 (by decide) ?_
  refine Rn.icmp_ltN (tgt := 16) dX12_isSmall_3 (by decide) hx (by decide) (fun c3 => ?_) (fun c3 => ?_)
  · refine Rn.iconst (v := nI 0) dX12_isSmall_16 (by decide) ?_
    refine Rn.zret rfl rfl dX12_isSmall_17 ?_
    refine ⟨?_, rfl⟩; simp [isLow, bI, *]; try omega
  · refine Rn.iload_n dX12_isSmall_6 rfl rfl ?_
    refine Rn.bipush (v := nI 122) dX12_isSmall_7 (by decide) ?_
    refine Rn.icmp_gtN (tgt := 16) dX12_isSmall_9 (by decide) hx (by decide) (fun c9 => ?_) (fun c9 => ?_)
    · refine Rn.iconst (v := nI 0) dX12_isSmall_16 (by decide) ?_
      refine Rn.zret rfl rfl dX12_isSmall_17 ?_
      refine ⟨?_, rfl⟩; simp [isLow, bI, *]; try omega
    · refine Rn.iconst (v := nI 1) dX12_isSmall_12 (by decide) ?_
      refine Rn.goto (tgt := 17) dX12_isSmall_13 (by decide) ?_
      refine Rn.zret rfl rfl dX12_isSmall_17 ?_
      refine ⟨?_, rfl⟩; simp [isLow, bI, *]; try omega

set_option maxRecDepth 20000 in
set_option maxHeartbeats 4000000 in
theorem c_isDigit (G : GX) {M : Mem} (x : Nat) (hx : x < 2 ^ 31) : MetM G yX12_isDigit iX12_isDigit [vI (nI x)] M (fun r M' => r = some (vI (bI (isDig x))) ∧ M' = M) := by
  refine MetM.of (ls := [some (vI (nI x))]) (by decide) rfl (Nat.le_of_ble_eq_true rfl) rfl ?_
  intro hM0
  refine Rn.iload_n dX12_isDigit_0 rfl rfl ?_
  refine Rn.bipush (v := nI 48) dX12_isDigit_1 (by decide) ?_
  refine Rn.icmp_ltN (tgt := 16) dX12_isDigit_3 (by decide) hx (by decide) (fun c3 => ?_) (fun c3 => ?_)
  · refine Rn.iconst (v := nI 0) dX12_isDigit_16 (by decide) ?_
    refine Rn.zret rfl rfl dX12_isDigit_17 ?_
    refine ⟨?_, rfl⟩; simp [isDig, bI, *]; try omega
  · refine Rn.iload_n dX12_isDigit_6 rfl rfl ?_
    refine Rn.bipush (v := nI 57) dX12_isDigit_7 (by decide) ?_
    refine Rn.icmp_gtN (tgt := 16) dX12_isDigit_9 (by decide) hx (by decide) (fun c9 => ?_) (fun c9 => ?_)
    · refine Rn.iconst (v := nI 0) dX12_isDigit_16 (by decide) ?_
      refine Rn.zret rfl rfl dX12_isDigit_17 ?_
      refine ⟨?_, rfl⟩; simp [isDig, bI, *]; try omega
    · refine Rn.iconst (v := nI 1) dX12_isDigit_12 (by decide) ?_
      refine Rn.goto (tgt := 17) dX12_isDigit_13 (by decide) ?_
      refine Rn.zret rfl rfl dX12_isDigit_17 ?_
      refine ⟨?_, rfl⟩; simp [isDig, bI, *]; try omega
end
