section
-- ===== PART A: goes FIRST, ahead of the names: the tables' words, and 'selects' of the private methods out of them =====
/-- a private method of a class that the tables say can be made, by its rows of tables_1 -/
def lw_okq (q : MethodName × Nat) : Prop := (q.1.cls ≠ "java/lang/invoke/MethodHandle" ∧ q.1.cls ≠ "java/lang/invoke/VarHandle") ∧ Cond.instantiable q.1.cls q.2 ∈ tables_1 ∧ Cond.privateMethod q.1 ∈ tables_1 ∧ Cond.instanceMethod q.1 ∈ tables_1
theorem lw_p0 : lw_okq (⟨"ZipGuard$Unpacker", "buildFixedCodes", "()V"⟩, 8) := ⟨⟨by decide +kernel, by decide +kernel⟩, List.mem_of_getElem? (i := 174) (by decide +kernel), List.mem_of_getElem? (i := 219) (by decide +kernel), List.mem_of_getElem? (i := 220) (by decide +kernel)⟩
theorem lw_p1 : lw_okq (⟨"java/lang/Throwable", "fillInStackTrace", "(I)Ljava/lang/Throwable;"⟩, 6) := ⟨⟨by decide +kernel, by decide +kernel⟩, List.mem_of_getElem? (i := 268) (by decide +kernel), List.mem_of_getElem? (i := 266) (by decide +kernel), List.mem_of_getElem? (i := 267) (by decide +kernel)⟩
theorem lw_p2 : lw_okq (⟨"ZipGuard$Directory", "findEnd", "()I"⟩, 5) := ⟨⟨by decide +kernel, by decide +kernel⟩, List.mem_of_getElem? (i := 54) (by decide +kernel), List.mem_of_getElem? (i := 615) (by decide +kernel), List.mem_of_getElem? (i := 616) (by decide +kernel)⟩
theorem lw_p3 : lw_okq (⟨"ZipGuard$Directory", "faultAt", "(II)I"⟩, 5) := ⟨⟨by decide +kernel, by decide +kernel⟩, List.mem_of_getElem? (i := 54) (by decide +kernel), List.mem_of_getElem? (i := 631) (by decide +kernel), List.mem_of_getElem? (i := 632) (by decide +kernel)⟩
theorem lw_p4 : lw_okq (⟨"ZipGuard$Directory", "checkEnd", "(I)I"⟩, 5) := ⟨⟨by decide +kernel, by decide +kernel⟩, List.mem_of_getElem? (i := 54) (by decide +kernel), List.mem_of_getElem? (i := 635) (by decide +kernel), List.mem_of_getElem? (i := 636) (by decide +kernel)⟩
theorem lw_p5 : lw_okq (⟨"ZipGuard$Directory", "readEntries", "(I)I"⟩, 5) := ⟨⟨by decide +kernel, by decide +kernel⟩, List.mem_of_getElem? (i := 54) (by decide +kernel), List.mem_of_getElem? (i := 643) (by decide +kernel), List.mem_of_getElem? (i := 644) (by decide +kernel)⟩
theorem lw_p6 : lw_okq (⟨"ZipGuard$Directory", "checkSpan", "(II)I"⟩, 5) := ⟨⟨by decide +kernel, by decide +kernel⟩, List.mem_of_getElem? (i := 54) (by decide +kernel), List.mem_of_getElem? (i := 647) (by decide +kernel), List.mem_of_getElem? (i := 648) (by decide +kernel)⟩
theorem lw_p7 : lw_okq (⟨"ZipGuard$Directory", "behindEntry", "(I)I"⟩, 5) := ⟨⟨by decide +kernel, by decide +kernel⟩, List.mem_of_getElem? (i := 54) (by decide +kernel), List.mem_of_getElem? (i := 651) (by decide +kernel), List.mem_of_getElem? (i := 652) (by decide +kernel)⟩
theorem lw_p8 : lw_okq (⟨"ZipGuard$Directory", "checkNumbers", "(I)I"⟩, 5) := ⟨⟨by decide +kernel, by decide +kernel⟩, List.mem_of_getElem? (i := 54) (by decide +kernel), List.mem_of_getElem? (i := 655) (by decide +kernel), List.mem_of_getElem? (i := 656) (by decide +kernel)⟩
theorem lw_p9 : lw_okq (⟨"ZipGuard$Directory", "hasRightSizes", "(II)Z"⟩, 5) := ⟨⟨by decide +kernel, by decide +kernel⟩, List.mem_of_getElem? (i := 54) (by decide +kernel), List.mem_of_getElem? (i := 659) (by decide +kernel), List.mem_of_getElem? (i := 660) (by decide +kernel)⟩
theorem lw_p10 : lw_okq (⟨"ZipGuard$Directory", "readName", "(II)I"⟩, 5) := ⟨⟨by decide +kernel, by decide +kernel⟩, List.mem_of_getElem? (i := 54) (by decide +kernel), List.mem_of_getElem? (i := 664) (by decide +kernel), List.mem_of_getElem? (i := 665) (by decide +kernel)⟩
theorem lw_p11 : lw_okq (⟨"ZipGuard$Directory", "isName", "(II)Z"⟩, 5) := ⟨⟨by decide +kernel, by decide +kernel⟩, List.mem_of_getElem? (i := 54) (by decide +kernel), List.mem_of_getElem? (i := 668) (by decide +kernel), List.mem_of_getElem? (i := 669) (by decide +kernel)⟩
theorem lw_p12 : lw_okq (⟨"ZipGuard$Directory", "isNameByte", "(I)Z"⟩, 5) := ⟨⟨by decide +kernel, by decide +kernel⟩, List.mem_of_getElem? (i := 54) (by decide +kernel), List.mem_of_getElem? (i := 672) (by decide +kernel), List.mem_of_getElem? (i := 673) (by decide +kernel)⟩
theorem lw_p13 : lw_okq (⟨"ZipGuard$Directory", "isPart", "(II)Z"⟩, 5) := ⟨⟨by decide +kernel, by decide +kernel⟩, List.mem_of_getElem? (i := 54) (by decide +kernel), List.mem_of_getElem? (i := 676) (by decide +kernel), List.mem_of_getElem? (i := 677) (by decide +kernel)⟩
theorem lw_p14 : lw_okq (⟨"ZipGuard$Directory", "readLocal", "(II)I"⟩, 5) := ⟨⟨by decide +kernel, by decide +kernel⟩, List.mem_of_getElem? (i := 54) (by decide +kernel), List.mem_of_getElem? (i := 689) (by decide +kernel), List.mem_of_getElem? (i := 690) (by decide +kernel)⟩
theorem lw_p15 : lw_okq (⟨"ZipGuard$Directory", "isLocalOf", "(II)Z"⟩, 5) := ⟨⟨by decide +kernel, by decide +kernel⟩, List.mem_of_getElem? (i := 54) (by decide +kernel), List.mem_of_getElem? (i := 694) (by decide +kernel), List.mem_of_getElem? (i := 695) (by decide +kernel)⟩
def lw_privs_1 : List (MethodName × Nat) := [(⟨"ZipGuard$Unpacker", "buildFixedCodes", "()V"⟩, 8), (⟨"java/lang/Throwable", "fillInStackTrace", "(I)Ljava/lang/Throwable;"⟩, 6), (⟨"ZipGuard$Directory", "findEnd", "()I"⟩, 5), (⟨"ZipGuard$Directory", "faultAt", "(II)I"⟩, 5), (⟨"ZipGuard$Directory", "checkEnd", "(I)I"⟩, 5), (⟨"ZipGuard$Directory", "readEntries", "(I)I"⟩, 5), (⟨"ZipGuard$Directory", "checkSpan", "(II)I"⟩, 5), (⟨"ZipGuard$Directory", "behindEntry", "(I)I"⟩, 5), (⟨"ZipGuard$Directory", "checkNumbers", "(I)I"⟩, 5), (⟨"ZipGuard$Directory", "hasRightSizes", "(II)Z"⟩, 5), (⟨"ZipGuard$Directory", "readName", "(II)I"⟩, 5), (⟨"ZipGuard$Directory", "isName", "(II)Z"⟩, 5), (⟨"ZipGuard$Directory", "isNameByte", "(I)Z"⟩, 5), (⟨"ZipGuard$Directory", "isPart", "(II)Z"⟩, 5), (⟨"ZipGuard$Directory", "readLocal", "(II)I"⟩, 5), (⟨"ZipGuard$Directory", "isLocalOf", "(II)Z"⟩, 5)]
theorem lw_r1 : ∀ q ∈ lw_privs_1, lw_okq q := List.forall_mem_cons.mpr ⟨lw_p0, List.forall_mem_cons.mpr ⟨lw_p1, List.forall_mem_cons.mpr ⟨lw_p2, List.forall_mem_cons.mpr ⟨lw_p3, List.forall_mem_cons.mpr ⟨lw_p4, List.forall_mem_cons.mpr ⟨lw_p5, List.forall_mem_cons.mpr ⟨lw_p6, List.forall_mem_cons.mpr ⟨lw_p7, List.forall_mem_cons.mpr ⟨lw_p8, List.forall_mem_cons.mpr ⟨lw_p9, List.forall_mem_cons.mpr ⟨lw_p10, List.forall_mem_cons.mpr ⟨lw_p11, List.forall_mem_cons.mpr ⟨lw_p12, List.forall_mem_cons.mpr ⟨lw_p13, List.forall_mem_cons.mpr ⟨lw_p14, List.forall_mem_cons.mpr ⟨lw_p15, fun _ h => absurd h List.not_mem_nil⟩⟩⟩⟩⟩⟩⟩⟩⟩⟩⟩⟩⟩⟩⟩⟩
theorem lw_p16 : lw_okq (⟨"ZipGuard$Directory", "keepNumbers", "(LZipGuard$Entry;I)V"⟩, 5) := ⟨⟨by decide +kernel, by decide +kernel⟩, List.mem_of_getElem? (i := 54) (by decide +kernel), List.mem_of_getElem? (i := 702) (by decide +kernel), List.mem_of_getElem? (i := 703) (by decide +kernel)⟩
theorem lw_p17 : lw_okq (⟨"ZipGuard", "openEntry", "(I)LZipGuard$Entry;"⟩, 4) := ⟨⟨by decide +kernel, by decide +kernel⟩, List.mem_of_getElem? (i := 29) (by decide +kernel), List.mem_of_getElem? (i := 823) (by decide +kernel), List.mem_of_getElem? (i := 824) (by decide +kernel)⟩
theorem lw_p18 : lw_okq (⟨"ZipGuard$Unpacker", "copyBytes", "(LZipGuard$Entry;I)I"⟩, 8) := ⟨⟨by decide +kernel, by decide +kernel⟩, List.mem_of_getElem? (i := 174) (by decide +kernel), List.mem_of_getElem? (i := 839) (by decide +kernel), List.mem_of_getElem? (i := 840) (by decide +kernel)⟩
theorem lw_p19 : lw_okq (⟨"ZipGuard$Unpacker", "unpack", "(LZipGuard$Entry;)I"⟩, 8) := ⟨⟨by decide +kernel, by decide +kernel⟩, List.mem_of_getElem? (i := 174) (by decide +kernel), List.mem_of_getElem? (i := 854) (by decide +kernel), List.mem_of_getElem? (i := 855) (by decide +kernel)⟩
theorem lw_p20 : lw_okq (⟨"ZipGuard$Unpacker", "unpackStored", "(LZipGuard$Entry;)I"⟩, 8) := ⟨⟨by decide +kernel, by decide +kernel⟩, List.mem_of_getElem? (i := 174) (by decide +kernel), List.mem_of_getElem? (i := 858) (by decide +kernel), List.mem_of_getElem? (i := 859) (by decide +kernel)⟩
theorem lw_p21 : lw_okq (⟨"ZipGuard$Unpacker", "unpackCoded", "(LZipGuard$Entry;LZipGuard$CodeSet;LZipGuard$CodeSet;)I"⟩, 8) := ⟨⟨by decide +kernel, by decide +kernel⟩, List.mem_of_getElem? (i := 174) (by decide +kernel), List.mem_of_getElem? (i := 867) (by decide +kernel), List.mem_of_getElem? (i := 868) (by decide +kernel)⟩
theorem lw_p22 : lw_okq (⟨"ZipGuard$Unpacker", "unpackAgain", "(LZipGuard$Entry;ILZipGuard$CodeSet;)I"⟩, 8) := ⟨⟨by decide +kernel, by decide +kernel⟩, List.mem_of_getElem? (i := 174) (by decide +kernel), List.mem_of_getElem? (i := 876) (by decide +kernel), List.mem_of_getElem? (i := 877) (by decide +kernel)⟩
theorem lw_p23 : lw_okq (⟨"ZipGuard$Unpacker", "writeAgain", "(LZipGuard$Entry;II)I"⟩, 8) := ⟨⟨by decide +kernel, by decide +kernel⟩, List.mem_of_getElem? (i := 174) (by decide +kernel), List.mem_of_getElem? (i := 888) (by decide +kernel), List.mem_of_getElem? (i := 889) (by decide +kernel)⟩
theorem lw_p24 : lw_okq (⟨"ZipGuard$Unpacker", "readOwnCodes", "()I"⟩, 8) := ⟨⟨by decide +kernel, by decide +kernel⟩, List.mem_of_getElem? (i := 174) (by decide +kernel), List.mem_of_getElem? (i := 896) (by decide +kernel), List.mem_of_getElem? (i := 897) (by decide +kernel)⟩
theorem lw_p25 : lw_okq (⟨"ZipGuard$Unpacker", "readLengthCodes", "(I)I"⟩, 8) := ⟨⟨by decide +kernel, by decide +kernel⟩, List.mem_of_getElem? (i := 174) (by decide +kernel), List.mem_of_getElem? (i := 900) (by decide +kernel), List.mem_of_getElem? (i := 901) (by decide +kernel)⟩
theorem lw_p26 : lw_okq (⟨"ZipGuard$Unpacker", "readRow", "(I)I"⟩, 8) := ⟨⟨by decide +kernel, by decide +kernel⟩, List.mem_of_getElem? (i := 174) (by decide +kernel), List.mem_of_getElem? (i := 911) (by decide +kernel), List.mem_of_getElem? (i := 912) (by decide +kernel)⟩
theorem lw_p27 : lw_okq (⟨"ZipGuard$Unpacker", "repeatBits", "(I)I"⟩, 8) := ⟨⟨by decide +kernel, by decide +kernel⟩, List.mem_of_getElem? (i := 174) (by decide +kernel), List.mem_of_getElem? (i := 915) (by decide +kernel), List.mem_of_getElem? (i := 916) (by decide +kernel)⟩
theorem lw_p28 : lw_okq (⟨"ZipGuard$Unpacker", "leastTimes", "(I)I"⟩, 8) := ⟨⟨by decide +kernel, by decide +kernel⟩, List.mem_of_getElem? (i := 174) (by decide +kernel), List.mem_of_getElem? (i := 919) (by decide +kernel), List.mem_of_getElem? (i := 920) (by decide +kernel)⟩
theorem lw_p29 : lw_okq (⟨"ZipGuard$Unpacker", "checkWhole", "(LZipGuard$Entry;)I"⟩, 8) := ⟨⟨by decide +kernel, by decide +kernel⟩, List.mem_of_getElem? (i := 174) (by decide +kernel), List.mem_of_getElem? (i := 928) (by decide +kernel), List.mem_of_getElem? (i := 929) (by decide +kernel)⟩
theorem lw_p30 : lw_okq (⟨"ZipGuardModel", "fails", "(ZI)Z"⟩, 31) := ⟨⟨by decide +kernel, by decide +kernel⟩, List.mem_of_getElem? (i := 976) (by decide +kernel), List.mem_of_getElem? (i := 1086) (by decide +kernel), List.mem_of_getElem? (i := 1087) (by decide +kernel)⟩
theorem lw_p31 : lw_okq (⟨"ZipGuardModel", "shut", "()V"⟩, 31) := ⟨⟨by decide +kernel, by decide +kernel⟩, List.mem_of_getElem? (i := 976) (by decide +kernel), List.mem_of_getElem? (i := 1090) (by decide +kernel), List.mem_of_getElem? (i := 1091) (by decide +kernel)⟩
def lw_privs_2 : List (MethodName × Nat) := [(⟨"ZipGuard$Directory", "keepNumbers", "(LZipGuard$Entry;I)V"⟩, 5), (⟨"ZipGuard", "openEntry", "(I)LZipGuard$Entry;"⟩, 4), (⟨"ZipGuard$Unpacker", "copyBytes", "(LZipGuard$Entry;I)I"⟩, 8), (⟨"ZipGuard$Unpacker", "unpack", "(LZipGuard$Entry;)I"⟩, 8), (⟨"ZipGuard$Unpacker", "unpackStored", "(LZipGuard$Entry;)I"⟩, 8), (⟨"ZipGuard$Unpacker", "unpackCoded", "(LZipGuard$Entry;LZipGuard$CodeSet;LZipGuard$CodeSet;)I"⟩, 8), (⟨"ZipGuard$Unpacker", "unpackAgain", "(LZipGuard$Entry;ILZipGuard$CodeSet;)I"⟩, 8), (⟨"ZipGuard$Unpacker", "writeAgain", "(LZipGuard$Entry;II)I"⟩, 8), (⟨"ZipGuard$Unpacker", "readOwnCodes", "()I"⟩, 8), (⟨"ZipGuard$Unpacker", "readLengthCodes", "(I)I"⟩, 8), (⟨"ZipGuard$Unpacker", "readRow", "(I)I"⟩, 8), (⟨"ZipGuard$Unpacker", "repeatBits", "(I)I"⟩, 8), (⟨"ZipGuard$Unpacker", "leastTimes", "(I)I"⟩, 8), (⟨"ZipGuard$Unpacker", "checkWhole", "(LZipGuard$Entry;)I"⟩, 8), (⟨"ZipGuardModel", "fails", "(ZI)Z"⟩, 31), (⟨"ZipGuardModel", "shut", "()V"⟩, 31)]
theorem lw_r2 : ∀ q ∈ lw_privs_2, lw_okq q := List.forall_mem_cons.mpr ⟨lw_p16, List.forall_mem_cons.mpr ⟨lw_p17, List.forall_mem_cons.mpr ⟨lw_p18, List.forall_mem_cons.mpr ⟨lw_p19, List.forall_mem_cons.mpr ⟨lw_p20, List.forall_mem_cons.mpr ⟨lw_p21, List.forall_mem_cons.mpr ⟨lw_p22, List.forall_mem_cons.mpr ⟨lw_p23, List.forall_mem_cons.mpr ⟨lw_p24, List.forall_mem_cons.mpr ⟨lw_p25, List.forall_mem_cons.mpr ⟨lw_p26, List.forall_mem_cons.mpr ⟨lw_p27, List.forall_mem_cons.mpr ⟨lw_p28, List.forall_mem_cons.mpr ⟨lw_p29, List.forall_mem_cons.mpr ⟨lw_p30, List.forall_mem_cons.mpr ⟨lw_p31, fun _ h => absurd h List.not_mem_nil⟩⟩⟩⟩⟩⟩⟩⟩⟩⟩⟩⟩⟩⟩⟩⟩
theorem lw_p32 : lw_okq (⟨"ZipGuardModel", "judge", "()I"⟩, 31) := ⟨⟨by decide +kernel, by decide +kernel⟩, List.mem_of_getElem? (i := 976) (by decide +kernel), List.mem_of_getElem? (i := 1106) (by decide +kernel), List.mem_of_getElem? (i := 1107) (by decide +kernel)⟩
theorem lw_p33 : lw_okq (⟨"ZipGuardModel", "findEnd", "()I"⟩, 31) := ⟨⟨by decide +kernel, by decide +kernel⟩, List.mem_of_getElem? (i := 976) (by decide +kernel), List.mem_of_getElem? (i := 1110) (by decide +kernel), List.mem_of_getElem? (i := 1111) (by decide +kernel)⟩
theorem lw_p34 : lw_okq (⟨"ZipGuardModel", "isMark", "(JII)Z"⟩, 31) := ⟨⟨by decide +kernel, by decide +kernel⟩, List.mem_of_getElem? (i := 976) (by decide +kernel), List.mem_of_getElem? (i := 1114) (by decide +kernel), List.mem_of_getElem? (i := 1115) (by decide +kernel)⟩
theorem lw_p35 : lw_okq (⟨"ZipGuardModel", "at", "(J)I"⟩, 31) := ⟨⟨by decide +kernel, by decide +kernel⟩, List.mem_of_getElem? (i := 976) (by decide +kernel), List.mem_of_getElem? (i := 1118) (by decide +kernel), List.mem_of_getElem? (i := 1119) (by decide +kernel)⟩
theorem lw_p36 : lw_okq (⟨"ZipGuardModel", "two", "(J)I"⟩, 31) := ⟨⟨by decide +kernel, by decide +kernel⟩, List.mem_of_getElem? (i := 976) (by decide +kernel), List.mem_of_getElem? (i := 1124) (by decide +kernel), List.mem_of_getElem? (i := 1125) (by decide +kernel)⟩
theorem lw_p37 : lw_okq (⟨"ZipGuardModel", "stop", "(IJ)I"⟩, 31) := ⟨⟨by decide +kernel, by decide +kernel⟩, List.mem_of_getElem? (i := 976) (by decide +kernel), List.mem_of_getElem? (i := 1128) (by decide +kernel), List.mem_of_getElem? (i := 1129) (by decide +kernel)⟩
theorem lw_p38 : lw_okq (⟨"ZipGuardModel", "four", "(J)J"⟩, 31) := ⟨⟨by decide +kernel, by decide +kernel⟩, List.mem_of_getElem? (i := 976) (by decide +kernel), List.mem_of_getElem? (i := 1132) (by decide +kernel), List.mem_of_getElem? (i := 1133) (by decide +kernel)⟩
theorem lw_p39 : lw_okq (⟨"ZipGuardModel", "wrongNumber", "(J)J"⟩, 31) := ⟨⟨by decide +kernel, by decide +kernel⟩, List.mem_of_getElem? (i := 976) (by decide +kernel), List.mem_of_getElem? (i := 1140) (by decide +kernel), List.mem_of_getElem? (i := 1141) (by decide +kernel)⟩
theorem lw_p40 : lw_okq (⟨"ZipGuardModel", "isName", "(JI)Z"⟩, 31) := ⟨⟨by decide +kernel, by decide +kernel⟩, List.mem_of_getElem? (i := 976) (by decide +kernel), List.mem_of_getElem? (i := 1151) (by decide +kernel), List.mem_of_getElem? (i := 1152) (by decide +kernel)⟩
theorem lw_p41 : lw_okq (⟨"ZipGuardModel", "isTwice", "(I)Z"⟩, 31) := ⟨⟨by decide +kernel, by decide +kernel⟩, List.mem_of_getElem? (i := 976) (by decide +kernel), List.mem_of_getElem? (i := 1158) (by decide +kernel), List.mem_of_getElem? (i := 1159) (by decide +kernel)⟩
theorem lw_p42 : lw_okq (⟨"ZipGuardModel", "isIn", "(IIZ)Z"⟩, 31) := ⟨⟨by decide +kernel, by decide +kernel⟩, List.mem_of_getElem? (i := 976) (by decide +kernel), List.mem_of_getElem? (i := 1162) (by decide +kernel), List.mem_of_getElem? (i := 1163) (by decide +kernel)⟩
theorem lw_p43 : lw_okq (⟨"ZipGuardModel", "bareSize", "(I)I"⟩, 31) := ⟨⟨by decide +kernel, by decide +kernel⟩, List.mem_of_getElem? (i := 976) (by decide +kernel), List.mem_of_getElem? (i := 1166) (by decide +kernel), List.mem_of_getElem? (i := 1167) (by decide +kernel)⟩
theorem lw_p44 : lw_okq (⟨"ZipGuardModel", "isFolder", "(I)Z"⟩, 31) := ⟨⟨by decide +kernel, by decide +kernel⟩, List.mem_of_getElem? (i := 976) (by decide +kernel), List.mem_of_getElem? (i := 1170) (by decide +kernel), List.mem_of_getElem? (i := 1171) (by decide +kernel)⟩
theorem lw_p45 : lw_okq (⟨"ZipGuardModel", "nameByte", "(II)I"⟩, 31) := ⟨⟨by decide +kernel, by decide +kernel⟩, List.mem_of_getElem? (i := 976) (by decide +kernel), List.mem_of_getElem? (i := 1174) (by decide +kernel), List.mem_of_getElem? (i := 1175) (by decide +kernel)⟩
theorem lw_p46 : lw_okq (⟨"ZipGuardModel", "isLocal", "(IJJ)Z"⟩, 31) := ⟨⟨by decide +kernel, by decide +kernel⟩, List.mem_of_getElem? (i := 976) (by decide +kernel), List.mem_of_getElem? (i := 1178) (by decide +kernel), List.mem_of_getElem? (i := 1179) (by decide +kernel)⟩
theorem lw_p47 : lw_okq (⟨"ZipGuardModel", "isOver", "(I)Z"⟩, 31) := ⟨⟨by decide +kernel, by decide +kernel⟩, List.mem_of_getElem? (i := 976) (by decide +kernel), List.mem_of_getElem? (i := 1186) (by decide +kernel), List.mem_of_getElem? (i := 1187) (by decide +kernel)⟩
def lw_privs_3 : List (MethodName × Nat) := [(⟨"ZipGuardModel", "judge", "()I"⟩, 31), (⟨"ZipGuardModel", "findEnd", "()I"⟩, 31), (⟨"ZipGuardModel", "isMark", "(JII)Z"⟩, 31), (⟨"ZipGuardModel", "at", "(J)I"⟩, 31), (⟨"ZipGuardModel", "two", "(J)I"⟩, 31), (⟨"ZipGuardModel", "stop", "(IJ)I"⟩, 31), (⟨"ZipGuardModel", "four", "(J)J"⟩, 31), (⟨"ZipGuardModel", "wrongNumber", "(J)J"⟩, 31), (⟨"ZipGuardModel", "isName", "(JI)Z"⟩, 31), (⟨"ZipGuardModel", "isTwice", "(I)Z"⟩, 31), (⟨"ZipGuardModel", "isIn", "(IIZ)Z"⟩, 31), (⟨"ZipGuardModel", "bareSize", "(I)I"⟩, 31), (⟨"ZipGuardModel", "isFolder", "(I)Z"⟩, 31), (⟨"ZipGuardModel", "nameByte", "(II)I"⟩, 31), (⟨"ZipGuardModel", "isLocal", "(IJJ)Z"⟩, 31), (⟨"ZipGuardModel", "isOver", "(I)Z"⟩, 31)]
theorem lw_r3 : ∀ q ∈ lw_privs_3, lw_okq q := List.forall_mem_cons.mpr ⟨lw_p32, List.forall_mem_cons.mpr ⟨lw_p33, List.forall_mem_cons.mpr ⟨lw_p34, List.forall_mem_cons.mpr ⟨lw_p35, List.forall_mem_cons.mpr ⟨lw_p36, List.forall_mem_cons.mpr ⟨lw_p37, List.forall_mem_cons.mpr ⟨lw_p38, List.forall_mem_cons.mpr ⟨lw_p39, List.forall_mem_cons.mpr ⟨lw_p40, List.forall_mem_cons.mpr ⟨lw_p41, List.forall_mem_cons.mpr ⟨lw_p42, List.forall_mem_cons.mpr ⟨lw_p43, List.forall_mem_cons.mpr ⟨lw_p44, List.forall_mem_cons.mpr ⟨lw_p45, List.forall_mem_cons.mpr ⟨lw_p46, List.forall_mem_cons.mpr ⟨lw_p47, fun _ h => absurd h List.not_mem_nil⟩⟩⟩⟩⟩⟩⟩⟩⟩⟩⟩⟩⟩⟩⟩⟩
theorem lw_p48 : lw_okq (⟨"ZipGuardModel", "isThere", "(I)Z"⟩, 31) := ⟨⟨by decide +kernel, by decide +kernel⟩, List.mem_of_getElem? (i := 976) (by decide +kernel), List.mem_of_getElem? (i := 1202) (by decide +kernel), List.mem_of_getElem? (i := 1203) (by decide +kernel)⟩
theorem lw_p49 : lw_okq (⟨"ZipGuardModel", "takeOne", "(I)I"⟩, 31) := ⟨⟨by decide +kernel, by decide +kernel⟩, List.mem_of_getElem? (i := 976) (by decide +kernel), List.mem_of_getElem? (i := 1206) (by decide +kernel), List.mem_of_getElem? (i := 1207) (by decide +kernel)⟩
theorem lw_p50 : lw_okq (⟨"ZipGuardModel", "inflate", "()V"⟩, 31) := ⟨⟨by decide +kernel, by decide +kernel⟩, List.mem_of_getElem? (i := 976) (by decide +kernel), List.mem_of_getElem? (i := 1210) (by decide +kernel), List.mem_of_getElem? (i := 1211) (by decide +kernel)⟩
theorem lw_p51 : lw_okq (⟨"ZipGuardModel", "bits", "(I)I"⟩, 31) := ⟨⟨by decide +kernel, by decide +kernel⟩, List.mem_of_getElem? (i := 976) (by decide +kernel), List.mem_of_getElem? (i := 1214) (by decide +kernel), List.mem_of_getElem? (i := 1215) (by decide +kernel)⟩
theorem lw_p52 : lw_okq (⟨"ZipGuardModel", "refuse", "(I)Z"⟩, 31) := ⟨⟨by decide +kernel, by decide +kernel⟩, List.mem_of_getElem? (i := 976) (by decide +kernel), List.mem_of_getElem? (i := 1218) (by decide +kernel), List.mem_of_getElem? (i := 1219) (by decide +kernel)⟩
theorem lw_p53 : lw_okq (⟨"ZipGuardModel", "plainBlock", "()V"⟩, 31) := ⟨⟨by decide +kernel, by decide +kernel⟩, List.mem_of_getElem? (i := 976) (by decide +kernel), List.mem_of_getElem? (i := 1222) (by decide +kernel), List.mem_of_getElem? (i := 1223) (by decide +kernel)⟩
theorem lw_p54 : lw_okq (⟨"ZipGuardModel", "write", "(I)Z"⟩, 31) := ⟨⟨by decide +kernel, by decide +kernel⟩, List.mem_of_getElem? (i := 976) (by decide +kernel), List.mem_of_getElem? (i := 1227) (by decide +kernel), List.mem_of_getElem? (i := 1228) (by decide +kernel)⟩
theorem lw_p55 : lw_okq (⟨"ZipGuardModel", "plainCodes", "()V"⟩, 31) := ⟨⟨by decide +kernel, by decide +kernel⟩, List.mem_of_getElem? (i := 976) (by decide +kernel), List.mem_of_getElem? (i := 1231) (by decide +kernel), List.mem_of_getElem? (i := 1232) (by decide +kernel)⟩
theorem lw_p56 : lw_okq (⟨"ZipGuardModel", "numberBoth", "()V"⟩, 31) := ⟨⟨by decide +kernel, by decide +kernel⟩, List.mem_of_getElem? (i := 976) (by decide +kernel), List.mem_of_getElem? (i := 1235) (by decide +kernel), List.mem_of_getElem? (i := 1236) (by decide +kernel)⟩
theorem lw_p57 : lw_okq (⟨"ZipGuardModel", "readCodes", "()V"⟩, 31) := ⟨⟨by decide +kernel, by decide +kernel⟩, List.mem_of_getElem? (i := 976) (by decide +kernel), List.mem_of_getElem? (i := 1242) (by decide +kernel), List.mem_of_getElem? (i := 1243) (by decide +kernel)⟩
theorem lw_p58 : lw_okq (⟨"ZipGuardModel", "symbol", "([I[III)I"⟩, 31) := ⟨⟨by decide +kernel, by decide +kernel⟩, List.mem_of_getElem? (i := 976) (by decide +kernel), List.mem_of_getElem? (i := 1253) (by decide +kernel), List.mem_of_getElem? (i := 1254) (by decide +kernel)⟩
theorem lw_p59 : lw_okq (⟨"ZipGuardModel", "block", "()V"⟩, 31) := ⟨⟨by decide +kernel, by decide +kernel⟩, List.mem_of_getElem? (i := 976) (by decide +kernel), List.mem_of_getElem? (i := 1257) (by decide +kernel), List.mem_of_getElem? (i := 1258) (by decide +kernel)⟩
theorem lw_p60 : lw_okq (⟨"ZipGuardModel", "lengthOf", "(I)I"⟩, 31) := ⟨⟨by decide +kernel, by decide +kernel⟩, List.mem_of_getElem? (i := 976) (by decide +kernel), List.mem_of_getElem? (i := 1261) (by decide +kernel), List.mem_of_getElem? (i := 1262) (by decide +kernel)⟩
theorem lw_p61 : lw_okq (⟨"ZipGuardModel", "distanceOf", "(I)I"⟩, 31) := ⟨⟨by decide +kernel, by decide +kernel⟩, List.mem_of_getElem? (i := 976) (by decide +kernel), List.mem_of_getElem? (i := 1265) (by decide +kernel), List.mem_of_getElem? (i := 1266) (by decide +kernel)⟩
theorem lw_p62 : lw_okq (⟨"ZipGuardModel", "copy", "(II)V"⟩, 31) := ⟨⟨by decide +kernel, by decide +kernel⟩, List.mem_of_getElem? (i := 976) (by decide +kernel), List.mem_of_getElem? (i := 1269) (by decide +kernel), List.mem_of_getElem? (i := 1270) (by decide +kernel)⟩
theorem lw_p63 : lw_okq (⟨"ZipGuardModel", "sumOf", "(I)I"⟩, 31) := ⟨⟨by decide +kernel, by decide +kernel⟩, List.mem_of_getElem? (i := 976) (by decide +kernel), List.mem_of_getElem? (i := 1273) (by decide +kernel), List.mem_of_getElem? (i := 1274) (by decide +kernel)⟩
def lw_privs_4 : List (MethodName × Nat) := [(⟨"ZipGuardModel", "isThere", "(I)Z"⟩, 31), (⟨"ZipGuardModel", "takeOne", "(I)I"⟩, 31), (⟨"ZipGuardModel", "inflate", "()V"⟩, 31), (⟨"ZipGuardModel", "bits", "(I)I"⟩, 31), (⟨"ZipGuardModel", "refuse", "(I)Z"⟩, 31), (⟨"ZipGuardModel", "plainBlock", "()V"⟩, 31), (⟨"ZipGuardModel", "write", "(I)Z"⟩, 31), (⟨"ZipGuardModel", "plainCodes", "()V"⟩, 31), (⟨"ZipGuardModel", "numberBoth", "()V"⟩, 31), (⟨"ZipGuardModel", "readCodes", "()V"⟩, 31), (⟨"ZipGuardModel", "symbol", "([I[III)I"⟩, 31), (⟨"ZipGuardModel", "block", "()V"⟩, 31), (⟨"ZipGuardModel", "lengthOf", "(I)I"⟩, 31), (⟨"ZipGuardModel", "distanceOf", "(I)I"⟩, 31), (⟨"ZipGuardModel", "copy", "(II)V"⟩, 31), (⟨"ZipGuardModel", "sumOf", "(I)I"⟩, 31)]
theorem lw_r4 : ∀ q ∈ lw_privs_4, lw_okq q := List.forall_mem_cons.mpr ⟨lw_p48, List.forall_mem_cons.mpr ⟨lw_p49, List.forall_mem_cons.mpr ⟨lw_p50, List.forall_mem_cons.mpr ⟨lw_p51, List.forall_mem_cons.mpr ⟨lw_p52, List.forall_mem_cons.mpr ⟨lw_p53, List.forall_mem_cons.mpr ⟨lw_p54, List.forall_mem_cons.mpr ⟨lw_p55, List.forall_mem_cons.mpr ⟨lw_p56, List.forall_mem_cons.mpr ⟨lw_p57, List.forall_mem_cons.mpr ⟨lw_p58, List.forall_mem_cons.mpr ⟨lw_p59, List.forall_mem_cons.mpr ⟨lw_p60, List.forall_mem_cons.mpr ⟨lw_p61, List.forall_mem_cons.mpr ⟨lw_p62, List.forall_mem_cons.mpr ⟨lw_p63, fun _ h => absurd h List.not_mem_nil⟩⟩⟩⟩⟩⟩⟩⟩⟩⟩⟩⟩⟩⟩⟩⟩
def lw_privs : List (MethodName × Nat) := lw_privs_1 ++ (lw_privs_2 ++ (lw_privs_3 ++ (lw_privs_4)))
def lw_tbl : List Cond := k2_sels lw_privs ++ tables_1
theorem lw_privs_ok : ∀ q ∈ lw_privs, lw_okq q := by
  show ∀ q ∈ lw_privs_1 ++ (lw_privs_2 ++ (lw_privs_3 ++ (lw_privs_4))), lw_okq q
  exact List.forall_mem_append.mpr ⟨lw_r1, List.forall_mem_append.mpr ⟨lw_r2, List.forall_mem_append.mpr ⟨lw_r3, lw_r4⟩⟩⟩
end
section
/-! names: the words that the methods need, classes, fields, methods: printed by wip/zg -/
def zt_1 : List Cond := [(Jvm.Cond.initialized "ZipGuardLaw"), (Jvm.Cond.initialized "ZipGuard"), (Jvm.Cond.initialized "ZipGuard$Tape"), (Jvm.Cond.initialized "ZipGuard$Directory"), (Jvm.Cond.initialized "ZipGuard$Entry"), (Jvm.Cond.initialized "ZipGuard$Target"), (Jvm.Cond.initialized "ZipGuard$Unpacker"), (Jvm.Cond.initialized "ZipGuard$BitReader"), (Jvm.Cond.initialized "ZipGuard$CodeSet"), (Jvm.Cond.initialized "java/util/Arrays"), (Jvm.Cond.initialized "java/lang/Throwable"), (Jvm.Cond.initialized "java/lang/Exception"), (Jvm.Cond.initialized "java/lang/RuntimeException"), (Jvm.Cond.initialized "java/lang/IllegalArgumentException"), (Jvm.Cond.initialized "java/lang/IndexOutOfBoundsException"), (Jvm.Cond.initialized "ZipGuardModel"), (Jvm.Cond.initialized "java/lang/IllegalStateException"), (Jvm.Cond.classLink "ZipGuardLaw" (8 : Nat) "ZipGuard"), (Jvm.Cond.instantiable "ZipGuard" (4 : Nat)), (Jvm.Cond.methodLink "ZipGuardLaw" (51 : Nat) ({ cls := "ZipGuard", name := "<init>", desc := "()V" } : Jvm.MethodName)), (Jvm.Cond.instanceMethod ({ cls := "ZipGuard", name := "<init>", desc := "()V" } : Jvm.MethodName)), (Jvm.Cond.code ({ cls := "ZipGuard", name := "<init>", desc := "()V" } : Jvm.MethodName) prog_1_method_1_code (1 : Nat) (Option.none : Option Jvm.ClassFile.FieldType)), (Jvm.Cond.methodLink "ZipGuard" (1 : Nat) ({ cls := "java/lang/Object", name := "<init>", desc := "()V" } : Jvm.MethodName)), (Jvm.Cond.instanceMethod ({ cls := "java/lang/Object", name := "<init>", desc := "()V" } : Jvm.MethodName)), (Jvm.Cond.code ({ cls := "java/lang/Object", name := "<init>", desc := "()V" } : Jvm.MethodName) object_method_1_code (1 : Nat) (Option.none : Option Jvm.ClassFile.FieldType)), (Jvm.Cond.classLink "ZipGuard" (7 : Nat) "ZipGuard$Tape"), (Jvm.Cond.instantiable "ZipGuard$Tape" (2 : Nat)), (Jvm.Cond.methodLink "ZipGuard" (9 : Nat) ({ cls := "ZipGuard$Tape", name := "<init>", desc := "()V" } : Jvm.MethodName)), (Jvm.Cond.instanceMethod ({ cls := "ZipGuard$Tape", name := "<init>", desc := "()V" } : Jvm.MethodName)), (Jvm.Cond.code ({ cls := "ZipGuard$Tape", name := "<init>", desc := "()V" } : Jvm.MethodName) prog_6_method_1_code (1 : Nat) (Option.none : Option Jvm.ClassFile.FieldType)), (Jvm.Cond.methodLink "ZipGuard$Tape" (1 : Nat) ({ cls := "java/lang/Object", name := "<init>", desc := "()V" } : Jvm.MethodName)), (Jvm.Cond.fieldLink "ZipGuard$BitReader" (7 : Nat) "ZipGuard$Tape" "bytes" "[B"), (Jvm.Cond.fieldLink "ZipGuard$Tape" (9 : Nat) "ZipGuard$Tape" "bytes" "[B"), (Jvm.Cond.fieldLink "ZipGuard$Tape" (13 : Nat) "ZipGuard$Tape" "length" "I"), (Jvm.Cond.fieldLink "ZipGuard" (55 : Nat) "ZipGuard$Tape" "length" "I"), (Jvm.Cond.fieldLink "ZipGuard$Directory" (37 : Nat) "ZipGuard$Tape" "length" "I"), (Jvm.Cond.laysFinal "ZipGuard$Tape" "ZipGuard$Tape" "bytes" "[B"), (Jvm.Cond.soleField "ZipGuard$Tape" "bytes"), (Jvm.Cond.lays "ZipGuard$Tape" "ZipGuard$Tape" "length" "I"), (Jvm.Cond.soleField "ZipGuard$Tape" "length"), (Jvm.Cond.superclass "ZipGuard$Tape" "java/lang/Object"), (Jvm.Cond.arrayClass Jvm.ClassFile.FieldType.byte), (Jvm.Cond.classLink "ZipGuard" (16 : Nat) "ZipGuard$Directory"), (Jvm.Cond.instantiable "ZipGuard$Directory" (5 : Nat)), (Jvm.Cond.methodLink "ZipGuard" (18 : Nat) ({ cls := "ZipGuard$Directory", name := "<init>", desc := "(LZipGuard$Tape;)V" } : Jvm.MethodName)), (Jvm.Cond.instanceMethod ({ cls := "ZipGuard$Directory", name := "<init>", desc := "(LZipGuard$Tape;)V" } : Jvm.MethodName)), (Jvm.Cond.code ({ cls := "ZipGuard$Directory", name := "<init>", desc := "(LZipGuard$Tape;)V" } : Jvm.MethodName) prog_4_method_1_code (3 : Nat) (Option.none : Option Jvm.ClassFile.FieldType)), (Jvm.Cond.methodLink "ZipGuard$Directory" (3 : Nat) ({ cls := "java/lang/Object", name := "<init>", desc := "()V" } : Jvm.MethodName)), (Jvm.Cond.classLink "ZipGuard$Directory" (15 : Nat) "ZipGuard$Entry"), (Jvm.Cond.instantiable "ZipGuard$Entry" (12 : Nat)), (Jvm.Cond.methodLink "ZipGuard$Directory" (21 : Nat) ({ cls := "ZipGuard$Entry", name := "<init>", desc := "()V" } : Jvm.MethodName)), (Jvm.Cond.instanceMethod ({ cls := "ZipGuard$Entry", name := "<init>", desc := "()V" } : Jvm.MethodName)), (Jvm.Cond.code ({ cls := "ZipGuard$Entry", name := "<init>", desc := "()V" } : Jvm.MethodName) prog_5_method_1_code (1 : Nat) (Option.none : Option Jvm.ClassFile.FieldType)), (Jvm.Cond.methodLink "ZipGuard$Entry" (1 : Nat) ({ cls := "java/lang/Object", name := "<init>", desc := "()V" } : Jvm.MethodName)), (Jvm.Cond.fieldLink "ZipGuard$Entry" (9 : Nat) "ZipGuard$Entry" "nameBytes" "[B"), (Jvm.Cond.fieldLink "ZipGuard" (135 : Nat) "ZipGuard$Entry" "nameBytes" "[B"), (Jvm.Cond.fieldLink "ZipGuard$Entry" (23 : Nat) "ZipGuard$Entry" "nameLength" "I"), (Jvm.Cond.fieldLink "ZipGuard" (132 : Nat) "ZipGuard$Entry" "nameLength" "I"), (Jvm.Cond.fieldLink "ZipGuard$Unpacker" (60 : Nat) "ZipGuard$Entry" "isFolder" "Z"), (Jvm.Cond.fieldLink "ZipGuard$Entry" (32 : Nat) "ZipGuard$Entry" "isFolder" "Z"), (Jvm.Cond.fieldLink "ZipGuard" (123 : Nat) "ZipGuard$Entry" "isFolder" "Z"), (Jvm.Cond.fieldLink "ZipGuard$Unpacker" (85 : Nat) "ZipGuard$Entry" "method" "I"), (Jvm.Cond.fieldLink "ZipGuard" (108 : Nat) "ZipGuard$Entry" "method" "I"), (Jvm.Cond.fieldLink "ZipGuard$Directory" (125 : Nat) "ZipGuard$Entry" "method" "I"), (Jvm.Cond.fieldLink "ZipGuard$Unpacker" (79 : Nat) "ZipGuard$Entry" "packed" "I"), (Jvm.Cond.fieldLink "ZipGuard$Target" (41 : Nat) "ZipGuard$Entry" "packed" "I"), (Jvm.Cond.fieldLink "ZipGuard$Entry" (39 : Nat) "ZipGuard$Entry" "packed" "I"), (Jvm.Cond.fieldLink "ZipGuard" (113 : Nat) "ZipGuard$Entry" "packed" "I"), (Jvm.Cond.fieldLink "ZipGuard$Directory" (131 : Nat) "ZipGuard$Entry" "packed" "I"), (Jvm.Cond.fieldLink "ZipGuard$Target" (37 : Nat) "ZipGuard$Entry" "size" "J"), (Jvm.Cond.fieldLink "ZipGuard$Unpacker" (102 : Nat) "ZipGuard$Entry" "size" "J"), (Jvm.Cond.fieldLink "ZipGuard" (116 : Nat) "ZipGuard$Entry" "size" "J"), (Jvm.Cond.fieldLink "ZipGuard$Directory" (134 : Nat) "ZipGuard$Entry" "size" "J"), (Jvm.Cond.fieldLink "ZipGuard$Unpacker" (114 : Nat) "ZipGuard$Entry" "sum" "I"), (Jvm.Cond.fieldLink "ZipGuard" (120 : Nat) "ZipGuard$Entry" "sum" "I"), (Jvm.Cond.fieldLink "ZipGuard$Directory" (128 : Nat) "ZipGuard$Entry" "sum" "I"), (Jvm.Cond.fieldLink "ZipGuard$Entry" (42 : Nat) "ZipGuard$Entry" "localPlace" "I"), (Jvm.Cond.fieldLink "ZipGuard$Directory" (113 : Nat) "ZipGuard$Entry" "localPlace" "I"), (Jvm.Cond.fieldLink "ZipGuard$Unpacker" (76 : Nat) "ZipGuard$Entry" "packedPlace" "I"), (Jvm.Cond.fieldLink "ZipGuard$Entry" (36 : Nat) "ZipGuard$Entry" "packedPlace" "I"), (Jvm.Cond.fieldLink "ZipGuard$Directory" (116 : Nat) "ZipGuard$Entry" "packedPlace" "I"), (Jvm.Cond.fieldLink "ZipGuard$Entry" (13 : Nat) "ZipGuard$Entry" "state" "I"), (Jvm.Cond.fieldLink "ZipGuard$Unpacker" (66 : Nat) "ZipGuard$Entry" "state" "I"), (Jvm.Cond.fieldLink "ZipGuard" (126 : Nat) "ZipGuard$Entry" "state" "I"), (Jvm.Cond.fieldLink "ZipGuard$Entry" (17 : Nat) "ZipGuard$Entry" "outPlace" "I"), (Jvm.Cond.fieldLink "ZipGuard$Target" (29 : Nat) "ZipGuard$Entry" "outPlace" "I"), (Jvm.Cond.fieldLink "ZipGuard$Entry" (20 : Nat) "ZipGuard$Entry" "outLength" "I"), (Jvm.Cond.fieldLink "ZipGuard$Target" (34 : Nat) "ZipGuard$Entry" "outLength" "I"), (Jvm.Cond.fieldLink "ZipGuard$Unpacker" (99 : Nat) "ZipGuard$Entry" "outLength" "I"), (Jvm.Cond.fieldLink "ZipGuard" (129 : Nat) "ZipGuard$Entry" "outLength" "I"), (Jvm.Cond.laysFinal "ZipGuard$Entry" "ZipGuard$Entry" "nameBytes" "[B"), (Jvm.Cond.soleField "ZipGuard$Entry" "nameBytes"), (Jvm.Cond.lays "ZipGuard$Entry" "ZipGuard$Entry" "nameLength" "I"), (Jvm.Cond.soleField "ZipGuard$Entry" "nameLength"), (Jvm.Cond.lays "ZipGuard$Entry" "ZipGuard$Entry" "isFolder" "Z"), (Jvm.Cond.soleField "ZipGuard$Entry" "isFolder"), (Jvm.Cond.lays "ZipGuard$Entry" "ZipGuard$Entry" "method" "I"), (Jvm.Cond.soleField "ZipGuard$Entry" "method"), (Jvm.Cond.lays "ZipGuard$Entry" "ZipGuard$Entry" "packed" "I"), (Jvm.Cond.soleField "ZipGuard$Entry" "packed"), (Jvm.Cond.lays "ZipGuard$Entry" "ZipGuard$Entry" "size" "J"), (Jvm.Cond.soleField "ZipGuard$Entry" "size"), (Jvm.Cond.lays "ZipGuard$Entry" "ZipGuard$Entry" "sum" "I"), (Jvm.Cond.soleField "ZipGuard$Entry" "sum"), (Jvm.Cond.lays "ZipGuard$Entry" "ZipGuard$Entry" "localPlace" "I"), (Jvm.Cond.soleField "ZipGuard$Entry" "localPlace"), (Jvm.Cond.lays "ZipGuard$Entry" "ZipGuard$Entry" "packedPlace" "I"), (Jvm.Cond.soleField "ZipGuard$Entry" "packedPlace"), (Jvm.Cond.lays "ZipGuard$Entry" "ZipGuard$Entry" "state" "I"), (Jvm.Cond.soleField "ZipGuard$Entry" "state"), (Jvm.Cond.lays "ZipGuard$Entry" "ZipGuard$Entry" "outPlace" "I"), (Jvm.Cond.soleField "ZipGuard$Entry" "outPlace"), (Jvm.Cond.lays "ZipGuard$Entry" "ZipGuard$Entry" "outLength" "I"), (Jvm.Cond.soleField "ZipGuard$Entry" "outLength"), (Jvm.Cond.superclass "ZipGuard$Entry" "java/lang/Object"), (Jvm.Cond.fieldLink "ZipGuard$Directory" (17 : Nat) "ZipGuard$Directory" "entries" "[LZipGuard$Entry;"), (Jvm.Cond.fieldLink "ZipGuard" (104 : Nat) "ZipGuard$Directory" "entries" "[LZipGuard$Entry;"), (Jvm.Cond.fieldLink "ZipGuard$Directory" (22 : Nat) "ZipGuard$Directory" "count" "I"), (Jvm.Cond.fieldLink "ZipGuard" (101 : Nat) "ZipGuard$Directory" "count" "I"), (Jvm.Cond.fieldLink "ZipGuard$Directory" (26 : Nat) "ZipGuard$Directory" "isOpen" "Z"), (Jvm.Cond.fieldLink "ZipGuard" (97 : Nat) "ZipGuard$Directory" "isOpen" "Z"), (Jvm.Cond.fieldLink "ZipGuard$Directory" (30 : Nat) "ZipGuard$Directory" "faultPlace" "I"), (Jvm.Cond.fieldLink "ZipGuard" (79 : Nat) "ZipGuard$Directory" "faultPlace" "I"), (Jvm.Cond.fieldLink "ZipGuard$Directory" (9 : Nat) "ZipGuard$Directory" "tape" "LZipGuard$Tape;"), (Jvm.Cond.laysFinal "ZipGuard$Directory" "ZipGuard$Directory" "entries" "[LZipGuard$Entry;"), (Jvm.Cond.soleField "ZipGuard$Directory" "entries"), (Jvm.Cond.lays "ZipGuard$Directory" "ZipGuard$Directory" "count" "I"), (Jvm.Cond.soleField "ZipGuard$Directory" "count"), (Jvm.Cond.lays "ZipGuard$Directory" "ZipGuard$Directory" "isOpen" "Z"), (Jvm.Cond.soleField "ZipGuard$Directory" "isOpen"), (Jvm.Cond.lays "ZipGuard$Directory" "ZipGuard$Directory" "faultPlace" "I"), (Jvm.Cond.soleField "ZipGuard$Directory" "faultPlace"), (Jvm.Cond.laysFinal "ZipGuard$Directory" "ZipGuard$Directory" "tape" "LZipGuard$Tape;"), (Jvm.Cond.soleField "ZipGuard$Directory" "tape"), (Jvm.Cond.superclass "ZipGuard$Directory" "java/lang/Object"), (Jvm.Cond.classLink "ZipGuard" (25 : Nat) "ZipGuard$Target"), (Jvm.Cond.instantiable "ZipGuard$Target" (5 : Nat)), (Jvm.Cond.methodLink "ZipGuard" (27 : Nat) ({ cls := "ZipGuard$Target", name := "<init>", desc := "()V" } : Jvm.MethodName)), (Jvm.Cond.instanceMethod ({ cls := "ZipGuard$Target", name := "<init>", desc := "()V" } : Jvm.MethodName)), (Jvm.Cond.code ({ cls := "ZipGuard$Target", name := "<init>", desc := "()V" } : Jvm.MethodName) prog_7_method_1_code (1 : Nat) (Option.none : Option Jvm.ClassFile.FieldType)), (Jvm.Cond.methodLink "ZipGuard$Target" (3 : Nat) ({ cls := "java/lang/Object", name := "<init>", desc := "()V" } : Jvm.MethodName)), (Jvm.Cond.constant "ZipGuard$Target" (9 : Nat) (40000 : Int32)), (Jvm.Cond.fieldLink "ZipGuard$Target" (16 : Nat) "ZipGuard$Target" "budget" "I"), (Jvm.Cond.fieldLink "ZipGuard" (83 : Nat) "ZipGuard$Target" "budget" "I"), (Jvm.Cond.fieldLink "ZipGuard$Target" (20 : Nat) "ZipGuard$Target" "ratio" "I"), (Jvm.Cond.fieldLink "ZipGuard" (86 : Nat) "ZipGuard$Target" "ratio" "I"), (Jvm.Cond.fieldLink "ZipGuard$Target" (23 : Nat) "ZipGuard$Target" "total" "I"), (Jvm.Cond.fieldLink "ZipGuard" (143 : Nat) "ZipGuard$Target" "total" "I"), (Jvm.Cond.fieldLink "ZipGuard$Target" (10 : Nat) "ZipGuard$Target" "bytes" "[B"), (Jvm.Cond.fieldLink "ZipGuard$Target" (26 : Nat) "ZipGuard$Target" "runningSum" "I"), (Jvm.Cond.lays "ZipGuard$Target" "ZipGuard$Target" "budget" "I"), (Jvm.Cond.soleField "ZipGuard$Target" "budget"), (Jvm.Cond.lays "ZipGuard$Target" "ZipGuard$Target" "ratio" "I"), (Jvm.Cond.soleField "ZipGuard$Target" "ratio"), (Jvm.Cond.lays "ZipGuard$Target" "ZipGuard$Target" "total" "I"), (Jvm.Cond.soleField "ZipGuard$Target" "total"), (Jvm.Cond.laysFinal "ZipGuard$Target" "ZipGuard$Target" "bytes" "[B"), (Jvm.Cond.soleField "ZipGuard$Target" "bytes"), (Jvm.Cond.lays "ZipGuard$Target" "ZipGuard$Target" "runningSum" "I"), (Jvm.Cond.soleField "ZipGuard$Target" "runningSum"), (Jvm.Cond.superclass "ZipGuard$Target" "java/lang/Object"), (Jvm.Cond.classLink "ZipGuard" (32 : Nat) "ZipGuard$Unpacker"), (Jvm.Cond.instantiable "ZipGuard$Unpacker" (8 : Nat)), (Jvm.Cond.methodLink "ZipGuard" (34 : Nat) ({ cls := "ZipGuard$Unpacker", name := "<init>", desc := "(LZipGuard$Tape;LZipGuard$Target;)V" } : Jvm.MethodName)), (Jvm.Cond.instanceMethod ({ cls := "ZipGuard$Unpacker", name := "<init>", desc := "(LZipGuard$Tape;LZipGuard$Target;)V" } : Jvm.MethodName)), (Jvm.Cond.code ({ cls := "ZipGuard$Unpacker", name := "<init>", desc := "(LZipGuard$Tape;LZipGuard$Target;)V" } : Jvm.MethodName) prog_8_method_1_code (3 : Nat) (Option.none : Option Jvm.ClassFile.FieldType)), (Jvm.Cond.methodLink "ZipGuard$Unpacker" (1 : Nat) ({ cls := "java/lang/Object", name := "<init>", desc := "()V" } : Jvm.MethodName)), (Jvm.Cond.classLink "ZipGuard$Unpacker" (13 : Nat) "ZipGuard$BitReader"), (Jvm.Cond.instantiable "ZipGuard$BitReader" (4 : Nat)), (Jvm.Cond.methodLink "ZipGuard$Unpacker" (15 : Nat) ({ cls := "ZipGuard$BitReader", name := "<init>", desc := "(LZipGuard$Tape;)V" } : Jvm.MethodName)), (Jvm.Cond.instanceMethod ({ cls := "ZipGuard$BitReader", name := "<init>", desc := "(LZipGuard$Tape;)V" } : Jvm.MethodName)), (Jvm.Cond.code ({ cls := "ZipGuard$BitReader", name := "<init>", desc := "(LZipGuard$Tape;)V" } : Jvm.MethodName) prog_2_method_1_code (2 : Nat) (Option.none : Option Jvm.ClassFile.FieldType)), (Jvm.Cond.methodLink "ZipGuard$BitReader" (1 : Nat) ({ cls := "java/lang/Object", name := "<init>", desc := "()V" } : Jvm.MethodName)), (Jvm.Cond.fieldLink "ZipGuard$BitReader" (13 : Nat) "ZipGuard$BitReader" "bytes" "[B"), (Jvm.Cond.fieldLink "ZipGuard$BitReader" (16 : Nat) "ZipGuard$BitReader" "at" "I"), (Jvm.Cond.fieldLink "ZipGuard$BitReader" (20 : Nat) "ZipGuard$BitReader" "behind" "I"), (Jvm.Cond.fieldLink "ZipGuard$BitReader" (23 : Nat) "ZipGuard$BitReader" "usedBits" "I"), (Jvm.Cond.laysFinal "ZipGuard$BitReader" "ZipGuard$BitReader" "bytes" "[B"), (Jvm.Cond.soleField "ZipGuard$BitReader" "bytes"), (Jvm.Cond.lays "ZipGuard$BitReader" "ZipGuard$BitReader" "at" "I"), (Jvm.Cond.soleField "ZipGuard$BitReader" "at"), (Jvm.Cond.lays "ZipGuard$BitReader" "ZipGuard$BitReader" "behind" "I"), (Jvm.Cond.soleField "ZipGuard$BitReader" "behind"), (Jvm.Cond.lays "ZipGuard$BitReader" "ZipGuard$BitReader" "usedBits" "I"), (Jvm.Cond.soleField "ZipGuard$BitReader" "usedBits"), (Jvm.Cond.superclass "ZipGuard$BitReader" "java/lang/Object"), (Jvm.Cond.classLink "ZipGuard$Unpacker" (26 : Nat) "ZipGuard$CodeSet"), (Jvm.Cond.instantiable "ZipGuard$CodeSet" (4 : Nat)), (Jvm.Cond.methodLink "ZipGuard$Unpacker" (28 : Nat) ({ cls := "ZipGuard$CodeSet", name := "<init>", desc := "(I)V" } : Jvm.MethodName)), (Jvm.Cond.instanceMethod ({ cls := "ZipGuard$CodeSet", name := "<init>", desc := "(I)V" } : Jvm.MethodName)), (Jvm.Cond.code ({ cls := "ZipGuard$CodeSet", name := "<init>", desc := "(I)V" } : Jvm.MethodName) prog_3_method_1_code (2 : Nat) (Option.none : Option Jvm.ClassFile.FieldType)), (Jvm.Cond.methodLink "ZipGuard$CodeSet" (1 : Nat) ({ cls := "java/lang/Object", name := "<init>", desc := "()V" } : Jvm.MethodName)), (Jvm.Cond.fieldLink "ZipGuard$CodeSet" (9 : Nat) "ZipGuard$CodeSet" "countOfLength" "[I"), (Jvm.Cond.fieldLink "ZipGuard$CodeSet" (13 : Nat) "ZipGuard$CodeSet" "nextOfLength" "[I"), (Jvm.Cond.fieldLink "ZipGuard$CodeSet" (16 : Nat) "ZipGuard$CodeSet" "symbols" "[I"), (Jvm.Cond.fieldLink "ZipGuard$CodeSet" (19 : Nat) "ZipGuard$CodeSet" "codes" "I"), (Jvm.Cond.laysFinal "ZipGuard$CodeSet" "ZipGuard$CodeSet" "countOfLength" "[I"), (Jvm.Cond.soleField "ZipGuard$CodeSet" "countOfLength"), (Jvm.Cond.laysFinal "ZipGuard$CodeSet" "ZipGuard$CodeSet" "nextOfLength" "[I"), (Jvm.Cond.soleField "ZipGuard$CodeSet" "nextOfLength"), (Jvm.Cond.laysFinal "ZipGuard$CodeSet" "ZipGuard$CodeSet" "symbols" "[I"), (Jvm.Cond.soleField "ZipGuard$CodeSet" "symbols"), (Jvm.Cond.lays "ZipGuard$CodeSet" "ZipGuard$CodeSet" "codes" "I"), (Jvm.Cond.soleField "ZipGuard$CodeSet" "codes"), (Jvm.Cond.superclass "ZipGuard$CodeSet" "java/lang/Object"), (Jvm.Cond.arrayClass Jvm.ClassFile.FieldType.int), (Jvm.Cond.methodLink "ZipGuard$Unpacker" (47 : Nat) ({ cls := "ZipGuard$Unpacker", name := "buildFixedCodes", desc := "()V" } : Jvm.MethodName)), (Jvm.Cond.instanceMethod ({ cls := "ZipGuard$Unpacker", name := "buildFixedCodes", desc := "()V" } : Jvm.MethodName)), (Jvm.Cond.code ({ cls := "ZipGuard$Unpacker", name := "buildFixedCodes", desc := "()V" } : Jvm.MethodName) prog_8_method_2_code (1 : Nat) (Option.none : Option Jvm.ClassFile.FieldType)), (Jvm.Cond.methodLink "ZipGuard$Unpacker" (50 : Nat) ({ cls := "java/util/Arrays", name := "fill", desc := "([IIII)V" } : Jvm.MethodName)), (Jvm.Cond.static ({ cls := "java/util/Arrays", name := "fill", desc := "([IIII)V" } : Jvm.MethodName)), (Jvm.Cond.code ({ cls := "java/util/Arrays", name := "fill", desc := "([IIII)V" } : Jvm.MethodName) prog_27_method_104_code (5 : Nat) (Option.none : Option Jvm.ClassFile.FieldType)), (Jvm.Cond.methodLink "java/util/Arrays" (13 : Nat) ({ cls := "java/util/Arrays", name := "rangeCheck", desc := "(III)V" } : Jvm.MethodName)), (Jvm.Cond.static ({ cls := "java/util/Arrays", name := "rangeCheck", desc := "(III)V" } : Jvm.MethodName)), (Jvm.Cond.code ({ cls := "java/util/Arrays", name := "rangeCheck", desc := "(III)V" } : Jvm.MethodName) prog_27_method_30_code (3 : Nat) (Option.none : Option Jvm.ClassFile.FieldType)), (Jvm.Cond.classLink "java/util/Arrays" (43 : Nat) "java/lang/IllegalArgumentException"), (Jvm.Cond.instantiable "java/lang/IllegalArgumentException" (6 : Nat)), (Jvm.Cond.selects "java/lang/IllegalArgumentException" ({ cls := "java/lang/Throwable", name := "fillInStackTrace", desc := "(I)Ljava/lang/Throwable;" } : Jvm.MethodName) ({ cls := "java/lang/Throwable", name := "fillInStackTrace", desc := "(I)Ljava/lang/Throwable;" } : Jvm.MethodName)), (Jvm.Cond.selects "java/lang/IllegalArgumentException" ({ cls := "java/lang/Throwable", name := "fillInStackTrace", desc := "()Ljava/lang/Throwable;" } : Jvm.MethodName) ({ cls := "java/lang/Throwable", name := "fillInStackTrace", desc := "()Ljava/lang/Throwable;" } : Jvm.MethodName)), (Jvm.Cond.lays "java/lang/IllegalArgumentException" "java/lang/Throwable" "cause" "Ljava/lang/Throwable;")]
def zt_2 : List Cond := [(Jvm.Cond.lays "java/lang/Throwable" "java/lang/Throwable" "cause" "Ljava/lang/Throwable;"), (Jvm.Cond.lays "java/lang/IllegalArgumentException" "java/lang/Throwable" "stackTrace" "[Ljava/lang/StackTraceElement;"), (Jvm.Cond.lays "java/lang/Throwable" "java/lang/Throwable" "stackTrace" "[Ljava/lang/StackTraceElement;"), (Jvm.Cond.lays "java/lang/IllegalArgumentException" "java/lang/Throwable" "suppressedExceptions" "Ljava/util/List;"), (Jvm.Cond.lays "java/lang/Throwable" "java/lang/Throwable" "suppressedExceptions" "Ljava/util/List;"), (Jvm.Cond.lays "java/lang/IllegalArgumentException" "java/lang/Throwable" "detailMessage" "Ljava/lang/String;"), (Jvm.Cond.lays "java/lang/Throwable" "java/lang/Throwable" "detailMessage" "Ljava/lang/String;"), (Jvm.Cond.lays "java/lang/IllegalArgumentException" "java/lang/Throwable" "backtrace" "Ljava/lang/Object;"), (Jvm.Cond.lays "java/lang/Throwable" "java/lang/Throwable" "backtrace" "Ljava/lang/Object;"), (Jvm.Cond.fieldLink "java/lang/Throwable" (198 : Nat) "java/lang/Throwable" "backtrace" "Ljava/lang/Object;"), (Jvm.Cond.superclass "java/lang/Throwable" "java/lang/Object"), (Jvm.Cond.instanceMethod ({ cls := "java/lang/Throwable", name := "<init>", desc := "()V" } : Jvm.MethodName)), (Jvm.Cond.code ({ cls := "java/lang/Throwable", name := "<init>", desc := "()V" } : Jvm.MethodName) prog_26_method_1_code (1 : Nat) (Option.none : Option Jvm.ClassFile.FieldType)), (Jvm.Cond.methodLink "java/lang/Throwable" (1 : Nat) ({ cls := "java/lang/Object", name := "<init>", desc := "()V" } : Jvm.MethodName)), (Jvm.Cond.fieldLink "java/lang/Throwable" (13 : Nat) "java/lang/Throwable" "UNASSIGNED_STACK" "[Ljava/lang/StackTraceElement;"), (Jvm.Cond.fieldLink "java/lang/Throwable" (20 : Nat) "java/lang/Throwable" "SUPPRESSED_SENTINEL" "Ljava/util/List;"), (Jvm.Cond.methodLink "java/lang/Throwable" (27 : Nat) ({ cls := "java/lang/Throwable", name := "fillInStackTrace", desc := "()Ljava/lang/Throwable;" } : Jvm.MethodName)), (Jvm.Cond.instanceMethod ({ cls := "java/lang/Throwable", name := "fillInStackTrace", desc := "()Ljava/lang/Throwable;" } : Jvm.MethodName)), (Jvm.Cond.sameMethod "java/lang/Throwable" "java/lang/Throwable" "fillInStackTrace" "()Ljava/lang/Throwable;"), (Jvm.Cond.selects "java/lang/IllegalStateException" ({ cls := "java/lang/Throwable", name := "fillInStackTrace", desc := "()Ljava/lang/Throwable;" } : Jvm.MethodName) ({ cls := "java/lang/Throwable", name := "fillInStackTrace", desc := "()Ljava/lang/Throwable;" } : Jvm.MethodName)), (Jvm.Cond.selects "java/lang/IndexOutOfBoundsException" ({ cls := "java/lang/Throwable", name := "fillInStackTrace", desc := "()Ljava/lang/Throwable;" } : Jvm.MethodName) ({ cls := "java/lang/Throwable", name := "fillInStackTrace", desc := "()Ljava/lang/Throwable;" } : Jvm.MethodName)), (Jvm.Cond.codeSync ({ cls := "java/lang/Throwable", name := "fillInStackTrace", desc := "()Ljava/lang/Throwable;" } : Jvm.MethodName) prog_26_method_18_code (1 : Nat) (Option.some (Jvm.ClassFile.FieldType.object "java/lang/Throwable"))), (Jvm.Cond.methodLink "java/lang/Throwable" (202 : Nat) ({ cls := "java/lang/Throwable", name := "fillInStackTrace", desc := "(I)Ljava/lang/Throwable;" } : Jvm.MethodName)), (Jvm.Cond.instanceMethod ({ cls := "java/lang/Throwable", name := "fillInStackTrace", desc := "(I)Ljava/lang/Throwable;" } : Jvm.MethodName)), (Jvm.Cond.instantiable "java/lang/Throwable" (6 : Nat)), (Jvm.Cond.native ({ cls := "java/lang/Throwable", name := "fillInStackTrace", desc := "(I)Ljava/lang/Throwable;" } : Jvm.MethodName)), (Jvm.Cond.classLink "java/util/Arrays" (45 : Nat) "java/lang/StringBuilder"), (Jvm.Cond.methodLink "java/util/Arrays" (47 : Nat) ({ cls := "java/lang/StringBuilder", name := "<init>", desc := "()V" } : Jvm.MethodName)), (Jvm.Cond.methodLink "java/util/Arrays" (50 : Nat) ({ cls := "java/lang/StringBuilder", name := "append", desc := "(Ljava/lang/String;)Ljava/lang/StringBuilder;" } : Jvm.MethodName)), (Jvm.Cond.static ({ cls := "java/util/Arrays", name := "copyOf", desc := "([BI)[B" } : Jvm.MethodName)), (Jvm.Cond.code ({ cls := "java/util/Arrays", name := "copyOf", desc := "([BI)[B" } : Jvm.MethodName) prog_27_method_121_code (3 : Nat) (Option.some (Jvm.ClassFile.FieldType.array Jvm.ClassFile.FieldType.byte))), (Jvm.Cond.methodLink "java/util/Arrays" (310 : Nat) ({ cls := "[B", name := "clone", desc := "()Ljava/lang/Object;" } : Jvm.MethodName)), (Jvm.Cond.sameMethod "[B" "java/lang/Object" "clone" "()Ljava/lang/Object;"), (Jvm.Cond.native ({ cls := "java/lang/Object", name := "clone", desc := "()Ljava/lang/Object;" } : Jvm.MethodName)), (Jvm.Cond.instanceMethod ({ cls := "java/lang/Object", name := "clone", desc := "()Ljava/lang/Object;" } : Jvm.MethodName)), (Jvm.Cond.selects "[B" ({ cls := "[B", name := "clone", desc := "()Ljava/lang/Object;" } : Jvm.MethodName) ({ cls := "java/lang/Object", name := "clone", desc := "()Ljava/lang/Object;" } : Jvm.MethodName)), (Jvm.Cond.classLink "java/util/Arrays" (311 : Nat) "[B"), (Jvm.Cond.methodLink "java/util/Arrays" (304 : Nat) ({ cls := "java/lang/Math", name := "min", desc := "(II)I" } : Jvm.MethodName)), (Jvm.Cond.methodLink "java/util/Arrays" (150 : Nat) ({ cls := "java/lang/System", name := "arraycopy", desc := "(Ljava/lang/Object;ILjava/lang/Object;II)V" } : Jvm.MethodName)), (Jvm.Cond.methodLink "java/util/Arrays" (54 : Nat) ({ cls := "java/lang/StringBuilder", name := "append", desc := "(I)Ljava/lang/StringBuilder;" } : Jvm.MethodName)), (Jvm.Cond.methodLink "java/util/Arrays" (61 : Nat) ({ cls := "java/lang/StringBuilder", name := "toString", desc := "()Ljava/lang/String;" } : Jvm.MethodName)), (Jvm.Cond.static ({ cls := "java/util/Arrays", name := "copyOfRange", desc := "([BII)[B" } : Jvm.MethodName)), (Jvm.Cond.code ({ cls := "java/util/Arrays", name := "copyOfRange", desc := "([BII)[B" } : Jvm.MethodName) prog_27_method_132_code (3 : Nat) (Option.some (Jvm.ClassFile.FieldType.array Jvm.ClassFile.FieldType.byte))), (Jvm.Cond.methodLink "java/util/Arrays" (339 : Nat) ({ cls := "java/util/Arrays", name := "copyOfRangeByte", desc := "([BII)[B" } : Jvm.MethodName))]
def zt_3 : List Cond := [(Jvm.Cond.static ({ cls := "java/util/Arrays", name := "copyOfRangeByte", desc := "([BII)[B" } : Jvm.MethodName)), (Jvm.Cond.code ({ cls := "java/util/Arrays", name := "copyOfRangeByte", desc := "([BII)[B" } : Jvm.MethodName) prog_27_method_133_code (5 : Nat) (Option.some (Jvm.ClassFile.FieldType.array Jvm.ClassFile.FieldType.byte))), (Jvm.Cond.methodLink "java/util/Arrays" (343 : Nat) ({ cls := "java/util/Arrays", name := "checkLength", desc := "(II)V" } : Jvm.MethodName)), (Jvm.Cond.static ({ cls := "java/util/Arrays", name := "checkLength", desc := "(II)V" } : Jvm.MethodName)), (Jvm.Cond.code ({ cls := "java/util/Arrays", name := "checkLength", desc := "(II)V" } : Jvm.MethodName) prog_27_method_131_code (2 : Nat) (Option.none : Option Jvm.ClassFile.FieldType)), (Jvm.Cond.methodLink "java/util/Arrays" (65 : Nat) ({ cls := "java/lang/IllegalArgumentException", name := "<init>", desc := "(Ljava/lang/String;)V" } : Jvm.MethodName)), (Jvm.Cond.instanceMethod ({ cls := "java/lang/IllegalArgumentException", name := "<init>", desc := "(Ljava/lang/String;)V" } : Jvm.MethodName)), (Jvm.Cond.code ({ cls := "java/lang/IllegalArgumentException", name := "<init>", desc := "(Ljava/lang/String;)V" } : Jvm.MethodName) prog_15_method_2_code (2 : Nat) (Option.none : Option Jvm.ClassFile.FieldType)), (Jvm.Cond.methodLink "java/lang/IllegalArgumentException" (7 : Nat) ({ cls := "java/lang/RuntimeException", name := "<init>", desc := "(Ljava/lang/String;)V" } : Jvm.MethodName)), (Jvm.Cond.instanceMethod ({ cls := "java/lang/RuntimeException", name := "<init>", desc := "(Ljava/lang/String;)V" } : Jvm.MethodName)), (Jvm.Cond.code ({ cls := "java/lang/RuntimeException", name := "<init>", desc := "(Ljava/lang/String;)V" } : Jvm.MethodName) prog_20_method_2_code (2 : Nat) (Option.none : Option Jvm.ClassFile.FieldType)), (Jvm.Cond.methodLink "java/lang/RuntimeException" (7 : Nat) ({ cls := "java/lang/Exception", name := "<init>", desc := "(Ljava/lang/String;)V" } : Jvm.MethodName)), (Jvm.Cond.instanceMethod ({ cls := "java/lang/Exception", name := "<init>", desc := "(Ljava/lang/String;)V" } : Jvm.MethodName)), (Jvm.Cond.code ({ cls := "java/lang/Exception", name := "<init>", desc := "(Ljava/lang/String;)V" } : Jvm.MethodName) prog_14_method_2_code (2 : Nat) (Option.none : Option Jvm.ClassFile.FieldType)), (Jvm.Cond.methodLink "java/lang/Exception" (7 : Nat) ({ cls := "java/lang/Throwable", name := "<init>", desc := "(Ljava/lang/String;)V" } : Jvm.MethodName)), (Jvm.Cond.instanceMethod ({ cls := "java/lang/Throwable", name := "<init>", desc := "(Ljava/lang/String;)V" } : Jvm.MethodName)), (Jvm.Cond.code ({ cls := "java/lang/Throwable", name := "<init>", desc := "(Ljava/lang/String;)V" } : Jvm.MethodName) prog_26_method_2_code (2 : Nat) (Option.none : Option Jvm.ClassFile.FieldType)), (Jvm.Cond.fieldLink "java/lang/Throwable" (198 : Nat) "java/lang/Throwable" "backtrace" "Ljava/lang/Object;"), (Jvm.Cond.fieldLink "java/lang/Throwable" (31 : Nat) "java/lang/Throwable" "detailMessage" "Ljava/lang/String;"), (Jvm.Cond.fieldLink "java/lang/Throwable" (7 : Nat) "java/lang/Throwable" "cause" "Ljava/lang/Throwable;"), (Jvm.Cond.fieldLink "java/lang/Throwable" (17 : Nat) "java/lang/Throwable" "stackTrace" "[Ljava/lang/StackTraceElement;"), (Jvm.Cond.fieldLink "java/lang/Throwable" (24 : Nat) "java/lang/Throwable" "suppressedExceptions" "Ljava/util/List;"), (Jvm.Cond.soleField "java/lang/Throwable" "backtrace"), (Jvm.Cond.soleField "java/lang/Throwable" "detailMessage"), (Jvm.Cond.soleField "java/lang/Throwable" "cause"), (Jvm.Cond.soleField "java/lang/Throwable" "stackTrace"), (Jvm.Cond.lays "java/lang/IllegalArgumentException" "java/lang/Throwable" "depth" "I"), (Jvm.Cond.soleField "java/lang/Throwable" "depth"), (Jvm.Cond.soleField "java/lang/Throwable" "suppressedExceptions"), (Jvm.Cond.superclass "java/lang/IllegalArgumentException" "java/lang/RuntimeException"), (Jvm.Cond.classLink "java/util/Arrays" (68 : Nat) "java/lang/ArrayIndexOutOfBoundsException"), (Jvm.Cond.methodLink "java/util/Arrays" (70 : Nat) ({ cls := "java/lang/ArrayIndexOutOfBoundsException", name := "<init>", desc := "(I)V" } : Jvm.MethodName)), (Jvm.Cond.instanceMethod ({ cls := "java/lang/IndexOutOfBoundsException", name := "<init>", desc := "(Ljava/lang/String;)V" } : Jvm.MethodName)), (Jvm.Cond.code ({ cls := "java/lang/IndexOutOfBoundsException", name := "<init>", desc := "(Ljava/lang/String;)V" } : Jvm.MethodName) prog_17_method_2_code (2 : Nat) (Option.none : Option Jvm.ClassFile.FieldType)), (Jvm.Cond.methodLink "java/lang/IndexOutOfBoundsException" (7 : Nat) ({ cls := "java/lang/RuntimeException", name := "<init>", desc := "(Ljava/lang/String;)V" } : Jvm.MethodName)), (Jvm.Cond.methodLink "ZipGuard$Unpacker" (56 : Nat) ({ cls := "ZipGuard$CodeSet", name := "build", desc := "([III)V" } : Jvm.MethodName)), (Jvm.Cond.instanceMethod ({ cls := "ZipGuard$CodeSet", name := "build", desc := "([III)V" } : Jvm.MethodName)), (Jvm.Cond.selects "ZipGuard$CodeSet" ({ cls := "ZipGuard$CodeSet", name := "build", desc := "([III)V" } : Jvm.MethodName) ({ cls := "ZipGuard$CodeSet", name := "build", desc := "([III)V" } : Jvm.MethodName)), (Jvm.Cond.code ({ cls := "ZipGuard$CodeSet", name := "build", desc := "([III)V" } : Jvm.MethodName) prog_3_method_2_code (6 : Nat) (Option.none : Option Jvm.ClassFile.FieldType)), (Jvm.Cond.methodLink "ZipGuard$CodeSet" (23 : Nat) ({ cls := "java/util/Arrays", name := "fill", desc := "([II)V" } : Jvm.MethodName)), (Jvm.Cond.static ({ cls := "java/util/Arrays", name := "fill", desc := "([II)V" } : Jvm.MethodName)), (Jvm.Cond.code ({ cls := "java/util/Arrays", name := "fill", desc := "([II)V" } : Jvm.MethodName) prog_27_method_103_code (4 : Nat) (Option.none : Option Jvm.ClassFile.FieldType)), (Jvm.Cond.fieldLink "ZipGuard$Unpacker" (7 : Nat) "ZipGuard$Unpacker" "target" "LZipGuard$Target;"), (Jvm.Cond.fieldLink "ZipGuard$Unpacker" (18 : Nat) "ZipGuard$Unpacker" "bits" "LZipGuard$BitReader;"), (Jvm.Cond.fieldLink "ZipGuard$Unpacker" (22 : Nat) "ZipGuard$Unpacker" "row" "[I"), (Jvm.Cond.fieldLink "ZipGuard$Unpacker" (31 : Nat) "ZipGuard$Unpacker" "fixedSymbols" "LZipGuard$CodeSet;"), (Jvm.Cond.fieldLink "ZipGuard$Unpacker" (35 : Nat) "ZipGuard$Unpacker" "fixedDistances" "LZipGuard$CodeSet;"), (Jvm.Cond.fieldLink "ZipGuard$Unpacker" (38 : Nat) "ZipGuard$Unpacker" "lengthCodes" "LZipGuard$CodeSet;"), (Jvm.Cond.fieldLink "ZipGuard$Unpacker" (41 : Nat) "ZipGuard$Unpacker" "ownSymbols" "LZipGuard$CodeSet;"), (Jvm.Cond.fieldLink "ZipGuard$Unpacker" (44 : Nat) "ZipGuard$Unpacker" "ownDistances" "LZipGuard$CodeSet;"), (Jvm.Cond.laysFinal "ZipGuard$Unpacker" "ZipGuard$Unpacker" "target" "LZipGuard$Target;"), (Jvm.Cond.soleField "ZipGuard$Unpacker" "target"), (Jvm.Cond.laysFinal "ZipGuard$Unpacker" "ZipGuard$Unpacker" "bits" "LZipGuard$BitReader;"), (Jvm.Cond.soleField "ZipGuard$Unpacker" "bits"), (Jvm.Cond.laysFinal "ZipGuard$Unpacker" "ZipGuard$Unpacker" "row" "[I"), (Jvm.Cond.soleField "ZipGuard$Unpacker" "row"), (Jvm.Cond.laysFinal "ZipGuard$Unpacker" "ZipGuard$Unpacker" "fixedSymbols" "LZipGuard$CodeSet;"), (Jvm.Cond.soleField "ZipGuard$Unpacker" "fixedSymbols"), (Jvm.Cond.laysFinal "ZipGuard$Unpacker" "ZipGuard$Unpacker" "fixedDistances" "LZipGuard$CodeSet;"), (Jvm.Cond.soleField "ZipGuard$Unpacker" "fixedDistances"), (Jvm.Cond.laysFinal "ZipGuard$Unpacker" "ZipGuard$Unpacker" "lengthCodes" "LZipGuard$CodeSet;"), (Jvm.Cond.soleField "ZipGuard$Unpacker" "lengthCodes"), (Jvm.Cond.laysFinal "ZipGuard$Unpacker" "ZipGuard$Unpacker" "ownSymbols" "LZipGuard$CodeSet;"), (Jvm.Cond.soleField "ZipGuard$Unpacker" "ownSymbols"), (Jvm.Cond.laysFinal "ZipGuard$Unpacker" "ZipGuard$Unpacker" "ownDistances" "LZipGuard$CodeSet;"), (Jvm.Cond.soleField "ZipGuard$Unpacker" "ownDistances"), (Jvm.Cond.superclass "ZipGuard$Unpacker" "java/lang/Object"), (Jvm.Cond.fieldLink "ZipGuard" (10 : Nat) "ZipGuard" "tape" "LZipGuard$Tape;"), (Jvm.Cond.fieldLink "ZipGuard" (21 : Nat) "ZipGuard" "directory" "LZipGuard$Directory;"), (Jvm.Cond.fieldLink "ZipGuard" (28 : Nat) "ZipGuard" "target" "LZipGuard$Target;"), (Jvm.Cond.fieldLink "ZipGuard" (37 : Nat) "ZipGuard" "unpacker" "LZipGuard$Unpacker;"), (Jvm.Cond.laysFinal "ZipGuard" "ZipGuard" "tape" "LZipGuard$Tape;"), (Jvm.Cond.soleField "ZipGuard" "tape"), (Jvm.Cond.laysFinal "ZipGuard" "ZipGuard" "directory" "LZipGuard$Directory;"), (Jvm.Cond.soleField "ZipGuard" "directory"), (Jvm.Cond.laysFinal "ZipGuard" "ZipGuard" "target" "LZipGuard$Target;"), (Jvm.Cond.soleField "ZipGuard" "target"), (Jvm.Cond.laysFinal "ZipGuard" "ZipGuard" "unpacker" "LZipGuard$Unpacker;"), (Jvm.Cond.soleField "ZipGuard" "unpacker"), (Jvm.Cond.superclass "ZipGuard" "java/lang/Object"), (Jvm.Cond.methodLink "ZipGuardLaw" (72 : Nat) ({ cls := "ZipGuard", name := "open", desc := "()I" } : Jvm.MethodName)), (Jvm.Cond.instanceMethod ({ cls := "ZipGuard", name := "open", desc := "()I" } : Jvm.MethodName)), (Jvm.Cond.selects "ZipGuard" ({ cls := "ZipGuard", name := "open", desc := "()I" } : Jvm.MethodName) ({ cls := "ZipGuard", name := "open", desc := "()I" } : Jvm.MethodName)), (Jvm.Cond.code ({ cls := "ZipGuard", name := "open", desc := "()I" } : Jvm.MethodName) prog_1_method_5_code (1 : Nat) (Option.some Jvm.ClassFile.FieldType.int)), (Jvm.Cond.methodLink "ZipGuard" (72 : Nat) ({ cls := "ZipGuard$Target", name := "clear", desc := "()V" } : Jvm.MethodName)), (Jvm.Cond.instanceMethod ({ cls := "ZipGuard$Target", name := "clear", desc := "()V" } : Jvm.MethodName)), (Jvm.Cond.selects "ZipGuard$Target" ({ cls := "ZipGuard$Target", name := "clear", desc := "()V" } : Jvm.MethodName) ({ cls := "ZipGuard$Target", name := "clear", desc := "()V" } : Jvm.MethodName)), (Jvm.Cond.code ({ cls := "ZipGuard$Target", name := "clear", desc := "()V" } : Jvm.MethodName) prog_7_method_2_code (1 : Nat) (Option.none : Option Jvm.ClassFile.FieldType)), (Jvm.Cond.methodLink "ZipGuard" (75 : Nat) ({ cls := "ZipGuard$Directory", name := "read", desc := "()I" } : Jvm.MethodName)), (Jvm.Cond.instanceMethod ({ cls := "ZipGuard$Directory", name := "read", desc := "()I" } : Jvm.MethodName)), (Jvm.Cond.selects "ZipGuard$Directory" ({ cls := "ZipGuard$Directory", name := "read", desc := "()I" } : Jvm.MethodName) ({ cls := "ZipGuard$Directory", name := "read", desc := "()I" } : Jvm.MethodName)), (Jvm.Cond.code ({ cls := "ZipGuard$Directory", name := "read", desc := "()I" } : Jvm.MethodName) prog_4_method_3_code (3 : Nat) (Option.some Jvm.ClassFile.FieldType.int)), (Jvm.Cond.methodLink "ZipGuard$Directory" (33 : Nat) ({ cls := "ZipGuard$Directory", name := "findEnd", desc := "()I" } : Jvm.MethodName)), (Jvm.Cond.instanceMethod ({ cls := "ZipGuard$Directory", name := "findEnd", desc := "()I" } : Jvm.MethodName)), (Jvm.Cond.code ({ cls := "ZipGuard$Directory", name := "findEnd", desc := "()I" } : Jvm.MethodName) prog_4_method_5_code (2 : Nat) (Option.some Jvm.ClassFile.FieldType.int)), (Jvm.Cond.methodLink "ZipGuard$Directory" (53 : Nat) ({ cls := "ZipGuard$Tape", name := "hasMarkAt", desc := "(III)Z" } : Jvm.MethodName)), (Jvm.Cond.instanceMethod ({ cls := "ZipGuard$Tape", name := "hasMarkAt", desc := "(III)Z" } : Jvm.MethodName)), (Jvm.Cond.selects "ZipGuard$Tape" ({ cls := "ZipGuard$Tape", name := "hasMarkAt", desc := "(III)Z" } : Jvm.MethodName) ({ cls := "ZipGuard$Tape", name := "hasMarkAt", desc := "(III)Z" } : Jvm.MethodName)), (Jvm.Cond.code ({ cls := "ZipGuard$Tape", name := "hasMarkAt", desc := "(III)Z" } : Jvm.MethodName) prog_6_method_9_code (4 : Nat) (Option.some Jvm.ClassFile.FieldType.boolean)), (Jvm.Cond.methodLink "ZipGuard$Tape" (21 : Nat) ({ cls := "ZipGuard$Tape", name := "byteAt", desc := "(I)I" } : Jvm.MethodName)), (Jvm.Cond.instanceMethod ({ cls := "ZipGuard$Tape", name := "byteAt", desc := "(I)I" } : Jvm.MethodName)), (Jvm.Cond.selects "ZipGuard$Tape" ({ cls := "ZipGuard$Tape", name := "byteAt", desc := "(I)I" } : Jvm.MethodName) ({ cls := "ZipGuard$Tape", name := "byteAt", desc := "(I)I" } : Jvm.MethodName)), (Jvm.Cond.code ({ cls := "ZipGuard$Tape", name := "byteAt", desc := "(I)I" } : Jvm.MethodName) prog_6_method_6_code (2 : Nat) (Option.some Jvm.ClassFile.FieldType.int)), (Jvm.Cond.methodLink "ZipGuard$Directory" (57 : Nat) ({ cls := "ZipGuard$Tape", name := "twoAt", desc := "(I)I" } : Jvm.MethodName)), (Jvm.Cond.instanceMethod ({ cls := "ZipGuard$Tape", name := "twoAt", desc := "(I)I" } : Jvm.MethodName)), (Jvm.Cond.selects "ZipGuard$Tape" ({ cls := "ZipGuard$Tape", name := "twoAt", desc := "(I)I" } : Jvm.MethodName) ({ cls := "ZipGuard$Tape", name := "twoAt", desc := "(I)I" } : Jvm.MethodName)), (Jvm.Cond.code ({ cls := "ZipGuard$Tape", name := "twoAt", desc := "(I)I" } : Jvm.MethodName) prog_6_method_7_code (2 : Nat) (Option.some Jvm.ClassFile.FieldType.int)), (Jvm.Cond.methodLink "ZipGuard$Directory" (42 : Nat) ({ cls := "ZipGuard$Directory", name := "faultAt", desc := "(II)I" } : Jvm.MethodName)), (Jvm.Cond.instanceMethod ({ cls := "ZipGuard$Directory", name := "faultAt", desc := "(II)I" } : Jvm.MethodName)), (Jvm.Cond.code ({ cls := "ZipGuard$Directory", name := "faultAt", desc := "(II)I" } : Jvm.MethodName) prog_4_method_4_code (3 : Nat) (Option.some Jvm.ClassFile.FieldType.int)), (Jvm.Cond.methodLink "ZipGuard$Directory" (46 : Nat) ({ cls := "ZipGuard$Directory", name := "checkEnd", desc := "(I)I" } : Jvm.MethodName)), (Jvm.Cond.instanceMethod ({ cls := "ZipGuard$Directory", name := "checkEnd", desc := "(I)I" } : Jvm.MethodName)), (Jvm.Cond.code ({ cls := "ZipGuard$Directory", name := "checkEnd", desc := "(I)I" } : Jvm.MethodName) prog_4_method_6_code (2 : Nat) (Option.some Jvm.ClassFile.FieldType.int)), (Jvm.Cond.methodLink "ZipGuard$Directory" (60 : Nat) ({ cls := "ZipGuard$Tape", name := "fourAt", desc := "(I)J" } : Jvm.MethodName)), (Jvm.Cond.instanceMethod ({ cls := "ZipGuard$Tape", name := "fourAt", desc := "(I)J" } : Jvm.MethodName)), (Jvm.Cond.selects "ZipGuard$Tape" ({ cls := "ZipGuard$Tape", name := "fourAt", desc := "(I)J" } : Jvm.MethodName) ({ cls := "ZipGuard$Tape", name := "fourAt", desc := "(I)J" } : Jvm.MethodName)), (Jvm.Cond.code ({ cls := "ZipGuard$Tape", name := "fourAt", desc := "(I)J" } : Jvm.MethodName) prog_6_method_8_code (2 : Nat) (Option.some Jvm.ClassFile.FieldType.long)), (Jvm.Cond.methodLink "ZipGuard$Directory" (50 : Nat) ({ cls := "ZipGuard$Directory", name := "readEntries", desc := "(I)I" } : Jvm.MethodName)), (Jvm.Cond.instanceMethod ({ cls := "ZipGuard$Directory", name := "readEntries", desc := "(I)I" } : Jvm.MethodName)), (Jvm.Cond.code ({ cls := "ZipGuard$Directory", name := "readEntries", desc := "(I)I" } : Jvm.MethodName) prog_4_method_7_code (6 : Nat) (Option.some Jvm.ClassFile.FieldType.int)), (Jvm.Cond.methodLink "ZipGuard$Directory" (64 : Nat) ({ cls := "ZipGuard$Directory", name := "checkSpan", desc := "(II)I" } : Jvm.MethodName)), (Jvm.Cond.instanceMethod ({ cls := "ZipGuard$Directory", name := "checkSpan", desc := "(II)I" } : Jvm.MethodName)), (Jvm.Cond.code ({ cls := "ZipGuard$Directory", name := "checkSpan", desc := "(II)I" } : Jvm.MethodName) prog_4_method_9_code (4 : Nat) (Option.some Jvm.ClassFile.FieldType.int)), (Jvm.Cond.methodLink "ZipGuard$Directory" (76 : Nat) ({ cls := "ZipGuard$Directory", name := "behindEntry", desc := "(I)I" } : Jvm.MethodName)), (Jvm.Cond.instanceMethod ({ cls := "ZipGuard$Directory", name := "behindEntry", desc := "(I)I" } : Jvm.MethodName)), (Jvm.Cond.code ({ cls := "ZipGuard$Directory", name := "behindEntry", desc := "(I)I" } : Jvm.MethodName) prog_4_method_8_code (2 : Nat) (Option.some Jvm.ClassFile.FieldType.int)), (Jvm.Cond.methodLink "ZipGuard$Directory" (67 : Nat) ({ cls := "ZipGuard$Directory", name := "checkNumbers", desc := "(I)I" } : Jvm.MethodName)), (Jvm.Cond.instanceMethod ({ cls := "ZipGuard$Directory", name := "checkNumbers", desc := "(I)I" } : Jvm.MethodName)), (Jvm.Cond.code ({ cls := "ZipGuard$Directory", name := "checkNumbers", desc := "(I)I" } : Jvm.MethodName) prog_4_method_10_code (3 : Nat) (Option.some Jvm.ClassFile.FieldType.int)), (Jvm.Cond.methodLink "ZipGuard$Directory" (79 : Nat) ({ cls := "ZipGuard$Directory", name := "hasRightSizes", desc := "(II)Z" } : Jvm.MethodName)), (Jvm.Cond.instanceMethod ({ cls := "ZipGuard$Directory", name := "hasRightSizes", desc := "(II)Z" } : Jvm.MethodName)), (Jvm.Cond.code ({ cls := "ZipGuard$Directory", name := "hasRightSizes", desc := "(II)Z" } : Jvm.MethodName) prog_4_method_11_code (9 : Nat) (Option.some Jvm.ClassFile.FieldType.boolean)), (Jvm.Cond.methodLink "ZipGuard$Directory" (83 : Nat) ({ cls := "ZipGuard$Tape", name := "byteAt", desc := "(I)I" } : Jvm.MethodName)), (Jvm.Cond.methodLink "ZipGuard$Directory" (70 : Nat) ({ cls := "ZipGuard$Directory", name := "readName", desc := "(II)I" } : Jvm.MethodName)), (Jvm.Cond.instanceMethod ({ cls := "ZipGuard$Directory", name := "readName", desc := "(II)I" } : Jvm.MethodName)), (Jvm.Cond.code ({ cls := "ZipGuard$Directory", name := "readName", desc := "(II)I" } : Jvm.MethodName) prog_4_method_12_code (4 : Nat) (Option.some Jvm.ClassFile.FieldType.int)), (Jvm.Cond.methodLink "ZipGuard$Directory" (86 : Nat) ({ cls := "ZipGuard$Directory", name := "isName", desc := "(II)Z" } : Jvm.MethodName)), (Jvm.Cond.instanceMethod ({ cls := "ZipGuard$Directory", name := "isName", desc := "(II)Z" } : Jvm.MethodName)), (Jvm.Cond.code ({ cls := "ZipGuard$Directory", name := "isName", desc := "(II)Z" } : Jvm.MethodName) prog_4_method_13_code (9 : Nat) (Option.some Jvm.ClassFile.FieldType.boolean)), (Jvm.Cond.methodLink "ZipGuard$Directory" (97 : Nat) ({ cls := "ZipGuard$Directory", name := "isNameByte", desc := "(I)Z" } : Jvm.MethodName)), (Jvm.Cond.instanceMethod ({ cls := "ZipGuard$Directory", name := "isNameByte", desc := "(I)Z" } : Jvm.MethodName)), (Jvm.Cond.code ({ cls := "ZipGuard$Directory", name := "isNameByte", desc := "(I)Z" } : Jvm.MethodName) prog_4_method_14_code (2 : Nat) (Option.some Jvm.ClassFile.FieldType.boolean)), (Jvm.Cond.methodLink "ZipGuard$Directory" (101 : Nat) ({ cls := "ZipGuard$Directory", name := "isPart", desc := "(II)Z" } : Jvm.MethodName)), (Jvm.Cond.instanceMethod ({ cls := "ZipGuard$Directory", name := "isPart", desc := "(II)Z" } : Jvm.MethodName)), (Jvm.Cond.code ({ cls := "ZipGuard$Directory", name := "isPart", desc := "(II)Z" } : Jvm.MethodName) prog_4_method_15_code (5 : Nat) (Option.some Jvm.ClassFile.FieldType.boolean)), (Jvm.Cond.methodLink "ZipGuard$Directory" (89 : Nat) ({ cls := "ZipGuard$Entry", name := "keepName", desc := "(LZipGuard$Tape;II)V" } : Jvm.MethodName)), (Jvm.Cond.instanceMethod ({ cls := "ZipGuard$Entry", name := "keepName", desc := "(LZipGuard$Tape;II)V" } : Jvm.MethodName)), (Jvm.Cond.selects "ZipGuard$Entry" ({ cls := "ZipGuard$Entry", name := "keepName", desc := "(LZipGuard$Tape;II)V" } : Jvm.MethodName) ({ cls := "ZipGuard$Entry", name := "keepName", desc := "(LZipGuard$Tape;II)V" } : Jvm.MethodName)), (Jvm.Cond.code ({ cls := "ZipGuard$Entry", name := "keepName", desc := "(LZipGuard$Tape;II)V" } : Jvm.MethodName) prog_5_method_3_code (5 : Nat) (Option.none : Option Jvm.ClassFile.FieldType)), (Jvm.Cond.methodLink "ZipGuard$Entry" (26 : Nat) ({ cls := "ZipGuard$Tape", name := "byteAt", desc := "(I)I" } : Jvm.MethodName)), (Jvm.Cond.methodLink "ZipGuard$Directory" (93 : Nat) ({ cls := "ZipGuard$Entry", name := "clashesWith", desc := "(LZipGuard$Entry;)Z" } : Jvm.MethodName)), (Jvm.Cond.instanceMethod ({ cls := "ZipGuard$Entry", name := "clashesWith", desc := "(LZipGuard$Entry;)Z" } : Jvm.MethodName)), (Jvm.Cond.selects "ZipGuard$Entry" ({ cls := "ZipGuard$Entry", name := "clashesWith", desc := "(LZipGuard$Entry;)Z" } : Jvm.MethodName) ({ cls := "ZipGuard$Entry", name := "clashesWith", desc := "(LZipGuard$Entry;)Z" } : Jvm.MethodName)), (Jvm.Cond.code ({ cls := "ZipGuard$Entry", name := "clashesWith", desc := "(LZipGuard$Entry;)Z" } : Jvm.MethodName) prog_5_method_4_code (6 : Nat) (Option.some Jvm.ClassFile.FieldType.boolean)), (Jvm.Cond.methodLink "ZipGuard$Directory" (73 : Nat) ({ cls := "ZipGuard$Directory", name := "readLocal", desc := "(II)I" } : Jvm.MethodName)), (Jvm.Cond.instanceMethod ({ cls := "ZipGuard$Directory", name := "readLocal", desc := "(II)I" } : Jvm.MethodName)), (Jvm.Cond.code ({ cls := "ZipGuard$Directory", name := "readLocal", desc := "(II)I" } : Jvm.MethodName) prog_4_method_16_code (9 : Nat) (Option.some Jvm.ClassFile.FieldType.int)), (Jvm.Cond.constantLong "ZipGuard$Directory" (104 : Nat) (30 : Int64)), (Jvm.Cond.methodLink "ZipGuard$Directory" (106 : Nat) ({ cls := "ZipGuard$Directory", name := "isLocalOf", desc := "(II)Z" } : Jvm.MethodName)), (Jvm.Cond.instanceMethod ({ cls := "ZipGuard$Directory", name := "isLocalOf", desc := "(II)Z" } : Jvm.MethodName)), (Jvm.Cond.code ({ cls := "ZipGuard$Directory", name := "isLocalOf", desc := "(II)Z" } : Jvm.MethodName) prog_4_method_17_code (3 : Nat) (Option.some Jvm.ClassFile.FieldType.boolean)), (Jvm.Cond.methodLink "ZipGuard$Directory" (122 : Nat) ({ cls := "ZipGuard$Tape", name := "isSame", desc := "(III)Z" } : Jvm.MethodName)), (Jvm.Cond.instanceMethod ({ cls := "ZipGuard$Tape", name := "isSame", desc := "(III)Z" } : Jvm.MethodName)), (Jvm.Cond.selects "ZipGuard$Tape" ({ cls := "ZipGuard$Tape", name := "isSame", desc := "(III)Z" } : Jvm.MethodName) ({ cls := "ZipGuard$Tape", name := "isSame", desc := "(III)Z" } : Jvm.MethodName)), (Jvm.Cond.code ({ cls := "ZipGuard$Tape", name := "isSame", desc := "(III)Z" } : Jvm.MethodName) prog_6_method_10_code (5 : Nat) (Option.some Jvm.ClassFile.FieldType.boolean)), (Jvm.Cond.methodLink "ZipGuard$Directory" (109 : Nat) ({ cls := "ZipGuard$Directory", name := "keepNumbers", desc := "(LZipGuard$Entry;I)V" } : Jvm.MethodName)), (Jvm.Cond.instanceMethod ({ cls := "ZipGuard$Directory", name := "keepNumbers", desc := "(LZipGuard$Entry;I)V" } : Jvm.MethodName)), (Jvm.Cond.code ({ cls := "ZipGuard$Directory", name := "keepNumbers", desc := "(LZipGuard$Entry;I)V" } : Jvm.MethodName) prog_4_method_18_code (3 : Nat) (Option.none : Option Jvm.ClassFile.FieldType)), (Jvm.Cond.methodLink "ZipGuard$Directory" (138 : Nat) ({ cls := "ZipGuard$Entry", name := "forgetWhatIsWritten", desc := "()V" } : Jvm.MethodName)), (Jvm.Cond.instanceMethod ({ cls := "ZipGuard$Entry", name := "forgetWhatIsWritten", desc := "()V" } : Jvm.MethodName)), (Jvm.Cond.selects "ZipGuard$Entry" ({ cls := "ZipGuard$Entry", name := "forgetWhatIsWritten", desc := "()V" } : Jvm.MethodName) ({ cls := "ZipGuard$Entry", name := "forgetWhatIsWritten", desc := "()V" } : Jvm.MethodName)), (Jvm.Cond.code ({ cls := "ZipGuard$Entry", name := "forgetWhatIsWritten", desc := "()V" } : Jvm.MethodName) prog_5_method_2_code (1 : Nat) (Option.none : Option Jvm.ClassFile.FieldType)), (Jvm.Cond.methodLink "ZipGuard$Directory" (119 : Nat) ({ cls := "ZipGuard$Entry", name := "liesOver", desc := "(LZipGuard$Entry;)Z" } : Jvm.MethodName)), (Jvm.Cond.instanceMethod ({ cls := "ZipGuard$Entry", name := "liesOver", desc := "(LZipGuard$Entry;)Z" } : Jvm.MethodName)), (Jvm.Cond.selects "ZipGuard$Entry" ({ cls := "ZipGuard$Entry", name := "liesOver", desc := "(LZipGuard$Entry;)Z" } : Jvm.MethodName) ({ cls := "ZipGuard$Entry", name := "liesOver", desc := "(LZipGuard$Entry;)Z" } : Jvm.MethodName)), (Jvm.Cond.code ({ cls := "ZipGuard$Entry", name := "liesOver", desc := "(LZipGuard$Entry;)Z" } : Jvm.MethodName) prog_5_method_6_code (2 : Nat) (Option.some Jvm.ClassFile.FieldType.boolean)), (Jvm.Cond.methodLink "ZipGuard$Entry" (45 : Nat) ({ cls := "ZipGuard$Entry", name := "behindPacked", desc := "()I" } : Jvm.MethodName)), (Jvm.Cond.instanceMethod ({ cls := "ZipGuard$Entry", name := "behindPacked", desc := "()I" } : Jvm.MethodName)), (Jvm.Cond.selects "ZipGuard$Entry" ({ cls := "ZipGuard$Entry", name := "behindPacked", desc := "()I" } : Jvm.MethodName) ({ cls := "ZipGuard$Entry", name := "behindPacked", desc := "()I" } : Jvm.MethodName)), (Jvm.Cond.code ({ cls := "ZipGuard$Entry", name := "behindPacked", desc := "()I" } : Jvm.MethodName) prog_5_method_5_code (1 : Nat) (Option.some Jvm.ClassFile.FieldType.int)), (Jvm.Cond.methodLink "ZipGuardLaw" (76 : Nat) ({ cls := "ZipGuard", name := "place", desc := "()I" } : Jvm.MethodName)), (Jvm.Cond.instanceMethod ({ cls := "ZipGuard", name := "place", desc := "()I" } : Jvm.MethodName)), (Jvm.Cond.selects "ZipGuard" ({ cls := "ZipGuard", name := "place", desc := "()I" } : Jvm.MethodName) ({ cls := "ZipGuard", name := "place", desc := "()I" } : Jvm.MethodName))]
def zt_4 : List Cond := [(Jvm.Cond.code ({ cls := "ZipGuard", name := "place", desc := "()I" } : Jvm.MethodName) prog_1_method_6_code (1 : Nat) (Option.some Jvm.ClassFile.FieldType.int)), (Jvm.Cond.methodLink "ZipGuardLaw" (55 : Nat) ({ cls := "ZipGuardLaw", name := "feed", desc := "(LZipGuard;IIIII[J)I" } : Jvm.MethodName)), (Jvm.Cond.static ({ cls := "ZipGuardLaw", name := "feed", desc := "(LZipGuard;IIIII[J)I" } : Jvm.MethodName)), (Jvm.Cond.codeWith ({ cls := "ZipGuardLaw", name := "feed", desc := "(LZipGuard;IIIII[J)I" } : Jvm.MethodName) method_3_code (8 : Nat) (Option.some Jvm.ClassFile.FieldType.int) [((0 : Nat), (16 : Nat), (19 : Nat), (13 : Nat))]), (Jvm.Cond.classLink "ZipGuardLaw" (13 : Nat) "java/lang/IllegalStateException"), (Jvm.Cond.methodLink "ZipGuardLaw" (7 : Nat) ({ cls := "ZipGuard", name := "feed", desc := "(IIIII)I" } : Jvm.MethodName)), (Jvm.Cond.instanceMethod ({ cls := "ZipGuard", name := "feed", desc := "(IIIII)I" } : Jvm.MethodName)), (Jvm.Cond.selects "ZipGuard" ({ cls := "ZipGuard", name := "feed", desc := "(IIIII)I" } : Jvm.MethodName) ({ cls := "ZipGuard", name := "feed", desc := "(IIIII)I" } : Jvm.MethodName)), (Jvm.Cond.code ({ cls := "ZipGuard", name := "feed", desc := "(IIIII)I" } : Jvm.MethodName) prog_1_method_2_code (6 : Nat) (Option.some Jvm.ClassFile.FieldType.int)), (Jvm.Cond.methodLink "ZipGuard" (41 : Nat) ({ cls := "ZipGuard$Tape", name := "hasRoomFor", desc := "(I)Z" } : Jvm.MethodName)), (Jvm.Cond.instanceMethod ({ cls := "ZipGuard$Tape", name := "hasRoomFor", desc := "(I)Z" } : Jvm.MethodName)), (Jvm.Cond.selects "ZipGuard$Tape" ({ cls := "ZipGuard$Tape", name := "hasRoomFor", desc := "(I)Z" } : Jvm.MethodName) ({ cls := "ZipGuard$Tape", name := "hasRoomFor", desc := "(I)Z" } : Jvm.MethodName)), (Jvm.Cond.code ({ cls := "ZipGuard$Tape", name := "hasRoomFor", desc := "(I)Z" } : Jvm.MethodName) prog_6_method_2_code (2 : Nat) (Option.some Jvm.ClassFile.FieldType.boolean)), (Jvm.Cond.classLink "ZipGuard" (45 : Nat) "java/lang/IllegalStateException"), (Jvm.Cond.instantiable "java/lang/IllegalStateException" (6 : Nat)), (Jvm.Cond.selects "java/lang/IllegalStateException" ({ cls := "java/lang/Throwable", name := "fillInStackTrace", desc := "(I)Ljava/lang/Throwable;" } : Jvm.MethodName) ({ cls := "java/lang/Throwable", name := "fillInStackTrace", desc := "(I)Ljava/lang/Throwable;" } : Jvm.MethodName)), (Jvm.Cond.lays "java/lang/IllegalStateException" "java/lang/Throwable" "cause" "Ljava/lang/Throwable;"), (Jvm.Cond.lays "java/lang/IllegalStateException" "java/lang/Throwable" "stackTrace" "[Ljava/lang/StackTraceElement;"), (Jvm.Cond.lays "java/lang/IllegalStateException" "java/lang/Throwable" "suppressedExceptions" "Ljava/util/List;"), (Jvm.Cond.lays "java/lang/IllegalStateException" "java/lang/Throwable" "detailMessage" "Ljava/lang/String;"), (Jvm.Cond.lays "java/lang/IllegalStateException" "java/lang/Throwable" "backtrace" "Ljava/lang/Object;"), (Jvm.Cond.methodLink "ZipGuard" (47 : Nat) ({ cls := "java/lang/IllegalStateException", name := "<init>", desc := "()V" } : Jvm.MethodName)), (Jvm.Cond.instanceMethod ({ cls := "java/lang/IllegalStateException", name := "<init>", desc := "()V" } : Jvm.MethodName)), (Jvm.Cond.code ({ cls := "java/lang/IllegalStateException", name := "<init>", desc := "()V" } : Jvm.MethodName) prog_16_method_1_code (1 : Nat) (Option.none : Option Jvm.ClassFile.FieldType)), (Jvm.Cond.methodLink "java/lang/IllegalStateException" (1 : Nat) ({ cls := "java/lang/RuntimeException", name := "<init>", desc := "()V" } : Jvm.MethodName)), (Jvm.Cond.instanceMethod ({ cls := "java/lang/RuntimeException", name := "<init>", desc := "()V" } : Jvm.MethodName)), (Jvm.Cond.code ({ cls := "java/lang/RuntimeException", name := "<init>", desc := "()V" } : Jvm.MethodName) prog_20_method_1_code (1 : Nat) (Option.none : Option Jvm.ClassFile.FieldType)), (Jvm.Cond.methodLink "java/lang/RuntimeException" (1 : Nat) ({ cls := "java/lang/Exception", name := "<init>", desc := "()V" } : Jvm.MethodName)), (Jvm.Cond.instanceMethod ({ cls := "java/lang/Exception", name := "<init>", desc := "()V" } : Jvm.MethodName)), (Jvm.Cond.code ({ cls := "java/lang/Exception", name := "<init>", desc := "()V" } : Jvm.MethodName) prog_14_method_1_code (1 : Nat) (Option.none : Option Jvm.ClassFile.FieldType)), (Jvm.Cond.methodLink "java/lang/Exception" (1 : Nat) ({ cls := "java/lang/Throwable", name := "<init>", desc := "()V" } : Jvm.MethodName)), (Jvm.Cond.lays "java/lang/IllegalStateException" "java/lang/Throwable" "depth" "I"), (Jvm.Cond.superclass "java/lang/IllegalStateException" "java/lang/RuntimeException"), (Jvm.Cond.methodLink "ZipGuard" (48 : Nat) ({ cls := "ZipGuard$Directory", name := "shut", desc := "()V" } : Jvm.MethodName)), (Jvm.Cond.instanceMethod ({ cls := "ZipGuard$Directory", name := "shut", desc := "()V" } : Jvm.MethodName)), (Jvm.Cond.selects "ZipGuard$Directory" ({ cls := "ZipGuard$Directory", name := "shut", desc := "()V" } : Jvm.MethodName) ({ cls := "ZipGuard$Directory", name := "shut", desc := "()V" } : Jvm.MethodName)), (Jvm.Cond.code ({ cls := "ZipGuard$Directory", name := "shut", desc := "()V" } : Jvm.MethodName) prog_4_method_2_code (1 : Nat) (Option.none : Option Jvm.ClassFile.FieldType)), (Jvm.Cond.methodLink "ZipGuard" (51 : Nat) ({ cls := "ZipGuard$Tape", name := "append", desc := "(I)V" } : Jvm.MethodName)), (Jvm.Cond.instanceMethod ({ cls := "ZipGuard$Tape", name := "append", desc := "(I)V" } : Jvm.MethodName)), (Jvm.Cond.selects "ZipGuard$Tape" ({ cls := "ZipGuard$Tape", name := "append", desc := "(I)V" } : Jvm.MethodName) ({ cls := "ZipGuard$Tape", name := "append", desc := "(I)V" } : Jvm.MethodName)), (Jvm.Cond.code ({ cls := "ZipGuard$Tape", name := "append", desc := "(I)V" } : Jvm.MethodName) prog_6_method_3_code (3 : Nat) (Option.none : Option Jvm.ClassFile.FieldType)), (Jvm.Cond.methodLink "ZipGuard$Tape" (17 : Nat) ({ cls := "ZipGuard$Tape", name := "hasRoomFor", desc := "(I)Z" } : Jvm.MethodName)), (Jvm.Cond.methodLink "ZipGuardLaw" (64 : Nat) ({ cls := "ZipGuardLaw", name := "end", desc := "(LZipGuard;I)I" } : Jvm.MethodName)), (Jvm.Cond.static ({ cls := "ZipGuardLaw", name := "end", desc := "(LZipGuard;I)I" } : Jvm.MethodName)), (Jvm.Cond.codeWith ({ cls := "ZipGuardLaw", name := "end", desc := "(LZipGuard;I)I" } : Jvm.MethodName) method_4_code (3 : Nat) (Option.some Jvm.ClassFile.FieldType.int) [((0 : Nat), (5 : Nat), (8 : Nat), (19 : Nat))]), (Jvm.Cond.classLink "ZipGuardLaw" (19 : Nat) "java/lang/IllegalArgumentException"), (Jvm.Cond.methodLink "ZipGuardLaw" (15 : Nat) ({ cls := "ZipGuard", name := "end", desc := "(I)V" } : Jvm.MethodName)), (Jvm.Cond.instanceMethod ({ cls := "ZipGuard", name := "end", desc := "(I)V" } : Jvm.MethodName)), (Jvm.Cond.selects "ZipGuard" ({ cls := "ZipGuard", name := "end", desc := "(I)V" } : Jvm.MethodName) ({ cls := "ZipGuard", name := "end", desc := "(I)V" } : Jvm.MethodName)), (Jvm.Cond.code ({ cls := "ZipGuard", name := "end", desc := "(I)V" } : Jvm.MethodName) prog_1_method_3_code (2 : Nat) (Option.none : Option Jvm.ClassFile.FieldType)), (Jvm.Cond.classLink "ZipGuard" (59 : Nat) "java/lang/IllegalArgumentException"), (Jvm.Cond.methodLink "ZipGuard" (61 : Nat) ({ cls := "java/lang/IllegalArgumentException", name := "<init>", desc := "()V" } : Jvm.MethodName)), (Jvm.Cond.instanceMethod ({ cls := "java/lang/IllegalArgumentException", name := "<init>", desc := "()V" } : Jvm.MethodName)), (Jvm.Cond.code ({ cls := "java/lang/IllegalArgumentException", name := "<init>", desc := "()V" } : Jvm.MethodName) prog_15_method_1_code (1 : Nat) (Option.none : Option Jvm.ClassFile.FieldType)), (Jvm.Cond.methodLink "java/lang/IllegalArgumentException" (1 : Nat) ({ cls := "java/lang/RuntimeException", name := "<init>", desc := "()V" } : Jvm.MethodName)), (Jvm.Cond.methodLink "ZipGuard" (62 : Nat) ({ cls := "ZipGuard$Tape", name := "keepFirst", desc := "(I)V" } : Jvm.MethodName)), (Jvm.Cond.instanceMethod ({ cls := "ZipGuard$Tape", name := "keepFirst", desc := "(I)V" } : Jvm.MethodName)), (Jvm.Cond.selects "ZipGuard$Tape" ({ cls := "ZipGuard$Tape", name := "keepFirst", desc := "(I)V" } : Jvm.MethodName) ({ cls := "ZipGuard$Tape", name := "keepFirst", desc := "(I)V" } : Jvm.MethodName)), (Jvm.Cond.code ({ cls := "ZipGuard$Tape", name := "keepFirst", desc := "(I)V" } : Jvm.MethodName) prog_6_method_4_code (2 : Nat) (Option.none : Option Jvm.ClassFile.FieldType)), (Jvm.Cond.methodLink "ZipGuardLaw" (68 : Nat) ({ cls := "ZipGuardLaw", name := "alter", desc := "(LZipGuard;II[J)I" } : Jvm.MethodName)), (Jvm.Cond.static ({ cls := "ZipGuardLaw", name := "alter", desc := "(LZipGuard;II[J)I" } : Jvm.MethodName)), (Jvm.Cond.codeWith ({ cls := "ZipGuardLaw", name := "alter", desc := "(LZipGuard;II[J)I" } : Jvm.MethodName) method_5_code (5 : Nat) (Option.some Jvm.ClassFile.FieldType.int) [((0 : Nat), (10 : Nat), (13 : Nat), (25 : Nat))]), (Jvm.Cond.classLink "ZipGuardLaw" (25 : Nat) "java/lang/IndexOutOfBoundsException"), (Jvm.Cond.methodLink "ZipGuardLaw" (21 : Nat) ({ cls := "ZipGuard", name := "alter", desc := "(II)I" } : Jvm.MethodName)), (Jvm.Cond.instanceMethod ({ cls := "ZipGuard", name := "alter", desc := "(II)I" } : Jvm.MethodName)), (Jvm.Cond.selects "ZipGuard" ({ cls := "ZipGuard", name := "alter", desc := "(II)I" } : Jvm.MethodName) ({ cls := "ZipGuard", name := "alter", desc := "(II)I" } : Jvm.MethodName)), (Jvm.Cond.code ({ cls := "ZipGuard", name := "alter", desc := "(II)I" } : Jvm.MethodName) prog_1_method_4_code (3 : Nat) (Option.some Jvm.ClassFile.FieldType.int)), (Jvm.Cond.classLink "ZipGuard" (65 : Nat) "java/lang/IndexOutOfBoundsException"), (Jvm.Cond.instantiable "java/lang/IndexOutOfBoundsException" (6 : Nat)), (Jvm.Cond.selects "java/lang/IndexOutOfBoundsException" ({ cls := "java/lang/Throwable", name := "fillInStackTrace", desc := "(I)Ljava/lang/Throwable;" } : Jvm.MethodName) ({ cls := "java/lang/Throwable", name := "fillInStackTrace", desc := "(I)Ljava/lang/Throwable;" } : Jvm.MethodName)), (Jvm.Cond.lays "java/lang/IndexOutOfBoundsException" "java/lang/Throwable" "cause" "Ljava/lang/Throwable;"), (Jvm.Cond.lays "java/lang/IndexOutOfBoundsException" "java/lang/Throwable" "stackTrace" "[Ljava/lang/StackTraceElement;"), (Jvm.Cond.lays "java/lang/IndexOutOfBoundsException" "java/lang/Throwable" "suppressedExceptions" "Ljava/util/List;"), (Jvm.Cond.lays "java/lang/IndexOutOfBoundsException" "java/lang/Throwable" "detailMessage" "Ljava/lang/String;"), (Jvm.Cond.lays "java/lang/IndexOutOfBoundsException" "java/lang/Throwable" "backtrace" "Ljava/lang/Object;"), (Jvm.Cond.methodLink "ZipGuard" (67 : Nat) ({ cls := "java/lang/IndexOutOfBoundsException", name := "<init>", desc := "()V" } : Jvm.MethodName)), (Jvm.Cond.instanceMethod ({ cls := "java/lang/IndexOutOfBoundsException", name := "<init>", desc := "()V" } : Jvm.MethodName)), (Jvm.Cond.code ({ cls := "java/lang/IndexOutOfBoundsException", name := "<init>", desc := "()V" } : Jvm.MethodName) prog_17_method_1_code (1 : Nat) (Option.none : Option Jvm.ClassFile.FieldType)), (Jvm.Cond.methodLink "java/lang/IndexOutOfBoundsException" (1 : Nat) ({ cls := "java/lang/RuntimeException", name := "<init>", desc := "()V" } : Jvm.MethodName)), (Jvm.Cond.lays "java/lang/IndexOutOfBoundsException" "java/lang/Throwable" "depth" "I"), (Jvm.Cond.superclass "java/lang/IndexOutOfBoundsException" "java/lang/RuntimeException"), (Jvm.Cond.methodLink "ZipGuard" (68 : Nat) ({ cls := "ZipGuard$Tape", name := "replace", desc := "(II)I" } : Jvm.MethodName)), (Jvm.Cond.instanceMethod ({ cls := "ZipGuard$Tape", name := "replace", desc := "(II)I" } : Jvm.MethodName)), (Jvm.Cond.selects "ZipGuard$Tape" ({ cls := "ZipGuard$Tape", name := "replace", desc := "(II)I" } : Jvm.MethodName) ({ cls := "ZipGuard$Tape", name := "replace", desc := "(II)I" } : Jvm.MethodName)), (Jvm.Cond.code ({ cls := "ZipGuard$Tape", name := "replace", desc := "(II)I" } : Jvm.MethodName) prog_6_method_5_code (4 : Nat) (Option.some Jvm.ClassFile.FieldType.int)), (Jvm.Cond.methodLink "ZipGuardLaw" (80 : Nat) ({ cls := "ZipGuardLaw", name := "limits", desc := "(LZipGuard;II)I" } : Jvm.MethodName)), (Jvm.Cond.static ({ cls := "ZipGuardLaw", name := "limits", desc := "(LZipGuard;II)I" } : Jvm.MethodName)), (Jvm.Cond.codeWith ({ cls := "ZipGuardLaw", name := "limits", desc := "(LZipGuard;II)I" } : Jvm.MethodName) method_6_code (4 : Nat) (Option.some Jvm.ClassFile.FieldType.int) [((0 : Nat), (6 : Nat), (9 : Nat), (19 : Nat))]), (Jvm.Cond.methodLink "ZipGuardLaw" (27 : Nat) ({ cls := "ZipGuard", name := "limits", desc := "(II)V" } : Jvm.MethodName)), (Jvm.Cond.instanceMethod ({ cls := "ZipGuard", name := "limits", desc := "(II)V" } : Jvm.MethodName)), (Jvm.Cond.selects "ZipGuard" ({ cls := "ZipGuard", name := "limits", desc := "(II)V" } : Jvm.MethodName) ({ cls := "ZipGuard", name := "limits", desc := "(II)V" } : Jvm.MethodName)), (Jvm.Cond.code ({ cls := "ZipGuard", name := "limits", desc := "(II)V" } : Jvm.MethodName) prog_1_method_7_code (3 : Nat) (Option.none : Option Jvm.ClassFile.FieldType)), (Jvm.Cond.constant "ZipGuard" (82 : Nat) (40000 : Int32)), (Jvm.Cond.methodLink "ZipGuardLaw" (84 : Nat) ({ cls := "ZipGuardLaw", name := "take", desc := "(LZipGuard;I[J)I" } : Jvm.MethodName)), (Jvm.Cond.static ({ cls := "ZipGuardLaw", name := "take", desc := "(LZipGuard;I[J)I" } : Jvm.MethodName)), (Jvm.Cond.codeWith ({ cls := "ZipGuardLaw", name := "take", desc := "(LZipGuard;I[J)I" } : Jvm.MethodName) method_7_code (4 : Nat) (Option.some Jvm.ClassFile.FieldType.int) [((0 : Nat), (9 : Nat), (12 : Nat), (13 : Nat)), ((0 : Nat), (9 : Nat), (15 : Nat), (25 : Nat))]), (Jvm.Cond.methodLink "ZipGuardLaw" (31 : Nat) ({ cls := "ZipGuard", name := "take", desc := "(I)I" } : Jvm.MethodName)), (Jvm.Cond.instanceMethod ({ cls := "ZipGuard", name := "take", desc := "(I)I" } : Jvm.MethodName)), (Jvm.Cond.selects "ZipGuard" ({ cls := "ZipGuard", name := "take", desc := "(I)I" } : Jvm.MethodName) ({ cls := "ZipGuard", name := "take", desc := "(I)I" } : Jvm.MethodName)), (Jvm.Cond.code ({ cls := "ZipGuard", name := "take", desc := "(I)I" } : Jvm.MethodName) prog_1_method_8_code (2 : Nat) (Option.some Jvm.ClassFile.FieldType.int)), (Jvm.Cond.methodLink "ZipGuard" (89 : Nat) ({ cls := "ZipGuard", name := "openEntry", desc := "(I)LZipGuard$Entry;" } : Jvm.MethodName)), (Jvm.Cond.instanceMethod ({ cls := "ZipGuard", name := "openEntry", desc := "(I)LZipGuard$Entry;" } : Jvm.MethodName)), (Jvm.Cond.code ({ cls := "ZipGuard", name := "openEntry", desc := "(I)LZipGuard$Entry;" } : Jvm.MethodName) prog_1_method_14_code (2 : Nat) (Option.some (Jvm.ClassFile.FieldType.object "ZipGuard$Entry"))), (Jvm.Cond.methodLink "ZipGuard" (93 : Nat) ({ cls := "ZipGuard$Unpacker", name := "takeOut", desc := "(LZipGuard$Entry;)I" } : Jvm.MethodName)), (Jvm.Cond.instanceMethod ({ cls := "ZipGuard$Unpacker", name := "takeOut", desc := "(LZipGuard$Entry;)I" } : Jvm.MethodName)), (Jvm.Cond.selects "ZipGuard$Unpacker" ({ cls := "ZipGuard$Unpacker", name := "takeOut", desc := "(LZipGuard$Entry;)I" } : Jvm.MethodName) ({ cls := "ZipGuard$Unpacker", name := "takeOut", desc := "(LZipGuard$Entry;)I" } : Jvm.MethodName)), (Jvm.Cond.code ({ cls := "ZipGuard$Unpacker", name := "takeOut", desc := "(LZipGuard$Entry;)I" } : Jvm.MethodName) prog_8_method_3_code (3 : Nat) (Option.some Jvm.ClassFile.FieldType.int)), (Jvm.Cond.methodLink "ZipGuard$Unpacker" (70 : Nat) ({ cls := "ZipGuard$Target", name := "begin", desc := "(LZipGuard$Entry;)V" } : Jvm.MethodName)), (Jvm.Cond.instanceMethod ({ cls := "ZipGuard$Target", name := "begin", desc := "(LZipGuard$Entry;)V" } : Jvm.MethodName)), (Jvm.Cond.selects "ZipGuard$Target" ({ cls := "ZipGuard$Target", name := "begin", desc := "(LZipGuard$Entry;)V" } : Jvm.MethodName) ({ cls := "ZipGuard$Target", name := "begin", desc := "(LZipGuard$Entry;)V" } : Jvm.MethodName)), (Jvm.Cond.code ({ cls := "ZipGuard$Target", name := "begin", desc := "(LZipGuard$Entry;)V" } : Jvm.MethodName) prog_7_method_3_code (2 : Nat) (Option.none : Option Jvm.ClassFile.FieldType)), (Jvm.Cond.methodLink "ZipGuard$Unpacker" (82 : Nat) ({ cls := "ZipGuard$BitReader", name := "begin", desc := "(II)V" } : Jvm.MethodName)), (Jvm.Cond.instanceMethod ({ cls := "ZipGuard$BitReader", name := "begin", desc := "(II)V" } : Jvm.MethodName)), (Jvm.Cond.selects "ZipGuard$BitReader" ({ cls := "ZipGuard$BitReader", name := "begin", desc := "(II)V" } : Jvm.MethodName) ({ cls := "ZipGuard$BitReader", name := "begin", desc := "(II)V" } : Jvm.MethodName)), (Jvm.Cond.code ({ cls := "ZipGuard$BitReader", name := "begin", desc := "(II)V" } : Jvm.MethodName) prog_2_method_2_code (3 : Nat) (Option.none : Option Jvm.ClassFile.FieldType)), (Jvm.Cond.methodLink "ZipGuard$Unpacker" (88 : Nat) ({ cls := "ZipGuard$Unpacker", name := "copyBytes", desc := "(LZipGuard$Entry;I)I" } : Jvm.MethodName)), (Jvm.Cond.instanceMethod ({ cls := "ZipGuard$Unpacker", name := "copyBytes", desc := "(LZipGuard$Entry;I)I" } : Jvm.MethodName)), (Jvm.Cond.code ({ cls := "ZipGuard$Unpacker", name := "copyBytes", desc := "(LZipGuard$Entry;I)I" } : Jvm.MethodName) prog_8_method_5_code (6 : Nat) (Option.some Jvm.ClassFile.FieldType.int)), (Jvm.Cond.methodLink "ZipGuard$Unpacker" (117 : Nat) ({ cls := "ZipGuard$BitReader", name := "read", desc := "(I)I" } : Jvm.MethodName)), (Jvm.Cond.instanceMethod ({ cls := "ZipGuard$BitReader", name := "read", desc := "(I)I" } : Jvm.MethodName)), (Jvm.Cond.selects "ZipGuard$BitReader" ({ cls := "ZipGuard$BitReader", name := "read", desc := "(I)I" } : Jvm.MethodName) ({ cls := "ZipGuard$BitReader", name := "read", desc := "(I)I" } : Jvm.MethodName)), (Jvm.Cond.code ({ cls := "ZipGuard$BitReader", name := "read", desc := "(I)I" } : Jvm.MethodName) prog_2_method_3_code (6 : Nat) (Option.some Jvm.ClassFile.FieldType.int)), (Jvm.Cond.methodLink "ZipGuard$Unpacker" (121 : Nat) ({ cls := "ZipGuard$Target", name := "put", desc := "(LZipGuard$Entry;I)I" } : Jvm.MethodName)), (Jvm.Cond.instanceMethod ({ cls := "ZipGuard$Target", name := "put", desc := "(LZipGuard$Entry;I)I" } : Jvm.MethodName)), (Jvm.Cond.selects "ZipGuard$Target" ({ cls := "ZipGuard$Target", name := "put", desc := "(LZipGuard$Entry;I)I" } : Jvm.MethodName) ({ cls := "ZipGuard$Target", name := "put", desc := "(LZipGuard$Entry;I)I" } : Jvm.MethodName)), (Jvm.Cond.code ({ cls := "ZipGuard$Target", name := "put", desc := "(LZipGuard$Entry;I)I" } : Jvm.MethodName) prog_7_method_4_code (4 : Nat) (Option.some Jvm.ClassFile.FieldType.int)), (Jvm.Cond.constantLong "ZipGuard$Target" (44 : Nat) (16 : Int64)), (Jvm.Cond.fieldLink "ZipGuard$Target" (46 : Nat) "ZipGuard$Target" "HALF_BYTE_SUMS" "[I"), (Jvm.Cond.methodLink "ZipGuard$Unpacker" (92 : Nat) ({ cls := "ZipGuard$Unpacker", name := "unpack", desc := "(LZipGuard$Entry;)I" } : Jvm.MethodName)), (Jvm.Cond.instanceMethod ({ cls := "ZipGuard$Unpacker", name := "unpack", desc := "(LZipGuard$Entry;)I" } : Jvm.MethodName)), (Jvm.Cond.code ({ cls := "ZipGuard$Unpacker", name := "unpack", desc := "(LZipGuard$Entry;)I" } : Jvm.MethodName) prog_8_method_6_code (6 : Nat) (Option.some Jvm.ClassFile.FieldType.int)), (Jvm.Cond.methodLink "ZipGuard$Unpacker" (124 : Nat) ({ cls := "ZipGuard$Unpacker", name := "unpackStored", desc := "(LZipGuard$Entry;)I" } : Jvm.MethodName)), (Jvm.Cond.instanceMethod ({ cls := "ZipGuard$Unpacker", name := "unpackStored", desc := "(LZipGuard$Entry;)I" } : Jvm.MethodName)), (Jvm.Cond.code ({ cls := "ZipGuard$Unpacker", name := "unpackStored", desc := "(LZipGuard$Entry;)I" } : Jvm.MethodName) prog_8_method_7_code (4 : Nat) (Option.some Jvm.ClassFile.FieldType.int)), (Jvm.Cond.methodLink "ZipGuard$Unpacker" (134 : Nat) ({ cls := "ZipGuard$BitReader", name := "skipToFullByte", desc := "()V" } : Jvm.MethodName)), (Jvm.Cond.instanceMethod ({ cls := "ZipGuard$BitReader", name := "skipToFullByte", desc := "()V" } : Jvm.MethodName)), (Jvm.Cond.selects "ZipGuard$BitReader" ({ cls := "ZipGuard$BitReader", name := "skipToFullByte", desc := "()V" } : Jvm.MethodName) ({ cls := "ZipGuard$BitReader", name := "skipToFullByte", desc := "()V" } : Jvm.MethodName)), (Jvm.Cond.code ({ cls := "ZipGuard$BitReader", name := "skipToFullByte", desc := "()V" } : Jvm.MethodName) prog_2_method_4_code (1 : Nat) (Option.none : Option Jvm.ClassFile.FieldType)), (Jvm.Cond.constant "ZipGuard$Unpacker" (137 : Nat) (65535 : Int32)), (Jvm.Cond.methodLink "ZipGuard$Unpacker" (127 : Nat) ({ cls := "ZipGuard$Unpacker", name := "unpackCoded", desc := "(LZipGuard$Entry;LZipGuard$CodeSet;LZipGuard$CodeSet;)I" } : Jvm.MethodName)), (Jvm.Cond.instanceMethod ({ cls := "ZipGuard$Unpacker", name := "unpackCoded", desc := "(LZipGuard$Entry;LZipGuard$CodeSet;LZipGuard$CodeSet;)I" } : Jvm.MethodName)), (Jvm.Cond.code ({ cls := "ZipGuard$Unpacker", name := "unpackCoded", desc := "(LZipGuard$Entry;LZipGuard$CodeSet;LZipGuard$CodeSet;)I" } : Jvm.MethodName) prog_8_method_13_code (7 : Nat) (Option.some Jvm.ClassFile.FieldType.int)), (Jvm.Cond.methodLink "ZipGuard$Unpacker" (153 : Nat) ({ cls := "ZipGuard$CodeSet", name := "nextSymbol", desc := "(LZipGuard$BitReader;)I" } : Jvm.MethodName)), (Jvm.Cond.instanceMethod ({ cls := "ZipGuard$CodeSet", name := "nextSymbol", desc := "(LZipGuard$BitReader;)I" } : Jvm.MethodName)), (Jvm.Cond.selects "ZipGuard$CodeSet" ({ cls := "ZipGuard$CodeSet", name := "nextSymbol", desc := "(LZipGuard$BitReader;)I" } : Jvm.MethodName) ({ cls := "ZipGuard$CodeSet", name := "nextSymbol", desc := "(LZipGuard$BitReader;)I" } : Jvm.MethodName)), (Jvm.Cond.code ({ cls := "ZipGuard$CodeSet", name := "nextSymbol", desc := "(LZipGuard$BitReader;)I" } : Jvm.MethodName) prog_3_method_5_code (8 : Nat) (Option.some Jvm.ClassFile.FieldType.int)), (Jvm.Cond.methodLink "ZipGuard$CodeSet" (34 : Nat) ({ cls := "ZipGuard$BitReader", name := "read", desc := "(I)I" } : Jvm.MethodName)), (Jvm.Cond.methodLink "ZipGuard$Unpacker" (163 : Nat) ({ cls := "ZipGuard$Unpacker", name := "unpackAgain", desc := "(LZipGuard$Entry;ILZipGuard$CodeSet;)I" } : Jvm.MethodName)), (Jvm.Cond.instanceMethod ({ cls := "ZipGuard$Unpacker", name := "unpackAgain", desc := "(LZipGuard$Entry;ILZipGuard$CodeSet;)I" } : Jvm.MethodName)), (Jvm.Cond.code ({ cls := "ZipGuard$Unpacker", name := "unpackAgain", desc := "(LZipGuard$Entry;ILZipGuard$CodeSet;)I" } : Jvm.MethodName) prog_8_method_14_code (8 : Nat) (Option.some Jvm.ClassFile.FieldType.int)), (Jvm.Cond.fieldLink "ZipGuard$Unpacker" (167 : Nat) "ZipGuard$Unpacker" "LENGTHS" "[I"), (Jvm.Cond.fieldLink "ZipGuard$Unpacker" (170 : Nat) "ZipGuard$Unpacker" "LENGTH_BITS" "[I"), (Jvm.Cond.fieldLink "ZipGuard$Unpacker" (173 : Nat) "ZipGuard$Unpacker" "DISTANCES" "[I"), (Jvm.Cond.fieldLink "ZipGuard$Unpacker" (176 : Nat) "ZipGuard$Unpacker" "DISTANCE_BITS" "[I"), (Jvm.Cond.methodLink "ZipGuard$Unpacker" (179 : Nat) ({ cls := "ZipGuard$Unpacker", name := "writeAgain", desc := "(LZipGuard$Entry;II)I" } : Jvm.MethodName)), (Jvm.Cond.instanceMethod ({ cls := "ZipGuard$Unpacker", name := "writeAgain", desc := "(LZipGuard$Entry;II)I" } : Jvm.MethodName)), (Jvm.Cond.code ({ cls := "ZipGuard$Unpacker", name := "writeAgain", desc := "(LZipGuard$Entry;II)I" } : Jvm.MethodName) prog_8_method_15_code (7 : Nat) (Option.some Jvm.ClassFile.FieldType.int)), (Jvm.Cond.methodLink "ZipGuard$Unpacker" (183 : Nat) ({ cls := "ZipGuard$Target", name := "byteOf", desc := "(LZipGuard$Entry;I)I" } : Jvm.MethodName)), (Jvm.Cond.instanceMethod ({ cls := "ZipGuard$Target", name := "byteOf", desc := "(LZipGuard$Entry;I)I" } : Jvm.MethodName)), (Jvm.Cond.selects "ZipGuard$Target" ({ cls := "ZipGuard$Target", name := "byteOf", desc := "(LZipGuard$Entry;I)I" } : Jvm.MethodName) ({ cls := "ZipGuard$Target", name := "byteOf", desc := "(LZipGuard$Entry;I)I" } : Jvm.MethodName)), (Jvm.Cond.code ({ cls := "ZipGuard$Target", name := "byteOf", desc := "(LZipGuard$Entry;I)I" } : Jvm.MethodName) prog_7_method_5_code (4 : Nat) (Option.some Jvm.ClassFile.FieldType.int)), (Jvm.Cond.methodLink "ZipGuard$Unpacker" (131 : Nat) ({ cls := "ZipGuard$Unpacker", name := "readOwnCodes", desc := "()I" } : Jvm.MethodName)), (Jvm.Cond.instanceMethod ({ cls := "ZipGuard$Unpacker", name := "readOwnCodes", desc := "()I" } : Jvm.MethodName)), (Jvm.Cond.code ({ cls := "ZipGuard$Unpacker", name := "readOwnCodes", desc := "()I" } : Jvm.MethodName) prog_8_method_8_code (6 : Nat) (Option.some Jvm.ClassFile.FieldType.int)), (Jvm.Cond.methodLink "ZipGuard$Unpacker" (138 : Nat) ({ cls := "ZipGuard$Unpacker", name := "readLengthCodes", desc := "(I)I" } : Jvm.MethodName)), (Jvm.Cond.instanceMethod ({ cls := "ZipGuard$Unpacker", name := "readLengthCodes", desc := "(I)I" } : Jvm.MethodName)), (Jvm.Cond.code ({ cls := "ZipGuard$Unpacker", name := "readLengthCodes", desc := "(I)I" } : Jvm.MethodName) prog_8_method_9_code (4 : Nat) (Option.some Jvm.ClassFile.FieldType.int)), (Jvm.Cond.fieldLink "ZipGuard$Unpacker" (150 : Nat) "ZipGuard$Unpacker" "ORDER_OF_LENGTH_CODES" "[I"), (Jvm.Cond.methodLink "ZipGuard$Unpacker" (144 : Nat) ({ cls := "ZipGuard$CodeSet", name := "isFull", desc := "()Z" } : Jvm.MethodName)), (Jvm.Cond.instanceMethod ({ cls := "ZipGuard$CodeSet", name := "isFull", desc := "()Z" } : Jvm.MethodName)), (Jvm.Cond.selects "ZipGuard$CodeSet" ({ cls := "ZipGuard$CodeSet", name := "isFull", desc := "()Z" } : Jvm.MethodName) ({ cls := "ZipGuard$CodeSet", name := "isFull", desc := "()Z" } : Jvm.MethodName)), (Jvm.Cond.code ({ cls := "ZipGuard$CodeSet", name := "isFull", desc := "()Z" } : Jvm.MethodName) prog_3_method_3_code (3 : Nat) (Option.some Jvm.ClassFile.FieldType.boolean)), (Jvm.Cond.constant "ZipGuard$CodeSet" (29 : Nat) (32768 : Int32)), (Jvm.Cond.methodLink "ZipGuard$Unpacker" (141 : Nat) ({ cls := "ZipGuard$Unpacker", name := "readRow", desc := "(I)I" } : Jvm.MethodName)), (Jvm.Cond.instanceMethod ({ cls := "ZipGuard$Unpacker", name := "readRow", desc := "(I)I" } : Jvm.MethodName)), (Jvm.Cond.code ({ cls := "ZipGuard$Unpacker", name := "readRow", desc := "(I)I" } : Jvm.MethodName) prog_8_method_10_code (7 : Nat) (Option.some Jvm.ClassFile.FieldType.int)), (Jvm.Cond.methodLink "ZipGuard$Unpacker" (157 : Nat) ({ cls := "ZipGuard$Unpacker", name := "repeatBits", desc := "(I)I" } : Jvm.MethodName)), (Jvm.Cond.instanceMethod ({ cls := "ZipGuard$Unpacker", name := "repeatBits", desc := "(I)I" } : Jvm.MethodName)), (Jvm.Cond.code ({ cls := "ZipGuard$Unpacker", name := "repeatBits", desc := "(I)I" } : Jvm.MethodName) prog_8_method_11_code (2 : Nat) (Option.some Jvm.ClassFile.FieldType.int)), (Jvm.Cond.methodLink "ZipGuard$Unpacker" (160 : Nat) ({ cls := "ZipGuard$Unpacker", name := "leastTimes", desc := "(I)I" } : Jvm.MethodName)), (Jvm.Cond.instanceMethod ({ cls := "ZipGuard$Unpacker", name := "leastTimes", desc := "(I)I" } : Jvm.MethodName)), (Jvm.Cond.code ({ cls := "ZipGuard$Unpacker", name := "leastTimes", desc := "(I)I" } : Jvm.MethodName) prog_8_method_12_code (2 : Nat) (Option.some Jvm.ClassFile.FieldType.int)), (Jvm.Cond.methodLink "ZipGuard$Unpacker" (147 : Nat) ({ cls := "ZipGuard$CodeSet", name := "isRightForDistances", desc := "()Z" } : Jvm.MethodName)), (Jvm.Cond.instanceMethod ({ cls := "ZipGuard$CodeSet", name := "isRightForDistances", desc := "()Z" } : Jvm.MethodName)), (Jvm.Cond.selects "ZipGuard$CodeSet" ({ cls := "ZipGuard$CodeSet", name := "isRightForDistances", desc := "()Z" } : Jvm.MethodName) ({ cls := "ZipGuard$CodeSet", name := "isRightForDistances", desc := "()Z" } : Jvm.MethodName)), (Jvm.Cond.code ({ cls := "ZipGuard$CodeSet", name := "isRightForDistances", desc := "()Z" } : Jvm.MethodName) prog_3_method_4_code (1 : Nat) (Option.some Jvm.ClassFile.FieldType.boolean)), (Jvm.Cond.methodLink "ZipGuard$CodeSet" (30 : Nat) ({ cls := "ZipGuard$CodeSet", name := "isFull", desc := "()Z" } : Jvm.MethodName)), (Jvm.Cond.methodLink "ZipGuard$Unpacker" (96 : Nat) ({ cls := "ZipGuard$Unpacker", name := "checkWhole", desc := "(LZipGuard$Entry;)I" } : Jvm.MethodName)), (Jvm.Cond.instanceMethod ({ cls := "ZipGuard$Unpacker", name := "checkWhole", desc := "(LZipGuard$Entry;)I" } : Jvm.MethodName)), (Jvm.Cond.code ({ cls := "ZipGuard$Unpacker", name := "checkWhole", desc := "(LZipGuard$Entry;)I" } : Jvm.MethodName) prog_8_method_4_code (2 : Nat) (Option.some Jvm.ClassFile.FieldType.int)), (Jvm.Cond.methodLink "ZipGuard$Unpacker" (106 : Nat) ({ cls := "ZipGuard$BitReader", name := "hasWholeByteLeft", desc := "()Z" } : Jvm.MethodName)), (Jvm.Cond.instanceMethod ({ cls := "ZipGuard$BitReader", name := "hasWholeByteLeft", desc := "()Z" } : Jvm.MethodName)), (Jvm.Cond.selects "ZipGuard$BitReader" ({ cls := "ZipGuard$BitReader", name := "hasWholeByteLeft", desc := "()Z" } : Jvm.MethodName) ({ cls := "ZipGuard$BitReader", name := "hasWholeByteLeft", desc := "()Z" } : Jvm.MethodName)), (Jvm.Cond.code ({ cls := "ZipGuard$BitReader", name := "hasWholeByteLeft", desc := "()Z" } : Jvm.MethodName) prog_2_method_5_code (1 : Nat) (Option.some Jvm.ClassFile.FieldType.boolean)), (Jvm.Cond.methodLink "ZipGuard$Unpacker" (110 : Nat) ({ cls := "ZipGuard$Target", name := "sumSinceBegin", desc := "()I" } : Jvm.MethodName)), (Jvm.Cond.instanceMethod ({ cls := "ZipGuard$Target", name := "sumSinceBegin", desc := "()I" } : Jvm.MethodName)), (Jvm.Cond.selects "ZipGuard$Target" ({ cls := "ZipGuard$Target", name := "sumSinceBegin", desc := "()I" } : Jvm.MethodName) ({ cls := "ZipGuard$Target", name := "sumSinceBegin", desc := "()I" } : Jvm.MethodName)), (Jvm.Cond.code ({ cls := "ZipGuard$Target", name := "sumSinceBegin", desc := "()I" } : Jvm.MethodName) prog_7_method_6_code (1 : Nat) (Option.some Jvm.ClassFile.FieldType.int)), (Jvm.Cond.methodLink "ZipGuardLaw" (88 : Nat) ({ cls := "ZipGuardLaw", name := "takeAll", desc := "(LZipGuard;[J)I" } : Jvm.MethodName)), (Jvm.Cond.static ({ cls := "ZipGuardLaw", name := "takeAll", desc := "(LZipGuard;[J)I" } : Jvm.MethodName)), (Jvm.Cond.codeWith ({ cls := "ZipGuardLaw", name := "takeAll", desc := "(LZipGuard;[J)I" } : Jvm.MethodName) method_8_code (3 : Nat) (Option.some Jvm.ClassFile.FieldType.int) [((0 : Nat), (8 : Nat), (11 : Nat), (13 : Nat))]), (Jvm.Cond.methodLink "ZipGuardLaw" (35 : Nat) ({ cls := "ZipGuard", name := "takeAll", desc := "()I" } : Jvm.MethodName)), (Jvm.Cond.instanceMethod ({ cls := "ZipGuard", name := "takeAll", desc := "()I" } : Jvm.MethodName)), (Jvm.Cond.selects "ZipGuard" ({ cls := "ZipGuard", name := "takeAll", desc := "()I" } : Jvm.MethodName) ({ cls := "ZipGuard", name := "takeAll", desc := "()I" } : Jvm.MethodName)), (Jvm.Cond.code ({ cls := "ZipGuard", name := "takeAll", desc := "()I" } : Jvm.MethodName) prog_1_method_9_code (2 : Nat) (Option.some Jvm.ClassFile.FieldType.int)), (Jvm.Cond.methodLink "ZipGuardLaw" (92 : Nat) ({ cls := "ZipGuardLaw", name := "entry", desc := "(LZipGuard;II[J)I" } : Jvm.MethodName)), (Jvm.Cond.static ({ cls := "ZipGuardLaw", name := "entry", desc := "(LZipGuard;II[J)I" } : Jvm.MethodName)), (Jvm.Cond.codeWith ({ cls := "ZipGuardLaw", name := "entry", desc := "(LZipGuard;II[J)I" } : Jvm.MethodName) method_9_code (5 : Nat) (Option.some Jvm.ClassFile.FieldType.int) [((0 : Nat), (10 : Nat), (13 : Nat), (13 : Nat)), ((0 : Nat), (10 : Nat), (17 : Nat), (25 : Nat)), ((0 : Nat), (10 : Nat), (21 : Nat), (19 : Nat))]), (Jvm.Cond.methodLink "ZipGuardLaw" (39 : Nat) ({ cls := "ZipGuard", name := "entry", desc := "(II)I" } : Jvm.MethodName)), (Jvm.Cond.instanceMethod ({ cls := "ZipGuard", name := "entry", desc := "(II)I" } : Jvm.MethodName)), (Jvm.Cond.selects "ZipGuard" ({ cls := "ZipGuard", name := "entry", desc := "(II)I" } : Jvm.MethodName) ({ cls := "ZipGuard", name := "entry", desc := "(II)I" } : Jvm.MethodName)), (Jvm.Cond.code ({ cls := "ZipGuard", name := "entry", desc := "(II)I" } : Jvm.MethodName) prog_1_method_10_code (4 : Nat) (Option.some Jvm.ClassFile.FieldType.int)), (Jvm.Cond.methodLink "ZipGuardLaw" (95 : Nat) ({ cls := "ZipGuardLaw", name := "name", desc := "(LZipGuard;II[J)I" } : Jvm.MethodName)), (Jvm.Cond.static ({ cls := "ZipGuardLaw", name := "name", desc := "(LZipGuard;II[J)I" } : Jvm.MethodName)), (Jvm.Cond.codeWith ({ cls := "ZipGuardLaw", name := "name", desc := "(LZipGuard;II[J)I" } : Jvm.MethodName) method_10_code (5 : Nat) (Option.some Jvm.ClassFile.FieldType.int) [((0 : Nat), (10 : Nat), (13 : Nat), (13 : Nat)), ((0 : Nat), (10 : Nat), (17 : Nat), (25 : Nat))]), (Jvm.Cond.methodLink "ZipGuardLaw" (42 : Nat) ({ cls := "ZipGuard", name := "name", desc := "(II)I" } : Jvm.MethodName)), (Jvm.Cond.instanceMethod ({ cls := "ZipGuard", name := "name", desc := "(II)I" } : Jvm.MethodName)), (Jvm.Cond.selects "ZipGuard" ({ cls := "ZipGuard", name := "name", desc := "(II)I" } : Jvm.MethodName) ({ cls := "ZipGuard", name := "name", desc := "(II)I" } : Jvm.MethodName)), (Jvm.Cond.code ({ cls := "ZipGuard", name := "name", desc := "(II)I" } : Jvm.MethodName) prog_1_method_11_code (4 : Nat) (Option.some Jvm.ClassFile.FieldType.int))]
def zt_5 : List Cond := [(Jvm.Cond.methodLink "ZipGuardLaw" (98 : Nat) ({ cls := "ZipGuardLaw", name := "written", desc := "(LZipGuard;II[J)I" } : Jvm.MethodName)), (Jvm.Cond.static ({ cls := "ZipGuardLaw", name := "written", desc := "(LZipGuard;II[J)I" } : Jvm.MethodName)), (Jvm.Cond.codeWith ({ cls := "ZipGuardLaw", name := "written", desc := "(LZipGuard;II[J)I" } : Jvm.MethodName) method_11_code (5 : Nat) (Option.some Jvm.ClassFile.FieldType.int) [((0 : Nat), (10 : Nat), (13 : Nat), (13 : Nat)), ((0 : Nat), (10 : Nat), (17 : Nat), (25 : Nat))]), (Jvm.Cond.methodLink "ZipGuardLaw" (45 : Nat) ({ cls := "ZipGuard", name := "written", desc := "(II)I" } : Jvm.MethodName)), (Jvm.Cond.instanceMethod ({ cls := "ZipGuard", name := "written", desc := "(II)I" } : Jvm.MethodName)), (Jvm.Cond.selects "ZipGuard" ({ cls := "ZipGuard", name := "written", desc := "(II)I" } : Jvm.MethodName) ({ cls := "ZipGuard", name := "written", desc := "(II)I" } : Jvm.MethodName)), (Jvm.Cond.code ({ cls := "ZipGuard", name := "written", desc := "(II)I" } : Jvm.MethodName) prog_1_method_12_code (4 : Nat) (Option.some Jvm.ClassFile.FieldType.int)), (Jvm.Cond.methodLink "ZipGuard" (139 : Nat) ({ cls := "ZipGuard$Target", name := "byteOf", desc := "(LZipGuard$Entry;I)I" } : Jvm.MethodName)), (Jvm.Cond.methodLink "ZipGuardLaw" (101 : Nat) ({ cls := "ZipGuardLaw", name := "about", desc := "(LZipGuard;I[J)I" } : Jvm.MethodName)), (Jvm.Cond.static ({ cls := "ZipGuardLaw", name := "about", desc := "(LZipGuard;I[J)I" } : Jvm.MethodName)), (Jvm.Cond.codeWith ({ cls := "ZipGuardLaw", name := "about", desc := "(LZipGuard;I[J)I" } : Jvm.MethodName) method_12_code (4 : Nat) (Option.some Jvm.ClassFile.FieldType.int) [((0 : Nat), (9 : Nat), (12 : Nat), (19 : Nat))]), (Jvm.Cond.methodLink "ZipGuardLaw" (48 : Nat) ({ cls := "ZipGuard", name := "about", desc := "(I)I" } : Jvm.MethodName)), (Jvm.Cond.instanceMethod ({ cls := "ZipGuard", name := "about", desc := "(I)I" } : Jvm.MethodName)), (Jvm.Cond.selects "ZipGuard" ({ cls := "ZipGuard", name := "about", desc := "(I)I" } : Jvm.MethodName) ({ cls := "ZipGuard", name := "about", desc := "(I)I" } : Jvm.MethodName)), (Jvm.Cond.code ({ cls := "ZipGuard", name := "about", desc := "(I)I" } : Jvm.MethodName) prog_1_method_13_code (2 : Nat) (Option.some Jvm.ClassFile.FieldType.int)), (Jvm.Cond.classLink "ZipGuardLaw" (52 : Nat) "ZipGuardModel"), (Jvm.Cond.instantiable "ZipGuardModel" (31 : Nat)), (Jvm.Cond.methodLink "ZipGuardLaw" (54 : Nat) ({ cls := "ZipGuardModel", name := "<init>", desc := "()V" } : Jvm.MethodName)), (Jvm.Cond.instanceMethod ({ cls := "ZipGuardModel", name := "<init>", desc := "()V" } : Jvm.MethodName)), (Jvm.Cond.code ({ cls := "ZipGuardModel", name := "<init>", desc := "()V" } : Jvm.MethodName) prog_10_method_1_code (1 : Nat) (Option.none : Option Jvm.ClassFile.FieldType)), (Jvm.Cond.methodLink "ZipGuardModel" (1 : Nat) ({ cls := "java/lang/Object", name := "<init>", desc := "()V" } : Jvm.MethodName)), (Jvm.Cond.constant "ZipGuardModel" (61 : Nat) (40000 : Int32)), (Jvm.Cond.fieldLink "ZipGuardModel" (7 : Nat) "ZipGuardModel" "tape" "[B"), (Jvm.Cond.fieldLink "ZipGuardModel" (90 : Nat) "ZipGuardModel" "length" "I"), (Jvm.Cond.fieldLink "ZipGuardModel" (80 : Nat) "ZipGuardModel" "isOpen" "Z"), (Jvm.Cond.fieldLink "ZipGuardModel" (13 : Nat) "ZipGuardModel" "faultPlace" "I"), (Jvm.Cond.fieldLink "ZipGuardModel" (17 : Nat) "ZipGuardModel" "budget" "I"), (Jvm.Cond.fieldLink "ZipGuardModel" (20 : Nat) "ZipGuardModel" "ratio" "I"), (Jvm.Cond.fieldLink "ZipGuardModel" (84 : Nat) "ZipGuardModel" "entries" "I"), (Jvm.Cond.fieldLink "ZipGuardModel" (23 : Nat) "ZipGuardModel" "methods" "[I"), (Jvm.Cond.fieldLink "ZipGuardModel" (27 : Nat) "ZipGuardModel" "packed" "[J"), (Jvm.Cond.fieldLink "ZipGuardModel" (31 : Nat) "ZipGuardModel" "sizes" "[J"), (Jvm.Cond.fieldLink "ZipGuardModel" (34 : Nat) "ZipGuardModel" "sums" "[I"), (Jvm.Cond.fieldLink "ZipGuardModel" (37 : Nat) "ZipGuardModel" "datas" "[I"), (Jvm.Cond.fieldLink "ZipGuardModel" (40 : Nat) "ZipGuardModel" "locals" "[I"), (Jvm.Cond.fieldLink "ZipGuardModel" (43 : Nat) "ZipGuardModel" "localEnds" "[I"), (Jvm.Cond.fieldLink "ZipGuardModel" (46 : Nat) "ZipGuardModel" "names" "[B"), (Jvm.Cond.fieldLink "ZipGuardModel" (49 : Nat) "ZipGuardModel" "nameSizes" "[I"), (Jvm.Cond.fieldLink "ZipGuardModel" (52 : Nat) "ZipGuardModel" "states" "[I"), (Jvm.Cond.fieldLink "ZipGuardModel" (55 : Nat) "ZipGuardModel" "starts" "[I"), (Jvm.Cond.fieldLink "ZipGuardModel" (58 : Nat) "ZipGuardModel" "counts" "[I"), (Jvm.Cond.fieldLink "ZipGuardModel" (62 : Nat) "ZipGuardModel" "written" "[B"), (Jvm.Cond.fieldLink "ZipGuardModel" (87 : Nat) "ZipGuardModel" "total" "I"), (Jvm.Cond.fieldLink "ZipGuardModel" (199 : Nat) "ZipGuardModel" "now" "I"), (Jvm.Cond.fieldLink "ZipGuardModel" (205 : Nat) "ZipGuardModel" "bit" "I"), (Jvm.Cond.fieldLink "ZipGuardModel" (196 : Nat) "ZipGuardModel" "refused" "I"), (Jvm.Cond.fieldLink "ZipGuardModel" (65 : Nat) "ZipGuardModel" "lengths" "[I"), (Jvm.Cond.fieldLink "ZipGuardModel" (68 : Nat) "ZipGuardModel" "small" "[I"), (Jvm.Cond.fieldLink "ZipGuardModel" (71 : Nat) "ZipGuardModel" "codes" "[I"), (Jvm.Cond.fieldLink "ZipGuardModel" (74 : Nat) "ZipGuardModel" "smallCodes" "[I"), (Jvm.Cond.fieldLink "ZipGuardModel" (213 : Nat) "ZipGuardModel" "symbols" "I"), (Jvm.Cond.fieldLink "ZipGuardModel" (216 : Nat) "ZipGuardModel" "distances" "I"), (Jvm.Cond.fieldLink "ZipGuardModel" (77 : Nat) "ZipGuardModel" "thrown" "I"), (Jvm.Cond.laysFinal "ZipGuardModel" "ZipGuardModel" "tape" "[B"), (Jvm.Cond.soleField "ZipGuardModel" "tape"), (Jvm.Cond.lays "ZipGuardModel" "ZipGuardModel" "length" "I"), (Jvm.Cond.soleField "ZipGuardModel" "length"), (Jvm.Cond.lays "ZipGuardModel" "ZipGuardModel" "isOpen" "Z"), (Jvm.Cond.soleField "ZipGuardModel" "isOpen"), (Jvm.Cond.lays "ZipGuardModel" "ZipGuardModel" "faultPlace" "I"), (Jvm.Cond.soleField "ZipGuardModel" "faultPlace"), (Jvm.Cond.lays "ZipGuardModel" "ZipGuardModel" "budget" "I"), (Jvm.Cond.soleField "ZipGuardModel" "budget"), (Jvm.Cond.lays "ZipGuardModel" "ZipGuardModel" "ratio" "I"), (Jvm.Cond.soleField "ZipGuardModel" "ratio"), (Jvm.Cond.lays "ZipGuardModel" "ZipGuardModel" "entries" "I"), (Jvm.Cond.soleField "ZipGuardModel" "entries"), (Jvm.Cond.laysFinal "ZipGuardModel" "ZipGuardModel" "methods" "[I"), (Jvm.Cond.soleField "ZipGuardModel" "methods"), (Jvm.Cond.laysFinal "ZipGuardModel" "ZipGuardModel" "packed" "[J"), (Jvm.Cond.soleField "ZipGuardModel" "packed"), (Jvm.Cond.laysFinal "ZipGuardModel" "ZipGuardModel" "sizes" "[J"), (Jvm.Cond.soleField "ZipGuardModel" "sizes"), (Jvm.Cond.laysFinal "ZipGuardModel" "ZipGuardModel" "sums" "[I"), (Jvm.Cond.soleField "ZipGuardModel" "sums"), (Jvm.Cond.laysFinal "ZipGuardModel" "ZipGuardModel" "datas" "[I"), (Jvm.Cond.soleField "ZipGuardModel" "datas"), (Jvm.Cond.laysFinal "ZipGuardModel" "ZipGuardModel" "locals" "[I"), (Jvm.Cond.soleField "ZipGuardModel" "locals"), (Jvm.Cond.laysFinal "ZipGuardModel" "ZipGuardModel" "localEnds" "[I"), (Jvm.Cond.soleField "ZipGuardModel" "localEnds"), (Jvm.Cond.laysFinal "ZipGuardModel" "ZipGuardModel" "names" "[B"), (Jvm.Cond.soleField "ZipGuardModel" "names"), (Jvm.Cond.laysFinal "ZipGuardModel" "ZipGuardModel" "nameSizes" "[I"), (Jvm.Cond.soleField "ZipGuardModel" "nameSizes"), (Jvm.Cond.laysFinal "ZipGuardModel" "ZipGuardModel" "states" "[I"), (Jvm.Cond.soleField "ZipGuardModel" "states"), (Jvm.Cond.laysFinal "ZipGuardModel" "ZipGuardModel" "starts" "[I"), (Jvm.Cond.soleField "ZipGuardModel" "starts"), (Jvm.Cond.laysFinal "ZipGuardModel" "ZipGuardModel" "counts" "[I"), (Jvm.Cond.soleField "ZipGuardModel" "counts"), (Jvm.Cond.laysFinal "ZipGuardModel" "ZipGuardModel" "written" "[B"), (Jvm.Cond.soleField "ZipGuardModel" "written"), (Jvm.Cond.lays "ZipGuardModel" "ZipGuardModel" "total" "I"), (Jvm.Cond.soleField "ZipGuardModel" "total"), (Jvm.Cond.lays "ZipGuardModel" "ZipGuardModel" "now" "I"), (Jvm.Cond.soleField "ZipGuardModel" "now"), (Jvm.Cond.lays "ZipGuardModel" "ZipGuardModel" "bit" "I"), (Jvm.Cond.soleField "ZipGuardModel" "bit"), (Jvm.Cond.lays "ZipGuardModel" "ZipGuardModel" "refused" "I"), (Jvm.Cond.soleField "ZipGuardModel" "refused"), (Jvm.Cond.laysFinal "ZipGuardModel" "ZipGuardModel" "lengths" "[I"), (Jvm.Cond.soleField "ZipGuardModel" "lengths"), (Jvm.Cond.laysFinal "ZipGuardModel" "ZipGuardModel" "small" "[I"), (Jvm.Cond.soleField "ZipGuardModel" "small"), (Jvm.Cond.laysFinal "ZipGuardModel" "ZipGuardModel" "codes" "[I"), (Jvm.Cond.soleField "ZipGuardModel" "codes"), (Jvm.Cond.laysFinal "ZipGuardModel" "ZipGuardModel" "smallCodes" "[I"), (Jvm.Cond.soleField "ZipGuardModel" "smallCodes"), (Jvm.Cond.lays "ZipGuardModel" "ZipGuardModel" "symbols" "I"), (Jvm.Cond.soleField "ZipGuardModel" "symbols"), (Jvm.Cond.lays "ZipGuardModel" "ZipGuardModel" "distances" "I"), (Jvm.Cond.soleField "ZipGuardModel" "distances"), (Jvm.Cond.lays "ZipGuardModel" "ZipGuardModel" "thrown" "I"), (Jvm.Cond.soleField "ZipGuardModel" "thrown"), (Jvm.Cond.superclass "ZipGuardModel" "java/lang/Object"), (Jvm.Cond.arrayClass Jvm.ClassFile.FieldType.long), (Jvm.Cond.methodLink "ZipGuardLaw" (61 : Nat) ({ cls := "ZipGuardModel", name := "thrown", desc := "()I" } : Jvm.MethodName)), (Jvm.Cond.instanceMethod ({ cls := "ZipGuardModel", name := "thrown", desc := "()I" } : Jvm.MethodName)), (Jvm.Cond.selects "ZipGuardModel" ({ cls := "ZipGuardModel", name := "thrown", desc := "()I" } : Jvm.MethodName) ({ cls := "ZipGuardModel", name := "thrown", desc := "()I" } : Jvm.MethodName)), (Jvm.Cond.code ({ cls := "ZipGuardModel", name := "thrown", desc := "()I" } : Jvm.MethodName) prog_10_method_2_code (1 : Nat) (Option.some Jvm.ClassFile.FieldType.int)), (Jvm.Cond.methodLink "ZipGuardLaw" (60 : Nat) ({ cls := "ZipGuardModel", name := "feed", desc := "(IIIII)I" } : Jvm.MethodName)), (Jvm.Cond.instanceMethod ({ cls := "ZipGuardModel", name := "feed", desc := "(IIIII)I" } : Jvm.MethodName)), (Jvm.Cond.selects "ZipGuardModel" ({ cls := "ZipGuardModel", name := "feed", desc := "(IIIII)I" } : Jvm.MethodName) ({ cls := "ZipGuardModel", name := "feed", desc := "(IIIII)I" } : Jvm.MethodName)), (Jvm.Cond.code ({ cls := "ZipGuardModel", name := "feed", desc := "(IIIII)I" } : Jvm.MethodName) prog_10_method_5_code (8 : Nat) (Option.some Jvm.ClassFile.FieldType.int)), (Jvm.Cond.methodLink "ZipGuardModel" (93 : Nat) ({ cls := "ZipGuardModel", name := "fails", desc := "(ZI)Z" } : Jvm.MethodName)), (Jvm.Cond.instanceMethod ({ cls := "ZipGuardModel", name := "fails", desc := "(ZI)Z" } : Jvm.MethodName)), (Jvm.Cond.code ({ cls := "ZipGuardModel", name := "fails", desc := "(ZI)Z" } : Jvm.MethodName) prog_10_method_3_code (3 : Nat) (Option.some Jvm.ClassFile.FieldType.boolean)), (Jvm.Cond.methodLink "ZipGuardModel" (97 : Nat) ({ cls := "ZipGuardModel", name := "shut", desc := "()V" } : Jvm.MethodName)), (Jvm.Cond.instanceMethod ({ cls := "ZipGuardModel", name := "shut", desc := "()V" } : Jvm.MethodName)), (Jvm.Cond.code ({ cls := "ZipGuardModel", name := "shut", desc := "()V" } : Jvm.MethodName) prog_10_method_4_code (1 : Nat) (Option.none : Option Jvm.ClassFile.FieldType)), (Jvm.Cond.methodLink "ZipGuardLaw" (67 : Nat) ({ cls := "ZipGuardModel", name := "end", desc := "(I)V" } : Jvm.MethodName)), (Jvm.Cond.instanceMethod ({ cls := "ZipGuardModel", name := "end", desc := "(I)V" } : Jvm.MethodName)), (Jvm.Cond.selects "ZipGuardModel" ({ cls := "ZipGuardModel", name := "end", desc := "(I)V" } : Jvm.MethodName) ({ cls := "ZipGuardModel", name := "end", desc := "(I)V" } : Jvm.MethodName)), (Jvm.Cond.code ({ cls := "ZipGuardModel", name := "end", desc := "(I)V" } : Jvm.MethodName) prog_10_method_6_code (2 : Nat) (Option.none : Option Jvm.ClassFile.FieldType)), (Jvm.Cond.methodLink "ZipGuardLaw" (71 : Nat) ({ cls := "ZipGuardModel", name := "alter", desc := "(II)I" } : Jvm.MethodName)), (Jvm.Cond.instanceMethod ({ cls := "ZipGuardModel", name := "alter", desc := "(II)I" } : Jvm.MethodName)), (Jvm.Cond.selects "ZipGuardModel" ({ cls := "ZipGuardModel", name := "alter", desc := "(II)I" } : Jvm.MethodName) ({ cls := "ZipGuardModel", name := "alter", desc := "(II)I" } : Jvm.MethodName)), (Jvm.Cond.code ({ cls := "ZipGuardModel", name := "alter", desc := "(II)I" } : Jvm.MethodName) prog_10_method_7_code (4 : Nat) (Option.some Jvm.ClassFile.FieldType.int)), (Jvm.Cond.methodLink "ZipGuardLaw" (75 : Nat) ({ cls := "ZipGuardModel", name := "open", desc := "()I" } : Jvm.MethodName)), (Jvm.Cond.instanceMethod ({ cls := "ZipGuardModel", name := "open", desc := "()I" } : Jvm.MethodName)), (Jvm.Cond.selects "ZipGuardModel" ({ cls := "ZipGuardModel", name := "open", desc := "()I" } : Jvm.MethodName) ({ cls := "ZipGuardModel", name := "open", desc := "()I" } : Jvm.MethodName)), (Jvm.Cond.code ({ cls := "ZipGuardModel", name := "open", desc := "()I" } : Jvm.MethodName) prog_10_method_25_code (2 : Nat) (Option.some Jvm.ClassFile.FieldType.int)), (Jvm.Cond.methodLink "ZipGuardModel" (193 : Nat) ({ cls := "ZipGuardModel", name := "judge", desc := "()I" } : Jvm.MethodName)), (Jvm.Cond.instanceMethod ({ cls := "ZipGuardModel", name := "judge", desc := "()I" } : Jvm.MethodName)), (Jvm.Cond.code ({ cls := "ZipGuardModel", name := "judge", desc := "()I" } : Jvm.MethodName) prog_10_method_24_code (14 : Nat) (Option.some Jvm.ClassFile.FieldType.int)), (Jvm.Cond.methodLink "ZipGuardModel" (166 : Nat) ({ cls := "ZipGuardModel", name := "findEnd", desc := "()I" } : Jvm.MethodName)), (Jvm.Cond.instanceMethod ({ cls := "ZipGuardModel", name := "findEnd", desc := "()I" } : Jvm.MethodName)), (Jvm.Cond.code ({ cls := "ZipGuardModel", name := "findEnd", desc := "()I" } : Jvm.MethodName) prog_10_method_13_code (2 : Nat) (Option.some Jvm.ClassFile.FieldType.int)), (Jvm.Cond.methodLink "ZipGuardModel" (111 : Nat) ({ cls := "ZipGuardModel", name := "isMark", desc := "(JII)Z" } : Jvm.MethodName)), (Jvm.Cond.instanceMethod ({ cls := "ZipGuardModel", name := "isMark", desc := "(JII)Z" } : Jvm.MethodName)), (Jvm.Cond.code ({ cls := "ZipGuardModel", name := "isMark", desc := "(JII)Z" } : Jvm.MethodName) prog_10_method_11_code (5 : Nat) (Option.some Jvm.ClassFile.FieldType.boolean)), (Jvm.Cond.methodLink "ZipGuardModel" (100 : Nat) ({ cls := "ZipGuardModel", name := "at", desc := "(J)I" } : Jvm.MethodName)), (Jvm.Cond.instanceMethod ({ cls := "ZipGuardModel", name := "at", desc := "(J)I" } : Jvm.MethodName)), (Jvm.Cond.code ({ cls := "ZipGuardModel", name := "at", desc := "(J)I" } : Jvm.MethodName) prog_10_method_8_code (3 : Nat) (Option.some Jvm.ClassFile.FieldType.int)), (Jvm.Cond.constantLong "ZipGuardModel" (107 : Nat) (2 : Int64)), (Jvm.Cond.constantLong "ZipGuardModel" (109 : Nat) (3 : Int64)), (Jvm.Cond.methodLink "ZipGuardModel" (104 : Nat) ({ cls := "ZipGuardModel", name := "two", desc := "(J)I" } : Jvm.MethodName)), (Jvm.Cond.instanceMethod ({ cls := "ZipGuardModel", name := "two", desc := "(J)I" } : Jvm.MethodName)), (Jvm.Cond.code ({ cls := "ZipGuardModel", name := "two", desc := "(J)I" } : Jvm.MethodName) prog_10_method_9_code (3 : Nat) (Option.some Jvm.ClassFile.FieldType.int)), (Jvm.Cond.methodLink "ZipGuardModel" (170 : Nat) ({ cls := "ZipGuardModel", name := "stop", desc := "(IJ)I" } : Jvm.MethodName)), (Jvm.Cond.instanceMethod ({ cls := "ZipGuardModel", name := "stop", desc := "(IJ)I" } : Jvm.MethodName)), (Jvm.Cond.code ({ cls := "ZipGuardModel", name := "stop", desc := "(IJ)I" } : Jvm.MethodName) prog_10_method_12_code (4 : Nat) (Option.some Jvm.ClassFile.FieldType.int)), (Jvm.Cond.methodLink "ZipGuardModel" (129 : Nat) ({ cls := "ZipGuardModel", name := "four", desc := "(J)J" } : Jvm.MethodName)), (Jvm.Cond.instanceMethod ({ cls := "ZipGuardModel", name := "four", desc := "(J)J" } : Jvm.MethodName)), (Jvm.Cond.code ({ cls := "ZipGuardModel", name := "four", desc := "(J)J" } : Jvm.MethodName) prog_10_method_10_code (3 : Nat) (Option.some Jvm.ClassFile.FieldType.long)), (Jvm.Cond.constantLong "ZipGuardModel" (164 : Nat) (46 : Int64)), (Jvm.Cond.constantLong "ZipGuardModel" (123 : Nat) (28 : Int64)), (Jvm.Cond.constantLong "ZipGuardModel" (156 : Nat) (30 : Int64)), (Jvm.Cond.constantLong "ZipGuardModel" (174 : Nat) (32 : Int64)), (Jvm.Cond.methodLink "ZipGuardModel" (176 : Nat) ({ cls := "ZipGuardModel", name := "wrongNumber", desc := "(J)J" } : Jvm.MethodName)), (Jvm.Cond.instanceMethod ({ cls := "ZipGuardModel", name := "wrongNumber", desc := "(J)J" } : Jvm.MethodName)), (Jvm.Cond.code ({ cls := "ZipGuardModel", name := "wrongNumber", desc := "(J)J" } : Jvm.MethodName) prog_10_method_14_code (7 : Nat) (Option.some Jvm.ClassFile.FieldType.long)), (Jvm.Cond.constantLong "ZipGuardModel" (115 : Nat) (6 : Int64)), (Jvm.Cond.constantLong "ZipGuardModel" (117 : Nat) (8 : Int64)), (Jvm.Cond.constantLong "ZipGuardModel" (119 : Nat) (10 : Int64)), (Jvm.Cond.constantLong "ZipGuardModel" (121 : Nat) (34 : Int64)), (Jvm.Cond.constantLong "ZipGuardModel" (125 : Nat) (45 : Int64)), (Jvm.Cond.constantLong "ZipGuardModel" (127 : Nat) (20 : Int64)), (Jvm.Cond.constantLong "ZipGuardModel" (133 : Nat) (24 : Int64)), (Jvm.Cond.methodLink "ZipGuardModel" (179 : Nat) ({ cls := "ZipGuardModel", name := "isName", desc := "(JI)Z" } : Jvm.MethodName)), (Jvm.Cond.instanceMethod ({ cls := "ZipGuardModel", name := "isName", desc := "(JI)Z" } : Jvm.MethodName)), (Jvm.Cond.code ({ cls := "ZipGuardModel", name := "isName", desc := "(JI)Z" } : Jvm.MethodName) prog_10_method_16_code (10 : Nat) (Option.some Jvm.ClassFile.FieldType.boolean)), (Jvm.Cond.methodLink "ZipGuardModel" (135 : Nat) ({ cls := "ZipGuardModel", name := "isPlain", desc := "(I)Z" } : Jvm.MethodName)), (Jvm.Cond.static ({ cls := "ZipGuardModel", name := "isPlain", desc := "(I)Z" } : Jvm.MethodName)), (Jvm.Cond.code ({ cls := "ZipGuardModel", name := "isPlain", desc := "(I)Z" } : Jvm.MethodName) prog_10_method_15_code (1 : Nat) (Option.some Jvm.ClassFile.FieldType.boolean)), (Jvm.Cond.methodLink "ZipGuardModel" (183 : Nat) ({ cls := "ZipGuardModel", name := "isTwice", desc := "(I)Z" } : Jvm.MethodName)), (Jvm.Cond.instanceMethod ({ cls := "ZipGuardModel", name := "isTwice", desc := "(I)Z" } : Jvm.MethodName)), (Jvm.Cond.code ({ cls := "ZipGuardModel", name := "isTwice", desc := "(I)Z" } : Jvm.MethodName) prog_10_method_21_code (3 : Nat) (Option.some Jvm.ClassFile.FieldType.boolean)), (Jvm.Cond.methodLink "ZipGuardModel" (150 : Nat) ({ cls := "ZipGuardModel", name := "isIn", desc := "(IIZ)Z" } : Jvm.MethodName)), (Jvm.Cond.instanceMethod ({ cls := "ZipGuardModel", name := "isIn", desc := "(IIZ)Z" } : Jvm.MethodName)), (Jvm.Cond.code ({ cls := "ZipGuardModel", name := "isIn", desc := "(IIZ)Z" } : Jvm.MethodName) prog_10_method_20_code (6 : Nat) (Option.some Jvm.ClassFile.FieldType.boolean)), (Jvm.Cond.methodLink "ZipGuardModel" (146 : Nat) ({ cls := "ZipGuardModel", name := "bareSize", desc := "(I)I" } : Jvm.MethodName)), (Jvm.Cond.instanceMethod ({ cls := "ZipGuardModel", name := "bareSize", desc := "(I)I" } : Jvm.MethodName)), (Jvm.Cond.code ({ cls := "ZipGuardModel", name := "bareSize", desc := "(I)I" } : Jvm.MethodName) prog_10_method_19_code (2 : Nat) (Option.some Jvm.ClassFile.FieldType.int)), (Jvm.Cond.methodLink "ZipGuardModel" (143 : Nat) ({ cls := "ZipGuardModel", name := "isFolder", desc := "(I)Z" } : Jvm.MethodName)), (Jvm.Cond.instanceMethod ({ cls := "ZipGuardModel", name := "isFolder", desc := "(I)Z" } : Jvm.MethodName)), (Jvm.Cond.code ({ cls := "ZipGuardModel", name := "isFolder", desc := "(I)Z" } : Jvm.MethodName) prog_10_method_18_code (2 : Nat) (Option.some Jvm.ClassFile.FieldType.boolean)), (Jvm.Cond.methodLink "ZipGuardModel" (139 : Nat) ({ cls := "ZipGuardModel", name := "nameByte", desc := "(II)I" } : Jvm.MethodName)), (Jvm.Cond.instanceMethod ({ cls := "ZipGuardModel", name := "nameByte", desc := "(II)I" } : Jvm.MethodName)), (Jvm.Cond.code ({ cls := "ZipGuardModel", name := "nameByte", desc := "(II)I" } : Jvm.MethodName) prog_10_method_17_code (3 : Nat) (Option.some Jvm.ClassFile.FieldType.int)), (Jvm.Cond.methodLink "ZipGuardModel" (186 : Nat) ({ cls := "ZipGuardModel", name := "isLocal", desc := "(IJJ)Z" } : Jvm.MethodName)), (Jvm.Cond.instanceMethod ({ cls := "ZipGuardModel", name := "isLocal", desc := "(IJJ)Z" } : Jvm.MethodName)), (Jvm.Cond.code ({ cls := "ZipGuardModel", name := "isLocal", desc := "(IJJ)Z" } : Jvm.MethodName) prog_10_method_22_code (12 : Nat) (Option.some Jvm.ClassFile.FieldType.boolean)), (Jvm.Cond.constantLong "ZipGuardModel" (154 : Nat) (42 : Int64)), (Jvm.Cond.constantLong "ZipGuardModel" (158 : Nat) (4 : Int64)), (Jvm.Cond.constantLong "ZipGuardModel" (160 : Nat) (14 : Int64)), (Jvm.Cond.constantLong "ZipGuardModel" (162 : Nat) (16 : Int64)), (Jvm.Cond.methodLink "ZipGuardModel" (190 : Nat) ({ cls := "ZipGuardModel", name := "isOver", desc := "(I)Z" } : Jvm.MethodName)), (Jvm.Cond.instanceMethod ({ cls := "ZipGuardModel", name := "isOver", desc := "(I)Z" } : Jvm.MethodName)), (Jvm.Cond.code ({ cls := "ZipGuardModel", name := "isOver", desc := "(I)Z" } : Jvm.MethodName) prog_10_method_23_code (3 : Nat) (Option.some Jvm.ClassFile.FieldType.boolean)), (Jvm.Cond.methodLink "ZipGuardLaw" (79 : Nat) ({ cls := "ZipGuardModel", name := "place", desc := "()I" } : Jvm.MethodName)), (Jvm.Cond.instanceMethod ({ cls := "ZipGuardModel", name := "place", desc := "()I" } : Jvm.MethodName)), (Jvm.Cond.selects "ZipGuardModel" ({ cls := "ZipGuardModel", name := "place", desc := "()I" } : Jvm.MethodName) ({ cls := "ZipGuardModel", name := "place", desc := "()I" } : Jvm.MethodName)), (Jvm.Cond.code ({ cls := "ZipGuardModel", name := "place", desc := "()I" } : Jvm.MethodName) prog_10_method_26_code (1 : Nat) (Option.some Jvm.ClassFile.FieldType.int)), (Jvm.Cond.methodLink "ZipGuardLaw" (83 : Nat) ({ cls := "ZipGuardModel", name := "limits", desc := "(II)V" } : Jvm.MethodName)), (Jvm.Cond.instanceMethod ({ cls := "ZipGuardModel", name := "limits", desc := "(II)V" } : Jvm.MethodName)), (Jvm.Cond.selects "ZipGuardModel" ({ cls := "ZipGuardModel", name := "limits", desc := "(II)V" } : Jvm.MethodName) ({ cls := "ZipGuardModel", name := "limits", desc := "(II)V" } : Jvm.MethodName)), (Jvm.Cond.code ({ cls := "ZipGuardModel", name := "limits", desc := "(II)V" } : Jvm.MethodName) prog_10_method_27_code (3 : Nat) (Option.none : Option Jvm.ClassFile.FieldType)), (Jvm.Cond.methodLink "ZipGuardLaw" (87 : Nat) ({ cls := "ZipGuardModel", name := "take", desc := "(I)I" } : Jvm.MethodName)), (Jvm.Cond.instanceMethod ({ cls := "ZipGuardModel", name := "take", desc := "(I)I" } : Jvm.MethodName)), (Jvm.Cond.selects "ZipGuardModel" ({ cls := "ZipGuardModel", name := "take", desc := "(I)I" } : Jvm.MethodName) ({ cls := "ZipGuardModel", name := "take", desc := "(I)I" } : Jvm.MethodName))]
def zt_6 : List Cond := [(Jvm.Cond.code ({ cls := "ZipGuardModel", name := "take", desc := "(I)I" } : Jvm.MethodName) prog_10_method_47_code (2 : Nat) (Option.some Jvm.ClassFile.FieldType.int)), (Jvm.Cond.methodLink "ZipGuardModel" (270 : Nat) ({ cls := "ZipGuardModel", name := "isThere", desc := "(I)Z" } : Jvm.MethodName)), (Jvm.Cond.instanceMethod ({ cls := "ZipGuardModel", name := "isThere", desc := "(I)Z" } : Jvm.MethodName)), (Jvm.Cond.code ({ cls := "ZipGuardModel", name := "isThere", desc := "(I)Z" } : Jvm.MethodName) prog_10_method_46_code (2 : Nat) (Option.some Jvm.ClassFile.FieldType.boolean)), (Jvm.Cond.methodLink "ZipGuardModel" (273 : Nat) ({ cls := "ZipGuardModel", name := "takeOne", desc := "(I)I" } : Jvm.MethodName)), (Jvm.Cond.instanceMethod ({ cls := "ZipGuardModel", name := "takeOne", desc := "(I)I" } : Jvm.MethodName)), (Jvm.Cond.code ({ cls := "ZipGuardModel", name := "takeOne", desc := "(I)I" } : Jvm.MethodName) prog_10_method_45_code (3 : Nat) (Option.some Jvm.ClassFile.FieldType.int)), (Jvm.Cond.methodLink "ZipGuardModel" (264 : Nat) ({ cls := "ZipGuardModel", name := "inflate", desc := "()V" } : Jvm.MethodName)), (Jvm.Cond.instanceMethod ({ cls := "ZipGuardModel", name := "inflate", desc := "()V" } : Jvm.MethodName)), (Jvm.Cond.code ({ cls := "ZipGuardModel", name := "inflate", desc := "()V" } : Jvm.MethodName) prog_10_method_43_code (3 : Nat) (Option.none : Option Jvm.ClassFile.FieldType)), (Jvm.Cond.methodLink "ZipGuardModel" (208 : Nat) ({ cls := "ZipGuardModel", name := "bits", desc := "(I)I" } : Jvm.MethodName)), (Jvm.Cond.instanceMethod ({ cls := "ZipGuardModel", name := "bits", desc := "(I)I" } : Jvm.MethodName)), (Jvm.Cond.code ({ cls := "ZipGuardModel", name := "bits", desc := "(I)I" } : Jvm.MethodName) prog_10_method_30_code (4 : Nat) (Option.some Jvm.ClassFile.FieldType.int)), (Jvm.Cond.methodLink "ZipGuardModel" (202 : Nat) ({ cls := "ZipGuardModel", name := "refuse", desc := "(I)Z" } : Jvm.MethodName)), (Jvm.Cond.instanceMethod ({ cls := "ZipGuardModel", name := "refuse", desc := "(I)Z" } : Jvm.MethodName)), (Jvm.Cond.code ({ cls := "ZipGuardModel", name := "refuse", desc := "(I)Z" } : Jvm.MethodName) prog_10_method_28_code (2 : Nat) (Option.some Jvm.ClassFile.FieldType.boolean)), (Jvm.Cond.methodLink "ZipGuardModel" (251 : Nat) ({ cls := "ZipGuardModel", name := "plainBlock", desc := "()V" } : Jvm.MethodName)), (Jvm.Cond.instanceMethod ({ cls := "ZipGuardModel", name := "plainBlock", desc := "()V" } : Jvm.MethodName)), (Jvm.Cond.code ({ cls := "ZipGuardModel", name := "plainBlock", desc := "()V" } : Jvm.MethodName) prog_10_method_42_code (5 : Nat) (Option.none : Option Jvm.ClassFile.FieldType)), (Jvm.Cond.constant "ZipGuardModel" (250 : Nat) (65535 : Int32)), (Jvm.Cond.methodLink "ZipGuardModel" (237 : Nat) ({ cls := "ZipGuardModel", name := "write", desc := "(I)Z" } : Jvm.MethodName)), (Jvm.Cond.instanceMethod ({ cls := "ZipGuardModel", name := "write", desc := "(I)Z" } : Jvm.MethodName)), (Jvm.Cond.code ({ cls := "ZipGuardModel", name := "write", desc := "(I)Z" } : Jvm.MethodName) prog_10_method_29_code (2 : Nat) (Option.some Jvm.ClassFile.FieldType.boolean)), (Jvm.Cond.methodLink "ZipGuardModel" (254 : Nat) ({ cls := "ZipGuardModel", name := "plainCodes", desc := "()V" } : Jvm.MethodName)), (Jvm.Cond.instanceMethod ({ cls := "ZipGuardModel", name := "plainCodes", desc := "()V" } : Jvm.MethodName)), (Jvm.Cond.code ({ cls := "ZipGuardModel", name := "plainCodes", desc := "()V" } : Jvm.MethodName) prog_10_method_34_code (2 : Nat) (Option.none : Option Jvm.ClassFile.FieldType)), (Jvm.Cond.methodLink "ZipGuardModel" (219 : Nat) ({ cls := "ZipGuardModel", name := "numberBoth", desc := "()V" } : Jvm.MethodName)), (Jvm.Cond.instanceMethod ({ cls := "ZipGuardModel", name := "numberBoth", desc := "()V" } : Jvm.MethodName)), (Jvm.Cond.code ({ cls := "ZipGuardModel", name := "numberBoth", desc := "()V" } : Jvm.MethodName) prog_10_method_35_code (1 : Nat) (Option.none : Option Jvm.ClassFile.FieldType)), (Jvm.Cond.methodLink "ZipGuardModel" (222 : Nat) ({ cls := "ZipGuardModel", name := "number", desc := "([I[III)V" } : Jvm.MethodName)), (Jvm.Cond.static ({ cls := "ZipGuardModel", name := "number", desc := "([I[III)V" } : Jvm.MethodName)), (Jvm.Cond.code ({ cls := "ZipGuardModel", name := "number", desc := "([I[III)V" } : Jvm.MethodName) prog_10_method_31_code (7 : Nat) (Option.none : Option Jvm.ClassFile.FieldType)), (Jvm.Cond.methodLink "ZipGuardModel" (257 : Nat) ({ cls := "ZipGuardModel", name := "readCodes", desc := "()V" } : Jvm.MethodName)), (Jvm.Cond.instanceMethod ({ cls := "ZipGuardModel", name := "readCodes", desc := "()V" } : Jvm.MethodName)), (Jvm.Cond.code ({ cls := "ZipGuardModel", name := "readCodes", desc := "()V" } : Jvm.MethodName) prog_10_method_37_code (8 : Nat) (Option.none : Option Jvm.ClassFile.FieldType)), (Jvm.Cond.methodLink "ZipGuardModel" (226 : Nat) ({ cls := "ZipGuardModel", name := "smallOf", desc := "(I)I" } : Jvm.MethodName)), (Jvm.Cond.static ({ cls := "ZipGuardModel", name := "smallOf", desc := "(I)I" } : Jvm.MethodName)), (Jvm.Cond.code ({ cls := "ZipGuardModel", name := "smallOf", desc := "(I)I" } : Jvm.MethodName) prog_10_method_36_code (2 : Nat) (Option.some Jvm.ClassFile.FieldType.int)), (Jvm.Cond.methodLink "ZipGuardModel" (229 : Nat) ({ cls := "ZipGuardModel", name := "isRight", desc := "([IIIZ)Z" } : Jvm.MethodName)), (Jvm.Cond.static ({ cls := "ZipGuardModel", name := "isRight", desc := "([IIIZ)Z" } : Jvm.MethodName)), (Jvm.Cond.code ({ cls := "ZipGuardModel", name := "isRight", desc := "([IIIZ)Z" } : Jvm.MethodName) prog_10_method_33_code (10 : Nat) (Option.some Jvm.ClassFile.FieldType.boolean)), (Jvm.Cond.constantLong "ZipGuardModel" (211 : Nat) (32768 : Int64)), (Jvm.Cond.methodLink "ZipGuardModel" (233 : Nat) ({ cls := "ZipGuardModel", name := "symbol", desc := "([I[III)I" } : Jvm.MethodName)), (Jvm.Cond.instanceMethod ({ cls := "ZipGuardModel", name := "symbol", desc := "([I[III)I" } : Jvm.MethodName)), (Jvm.Cond.code ({ cls := "ZipGuardModel", name := "symbol", desc := "([I[III)I" } : Jvm.MethodName) prog_10_method_32_code (10 : Nat) (Option.some Jvm.ClassFile.FieldType.int)), (Jvm.Cond.methodLink "ZipGuardModel" (260 : Nat) ({ cls := "ZipGuardModel", name := "block", desc := "()V" } : Jvm.MethodName)), (Jvm.Cond.instanceMethod ({ cls := "ZipGuardModel", name := "block", desc := "()V" } : Jvm.MethodName)), (Jvm.Cond.code ({ cls := "ZipGuardModel", name := "block", desc := "()V" } : Jvm.MethodName) prog_10_method_41_code (6 : Nat) (Option.none : Option Jvm.ClassFile.FieldType)), (Jvm.Cond.methodLink "ZipGuardModel" (240 : Nat) ({ cls := "ZipGuardModel", name := "lengthOf", desc := "(I)I" } : Jvm.MethodName)), (Jvm.Cond.instanceMethod ({ cls := "ZipGuardModel", name := "lengthOf", desc := "(I)I" } : Jvm.MethodName)), (Jvm.Cond.code ({ cls := "ZipGuardModel", name := "lengthOf", desc := "(I)I" } : Jvm.MethodName) prog_10_method_38_code (4 : Nat) (Option.some Jvm.ClassFile.FieldType.int)), (Jvm.Cond.methodLink "ZipGuardModel" (243 : Nat) ({ cls := "ZipGuardModel", name := "distanceOf", desc := "(I)I" } : Jvm.MethodName)), (Jvm.Cond.instanceMethod ({ cls := "ZipGuardModel", name := "distanceOf", desc := "(I)I" } : Jvm.MethodName)), (Jvm.Cond.code ({ cls := "ZipGuardModel", name := "distanceOf", desc := "(I)I" } : Jvm.MethodName) prog_10_method_39_code (3 : Nat) (Option.some Jvm.ClassFile.FieldType.int)), (Jvm.Cond.methodLink "ZipGuardModel" (246 : Nat) ({ cls := "ZipGuardModel", name := "copy", desc := "(II)V" } : Jvm.MethodName)), (Jvm.Cond.instanceMethod ({ cls := "ZipGuardModel", name := "copy", desc := "(II)V" } : Jvm.MethodName)), (Jvm.Cond.code ({ cls := "ZipGuardModel", name := "copy", desc := "(II)V" } : Jvm.MethodName) prog_10_method_40_code (4 : Nat) (Option.none : Option Jvm.ClassFile.FieldType)), (Jvm.Cond.methodLink "ZipGuardModel" (267 : Nat) ({ cls := "ZipGuardModel", name := "sumOf", desc := "(I)I" } : Jvm.MethodName)), (Jvm.Cond.instanceMethod ({ cls := "ZipGuardModel", name := "sumOf", desc := "(I)I" } : Jvm.MethodName)), (Jvm.Cond.code ({ cls := "ZipGuardModel", name := "sumOf", desc := "(I)I" } : Jvm.MethodName) prog_10_method_44_code (5 : Nat) (Option.some Jvm.ClassFile.FieldType.int)), (Jvm.Cond.constant "ZipGuardModel" (263 : Nat) (-306674912 : Int32)), (Jvm.Cond.methodLink "ZipGuardLaw" (91 : Nat) ({ cls := "ZipGuardModel", name := "takeAll", desc := "()I" } : Jvm.MethodName)), (Jvm.Cond.instanceMethod ({ cls := "ZipGuardModel", name := "takeAll", desc := "()I" } : Jvm.MethodName)), (Jvm.Cond.selects "ZipGuardModel" ({ cls := "ZipGuardModel", name := "takeAll", desc := "()I" } : Jvm.MethodName) ({ cls := "ZipGuardModel", name := "takeAll", desc := "()I" } : Jvm.MethodName)), (Jvm.Cond.code ({ cls := "ZipGuardModel", name := "takeAll", desc := "()I" } : Jvm.MethodName) prog_10_method_48_code (2 : Nat) (Option.some Jvm.ClassFile.FieldType.int)), (Jvm.Cond.methodLink "ZipGuardLaw" (94 : Nat) ({ cls := "ZipGuardModel", name := "entry", desc := "(II)I" } : Jvm.MethodName)), (Jvm.Cond.instanceMethod ({ cls := "ZipGuardModel", name := "entry", desc := "(II)I" } : Jvm.MethodName)), (Jvm.Cond.selects "ZipGuardModel" ({ cls := "ZipGuardModel", name := "entry", desc := "(II)I" } : Jvm.MethodName) ({ cls := "ZipGuardModel", name := "entry", desc := "(II)I" } : Jvm.MethodName)), (Jvm.Cond.code ({ cls := "ZipGuardModel", name := "entry", desc := "(II)I" } : Jvm.MethodName) prog_10_method_49_code (3 : Nat) (Option.some Jvm.ClassFile.FieldType.int)), (Jvm.Cond.methodLink "ZipGuardLaw" (97 : Nat) ({ cls := "ZipGuardModel", name := "name", desc := "(II)I" } : Jvm.MethodName)), (Jvm.Cond.instanceMethod ({ cls := "ZipGuardModel", name := "name", desc := "(II)I" } : Jvm.MethodName)), (Jvm.Cond.selects "ZipGuardModel" ({ cls := "ZipGuardModel", name := "name", desc := "(II)I" } : Jvm.MethodName) ({ cls := "ZipGuardModel", name := "name", desc := "(II)I" } : Jvm.MethodName)), (Jvm.Cond.code ({ cls := "ZipGuardModel", name := "name", desc := "(II)I" } : Jvm.MethodName) prog_10_method_50_code (3 : Nat) (Option.some Jvm.ClassFile.FieldType.int)), (Jvm.Cond.methodLink "ZipGuardLaw" (100 : Nat) ({ cls := "ZipGuardModel", name := "written", desc := "(II)I" } : Jvm.MethodName)), (Jvm.Cond.instanceMethod ({ cls := "ZipGuardModel", name := "written", desc := "(II)I" } : Jvm.MethodName)), (Jvm.Cond.selects "ZipGuardModel" ({ cls := "ZipGuardModel", name := "written", desc := "(II)I" } : Jvm.MethodName) ({ cls := "ZipGuardModel", name := "written", desc := "(II)I" } : Jvm.MethodName)), (Jvm.Cond.code ({ cls := "ZipGuardModel", name := "written", desc := "(II)I" } : Jvm.MethodName) prog_10_method_51_code (3 : Nat) (Option.some Jvm.ClassFile.FieldType.int)), (Jvm.Cond.methodLink "ZipGuardLaw" (103 : Nat) ({ cls := "ZipGuardModel", name := "about", desc := "(I)I" } : Jvm.MethodName)), (Jvm.Cond.instanceMethod ({ cls := "ZipGuardModel", name := "about", desc := "(I)I" } : Jvm.MethodName)), (Jvm.Cond.selects "ZipGuardModel" ({ cls := "ZipGuardModel", name := "about", desc := "(I)I" } : Jvm.MethodName) ({ cls := "ZipGuardModel", name := "about", desc := "(I)I" } : Jvm.MethodName)), (Jvm.Cond.code ({ cls := "ZipGuardModel", name := "about", desc := "(I)I" } : Jvm.MethodName) prog_10_method_52_code (2 : Nat) (Option.some Jvm.ClassFile.FieldType.int)), (Jvm.Cond.sameMethod "java/lang/Throwable" "java/lang/Throwable" "fillInStackTrace" "(I)Ljava/lang/Throwable;")]
def zt : List Cond := k2_sels lw_privs ++ (zt_1 ++ (zt_2 ++ (zt_3 ++ (zt_4 ++ (zt_5 ++ (zt_6))))))
set_option maxRecDepth 20000 in
theorem zt_gp : (k2_sels lw_privs).all goodWord = true := by decide +kernel
set_option maxRecDepth 20000 in
theorem zt_g1 : zt_1.all goodWord = true := by decide +kernel
set_option maxRecDepth 100000 in
theorem zt_s1 : List.Sublist zt_1 tables_1_1 := by
  unfold zt_1 tables_1_1
  exact .cons₂ _ (.cons₂ _ (.cons₂ _ (.cons₂ _ (.cons₂ _ (.cons₂ _ (.cons₂ _ (.cons₂ _ (.cons₂ _ (.cons₂ _ (.cons₂ _ (.cons₂ _ (.cons₂ _ (.cons₂ _ (.cons _ (.cons _ (.cons _ (.cons _ (.cons _ (.cons _ (.cons _ (.cons _ (.cons _ (.cons _ (.cons₂ _ (.cons _ (.cons₂ _ (.cons₂ _ (.cons₂ _ (.cons₂ _ (.cons₂ _ (.cons₂ _ (.cons₂ _ (.cons₂ _ (.cons₂ _ (.cons₂ _ (.cons₂ _ (.cons₂ _ (.cons₂ _ (.cons₂ _ (.cons₂ _ (.cons₂ _ (.cons₂ _ (.cons₂ _ (.cons₂ _ (.cons₂ _ (.cons₂ _ (.cons₂ _ (.cons₂ _ (.cons₂ _ (.cons₂ _ (.cons₂ _ (.cons₂ _ (.cons₂ _ (.cons₂ _ (.cons₂ _ (.cons₂ _ (.cons₂ _ (.cons₂ _ (.cons₂ _ (.cons _ (.cons₂ _ (.cons₂ _ (.cons₂ _ (.cons₂ _ (.cons₂ _ (.cons₂ _ (.cons₂ _ (.cons₂ _ (.cons₂ _ (.cons₂ _ (.cons₂ _ (.cons₂ _ (.cons₂ _ (.cons₂ _ (.cons₂ _ (.cons₂ _ (.cons₂ _ (.cons₂ _ (.cons₂ _ (.cons₂ _ (.cons₂ _ (.cons₂ _ (.cons₂ _ (.cons₂ _ (.cons₂ _ (.cons₂ _ (.cons₂ _ (.cons₂ _ (.cons₂ _ (.cons₂ _ (.cons₂ _ (.cons₂ _ (.cons₂ _ (.cons₂ _ (.cons₂ _ (.cons₂ _ (.cons₂ _ (.cons₂ _ (.cons₂ _ (.cons₂ _ (.cons₂ _ (.cons₂ _ (.cons₂ _ (.cons₂ _ (.cons₂ _ (.cons₂ _ (.cons₂ _ (.cons₂ _ (.cons₂ _ (.cons₂ _ (.cons₂ _ (.cons₂ _ (.cons₂ _ (.cons₂ _ (.cons₂ _ (.cons₂ _ (.cons₂ _ (.cons₂ _ (.cons₂ _ (.cons₂ _ (.cons₂ _ (.cons₂ _ (.cons₂ _ (.cons₂ _ (.cons₂ _ (.cons₂ _ (.cons₂ _ (.cons₂ _ (.cons₂ _ (.cons₂ _ (.cons₂ _ (.cons₂ _ (.cons₂ _ (.cons₂ _ (.cons₂ _ (.cons₂ _ (.cons₂ _ (.cons₂ _ (.cons₂ _ (.cons₂ _ (.cons₂ _ (.cons₂ _ (.cons₂ _ (.cons₂ _ (.cons₂ _ (.cons₂ _ (.cons₂ _ (.cons₂ _ (.cons₂ _ (.cons₂ _ (.cons₂ _ (.cons₂ _ (.cons₂ _ (.cons₂ _ (.cons₂ _ (.cons₂ _ (.cons₂ _ (.cons₂ _ (.cons₂ _ (.cons₂ _ (.cons₂ _ (.cons₂ _ (.cons₂ _ (.cons₂ _ (.cons₂ _ (.cons₂ _ (.cons₂ _ (.cons₂ _ (.cons₂ _ (.cons₂ _ (.cons₂ _ (.cons₂ _ (.cons₂ _ (.cons₂ _ (.cons₂ _ (.cons₂ _ (.cons₂ _ (.cons₂ _ (.cons₂ _ (.cons₂ _ (.cons₂ _ (.cons₂ _ (.cons₂ _ (.cons₂ _ (.cons₂ _ (.cons₂ _ (.cons₂ _ (.cons₂ _ (.cons₂ _ (.cons₂ _ (.cons₂ _ (.cons₂ _ (.cons₂ _ (.cons₂ _ (.cons₂ _ (.cons₂ _ (.cons₂ _ (.cons₂ _ (.cons₂ _ (.cons₂ _ (.cons₂ _ (.cons₂ _ (.cons₂ _ (.cons₂ _ (.cons₂ _ (.cons₂ _ (.cons₂ _ (.cons₂ _ (.cons₂ _ (.cons₂ _ (.cons₂ _ (.cons₂ _ (.cons₂ _ (.cons₂ _ (.cons₂ _ (.cons₂ _ (.cons₂ _ (.cons₂ _ (.cons _ (.cons₂ _ (.cons₂ _ (.cons₂ _ (.cons₂ _ (.cons₂ _ (.cons₂ _ (.cons₂ _ (.cons₂ _ (.cons₂ _ (.cons₂ _ (.cons _ (.cons _ (.cons _ (.cons _ (.cons _ (.cons _ (.cons _ (.cons₂ _ (.cons₂ _ (.cons₂ _ (.slnil))))))))))))))))))))))))))))))))))))))))))))))))))))))))))))))))))))))))))))))))))))))))))))))))))))))))))))))))))))))))))))))))))))))))))))))))))))))))))))))))))))))))))))))))))))))))))))))))))))))))))))))))))))))))))))))))))))))))))))))))
set_option maxRecDepth 20000 in
theorem zt_g2 : zt_2.all goodWord = true := by decide +kernel
set_option maxRecDepth 100000 in
theorem zt_s2 : List.Sublist zt_2 tables_1_2 := by
  unfold zt_2 tables_1_2
  exact .cons₂ _ (.cons₂ _ (.cons₂ _ (.cons₂ _ (.cons₂ _ (.cons₂ _ (.cons₂ _ (.cons₂ _ (.cons₂ _ (.cons₂ _ (.cons₂ _ (.cons₂ _ (.cons₂ _ (.cons₂ _ (.cons₂ _ (.cons _ (.cons₂ _ (.cons _ (.cons₂ _ (.cons₂ _ (.cons₂ _ (.cons _ (.cons₂ _ (.cons₂ _ (.cons₂ _ (.cons₂ _ (.cons _ (.cons₂ _ (.cons₂ _ (.cons₂ _ (.cons₂ _ (.cons _ (.cons₂ _ (.cons _ (.cons _ (.cons _ (.cons _ (.cons _ (.cons _ (.cons _ (.cons _ (.cons _ (.cons _ (.cons _ (.cons _ (.cons _ (.cons _ (.cons _ (.cons _ (.cons _ (.cons _ (.cons _ (.cons _ (.cons _ (.cons _ (.cons _ (.cons _ (.cons _ (.cons _ (.cons _ (.cons _ (.cons _ (.cons₂ _ (.cons _ (.cons _ (.cons _ (.cons _ (.cons _ (.cons _ (.cons _ (.cons _ (.cons _ (.cons _ (.cons _ (.cons _ (.cons _ (.cons _ (.cons _ (.cons _ (.cons _ (.cons _ (.cons _ (.cons _ (.cons _ (.cons _ (.cons _ (.cons _ (.cons _ (.cons _ (.cons _ (.cons _ (.cons _ (.cons _ (.cons₂ _ (.cons₂ _ (.cons₂ _ (.cons₂ _ (.cons₂ _ (.cons₂ _ (.cons₂ _ (.cons _ (.cons₂ _ (.cons₂ _ (.cons _ (.cons _ (.cons₂ _ (.cons _ (.cons _ (.cons _ (.cons _ (.cons _ (.cons _ (.cons _ (.cons _ (.cons _ (.cons _ (.cons _ (.cons _ (.cons _ (.cons _ (.cons _ (.cons _ (.cons _ (.cons _ (.cons _ (.cons _ (.cons _ (.cons _ (.cons _ (.cons _ (.cons _ (.cons _ (.cons _ (.cons _ (.cons _ (.cons _ (.cons _ (.cons _ (.cons _ (.cons _ (.cons _ (.cons _ (.cons _ (.cons _ (.cons _ (.cons _ (.cons _ (.cons _ (.cons _ (.cons _ (.cons _ (.cons _ (.cons _ (.cons _ (.cons _ (.cons _ (.cons _ (.cons _ (.cons _ (.cons _ (.cons _ (.cons _ (.cons _ (.cons _ (.cons _ (.cons _ (.cons _ (.cons _ (.cons _ (.cons _ (.cons _ (.cons _ (.cons _ (.cons _ (.cons _ (.cons _ (.cons _ (.cons _ (.cons _ (.cons _ (.cons _ (.cons _ (.cons₂ _ (.cons _ (.cons _ (.cons _ (.cons _ (.cons _ (.cons _ (.cons _ (.cons _ (.cons _ (.cons _ (.cons _ (.cons _ (.cons _ (.cons _ (.cons _ (.cons _ (.cons _ (.cons _ (.cons _ (.cons _ (.cons _ (.cons _ (.cons _ (.cons _ (.cons _ (.cons _ (.cons₂ _ (.cons _ (.cons _ (.cons _ (.cons _ (.cons _ (.cons _ (.cons _ (.cons _ (.cons _ (.cons _ (.cons _ (.cons _ (.cons _ (.cons _ (.cons _ (.cons _ (.cons _ (.cons _ (.cons _ (.cons _ (.cons _ (.cons _ (.cons _ (.cons _ (.cons _ (.cons _ (.cons _ (.cons₂ _ (.cons₂ _ (.cons₂ _ (.slnil))))))))))))))))))))))))))))))))))))))))))))))))))))))))))))))))))))))))))))))))))))))))))))))))))))))))))))))))))))))))))))))))))))))))))))))))))))))))))))))))))))))))))))))))))))))))))))))))))))))))))))))))))))))))))))))))))))))))))))))))
set_option maxRecDepth 20000 in
theorem zt_g3 : zt_3.all goodWord = true := by decide +kernel
set_option maxRecDepth 100000 in
theorem zt_s3 : List.Sublist zt_3 tables_1_3 := by
  unfold zt_3 tables_1_3
  exact .cons₂ _ (.cons₂ _ (.cons₂ _ (.cons₂ _ (.cons₂ _ (.cons _ (.cons₂ _ (.cons₂ _ (.cons₂ _ (.cons₂ _ (.cons₂ _ (.cons₂ _ (.cons₂ _ (.cons₂ _ (.cons₂ _ (.cons₂ _ (.cons₂ _ (.cons₂ _ (.cons₂ _ (.cons₂ _ (.cons₂ _ (.cons₂ _ (.cons₂ _ (.cons₂ _ (.cons₂ _ (.cons₂ _ (.cons₂ _ (.cons₂ _ (.cons₂ _ (.cons₂ _ (.cons₂ _ (.cons _ (.cons _ (.cons _ (.cons _ (.cons _ (.cons _ (.cons _ (.cons _ (.cons _ (.cons _ (.cons _ (.cons _ (.cons _ (.cons _ (.cons _ (.cons _ (.cons _ (.cons _ (.cons _ (.cons _ (.cons _ (.cons _ (.cons _ (.cons _ (.cons₂ _ (.cons _ (.cons₂ _ (.cons _ (.cons _ (.cons _ (.cons _ (.cons _ (.cons _ (.cons _ (.cons _ (.cons _ (.cons₂ _ (.cons₂ _ (.cons₂ _ (.cons _ (.cons _ (.cons _ (.cons _ (.cons _ (.cons _ (.cons _ (.cons₂ _ (.cons₂ _ (.cons₂ _ (.cons₂ _ (.cons₂ _ (.cons₂ _ (.cons₂ _ (.cons₂ _ (.cons₂ _ (.cons₂ _ (.cons₂ _ (.cons₂ _ (.cons₂ _ (.cons₂ _ (.cons₂ _ (.cons₂ _ (.cons₂ _ (.cons₂ _ (.cons₂ _ (.cons₂ _ (.cons₂ _ (.cons₂ _ (.cons₂ _ (.cons₂ _ (.cons₂ _ (.cons₂ _ (.cons₂ _ (.cons₂ _ (.cons₂ _ (.cons₂ _ (.cons₂ _ (.cons₂ _ (.cons₂ _ (.cons₂ _ (.cons₂ _ (.cons₂ _ (.cons₂ _ (.cons₂ _ (.cons₂ _ (.cons₂ _ (.cons₂ _ (.cons₂ _ (.cons₂ _ (.cons₂ _ (.cons₂ _ (.cons₂ _ (.cons₂ _ (.cons₂ _ (.cons₂ _ (.cons₂ _ (.cons₂ _ (.cons₂ _ (.cons₂ _ (.cons₂ _ (.cons₂ _ (.cons₂ _ (.cons₂ _ (.cons₂ _ (.cons _ (.cons₂ _ (.cons₂ _ (.cons₂ _ (.cons₂ _ (.cons₂ _ (.cons₂ _ (.cons₂ _ (.cons₂ _ (.cons₂ _ (.cons₂ _ (.cons₂ _ (.cons₂ _ (.cons₂ _ (.cons₂ _ (.cons₂ _ (.cons _ (.cons₂ _ (.cons₂ _ (.cons₂ _ (.cons _ (.cons₂ _ (.cons₂ _ (.cons₂ _ (.cons₂ _ (.cons₂ _ (.cons₂ _ (.cons₂ _ (.cons _ (.cons₂ _ (.cons₂ _ (.cons₂ _ (.cons _ (.cons₂ _ (.cons₂ _ (.cons₂ _ (.cons _ (.cons₂ _ (.cons₂ _ (.cons₂ _ (.cons _ (.cons₂ _ (.cons₂ _ (.cons₂ _ (.cons _ (.cons₂ _ (.cons₂ _ (.cons₂ _ (.cons₂ _ (.cons _ (.cons₂ _ (.cons₂ _ (.cons₂ _ (.cons _ (.cons₂ _ (.cons₂ _ (.cons₂ _ (.cons _ (.cons₂ _ (.cons₂ _ (.cons₂ _ (.cons _ (.cons₂ _ (.cons₂ _ (.cons₂ _ (.cons₂ _ (.cons₂ _ (.cons₂ _ (.cons₂ _ (.cons₂ _ (.cons₂ _ (.cons₂ _ (.cons₂ _ (.cons₂ _ (.cons _ (.cons₂ _ (.cons₂ _ (.cons₂ _ (.cons₂ _ (.cons _ (.cons₂ _ (.cons₂ _ (.cons₂ _ (.cons₂ _ (.cons₂ _ (.cons₂ _ (.cons₂ _ (.cons _ (.cons₂ _ (.cons₂ _ (.cons₂ _ (.cons₂ _ (.cons₂ _ (.cons₂ _ (.cons₂ _ (.cons₂ _ (.cons₂ _ (.cons₂ _ (.cons₂ _ (.cons₂ _ (.cons₂ _ (.cons₂ _ (.cons₂ _ (.cons₂ _ (.cons₂ _ (.slnil))))))))))))))))))))))))))))))))))))))))))))))))))))))))))))))))))))))))))))))))))))))))))))))))))))))))))))))))))))))))))))))))))))))))))))))))))))))))))))))))))))))))))))))))))))))))))))))))))))))))))))))))))))))))))))))))))))))))))))))))
set_option maxRecDepth 20000 in
theorem zt_g4 : zt_4.all goodWord = true := by decide +kernel
set_option maxRecDepth 100000 in
theorem zt_s4 : List.Sublist zt_4 tables_1_4 := by
  unfold zt_4 tables_1_4
  exact .cons₂ _ (.cons₂ _ (.cons₂ _ (.cons₂ _ (.cons₂ _ (.cons₂ _ (.cons₂ _ (.cons₂ _ (.cons₂ _ (.cons₂ _ (.cons₂ _ (.cons₂ _ (.cons₂ _ (.cons₂ _ (.cons₂ _ (.cons _ (.cons₂ _ (.cons₂ _ (.cons₂ _ (.cons₂ _ (.cons₂ _ (.cons₂ _ (.cons₂ _ (.cons₂ _ (.cons₂ _ (.cons₂ _ (.cons₂ _ (.cons₂ _ (.cons₂ _ (.cons₂ _ (.cons₂ _ (.cons₂ _ (.cons₂ _ (.cons₂ _ (.cons₂ _ (.cons₂ _ (.cons₂ _ (.cons₂ _ (.cons₂ _ (.cons₂ _ (.cons₂ _ (.cons₂ _ (.cons₂ _ (.cons₂ _ (.cons₂ _ (.cons₂ _ (.cons₂ _ (.cons₂ _ (.cons₂ _ (.cons₂ _ (.cons₂ _ (.cons₂ _ (.cons₂ _ (.cons₂ _ (.cons₂ _ (.cons₂ _ (.cons₂ _ (.cons₂ _ (.cons₂ _ (.cons₂ _ (.cons₂ _ (.cons₂ _ (.cons₂ _ (.cons₂ _ (.cons₂ _ (.cons₂ _ (.cons₂ _ (.cons₂ _ (.cons₂ _ (.cons₂ _ (.cons _ (.cons₂ _ (.cons₂ _ (.cons₂ _ (.cons₂ _ (.cons₂ _ (.cons₂ _ (.cons₂ _ (.cons₂ _ (.cons₂ _ (.cons₂ _ (.cons₂ _ (.cons₂ _ (.cons₂ _ (.cons₂ _ (.cons₂ _ (.cons₂ _ (.cons₂ _ (.cons₂ _ (.cons₂ _ (.cons₂ _ (.cons₂ _ (.cons₂ _ (.cons₂ _ (.cons₂ _ (.cons₂ _ (.cons₂ _ (.cons₂ _ (.cons₂ _ (.cons₂ _ (.cons₂ _ (.cons₂ _ (.cons₂ _ (.cons _ (.cons₂ _ (.cons₂ _ (.cons₂ _ (.cons₂ _ (.cons₂ _ (.cons₂ _ (.cons₂ _ (.cons₂ _ (.cons₂ _ (.cons₂ _ (.cons₂ _ (.cons₂ _ (.cons₂ _ (.cons₂ _ (.cons₂ _ (.cons _ (.cons₂ _ (.cons₂ _ (.cons₂ _ (.cons₂ _ (.cons₂ _ (.cons₂ _ (.cons₂ _ (.cons₂ _ (.cons₂ _ (.cons₂ _ (.cons₂ _ (.cons₂ _ (.cons _ (.cons₂ _ (.cons _ (.cons₂ _ (.cons₂ _ (.cons₂ _ (.cons _ (.cons₂ _ (.cons₂ _ (.cons₂ _ (.cons₂ _ (.cons₂ _ (.cons₂ _ (.cons₂ _ (.cons₂ _ (.cons _ (.cons₂ _ (.cons₂ _ (.cons₂ _ (.cons₂ _ (.cons₂ _ (.cons₂ _ (.cons₂ _ (.cons₂ _ (.cons _ (.cons₂ _ (.cons₂ _ (.cons₂ _ (.cons _ (.cons₂ _ (.cons _ (.cons₂ _ (.cons _ (.cons₂ _ (.cons _ (.cons₂ _ (.cons _ (.cons₂ _ (.cons₂ _ (.cons₂ _ (.cons₂ _ (.cons₂ _ (.cons₂ _ (.cons₂ _ (.cons _ (.cons₂ _ (.cons₂ _ (.cons₂ _ (.cons _ (.cons₂ _ (.cons₂ _ (.cons₂ _ (.cons _ (.cons₂ _ (.cons₂ _ (.cons₂ _ (.cons₂ _ (.cons₂ _ (.cons₂ _ (.cons _ (.cons₂ _ (.cons₂ _ (.cons₂ _ (.cons _ (.cons₂ _ (.cons₂ _ (.cons₂ _ (.cons _ (.cons₂ _ (.cons₂ _ (.cons₂ _ (.cons₂ _ (.cons₂ _ (.cons₂ _ (.cons₂ _ (.cons₂ _ (.cons _ (.cons₂ _ (.cons₂ _ (.cons₂ _ (.cons₂ _ (.cons₂ _ (.cons₂ _ (.cons₂ _ (.cons₂ _ (.cons₂ _ (.cons₂ _ (.cons₂ _ (.cons₂ _ (.cons₂ _ (.cons₂ _ (.cons₂ _ (.cons₂ _ (.cons₂ _ (.cons₂ _ (.cons₂ _ (.cons₂ _ (.cons₂ _ (.cons₂ _ (.cons₂ _ (.cons₂ _ (.cons₂ _ (.cons₂ _ (.cons₂ _ (.cons₂ _ (.cons₂ _ (.cons₂ _ (.cons₂ _ (.slnil))))))))))))))))))))))))))))))))))))))))))))))))))))))))))))))))))))))))))))))))))))))))))))))))))))))))))))))))))))))))))))))))))))))))))))))))))))))))))))))))))))))))))))))))))))))))))))))))))))))))))))))))))))))))))))))))))))))))))))))))
set_option maxRecDepth 20000 in
theorem zt_g5 : zt_5.all goodWord = true := by decide +kernel
set_option maxRecDepth 100000 in
theorem zt_s5 : List.Sublist zt_5 tables_1_5 := by
  unfold zt_5 tables_1_5
  exact .cons₂ _ (.cons₂ _ (.cons₂ _ (.cons₂ _ (.cons₂ _ (.cons₂ _ (.cons₂ _ (.cons₂ _ (.cons₂ _ (.cons₂ _ (.cons₂ _ (.cons₂ _ (.cons₂ _ (.cons₂ _ (.cons₂ _ (.cons₂ _ (.cons₂ _ (.cons₂ _ (.cons₂ _ (.cons₂ _ (.cons₂ _ (.cons₂ _ (.cons₂ _ (.cons₂ _ (.cons₂ _ (.cons₂ _ (.cons₂ _ (.cons₂ _ (.cons₂ _ (.cons₂ _ (.cons₂ _ (.cons₂ _ (.cons₂ _ (.cons₂ _ (.cons₂ _ (.cons₂ _ (.cons₂ _ (.cons₂ _ (.cons₂ _ (.cons₂ _ (.cons₂ _ (.cons₂ _ (.cons₂ _ (.cons₂ _ (.cons₂ _ (.cons₂ _ (.cons₂ _ (.cons₂ _ (.cons₂ _ (.cons₂ _ (.cons₂ _ (.cons₂ _ (.cons₂ _ (.cons₂ _ (.cons₂ _ (.cons₂ _ (.cons₂ _ (.cons₂ _ (.cons₂ _ (.cons₂ _ (.cons₂ _ (.cons₂ _ (.cons₂ _ (.cons₂ _ (.cons₂ _ (.cons₂ _ (.cons₂ _ (.cons₂ _ (.cons₂ _ (.cons₂ _ (.cons₂ _ (.cons₂ _ (.cons₂ _ (.cons₂ _ (.cons₂ _ (.cons₂ _ (.cons₂ _ (.cons₂ _ (.cons₂ _ (.cons₂ _ (.cons₂ _ (.cons₂ _ (.cons₂ _ (.cons₂ _ (.cons₂ _ (.cons₂ _ (.cons₂ _ (.cons₂ _ (.cons₂ _ (.cons₂ _ (.cons₂ _ (.cons₂ _ (.cons₂ _ (.cons₂ _ (.cons₂ _ (.cons₂ _ (.cons₂ _ (.cons₂ _ (.cons₂ _ (.cons₂ _ (.cons₂ _ (.cons₂ _ (.cons₂ _ (.cons₂ _ (.cons₂ _ (.cons₂ _ (.cons₂ _ (.cons₂ _ (.cons₂ _ (.cons₂ _ (.cons₂ _ (.cons₂ _ (.cons₂ _ (.cons₂ _ (.cons₂ _ (.cons₂ _ (.cons₂ _ (.cons₂ _ (.cons₂ _ (.cons₂ _ (.cons₂ _ (.cons₂ _ (.cons₂ _ (.cons₂ _ (.cons₂ _ (.cons₂ _ (.cons _ (.cons₂ _ (.cons₂ _ (.cons₂ _ (.cons _ (.cons₂ _ (.cons₂ _ (.cons₂ _ (.cons₂ _ (.cons₂ _ (.cons₂ _ (.cons₂ _ (.cons₂ _ (.cons₂ _ (.cons₂ _ (.cons₂ _ (.cons₂ _ (.cons₂ _ (.cons₂ _ (.cons₂ _ (.cons _ (.cons₂ _ (.cons₂ _ (.cons₂ _ (.cons _ (.cons₂ _ (.cons₂ _ (.cons₂ _ (.cons _ (.cons₂ _ (.cons₂ _ (.cons₂ _ (.cons _ (.cons₂ _ (.cons₂ _ (.cons₂ _ (.cons₂ _ (.cons₂ _ (.cons _ (.cons₂ _ (.cons₂ _ (.cons₂ _ (.cons _ (.cons₂ _ (.cons₂ _ (.cons₂ _ (.cons _ (.cons₂ _ (.cons₂ _ (.cons₂ _ (.cons₂ _ (.cons₂ _ (.cons₂ _ (.cons₂ _ (.cons _ (.cons₂ _ (.cons₂ _ (.cons₂ _ (.cons₂ _ (.cons₂ _ (.cons₂ _ (.cons₂ _ (.cons₂ _ (.cons₂ _ (.cons₂ _ (.cons _ (.cons₂ _ (.cons₂ _ (.cons₂ _ (.cons₂ _ (.cons₂ _ (.cons₂ _ (.cons _ (.cons₂ _ (.cons₂ _ (.cons₂ _ (.cons _ (.cons₂ _ (.cons₂ _ (.cons₂ _ (.cons _ (.cons₂ _ (.cons₂ _ (.cons₂ _ (.cons _ (.cons₂ _ (.cons₂ _ (.cons₂ _ (.cons _ (.cons₂ _ (.cons₂ _ (.cons₂ _ (.cons _ (.cons₂ _ (.cons₂ _ (.cons₂ _ (.cons₂ _ (.cons₂ _ (.cons₂ _ (.cons₂ _ (.cons _ (.cons₂ _ (.cons₂ _ (.cons₂ _ (.cons₂ _ (.cons₂ _ (.cons₂ _ (.cons₂ _ (.cons₂ _ (.cons₂ _ (.cons₂ _ (.cons₂ _ (.cons₂ _ (.cons₂ _ (.slnil))))))))))))))))))))))))))))))))))))))))))))))))))))))))))))))))))))))))))))))))))))))))))))))))))))))))))))))))))))))))))))))))))))))))))))))))))))))))))))))))))))))))))))))))))))))))))))))))))))))))))))))))))))))))))))))))))))))))))))))))
set_option maxRecDepth 20000 in
theorem zt_g6 : zt_6.all goodWord = true := by decide +kernel
set_option maxRecDepth 100000 in
theorem zt_s6 : List.Sublist zt_6 tables_1_6 := by
  unfold zt_6 tables_1_6
  exact .cons₂ _ (.cons₂ _ (.cons _ (.cons₂ _ (.cons₂ _ (.cons₂ _ (.cons _ (.cons₂ _ (.cons₂ _ (.cons₂ _ (.cons _ (.cons₂ _ (.cons₂ _ (.cons₂ _ (.cons _ (.cons₂ _ (.cons₂ _ (.cons₂ _ (.cons _ (.cons₂ _ (.cons₂ _ (.cons₂ _ (.cons _ (.cons₂ _ (.cons₂ _ (.cons₂ _ (.cons₂ _ (.cons _ (.cons₂ _ (.cons₂ _ (.cons₂ _ (.cons _ (.cons₂ _ (.cons₂ _ (.cons₂ _ (.cons _ (.cons₂ _ (.cons₂ _ (.cons₂ _ (.cons₂ _ (.cons₂ _ (.cons₂ _ (.cons _ (.cons₂ _ (.cons₂ _ (.cons₂ _ (.cons₂ _ (.cons₂ _ (.cons₂ _ (.cons₂ _ (.cons₂ _ (.cons₂ _ (.cons₂ _ (.cons _ (.cons₂ _ (.cons₂ _ (.cons₂ _ (.cons _ (.cons₂ _ (.cons₂ _ (.cons₂ _ (.cons _ (.cons₂ _ (.cons₂ _ (.cons₂ _ (.cons _ (.cons₂ _ (.cons₂ _ (.cons₂ _ (.cons _ (.cons₂ _ (.cons₂ _ (.cons₂ _ (.cons _ (.cons₂ _ (.cons₂ _ (.cons₂ _ (.cons₂ _ (.cons₂ _ (.cons₂ _ (.cons₂ _ (.cons₂ _ (.cons₂ _ (.cons₂ _ (.cons₂ _ (.cons₂ _ (.cons₂ _ (.cons₂ _ (.cons₂ _ (.cons₂ _ (.cons₂ _ (.cons₂ _ (.cons₂ _ (.cons₂ _ (.cons₂ _ (.cons₂ _ (.cons₂ _ (.cons₂ _ (.cons _ (.cons _ (.cons _ (.cons _ (.cons _ (.cons _ (.cons _ (.cons _ (.cons _ (.slnil)))))))))))))))))))))))))))))))))))))))))))))))))))))))))))))))))))))))))))))))))))))))))))))))))))))))))))
theorem zt_gg (w : Cond) (hw : w ∈ zt) : goodWord w = true := by
  unfold zt at hw
  simp only [List.mem_append] at hw
  rcases hw with h | h | h | h | h | h | h
  · exact List.all_eq_true.mp zt_gp w h
  · exact List.all_eq_true.mp zt_g1 w h
  · exact List.all_eq_true.mp zt_g2 w h
  · exact List.all_eq_true.mp zt_g3 w h
  · exact List.all_eq_true.mp zt_g4 w h
  · exact List.all_eq_true.mp zt_g5 w h
  · exact List.all_eq_true.mp zt_g6 w h
theorem zt_in (w : Cond) (hw : w ∈ zt) : w ∈ lw_tbl := by
  unfold zt at hw
  unfold lw_tbl tables_1
  simp only [List.mem_append] at hw ⊢
  rcases hw with h | h | h | h | h | h | h
  · exact Or.inl h
  · exact Or.inr (Or.inl (zt_s1.subset h))
  · exact Or.inr (Or.inr (Or.inl (zt_s2.subset h)))
  · exact Or.inr (Or.inr (Or.inr (Or.inl (zt_s3.subset h))))
  · exact Or.inr (Or.inr (Or.inr (Or.inr (Or.inl (zt_s4.subset h)))))
  · exact Or.inr (Or.inr (Or.inr (Or.inr (Or.inr (Or.inl (zt_s5.subset h))))))
  · exact Or.inr (Or.inr (Or.inr (Or.inr (Or.inr (Or.inr ((zt_s6.subset h)))))))
theorem zt_mp {w : Cond} (h : w ∈ k2_sels lw_privs) : w ∈ zt := List.mem_append_left _ h
theorem zt_m1 {w : Cond} (h : w ∈ zt_1) : w ∈ zt := List.mem_append_right _ (List.mem_append_left _ h)
theorem zt_m2 {w : Cond} (h : w ∈ zt_2) : w ∈ zt := List.mem_append_right _ (List.mem_append_right _ (List.mem_append_left _ h))
theorem zt_m3 {w : Cond} (h : w ∈ zt_3) : w ∈ zt := List.mem_append_right _ (List.mem_append_right _ (List.mem_append_right _ (List.mem_append_left _ h)))
theorem zt_m4 {w : Cond} (h : w ∈ zt_4) : w ∈ zt := List.mem_append_right _ (List.mem_append_right _ (List.mem_append_right _ (List.mem_append_right _ (List.mem_append_left _ h))))
theorem zt_m5 {w : Cond} (h : w ∈ zt_5) : w ∈ zt := List.mem_append_right _ (List.mem_append_right _ (List.mem_append_right _ (List.mem_append_right _ (List.mem_append_right _ (List.mem_append_left _ h)))))
theorem zt_m6 {w : Cond} (h : w ∈ zt_6) : w ∈ zt := List.mem_append_right _ (List.mem_append_right _ (List.mem_append_right _ (List.mem_append_right _ (List.mem_append_right _ (List.mem_append_right _ (h))))))
theorem zt_good {c : Cond} (h : c ∈ zt) : GoodIn zt (c :: zt) := fun w hw => by
  rcases List.mem_cons.mp hw with rfl | h1
  · exact ⟨h, good_of_word (zt_gg _ h)⟩
  · exact ⟨h1, good_of_word (zt_gg _ h1)⟩
theorem zt_goodV {own C : String} {i : Nat} {y : MethodName} {c : Cond} (h1 : Cond.methodLink own i y ∈ zt) (h2 : Cond.instanceMethod y ∈ zt) (h3 : Cond.selects C y y ∈ zt) (h4 : Cond.initialized C ∈ zt) (h : c ∈ zt) : GoodIn zt (wsV own i C y (c :: zt)) := fun w hw => by
  have hz : w ∈ zt := by
    unfold wsV at hw
    simp only [List.cons_append, List.nil_append, List.mem_cons] at hw
    rcases hw with rfl | rfl | rfl | rfl | rfl | h5
    · exact h1
    · exact h2
    · exact h3
    · exact h4
    · exact h
    · exact h5
  exact ⟨hz, good_of_word (zt_gg _ hz)⟩
theorem zt_goodS {own : String} {i : Nat} {y : MethodName} {c : Cond} (h1 : Cond.methodLink own i y ∈ zt) (h2 : Cond.static y ∈ zt) (h3 : Cond.initialized own ∈ zt) (h : c ∈ zt) : GoodIn zt (wsS own i y (c :: zt)) := fun w hw => by
  have hz : w ∈ zt := by
    unfold wsS at hw
    simp only [List.cons_append, List.nil_append, List.mem_cons] at hw
    rcases hw with rfl | rfl | rfl | rfl | h5
    · exact h1
    · exact h2
    · exact h3
    · exact h
    · exact h5
  exact ⟨hz, good_of_word (zt_gg _ hz)⟩
def F_G : u_T := fun k => match k with
  | 0 => ("ZipGuard", "tape", "LZipGuard$Tape;", true)
  | 1 => ("ZipGuard", "directory", "LZipGuard$Directory;", true)
  | 2 => ("ZipGuard", "target", "LZipGuard$Target;", true)
  | _ => ("ZipGuard", "unpacker", "LZipGuard$Unpacker;", true)
def ty_G : Nat → FieldType := fun k => match k with
  | 0 => .object "ZipGuard$Tape"
  | 1 => .object "ZipGuard$Directory"
  | 2 => .object "ZipGuard$Target"
  | _ => .object "ZipGuard$Unpacker"
theorem nm_G : ∀ a, a < 4 → ∀ b, b < 4 → a ≠ b → (F_G a).2.1 ≠ (F_G b).2.1 := by decide +kernel
theorem tk_G : ∀ k, k < 4 → parseFieldDescriptor (F_G k).2.2.1 = some (ty_G k) := by decide +kernel
set_option maxRecDepth 20000 in
theorem zi_G : ∀ w ∈ u_ws "ZipGuard" F_G 4, w ∈ zt := by decide +kernel
def F_T : u_T := fun k => match k with
  | 0 => ("ZipGuard$Tape", "bytes", "[B", true)
  | _ => ("ZipGuard$Tape", "length", "I", false)
def ty_T : Nat → FieldType := fun k => match k with
  | 0 => .array .byte
  | _ => .int
theorem nm_T : ∀ a, a < 2 → ∀ b, b < 2 → a ≠ b → (F_T a).2.1 ≠ (F_T b).2.1 := by decide +kernel
theorem tk_T : ∀ k, k < 2 → parseFieldDescriptor (F_T k).2.2.1 = some (ty_T k) := by decide +kernel
set_option maxRecDepth 20000 in
theorem zi_T : ∀ w ∈ u_ws "ZipGuard$Tape" F_T 2, w ∈ zt := by decide +kernel
def F_D : u_T := fun k => match k with
  | 0 => ("ZipGuard$Directory", "entries", "[LZipGuard$Entry;", true)
  | 1 => ("ZipGuard$Directory", "count", "I", false)
  | 2 => ("ZipGuard$Directory", "isOpen", "Z", false)
  | 3 => ("ZipGuard$Directory", "faultPlace", "I", false)
  | _ => ("ZipGuard$Directory", "tape", "LZipGuard$Tape;", true)
def ty_D : Nat → FieldType := fun k => match k with
  | 0 => .array (.object "ZipGuard$Entry")
  | 1 => .int
  | 2 => .boolean
  | 3 => .int
  | _ => .object "ZipGuard$Tape"
theorem nm_D : ∀ a, a < 5 → ∀ b, b < 5 → a ≠ b → (F_D a).2.1 ≠ (F_D b).2.1 := by decide +kernel
theorem tk_D : ∀ k, k < 5 → parseFieldDescriptor (F_D k).2.2.1 = some (ty_D k) := by decide +kernel
set_option maxRecDepth 20000 in
theorem zi_D : ∀ w ∈ u_ws "ZipGuard$Directory" F_D 5, w ∈ zt := by decide +kernel
def F_A : u_T := fun k => match k with
  | 0 => ("ZipGuard$Target", "budget", "I", false)
  | 1 => ("ZipGuard$Target", "ratio", "I", false)
  | 2 => ("ZipGuard$Target", "total", "I", false)
  | 3 => ("ZipGuard$Target", "bytes", "[B", true)
  | _ => ("ZipGuard$Target", "runningSum", "I", false)
def ty_A : Nat → FieldType := fun k => match k with
  | 0 => .int
  | 1 => .int
  | 2 => .int
  | 3 => .array .byte
  | _ => .int
theorem nm_A : ∀ a, a < 5 → ∀ b, b < 5 → a ≠ b → (F_A a).2.1 ≠ (F_A b).2.1 := by decide +kernel
theorem tk_A : ∀ k, k < 5 → parseFieldDescriptor (F_A k).2.2.1 = some (ty_A k) := by decide +kernel
set_option maxRecDepth 20000 in
theorem zi_A : ∀ w ∈ u_ws "ZipGuard$Target" F_A 5, w ∈ zt := by decide +kernel
def F_U : u_T := fun k => match k with
  | 0 => ("ZipGuard$Unpacker", "target", "LZipGuard$Target;", true)
  | 1 => ("ZipGuard$Unpacker", "bits", "LZipGuard$BitReader;", true)
  | 2 => ("ZipGuard$Unpacker", "row", "[I", true)
  | 3 => ("ZipGuard$Unpacker", "fixedSymbols", "LZipGuard$CodeSet;", true)
  | 4 => ("ZipGuard$Unpacker", "fixedDistances", "LZipGuard$CodeSet;", true)
  | 5 => ("ZipGuard$Unpacker", "lengthCodes", "LZipGuard$CodeSet;", true)
  | 6 => ("ZipGuard$Unpacker", "ownSymbols", "LZipGuard$CodeSet;", true)
  | _ => ("ZipGuard$Unpacker", "ownDistances", "LZipGuard$CodeSet;", true)
def ty_U : Nat → FieldType := fun k => match k with
  | 0 => .object "ZipGuard$Target"
  | 1 => .object "ZipGuard$BitReader"
  | 2 => .array .int
  | 3 => .object "ZipGuard$CodeSet"
  | 4 => .object "ZipGuard$CodeSet"
  | 5 => .object "ZipGuard$CodeSet"
  | 6 => .object "ZipGuard$CodeSet"
  | _ => .object "ZipGuard$CodeSet"
theorem nm_U : ∀ a, a < 8 → ∀ b, b < 8 → a ≠ b → (F_U a).2.1 ≠ (F_U b).2.1 := by decide +kernel
theorem tk_U : ∀ k, k < 8 → parseFieldDescriptor (F_U k).2.2.1 = some (ty_U k) := by decide +kernel
set_option maxRecDepth 20000 in
theorem zi_U : ∀ w ∈ u_ws "ZipGuard$Unpacker" F_U 8, w ∈ zt := by decide +kernel
def F_B : u_T := fun k => match k with
  | 0 => ("ZipGuard$BitReader", "bytes", "[B", true)
  | 1 => ("ZipGuard$BitReader", "at", "I", false)
  | 2 => ("ZipGuard$BitReader", "behind", "I", false)
  | _ => ("ZipGuard$BitReader", "usedBits", "I", false)
def ty_B : Nat → FieldType := fun k => match k with
  | 0 => .array .byte
  | 1 => .int
  | 2 => .int
  | _ => .int
theorem nm_B : ∀ a, a < 4 → ∀ b, b < 4 → a ≠ b → (F_B a).2.1 ≠ (F_B b).2.1 := by decide +kernel
theorem tk_B : ∀ k, k < 4 → parseFieldDescriptor (F_B k).2.2.1 = some (ty_B k) := by decide +kernel
set_option maxRecDepth 20000 in
theorem zi_B : ∀ w ∈ u_ws "ZipGuard$BitReader" F_B 4, w ∈ zt := by decide +kernel
def F_C : u_T := fun k => match k with
  | 0 => ("ZipGuard$CodeSet", "countOfLength", "[I", true)
  | 1 => ("ZipGuard$CodeSet", "nextOfLength", "[I", true)
  | 2 => ("ZipGuard$CodeSet", "symbols", "[I", true)
  | _ => ("ZipGuard$CodeSet", "codes", "I", false)
def ty_C : Nat → FieldType := fun k => match k with
  | 0 => .array .int
  | 1 => .array .int
  | 2 => .array .int
  | _ => .int
theorem nm_C : ∀ a, a < 4 → ∀ b, b < 4 → a ≠ b → (F_C a).2.1 ≠ (F_C b).2.1 := by decide +kernel
theorem tk_C : ∀ k, k < 4 → parseFieldDescriptor (F_C k).2.2.1 = some (ty_C k) := by decide +kernel
set_option maxRecDepth 20000 in
theorem zi_C : ∀ w ∈ u_ws "ZipGuard$CodeSet" F_C 4, w ∈ zt := by decide +kernel
def F_E : u_T := fun k => match k with
  | 0 => ("ZipGuard$Entry", "nameBytes", "[B", true)
  | 1 => ("ZipGuard$Entry", "nameLength", "I", false)
  | 2 => ("ZipGuard$Entry", "isFolder", "Z", false)
  | 3 => ("ZipGuard$Entry", "method", "I", false)
  | 4 => ("ZipGuard$Entry", "packed", "I", false)
  | 5 => ("ZipGuard$Entry", "size", "J", false)
  | 6 => ("ZipGuard$Entry", "sum", "I", false)
  | 7 => ("ZipGuard$Entry", "localPlace", "I", false)
  | 8 => ("ZipGuard$Entry", "packedPlace", "I", false)
  | 9 => ("ZipGuard$Entry", "state", "I", false)
  | 10 => ("ZipGuard$Entry", "outPlace", "I", false)
  | _ => ("ZipGuard$Entry", "outLength", "I", false)
def ty_E : Nat → FieldType := fun k => match k with
  | 0 => .array .byte
  | 1 => .int
  | 2 => .boolean
  | 3 => .int
  | 4 => .int
  | 5 => .long
  | 6 => .int
  | 7 => .int
  | 8 => .int
  | 9 => .int
  | 10 => .int
  | _ => .int
theorem nm_E : ∀ a, a < 12 → ∀ b, b < 12 → a ≠ b → (F_E a).2.1 ≠ (F_E b).2.1 := by decide +kernel
theorem tk_E : ∀ k, k < 12 → parseFieldDescriptor (F_E k).2.2.1 = some (ty_E k) := by decide +kernel
set_option maxRecDepth 20000 in
theorem zi_E : ∀ w ∈ u_ws "ZipGuard$Entry" F_E 12, w ∈ zt := by decide +kernel
def F_M : u_T := fun k => match k with
  | 0 => ("ZipGuardModel", "tape", "[B", true)
  | 1 => ("ZipGuardModel", "length", "I", false)
  | 2 => ("ZipGuardModel", "isOpen", "Z", false)
  | 3 => ("ZipGuardModel", "faultPlace", "I", false)
  | 4 => ("ZipGuardModel", "budget", "I", false)
  | 5 => ("ZipGuardModel", "ratio", "I", false)
  | 6 => ("ZipGuardModel", "entries", "I", false)
  | 7 => ("ZipGuardModel", "methods", "[I", true)
  | 8 => ("ZipGuardModel", "packed", "[J", true)
  | 9 => ("ZipGuardModel", "sizes", "[J", true)
  | 10 => ("ZipGuardModel", "sums", "[I", true)
  | 11 => ("ZipGuardModel", "datas", "[I", true)
  | 12 => ("ZipGuardModel", "locals", "[I", true)
  | 13 => ("ZipGuardModel", "localEnds", "[I", true)
  | 14 => ("ZipGuardModel", "names", "[B", true)
  | 15 => ("ZipGuardModel", "nameSizes", "[I", true)
  | 16 => ("ZipGuardModel", "states", "[I", true)
  | 17 => ("ZipGuardModel", "starts", "[I", true)
  | 18 => ("ZipGuardModel", "counts", "[I", true)
  | 19 => ("ZipGuardModel", "written", "[B", true)
  | 20 => ("ZipGuardModel", "total", "I", false)
  | 21 => ("ZipGuardModel", "now", "I", false)
  | 22 => ("ZipGuardModel", "bit", "I", false)
  | 23 => ("ZipGuardModel", "refused", "I", false)
  | 24 => ("ZipGuardModel", "lengths", "[I", true)
  | 25 => ("ZipGuardModel", "small", "[I", true)
  | 26 => ("ZipGuardModel", "codes", "[I", true)
  | 27 => ("ZipGuardModel", "smallCodes", "[I", true)
  | 28 => ("ZipGuardModel", "symbols", "I", false)
  | 29 => ("ZipGuardModel", "distances", "I", false)
  | _ => ("ZipGuardModel", "thrown", "I", false)
def ty_M : Nat → FieldType := fun k => match k with
  | 0 => .array .byte
  | 1 => .int
  | 2 => .boolean
  | 3 => .int
  | 4 => .int
  | 5 => .int
  | 6 => .int
  | 7 => .array .int
  | 8 => .array .long
  | 9 => .array .long
  | 10 => .array .int
  | 11 => .array .int
  | 12 => .array .int
  | 13 => .array .int
  | 14 => .array .byte
  | 15 => .array .int
  | 16 => .array .int
  | 17 => .array .int
  | 18 => .array .int
  | 19 => .array .byte
  | 20 => .int
  | 21 => .int
  | 22 => .int
  | 23 => .int
  | 24 => .array .int
  | 25 => .array .int
  | 26 => .array .int
  | 27 => .array .int
  | 28 => .int
  | 29 => .int
  | _ => .int
theorem nm_M : ∀ a, a < 31 → ∀ b, b < 31 → a ≠ b → (F_M a).2.1 ≠ (F_M b).2.1 := by decide +kernel
theorem tk_M : ∀ k, k < 31 → parseFieldDescriptor (F_M k).2.2.1 = some (ty_M k) := by decide +kernel
set_option maxRecDepth 20000 in
theorem zi_M : ∀ w ∈ u_ws "ZipGuardModel" F_M 31, w ∈ zt := by decide +kernel
abbrev zcl : List vw_C := [("ZipGuard", F_G, 4), ("ZipGuard$Tape", F_T, 2), ("ZipGuard$Directory", F_D, 5), ("ZipGuard$Target", F_A, 5), ("ZipGuard$Unpacker", F_U, 8), ("ZipGuard$BitReader", F_B, 4), ("ZipGuard$CodeSet", F_C, 4), ("ZipGuard$Entry", F_E, 12), ("ZipGuardModel", F_M, 31)]
abbrev y_G_init : MethodName := ⟨"ZipGuard", "<init>", "()V"⟩
abbrev y_T_init : MethodName := ⟨"ZipGuard$Tape", "<init>", "()V"⟩
abbrev y_D_init : MethodName := ⟨"ZipGuard$Directory", "<init>", "(LZipGuard$Tape;)V"⟩
abbrev y_E_init : MethodName := ⟨"ZipGuard$Entry", "<init>", "()V"⟩
abbrev y_A_init : MethodName := ⟨"ZipGuard$Target", "<init>", "()V"⟩
abbrev y_U_init : MethodName := ⟨"ZipGuard$Unpacker", "<init>", "(LZipGuard$Tape;LZipGuard$Target;)V"⟩
abbrev y_B_init : MethodName := ⟨"ZipGuard$BitReader", "<init>", "(LZipGuard$Tape;)V"⟩
abbrev y_C_init : MethodName := ⟨"ZipGuard$CodeSet", "<init>", "(I)V"⟩
abbrev y_U_buildFixedCodes : MethodName := ⟨"ZipGuard$Unpacker", "buildFixedCodes", "()V"⟩
abbrev y_J_fill_aIIIIV : MethodName := ⟨"java/util/Arrays", "fill", "([IIII)V"⟩
abbrev y_J_rangeCheck : MethodName := ⟨"java/util/Arrays", "rangeCheck", "(III)V"⟩
abbrev y_J_copyOf : MethodName := ⟨"java/util/Arrays", "copyOf", "([BI)[B"⟩
abbrev y_J_copyOfRange : MethodName := ⟨"java/util/Arrays", "copyOfRange", "([BII)[B"⟩
abbrev y_J_copyOfRangeByte : MethodName := ⟨"java/util/Arrays", "copyOfRangeByte", "([BII)[B"⟩
abbrev y_J_checkLength : MethodName := ⟨"java/util/Arrays", "checkLength", "(II)V"⟩
abbrev y_C_build : MethodName := ⟨"ZipGuard$CodeSet", "build", "([III)V"⟩
abbrev y_J_fill_aIIV : MethodName := ⟨"java/util/Arrays", "fill", "([II)V"⟩
abbrev y_G_open : MethodName := ⟨"ZipGuard", "open", "()I"⟩
abbrev y_A_clear : MethodName := ⟨"ZipGuard$Target", "clear", "()V"⟩
abbrev y_D_read : MethodName := ⟨"ZipGuard$Directory", "read", "()I"⟩
abbrev y_D_findEnd : MethodName := ⟨"ZipGuard$Directory", "findEnd", "()I"⟩
abbrev y_T_hasMarkAt : MethodName := ⟨"ZipGuard$Tape", "hasMarkAt", "(III)Z"⟩
abbrev y_T_byteAt : MethodName := ⟨"ZipGuard$Tape", "byteAt", "(I)I"⟩
abbrev y_T_twoAt : MethodName := ⟨"ZipGuard$Tape", "twoAt", "(I)I"⟩
abbrev y_D_faultAt : MethodName := ⟨"ZipGuard$Directory", "faultAt", "(II)I"⟩
abbrev y_D_checkEnd : MethodName := ⟨"ZipGuard$Directory", "checkEnd", "(I)I"⟩
abbrev y_T_fourAt : MethodName := ⟨"ZipGuard$Tape", "fourAt", "(I)J"⟩
abbrev y_D_readEntries : MethodName := ⟨"ZipGuard$Directory", "readEntries", "(I)I"⟩
abbrev y_D_checkSpan : MethodName := ⟨"ZipGuard$Directory", "checkSpan", "(II)I"⟩
abbrev y_D_behindEntry : MethodName := ⟨"ZipGuard$Directory", "behindEntry", "(I)I"⟩
abbrev y_D_checkNumbers : MethodName := ⟨"ZipGuard$Directory", "checkNumbers", "(I)I"⟩
abbrev y_D_hasRightSizes : MethodName := ⟨"ZipGuard$Directory", "hasRightSizes", "(II)Z"⟩
abbrev y_D_readName : MethodName := ⟨"ZipGuard$Directory", "readName", "(II)I"⟩
abbrev y_D_isName : MethodName := ⟨"ZipGuard$Directory", "isName", "(II)Z"⟩
abbrev y_D_isNameByte : MethodName := ⟨"ZipGuard$Directory", "isNameByte", "(I)Z"⟩
abbrev y_D_isPart : MethodName := ⟨"ZipGuard$Directory", "isPart", "(II)Z"⟩
abbrev y_E_keepName : MethodName := ⟨"ZipGuard$Entry", "keepName", "(LZipGuard$Tape;II)V"⟩
abbrev y_E_clashesWith : MethodName := ⟨"ZipGuard$Entry", "clashesWith", "(LZipGuard$Entry;)Z"⟩
abbrev y_D_readLocal : MethodName := ⟨"ZipGuard$Directory", "readLocal", "(II)I"⟩
abbrev y_D_isLocalOf : MethodName := ⟨"ZipGuard$Directory", "isLocalOf", "(II)Z"⟩
abbrev y_T_isSame : MethodName := ⟨"ZipGuard$Tape", "isSame", "(III)Z"⟩
abbrev y_D_keepNumbers : MethodName := ⟨"ZipGuard$Directory", "keepNumbers", "(LZipGuard$Entry;I)V"⟩
abbrev y_E_forgetWhatIsWritten : MethodName := ⟨"ZipGuard$Entry", "forgetWhatIsWritten", "()V"⟩
abbrev y_E_liesOver : MethodName := ⟨"ZipGuard$Entry", "liesOver", "(LZipGuard$Entry;)Z"⟩
abbrev y_E_behindPacked : MethodName := ⟨"ZipGuard$Entry", "behindPacked", "()I"⟩
abbrev y_G_place : MethodName := ⟨"ZipGuard", "place", "()I"⟩
abbrev y_L_feed : MethodName := ⟨"ZipGuardLaw", "feed", "(LZipGuard;IIIII[J)I"⟩
abbrev y_G_feed : MethodName := ⟨"ZipGuard", "feed", "(IIIII)I"⟩
abbrev y_T_hasRoomFor : MethodName := ⟨"ZipGuard$Tape", "hasRoomFor", "(I)Z"⟩
abbrev y_D_shut : MethodName := ⟨"ZipGuard$Directory", "shut", "()V"⟩
abbrev y_T_append : MethodName := ⟨"ZipGuard$Tape", "append", "(I)V"⟩
abbrev y_L_end : MethodName := ⟨"ZipGuardLaw", "end", "(LZipGuard;I)I"⟩
abbrev y_G_end : MethodName := ⟨"ZipGuard", "end", "(I)V"⟩
abbrev y_T_keepFirst : MethodName := ⟨"ZipGuard$Tape", "keepFirst", "(I)V"⟩
abbrev y_L_alter : MethodName := ⟨"ZipGuardLaw", "alter", "(LZipGuard;II[J)I"⟩
abbrev y_G_alter : MethodName := ⟨"ZipGuard", "alter", "(II)I"⟩
abbrev y_T_replace : MethodName := ⟨"ZipGuard$Tape", "replace", "(II)I"⟩
abbrev y_L_limits : MethodName := ⟨"ZipGuardLaw", "limits", "(LZipGuard;II)I"⟩
abbrev y_G_limits : MethodName := ⟨"ZipGuard", "limits", "(II)V"⟩
abbrev y_L_take : MethodName := ⟨"ZipGuardLaw", "take", "(LZipGuard;I[J)I"⟩
abbrev y_G_take : MethodName := ⟨"ZipGuard", "take", "(I)I"⟩
abbrev y_G_openEntry : MethodName := ⟨"ZipGuard", "openEntry", "(I)LZipGuard$Entry;"⟩
abbrev y_U_takeOut : MethodName := ⟨"ZipGuard$Unpacker", "takeOut", "(LZipGuard$Entry;)I"⟩
abbrev y_A_begin : MethodName := ⟨"ZipGuard$Target", "begin", "(LZipGuard$Entry;)V"⟩
abbrev y_B_begin : MethodName := ⟨"ZipGuard$BitReader", "begin", "(II)V"⟩
abbrev y_U_copyBytes : MethodName := ⟨"ZipGuard$Unpacker", "copyBytes", "(LZipGuard$Entry;I)I"⟩
abbrev y_B_read : MethodName := ⟨"ZipGuard$BitReader", "read", "(I)I"⟩
abbrev y_A_put : MethodName := ⟨"ZipGuard$Target", "put", "(LZipGuard$Entry;I)I"⟩
abbrev y_U_unpack : MethodName := ⟨"ZipGuard$Unpacker", "unpack", "(LZipGuard$Entry;)I"⟩
abbrev y_U_unpackStored : MethodName := ⟨"ZipGuard$Unpacker", "unpackStored", "(LZipGuard$Entry;)I"⟩
abbrev y_B_skipToFullByte : MethodName := ⟨"ZipGuard$BitReader", "skipToFullByte", "()V"⟩
abbrev y_U_unpackCoded : MethodName := ⟨"ZipGuard$Unpacker", "unpackCoded", "(LZipGuard$Entry;LZipGuard$CodeSet;LZipGuard$CodeSet;)I"⟩
abbrev y_C_nextSymbol : MethodName := ⟨"ZipGuard$CodeSet", "nextSymbol", "(LZipGuard$BitReader;)I"⟩
abbrev y_U_unpackAgain : MethodName := ⟨"ZipGuard$Unpacker", "unpackAgain", "(LZipGuard$Entry;ILZipGuard$CodeSet;)I"⟩
abbrev y_U_writeAgain : MethodName := ⟨"ZipGuard$Unpacker", "writeAgain", "(LZipGuard$Entry;II)I"⟩
abbrev y_A_byteOf : MethodName := ⟨"ZipGuard$Target", "byteOf", "(LZipGuard$Entry;I)I"⟩
abbrev y_U_readOwnCodes : MethodName := ⟨"ZipGuard$Unpacker", "readOwnCodes", "()I"⟩
abbrev y_U_readLengthCodes : MethodName := ⟨"ZipGuard$Unpacker", "readLengthCodes", "(I)I"⟩
abbrev y_C_isFull : MethodName := ⟨"ZipGuard$CodeSet", "isFull", "()Z"⟩
abbrev y_U_readRow : MethodName := ⟨"ZipGuard$Unpacker", "readRow", "(I)I"⟩
abbrev y_U_repeatBits : MethodName := ⟨"ZipGuard$Unpacker", "repeatBits", "(I)I"⟩
abbrev y_U_leastTimes : MethodName := ⟨"ZipGuard$Unpacker", "leastTimes", "(I)I"⟩
abbrev y_C_isRightForDistances : MethodName := ⟨"ZipGuard$CodeSet", "isRightForDistances", "()Z"⟩
abbrev y_U_checkWhole : MethodName := ⟨"ZipGuard$Unpacker", "checkWhole", "(LZipGuard$Entry;)I"⟩
abbrev y_B_hasWholeByteLeft : MethodName := ⟨"ZipGuard$BitReader", "hasWholeByteLeft", "()Z"⟩
abbrev y_A_sumSinceBegin : MethodName := ⟨"ZipGuard$Target", "sumSinceBegin", "()I"⟩
abbrev y_L_takeAll : MethodName := ⟨"ZipGuardLaw", "takeAll", "(LZipGuard;[J)I"⟩
abbrev y_G_takeAll : MethodName := ⟨"ZipGuard", "takeAll", "()I"⟩
abbrev y_L_entry : MethodName := ⟨"ZipGuardLaw", "entry", "(LZipGuard;II[J)I"⟩
abbrev y_G_entry : MethodName := ⟨"ZipGuard", "entry", "(II)I"⟩
abbrev y_L_name : MethodName := ⟨"ZipGuardLaw", "name", "(LZipGuard;II[J)I"⟩
abbrev y_G_name : MethodName := ⟨"ZipGuard", "name", "(II)I"⟩
abbrev y_L_written : MethodName := ⟨"ZipGuardLaw", "written", "(LZipGuard;II[J)I"⟩
abbrev y_G_written : MethodName := ⟨"ZipGuard", "written", "(II)I"⟩
abbrev y_L_about : MethodName := ⟨"ZipGuardLaw", "about", "(LZipGuard;I[J)I"⟩
abbrev y_G_about : MethodName := ⟨"ZipGuard", "about", "(I)I"⟩
abbrev y_M_init : MethodName := ⟨"ZipGuardModel", "<init>", "()V"⟩
abbrev y_M_thrown : MethodName := ⟨"ZipGuardModel", "thrown", "()I"⟩
abbrev y_M_feed : MethodName := ⟨"ZipGuardModel", "feed", "(IIIII)I"⟩
abbrev y_M_fails : MethodName := ⟨"ZipGuardModel", "fails", "(ZI)Z"⟩
abbrev y_M_shut : MethodName := ⟨"ZipGuardModel", "shut", "()V"⟩
abbrev y_M_end : MethodName := ⟨"ZipGuardModel", "end", "(I)V"⟩
abbrev y_M_alter : MethodName := ⟨"ZipGuardModel", "alter", "(II)I"⟩
abbrev y_M_open : MethodName := ⟨"ZipGuardModel", "open", "()I"⟩
abbrev y_M_judge : MethodName := ⟨"ZipGuardModel", "judge", "()I"⟩
abbrev y_M_findEnd : MethodName := ⟨"ZipGuardModel", "findEnd", "()I"⟩
abbrev y_M_isMark : MethodName := ⟨"ZipGuardModel", "isMark", "(JII)Z"⟩
abbrev y_M_at : MethodName := ⟨"ZipGuardModel", "at", "(J)I"⟩
abbrev y_M_two : MethodName := ⟨"ZipGuardModel", "two", "(J)I"⟩
abbrev y_M_stop : MethodName := ⟨"ZipGuardModel", "stop", "(IJ)I"⟩
abbrev y_M_four : MethodName := ⟨"ZipGuardModel", "four", "(J)J"⟩
abbrev y_M_wrongNumber : MethodName := ⟨"ZipGuardModel", "wrongNumber", "(J)J"⟩
abbrev y_M_isName : MethodName := ⟨"ZipGuardModel", "isName", "(JI)Z"⟩
abbrev y_M_isPlain : MethodName := ⟨"ZipGuardModel", "isPlain", "(I)Z"⟩
abbrev y_M_isTwice : MethodName := ⟨"ZipGuardModel", "isTwice", "(I)Z"⟩
abbrev y_M_isIn : MethodName := ⟨"ZipGuardModel", "isIn", "(IIZ)Z"⟩
abbrev y_M_bareSize : MethodName := ⟨"ZipGuardModel", "bareSize", "(I)I"⟩
abbrev y_M_isFolder : MethodName := ⟨"ZipGuardModel", "isFolder", "(I)Z"⟩
abbrev y_M_nameByte : MethodName := ⟨"ZipGuardModel", "nameByte", "(II)I"⟩
abbrev y_M_isLocal : MethodName := ⟨"ZipGuardModel", "isLocal", "(IJJ)Z"⟩
abbrev y_M_isOver : MethodName := ⟨"ZipGuardModel", "isOver", "(I)Z"⟩
abbrev y_M_place : MethodName := ⟨"ZipGuardModel", "place", "()I"⟩
abbrev y_M_limits : MethodName := ⟨"ZipGuardModel", "limits", "(II)V"⟩
abbrev y_M_take : MethodName := ⟨"ZipGuardModel", "take", "(I)I"⟩
abbrev y_M_isThere : MethodName := ⟨"ZipGuardModel", "isThere", "(I)Z"⟩
abbrev y_M_takeOne : MethodName := ⟨"ZipGuardModel", "takeOne", "(I)I"⟩
abbrev y_M_inflate : MethodName := ⟨"ZipGuardModel", "inflate", "()V"⟩
abbrev y_M_bits : MethodName := ⟨"ZipGuardModel", "bits", "(I)I"⟩
abbrev y_M_refuse : MethodName := ⟨"ZipGuardModel", "refuse", "(I)Z"⟩
abbrev y_M_plainBlock : MethodName := ⟨"ZipGuardModel", "plainBlock", "()V"⟩
abbrev y_M_write : MethodName := ⟨"ZipGuardModel", "write", "(I)Z"⟩
abbrev y_M_plainCodes : MethodName := ⟨"ZipGuardModel", "plainCodes", "()V"⟩
abbrev y_M_numberBoth : MethodName := ⟨"ZipGuardModel", "numberBoth", "()V"⟩
abbrev y_M_number : MethodName := ⟨"ZipGuardModel", "number", "([I[III)V"⟩
abbrev y_M_readCodes : MethodName := ⟨"ZipGuardModel", "readCodes", "()V"⟩
abbrev y_M_smallOf : MethodName := ⟨"ZipGuardModel", "smallOf", "(I)I"⟩
abbrev y_M_isRight : MethodName := ⟨"ZipGuardModel", "isRight", "([IIIZ)Z"⟩
abbrev y_M_symbol : MethodName := ⟨"ZipGuardModel", "symbol", "([I[III)I"⟩
abbrev y_M_block : MethodName := ⟨"ZipGuardModel", "block", "()V"⟩
abbrev y_M_lengthOf : MethodName := ⟨"ZipGuardModel", "lengthOf", "(I)I"⟩
abbrev y_M_distanceOf : MethodName := ⟨"ZipGuardModel", "distanceOf", "(I)I"⟩
abbrev y_M_copy : MethodName := ⟨"ZipGuardModel", "copy", "(II)V"⟩
abbrev y_M_sumOf : MethodName := ⟨"ZipGuardModel", "sumOf", "(I)I"⟩
abbrev y_M_takeAll : MethodName := ⟨"ZipGuardModel", "takeAll", "()I"⟩
abbrev y_M_entry : MethodName := ⟨"ZipGuardModel", "entry", "(II)I"⟩
abbrev y_M_name : MethodName := ⟨"ZipGuardModel", "name", "(II)I"⟩
abbrev y_M_written : MethodName := ⟨"ZipGuardModel", "written", "(II)I"⟩
abbrev y_M_about : MethodName := ⟨"ZipGuardModel", "about", "(I)I"⟩
end
section
/-! rows of this proof's own: worlds at a call, a method's start and end -/
theorem zfm {α : Type} {f : Nat → Option α} : ∀ {is : List Nat} {w : List α}, is.map f = w.map some → is.filterMap f = w
  | [], [], _ => rfl
  | [], _ :: _, h => by simp at h
  | _ :: _, [], h => by simp at h
  | i :: is, x :: w, h => by
    simp only [List.map_cons, List.cons.injEq] at h
    rw [List.filterMap_cons, h.1, zfm h.2]
/-- says the same of a state with the same heap and alike tables -/
def zBlind (X : State → Prop) : Prop := ∀ U U' : State, U.vm.Alike U'.vm → U'.heap = U.heap → X U → X U'
theorem zBlind_t : zBlind (fun _ => True) := fun _ _ _ _ _ => trivial
def zPc (av : List Value) (D : va_G) (ws : va_W) (tys : List (ClassId × FieldType)) (sz : Nat) (X : State → Prop) : Array Value → State → Prop :=
  va_Pc av (fun U => U.heap.size = sz ∧ va_P D zcl ws U.heap ∧ va_K D zcl tys U ∧ va_D (fun _ => True) ws ∧ X U)
theorem zPc_blind {av : List Value} {D : va_G} {ws : va_W} {tys : List (ClassId × FieldType)} {sz : Nat} {X : State → Prop} (hX : zBlind X) : FrameBlind (zPc av D ws tys sz X) := fun a U g mk q => by
  obtain ⟨q0, q1, qP, qK, qD, qX⟩ := q
  exact ⟨q0, q1, qP, va_K.moved (u := U) (U := U.calling g mk a) (Vm.Alike.refl U.vm) qK, qD, hX U _ (Vm.Alike.refl U.vm) rfl qX⟩
def zB (D : va_G) (ws : va_W) (tys : List (ClassId × FieldType)) (A : Nat → Prop) (t : State) : Prop := va_P D zcl ws t.heap ∧ va_K D zcl tys t ∧ va_D A ws
section ZKA
variable {p : Program} {l : Launch} {e : Env} {R : Room} {s : State} {m : MethodId} {args : Array Value} {below : List Frame} {meth : Method} {c : Code} {H : Heap} {locs : List Loc} {cells slots : Nat} {Q : State → Prop}
variable {cc : ByteArray} {pc : Nat} {ls : Array Slot} {rest st0 : List Value} {a : Array Value} {A : Nat → Prop} {mc ms : Nat} {D : va_G} {tys tc : List (ClassId × FieldType)} {ws wc wr : va_W}
theorem zpre {X : State → Prop} (hX : zBlind X) (hK : va_K D zcl tys s) (hP : va_P D zcl ws H) (hD : va_D A ws) (isC tC : List Nat) (hC : isC.map (fun i => ws[i]?) = wc.map some) (hn : va_nd isC = true) (htC : tC.filterMap (fun i => tys[i]?) = tc) (hx : ∀ U : State, U.heap = H → s.WarmedH U.vm → X U) {av : List Value} : PreS s H (zPc av D wc tc H.size X) av :=
  ⟨zPc_blind hX, fun U hU hW => ⟨rfl, by rw [hU], by rw [hU]; exact hP.sub isC (zfm hC), va_K.moved hW.alike (hK.sub tC htC), (hD.sub isC hn hC).weaken (fun _ _ _ _ => trivial), hx U hU hW⟩⟩
theorem zpreV {X : State → Prop} (hX : zBlind X) (hK : va_K D zcl tys s) (hP : va_P D zcl ws H) (hD : va_D A ws) (isC tC : List Nat) (hC : isC.map (fun i => ws[i]?) = wc.map some) (hn : va_nd isC = true) (htC : tC.filterMap (fun i => tys[i]?) = tc) (hx : ∀ U : State, U.heap = H → s.WarmedH U.vm → X U) {b : Nat} {C : String} {As : List Value} (hr : ∃ cellB : Cell, H[b]? = some cellB ∧ cellB.vm.isStatics = false ∧ s.vm.findClass C = some cellB.cls) : PreV s H C b (zPc (.ref b :: As) D wc tc H.size X) As :=
  ⟨zPc_blind hX, hr, (zpre hX hK hP hD isC tC hC hn htC hx).2⟩
theorem zji {S : Type} {post : Int32 → S → Prop} {w1 : S → va_W} {t1 : S → List (ClassId × FieldType)}
    (hr : va_Run p l e R s m args below meth c H locs cells slots mc ms (F0 m pc ls st0) rest (va_Qi post (fun u t => zB D (w1 u) (t1 u) (va_A wc H.size) t) (va_A wc H.size) a) (va_A wc H.size))
    (hK : va_K D zcl tys s) (hP : va_P D zcl ws H) (hD : va_D A ws) (hS : va_S A s.heap H locs) (hA : ∀ q, s.heap.size ≤ q → A q) (isC isR : List Nat) (hC : isC.map (fun i => ws[i]?) = wc.map some) (hR : isR.map (fun i => ws[i]?) = wr.map some) (hn : va_nd isR = true) (hdis : ∀ i ∈ isR, i ∉ isC)
    (kk : ∀ (r : Int32) (u : S) (H1 : Heap) (locs1 : List Loc), post r u → va_P D zcl (wr ++ w1 u) H1 → va_D A (wr ++ w1 u) → va_K D zcl (tys ++ t1 u) s → va_S A s.heap H1 locs1 → W p l e R s m args below meth c H1 locs1 (cells + mc) (slots + ms) Q (F0 m (pc + 3) ls (.int r :: rest))) : W p l e R s m args below meth c H locs cells slots Q (F0 m pc ls st0) := by
  have hF := va_free (wc := wc) hD hS hA isC hC
  refine va_calli hr hS (fun q _ h => hF q h) hF (fun r u t H1 locs1 ht hvm hp hB hz hk hS1 => ?_)
  obtain ⟨hP1, hK1, hD1⟩ := hB
  rw [ht] at hP1
  obtain ⟨hP2, hD2⟩ := va_join hP hD isC isR hC hR hn hdis hk hF hP1 hD1
  exact kk r u H1 locs1 hp hP2 hD2 (hK.app (va_K.moved hvm.symm hK1)) hS1
theorem zjl {S : Type} {post : Int64 → S → Prop} {w1 : S → va_W} {t1 : S → List (ClassId × FieldType)}
    (hr : va_Run p l e R s m args below meth c H locs cells slots mc ms (F0 m pc ls st0) rest (va_Ql post (fun u t => zB D (w1 u) (t1 u) (va_A wc H.size) t) (va_A wc H.size) a) (va_A wc H.size))
    (hK : va_K D zcl tys s) (hP : va_P D zcl ws H) (hD : va_D A ws) (hS : va_S A s.heap H locs) (hA : ∀ q, s.heap.size ≤ q → A q) (isC isR : List Nat) (hC : isC.map (fun i => ws[i]?) = wc.map some) (hR : isR.map (fun i => ws[i]?) = wr.map some) (hn : va_nd isR = true) (hdis : ∀ i ∈ isR, i ∉ isC)
    (kk : ∀ (r : Int64) (u : S) (H1 : Heap) (locs1 : List Loc), post r u → va_P D zcl (wr ++ w1 u) H1 → va_D A (wr ++ w1 u) → va_K D zcl (tys ++ t1 u) s → va_S A s.heap H1 locs1 → W p l e R s m args below meth c H1 locs1 (cells + mc) (slots + ms) Q (F0 m (pc + 3) ls (.long r :: rest))) : W p l e R s m args below meth c H locs cells slots Q (F0 m pc ls st0) := by
  have hF := va_free (wc := wc) hD hS hA isC hC
  refine va_calll hr hS (fun q _ h => hF q h) hF (fun r u t H1 locs1 ht hvm hp hB hz hk hS1 => ?_)
  obtain ⟨hP1, hK1, hD1⟩ := hB
  rw [ht] at hP1
  obtain ⟨hP2, hD2⟩ := va_join hP hD isC isR hC hR hn hdis hk hF hP1 hD1
  exact kk r u H1 locs1 hp hP2 hD2 (hK.app (va_K.moved hvm.symm hK1)) hS1
theorem zjv {S : Type} {post : S → Prop} {w1 : S → va_W} {t1 : S → List (ClassId × FieldType)}
    (hr : va_Run p l e R s m args below meth c H locs cells slots mc ms (F0 m pc ls st0) rest (va_Qv post (fun u t => zB D (w1 u) (t1 u) (va_A wc H.size) t) (va_A wc H.size) a) (va_A wc H.size))
    (hK : va_K D zcl tys s) (hP : va_P D zcl ws H) (hD : va_D A ws) (hS : va_S A s.heap H locs) (hA : ∀ q, s.heap.size ≤ q → A q) (isC isR : List Nat) (hC : isC.map (fun i => ws[i]?) = wc.map some) (hR : isR.map (fun i => ws[i]?) = wr.map some) (hn : va_nd isR = true) (hdis : ∀ i ∈ isR, i ∉ isC)
    (kk : ∀ (u : S) (H1 : Heap) (locs1 : List Loc), post u → va_P D zcl (wr ++ w1 u) H1 → va_D A (wr ++ w1 u) → va_K D zcl (tys ++ t1 u) s → va_S A s.heap H1 locs1 → W p l e R s m args below meth c H1 locs1 (cells + mc) (slots + ms) Q (F0 m (pc + 3) ls rest)) : W p l e R s m args below meth c H locs cells slots Q (F0 m pc ls st0) := by
  have hF := va_free (wc := wc) hD hS hA isC hC
  refine va_callv hr hS (fun q _ h => hF q h) hF (fun u t H1 locs1 ht hvm hp hB hz hk hS1 => ?_)
  obtain ⟨hP1, hK1, hD1⟩ := hB
  rw [ht] at hP1
  obtain ⟨hP2, hD2⟩ := va_join hP hD isC isR hC hR hn hdis hk hF hP1 hD1
  exact kk u H1 locs1 hp hP2 hD2 (hK.app (va_K.moved hvm.symm hK1)) hS1
theorem zBend (hK : va_K D zcl tys s) (hP : va_P D zcl ws H) (hD : va_D A ws) (is ts : List Nat) (hC : is.map (fun i => ws[i]?) = wc.map some) (hn : va_nd is = true) (htC : ts.filterMap (fun i => tys[i]?) = tc) {t : State} (ht : t.heap = H) (hW : s.WarmedH t.vm) : zB D wc tc A t :=
  ⟨by rw [ht]; exact hP.sub is (zfm hC), va_K.moved hW.alike (hK.sub ts htC), hD.sub is hn hC⟩
theorem zreti {S : Type} {post : Int32 → S → Prop} {w1 : S → va_W} {t1 : S → List (ClassId × FieldType)} {v : Int32} (hx : p.tables.exec = Jvm.exec) (hb : c.code = cc) (hr : meth.sig.returnType = some .int) (hlk : meth.locks = false)
    (hK : va_K D zcl tys s) (hP : va_P D zcl ws H) (hD : va_D A ws) (hS : va_S A s.heap H locs) (u : S) (is ts : List Nat) (hC : is.map (fun i => ws[i]?) = (w1 u).map some) (hn : va_nd is = true) (htC : ts.filterMap (fun i => tys[i]?) = t1 u) (hp : post v u) (hc : cells ≤ mc) (hs : slots ≤ ms) (hdg : decode cc pc = .ok (.ireturn, 1)) :
    W p l e R s m args below meth c H locs cells slots (MQ below (va_Qi post (fun u t => zB D (w1 u) (t1 u) A t) A) args s mc ms A) (F0 m pc ls [.int v]) :=
  W.widen hc hs (W.iret hx hb hr (fun _ ht hW => ⟨⟨v, u, rfl, hp, zBend hK hP hD is ts hC hn htC ht hW⟩, hS.F ht⟩) hS.2.2 hdg hlk)
theorem zretz {S : Type} {post : Int32 → S → Prop} {w1 : S → va_W} {t1 : S → List (ClassId × FieldType)} {v : Int32} (hx : p.tables.exec = Jvm.exec) (hb : c.code = cc) (hr : meth.sig.returnType = some .boolean) (hlk : meth.locks = false)
    (hK : va_K D zcl tys s) (hP : va_P D zcl ws H) (hD : va_D A ws) (hS : va_S A s.heap H locs) (u : S) (is ts : List Nat) (hC : is.map (fun i => ws[i]?) = (w1 u).map some) (hn : va_nd is = true) (htC : ts.filterMap (fun i => tys[i]?) = t1 u) (hp : post v u) (hv : narrow .boolean (.int v) = .int v) (hc : cells ≤ mc) (hs : slots ≤ ms) (hdg : decode cc pc = .ok (.ireturn, 1)) :
    W p l e R s m args below meth c H locs cells slots (MQ below (va_Qi post (fun u t => zB D (w1 u) (t1 u) A t) A) args s mc ms A) (F0 m pc ls [.int v]) :=
  W.widen hc hs (W.zret hx hb hr hv (fun _ ht hW => ⟨⟨v, u, rfl, hp, zBend hK hP hD is ts hC hn htC ht hW⟩, hS.F ht⟩) hS.2.2 hdg hlk)
theorem zretl {S : Type} {post : Int64 → S → Prop} {w1 : S → va_W} {t1 : S → List (ClassId × FieldType)} {v : Int64} (hx : p.tables.exec = Jvm.exec) (hb : c.code = cc) (hr : meth.sig.returnType = some .long) (hlk : meth.locks = false)
    (hK : va_K D zcl tys s) (hP : va_P D zcl ws H) (hD : va_D A ws) (hS : va_S A s.heap H locs) (u : S) (is ts : List Nat) (hC : is.map (fun i => ws[i]?) = (w1 u).map some) (hn : va_nd is = true) (htC : ts.filterMap (fun i => tys[i]?) = t1 u) (hp : post v u) (hc : cells ≤ mc) (hs : slots ≤ ms) (hdg : decode cc pc = .ok (.lreturn, 1)) :
    W p l e R s m args below meth c H locs cells slots (MQ below (va_Ql post (fun u t => zB D (w1 u) (t1 u) A t) A) args s mc ms A) (F0 m pc ls [.long v]) :=
  W.widen hc hs (W.lret hx hb hr (fun _ ht hW => ⟨⟨v, u, rfl, hp, zBend hK hP hD is ts hC hn htC ht hW⟩, hS.F ht⟩) hS.2.2 hdg hlk)
theorem zretv {S : Type} {post : S → Prop} {w1 : S → va_W} {t1 : S → List (ClassId × FieldType)} (hx : p.tables.exec = Jvm.exec) (hb : c.code = cc) (hr : meth.sig.returnType = none) (hlk : meth.locks = false)
    (hK : va_K D zcl tys s) (hP : va_P D zcl ws H) (hD : va_D A ws) (hS : va_S A s.heap H locs) (u : S) (is ts : List Nat) (hC : is.map (fun i => ws[i]?) = (w1 u).map some) (hn : va_nd is = true) (htC : ts.filterMap (fun i => tys[i]?) = t1 u) (hp : post u) (hc : cells ≤ mc) (hs : slots ≤ ms) (hdg : decode cc pc = .ok (.return_, 1)) :
    W p l e R s m args below meth c H locs cells slots (MQ below (va_Qv post (fun u t => zB D (w1 u) (t1 u) A t) A) args s mc ms A) (F0 m pc ls []) :=
  W.widen hc hs (W.vret hx hb hr (fun _ ht hW => ⟨⟨u, rfl, hp, zBend hK hP hD is ts hC hn htC ht hW⟩, hS.F ht⟩) hS.2.2 hdg hlk)
end ZKA
/-- a method's contract out of its body's walk, for any set A that holds its cells and all that are made -/
theorem zMet {l : Launch} {y : MethodName} {cc : ByteArray} {maxL : Nat} {ret : Option FieldType} {rm : Room} {av : List Value} {D : va_G} {ws : va_W} {tys : List (ClassId × FieldType)} {X : State → Prop} {Qf : (Nat → Prop) → Array Value → State → Outcome → State → Prop} {mc ms sz : Nat} (hy : plainName y.cls = true) (hl : (lg_sl av).length ≤ maxL)
    (body : ∀ (p : Program) (e : Env) (s : State) (m : MethodId) (below : List Frame) (meth : Method) (c : Code) (A : Nat → Prop) (ls : Array Slot), p.tables.exec = Jvm.exec → c.code = cc → meth.sig.returnType = ret → c.maxLocals = maxL → s.vm.findClass y.cls = some m.cls → (∀ w ∈ zt, w.before av.toArray s = true) → meth.locks = false → meth.name = y.name → (∀ q, s.heap.size ≤ q → A q) → va_K D zcl tys s → va_P D zcl ws s.heap → va_D A ws → X s → lv_has ls maxL (lv_args 0 av) →
      W p l e rm s m av.toArray below meth c s.heap [] 0 0 (MQ below (Qf A) av.toArray s mc ms A) (F0 m 0 ls [])) :
    Met l y (Cond.code y cc maxL ret :: zt) rm (zPc av D ws tys sz X) (Qf (va_A ws sz)) mc ms (va_A ws sz) := by
  refine Met.ofW (cc := cc) (maxL := maxL) (ret := ret) hy rfl ?_
  intro p e s m args below meth c s₁ B hml hv
  obtain ⟨rfl, hsz, hP, hK, hD0, hX⟩ := hv
  have hts := atoms_spec (ws := Cond.code y cc maxL ret :: zt) B.pre
  subst hsz
  have hD := hD0.self (sz := s.heap.size)
  have hl := lv_entry av (n := maxL) hl
  rw [lg_entry_eq]
  exact body p e s m below meth c _ _ B.exec B.bytes B.returns hml (findClass_of_methodNamed B.named) (fun w h => hts w (List.mem_cons_of_mem _ h)) B.notSynchronized (name_of_methodNamed B.named B.method).1 (fun q h => Or.inr h) hK hP hD hX hl
end
section
/-! exceptions: a method that throws for sure, having changed nothing; its caller's frame; a row of the table that catches -/
/-- behind a throw of q from a method that began at st: nothing old has changed, q is a new plain object of the class E -/
def zE_T (st : State) (q : Addr) (t : State) (E : String) (mc ms : Nat) : Prop :=
  ∃ ce : Cell, t.heap[q]? = some ce ∧ ce.vm = .none ∧ st.vm.findClass E = some ce.cls ∧ st.WarmedH t.vm ∧ st.sameButNew ({ t with vm := st.vm } : State) [] mc ms
def zTh (l : Launch) (y : MethodName) (ws : List Cond) (rm : Room) (Pc : Array Value → State → Prop) (E : String) (mc ms : Nat) : Prop :=
  MetFree l y (headSpec ws rm) Pc (fun _ _ _ _ _ => True) (fun _ st o t => ∃ q, o = .threw q ∧ zE_T st q t E mc ms)
def zTQ (below : List Frame) (E : String) (s : State) (mc ms : Nat) : State → Prop := fun t => ∃ q, t.status = .running ∧ Ended t below (.threw q) ∧ zE_T s q t E mc ms
/-- the frame g with q thrown over it -/
def zTW (p : Program) (l : Launch) (e : Env) (R : Room) (s : State) (m : MethodId) (args : Array Value) (below : List Frame) (meth : Method) (c : Code) (H : Heap) (locs : List Loc) (cells slots : Nat) (Q : State → Prop) (g : JFrame) (q : Addr) : Prop :=
  ∀ T : State, T.heap = H → Stand p l e R s m args below meth c T locs cells slots → ∃ t, Steps p.tables e below ((T.setTop g).pushFrame (.throwing q)) t ∧ Q t
theorem zTh_of {l : Launch} {y : MethodName} {cc : ByteArray} {maxL : Nat} {ret : Option FieldType} {rm : Room} {av : List Value} {D : va_G} {ws : va_W} {tys : List (ClassId × FieldType)} {X : State → Prop} {E : String} {mc ms sz : Nat} (hy : plainName y.cls = true) (hl : (lg_sl av).length ≤ maxL)
    (body : ∀ (p : Program) (e : Env) (s : State) (m : MethodId) (below : List Frame) (meth : Method) (c : Code) (A : Nat → Prop) (ls : Array Slot), p.tables.exec = Jvm.exec → c.code = cc → meth.sig.returnType = ret → c.maxLocals = maxL → s.vm.findClass y.cls = some m.cls → (∀ w ∈ zt, w.before av.toArray s = true) → meth.locks = false → c.exceptionTable.toList = [] → (∀ q, s.heap.size ≤ q → A q) → va_K D zcl tys s → va_P D zcl ws s.heap → va_D A ws → X s → lv_has ls maxL (lv_args 0 av) →
      W p l e rm s m av.toArray below meth c s.heap [] 0 0 (zTQ below E s mc ms) (F0 m 0 ls [])) :
    zTh l y (Cond.code y cc maxL ret :: zt) rm (zPc av D ws tys sz X) E mc ms := by
  refine MetFree.of_bodyS (code := cc) (maxLocals := maxL) (ret := ret) hy ?_ ?_
  · intro args s m h hn
    obtain ⟨meth, c, h1, h2, h3, h4, h5, h6, -, -⟩ := Cond.code_spec hn (atoms_spec (ws := Cond.code y cc maxL ret :: zt) h _ List.mem_cons_self)
    exact ⟨meth, c, h1, h2, h3, h4, h5, h6⟩
  · intro p e s m args below meth c s₁ B hml hv _
    obtain ⟨rfl, hsz, hP, hK, hD0, hX⟩ := hv
    have hts := atoms_spec (ws := Cond.code y cc maxL ret :: zt) B.pre
    have hno : c.exceptionTable.toList = [] := by
      have h := B.noHandlers (hts _ List.mem_cons_self)
      simpa using h
    have hh0 : s₁.heap = s.heap := by rw [B.state]; rfl
    have hl := lv_entry av (n := maxL) hl
    have k := body p e s m below meth c _ _ B.exec B.bytes B.returns hml (findClass_of_methodNamed B.named) (fun w h => hts w (List.mem_cons_of_mem _ h)) B.notSynchronized hno (fun q h => Or.inr h) hK hP (hD0.self (sz := s.heap.size)) hX hl
    rw [← lg_entry_eq m] at k
    obtain ⟨t, a1, q, b1, b2, b3⟩ := k s₁ hh0 (Stand.of_body B)
    exact ⟨t, .threw q, a1, b1, b2, q, rfl, b3⟩
section ZXA
variable {p : Program} {l : Launch} {e : Env} {R : Room} {s : State} {m : MethodId} {args : Array Value} {below : List Frame} {meth : Method} {c : Code} {H : Heap} {locs : List Loc} {cells slots : Nat} {Q : State → Prop}
variable {cc : ByteArray} {pc : Nat} {ls : Array Slot} {rest : List Value}
/-- 'throw new E()' in a method that has changed nothing yet -/
theorem zthrow (hx : p.tables.exec = Jvm.exec) (hb : c.code = cc) (hl9 : l.stackTraces = false) {own cls : String} {names : List String} {ik ic mc ms : Nat}
    (hown : s.vm.findClass own = some m.cls) (hcls : Bundle.fit cls = true) (hnames : ∀ n ∈ names, Bundle.fit n = true)
    (hk : (Cond.classLink own ik cls).before args s = true) (hini : (Cond.initialized cls).before args s = true) (hat : ∀ w ∈ Bundle.ownAtoms0 own ic cls names, w.before args s = true) (hsize : ls.size = c.maxLocals)
    (d0 : decode cc pc = .ok (.new ik, 3)) (d3 : decode cc (pc + 3) = .ok (.dup, 1)) (d4 : decode cc (pc + 4) = .ok (.invokespecial ic, 3)) (d7 : decode cc (pc + 7) = .ok (.athrow, 1))
    (hno : c.exceptionTable.toList = []) (hRf : names.length + 3 < R.frames) (hRl : (rest.map fun v => v.category).sum + (13 * (names.length + 1) + 42) ≤ R.locals) (hRc : 0 + 1 ≤ R.cells) (hRs : 0 + 6 ≤ R.slots) (hlk : meth.locks = false) (hmc : 0 + 1 ≤ mc) (hms : 0 + 6 ≤ ms) :
    W p l e R s m args below meth c s.heap [] 0 0 (zTQ below cls s mc ms) (F0 m pc ls rest) := by
  intro T hT X
  have htr : e.platform.stackTraces = false := (show e.platform.stackTraces = l.stackTraces by rw [X.admits.platform]).trans hl9
  have hins : (Cond.instantiable cls 6).before args s = true := hat _ (by simp [Bundle.ownAtoms0])
  obtain ⟨vm₁, cX, kX, hfX, hkX, -, -, X₁, st1⟩ := X.newCold hx (own := own) (C := cls) (index := ik) (n := 6) hown hk hins hini (g := F0 m pc ls rest) rfl (by rw [hb]; exact d0) hRc hRs
  generalize hT1 : (T.setVm vm₁).pushCell { cls := cX, slots := kX.instanceTypes.map defaultValue, vm := .none } = T1 at X₁ st1
  have hcat : (Value.ref T.heap.size).category = 1 := rfl
  have hcellA : T1.heap[T.heap.size]? = some (freshCell cX kX) := by rw [← hT1]; exact State.heap_pushCell_size _ _
  have d3' : decode c.code (pc + 3) = .ok (.dup, 1) := by rw [hb]; exact d3
  obtain ⟨U, hsteps, hrun, hend, hW, hsame, ce, hce, hO⟩ := X₁.ctorThrow0 hx htr (own := own) (cls := cls) (names := names) (ic := ic) hown hcls hnames hat (fun x hx => nomatch hx) hfX hkX hcellA (by rw [hT]; exact Nat.le_refl _)
    (g := { method := m, pc := pc + 4, locals := ls, stack := .ref T.heap.size :: .ref T.heap.size :: rest, locked := none }) rfl hsize rfl rfl (rest := rest) rfl
    (by rw [hb]; exact d4) (by rw [hb]; exact d7) (by rw [hno]; intro x hx; cases hx) hRf (by simp only [List.map_cons, List.sum_cons, hcat]; omega) hlk
  refine ⟨U, ?_, T.heap.size, hrun, hend, ce, hce, hO.vm, hO.cls, hW, hsame.mono hmc hms⟩
  refine st1 _ ?_
  show Steps p.tables e below (T1.setTop { method := m, pc := pc + 3, locals := ls, stack := .ref T.heap.size :: rest, locked := none }) _
  jvm_step X₁.here [X₁.here.top, hx, d3', Value.category]
  exact hsteps
/-- a callee that throws: the machine comes back with the note over the caller's frame -/
theorem zth_back {U : State} (X : Stand p l e R s m args below meth c U locs cells slots) {y : MethodName} {bytes : ByteArray} {maxL : Nat} {ret : Option FieldType} {wsY : List Cond} {rm : Room} {Pc : Array Value → State → Prop} {E : String} {mc ms W9 : Nat}
    (hM : zTh l y wsY rm Pc E mc ms) (hrc : rm.cells = mc) (hrs : rm.slots = ms) (hframes : rm.frames + 1 ≤ R.frames) (hlocals : W9 + (maxL + 11) + rm.locals ≤ R.locals)
    {g : JFrame} {ig : Instr} {len : Nat} {mk : MethodId} {a : Array Value} (hg : g.method = m) (hsize : g.locals.size = c.maxLocals) (hdg : decode c.code g.pc = .ok (ig, len)) (hW : 2 * g.monitorRoom + (g.stack.map fun v => v.category).sum ≤ W9)
    (hn : U.methodNamed? y = some mk) (h1 : (headSpec wsY rm).pre.before a U = true) (h2 : (Cond.code y bytes maxL ret).before a U = true) (h3 : (Cond.initialized y.cls).before a U = true) (h4 : cells + mc ≤ R.cells) (h5 : slots + ms ≤ R.slots) (hPc : Pc a (U.calling g mk a)) :
    ∃ (q : Addr) (U' : State) (ce : Cell), Stand p l e R s m args below meth c U' locs (cells + mc) (slots + ms) ∧ U.heap.size ≤ U'.heap.size ∧ (∀ k : Nat, k < U.heap.size → U'.heap[k]? = U.heap[k]?) ∧ U'.heap[q]? = some ce ∧ ce.vm = .none ∧ U.vm.findClass E = some ce.cls ∧
      Steps p.tables e below (doInvoke e (U.setTop g) [] mk a).1 ((U'.setTop g).pushFrame (.throwing q)) := by
  obtain ⟨methY, cY, hmY, hcY, -, hlY, -, -, -, -⟩ := Cond.code_spec hn h2
  obtain ⟨kY, hkY, -⟩ := className_of_methodNamed hn
  have hinitY : kY.init = .initialized := Cond.initialized_spec (findClass_of_methodNamed hn) hkY h3
  have h : At U g.method c below := by rw [hg]; exact X.here
  have h4' : cells + (headSpec wsY rm).room.cells ≤ R.cells := by rw [show (headSpec wsY rm).room.cells = mc from hrc]; exact h4
  have h5' : slots + (headSpec wsY rm).room.slots ≤ R.slots := by rw [show (headSpec wsY rm).room.slots = ms from hrs]; exact h5
  have hlo : W9 + (maxL + 11) + (headSpec wsY rm).room.locals ≤ R.locals := hlocals
  have happ : (headSpec wsY rm).appliesLoose y e.platform (U.calling g mk a) = true :=
    Spec.appliesLoose_calling (g := g) h hdg hn hkY hinitY (X.room_calling (g := g) (R' := (headSpec wsY rm).room) hsize hmY hcY hframes (by rw [hlY]; omega) h4' h5') h1
  obtain ⟨mid, hmid⟩ := h.above
  have hfr : (U.setTop g).frames = (.java g :: mid) ++ below := by rw [State.frames_setTop' g h.top, hmid]; rfl
  obtain ⟨o, s₂, hsteps, -, hend, q, rfl, ce, hce, hcv, hcl, hW₂, hsm⟩ := Steps.callFree hM p X.admits X.cas X.clock (acts := []) hfr happ hPc trivial
  have hend2 : s₂.frames = .throwing q :: (U.setTop g).frames := hend
  rw [State.frames_setTop' g h.top] at hend2
  have hW' : U.WarmedH s₂.vm := hW₂
  obtain ⟨e2, q2, q3, q4, q5, q6⟩ := hsm
  have e3 : s₂ = ({ (U.calling g mk a).setFrames s₂.frames with heap := s₂.heap, slotsUsed := s₂.slotsUsed } : State).setVm s₂.vm := by
    have h9 : s₂ = ({ s₂ with vm := (U.calling g mk a).vm } : State).setVm s₂.vm := rfl
    have e2' : ({ s₂ with vm := (U.calling g mk a).vm } : State) = _ := e2
    rw [e2'] at h9
    exact h9
  obtain ⟨g₀, hg0⟩ := Option.isSome_iff_exists.mp h.top
  obtain ⟨r, hr⟩ := State.topJava?_eq_some.mp hg0
  have hr' : (({ U with heap := s₂.heap, slotsUsed := s₂.slotsUsed } : State).setVm s₂.vm).frames = .java g₀ :: r := hr
  have hs₂ : s₂ = ((({ U with heap := s₂.heap, slotsUsed := s₂.slotsUsed } : State).setVm s₂.vm).setTop g).pushFrame (.throwing q) := by
    refine e3.trans ?_
    rw [hend2, State.calling_eq h.top, State.setFrames_setFrames, State.pushFrame, State.frames_setTop _ hr', State.setTop_of_frames _ hr', State.setFrames_setFrames, hr]
    rfl
  have hsame : U.sameButNew ({ U with heap := s₂.heap, slotsUsed := s₂.slotsUsed } : State) [] mc ms := by
    refine ⟨?_, q2, q3, q4, q5, q6⟩
    obtain ⟨t, ht, -⟩ := State.frames_cons hr
    show ({ U with heap := s₂.heap, slotsUsed := s₂.slotsUsed } : State) = { U.setFrames U.frames with heap := s₂.heap, slotsUsed := s₂.slotsUsed }
    rw [State.setFrames_self ht]
  have hold : ∀ k : Nat, k < U.heap.size → s₂.heap[k]? = U.heap[k]? := by
    intro k hk
    have hk0 : U.heap[k]? = some U.heap[k] := Array.getElem?_eq_getElem hk
    obtain ⟨c', h1', h2', h3', h4'⟩ := hsame.2.2.2.2.2 k _ hk0
    have h1'' : s₂.heap[k]? = some c' := h1'
    rw [h1'', hk0]
    have hsl : c'.slots = U.heap[k].slots := by
      apply Array.ext_getElem?
      intro i
      exact h4' i (fun h => nomatch h)
    rw [h2', hsl]
  subst hg
  refine ⟨q, (({ U with heap := s₂.heap, slotsUsed := s₂.slotsUsed } : State).setVm s₂.vm), ce, ?_, q2, hold, hce, hcv, hcl, ?_⟩
  · have hz := X.same.trans (hsame.setVm s.vm)
    rw [List.append_nil] at hz
    exact ⟨X.admits, X.cas, X.clock, X.frames, X.room, X.hears, X.method, X.code, (X.here.setHeapUsed s₂.heap s₂.slotsUsed).setVm hW'.alike, X.tail, State.WarmedH.trans X.warmed hW', X.limits, X.bytes, hz⟩
  · show Steps p.tables e below _ (((({ U with heap := s₂.heap, slotsUsed := s₂.slotsUsed } : State).setVm s₂.vm).setTop g).pushFrame (.throwing q))
    rw [← hs₂]
    exact hsteps
variable {y : MethodName} {bytes : ByteArray} {maxL nL mc ms n index : Nat} {ret : Option FieldType} {wsY : List Cond} {rm : Room} {Pc : Array Value → State → Prop} {E : String} {Ts : List Cond} {own C : String} {b : Addr} {As : List Value}
theorem zcallVT (S : CallFix p m c cc nL s args Ts own) (hM : zTh l y wsY rm Pc E mc ms) (cw : CallW R s args own C index y bytes maxL ret wsY rm mc ms n) (hp : PreV s H C b Pc As) (hn : As.length = n) (hsize : ls.size = nL) (hW : 2 * (F0 m pc ls rest).monitorRoom + (rest.map fun v => v.category).sum ≤ 8) (hdg : decode cc pc = .ok (.invokevirtual index, 3)) (hf : cells + mc ≤ R.cells ∧ slots + ms ≤ R.slots)
    (kx : ∀ (q : Addr) (ce : Cell) (H1 : Heap), H.size ≤ H1.size → (∀ k : Nat, k < H.size → H1[k]? = H[k]?) → H1[q]? = some ce → ce.vm = .none → s.vm.findClass E = some ce.cls → zTW p l e R s m args below meth c H1 locs (cells + mc) (slots + ms) Q (F0 m pc ls rest) q) :
    W p l e R s m args below meth c H locs cells slots Q (F0 m pc ls (As.reverse ++ .ref b :: rest)) := by
  obtain ⟨⟨hrc, hrs, hfr, hlo, hws, hcw, hcode, hini, hy, hlen, hl⟩, hinst, hsel⟩ := cw
  obtain ⟨hx, hb, hml, hown, -⟩ := S
  obtain ⟨hblind, ⟨cellB, hcB, hoB, hclB⟩, hPc⟩ := hp
  intro T hT X
  obtain ⟨mk, methM, hnamed, hmethM, hstM, habM⟩ := Cond.instanceMethod_spec hinst
  obtain ⟨methM', cM, hmethM', -, -, -, -, -, -, hsigM⟩ := Cond.code_spec hnamed hcode
  cases hmethM.symm.trans hmethM'
  obtain ⟨c2, r2, m2, q1, q2, q3, q4, kP, hkP, hkPi⟩ := Cond.selects_spec hsel
  cases hclB.symm.trans q1
  cases (State.methodFound?_of_named hnamed hy).symm.trans q2
  cases hnamed.symm.trans q3
  have hselP : selectMethod e.platform s.vm cellB.cls mk = .method mk := by rw [Launch.admits_selectMethod X.admits]; exact q4
  obtain ⟨vm₁, X₁, hstep₁⟩ := X.invokevirtual hx hown hl hnamed hmethM hstM hkP hkPi hy (a := b) (cell := cellB) (by rw [hT]; exact hcB)
    (fun z h => by rw [h] at hoB; cases hoB) hselP hmethM habM hkP hkPi (g := F0 m pc ls (As.reverse ++ .ref b :: rest)) rfl (argsL := As) (rest := rest) (hn.trans (hlen _ hsigM)) rfl (by rw [hb]; exact hdg)
  obtain ⟨q, U', ce, X', z1, z2, z3, z4, z5, hst⟩ := zth_back X₁ (y := y) (bytes := bytes) (maxL := maxL) (ret := ret) hM hrc hrs hfr hlo (g := F0 m pc ls rest) (ig := .invokevirtual index) (len := 3) (mk := mk) (a := (Value.ref b :: As).toArray) rfl (hsize.trans hml.symm) (by rw [hb]; exact hdg) hW (X₁.named hnamed)
    (atoms_intro fun w hw => hws w hw _ _ X₁.warmed) (hws _ hcw _ _ X₁.warmed) (word_at X₁.warmed (Or.inl (by first | rfl | simp [Cond.onTables, Cond.keeps, Cond.steady])) hini) hf.1 hf.2 (hblind _ _ _ _ (hPc (T.setVm vm₁) hT X₁.warmed))
  have hT1 : (T.setVm vm₁).heap = H := hT
  rw [hT1] at z1 z2
  have z5' : s.vm.findClass E = some ce.cls := by
    rw [← X₁.warmed.alike.findClass]; exact z5
  obtain ⟨t, a1, b1⟩ := kx q ce U'.heap z1 z2 z3 z4 z5' U' rfl X'
  exact ⟨t, hstep₁ _ fun acts => by rw [doInvoke_state]; exact hst.trans a1, b1⟩
/-- not caught here -/
theorem zout {E : String} {q : Addr} {ce : Cell} {mc ms : Nat} (hno : c.exceptionTable.toList = []) (hlk : meth.locks = false) (hce : H[q]? = some ce) (hcv : ce.vm = .none) (hcl : s.vm.findClass E = some ce.cls) (hc : cells ≤ mc) (hs : slots ≤ ms) :
    zTW p l e R s m args below meth c H [] cells slots (zTQ below E s mc ms) (F0 m pc ls rest) q := by
  intro T hT X
  obtain ⟨st, hrun, hend, hW, hsame⟩ := X.leaveThrown q (g := F0 m pc ls rest) rfl rfl rfl (by rw [hno]; intro x hx; cases hx) hlk
  exact ⟨_, st, q, hrun, hend, ce, by rw [← hT] at hce; exact hce, hcv, hcl, hW, hsame.mono hc hs⟩
end ZXA
end
section
theorem zdf_G : ∀ j, j < 4 → defaultValue (ty_G j) = vp_V [.null, .null, .null, .null] j := by
  intro j hj
  have h : j = 0 ∨ j = 1 ∨ j = 2 ∨ j = 3 := by omega
  rcases h with rfl | rfl | rfl | rfl <;> rfl
theorem zdf_T : ∀ j, j < 2 → defaultValue (ty_T j) = vp_V [.null, .int 0] j := by
  intro j hj
  have h : j = 0 ∨ j = 1 := by omega
  rcases h with rfl | rfl <;> rfl
theorem zdf_D : ∀ j, j < 5 → defaultValue (ty_D j) = vp_V [.null, .int 0, .int 0, .int 0, .null] j := by
  intro j hj
  have h : j = 0 ∨ j = 1 ∨ j = 2 ∨ j = 3 ∨ j = 4 := by omega
  rcases h with rfl | rfl | rfl | rfl | rfl <;> rfl
theorem zdf_A : ∀ j, j < 5 → defaultValue (ty_A j) = vp_V [.int 0, .int 0, .int 0, .null, .int 0] j := by
  intro j hj
  have h : j = 0 ∨ j = 1 ∨ j = 2 ∨ j = 3 ∨ j = 4 := by omega
  rcases h with rfl | rfl | rfl | rfl | rfl <;> rfl
theorem zdf_U : ∀ j, j < 8 → defaultValue (ty_U j) = vp_V [.null, .null, .null, .null, .null, .null, .null, .null] j := by
  intro j hj
  have h : j = 0 ∨ j = 1 ∨ j = 2 ∨ j = 3 ∨ j = 4 ∨ j = 5 ∨ j = 6 ∨ j = 7 := by omega
  rcases h with rfl | rfl | rfl | rfl | rfl | rfl | rfl | rfl <;> rfl
theorem zdf_B : ∀ j, j < 4 → defaultValue (ty_B j) = vp_V [.null, .int 0, .int 0, .int 0] j := by
  intro j hj
  have h : j = 0 ∨ j = 1 ∨ j = 2 ∨ j = 3 := by omega
  rcases h with rfl | rfl | rfl | rfl <;> rfl
theorem zdf_C : ∀ j, j < 4 → defaultValue (ty_C j) = vp_V [.null, .null, .null, .int 0] j := by
  intro j hj
  have h : j = 0 ∨ j = 1 ∨ j = 2 ∨ j = 3 := by omega
  rcases h with rfl | rfl | rfl | rfl <;> rfl
theorem zdf_E : ∀ j, j < 12 → defaultValue (ty_E j) = vp_V [.null, .int 0, .int 0, .int 0, .int 0, .long 0, .int 0, .int 0, .int 0, .int 0, .int 0, .int 0] j := by
  intro j hj
  have h : j = 0 ∨ j = 1 ∨ j = 2 ∨ j = 3 ∨ j = 4 ∨ j = 5 ∨ j = 6 ∨ j = 7 ∨ j = 8 ∨ j = 9 ∨ j = 10 ∨ j = 11 := by omega
  rcases h with rfl | rfl | rfl | rfl | rfl | rfl | rfl | rfl | rfl | rfl | rfl | rfl <;> rfl
theorem zdf_M : ∀ j, j < 31 → defaultValue (ty_M j) = vp_V [.null, .int 0, .int 0, .int 0, .int 0, .int 0, .int 0, .null, .null, .null, .null, .null, .null, .null, .null, .null, .null, .null, .null, .null, .int 0, .int 0, .int 0, .int 0, .null, .null, .null, .null, .int 0, .int 0, .int 0] j := by
  intro j hj
  have h : j = 0 ∨ j = 1 ∨ j = 2 ∨ j = 3 ∨ j = 4 ∨ j = 5 ∨ j = 6 ∨ j = 7 ∨ j = 8 ∨ j = 9 ∨ j = 10 ∨ j = 11 ∨ j = 12 ∨ j = 13 ∨ j = 14 ∨ j = 15 ∨ j = 16 ∨ j = 17 ∨ j = 18 ∨ j = 19 ∨ j = 20 ∨ j = 21 ∨ j = 22 ∨ j = 23 ∨ j = 24 ∨ j = 25 ∨ j = 26 ∨ j = 27 ∨ j = 28 ∨ j = 29 ∨ j = 30 := by omega
  rcases h with rfl | rfl | rfl | rfl | rfl | rfl | rfl | rfl | rfl | rfl | rfl | rfl | rfl | rfl | rfl | rfl | rfl | rfl | rfl | rfl | rfl | rfl | rfl | rfl | rfl | rfl | rfl | rfl | rfl | rfl | rfl <;> rfl
theorem zcwS {R : Room} {s : State} {args : Array Value} {own : String} {index : Nat} {y : MethodName} {bytes : ByteArray} {maxL mc ms : Nat} {ret : Option FieldType} {rm : Room} (n : Nat) (ht : ∀ w ∈ zt, w.before args s = true) (h1 : Cond.methodLink own index y ∈ zt) (h2 : Cond.static y ∈ zt) (h3 : Cond.initialized y.cls ∈ zt) (h : Cond.code y bytes maxL ret ∈ zt) (hrc : rm.cells = mc) (hrs : rm.slots = ms)
    (hd : y.cls ≠ "java/lang/invoke/MethodHandle" ∧ y.cls ≠ "java/lang/invoke/VarHandle" ∧ (parseMethodDescriptor y.desc).map (fun d => d.parameters.length) = some n) (hR : rm.frames + 1 ≤ R.frames ∧ 8 + (maxL + 11) + rm.locals ≤ R.locals) :
    CallB R s args own index y bytes maxL ret (Cond.code y bytes maxL ret :: zt) rm mc ms n ∧ (Cond.static y).before args s = true := by
  refine va_cwS n ht (fun w hw => ?_) rfl hrc hrs hd hR
  have hz : w ∈ zt := by
    unfold va_wsS at hw
    simp only [List.cons_append, List.nil_append, List.mem_cons] at hw
    rcases hw with rfl | rfl | rfl | rfl | h5
    · exact h1
    · exact h2
    · exact h3
    · exact h
    · exact h5
  exact ⟨hz, good_of_word (zt_gg _ hz)⟩
set_option maxRecDepth 100000 in
theorem zm_87 : Jvm.Cond.instanceMethod ({ cls := "java/lang/Object", name := "<init>", desc := "()V" } : Jvm.MethodName) ∈ zt := zt_m1 (List.mem_of_getElem? (i := 23) rfl)
set_option maxRecDepth 100000 in
theorem zm_88 : Jvm.Cond.code ({ cls := "java/lang/Object", name := "<init>", desc := "()V" } : Jvm.MethodName) object_method_1_code (1 : Nat) (Option.none : Option Jvm.ClassFile.FieldType) ∈ zt := zt_m1 (List.mem_of_getElem? (i := 24) rfl)
set_option maxRecDepth 100000 in
theorem zm_94 : Jvm.Cond.methodLink "ZipGuard$Tape" (1 : Nat) ({ cls := "java/lang/Object", name := "<init>", desc := "()V" } : Jvm.MethodName) ∈ zt := zt_m1 (List.mem_of_getElem? (i := 30) rfl)
set_option maxRecDepth 100000 in
theorem zm_95 : Jvm.Cond.fieldLink "ZipGuard$BitReader" (7 : Nat) "ZipGuard$Tape" "bytes" "[B" ∈ zt := zt_m1 (List.mem_of_getElem? (i := 31) rfl)
set_option maxRecDepth 100000 in
theorem zm_96 : Jvm.Cond.fieldLink "ZipGuard$Tape" (9 : Nat) "ZipGuard$Tape" "bytes" "[B" ∈ zt := zt_m1 (List.mem_of_getElem? (i := 32) rfl)
set_option maxRecDepth 100000 in
theorem zm_97 : Jvm.Cond.fieldLink "ZipGuard$Tape" (13 : Nat) "ZipGuard$Tape" "length" "I" ∈ zt := zt_m1 (List.mem_of_getElem? (i := 33) rfl)
set_option maxRecDepth 100000 in
theorem zm_105 : Jvm.Cond.arrayClass Jvm.ClassFile.FieldType.byte ∈ zt := zt_m1 (List.mem_of_getElem? (i := 41) rfl)
set_option maxRecDepth 100000 in
theorem zm_117 : Jvm.Cond.methodLink "ZipGuard$Entry" (1 : Nat) ({ cls := "java/lang/Object", name := "<init>", desc := "()V" } : Jvm.MethodName) ∈ zt := zt_m1 (List.mem_of_getElem? (i := 53) rfl)
set_option maxRecDepth 100000 in
theorem zm_118 : Jvm.Cond.fieldLink "ZipGuard$Entry" (9 : Nat) "ZipGuard$Entry" "nameBytes" "[B" ∈ zt := zt_m1 (List.mem_of_getElem? (i := 54) rfl)
set_option maxRecDepth 100000 in
theorem zm_204 : Jvm.Cond.methodLink "ZipGuard$Target" (3 : Nat) ({ cls := "java/lang/Object", name := "<init>", desc := "()V" } : Jvm.MethodName) ∈ zt := zt_m1 (List.mem_of_getElem? (i := 140) rfl)
set_option maxRecDepth 100000 in
theorem zm_205 : Jvm.Cond.constant "ZipGuard$Target" (9 : Nat) (40000 : Int32) ∈ zt := zt_m1 (List.mem_of_getElem? (i := 141) rfl)
set_option maxRecDepth 100000 in
theorem zm_206 : Jvm.Cond.fieldLink "ZipGuard$Target" (16 : Nat) "ZipGuard$Target" "budget" "I" ∈ zt := zt_m1 (List.mem_of_getElem? (i := 142) rfl)
set_option maxRecDepth 100000 in
theorem zm_208 : Jvm.Cond.fieldLink "ZipGuard$Target" (20 : Nat) "ZipGuard$Target" "ratio" "I" ∈ zt := zt_m1 (List.mem_of_getElem? (i := 144) rfl)
set_option maxRecDepth 100000 in
theorem zm_210 : Jvm.Cond.fieldLink "ZipGuard$Target" (23 : Nat) "ZipGuard$Target" "total" "I" ∈ zt := zt_m1 (List.mem_of_getElem? (i := 146) rfl)
set_option maxRecDepth 100000 in
theorem zm_212 : Jvm.Cond.fieldLink "ZipGuard$Target" (10 : Nat) "ZipGuard$Target" "bytes" "[B" ∈ zt := zt_m1 (List.mem_of_getElem? (i := 148) rfl)
set_option maxRecDepth 100000 in
theorem zm_213 : Jvm.Cond.fieldLink "ZipGuard$Target" (26 : Nat) "ZipGuard$Target" "runningSum" "I" ∈ zt := zt_m1 (List.mem_of_getElem? (i := 149) rfl)
set_option maxRecDepth 100000 in
theorem zm_236 : Jvm.Cond.methodLink "ZipGuard$BitReader" (1 : Nat) ({ cls := "java/lang/Object", name := "<init>", desc := "()V" } : Jvm.MethodName) ∈ zt := zt_m1 (List.mem_of_getElem? (i := 172) rfl)
set_option maxRecDepth 100000 in
theorem zm_237 : Jvm.Cond.fieldLink "ZipGuard$BitReader" (13 : Nat) "ZipGuard$BitReader" "bytes" "[B" ∈ zt := zt_m1 (List.mem_of_getElem? (i := 173) rfl)
theorem d_A_init_0 : decode prog_7_method_1_code 0 = .ok (.aload_n 0, 1) := by decide +kernel
theorem d_A_init_1 : decode prog_7_method_1_code 1 = .ok (.invokespecial 3, 3) := by decide +kernel
theorem d_A_init_4 : decode prog_7_method_1_code 4 = .ok (.aload_n 0, 1) := by decide +kernel
theorem d_A_init_5 : decode prog_7_method_1_code 5 = .ok (.ldc 9, 2) := by decide +kernel
theorem d_A_init_7 : decode prog_7_method_1_code 7 = .ok (.newarray .byte, 2) := by decide +kernel
theorem d_A_init_9 : decode prog_7_method_1_code 9 = .ok (.putfield 10, 3) := by decide +kernel
theorem d_A_init_12 : decode prog_7_method_1_code 12 = .ok (.aload_n 0, 1) := by decide +kernel
theorem d_A_init_13 : decode prog_7_method_1_code 13 = .ok (.sipush 20000, 3) := by decide +kernel
theorem d_A_init_16 : decode prog_7_method_1_code 16 = .ok (.putfield 16, 3) := by decide +kernel
theorem d_A_init_19 : decode prog_7_method_1_code 19 = .ok (.aload_n 0, 1) := by decide +kernel
theorem d_A_init_20 : decode prog_7_method_1_code 20 = .ok (.bipush 100, 2) := by decide +kernel
theorem d_A_init_22 : decode prog_7_method_1_code 22 = .ok (.putfield 20, 3) := by decide +kernel
theorem d_A_init_25 : decode prog_7_method_1_code 25 = .ok (.aload_n 0, 1) := by decide +kernel
theorem d_A_init_26 : decode prog_7_method_1_code 26 = .ok (.iconst 0, 1) := by decide +kernel
theorem d_A_init_27 : decode prog_7_method_1_code 27 = .ok (.putfield 23, 3) := by decide +kernel
theorem d_A_init_30 : decode prog_7_method_1_code 30 = .ok (.aload_n 0, 1) := by decide +kernel
theorem d_A_init_31 : decode prog_7_method_1_code 31 = .ok (.iconst (-1), 1) := by decide +kernel
theorem d_A_init_32 : decode prog_7_method_1_code 32 = .ok (.putfield 26, 3) := by decide +kernel
theorem d_A_init_35 : decode prog_7_method_1_code 35 = .ok (.return_, 1) := by decide +kernel
theorem d_B_init_0 : decode prog_2_method_1_code 0 = .ok (.aload_n 0, 1) := by decide +kernel
theorem d_B_init_1 : decode prog_2_method_1_code 1 = .ok (.invokespecial 1, 3) := by decide +kernel
theorem d_B_init_4 : decode prog_2_method_1_code 4 = .ok (.aload_n 0, 1) := by decide +kernel
theorem d_B_init_5 : decode prog_2_method_1_code 5 = .ok (.aload_n 1, 1) := by decide +kernel
theorem d_B_init_6 : decode prog_2_method_1_code 6 = .ok (.getfield 7, 3) := by decide +kernel
theorem d_B_init_9 : decode prog_2_method_1_code 9 = .ok (.putfield 13, 3) := by decide +kernel
theorem d_B_init_12 : decode prog_2_method_1_code 12 = .ok (.return_, 1) := by decide +kernel
theorem d_E_init_0 : decode prog_5_method_1_code 0 = .ok (.aload_n 0, 1) := by decide +kernel
theorem d_E_init_1 : decode prog_5_method_1_code 1 = .ok (.invokespecial 1, 3) := by decide +kernel
theorem d_E_init_4 : decode prog_5_method_1_code 4 = .ok (.aload_n 0, 1) := by decide +kernel
theorem d_E_init_5 : decode prog_5_method_1_code 5 = .ok (.bipush 60, 2) := by decide +kernel
theorem d_E_init_7 : decode prog_5_method_1_code 7 = .ok (.newarray .byte, 2) := by decide +kernel
theorem d_E_init_9 : decode prog_5_method_1_code 9 = .ok (.putfield 9, 3) := by decide +kernel
theorem d_E_init_12 : decode prog_5_method_1_code 12 = .ok (.return_, 1) := by decide +kernel
theorem d_T_init_0 : decode prog_6_method_1_code 0 = .ok (.aload_n 0, 1) := by decide +kernel
theorem d_T_init_1 : decode prog_6_method_1_code 1 = .ok (.invokespecial 1, 3) := by decide +kernel
theorem d_T_init_4 : decode prog_6_method_1_code 4 = .ok (.aload_n 0, 1) := by decide +kernel
theorem d_T_init_5 : decode prog_6_method_1_code 5 = .ok (.sipush 20000, 3) := by decide +kernel
theorem d_T_init_8 : decode prog_6_method_1_code 8 = .ok (.newarray .byte, 2) := by decide +kernel
theorem d_T_init_10 : decode prog_6_method_1_code 10 = .ok (.putfield 9, 3) := by decide +kernel
theorem d_T_init_13 : decode prog_6_method_1_code 13 = .ok (.aload_n 0, 1) := by decide +kernel
theorem d_T_init_14 : decode prog_6_method_1_code 14 = .ok (.iconst 0, 1) := by decide +kernel
theorem d_T_init_15 : decode prog_6_method_1_code 15 = .ok (.putfield 13, 3) := by decide +kernel
theorem d_T_init_18 : decode prog_6_method_1_code 18 = .ok (.return_, 1) := by decide +kernel
set_option maxHeartbeats 4000000 in
set_option maxRecDepth 100000 in
theorem c_T_init (l : Launch) (D : va_G) (sz : Nat) (h0 : Nat)  : Met l y_T_init (Cond.code y_T_init prog_6_method_1_code 1 (Option.none : Option Jvm.ClassFile.FieldType) :: zt) { frames := 1, cells := 1, slots := 20000, locals := 12 } (zPc [.ref h0] D [(h0, .inr (1, [.null, .int 0]))] [] sz (fun _ => True)) (va_Qv (fun (u : Nat × ClassId) => match u with | (q1, cA1) => True) (fun u t => zB D ((fun (u : Nat × ClassId) => match u with | (q1, cA1) => [(h0, .inr (1, [.ref q1, .int 0])), (q1, .inl (cA1, 20000, .inl (fun _ => 0)))]) u) ((fun (u : Nat × ClassId) => match u with | (q1, cA1) => [(cA1, .byte)]) u) (va_A [(h0, .inr (1, [.null, .int 0]))] sz) t) (va_A [(h0, .inr (1, [.null, .int 0]))] sz)) 1 20000 (va_A [(h0, .inr (1, [.null, .int 0]))] sz) :=
  zMet (Qf := fun A => va_Qv (fun (u : Nat × ClassId) => match u with | (q1, cA1) => True) (fun u t => zB D ((fun (u : Nat × ClassId) => match u with | (q1, cA1) => [(h0, .inr (1, [.ref q1, .int 0])), (q1, .inl (cA1, 20000, .inl (fun _ => 0)))]) u) ((fun (u : Nat × ClassId) => match u with | (q1, cA1) => [(cA1, .byte)]) u) A t) A) (by decide) (Nat.le_of_ble_eq_true rfl) (fun p e s m below meth c A ls hx hb hr hml hown ht hlk hnm hA hK hP hD hX hl => by
    have hS : va_S A s.heap s.heap [] := va_S.rf
    have hl : lv_has ls 1 [(0, .ref h0)] := hl
    refine lv_aload_n hx hb d_T_init_0 rfl (lv_at hl 0 rfl) ?_
    refine W.objInit hx hb hown (ht _ zm_94) (ht _ zm_87) (ht _ zm_88) rfl (by rw [hml]; exact hl.1) rfl d_T_init_1 (Nat.le_of_ble_eq_true rfl) (Nat.le_of_ble_eq_true rfl) ?_
    refine W.eq (g2 := F0 m 4 ls []) rfl ?_
    refine lv_aload_n hx hb d_T_init_4 rfl (lv_at hl 0 rfl) ?_
    refine lv_sipush (v := 20000) hx hb d_T_init_5 (by decide) ?_
    refine va_newa (atype := .byte) (ty := .byte) (n := 20000) (N' := 20000) (a0 := (20000, .inl (fun _ => 0))) hx hb (ht _ zm_105) rfl hK hP hD hS hA (fun _ => rfl) (by decide) (by decide) (by decide) (Nat.le_of_ble_eq_true rfl) (Nat.le_of_ble_eq_true rfl) d_T_init_8 (fun q1 cA2 H hK hP hD hS => ?_)
    have hP : va_P D zcl [(h0, .inr (1, [.null, .int 0])), (q1, .inl (cA2, 20000, .inl (fun _ => 0)))] H := hP
    have hD : va_D A [(h0, .inr (1, [.null, .int 0])), (q1, .inl (cA2, 20000, .inl (fun _ => 0)))] := hD
    have hK : va_K D zcl [(cA2, .byte)] s := hK
    refine va_putF (ci := 1) (v := .ref q1) (ty := .array .byte) (C := "ZipGuard$Tape") (T := F_T) (N := 2) hx hb ht zi_T ty_T tk_T nm_T hown hK hP hD hS 0 rfl rfl 0 (by decide) (ht _ zm_96) (fun _ h9 => h9) rfl hnm rfl (by decide +kernel) rfl rfl (Nat.le_of_ble_eq_true rfl) d_T_init_10 (fun H locs hP hD hS => ?_)
    have hP : va_P D zcl [(h0, .inr (1, [.ref q1, .int 0])), (q1, .inl (cA2, 20000, .inl (fun _ => 0)))] H := hP
    have hD : va_D A [(h0, .inr (1, [.ref q1, .int 0])), (q1, .inl (cA2, 20000, .inl (fun _ => 0)))] := hD
    refine lv_aload_n hx hb d_T_init_13 rfl (lv_at hl 0 rfl) ?_
    refine lv_iconst (v := 0) hx hb d_T_init_14 (by decide) ?_
    refine va_put (ci := 1) (v := .int 0) (ty := .int) (C := "ZipGuard$Tape") (T := F_T) (N := 2) hx hb ht zi_T ty_T tk_T nm_T hown hK hP hD hS 0 rfl rfl 1 (by decide) (ht _ zm_97) (fun _ h9 => h9) rfl (by decide +kernel) rfl rfl (Nat.le_of_ble_eq_true rfl) d_T_init_15 (fun H locs hP hD hS => ?_)
    have hP : va_P D zcl [(h0, .inr (1, [.ref q1, .int 0])), (q1, .inl (cA2, 20000, .inl (fun _ => 0)))] H := hP
    have hD : va_D A [(h0, .inr (1, [.ref q1, .int 0])), (q1, .inl (cA2, 20000, .inl (fun _ => 0)))] := hD
    exact zretv hx hb hr hlk hK hP hD hS (q1, cA2) [0, 1] [0] rfl (by decide) rfl (trivial) (Nat.le_of_ble_eq_true rfl) (Nat.le_of_ble_eq_true rfl) d_T_init_18)
set_option maxHeartbeats 4000000 in
set_option maxRecDepth 100000 in
theorem c_A_init (l : Launch) (D : va_G) (sz : Nat) (h0 : Nat)  : Met l y_A_init (Cond.code y_A_init prog_7_method_1_code 1 (Option.none : Option Jvm.ClassFile.FieldType) :: zt) { frames := 1, cells := 1, slots := 40000, locals := 12 } (zPc [.ref h0] D [(h0, .inr (3, [.int 0, .int 0, .int 0, .null, .int 0]))] [] sz (fun _ => True)) (va_Qv (fun (u : Nat × ClassId) => match u with | (q1, cA1) => True) (fun u t => zB D ((fun (u : Nat × ClassId) => match u with | (q1, cA1) => [(h0, .inr (3, [.int 20000, .int 100, .int 0, .ref q1, .int (-1)])), (q1, .inl (cA1, 40000, .inl (fun _ => 0)))]) u) ((fun (u : Nat × ClassId) => match u with | (q1, cA1) => [(cA1, .byte)]) u) (va_A [(h0, .inr (3, [.int 0, .int 0, .int 0, .null, .int 0]))] sz) t) (va_A [(h0, .inr (3, [.int 0, .int 0, .int 0, .null, .int 0]))] sz)) 1 40000 (va_A [(h0, .inr (3, [.int 0, .int 0, .int 0, .null, .int 0]))] sz) :=
  zMet (Qf := fun A => va_Qv (fun (u : Nat × ClassId) => match u with | (q1, cA1) => True) (fun u t => zB D ((fun (u : Nat × ClassId) => match u with | (q1, cA1) => [(h0, .inr (3, [.int 20000, .int 100, .int 0, .ref q1, .int (-1)])), (q1, .inl (cA1, 40000, .inl (fun _ => 0)))]) u) ((fun (u : Nat × ClassId) => match u with | (q1, cA1) => [(cA1, .byte)]) u) A t) A) (by decide) (Nat.le_of_ble_eq_true rfl) (fun p e s m below meth c A ls hx hb hr hml hown ht hlk hnm hA hK hP hD hX hl => by
    have hS : va_S A s.heap s.heap [] := va_S.rf
    have hl : lv_has ls 1 [(0, .ref h0)] := hl
    refine lv_aload_n hx hb d_A_init_0 rfl (lv_at hl 0 rfl) ?_
    refine W.objInit hx hb hown (ht _ zm_204) (ht _ zm_87) (ht _ zm_88) rfl (by rw [hml]; exact hl.1) rfl d_A_init_1 (Nat.le_of_ble_eq_true rfl) (Nat.le_of_ble_eq_true rfl) ?_
    refine W.eq (g2 := F0 m 4 ls []) rfl ?_
    refine lv_aload_n hx hb d_A_init_4 rfl (lv_at hl 0 rfl) ?_
    refine lv_ldc (v := 40000) hx hb hown (ht _ zm_205) d_A_init_5 ?_
    refine va_newa (atype := .byte) (ty := .byte) (n := 40000) (N' := 40000) (a0 := (40000, .inl (fun _ => 0))) hx hb (ht _ zm_105) rfl hK hP hD hS hA (fun _ => rfl) (by decide) (by decide) (by decide) (Nat.le_of_ble_eq_true rfl) (Nat.le_of_ble_eq_true rfl) d_A_init_7 (fun q1 cA2 H hK hP hD hS => ?_)
    have hP : va_P D zcl [(h0, .inr (3, [.int 0, .int 0, .int 0, .null, .int 0])), (q1, .inl (cA2, 40000, .inl (fun _ => 0)))] H := hP
    have hD : va_D A [(h0, .inr (3, [.int 0, .int 0, .int 0, .null, .int 0])), (q1, .inl (cA2, 40000, .inl (fun _ => 0)))] := hD
    have hK : va_K D zcl [(cA2, .byte)] s := hK
    refine va_putF (ci := 3) (v := .ref q1) (ty := .array .byte) (C := "ZipGuard$Target") (T := F_A) (N := 5) hx hb ht zi_A ty_A tk_A nm_A hown hK hP hD hS 0 rfl rfl 3 (by decide) (ht _ zm_212) (fun _ h9 => h9) rfl hnm rfl (by decide +kernel) rfl rfl (Nat.le_of_ble_eq_true rfl) d_A_init_9 (fun H locs hP hD hS => ?_)
    have hP : va_P D zcl [(h0, .inr (3, [.int 0, .int 0, .int 0, .ref q1, .int 0])), (q1, .inl (cA2, 40000, .inl (fun _ => 0)))] H := hP
    have hD : va_D A [(h0, .inr (3, [.int 0, .int 0, .int 0, .ref q1, .int 0])), (q1, .inl (cA2, 40000, .inl (fun _ => 0)))] := hD
    refine lv_aload_n hx hb d_A_init_12 rfl (lv_at hl 0 rfl) ?_
    refine lv_sipush (v := 20000) hx hb d_A_init_13 (by decide) ?_
    refine va_put (ci := 3) (v := .int 20000) (ty := .int) (C := "ZipGuard$Target") (T := F_A) (N := 5) hx hb ht zi_A ty_A tk_A nm_A hown hK hP hD hS 0 rfl rfl 0 (by decide) (ht _ zm_206) (fun _ h9 => h9) rfl (by decide +kernel) rfl rfl (Nat.le_of_ble_eq_true rfl) d_A_init_16 (fun H locs hP hD hS => ?_)
    have hP : va_P D zcl [(h0, .inr (3, [.int 20000, .int 0, .int 0, .ref q1, .int 0])), (q1, .inl (cA2, 40000, .inl (fun _ => 0)))] H := hP
    have hD : va_D A [(h0, .inr (3, [.int 20000, .int 0, .int 0, .ref q1, .int 0])), (q1, .inl (cA2, 40000, .inl (fun _ => 0)))] := hD
    refine lv_aload_n hx hb d_A_init_19 rfl (lv_at hl 0 rfl) ?_
    refine lv_bipush (v := 100) hx hb d_A_init_20 (by decide) ?_
    refine va_put (ci := 3) (v := .int 100) (ty := .int) (C := "ZipGuard$Target") (T := F_A) (N := 5) hx hb ht zi_A ty_A tk_A nm_A hown hK hP hD hS 0 rfl rfl 1 (by decide) (ht _ zm_208) (fun _ h9 => h9) rfl (by decide +kernel) rfl rfl (Nat.le_of_ble_eq_true rfl) d_A_init_22 (fun H locs hP hD hS => ?_)
    have hP : va_P D zcl [(h0, .inr (3, [.int 20000, .int 100, .int 0, .ref q1, .int 0])), (q1, .inl (cA2, 40000, .inl (fun _ => 0)))] H := hP
    have hD : va_D A [(h0, .inr (3, [.int 20000, .int 100, .int 0, .ref q1, .int 0])), (q1, .inl (cA2, 40000, .inl (fun _ => 0)))] := hD
    refine lv_aload_n hx hb d_A_init_25 rfl (lv_at hl 0 rfl) ?_
    refine lv_iconst (v := 0) hx hb d_A_init_26 (by decide) ?_
    refine va_put (ci := 3) (v := .int 0) (ty := .int) (C := "ZipGuard$Target") (T := F_A) (N := 5) hx hb ht zi_A ty_A tk_A nm_A hown hK hP hD hS 0 rfl rfl 2 (by decide) (ht _ zm_210) (fun _ h9 => h9) rfl (by decide +kernel) rfl rfl (Nat.le_of_ble_eq_true rfl) d_A_init_27 (fun H locs hP hD hS => ?_)
    have hP : va_P D zcl [(h0, .inr (3, [.int 20000, .int 100, .int 0, .ref q1, .int 0])), (q1, .inl (cA2, 40000, .inl (fun _ => 0)))] H := hP
    have hD : va_D A [(h0, .inr (3, [.int 20000, .int 100, .int 0, .ref q1, .int 0])), (q1, .inl (cA2, 40000, .inl (fun _ => 0)))] := hD
    refine lv_aload_n hx hb d_A_init_30 rfl (lv_at hl 0 rfl) ?_
    refine lv_iconst (v := (-1)) hx hb d_A_init_31 (by decide) ?_
    refine va_put (ci := 3) (v := .int (-1)) (ty := .int) (C := "ZipGuard$Target") (T := F_A) (N := 5) hx hb ht zi_A ty_A tk_A nm_A hown hK hP hD hS 0 rfl rfl 4 (by decide) (ht _ zm_213) (fun _ h9 => h9) rfl (by decide +kernel) rfl rfl (Nat.le_of_ble_eq_true rfl) d_A_init_32 (fun H locs hP hD hS => ?_)
    have hP : va_P D zcl [(h0, .inr (3, [.int 20000, .int 100, .int 0, .ref q1, .int (-1)])), (q1, .inl (cA2, 40000, .inl (fun _ => 0)))] H := hP
    have hD : va_D A [(h0, .inr (3, [.int 20000, .int 100, .int 0, .ref q1, .int (-1)])), (q1, .inl (cA2, 40000, .inl (fun _ => 0)))] := hD
    exact zretv hx hb hr hlk hK hP hD hS (q1, cA2) [0, 1] [0] rfl (by decide) rfl (trivial) (Nat.le_of_ble_eq_true rfl) (Nat.le_of_ble_eq_true rfl) d_A_init_35)
set_option maxHeartbeats 4000000 in
set_option maxRecDepth 100000 in
theorem c_E_init (l : Launch) (D : va_G) (sz : Nat) (h0 : Nat)  : Met l y_E_init (Cond.code y_E_init prog_5_method_1_code 1 (Option.none : Option Jvm.ClassFile.FieldType) :: zt) { frames := 1, cells := 1, slots := 60, locals := 12 } (zPc [.ref h0] D [(h0, .inr (7, [.null, .int 0, .int 0, .int 0, .int 0, .long 0, .int 0, .int 0, .int 0, .int 0, .int 0, .int 0]))] [] sz (fun _ => True)) (va_Qv (fun (u : Nat × ClassId) => match u with | (q1, cA1) => True) (fun u t => zB D ((fun (u : Nat × ClassId) => match u with | (q1, cA1) => [(h0, .inr (7, [.ref q1, .int 0, .int 0, .int 0, .int 0, .long 0, .int 0, .int 0, .int 0, .int 0, .int 0, .int 0])), (q1, .inl (cA1, 60, .inl (fun _ => 0)))]) u) ((fun (u : Nat × ClassId) => match u with | (q1, cA1) => [(cA1, .byte)]) u) (va_A [(h0, .inr (7, [.null, .int 0, .int 0, .int 0, .int 0, .long 0, .int 0, .int 0, .int 0, .int 0, .int 0, .int 0]))] sz) t) (va_A [(h0, .inr (7, [.null, .int 0, .int 0, .int 0, .int 0, .long 0, .int 0, .int 0, .int 0, .int 0, .int 0, .int 0]))] sz)) 1 60 (va_A [(h0, .inr (7, [.null, .int 0, .int 0, .int 0, .int 0, .long 0, .int 0, .int 0, .int 0, .int 0, .int 0, .int 0]))] sz) :=
  zMet (Qf := fun A => va_Qv (fun (u : Nat × ClassId) => match u with | (q1, cA1) => True) (fun u t => zB D ((fun (u : Nat × ClassId) => match u with | (q1, cA1) => [(h0, .inr (7, [.ref q1, .int 0, .int 0, .int 0, .int 0, .long 0, .int 0, .int 0, .int 0, .int 0, .int 0, .int 0])), (q1, .inl (cA1, 60, .inl (fun _ => 0)))]) u) ((fun (u : Nat × ClassId) => match u with | (q1, cA1) => [(cA1, .byte)]) u) A t) A) (by decide) (Nat.le_of_ble_eq_true rfl) (fun p e s m below meth c A ls hx hb hr hml hown ht hlk hnm hA hK hP hD hX hl => by
    have hS : va_S A s.heap s.heap [] := va_S.rf
    have hl : lv_has ls 1 [(0, .ref h0)] := hl
    refine lv_aload_n hx hb d_E_init_0 rfl (lv_at hl 0 rfl) ?_
    refine W.objInit hx hb hown (ht _ zm_117) (ht _ zm_87) (ht _ zm_88) rfl (by rw [hml]; exact hl.1) rfl d_E_init_1 (Nat.le_of_ble_eq_true rfl) (Nat.le_of_ble_eq_true rfl) ?_
    refine W.eq (g2 := F0 m 4 ls []) rfl ?_
    refine lv_aload_n hx hb d_E_init_4 rfl (lv_at hl 0 rfl) ?_
    refine lv_bipush (v := 60) hx hb d_E_init_5 (by decide) ?_
    refine va_newa (atype := .byte) (ty := .byte) (n := 60) (N' := 60) (a0 := (60, .inl (fun _ => 0))) hx hb (ht _ zm_105) rfl hK hP hD hS hA (fun _ => rfl) (by decide) (by decide) (by decide) (Nat.le_of_ble_eq_true rfl) (Nat.le_of_ble_eq_true rfl) d_E_init_7 (fun q1 cA2 H hK hP hD hS => ?_)
    have hP : va_P D zcl [(h0, .inr (7, [.null, .int 0, .int 0, .int 0, .int 0, .long 0, .int 0, .int 0, .int 0, .int 0, .int 0, .int 0])), (q1, .inl (cA2, 60, .inl (fun _ => 0)))] H := hP
    have hD : va_D A [(h0, .inr (7, [.null, .int 0, .int 0, .int 0, .int 0, .long 0, .int 0, .int 0, .int 0, .int 0, .int 0, .int 0])), (q1, .inl (cA2, 60, .inl (fun _ => 0)))] := hD
    have hK : va_K D zcl [(cA2, .byte)] s := hK
    refine va_putF (ci := 7) (v := .ref q1) (ty := .array .byte) (C := "ZipGuard$Entry") (T := F_E) (N := 12) hx hb ht zi_E ty_E tk_E nm_E hown hK hP hD hS 0 rfl rfl 0 (by decide) (ht _ zm_118) (fun _ h9 => h9) rfl hnm rfl (by decide +kernel) rfl rfl (Nat.le_of_ble_eq_true rfl) d_E_init_9 (fun H locs hP hD hS => ?_)
    have hP : va_P D zcl [(h0, .inr (7, [.ref q1, .int 0, .int 0, .int 0, .int 0, .long 0, .int 0, .int 0, .int 0, .int 0, .int 0, .int 0])), (q1, .inl (cA2, 60, .inl (fun _ => 0)))] H := hP
    have hD : va_D A [(h0, .inr (7, [.ref q1, .int 0, .int 0, .int 0, .int 0, .long 0, .int 0, .int 0, .int 0, .int 0, .int 0, .int 0])), (q1, .inl (cA2, 60, .inl (fun _ => 0)))] := hD
    exact zretv hx hb hr hlk hK hP hD hS (q1, cA2) [0, 1] [0] rfl (by decide) rfl (trivial) (Nat.le_of_ble_eq_true rfl) (Nat.le_of_ble_eq_true rfl) d_E_init_12)
set_option maxHeartbeats 4000000 in
set_option maxRecDepth 100000 in
theorem c_B_init (l : Launch) (D : va_G) (sz : Nat) (h0 : Nat) (h1 : Nat) (b : Nat) (n : Int32)  : Met l y_B_init (Cond.code y_B_init prog_2_method_1_code 2 (Option.none : Option Jvm.ClassFile.FieldType) :: zt) { frames := 1, cells := 0, slots := 0, locals := 12 } (zPc [.ref h0, .ref h1] D [(h0, .inr (5, [.null, .int 0, .int 0, .int 0])), (h1, .inr (1, [.ref b, .int n]))] [] sz (fun _ => True)) (va_Qv (fun (_ : Unit) => True) (fun u t => zB D ((fun (_ : Unit) => [(h0, .inr (5, [.ref b, .int 0, .int 0, .int 0])), (h1, .inr (1, [.ref b, .int n]))]) u) ((fun (_ : Unit) => []) u) (va_A [(h0, .inr (5, [.null, .int 0, .int 0, .int 0])), (h1, .inr (1, [.ref b, .int n]))] sz) t) (va_A [(h0, .inr (5, [.null, .int 0, .int 0, .int 0])), (h1, .inr (1, [.ref b, .int n]))] sz)) 0 0 (va_A [(h0, .inr (5, [.null, .int 0, .int 0, .int 0])), (h1, .inr (1, [.ref b, .int n]))] sz) :=
  zMet (Qf := fun A => va_Qv (fun (_ : Unit) => True) (fun u t => zB D ((fun (_ : Unit) => [(h0, .inr (5, [.ref b, .int 0, .int 0, .int 0])), (h1, .inr (1, [.ref b, .int n]))]) u) ((fun (_ : Unit) => []) u) A t) A) (by decide) (Nat.le_of_ble_eq_true rfl) (fun p e s m below meth c A ls hx hb hr hml hown ht hlk hnm hA hK hP hD hX hl => by
    have hS : va_S A s.heap s.heap [] := va_S.rf
    have hl : lv_has ls 2 [(0, .ref h0), (1, .ref h1)] := hl
    refine lv_aload_n hx hb d_B_init_0 rfl (lv_at hl 0 rfl) ?_
    refine W.objInit hx hb hown (ht _ zm_236) (ht _ zm_87) (ht _ zm_88) rfl (by rw [hml]; exact hl.1) rfl d_B_init_1 (Nat.le_of_ble_eq_true rfl) (Nat.le_of_ble_eq_true rfl) ?_
    refine W.eq (g2 := F0 m 4 ls []) rfl ?_
    refine lv_aload_n hx hb d_B_init_4 rfl (lv_at hl 0 rfl) ?_
    refine lv_aload_n hx hb d_B_init_5 rfl (lv_at hl 1 rfl) ?_
    refine va_get (ci := 1) (C := "ZipGuard$Tape") (T := F_T) (N := 2) hx hb ht zi_T hown hK hP 1 rfl rfl 0 (by decide) (ht _ zm_95) (fun _ h9 => h9) rfl d_B_init_6 ?_
    refine va_putF (ci := 5) (v := .ref b) (ty := .array .byte) (C := "ZipGuard$BitReader") (T := F_B) (N := 4) hx hb ht zi_B ty_B tk_B nm_B hown hK hP hD hS 0 rfl rfl 0 (by decide) (ht _ zm_237) (fun _ h9 => h9) rfl hnm rfl (by decide +kernel) rfl rfl (Nat.le_of_ble_eq_true rfl) d_B_init_9 (fun H locs hP hD hS => ?_)
    have hP : va_P D zcl [(h0, .inr (5, [.ref b, .int 0, .int 0, .int 0])), (h1, .inr (1, [.ref b, .int n]))] H := hP
    have hD : va_D A [(h0, .inr (5, [.ref b, .int 0, .int 0, .int 0])), (h1, .inr (1, [.ref b, .int n]))] := hD
    exact zretv hx hb hr hlk hK hP hD hS () [0, 1] [] rfl (by decide) rfl (trivial) (Nat.le_of_ble_eq_true rfl) (Nat.le_of_ble_eq_true rfl) d_B_init_12)
end
section
/-! pure rows: filling, counting -/
def zfill (f : Nat → Int32) (v : Int32) (a k : Nat) : Nat → Int32 := fun i => if a ≤ i ∧ i < k then v else f i
theorem zfill_0 (f : Nat → Int32) (v : Int32) (a : Nat) : zfill f v a a = f := by
  funext i
  unfold zfill
  rw [if_neg (by omega)]
theorem zfill_s (f : Nat → Int32) (v : Int32) {a k : Nat} (h : a ≤ k) : upd (zfill f v a k) k v = zfill f v a (k + 1) := by
  funext i
  by_cases hi : i = k
  · subst hi
    rw [pk_us]
    unfold zfill
    rw [if_pos (by omega)]
  · rw [pk_un hi]
    unfold zfill
    by_cases h1 : a ≤ i ∧ i < k
    · rw [if_pos h1, if_pos (by omega)]
    · rw [if_neg h1, if_neg (by omega)]
/-- how many of the first j have the length l -/
def zcn (d : Nat → Nat) : Nat → Nat → Nat
  | 0, _ => 0
  | j + 1, l => zcn d j l + if d j = l then 1 else 0
/-- how many of the first n have a length from 1 to below m -/
def zst (d : Nat → Nat) (n : Nat) : Nat → Nat
  | 0 => 0
  | m + 1 => zst d n m + if m = 0 then 0 else zcn d n m
theorem zst_s (d : Nat → Nat) (n : Nat) : ∀ m, zst d (n + 1) m = zst d n m + if 1 ≤ d n ∧ d n < m then 1 else 0
  | 0 => by simp [zst]
  | m + 1 => by
    have ih := zst_s d n m
    simp only [zst, zcn]
    rw [ih]
    by_cases h0 : m = 0
    · subst h0
      simp
      omega
    · simp only [h0, if_false]
      split <;> split <;> split <;> omega
theorem zst_0 (d : Nat → Nat) : ∀ m, zst d 0 m = 0
  | 0 => rfl
  | m + 1 => by simp [zst, zcn, zst_0 d m]
theorem zst_le (d : Nat → Nat) (m : Nat) : ∀ n, zst d n m ≤ n
  | 0 => by rw [zst_0]; exact Nat.le_refl _
  | n + 1 => by
    have h := zst_le d m n
    rw [zst_s]
    split <;> omega
theorem zcn_mono (d : Nat → Nat) (l : Nat) {j : Nat} : ∀ {n}, j ≤ n → zcn d j l ≤ zcn d n l
  | 0, h => by
    have : j = 0 := by omega
    subst this; exact Nat.le_refl _
  | n + 1, h => by
    by_cases hj : j = n + 1
    · subst hj; exact Nat.le_refl _
    · have := zcn_mono d l (n := n) (j := j) (by omega)
      simp only [zcn]
      omega
theorem zcn_lt (d : Nat → Nat) {k n : Nat} (h : k < n) : zcn d k (d k) < zcn d n (d k) := by
  have h1 := zcn_mono d (d k) (j := k + 1) (n := n) (by omega)
  simp only [zcn, if_true] at h1
  omega
theorem zst_up (d : Nat → Nat) (n : Nat) {l : Nat} (h1 : 1 ≤ l) : ∀ {m}, l < m → zst d n l + zcn d n l ≤ zst d n m
  | 0, h => by omega
  | m + 1, h => by
    by_cases hm : l = m
    · subst hm
      simp only [zst]
      rw [if_neg (by omega)]
      exact Nat.le_refl _
    · have := zst_up d n h1 (m := m) (by omega)
      simp only [zst]
      omega
/-- a place in the row of symbols is in the row -/
theorem zst_in (d : Nat → Nat) {k n : Nat} (h : k < n) (h1 : 1 ≤ d k) (h2 : d k ≤ 15) : zst d n (d k) + zcn d k (d k) < n := by
  have a := zcn_lt d h
  have b := zst_up d n h1 (m := 16) (by omega)
  have e := zst_le d 16 n
  omega
theorem zcn_le (d : Nat → Nat) (l : Nat) : ∀ n, zcn d n l ≤ n
  | 0 => Nat.le_refl _
  | n + 1 => by
    have := zcn_le d l n
    simp only [zcn]
    split <;> omega
theorem zupd_eq {f : Nat → Int32} {i : Nat} {v : Int32} {g : Nat → Int32} (h : g i = v) (hn : ∀ j, j ≠ i → g j = f j) : upd f i v = g := by
  funext j
  by_cases hj : j = i
  · subst hj; rw [pk_us, h]
  · rw [pk_un hj, hn j hj]
end
section
set_option maxRecDepth 100000 in
theorem zm_73 : Jvm.Cond.initialized "java/util/Arrays" ∈ zt := zt_m1 (List.mem_of_getElem? (i := 9) rfl)
set_option maxRecDepth 100000 in
theorem zm_276 : Jvm.Cond.methodLink "java/util/Arrays" (13 : Nat) ({ cls := "java/util/Arrays", name := "rangeCheck", desc := "(III)V" } : Jvm.MethodName) ∈ zt := zt_m1 (List.mem_of_getElem? (i := 212) rfl)
set_option maxRecDepth 100000 in
theorem zm_277 : Jvm.Cond.static ({ cls := "java/util/Arrays", name := "rangeCheck", desc := "(III)V" } : Jvm.MethodName) ∈ zt := zt_m1 (List.mem_of_getElem? (i := 213) rfl)
set_option maxRecDepth 100000 in
theorem zm_278 : Jvm.Cond.code ({ cls := "java/util/Arrays", name := "rangeCheck", desc := "(III)V" } : Jvm.MethodName) prog_27_method_30_code (3 : Nat) (Option.none : Option Jvm.ClassFile.FieldType) ∈ zt := zt_m1 (List.mem_of_getElem? (i := 214) rfl)
theorem d_J_fill_aIIIIV_0 : decode prog_27_method_104_code 0 = .ok (.aload_n 0, 1) := by decide +kernel
theorem d_J_fill_aIIIIV_1 : decode prog_27_method_104_code 1 = .ok (.arraylength, 1) := by decide +kernel
theorem d_J_fill_aIIIIV_2 : decode prog_27_method_104_code 2 = .ok (.iload_n 1, 1) := by decide +kernel
theorem d_J_fill_aIIIIV_3 : decode prog_27_method_104_code 3 = .ok (.iload_n 2, 1) := by decide +kernel
theorem d_J_fill_aIIIIV_4 : decode prog_27_method_104_code 4 = .ok (.invokestatic 13, 3) := by decide +kernel
theorem d_J_fill_aIIIIV_7 : decode prog_27_method_104_code 7 = .ok (.iload_n 1, 1) := by decide +kernel
theorem d_J_fill_aIIIIV_8 : decode prog_27_method_104_code 8 = .ok (.istore 4, 2) := by decide +kernel
theorem d_J_fill_aIIIIV_10 : decode prog_27_method_104_code 10 = .ok (.iload 4, 2) := by decide +kernel
theorem d_J_fill_aIIIIV_12 : decode prog_27_method_104_code 12 = .ok (.iload_n 2, 1) := by decide +kernel
theorem d_J_fill_aIIIIV_13 : decode prog_27_method_104_code 13 = .ok (.if_icmp .ge 14, 3) := by decide +kernel
theorem d_J_fill_aIIIIV_16 : decode prog_27_method_104_code 16 = .ok (.aload_n 0, 1) := by decide +kernel
theorem d_J_fill_aIIIIV_17 : decode prog_27_method_104_code 17 = .ok (.iload 4, 2) := by decide +kernel
theorem d_J_fill_aIIIIV_19 : decode prog_27_method_104_code 19 = .ok (.iload_n 3, 1) := by decide +kernel
theorem d_J_fill_aIIIIV_20 : decode prog_27_method_104_code 20 = .ok (.iastore, 1) := by decide +kernel
theorem d_J_fill_aIIIIV_21 : decode prog_27_method_104_code 21 = .ok (.iinc 4 1, 3) := by decide +kernel
theorem d_J_fill_aIIIIV_24 : decode prog_27_method_104_code 24 = .ok (.goto (-14), 3) := by decide +kernel
theorem d_J_fill_aIIIIV_27 : decode prog_27_method_104_code 27 = .ok (.return_, 1) := by decide +kernel
theorem d_J_fill_aIIV_0 : decode prog_27_method_103_code 0 = .ok (.iconst 0, 1) := by decide +kernel
theorem d_J_fill_aIIV_1 : decode prog_27_method_103_code 1 = .ok (.istore_n 2, 1) := by decide +kernel
theorem d_J_fill_aIIV_2 : decode prog_27_method_103_code 2 = .ok (.aload_n 0, 1) := by decide +kernel
theorem d_J_fill_aIIV_3 : decode prog_27_method_103_code 3 = .ok (.arraylength, 1) := by decide +kernel
theorem d_J_fill_aIIV_4 : decode prog_27_method_103_code 4 = .ok (.istore_n 3, 1) := by decide +kernel
theorem d_J_fill_aIIV_5 : decode prog_27_method_103_code 5 = .ok (.iload_n 2, 1) := by decide +kernel
theorem d_J_fill_aIIV_6 : decode prog_27_method_103_code 6 = .ok (.iload_n 3, 1) := by decide +kernel
theorem d_J_fill_aIIV_7 : decode prog_27_method_103_code 7 = .ok (.if_icmp .ge 13, 3) := by decide +kernel
theorem d_J_fill_aIIV_10 : decode prog_27_method_103_code 10 = .ok (.aload_n 0, 1) := by decide +kernel
theorem d_J_fill_aIIV_11 : decode prog_27_method_103_code 11 = .ok (.iload_n 2, 1) := by decide +kernel
theorem d_J_fill_aIIV_12 : decode prog_27_method_103_code 12 = .ok (.iload_n 1, 1) := by decide +kernel
theorem d_J_fill_aIIV_13 : decode prog_27_method_103_code 13 = .ok (.iastore, 1) := by decide +kernel
theorem d_J_fill_aIIV_14 : decode prog_27_method_103_code 14 = .ok (.iinc 2 1, 3) := by decide +kernel
theorem d_J_fill_aIIV_17 : decode prog_27_method_103_code 17 = .ok (.goto (-12), 3) := by decide +kernel
theorem d_J_fill_aIIV_20 : decode prog_27_method_103_code 20 = .ok (.return_, 1) := by decide +kernel
theorem d_J_rangeCheck_0 : decode prog_27_method_30_code 0 = .ok (.iload_n 1, 1) := by decide +kernel
theorem d_J_rangeCheck_1 : decode prog_27_method_30_code 1 = .ok (.iload_n 2, 1) := by decide +kernel
theorem d_J_rangeCheck_2 : decode prog_27_method_30_code 2 = .ok (.if_icmp .le 44, 3) := by decide +kernel
theorem d_J_rangeCheck_46 : decode prog_27_method_30_code 46 = .ok (.iload_n 1, 1) := by decide +kernel
theorem d_J_rangeCheck_47 : decode prog_27_method_30_code 47 = .ok (.ifCond .ge 12, 3) := by decide +kernel
theorem d_J_rangeCheck_59 : decode prog_27_method_30_code 59 = .ok (.iload_n 2, 1) := by decide +kernel
theorem d_J_rangeCheck_60 : decode prog_27_method_30_code 60 = .ok (.iload_n 0, 1) := by decide +kernel
theorem d_J_rangeCheck_61 : decode prog_27_method_30_code 61 = .ok (.if_icmp .le 12, 3) := by decide +kernel
theorem d_J_rangeCheck_73 : decode prog_27_method_30_code 73 = .ok (.return_, 1) := by decide +kernel
set_option maxHeartbeats 4000000 in
set_option maxRecDepth 100000 in
theorem lp_J_fill_5 {p : Program} {l : Launch} {e : Env} {R : Room} {s : State} {m : MethodId} {args : Array Value} {below : List Frame} {meth : Method} {c : Code} {cells slots : Nat} {Q : State → Prop} {A : Nat → Prop} {D : va_G} (hx : p.tables.exec = Jvm.exec) (hb : c.code = prog_27_method_103_code) (hml : c.maxLocals = 4) (hown : s.vm.findClass "java/util/Arrays" = some m.cls) (ht : ∀ w ∈ zt, w.before args s = true) (hA : ∀ q, s.heap.size ≤ q → A q) (a : Nat) (cA : ClassId) (n : Nat) (f : Nat → Int32) (v : Int32) (hn : n < 2 ^ 31) (hK : va_K D zcl [(cA, .int)] s) 
    (kk : ∀  (H : Heap) (locs : List Loc) (ls : Array Slot), va_P D zcl [(a, .inl (cA, n, .inl (zfill f v 0 n)))] H → va_D A [(a, .inl (cA, n, .inl (zfill f v 0 n)))] → va_S A s.heap H locs → lv_has ls 4 [(3, .int (nI n)), (2, .int (nI n)), (0, .ref a), (1, .int v)] → W p l e R s m args below meth c H locs cells slots Q (F0 m 20 ls [])) :
    ∀ (j : Nat) (k : Nat) (H : Heap) (locs : List Loc) (ls : Array Slot), k + j = n → va_P D zcl [(a, .inl (cA, n, .inl (zfill f v 0 k)))] H → va_D A [(a, .inl (cA, n, .inl (zfill f v 0 k)))] → va_S A s.heap H locs → lv_has ls 4 [(3, .int (nI n)), (2, .int (nI k)), (0, .ref a), (1, .int v)] → W p l e R s m args below meth c H locs cells slots Q (F0 m 5 ls []) := by
  intro j
  induction j with
  | zero =>
    intro k H locs ls hk hP hD hS hl
    refine lv_iload_n hx hb d_J_fill_aIIV_5 rfl (lv_at hl 1 rfl) ?_
    refine lv_iload_n hx hb d_J_fill_aIIV_6 rfl (lv_at hl 0 rfl) ?_
    refine lv_icmp_ge (tgt := 20) hx hb d_J_fill_aIIV_7 (by decide) (fun _ => ?_) (fun h => absurd (nI_le (by omega) (by omega)) h)
    have hk : k = n := by omega
    subst hk
    exact kk H locs ls hP hD hS hl
  | succ j ih =>
    intro k H locs ls hk hP hD hS hl
    refine lv_iload_n hx hb d_J_fill_aIIV_5 rfl (lv_at hl 1 rfl) ?_
    refine lv_iload_n hx hb d_J_fill_aIIV_6 rfl (lv_at hl 0 rfl) ?_
    refine lv_icmp_ge (tgt := 20) hx hb d_J_fill_aIIV_7 (by decide) (fun h => absurd h (nI_ge (by omega) (by omega))) (fun _ => ?_)
    refine lv_aload_n hx hb d_J_fill_aIIV_10 rfl (lv_at hl 2 rfl) ?_
    refine lv_iload_n hx hb d_J_fill_aIIV_11 rfl (lv_at hl 1 rfl) ?_
    refine lv_iload_n hx hb d_J_fill_aIIV_12 rfl (lv_at hl 3 rfl) ?_
    refine va_iast hx hb hK hP hD hS 0 0 rfl rfl (vp_in_nI (by omega) (by omega)) d_J_fill_aIIV_13 (fun H locs hP hD hS => ?_)
    have hP : va_P D zcl [(a, .inl (cA, n, .inl (upd (zfill f v 0 k) (nI k).toNatClampNeg v)))] H := hP
    have hD : va_D A [(a, .inl (cA, n, .inl (upd (zfill f v 0 k) (nI k).toNatClampNeg v)))] := hD
    rw [nI_clamp (by omega), zfill_s f v (Nat.zero_le _)] at hP hD
    refine lv_iinc (k := 1) (v := (nI k) + 1) (lv' := [(2, .int ((nI k) + 1)), (3, .int (nI n)), (0, .ref a), (1, .int v)]) hx hb d_J_fill_aIIV_14 hl rfl rfl (by decide) rfl (fun ls hl => ?_)
    refine lv_goto (tgt := 5) hx hb d_J_fill_aIIV_17 (by decide) ?_
    rw [nI_1] at hl
    exact ih (k + 1) H locs ls (by omega) hP hD hS (lv_sub hl [1, 0, 2, 3] rfl)
set_option maxHeartbeats 4000000 in
set_option maxRecDepth 100000 in
theorem c_J_fill (l : Launch) (D : va_G) (sz : Nat) (a : Nat) (cA : ClassId) (n : Nat) (f : Nat → Int32) (v : Int32) (hn : n < 2 ^ 31) : Met l y_J_fill_aIIV (Cond.code y_J_fill_aIIV prog_27_method_103_code 4 (Option.none : Option Jvm.ClassFile.FieldType) :: zt) { frames := 0, cells := 0, slots := 0, locals := 0 } (zPc [.ref a, .int v] D [(a, .inl (cA, n, .inl f))] [(cA, .int)] sz (fun _ => True)) (va_Qv (fun (_ : Unit) => True) (fun u t => zB D ((fun (_ : Unit) => [(a, .inl (cA, n, .inl (zfill f v 0 n)))]) u) ((fun (_ : Unit) => [(cA, .int)]) u) (va_A [(a, .inl (cA, n, .inl f))] sz) t) (va_A [(a, .inl (cA, n, .inl f))] sz)) 0 0 (va_A [(a, .inl (cA, n, .inl f))] sz) :=
  zMet (Qf := fun A => va_Qv (fun (_ : Unit) => True) (fun u t => zB D ((fun (_ : Unit) => [(a, .inl (cA, n, .inl (zfill f v 0 n)))]) u) ((fun (_ : Unit) => [(cA, .int)]) u) A t) A) (by decide) (Nat.le_of_ble_eq_true rfl) (fun p e s m below meth c A ls hx hb hr hml hown ht hlk hnm hA hK hP hD hX hl => by
    have hS : va_S A s.heap s.heap [] := va_S.rf
    have hl : lv_has ls 4 [(0, .ref a), (1, .int v)] := hl
    refine lv_iconst (v := 0) hx hb d_J_fill_aIIV_0 (by decide) ?_
    refine lv_istore_n (lv' := [(2, .int 0), (0, .ref a), (1, .int v)]) hx hb d_J_fill_aIIV_1 rfl hl (by decide) rfl (fun ls hl => ?_)
    refine lv_aload_n hx hb d_J_fill_aIIV_2 rfl (lv_at hl 1 rfl) ?_
    refine va_alen (v := nI n) hx hb hK hP 0 0 rfl rfl rfl d_J_fill_aIIV_3 ?_
    refine lv_istore_n (lv' := [(3, .int (nI n)), (2, .int 0), (0, .ref a), (1, .int v)]) hx hb d_J_fill_aIIV_4 rfl hl (by decide) rfl (fun ls hl => ?_)
    rw [← zfill_0 f v 0] at hP hD
    have hl : lv_has ls 4 [(3, .int (nI n)), (2, .int (nI 0)), (0, .ref a), (1, .int v)] := hl
    refine lp_J_fill_5 hx hb hml hown ht hA a cA n f v hn hK (fun H locs ls hP hD hS hl => ?_) n 0 s.heap [] ls (by omega) hP hD hS hl
    exact zretv hx hb hr hlk hK hP hD hS () [0] [0] rfl (by decide) rfl (trivial) (Nat.le_of_ble_eq_true rfl) (Nat.le_of_ble_eq_true rfl) d_J_fill_aIIV_20)
set_option maxHeartbeats 4000000 in
set_option maxRecDepth 100000 in
theorem c_J_rc (l : Launch) (D : va_G) (sz : Nat) (n : Nat) (x : Nat) (y : Nat) (h1 : x ≤ y) (h2 : y ≤ n) (hn : n < 2 ^ 31) : Met l y_J_rangeCheck (Cond.code y_J_rangeCheck prog_27_method_30_code 3 (Option.none : Option Jvm.ClassFile.FieldType) :: zt) { frames := 0, cells := 0, slots := 0, locals := 0 } (zPc [.int (nI n), .int (nI x), .int (nI y)] D [] [] sz (fun _ => True)) (va_Qv (fun (_ : Unit) => True) (fun u t => zB D ((fun (_ : Unit) => []) u) ((fun (_ : Unit) => []) u) (va_A [] sz) t) (va_A [] sz)) 0 0 (va_A [] sz) :=
  zMet (Qf := fun A => va_Qv (fun (_ : Unit) => True) (fun u t => zB D ((fun (_ : Unit) => []) u) ((fun (_ : Unit) => []) u) A t) A) (by decide) (Nat.le_of_ble_eq_true rfl) (fun p e s m below meth c A ls hx hb hr hml hown ht hlk hnm hA hK hP hD hX hl => by
    have hS : va_S A s.heap s.heap [] := va_S.rf
    have hl : lv_has ls 3 [(0, .int (nI n)), (1, .int (nI x)), (2, .int (nI y))] := hl
    refine lv_iload_n hx hb d_J_rangeCheck_0 rfl (lv_at hl 1 rfl) ?_
    refine lv_iload_n hx hb d_J_rangeCheck_1 rfl (lv_at hl 2 rfl) ?_
    refine lv_icmp_le (tgt := 46) hx hb d_J_rangeCheck_2 (by decide) (fun _ => ?_) (fun h => absurd (nI_le (by omega) (by omega)) h)
    refine lv_iload_n hx hb d_J_rangeCheck_46 rfl (lv_at hl 1 rfl) ?_
    refine lv_if_ge (tgt := 59) hx hb d_J_rangeCheck_47 (by decide) (fun _ => ?_) (fun h => absurd (nI_pos' (by omega)) h)
    refine lv_iload_n hx hb d_J_rangeCheck_59 rfl (lv_at hl 2 rfl) ?_
    refine lv_iload_n hx hb d_J_rangeCheck_60 rfl (lv_at hl 0 rfl) ?_
    refine lv_icmp_le (tgt := 73) hx hb d_J_rangeCheck_61 (by decide) (fun _ => ?_) (fun h => absurd (nI_le (by omega) (by omega)) h)
    exact zretv hx hb hr hlk hK hP hD hS () [] [] rfl (by decide) rfl (trivial) (Nat.le_of_ble_eq_true rfl) (Nat.le_of_ble_eq_true rfl) d_J_rangeCheck_73)
set_option maxHeartbeats 4000000 in
set_option maxRecDepth 100000 in
theorem lp_J_fillr_10 {p : Program} {l : Launch} {e : Env} {R : Room} {s : State} {m : MethodId} {args : Array Value} {below : List Frame} {meth : Method} {c : Code} {cells slots : Nat} {Q : State → Prop} {A : Nat → Prop} {D : va_G} (hx : p.tables.exec = Jvm.exec) (hb : c.code = prog_27_method_104_code) (hml : c.maxLocals = 5) (hown : s.vm.findClass "java/util/Arrays" = some m.cls) (ht : ∀ w ∈ zt, w.before args s = true) (hA : ∀ q, s.heap.size ≤ q → A q) (a : Nat) (cA : ClassId) (n : Nat) (f : Nat → Int32) (v : Int32) (x : Nat) (y : Nat) (hy : y ≤ n) (hn : n < 2 ^ 31) (hK : va_K D zcl [(cA, .int)] s) 
    (kk : ∀  (H : Heap) (locs : List Loc) (ls : Array Slot), va_P D zcl [(a, .inl (cA, n, .inl (zfill f v x y)))] H → va_D A [(a, .inl (cA, n, .inl (zfill f v x y)))] → va_S A s.heap H locs → lv_has ls 5 [(4, .int (nI y)), (0, .ref a), (1, .int (nI x)), (2, .int (nI y)), (3, .int v)] → W p l e R s m args below meth c H locs cells slots Q (F0 m 27 ls [])) :
    ∀ (j : Nat) (k : Nat) (H : Heap) (locs : List Loc) (ls : Array Slot), k + j = y → x ≤ k → va_P D zcl [(a, .inl (cA, n, .inl (zfill f v x k)))] H → va_D A [(a, .inl (cA, n, .inl (zfill f v x k)))] → va_S A s.heap H locs → lv_has ls 5 [(4, .int (nI k)), (0, .ref a), (1, .int (nI x)), (2, .int (nI y)), (3, .int v)] → W p l e R s m args below meth c H locs cells slots Q (F0 m 10 ls []) := by
  intro j
  induction j with
  | zero =>
    intro k H locs ls hk hx9 hP hD hS hl
    refine lv_iload hx hb d_J_fill_aIIIIV_10 (lv_at hl 0 rfl) ?_
    refine lv_iload_n hx hb d_J_fill_aIIIIV_12 rfl (lv_at hl 3 rfl) ?_
    refine lv_icmp_ge (tgt := 27) hx hb d_J_fill_aIIIIV_13 (by decide) (fun _ => ?_) (fun h => absurd (nI_le (by omega) (by omega)) h)
    have hk : k = y := by omega
    subst hk
    exact kk H locs ls hP hD hS hl
  | succ j ih =>
    intro k H locs ls hk hx9 hP hD hS hl
    refine lv_iload hx hb d_J_fill_aIIIIV_10 (lv_at hl 0 rfl) ?_
    refine lv_iload_n hx hb d_J_fill_aIIIIV_12 rfl (lv_at hl 3 rfl) ?_
    refine lv_icmp_ge (tgt := 27) hx hb d_J_fill_aIIIIV_13 (by decide) (fun h => absurd h (nI_ge (by omega) (by omega))) (fun _ => ?_)
    refine lv_aload_n hx hb d_J_fill_aIIIIV_16 rfl (lv_at hl 1 rfl) ?_
    refine lv_iload hx hb d_J_fill_aIIIIV_17 (lv_at hl 0 rfl) ?_
    refine lv_iload_n hx hb d_J_fill_aIIIIV_19 rfl (lv_at hl 4 rfl) ?_
    refine va_iast hx hb hK hP hD hS 0 0 rfl rfl (vp_in_nI (by omega) (by omega)) d_J_fill_aIIIIV_20 (fun H locs hP hD hS => ?_)
    have hP : va_P D zcl [(a, .inl (cA, n, .inl (upd (zfill f v x k) (nI k).toNatClampNeg v)))] H := hP
    have hD : va_D A [(a, .inl (cA, n, .inl (upd (zfill f v x k) (nI k).toNatClampNeg v)))] := hD
    rw [nI_clamp (by omega), zfill_s f v hx9] at hP hD
    refine lv_iinc (k := 0) (v := (nI k) + 1) (lv' := [(4, .int ((nI k) + 1)), (0, .ref a), (1, .int (nI x)), (2, .int (nI y)), (3, .int v)]) hx hb d_J_fill_aIIIIV_21 hl rfl rfl (by decide) rfl (fun ls hl => ?_)
    refine lv_goto (tgt := 10) hx hb d_J_fill_aIIIIV_24 (by decide) ?_
    rw [nI_1] at hl
    exact ih (k + 1) H locs ls (by omega) (by omega) hP hD hS hl
set_option maxHeartbeats 4000000 in
set_option maxRecDepth 100000 in
theorem c_J_fillr (l : Launch) (D : va_G) (sz : Nat) (a : Nat) (cA : ClassId) (n : Nat) (f : Nat → Int32) (x : Nat) (y : Nat) (v : Int32) (h1 : x ≤ y) (h2 : y ≤ n) (hn : n < 2 ^ 31) : Met l y_J_fill_aIIIIV (Cond.code y_J_fill_aIIIIV prog_27_method_104_code 5 (Option.none : Option Jvm.ClassFile.FieldType) :: zt) { frames := 1, cells := 0, slots := 0, locals := 22 } (zPc [.ref a, .int (nI x), .int (nI y), .int v] D [(a, .inl (cA, n, .inl f))] [(cA, .int)] sz (fun _ => True)) (va_Qv (fun (_ : Unit) => True) (fun u t => zB D ((fun (_ : Unit) => [(a, .inl (cA, n, .inl (zfill f v x y)))]) u) ((fun (_ : Unit) => [(cA, .int)]) u) (va_A [(a, .inl (cA, n, .inl f))] sz) t) (va_A [(a, .inl (cA, n, .inl f))] sz)) 0 0 (va_A [(a, .inl (cA, n, .inl f))] sz) :=
  zMet (Qf := fun A => va_Qv (fun (_ : Unit) => True) (fun u t => zB D ((fun (_ : Unit) => [(a, .inl (cA, n, .inl (zfill f v x y)))]) u) ((fun (_ : Unit) => [(cA, .int)]) u) A t) A) (by decide) (Nat.le_of_ble_eq_true rfl) (fun p e s m below meth c A ls hx hb hr hml hown ht hlk hnm hA hK hP hD hX hl => by
    have hS : va_S A s.heap s.heap [] := va_S.rf
    have hl : lv_has ls 5 [(0, .ref a), (1, .int (nI x)), (2, .int (nI y)), (3, .int v)] := hl
    refine lv_aload_n hx hb d_J_fill_aIIIIV_0 rfl (lv_at hl 0 rfl) ?_
    refine va_alen (v := nI n) hx hb hK hP 0 0 rfl rfl rfl d_J_fill_aIIIIV_1 ?_
    refine lv_iload_n hx hb d_J_fill_aIIIIV_2 rfl (lv_at hl 1 rfl) ?_
    refine lv_iload_n hx hb d_J_fill_aIIIIV_3 rfl (lv_at hl 2 rfl) ?_
    refine zjv (wr := [(a, .inl (cA, n, .inl f))]) (va_runS (As := [.int (nI n), .int (nI x), .int (nI y)]) (rest := []) ⟨hx, hb, hml, hown, ht⟩ (c_J_rc l D _ n x y h1 h2 hn) (cwS 3 ht (zt_goodS zm_276 zm_277 zm_73 zm_278) rfl rfl rfl (by decide +kernel) ⟨Nat.le_of_ble_eq_true rfl, Nat.le_of_ble_eq_true rfl⟩) (zpre zBlind_t hK hP hD [] [] rfl (by decide) rfl (fun _ _ _ => trivial)) rfl rfl hl.1 rfl (lv_room (Nat.le_of_ble_eq_true rfl)) d_J_fill_aIIIIV_4 ⟨Nat.le_of_ble_eq_true rfl, Nat.le_of_ble_eq_true rfl⟩) hK hP hD hS hA [] [0] rfl rfl (by decide) (by decide) (fun u H locs hp2 hP hD hK hS => ?_)
    have hP : va_P D zcl [(a, .inl (cA, n, .inl f))] H := hP
    have hD : va_D A [(a, .inl (cA, n, .inl f))] := hD
    have hK : va_K D zcl [(cA, .int)] s := hK
    refine lv_iload_n hx hb d_J_fill_aIIIIV_7 rfl (lv_at hl 1 rfl) ?_
    refine lv_istore (lv' := [(4, .int (nI x)), (0, .ref a), (1, .int (nI x)), (2, .int (nI y)), (3, .int v)]) hx hb d_J_fill_aIIIIV_8 hl (by decide) rfl (fun ls hl => ?_)
    rw [← zfill_0 f v x] at hP hD
    refine lp_J_fillr_10 hx hb hml hown ht hA a cA n f v x y h2 hn hK (fun H locs ls hP hD hS hl => ?_) (y - x) x H locs ls (by omega) (by omega) hP hD hS hl
    exact zretv hx hb hr hlk hK hP hD hS () [0] [0] rfl (by decide) rfl (trivial) (Nat.le_of_ble_eq_true rfl) (Nat.le_of_ble_eq_true rfl) d_J_fill_aIIIIV_27)
end
section
theorem zst_mono (d : Nat → Nat) (n : Nat) {a : Nat} : ∀ {b}, a ≤ b → zst d n a ≤ zst d n b
  | 0, h => by
    have : a = 0 := by omega
    subst this; exact Nat.le_refl _
  | b + 1, h => by
    by_cases hb : a = b + 1
    · subst hb; exact Nat.le_refl _
    · have := zst_mono d n (a := a) (b := b) (by omega)
      simp only [zst]
      omega
/-- places of different symbols differ -/
theorem zst_inj (d : Nat → Nat) {i k n : Nat} (hi : i < k) (hk : k < n) (h1 : 1 ≤ d i) (h2 : 1 ≤ d k) : zst d n (d i) + zcn d i (d i) ≠ zst d n (d k) + zcn d k (d k) := by
  by_cases he : d i = d k
  · have h3 : zcn d i (d i) < zcn d k (d i) := zcn_lt d hi
    rw [← he]
    omega
  · have hiN := zcn_lt d (k := i) (n := n) (by omega)
    have hkN := zcn_lt d (k := k) (n := n) hk
    by_cases hl : d i < d k
    · have := zst_up d n h1 (m := d k) hl
      omega
    · have := zst_up d n h2 (m := d i) (by omega)
      omega
end
section
set_option maxRecDepth 100000 in
theorem zm_255 : Jvm.Cond.methodLink "ZipGuard$CodeSet" (1 : Nat) ({ cls := "java/lang/Object", name := "<init>", desc := "()V" } : Jvm.MethodName) ∈ zt := zt_m1 (List.mem_of_getElem? (i := 191) rfl)
set_option maxRecDepth 100000 in
theorem zm_256 : Jvm.Cond.fieldLink "ZipGuard$CodeSet" (9 : Nat) "ZipGuard$CodeSet" "countOfLength" "[I" ∈ zt := zt_m1 (List.mem_of_getElem? (i := 192) rfl)
set_option maxRecDepth 100000 in
theorem zm_257 : Jvm.Cond.fieldLink "ZipGuard$CodeSet" (13 : Nat) "ZipGuard$CodeSet" "nextOfLength" "[I" ∈ zt := zt_m1 (List.mem_of_getElem? (i := 193) rfl)
set_option maxRecDepth 100000 in
theorem zm_258 : Jvm.Cond.fieldLink "ZipGuard$CodeSet" (16 : Nat) "ZipGuard$CodeSet" "symbols" "[I" ∈ zt := zt_m1 (List.mem_of_getElem? (i := 194) rfl)
set_option maxRecDepth 100000 in
theorem zm_259 : Jvm.Cond.fieldLink "ZipGuard$CodeSet" (19 : Nat) "ZipGuard$CodeSet" "codes" "I" ∈ zt := zt_m1 (List.mem_of_getElem? (i := 195) rfl)
set_option maxRecDepth 100000 in
theorem zm_269 : Jvm.Cond.arrayClass Jvm.ClassFile.FieldType.int ∈ zt := zt_m1 (List.mem_of_getElem? (i := 205) rfl)
set_option maxRecDepth 100000 in
theorem zm_367 : Jvm.Cond.methodLink "ZipGuard$CodeSet" (23 : Nat) ({ cls := "java/util/Arrays", name := "fill", desc := "([II)V" } : Jvm.MethodName) ∈ zt := zt_m3 (List.mem_of_getElem? (i := 39) rfl)
set_option maxRecDepth 100000 in
theorem zm_368 : Jvm.Cond.static ({ cls := "java/util/Arrays", name := "fill", desc := "([II)V" } : Jvm.MethodName) ∈ zt := zt_m3 (List.mem_of_getElem? (i := 40) rfl)
set_option maxRecDepth 100000 in
theorem zm_369 : Jvm.Cond.code ({ cls := "java/util/Arrays", name := "fill", desc := "([II)V" } : Jvm.MethodName) prog_27_method_103_code (4 : Nat) (Option.none : Option Jvm.ClassFile.FieldType) ∈ zt := zt_m3 (List.mem_of_getElem? (i := 41) rfl)
theorem d_C_build_0 : decode prog_3_method_2_code 0 = .ok (.aload_n 0, 1) := by decide +kernel
theorem d_C_build_1 : decode prog_3_method_2_code 1 = .ok (.getfield 9, 3) := by decide +kernel
theorem d_C_build_4 : decode prog_3_method_2_code 4 = .ok (.iconst 0, 1) := by decide +kernel
theorem d_C_build_5 : decode prog_3_method_2_code 5 = .ok (.invokestatic 23, 3) := by decide +kernel
theorem d_C_build_8 : decode prog_3_method_2_code 8 = .ok (.iconst 0, 1) := by decide +kernel
theorem d_C_build_9 : decode prog_3_method_2_code 9 = .ok (.istore 4, 2) := by decide +kernel
theorem d_C_build_11 : decode prog_3_method_2_code 11 = .ok (.iload 4, 2) := by decide +kernel
theorem d_C_build_13 : decode prog_3_method_2_code 13 = .ok (.iload_n 3, 1) := by decide +kernel
theorem d_C_build_14 : decode prog_3_method_2_code 14 = .ok (.if_icmp .ge 24, 3) := by decide +kernel
theorem d_C_build_17 : decode prog_3_method_2_code 17 = .ok (.aload_n 0, 1) := by decide +kernel
theorem d_C_build_18 : decode prog_3_method_2_code 18 = .ok (.getfield 9, 3) := by decide +kernel
theorem d_C_build_21 : decode prog_3_method_2_code 21 = .ok (.aload_n 1, 1) := by decide +kernel
theorem d_C_build_22 : decode prog_3_method_2_code 22 = .ok (.iload_n 2, 1) := by decide +kernel
theorem d_C_build_23 : decode prog_3_method_2_code 23 = .ok (.iload 4, 2) := by decide +kernel
theorem d_C_build_25 : decode prog_3_method_2_code 25 = .ok (.iadd, 1) := by decide +kernel
theorem d_C_build_26 : decode prog_3_method_2_code 26 = .ok (.iaload, 1) := by decide +kernel
theorem d_C_build_27 : decode prog_3_method_2_code 27 = .ok (.dup2, 1) := by decide +kernel
theorem d_C_build_28 : decode prog_3_method_2_code 28 = .ok (.iaload, 1) := by decide +kernel
theorem d_C_build_29 : decode prog_3_method_2_code 29 = .ok (.iconst 1, 1) := by decide +kernel
theorem d_C_build_30 : decode prog_3_method_2_code 30 = .ok (.iadd, 1) := by decide +kernel
theorem d_C_build_31 : decode prog_3_method_2_code 31 = .ok (.iastore, 1) := by decide +kernel
theorem d_C_build_32 : decode prog_3_method_2_code 32 = .ok (.iinc 4 1, 3) := by decide +kernel
theorem d_C_build_35 : decode prog_3_method_2_code 35 = .ok (.goto (-24), 3) := by decide +kernel
theorem d_C_build_38 : decode prog_3_method_2_code 38 = .ok (.aload_n 0, 1) := by decide +kernel
theorem d_C_build_39 : decode prog_3_method_2_code 39 = .ok (.iconst 0, 1) := by decide +kernel
theorem d_C_build_40 : decode prog_3_method_2_code 40 = .ok (.putfield 19, 3) := by decide +kernel
theorem d_C_build_43 : decode prog_3_method_2_code 43 = .ok (.iconst 1, 1) := by decide +kernel
theorem d_C_build_44 : decode prog_3_method_2_code 44 = .ok (.istore 4, 2) := by decide +kernel
theorem d_C_build_46 : decode prog_3_method_2_code 46 = .ok (.iload 4, 2) := by decide +kernel
theorem d_C_build_48 : decode prog_3_method_2_code 48 = .ok (.bipush 15, 2) := by decide +kernel
theorem d_C_build_50 : decode prog_3_method_2_code 50 = .ok (.if_icmp .gt 36, 3) := by decide +kernel
theorem d_C_build_53 : decode prog_3_method_2_code 53 = .ok (.aload_n 0, 1) := by decide +kernel
theorem d_C_build_54 : decode prog_3_method_2_code 54 = .ok (.getfield 13, 3) := by decide +kernel
theorem d_C_build_57 : decode prog_3_method_2_code 57 = .ok (.iload 4, 2) := by decide +kernel
theorem d_C_build_59 : decode prog_3_method_2_code 59 = .ok (.aload_n 0, 1) := by decide +kernel
theorem d_C_build_60 : decode prog_3_method_2_code 60 = .ok (.getfield 19, 3) := by decide +kernel
theorem d_C_build_63 : decode prog_3_method_2_code 63 = .ok (.iastore, 1) := by decide +kernel
theorem d_C_build_64 : decode prog_3_method_2_code 64 = .ok (.aload_n 0, 1) := by decide +kernel
theorem d_C_build_65 : decode prog_3_method_2_code 65 = .ok (.dup, 1) := by decide +kernel
theorem d_C_build_66 : decode prog_3_method_2_code 66 = .ok (.getfield 19, 3) := by decide +kernel
theorem d_C_build_69 : decode prog_3_method_2_code 69 = .ok (.aload_n 0, 1) := by decide +kernel
theorem d_C_build_70 : decode prog_3_method_2_code 70 = .ok (.getfield 9, 3) := by decide +kernel
theorem d_C_build_73 : decode prog_3_method_2_code 73 = .ok (.iload 4, 2) := by decide +kernel
theorem d_C_build_75 : decode prog_3_method_2_code 75 = .ok (.iaload, 1) := by decide +kernel
theorem d_C_build_76 : decode prog_3_method_2_code 76 = .ok (.iadd, 1) := by decide +kernel
theorem d_C_build_77 : decode prog_3_method_2_code 77 = .ok (.putfield 19, 3) := by decide +kernel
theorem d_C_build_80 : decode prog_3_method_2_code 80 = .ok (.iinc 4 1, 3) := by decide +kernel
theorem d_C_build_83 : decode prog_3_method_2_code 83 = .ok (.goto (-37), 3) := by decide +kernel
theorem d_C_build_86 : decode prog_3_method_2_code 86 = .ok (.iconst 0, 1) := by decide +kernel
theorem d_C_build_87 : decode prog_3_method_2_code 87 = .ok (.istore 4, 2) := by decide +kernel
theorem d_C_build_89 : decode prog_3_method_2_code 89 = .ok (.iload 4, 2) := by decide +kernel
theorem d_C_build_91 : decode prog_3_method_2_code 91 = .ok (.iload_n 3, 1) := by decide +kernel
theorem d_C_build_92 : decode prog_3_method_2_code 92 = .ok (.if_icmp .ge 47, 3) := by decide +kernel
theorem d_C_build_95 : decode prog_3_method_2_code 95 = .ok (.aload_n 1, 1) := by decide +kernel
theorem d_C_build_96 : decode prog_3_method_2_code 96 = .ok (.iload_n 2, 1) := by decide +kernel
theorem d_C_build_97 : decode prog_3_method_2_code 97 = .ok (.iload 4, 2) := by decide +kernel
theorem d_C_build_99 : decode prog_3_method_2_code 99 = .ok (.iadd, 1) := by decide +kernel
theorem d_C_build_100 : decode prog_3_method_2_code 100 = .ok (.iaload, 1) := by decide +kernel
theorem d_C_build_101 : decode prog_3_method_2_code 101 = .ok (.istore 5, 2) := by decide +kernel
theorem d_C_build_103 : decode prog_3_method_2_code 103 = .ok (.iload 5, 2) := by decide +kernel
theorem d_C_build_105 : decode prog_3_method_2_code 105 = .ok (.ifCond .le 28, 3) := by decide +kernel
theorem d_C_build_108 : decode prog_3_method_2_code 108 = .ok (.aload_n 0, 1) := by decide +kernel
theorem d_C_build_109 : decode prog_3_method_2_code 109 = .ok (.getfield 16, 3) := by decide +kernel
theorem d_C_build_112 : decode prog_3_method_2_code 112 = .ok (.aload_n 0, 1) := by decide +kernel
theorem d_C_build_113 : decode prog_3_method_2_code 113 = .ok (.getfield 13, 3) := by decide +kernel
theorem d_C_build_116 : decode prog_3_method_2_code 116 = .ok (.iload 5, 2) := by decide +kernel
theorem d_C_build_118 : decode prog_3_method_2_code 118 = .ok (.iaload, 1) := by decide +kernel
theorem d_C_build_119 : decode prog_3_method_2_code 119 = .ok (.iload 4, 2) := by decide +kernel
theorem d_C_build_121 : decode prog_3_method_2_code 121 = .ok (.iastore, 1) := by decide +kernel
theorem d_C_build_122 : decode prog_3_method_2_code 122 = .ok (.aload_n 0, 1) := by decide +kernel
theorem d_C_build_123 : decode prog_3_method_2_code 123 = .ok (.getfield 13, 3) := by decide +kernel
theorem d_C_build_126 : decode prog_3_method_2_code 126 = .ok (.iload 5, 2) := by decide +kernel
theorem d_C_build_128 : decode prog_3_method_2_code 128 = .ok (.dup2, 1) := by decide +kernel
theorem d_C_build_129 : decode prog_3_method_2_code 129 = .ok (.iaload, 1) := by decide +kernel
theorem d_C_build_130 : decode prog_3_method_2_code 130 = .ok (.iconst 1, 1) := by decide +kernel
theorem d_C_build_131 : decode prog_3_method_2_code 131 = .ok (.iadd, 1) := by decide +kernel
theorem d_C_build_132 : decode prog_3_method_2_code 132 = .ok (.iastore, 1) := by decide +kernel
theorem d_C_build_133 : decode prog_3_method_2_code 133 = .ok (.iinc 4 1, 3) := by decide +kernel
theorem d_C_build_136 : decode prog_3_method_2_code 136 = .ok (.goto (-47), 3) := by decide +kernel
theorem d_C_build_139 : decode prog_3_method_2_code 139 = .ok (.return_, 1) := by decide +kernel
theorem d_C_init_0 : decode prog_3_method_1_code 0 = .ok (.aload_n 0, 1) := by decide +kernel
theorem d_C_init_1 : decode prog_3_method_1_code 1 = .ok (.invokespecial 1, 3) := by decide +kernel
theorem d_C_init_4 : decode prog_3_method_1_code 4 = .ok (.aload_n 0, 1) := by decide +kernel
theorem d_C_init_5 : decode prog_3_method_1_code 5 = .ok (.bipush 16, 2) := by decide +kernel
theorem d_C_init_7 : decode prog_3_method_1_code 7 = .ok (.newarray .int, 2) := by decide +kernel
theorem d_C_init_9 : decode prog_3_method_1_code 9 = .ok (.putfield 9, 3) := by decide +kernel
theorem d_C_init_12 : decode prog_3_method_1_code 12 = .ok (.aload_n 0, 1) := by decide +kernel
theorem d_C_init_13 : decode prog_3_method_1_code 13 = .ok (.bipush 16, 2) := by decide +kernel
theorem d_C_init_15 : decode prog_3_method_1_code 15 = .ok (.newarray .int, 2) := by decide +kernel
theorem d_C_init_17 : decode prog_3_method_1_code 17 = .ok (.putfield 13, 3) := by decide +kernel
theorem d_C_init_20 : decode prog_3_method_1_code 20 = .ok (.aload_n 0, 1) := by decide +kernel
theorem d_C_init_21 : decode prog_3_method_1_code 21 = .ok (.iload_n 1, 1) := by decide +kernel
theorem d_C_init_22 : decode prog_3_method_1_code 22 = .ok (.newarray .int, 2) := by decide +kernel
theorem d_C_init_24 : decode prog_3_method_1_code 24 = .ok (.putfield 16, 3) := by decide +kernel
theorem d_C_init_27 : decode prog_3_method_1_code 27 = .ok (.aload_n 0, 1) := by decide +kernel
theorem d_C_init_28 : decode prog_3_method_1_code 28 = .ok (.iconst 0, 1) := by decide +kernel
theorem d_C_init_29 : decode prog_3_method_1_code 29 = .ok (.putfield 19, 3) := by decide +kernel
theorem d_C_init_32 : decode prog_3_method_1_code 32 = .ok (.return_, 1) := by decide +kernel
set_option maxHeartbeats 4000000 in
set_option maxRecDepth 100000 in
theorem c_C_init_288 (l : Launch) (D : va_G) (sz : Nat) (h0 : Nat)  : Met l y_C_init (Cond.code y_C_init prog_3_method_1_code 2 (Option.none : Option Jvm.ClassFile.FieldType) :: zt) { frames := 1, cells := 3, slots := 320, locals := 12 } (zPc [.ref h0, .int 288] D [(h0, .inr (6, [.null, .null, .null, .int 0]))] [] sz (fun _ => True)) (va_Qv (fun (u : Nat × Nat × Nat × ClassId × ClassId × ClassId) => match u with | (q1, q2, q3, cA1, cA2, cA3) => True) (fun u t => zB D ((fun (u : Nat × Nat × Nat × ClassId × ClassId × ClassId) => match u with | (q1, q2, q3, cA1, cA2, cA3) => [(h0, .inr (6, [.ref q1, .ref q2, .ref q3, .int 0])), (q1, .inl (cA1, 16, .inl (fun _ => 0))), (q2, .inl (cA2, 16, .inl (fun _ => 0))), (q3, .inl (cA3, 288, .inl (fun _ => 0)))]) u) ((fun (u : Nat × Nat × Nat × ClassId × ClassId × ClassId) => match u with | (q1, q2, q3, cA1, cA2, cA3) => [(cA1, .int), (cA2, .int), (cA3, .int)]) u) (va_A [(h0, .inr (6, [.null, .null, .null, .int 0]))] sz) t) (va_A [(h0, .inr (6, [.null, .null, .null, .int 0]))] sz)) 3 320 (va_A [(h0, .inr (6, [.null, .null, .null, .int 0]))] sz) :=
  zMet (Qf := fun A => va_Qv (fun (u : Nat × Nat × Nat × ClassId × ClassId × ClassId) => match u with | (q1, q2, q3, cA1, cA2, cA3) => True) (fun u t => zB D ((fun (u : Nat × Nat × Nat × ClassId × ClassId × ClassId) => match u with | (q1, q2, q3, cA1, cA2, cA3) => [(h0, .inr (6, [.ref q1, .ref q2, .ref q3, .int 0])), (q1, .inl (cA1, 16, .inl (fun _ => 0))), (q2, .inl (cA2, 16, .inl (fun _ => 0))), (q3, .inl (cA3, 288, .inl (fun _ => 0)))]) u) ((fun (u : Nat × Nat × Nat × ClassId × ClassId × ClassId) => match u with | (q1, q2, q3, cA1, cA2, cA3) => [(cA1, .int), (cA2, .int), (cA3, .int)]) u) A t) A) (by decide) (Nat.le_of_ble_eq_true rfl) (fun p e s m below meth c A ls hx hb hr hml hown ht hlk hnm hA hK hP hD hX hl => by
    have hS : va_S A s.heap s.heap [] := va_S.rf
    have hl : lv_has ls 2 [(0, .ref h0), (1, .int 288)] := hl
    refine lv_aload_n hx hb d_C_init_0 rfl (lv_at hl 0 rfl) ?_
    refine W.objInit hx hb hown (ht _ zm_255) (ht _ zm_87) (ht _ zm_88) rfl (by rw [hml]; exact hl.1) rfl d_C_init_1 (Nat.le_of_ble_eq_true rfl) (Nat.le_of_ble_eq_true rfl) ?_
    refine W.eq (g2 := F0 m 4 ls []) rfl ?_
    refine lv_aload_n hx hb d_C_init_4 rfl (lv_at hl 0 rfl) ?_
    refine lv_bipush (v := 16) hx hb d_C_init_5 (by decide) ?_
    refine va_newa (atype := .int) (ty := .int) (n := 16) (N' := 16) (a0 := (16, .inl (fun _ => 0))) hx hb (ht _ zm_269) rfl hK hP hD hS hA (fun _ => rfl) (by decide) (by decide) (by decide) (Nat.le_of_ble_eq_true rfl) (Nat.le_of_ble_eq_true rfl) d_C_init_7 (fun q1 cA2 H hK hP hD hS => ?_)
    have hP : va_P D zcl [(h0, .inr (6, [.null, .null, .null, .int 0])), (q1, .inl (cA2, 16, .inl (fun _ => 0)))] H := hP
    have hD : va_D A [(h0, .inr (6, [.null, .null, .null, .int 0])), (q1, .inl (cA2, 16, .inl (fun _ => 0)))] := hD
    have hK : va_K D zcl [(cA2, .int)] s := hK
    refine va_putF (ci := 6) (v := .ref q1) (ty := .array .int) (C := "ZipGuard$CodeSet") (T := F_C) (N := 4) hx hb ht zi_C ty_C tk_C nm_C hown hK hP hD hS 0 rfl rfl 0 (by decide) (ht _ zm_256) (fun _ h9 => h9) rfl hnm rfl (by decide +kernel) rfl rfl (Nat.le_of_ble_eq_true rfl) d_C_init_9 (fun H locs hP hD hS => ?_)
    have hP : va_P D zcl [(h0, .inr (6, [.ref q1, .null, .null, .int 0])), (q1, .inl (cA2, 16, .inl (fun _ => 0)))] H := hP
    have hD : va_D A [(h0, .inr (6, [.ref q1, .null, .null, .int 0])), (q1, .inl (cA2, 16, .inl (fun _ => 0)))] := hD
    refine lv_aload_n hx hb d_C_init_12 rfl (lv_at hl 0 rfl) ?_
    refine lv_bipush (v := 16) hx hb d_C_init_13 (by decide) ?_
    refine va_newa (atype := .int) (ty := .int) (n := 16) (N' := 16) (a0 := (16, .inl (fun _ => 0))) hx hb (ht _ zm_269) rfl hK hP hD hS hA (fun _ => rfl) (by decide) (by decide) (by decide) (Nat.le_of_ble_eq_true rfl) (Nat.le_of_ble_eq_true rfl) d_C_init_15 (fun q3 cA4 H hK hP hD hS => ?_)
    have hP : va_P D zcl [(h0, .inr (6, [.ref q1, .null, .null, .int 0])), (q1, .inl (cA2, 16, .inl (fun _ => 0))), (q3, .inl (cA4, 16, .inl (fun _ => 0)))] H := hP
    have hD : va_D A [(h0, .inr (6, [.ref q1, .null, .null, .int 0])), (q1, .inl (cA2, 16, .inl (fun _ => 0))), (q3, .inl (cA4, 16, .inl (fun _ => 0)))] := hD
    have hK : va_K D zcl [(cA2, .int), (cA4, .int)] s := hK
    refine va_putF (ci := 6) (v := .ref q3) (ty := .array .int) (C := "ZipGuard$CodeSet") (T := F_C) (N := 4) hx hb ht zi_C ty_C tk_C nm_C hown hK hP hD hS 0 rfl rfl 1 (by decide) (ht _ zm_257) (fun _ h9 => h9) rfl hnm rfl (by decide +kernel) rfl rfl (Nat.le_of_ble_eq_true rfl) d_C_init_17 (fun H locs hP hD hS => ?_)
    have hP : va_P D zcl [(h0, .inr (6, [.ref q1, .ref q3, .null, .int 0])), (q1, .inl (cA2, 16, .inl (fun _ => 0))), (q3, .inl (cA4, 16, .inl (fun _ => 0)))] H := hP
    have hD : va_D A [(h0, .inr (6, [.ref q1, .ref q3, .null, .int 0])), (q1, .inl (cA2, 16, .inl (fun _ => 0))), (q3, .inl (cA4, 16, .inl (fun _ => 0)))] := hD
    refine lv_aload_n hx hb d_C_init_20 rfl (lv_at hl 0 rfl) ?_
    refine lv_iload_n hx hb d_C_init_21 rfl (lv_at hl 1 rfl) ?_
    refine va_newa (atype := .int) (ty := .int) (n := 288) (N' := 288) (a0 := (288, .inl (fun _ => 0))) hx hb (ht _ zm_269) rfl hK hP hD hS hA (fun _ => rfl) (by decide) (by decide) (by decide) (Nat.le_of_ble_eq_true rfl) (Nat.le_of_ble_eq_true rfl) d_C_init_22 (fun q5 cA6 H hK hP hD hS => ?_)
    have hP : va_P D zcl [(h0, .inr (6, [.ref q1, .ref q3, .null, .int 0])), (q1, .inl (cA2, 16, .inl (fun _ => 0))), (q3, .inl (cA4, 16, .inl (fun _ => 0))), (q5, .inl (cA6, 288, .inl (fun _ => 0)))] H := hP
    have hD : va_D A [(h0, .inr (6, [.ref q1, .ref q3, .null, .int 0])), (q1, .inl (cA2, 16, .inl (fun _ => 0))), (q3, .inl (cA4, 16, .inl (fun _ => 0))), (q5, .inl (cA6, 288, .inl (fun _ => 0)))] := hD
    have hK : va_K D zcl [(cA2, .int), (cA4, .int), (cA6, .int)] s := hK
    refine va_putF (ci := 6) (v := .ref q5) (ty := .array .int) (C := "ZipGuard$CodeSet") (T := F_C) (N := 4) hx hb ht zi_C ty_C tk_C nm_C hown hK hP hD hS 0 rfl rfl 2 (by decide) (ht _ zm_258) (fun _ h9 => h9) rfl hnm rfl (by decide +kernel) rfl rfl (Nat.le_of_ble_eq_true rfl) d_C_init_24 (fun H locs hP hD hS => ?_)
    have hP : va_P D zcl [(h0, .inr (6, [.ref q1, .ref q3, .ref q5, .int 0])), (q1, .inl (cA2, 16, .inl (fun _ => 0))), (q3, .inl (cA4, 16, .inl (fun _ => 0))), (q5, .inl (cA6, 288, .inl (fun _ => 0)))] H := hP
    have hD : va_D A [(h0, .inr (6, [.ref q1, .ref q3, .ref q5, .int 0])), (q1, .inl (cA2, 16, .inl (fun _ => 0))), (q3, .inl (cA4, 16, .inl (fun _ => 0))), (q5, .inl (cA6, 288, .inl (fun _ => 0)))] := hD
    refine lv_aload_n hx hb d_C_init_27 rfl (lv_at hl 0 rfl) ?_
    refine lv_iconst (v := 0) hx hb d_C_init_28 (by decide) ?_
    refine va_put (ci := 6) (v := .int 0) (ty := .int) (C := "ZipGuard$CodeSet") (T := F_C) (N := 4) hx hb ht zi_C ty_C tk_C nm_C hown hK hP hD hS 0 rfl rfl 3 (by decide) (ht _ zm_259) (fun _ h9 => h9) rfl (by decide +kernel) rfl rfl (Nat.le_of_ble_eq_true rfl) d_C_init_29 (fun H locs hP hD hS => ?_)
    have hP : va_P D zcl [(h0, .inr (6, [.ref q1, .ref q3, .ref q5, .int 0])), (q1, .inl (cA2, 16, .inl (fun _ => 0))), (q3, .inl (cA4, 16, .inl (fun _ => 0))), (q5, .inl (cA6, 288, .inl (fun _ => 0)))] H := hP
    have hD : va_D A [(h0, .inr (6, [.ref q1, .ref q3, .ref q5, .int 0])), (q1, .inl (cA2, 16, .inl (fun _ => 0))), (q3, .inl (cA4, 16, .inl (fun _ => 0))), (q5, .inl (cA6, 288, .inl (fun _ => 0)))] := hD
    exact zretv hx hb hr hlk hK hP hD hS (q1, q3, q5, cA2, cA4, cA6) [0, 1, 2, 3] [0, 1, 2] rfl (by decide) rfl (trivial) (Nat.le_of_ble_eq_true rfl) (Nat.le_of_ble_eq_true rfl) d_C_init_32)
set_option maxHeartbeats 4000000 in
set_option maxRecDepth 100000 in
theorem c_C_init_32 (l : Launch) (D : va_G) (sz : Nat) (h0 : Nat)  : Met l y_C_init (Cond.code y_C_init prog_3_method_1_code 2 (Option.none : Option Jvm.ClassFile.FieldType) :: zt) { frames := 1, cells := 3, slots := 64, locals := 12 } (zPc [.ref h0, .int 32] D [(h0, .inr (6, [.null, .null, .null, .int 0]))] [] sz (fun _ => True)) (va_Qv (fun (u : Nat × Nat × Nat × ClassId × ClassId × ClassId) => match u with | (q1, q2, q3, cA1, cA2, cA3) => True) (fun u t => zB D ((fun (u : Nat × Nat × Nat × ClassId × ClassId × ClassId) => match u with | (q1, q2, q3, cA1, cA2, cA3) => [(h0, .inr (6, [.ref q1, .ref q2, .ref q3, .int 0])), (q1, .inl (cA1, 16, .inl (fun _ => 0))), (q2, .inl (cA2, 16, .inl (fun _ => 0))), (q3, .inl (cA3, 32, .inl (fun _ => 0)))]) u) ((fun (u : Nat × Nat × Nat × ClassId × ClassId × ClassId) => match u with | (q1, q2, q3, cA1, cA2, cA3) => [(cA1, .int), (cA2, .int), (cA3, .int)]) u) (va_A [(h0, .inr (6, [.null, .null, .null, .int 0]))] sz) t) (va_A [(h0, .inr (6, [.null, .null, .null, .int 0]))] sz)) 3 64 (va_A [(h0, .inr (6, [.null, .null, .null, .int 0]))] sz) :=
  zMet (Qf := fun A => va_Qv (fun (u : Nat × Nat × Nat × ClassId × ClassId × ClassId) => match u with | (q1, q2, q3, cA1, cA2, cA3) => True) (fun u t => zB D ((fun (u : Nat × Nat × Nat × ClassId × ClassId × ClassId) => match u with | (q1, q2, q3, cA1, cA2, cA3) => [(h0, .inr (6, [.ref q1, .ref q2, .ref q3, .int 0])), (q1, .inl (cA1, 16, .inl (fun _ => 0))), (q2, .inl (cA2, 16, .inl (fun _ => 0))), (q3, .inl (cA3, 32, .inl (fun _ => 0)))]) u) ((fun (u : Nat × Nat × Nat × ClassId × ClassId × ClassId) => match u with | (q1, q2, q3, cA1, cA2, cA3) => [(cA1, .int), (cA2, .int), (cA3, .int)]) u) A t) A) (by decide) (Nat.le_of_ble_eq_true rfl) (fun p e s m below meth c A ls hx hb hr hml hown ht hlk hnm hA hK hP hD hX hl => by
    have hS : va_S A s.heap s.heap [] := va_S.rf
    have hl : lv_has ls 2 [(0, .ref h0), (1, .int 32)] := hl
    refine lv_aload_n hx hb d_C_init_0 rfl (lv_at hl 0 rfl) ?_
    refine W.objInit hx hb hown (ht _ zm_255) (ht _ zm_87) (ht _ zm_88) rfl (by rw [hml]; exact hl.1) rfl d_C_init_1 (Nat.le_of_ble_eq_true rfl) (Nat.le_of_ble_eq_true rfl) ?_
    refine W.eq (g2 := F0 m 4 ls []) rfl ?_
    refine lv_aload_n hx hb d_C_init_4 rfl (lv_at hl 0 rfl) ?_
    refine lv_bipush (v := 16) hx hb d_C_init_5 (by decide) ?_
    refine va_newa (atype := .int) (ty := .int) (n := 16) (N' := 16) (a0 := (16, .inl (fun _ => 0))) hx hb (ht _ zm_269) rfl hK hP hD hS hA (fun _ => rfl) (by decide) (by decide) (by decide) (Nat.le_of_ble_eq_true rfl) (Nat.le_of_ble_eq_true rfl) d_C_init_7 (fun q1 cA2 H hK hP hD hS => ?_)
    have hP : va_P D zcl [(h0, .inr (6, [.null, .null, .null, .int 0])), (q1, .inl (cA2, 16, .inl (fun _ => 0)))] H := hP
    have hD : va_D A [(h0, .inr (6, [.null, .null, .null, .int 0])), (q1, .inl (cA2, 16, .inl (fun _ => 0)))] := hD
    have hK : va_K D zcl [(cA2, .int)] s := hK
    refine va_putF (ci := 6) (v := .ref q1) (ty := .array .int) (C := "ZipGuard$CodeSet") (T := F_C) (N := 4) hx hb ht zi_C ty_C tk_C nm_C hown hK hP hD hS 0 rfl rfl 0 (by decide) (ht _ zm_256) (fun _ h9 => h9) rfl hnm rfl (by decide +kernel) rfl rfl (Nat.le_of_ble_eq_true rfl) d_C_init_9 (fun H locs hP hD hS => ?_)
    have hP : va_P D zcl [(h0, .inr (6, [.ref q1, .null, .null, .int 0])), (q1, .inl (cA2, 16, .inl (fun _ => 0)))] H := hP
    have hD : va_D A [(h0, .inr (6, [.ref q1, .null, .null, .int 0])), (q1, .inl (cA2, 16, .inl (fun _ => 0)))] := hD
    refine lv_aload_n hx hb d_C_init_12 rfl (lv_at hl 0 rfl) ?_
    refine lv_bipush (v := 16) hx hb d_C_init_13 (by decide) ?_
    refine va_newa (atype := .int) (ty := .int) (n := 16) (N' := 16) (a0 := (16, .inl (fun _ => 0))) hx hb (ht _ zm_269) rfl hK hP hD hS hA (fun _ => rfl) (by decide) (by decide) (by decide) (Nat.le_of_ble_eq_true rfl) (Nat.le_of_ble_eq_true rfl) d_C_init_15 (fun q3 cA4 H hK hP hD hS => ?_)
    have hP : va_P D zcl [(h0, .inr (6, [.ref q1, .null, .null, .int 0])), (q1, .inl (cA2, 16, .inl (fun _ => 0))), (q3, .inl (cA4, 16, .inl (fun _ => 0)))] H := hP
    have hD : va_D A [(h0, .inr (6, [.ref q1, .null, .null, .int 0])), (q1, .inl (cA2, 16, .inl (fun _ => 0))), (q3, .inl (cA4, 16, .inl (fun _ => 0)))] := hD
    have hK : va_K D zcl [(cA2, .int), (cA4, .int)] s := hK
    refine va_putF (ci := 6) (v := .ref q3) (ty := .array .int) (C := "ZipGuard$CodeSet") (T := F_C) (N := 4) hx hb ht zi_C ty_C tk_C nm_C hown hK hP hD hS 0 rfl rfl 1 (by decide) (ht _ zm_257) (fun _ h9 => h9) rfl hnm rfl (by decide +kernel) rfl rfl (Nat.le_of_ble_eq_true rfl) d_C_init_17 (fun H locs hP hD hS => ?_)
    have hP : va_P D zcl [(h0, .inr (6, [.ref q1, .ref q3, .null, .int 0])), (q1, .inl (cA2, 16, .inl (fun _ => 0))), (q3, .inl (cA4, 16, .inl (fun _ => 0)))] H := hP
    have hD : va_D A [(h0, .inr (6, [.ref q1, .ref q3, .null, .int 0])), (q1, .inl (cA2, 16, .inl (fun _ => 0))), (q3, .inl (cA4, 16, .inl (fun _ => 0)))] := hD
    refine lv_aload_n hx hb d_C_init_20 rfl (lv_at hl 0 rfl) ?_
    refine lv_iload_n hx hb d_C_init_21 rfl (lv_at hl 1 rfl) ?_
    refine va_newa (atype := .int) (ty := .int) (n := 32) (N' := 32) (a0 := (32, .inl (fun _ => 0))) hx hb (ht _ zm_269) rfl hK hP hD hS hA (fun _ => rfl) (by decide) (by decide) (by decide) (Nat.le_of_ble_eq_true rfl) (Nat.le_of_ble_eq_true rfl) d_C_init_22 (fun q5 cA6 H hK hP hD hS => ?_)
    have hP : va_P D zcl [(h0, .inr (6, [.ref q1, .ref q3, .null, .int 0])), (q1, .inl (cA2, 16, .inl (fun _ => 0))), (q3, .inl (cA4, 16, .inl (fun _ => 0))), (q5, .inl (cA6, 32, .inl (fun _ => 0)))] H := hP
    have hD : va_D A [(h0, .inr (6, [.ref q1, .ref q3, .null, .int 0])), (q1, .inl (cA2, 16, .inl (fun _ => 0))), (q3, .inl (cA4, 16, .inl (fun _ => 0))), (q5, .inl (cA6, 32, .inl (fun _ => 0)))] := hD
    have hK : va_K D zcl [(cA2, .int), (cA4, .int), (cA6, .int)] s := hK
    refine va_putF (ci := 6) (v := .ref q5) (ty := .array .int) (C := "ZipGuard$CodeSet") (T := F_C) (N := 4) hx hb ht zi_C ty_C tk_C nm_C hown hK hP hD hS 0 rfl rfl 2 (by decide) (ht _ zm_258) (fun _ h9 => h9) rfl hnm rfl (by decide +kernel) rfl rfl (Nat.le_of_ble_eq_true rfl) d_C_init_24 (fun H locs hP hD hS => ?_)
    have hP : va_P D zcl [(h0, .inr (6, [.ref q1, .ref q3, .ref q5, .int 0])), (q1, .inl (cA2, 16, .inl (fun _ => 0))), (q3, .inl (cA4, 16, .inl (fun _ => 0))), (q5, .inl (cA6, 32, .inl (fun _ => 0)))] H := hP
    have hD : va_D A [(h0, .inr (6, [.ref q1, .ref q3, .ref q5, .int 0])), (q1, .inl (cA2, 16, .inl (fun _ => 0))), (q3, .inl (cA4, 16, .inl (fun _ => 0))), (q5, .inl (cA6, 32, .inl (fun _ => 0)))] := hD
    refine lv_aload_n hx hb d_C_init_27 rfl (lv_at hl 0 rfl) ?_
    refine lv_iconst (v := 0) hx hb d_C_init_28 (by decide) ?_
    refine va_put (ci := 6) (v := .int 0) (ty := .int) (C := "ZipGuard$CodeSet") (T := F_C) (N := 4) hx hb ht zi_C ty_C tk_C nm_C hown hK hP hD hS 0 rfl rfl 3 (by decide) (ht _ zm_259) (fun _ h9 => h9) rfl (by decide +kernel) rfl rfl (Nat.le_of_ble_eq_true rfl) d_C_init_29 (fun H locs hP hD hS => ?_)
    have hP : va_P D zcl [(h0, .inr (6, [.ref q1, .ref q3, .ref q5, .int 0])), (q1, .inl (cA2, 16, .inl (fun _ => 0))), (q3, .inl (cA4, 16, .inl (fun _ => 0))), (q5, .inl (cA6, 32, .inl (fun _ => 0)))] H := hP
    have hD : va_D A [(h0, .inr (6, [.ref q1, .ref q3, .ref q5, .int 0])), (q1, .inl (cA2, 16, .inl (fun _ => 0))), (q3, .inl (cA4, 16, .inl (fun _ => 0))), (q5, .inl (cA6, 32, .inl (fun _ => 0)))] := hD
    exact zretv hx hb hr hlk hK hP hD hS (q1, q3, q5, cA2, cA4, cA6) [0, 1, 2, 3] [0, 1, 2] rfl (by decide) rfl (trivial) (Nat.le_of_ble_eq_true rfl) (Nat.le_of_ble_eq_true rfl) d_C_init_32)
set_option maxHeartbeats 4000000 in
set_option maxRecDepth 100000 in
theorem c_C_init_19 (l : Launch) (D : va_G) (sz : Nat) (h0 : Nat)  : Met l y_C_init (Cond.code y_C_init prog_3_method_1_code 2 (Option.none : Option Jvm.ClassFile.FieldType) :: zt) { frames := 1, cells := 3, slots := 51, locals := 12 } (zPc [.ref h0, .int 19] D [(h0, .inr (6, [.null, .null, .null, .int 0]))] [] sz (fun _ => True)) (va_Qv (fun (u : Nat × Nat × Nat × ClassId × ClassId × ClassId) => match u with | (q1, q2, q3, cA1, cA2, cA3) => True) (fun u t => zB D ((fun (u : Nat × Nat × Nat × ClassId × ClassId × ClassId) => match u with | (q1, q2, q3, cA1, cA2, cA3) => [(h0, .inr (6, [.ref q1, .ref q2, .ref q3, .int 0])), (q1, .inl (cA1, 16, .inl (fun _ => 0))), (q2, .inl (cA2, 16, .inl (fun _ => 0))), (q3, .inl (cA3, 19, .inl (fun _ => 0)))]) u) ((fun (u : Nat × Nat × Nat × ClassId × ClassId × ClassId) => match u with | (q1, q2, q3, cA1, cA2, cA3) => [(cA1, .int), (cA2, .int), (cA3, .int)]) u) (va_A [(h0, .inr (6, [.null, .null, .null, .int 0]))] sz) t) (va_A [(h0, .inr (6, [.null, .null, .null, .int 0]))] sz)) 3 51 (va_A [(h0, .inr (6, [.null, .null, .null, .int 0]))] sz) :=
  zMet (Qf := fun A => va_Qv (fun (u : Nat × Nat × Nat × ClassId × ClassId × ClassId) => match u with | (q1, q2, q3, cA1, cA2, cA3) => True) (fun u t => zB D ((fun (u : Nat × Nat × Nat × ClassId × ClassId × ClassId) => match u with | (q1, q2, q3, cA1, cA2, cA3) => [(h0, .inr (6, [.ref q1, .ref q2, .ref q3, .int 0])), (q1, .inl (cA1, 16, .inl (fun _ => 0))), (q2, .inl (cA2, 16, .inl (fun _ => 0))), (q3, .inl (cA3, 19, .inl (fun _ => 0)))]) u) ((fun (u : Nat × Nat × Nat × ClassId × ClassId × ClassId) => match u with | (q1, q2, q3, cA1, cA2, cA3) => [(cA1, .int), (cA2, .int), (cA3, .int)]) u) A t) A) (by decide) (Nat.le_of_ble_eq_true rfl) (fun p e s m below meth c A ls hx hb hr hml hown ht hlk hnm hA hK hP hD hX hl => by
    have hS : va_S A s.heap s.heap [] := va_S.rf
    have hl : lv_has ls 2 [(0, .ref h0), (1, .int 19)] := hl
    refine lv_aload_n hx hb d_C_init_0 rfl (lv_at hl 0 rfl) ?_
    refine W.objInit hx hb hown (ht _ zm_255) (ht _ zm_87) (ht _ zm_88) rfl (by rw [hml]; exact hl.1) rfl d_C_init_1 (Nat.le_of_ble_eq_true rfl) (Nat.le_of_ble_eq_true rfl) ?_
    refine W.eq (g2 := F0 m 4 ls []) rfl ?_
    refine lv_aload_n hx hb d_C_init_4 rfl (lv_at hl 0 rfl) ?_
    refine lv_bipush (v := 16) hx hb d_C_init_5 (by decide) ?_
    refine va_newa (atype := .int) (ty := .int) (n := 16) (N' := 16) (a0 := (16, .inl (fun _ => 0))) hx hb (ht _ zm_269) rfl hK hP hD hS hA (fun _ => rfl) (by decide) (by decide) (by decide) (Nat.le_of_ble_eq_true rfl) (Nat.le_of_ble_eq_true rfl) d_C_init_7 (fun q1 cA2 H hK hP hD hS => ?_)
    have hP : va_P D zcl [(h0, .inr (6, [.null, .null, .null, .int 0])), (q1, .inl (cA2, 16, .inl (fun _ => 0)))] H := hP
    have hD : va_D A [(h0, .inr (6, [.null, .null, .null, .int 0])), (q1, .inl (cA2, 16, .inl (fun _ => 0)))] := hD
    have hK : va_K D zcl [(cA2, .int)] s := hK
    refine va_putF (ci := 6) (v := .ref q1) (ty := .array .int) (C := "ZipGuard$CodeSet") (T := F_C) (N := 4) hx hb ht zi_C ty_C tk_C nm_C hown hK hP hD hS 0 rfl rfl 0 (by decide) (ht _ zm_256) (fun _ h9 => h9) rfl hnm rfl (by decide +kernel) rfl rfl (Nat.le_of_ble_eq_true rfl) d_C_init_9 (fun H locs hP hD hS => ?_)
    have hP : va_P D zcl [(h0, .inr (6, [.ref q1, .null, .null, .int 0])), (q1, .inl (cA2, 16, .inl (fun _ => 0)))] H := hP
    have hD : va_D A [(h0, .inr (6, [.ref q1, .null, .null, .int 0])), (q1, .inl (cA2, 16, .inl (fun _ => 0)))] := hD
    refine lv_aload_n hx hb d_C_init_12 rfl (lv_at hl 0 rfl) ?_
    refine lv_bipush (v := 16) hx hb d_C_init_13 (by decide) ?_
    refine va_newa (atype := .int) (ty := .int) (n := 16) (N' := 16) (a0 := (16, .inl (fun _ => 0))) hx hb (ht _ zm_269) rfl hK hP hD hS hA (fun _ => rfl) (by decide) (by decide) (by decide) (Nat.le_of_ble_eq_true rfl) (Nat.le_of_ble_eq_true rfl) d_C_init_15 (fun q3 cA4 H hK hP hD hS => ?_)
    have hP : va_P D zcl [(h0, .inr (6, [.ref q1, .null, .null, .int 0])), (q1, .inl (cA2, 16, .inl (fun _ => 0))), (q3, .inl (cA4, 16, .inl (fun _ => 0)))] H := hP
    have hD : va_D A [(h0, .inr (6, [.ref q1, .null, .null, .int 0])), (q1, .inl (cA2, 16, .inl (fun _ => 0))), (q3, .inl (cA4, 16, .inl (fun _ => 0)))] := hD
    have hK : va_K D zcl [(cA2, .int), (cA4, .int)] s := hK
    refine va_putF (ci := 6) (v := .ref q3) (ty := .array .int) (C := "ZipGuard$CodeSet") (T := F_C) (N := 4) hx hb ht zi_C ty_C tk_C nm_C hown hK hP hD hS 0 rfl rfl 1 (by decide) (ht _ zm_257) (fun _ h9 => h9) rfl hnm rfl (by decide +kernel) rfl rfl (Nat.le_of_ble_eq_true rfl) d_C_init_17 (fun H locs hP hD hS => ?_)
    have hP : va_P D zcl [(h0, .inr (6, [.ref q1, .ref q3, .null, .int 0])), (q1, .inl (cA2, 16, .inl (fun _ => 0))), (q3, .inl (cA4, 16, .inl (fun _ => 0)))] H := hP
    have hD : va_D A [(h0, .inr (6, [.ref q1, .ref q3, .null, .int 0])), (q1, .inl (cA2, 16, .inl (fun _ => 0))), (q3, .inl (cA4, 16, .inl (fun _ => 0)))] := hD
    refine lv_aload_n hx hb d_C_init_20 rfl (lv_at hl 0 rfl) ?_
    refine lv_iload_n hx hb d_C_init_21 rfl (lv_at hl 1 rfl) ?_
    refine va_newa (atype := .int) (ty := .int) (n := 19) (N' := 19) (a0 := (19, .inl (fun _ => 0))) hx hb (ht _ zm_269) rfl hK hP hD hS hA (fun _ => rfl) (by decide) (by decide) (by decide) (Nat.le_of_ble_eq_true rfl) (Nat.le_of_ble_eq_true rfl) d_C_init_22 (fun q5 cA6 H hK hP hD hS => ?_)
    have hP : va_P D zcl [(h0, .inr (6, [.ref q1, .ref q3, .null, .int 0])), (q1, .inl (cA2, 16, .inl (fun _ => 0))), (q3, .inl (cA4, 16, .inl (fun _ => 0))), (q5, .inl (cA6, 19, .inl (fun _ => 0)))] H := hP
    have hD : va_D A [(h0, .inr (6, [.ref q1, .ref q3, .null, .int 0])), (q1, .inl (cA2, 16, .inl (fun _ => 0))), (q3, .inl (cA4, 16, .inl (fun _ => 0))), (q5, .inl (cA6, 19, .inl (fun _ => 0)))] := hD
    have hK : va_K D zcl [(cA2, .int), (cA4, .int), (cA6, .int)] s := hK
    refine va_putF (ci := 6) (v := .ref q5) (ty := .array .int) (C := "ZipGuard$CodeSet") (T := F_C) (N := 4) hx hb ht zi_C ty_C tk_C nm_C hown hK hP hD hS 0 rfl rfl 2 (by decide) (ht _ zm_258) (fun _ h9 => h9) rfl hnm rfl (by decide +kernel) rfl rfl (Nat.le_of_ble_eq_true rfl) d_C_init_24 (fun H locs hP hD hS => ?_)
    have hP : va_P D zcl [(h0, .inr (6, [.ref q1, .ref q3, .ref q5, .int 0])), (q1, .inl (cA2, 16, .inl (fun _ => 0))), (q3, .inl (cA4, 16, .inl (fun _ => 0))), (q5, .inl (cA6, 19, .inl (fun _ => 0)))] H := hP
    have hD : va_D A [(h0, .inr (6, [.ref q1, .ref q3, .ref q5, .int 0])), (q1, .inl (cA2, 16, .inl (fun _ => 0))), (q3, .inl (cA4, 16, .inl (fun _ => 0))), (q5, .inl (cA6, 19, .inl (fun _ => 0)))] := hD
    refine lv_aload_n hx hb d_C_init_27 rfl (lv_at hl 0 rfl) ?_
    refine lv_iconst (v := 0) hx hb d_C_init_28 (by decide) ?_
    refine va_put (ci := 6) (v := .int 0) (ty := .int) (C := "ZipGuard$CodeSet") (T := F_C) (N := 4) hx hb ht zi_C ty_C tk_C nm_C hown hK hP hD hS 0 rfl rfl 3 (by decide) (ht _ zm_259) (fun _ h9 => h9) rfl (by decide +kernel) rfl rfl (Nat.le_of_ble_eq_true rfl) d_C_init_29 (fun H locs hP hD hS => ?_)
    have hP : va_P D zcl [(h0, .inr (6, [.ref q1, .ref q3, .ref q5, .int 0])), (q1, .inl (cA2, 16, .inl (fun _ => 0))), (q3, .inl (cA4, 16, .inl (fun _ => 0))), (q5, .inl (cA6, 19, .inl (fun _ => 0)))] H := hP
    have hD : va_D A [(h0, .inr (6, [.ref q1, .ref q3, .ref q5, .int 0])), (q1, .inl (cA2, 16, .inl (fun _ => 0))), (q3, .inl (cA4, 16, .inl (fun _ => 0))), (q5, .inl (cA6, 19, .inl (fun _ => 0)))] := hD
    exact zretv hx hb hr hlk hK hP hD hS (q1, q3, q5, cA2, cA4, cA6) [0, 1, 2, 3] [0, 1, 2] rfl (by decide) rfl (trivial) (Nat.le_of_ble_eq_true rfl) (Nat.le_of_ble_eq_true rfl) d_C_init_32)
set_option maxHeartbeats 4000000 in
set_option maxRecDepth 100000 in
theorem c_C_init_286 (l : Launch) (D : va_G) (sz : Nat) (h0 : Nat)  : Met l y_C_init (Cond.code y_C_init prog_3_method_1_code 2 (Option.none : Option Jvm.ClassFile.FieldType) :: zt) { frames := 1, cells := 3, slots := 318, locals := 12 } (zPc [.ref h0, .int 286] D [(h0, .inr (6, [.null, .null, .null, .int 0]))] [] sz (fun _ => True)) (va_Qv (fun (u : Nat × Nat × Nat × ClassId × ClassId × ClassId) => match u with | (q1, q2, q3, cA1, cA2, cA3) => True) (fun u t => zB D ((fun (u : Nat × Nat × Nat × ClassId × ClassId × ClassId) => match u with | (q1, q2, q3, cA1, cA2, cA3) => [(h0, .inr (6, [.ref q1, .ref q2, .ref q3, .int 0])), (q1, .inl (cA1, 16, .inl (fun _ => 0))), (q2, .inl (cA2, 16, .inl (fun _ => 0))), (q3, .inl (cA3, 286, .inl (fun _ => 0)))]) u) ((fun (u : Nat × Nat × Nat × ClassId × ClassId × ClassId) => match u with | (q1, q2, q3, cA1, cA2, cA3) => [(cA1, .int), (cA2, .int), (cA3, .int)]) u) (va_A [(h0, .inr (6, [.null, .null, .null, .int 0]))] sz) t) (va_A [(h0, .inr (6, [.null, .null, .null, .int 0]))] sz)) 3 318 (va_A [(h0, .inr (6, [.null, .null, .null, .int 0]))] sz) :=
  zMet (Qf := fun A => va_Qv (fun (u : Nat × Nat × Nat × ClassId × ClassId × ClassId) => match u with | (q1, q2, q3, cA1, cA2, cA3) => True) (fun u t => zB D ((fun (u : Nat × Nat × Nat × ClassId × ClassId × ClassId) => match u with | (q1, q2, q3, cA1, cA2, cA3) => [(h0, .inr (6, [.ref q1, .ref q2, .ref q3, .int 0])), (q1, .inl (cA1, 16, .inl (fun _ => 0))), (q2, .inl (cA2, 16, .inl (fun _ => 0))), (q3, .inl (cA3, 286, .inl (fun _ => 0)))]) u) ((fun (u : Nat × Nat × Nat × ClassId × ClassId × ClassId) => match u with | (q1, q2, q3, cA1, cA2, cA3) => [(cA1, .int), (cA2, .int), (cA3, .int)]) u) A t) A) (by decide) (Nat.le_of_ble_eq_true rfl) (fun p e s m below meth c A ls hx hb hr hml hown ht hlk hnm hA hK hP hD hX hl => by
    have hS : va_S A s.heap s.heap [] := va_S.rf
    have hl : lv_has ls 2 [(0, .ref h0), (1, .int 286)] := hl
    refine lv_aload_n hx hb d_C_init_0 rfl (lv_at hl 0 rfl) ?_
    refine W.objInit hx hb hown (ht _ zm_255) (ht _ zm_87) (ht _ zm_88) rfl (by rw [hml]; exact hl.1) rfl d_C_init_1 (Nat.le_of_ble_eq_true rfl) (Nat.le_of_ble_eq_true rfl) ?_
    refine W.eq (g2 := F0 m 4 ls []) rfl ?_
    refine lv_aload_n hx hb d_C_init_4 rfl (lv_at hl 0 rfl) ?_
    refine lv_bipush (v := 16) hx hb d_C_init_5 (by decide) ?_
    refine va_newa (atype := .int) (ty := .int) (n := 16) (N' := 16) (a0 := (16, .inl (fun _ => 0))) hx hb (ht _ zm_269) rfl hK hP hD hS hA (fun _ => rfl) (by decide) (by decide) (by decide) (Nat.le_of_ble_eq_true rfl) (Nat.le_of_ble_eq_true rfl) d_C_init_7 (fun q1 cA2 H hK hP hD hS => ?_)
    have hP : va_P D zcl [(h0, .inr (6, [.null, .null, .null, .int 0])), (q1, .inl (cA2, 16, .inl (fun _ => 0)))] H := hP
    have hD : va_D A [(h0, .inr (6, [.null, .null, .null, .int 0])), (q1, .inl (cA2, 16, .inl (fun _ => 0)))] := hD
    have hK : va_K D zcl [(cA2, .int)] s := hK
    refine va_putF (ci := 6) (v := .ref q1) (ty := .array .int) (C := "ZipGuard$CodeSet") (T := F_C) (N := 4) hx hb ht zi_C ty_C tk_C nm_C hown hK hP hD hS 0 rfl rfl 0 (by decide) (ht _ zm_256) (fun _ h9 => h9) rfl hnm rfl (by decide +kernel) rfl rfl (Nat.le_of_ble_eq_true rfl) d_C_init_9 (fun H locs hP hD hS => ?_)
    have hP : va_P D zcl [(h0, .inr (6, [.ref q1, .null, .null, .int 0])), (q1, .inl (cA2, 16, .inl (fun _ => 0)))] H := hP
    have hD : va_D A [(h0, .inr (6, [.ref q1, .null, .null, .int 0])), (q1, .inl (cA2, 16, .inl (fun _ => 0)))] := hD
    refine lv_aload_n hx hb d_C_init_12 rfl (lv_at hl 0 rfl) ?_
    refine lv_bipush (v := 16) hx hb d_C_init_13 (by decide) ?_
    refine va_newa (atype := .int) (ty := .int) (n := 16) (N' := 16) (a0 := (16, .inl (fun _ => 0))) hx hb (ht _ zm_269) rfl hK hP hD hS hA (fun _ => rfl) (by decide) (by decide) (by decide) (Nat.le_of_ble_eq_true rfl) (Nat.le_of_ble_eq_true rfl) d_C_init_15 (fun q3 cA4 H hK hP hD hS => ?_)
    have hP : va_P D zcl [(h0, .inr (6, [.ref q1, .null, .null, .int 0])), (q1, .inl (cA2, 16, .inl (fun _ => 0))), (q3, .inl (cA4, 16, .inl (fun _ => 0)))] H := hP
    have hD : va_D A [(h0, .inr (6, [.ref q1, .null, .null, .int 0])), (q1, .inl (cA2, 16, .inl (fun _ => 0))), (q3, .inl (cA4, 16, .inl (fun _ => 0)))] := hD
    have hK : va_K D zcl [(cA2, .int), (cA4, .int)] s := hK
    refine va_putF (ci := 6) (v := .ref q3) (ty := .array .int) (C := "ZipGuard$CodeSet") (T := F_C) (N := 4) hx hb ht zi_C ty_C tk_C nm_C hown hK hP hD hS 0 rfl rfl 1 (by decide) (ht _ zm_257) (fun _ h9 => h9) rfl hnm rfl (by decide +kernel) rfl rfl (Nat.le_of_ble_eq_true rfl) d_C_init_17 (fun H locs hP hD hS => ?_)
    have hP : va_P D zcl [(h0, .inr (6, [.ref q1, .ref q3, .null, .int 0])), (q1, .inl (cA2, 16, .inl (fun _ => 0))), (q3, .inl (cA4, 16, .inl (fun _ => 0)))] H := hP
    have hD : va_D A [(h0, .inr (6, [.ref q1, .ref q3, .null, .int 0])), (q1, .inl (cA2, 16, .inl (fun _ => 0))), (q3, .inl (cA4, 16, .inl (fun _ => 0)))] := hD
    refine lv_aload_n hx hb d_C_init_20 rfl (lv_at hl 0 rfl) ?_
    refine lv_iload_n hx hb d_C_init_21 rfl (lv_at hl 1 rfl) ?_
    refine va_newa (atype := .int) (ty := .int) (n := 286) (N' := 286) (a0 := (286, .inl (fun _ => 0))) hx hb (ht _ zm_269) rfl hK hP hD hS hA (fun _ => rfl) (by decide) (by decide) (by decide) (Nat.le_of_ble_eq_true rfl) (Nat.le_of_ble_eq_true rfl) d_C_init_22 (fun q5 cA6 H hK hP hD hS => ?_)
    have hP : va_P D zcl [(h0, .inr (6, [.ref q1, .ref q3, .null, .int 0])), (q1, .inl (cA2, 16, .inl (fun _ => 0))), (q3, .inl (cA4, 16, .inl (fun _ => 0))), (q5, .inl (cA6, 286, .inl (fun _ => 0)))] H := hP
    have hD : va_D A [(h0, .inr (6, [.ref q1, .ref q3, .null, .int 0])), (q1, .inl (cA2, 16, .inl (fun _ => 0))), (q3, .inl (cA4, 16, .inl (fun _ => 0))), (q5, .inl (cA6, 286, .inl (fun _ => 0)))] := hD
    have hK : va_K D zcl [(cA2, .int), (cA4, .int), (cA6, .int)] s := hK
    refine va_putF (ci := 6) (v := .ref q5) (ty := .array .int) (C := "ZipGuard$CodeSet") (T := F_C) (N := 4) hx hb ht zi_C ty_C tk_C nm_C hown hK hP hD hS 0 rfl rfl 2 (by decide) (ht _ zm_258) (fun _ h9 => h9) rfl hnm rfl (by decide +kernel) rfl rfl (Nat.le_of_ble_eq_true rfl) d_C_init_24 (fun H locs hP hD hS => ?_)
    have hP : va_P D zcl [(h0, .inr (6, [.ref q1, .ref q3, .ref q5, .int 0])), (q1, .inl (cA2, 16, .inl (fun _ => 0))), (q3, .inl (cA4, 16, .inl (fun _ => 0))), (q5, .inl (cA6, 286, .inl (fun _ => 0)))] H := hP
    have hD : va_D A [(h0, .inr (6, [.ref q1, .ref q3, .ref q5, .int 0])), (q1, .inl (cA2, 16, .inl (fun _ => 0))), (q3, .inl (cA4, 16, .inl (fun _ => 0))), (q5, .inl (cA6, 286, .inl (fun _ => 0)))] := hD
    refine lv_aload_n hx hb d_C_init_27 rfl (lv_at hl 0 rfl) ?_
    refine lv_iconst (v := 0) hx hb d_C_init_28 (by decide) ?_
    refine va_put (ci := 6) (v := .int 0) (ty := .int) (C := "ZipGuard$CodeSet") (T := F_C) (N := 4) hx hb ht zi_C ty_C tk_C nm_C hown hK hP hD hS 0 rfl rfl 3 (by decide) (ht _ zm_259) (fun _ h9 => h9) rfl (by decide +kernel) rfl rfl (Nat.le_of_ble_eq_true rfl) d_C_init_29 (fun H locs hP hD hS => ?_)
    have hP : va_P D zcl [(h0, .inr (6, [.ref q1, .ref q3, .ref q5, .int 0])), (q1, .inl (cA2, 16, .inl (fun _ => 0))), (q3, .inl (cA4, 16, .inl (fun _ => 0))), (q5, .inl (cA6, 286, .inl (fun _ => 0)))] H := hP
    have hD : va_D A [(h0, .inr (6, [.ref q1, .ref q3, .ref q5, .int 0])), (q1, .inl (cA2, 16, .inl (fun _ => 0))), (q3, .inl (cA4, 16, .inl (fun _ => 0))), (q5, .inl (cA6, 286, .inl (fun _ => 0)))] := hD
    exact zretv hx hb hr hlk hK hP hD hS (q1, q3, q5, cA2, cA4, cA6) [0, 1, 2, 3] [0, 1, 2] rfl (by decide) rfl (trivial) (Nat.le_of_ble_eq_true rfl) (Nat.le_of_ble_eq_true rfl) d_C_init_32)
set_option maxHeartbeats 4000000 in
set_option maxRecDepth 100000 in
theorem c_C_init_30 (l : Launch) (D : va_G) (sz : Nat) (h0 : Nat)  : Met l y_C_init (Cond.code y_C_init prog_3_method_1_code 2 (Option.none : Option Jvm.ClassFile.FieldType) :: zt) { frames := 1, cells := 3, slots := 62, locals := 12 } (zPc [.ref h0, .int 30] D [(h0, .inr (6, [.null, .null, .null, .int 0]))] [] sz (fun _ => True)) (va_Qv (fun (u : Nat × Nat × Nat × ClassId × ClassId × ClassId) => match u with | (q1, q2, q3, cA1, cA2, cA3) => True) (fun u t => zB D ((fun (u : Nat × Nat × Nat × ClassId × ClassId × ClassId) => match u with | (q1, q2, q3, cA1, cA2, cA3) => [(h0, .inr (6, [.ref q1, .ref q2, .ref q3, .int 0])), (q1, .inl (cA1, 16, .inl (fun _ => 0))), (q2, .inl (cA2, 16, .inl (fun _ => 0))), (q3, .inl (cA3, 30, .inl (fun _ => 0)))]) u) ((fun (u : Nat × Nat × Nat × ClassId × ClassId × ClassId) => match u with | (q1, q2, q3, cA1, cA2, cA3) => [(cA1, .int), (cA2, .int), (cA3, .int)]) u) (va_A [(h0, .inr (6, [.null, .null, .null, .int 0]))] sz) t) (va_A [(h0, .inr (6, [.null, .null, .null, .int 0]))] sz)) 3 62 (va_A [(h0, .inr (6, [.null, .null, .null, .int 0]))] sz) :=
  zMet (Qf := fun A => va_Qv (fun (u : Nat × Nat × Nat × ClassId × ClassId × ClassId) => match u with | (q1, q2, q3, cA1, cA2, cA3) => True) (fun u t => zB D ((fun (u : Nat × Nat × Nat × ClassId × ClassId × ClassId) => match u with | (q1, q2, q3, cA1, cA2, cA3) => [(h0, .inr (6, [.ref q1, .ref q2, .ref q3, .int 0])), (q1, .inl (cA1, 16, .inl (fun _ => 0))), (q2, .inl (cA2, 16, .inl (fun _ => 0))), (q3, .inl (cA3, 30, .inl (fun _ => 0)))]) u) ((fun (u : Nat × Nat × Nat × ClassId × ClassId × ClassId) => match u with | (q1, q2, q3, cA1, cA2, cA3) => [(cA1, .int), (cA2, .int), (cA3, .int)]) u) A t) A) (by decide) (Nat.le_of_ble_eq_true rfl) (fun p e s m below meth c A ls hx hb hr hml hown ht hlk hnm hA hK hP hD hX hl => by
    have hS : va_S A s.heap s.heap [] := va_S.rf
    have hl : lv_has ls 2 [(0, .ref h0), (1, .int 30)] := hl
    refine lv_aload_n hx hb d_C_init_0 rfl (lv_at hl 0 rfl) ?_
    refine W.objInit hx hb hown (ht _ zm_255) (ht _ zm_87) (ht _ zm_88) rfl (by rw [hml]; exact hl.1) rfl d_C_init_1 (Nat.le_of_ble_eq_true rfl) (Nat.le_of_ble_eq_true rfl) ?_
    refine W.eq (g2 := F0 m 4 ls []) rfl ?_
    refine lv_aload_n hx hb d_C_init_4 rfl (lv_at hl 0 rfl) ?_
    refine lv_bipush (v := 16) hx hb d_C_init_5 (by decide) ?_
    refine va_newa (atype := .int) (ty := .int) (n := 16) (N' := 16) (a0 := (16, .inl (fun _ => 0))) hx hb (ht _ zm_269) rfl hK hP hD hS hA (fun _ => rfl) (by decide) (by decide) (by decide) (Nat.le_of_ble_eq_true rfl) (Nat.le_of_ble_eq_true rfl) d_C_init_7 (fun q1 cA2 H hK hP hD hS => ?_)
    have hP : va_P D zcl [(h0, .inr (6, [.null, .null, .null, .int 0])), (q1, .inl (cA2, 16, .inl (fun _ => 0)))] H := hP
    have hD : va_D A [(h0, .inr (6, [.null, .null, .null, .int 0])), (q1, .inl (cA2, 16, .inl (fun _ => 0)))] := hD
    have hK : va_K D zcl [(cA2, .int)] s := hK
    refine va_putF (ci := 6) (v := .ref q1) (ty := .array .int) (C := "ZipGuard$CodeSet") (T := F_C) (N := 4) hx hb ht zi_C ty_C tk_C nm_C hown hK hP hD hS 0 rfl rfl 0 (by decide) (ht _ zm_256) (fun _ h9 => h9) rfl hnm rfl (by decide +kernel) rfl rfl (Nat.le_of_ble_eq_true rfl) d_C_init_9 (fun H locs hP hD hS => ?_)
    have hP : va_P D zcl [(h0, .inr (6, [.ref q1, .null, .null, .int 0])), (q1, .inl (cA2, 16, .inl (fun _ => 0)))] H := hP
    have hD : va_D A [(h0, .inr (6, [.ref q1, .null, .null, .int 0])), (q1, .inl (cA2, 16, .inl (fun _ => 0)))] := hD
    refine lv_aload_n hx hb d_C_init_12 rfl (lv_at hl 0 rfl) ?_
    refine lv_bipush (v := 16) hx hb d_C_init_13 (by decide) ?_
    refine va_newa (atype := .int) (ty := .int) (n := 16) (N' := 16) (a0 := (16, .inl (fun _ => 0))) hx hb (ht _ zm_269) rfl hK hP hD hS hA (fun _ => rfl) (by decide) (by decide) (by decide) (Nat.le_of_ble_eq_true rfl) (Nat.le_of_ble_eq_true rfl) d_C_init_15 (fun q3 cA4 H hK hP hD hS => ?_)
    have hP : va_P D zcl [(h0, .inr (6, [.ref q1, .null, .null, .int 0])), (q1, .inl (cA2, 16, .inl (fun _ => 0))), (q3, .inl (cA4, 16, .inl (fun _ => 0)))] H := hP
    have hD : va_D A [(h0, .inr (6, [.ref q1, .null, .null, .int 0])), (q1, .inl (cA2, 16, .inl (fun _ => 0))), (q3, .inl (cA4, 16, .inl (fun _ => 0)))] := hD
    have hK : va_K D zcl [(cA2, .int), (cA4, .int)] s := hK
    refine va_putF (ci := 6) (v := .ref q3) (ty := .array .int) (C := "ZipGuard$CodeSet") (T := F_C) (N := 4) hx hb ht zi_C ty_C tk_C nm_C hown hK hP hD hS 0 rfl rfl 1 (by decide) (ht _ zm_257) (fun _ h9 => h9) rfl hnm rfl (by decide +kernel) rfl rfl (Nat.le_of_ble_eq_true rfl) d_C_init_17 (fun H locs hP hD hS => ?_)
    have hP : va_P D zcl [(h0, .inr (6, [.ref q1, .ref q3, .null, .int 0])), (q1, .inl (cA2, 16, .inl (fun _ => 0))), (q3, .inl (cA4, 16, .inl (fun _ => 0)))] H := hP
    have hD : va_D A [(h0, .inr (6, [.ref q1, .ref q3, .null, .int 0])), (q1, .inl (cA2, 16, .inl (fun _ => 0))), (q3, .inl (cA4, 16, .inl (fun _ => 0)))] := hD
    refine lv_aload_n hx hb d_C_init_20 rfl (lv_at hl 0 rfl) ?_
    refine lv_iload_n hx hb d_C_init_21 rfl (lv_at hl 1 rfl) ?_
    refine va_newa (atype := .int) (ty := .int) (n := 30) (N' := 30) (a0 := (30, .inl (fun _ => 0))) hx hb (ht _ zm_269) rfl hK hP hD hS hA (fun _ => rfl) (by decide) (by decide) (by decide) (Nat.le_of_ble_eq_true rfl) (Nat.le_of_ble_eq_true rfl) d_C_init_22 (fun q5 cA6 H hK hP hD hS => ?_)
    have hP : va_P D zcl [(h0, .inr (6, [.ref q1, .ref q3, .null, .int 0])), (q1, .inl (cA2, 16, .inl (fun _ => 0))), (q3, .inl (cA4, 16, .inl (fun _ => 0))), (q5, .inl (cA6, 30, .inl (fun _ => 0)))] H := hP
    have hD : va_D A [(h0, .inr (6, [.ref q1, .ref q3, .null, .int 0])), (q1, .inl (cA2, 16, .inl (fun _ => 0))), (q3, .inl (cA4, 16, .inl (fun _ => 0))), (q5, .inl (cA6, 30, .inl (fun _ => 0)))] := hD
    have hK : va_K D zcl [(cA2, .int), (cA4, .int), (cA6, .int)] s := hK
    refine va_putF (ci := 6) (v := .ref q5) (ty := .array .int) (C := "ZipGuard$CodeSet") (T := F_C) (N := 4) hx hb ht zi_C ty_C tk_C nm_C hown hK hP hD hS 0 rfl rfl 2 (by decide) (ht _ zm_258) (fun _ h9 => h9) rfl hnm rfl (by decide +kernel) rfl rfl (Nat.le_of_ble_eq_true rfl) d_C_init_24 (fun H locs hP hD hS => ?_)
    have hP : va_P D zcl [(h0, .inr (6, [.ref q1, .ref q3, .ref q5, .int 0])), (q1, .inl (cA2, 16, .inl (fun _ => 0))), (q3, .inl (cA4, 16, .inl (fun _ => 0))), (q5, .inl (cA6, 30, .inl (fun _ => 0)))] H := hP
    have hD : va_D A [(h0, .inr (6, [.ref q1, .ref q3, .ref q5, .int 0])), (q1, .inl (cA2, 16, .inl (fun _ => 0))), (q3, .inl (cA4, 16, .inl (fun _ => 0))), (q5, .inl (cA6, 30, .inl (fun _ => 0)))] := hD
    refine lv_aload_n hx hb d_C_init_27 rfl (lv_at hl 0 rfl) ?_
    refine lv_iconst (v := 0) hx hb d_C_init_28 (by decide) ?_
    refine va_put (ci := 6) (v := .int 0) (ty := .int) (C := "ZipGuard$CodeSet") (T := F_C) (N := 4) hx hb ht zi_C ty_C tk_C nm_C hown hK hP hD hS 0 rfl rfl 3 (by decide) (ht _ zm_259) (fun _ h9 => h9) rfl (by decide +kernel) rfl rfl (Nat.le_of_ble_eq_true rfl) d_C_init_29 (fun H locs hP hD hS => ?_)
    have hP : va_P D zcl [(h0, .inr (6, [.ref q1, .ref q3, .ref q5, .int 0])), (q1, .inl (cA2, 16, .inl (fun _ => 0))), (q3, .inl (cA4, 16, .inl (fun _ => 0))), (q5, .inl (cA6, 30, .inl (fun _ => 0)))] H := hP
    have hD : va_D A [(h0, .inr (6, [.ref q1, .ref q3, .ref q5, .int 0])), (q1, .inl (cA2, 16, .inl (fun _ => 0))), (q3, .inl (cA4, 16, .inl (fun _ => 0))), (q5, .inl (cA6, 30, .inl (fun _ => 0)))] := hD
    exact zretv hx hb hr hlk hK hP hD hS (q1, q3, q5, cA2, cA4, cA6) [0, 1, 2, 3] [0, 1, 2] rfl (by decide) rfl (trivial) (Nat.le_of_ble_eq_true rfl) (Nat.le_of_ble_eq_true rfl) d_C_init_32)
set_option maxHeartbeats 4000000 in
set_option maxRecDepth 100000 in
theorem lp_C_build_11 {p : Program} {l : Launch} {e : Env} {R : Room} {s : State} {m : MethodId} {args : Array Value} {below : List Frame} {meth : Method} {c : Code} {cells slots : Nat} {Q : State → Prop} {A : Nat → Prop} {D : va_G} (hx : p.tables.exec = Jvm.exec) (hb : c.code = prog_3_method_2_code) (hml : c.maxLocals = 6) (hown : s.vm.findClass "ZipGuard$CodeSet" = some m.cls) (ht : ∀ w ∈ zt, w.before args s = true) (hA : ∀ q, s.heap.size ≤ q → A q) (h0 : Nat) (a1 : Nat) (a2 : Nat) (a3 : Nat) (ar : Nat) (cA1 : ClassId) (cA2 : ClassId) (cA3 : ClassId) (cR : ClassId) (SS : Nat) (N0 : Nat) (f : Nat → Int32) (fr : Nat) (nn : Nat) (d : Nat → Nat) (k0 : Int32) (g2 : Nat → Int32) (g3 : Nat → Int32) (hf : ∀ k, k < nn → f (fr + k) = nI (d k)) (hd : ∀ k, k < nn → d k ≤ 15) (hfr : fr + nn ≤ N0) (hSS : nn ≤ SS) (hN : N0 < 2 ^ 31) (hS2 : SS < 2 ^ 31) (hK : va_K D zcl [(cA1, .int), (cA2, .int), (cA3, .int), (cR, .int)] s) 
    (kk : ∀ (g1 : Nat → Int32) (H : Heap) (locs : List Loc) (ls : Array Slot), (∀ l, l ≤ 15 → g1 l = nI (zcn d nn l)) → va_P D zcl [(h0, .inr (6, [.ref a1, .ref a2, .ref a3, .int k0])), (a1, .inl (cA1, 16, .inl g1)), (a2, .inl (cA2, 16, .inl g2)), (a3, .inl (cA3, SS, .inl g3)), (ar, .inl (cR, N0, .inl f))] H → va_D A [(h0, .inr (6, [.ref a1, .ref a2, .ref a3, .int k0])), (a1, .inl (cA1, 16, .inl g1)), (a2, .inl (cA2, 16, .inl g2)), (a3, .inl (cA3, SS, .inl g3)), (ar, .inl (cR, N0, .inl f))] → va_S A s.heap H locs → lv_has ls 6 [(4, .int (nI nn)), (0, .ref h0), (1, .ref ar), (2, .int (nI fr)), (3, .int (nI nn))] → W p l e R s m args below meth c H locs cells slots Q (F0 m 38 ls [])) :
    ∀ (j : Nat) (k : Nat) (g1 : Nat → Int32) (H : Heap) (locs : List Loc) (ls : Array Slot), k + j = nn → (∀ l, l ≤ 15 → g1 l = nI (zcn d k l)) → va_P D zcl [(h0, .inr (6, [.ref a1, .ref a2, .ref a3, .int k0])), (a1, .inl (cA1, 16, .inl g1)), (a2, .inl (cA2, 16, .inl g2)), (a3, .inl (cA3, SS, .inl g3)), (ar, .inl (cR, N0, .inl f))] H → va_D A [(h0, .inr (6, [.ref a1, .ref a2, .ref a3, .int k0])), (a1, .inl (cA1, 16, .inl g1)), (a2, .inl (cA2, 16, .inl g2)), (a3, .inl (cA3, SS, .inl g3)), (ar, .inl (cR, N0, .inl f))] → va_S A s.heap H locs → lv_has ls 6 [(4, .int (nI k)), (0, .ref h0), (1, .ref ar), (2, .int (nI fr)), (3, .int (nI nn))] → W p l e R s m args below meth c H locs cells slots Q (F0 m 11 ls []) := by
  intro j
  induction j with
  | zero =>
    intro k g1 H locs ls hk hI hP hD hS hl
    have hk : k = nn := by omega
    subst hk
    refine lv_iload hx hb d_C_build_11 (lv_at hl 0 rfl) ?_
    refine lv_iload_n hx hb d_C_build_13 rfl (lv_at hl 4 rfl) ?_
    refine lv_icmp_ge (tgt := 38) hx hb d_C_build_14 (by decide) (fun _ => ?_) (fun h => absurd (nI_le (by omega) (by omega)) h)
    exact kk g1 H locs ls hI hP hD hS hl
  | succ j ih =>
    intro k g1 H locs ls hk hI hP hD hS hl
    refine lv_iload hx hb d_C_build_11 (lv_at hl 0 rfl) ?_
    refine lv_iload_n hx hb d_C_build_13 rfl (lv_at hl 4 rfl) ?_
    refine lv_icmp_ge (tgt := 38) hx hb d_C_build_14 (by decide) (fun h => absurd h (nI_ge (by omega) (by omega))) (fun _ => ?_)
    have hdk := hd k (by omega)
    refine lv_aload_n hx hb d_C_build_17 rfl (lv_at hl 1 rfl) ?_
    refine va_get (ci := 6) (C := "ZipGuard$CodeSet") (T := F_C) (N := 4) hx hb ht zi_C hown hK hP 0 rfl rfl 0 (by decide) (ht _ zm_256) (fun _ h9 => h9) rfl d_C_build_18 ?_
    refine lv_aload_n hx hb d_C_build_21 rfl (lv_at hl 2 rfl) ?_
    refine lv_iload_n hx hb d_C_build_22 rfl (lv_at hl 3 rfl) ?_
    refine lv_iload hx hb d_C_build_23 (lv_at hl 0 rfl) ?_
    refine lv_iadd hx hb d_C_build_25 ?_
    refine va_iald hx hb hK hP 4 3 rfl rfl (by rw [nI_add]; exact vp_in_nI (by omega) (by omega)) d_C_build_26 ?_
    refine lv_topi (fun x3 e_x3 => ?_)
    have e_x3 : x3 = nI (d k) := by rw [e_x3, nI_add, nI_clamp (by omega)]; exact hf k (by omega)
    subst e_x3
    refine lv_dup2_11 hx hb d_C_build_27 rfl rfl ?_
    refine va_iald hx hb hK hP 1 0 rfl rfl (vp_in_nI (by omega) (by omega)) d_C_build_28 ?_
    refine lv_iconst (v := 1) hx hb d_C_build_29 (by decide) ?_
    refine lv_iadd hx hb d_C_build_30 ?_
    refine va_iast hx hb hK hP hD hS 1 0 rfl rfl (vp_in_nI (by omega) (by omega)) d_C_build_31 (fun H locs hP hD hS => ?_)
    have hP : va_P D zcl [(h0, .inr (6, [.ref a1, .ref a2, .ref a3, .int k0])), (a1, .inl (cA1, 16, .inl (upd g1 (nI (d k)).toNatClampNeg ((g1 (nI (d k)).toNatClampNeg) + 1)))), (a2, .inl (cA2, 16, .inl g2)), (a3, .inl (cA3, SS, .inl g3)), (ar, .inl (cR, N0, .inl f))] H := hP
    have hD : va_D A [(h0, .inr (6, [.ref a1, .ref a2, .ref a3, .int k0])), (a1, .inl (cA1, 16, .inl (upd g1 (nI (d k)).toNatClampNeg ((g1 (nI (d k)).toNatClampNeg) + 1)))), (a2, .inl (cA2, 16, .inl g2)), (a3, .inl (cA3, SS, .inl g3)), (ar, .inl (cR, N0, .inl f))] := hD
    refine lv_iinc (k := 0) (v := (nI k) + 1) (lv' := [(4, .int ((nI k) + 1)), (0, .ref h0), (1, .ref ar), (2, .int (nI fr)), (3, .int (nI nn))]) hx hb d_C_build_32 hl rfl rfl (by decide) rfl (fun ls hl => ?_)
    refine lv_goto (tgt := 11) hx hb d_C_build_35 (by decide) ?_
    rw [nI_1] at hl
    refine ih (k + 1) (upd g1 (nI (d k)).toNatClampNeg ((g1 (nI (d k)).toNatClampNeg) + 1)) H locs ls (by omega) ?_ hP hD hS hl
    intro l hl9
    rw [nI_clamp (by omega)]
    by_cases hld : l = d k
    · rw [hld, pk_us, hI _ hdk, nI_1]
      simp [zcn]
    · rw [pk_un hld, hI l hl9]
      simp [zcn, Ne.symm hld]
set_option maxHeartbeats 4000000 in
set_option maxRecDepth 100000 in
theorem lp_C_build_46 {p : Program} {l : Launch} {e : Env} {R : Room} {s : State} {m : MethodId} {args : Array Value} {below : List Frame} {meth : Method} {c : Code} {cells slots : Nat} {Q : State → Prop} {A : Nat → Prop} {D : va_G} (hx : p.tables.exec = Jvm.exec) (hb : c.code = prog_3_method_2_code) (hml : c.maxLocals = 6) (hown : s.vm.findClass "ZipGuard$CodeSet" = some m.cls) (ht : ∀ w ∈ zt, w.before args s = true) (hA : ∀ q, s.heap.size ≤ q → A q) (h0 : Nat) (a1 : Nat) (a2 : Nat) (a3 : Nat) (ar : Nat) (cA1 : ClassId) (cA2 : ClassId) (cA3 : ClassId) (cR : ClassId) (SS : Nat) (N0 : Nat) (f : Nat → Int32) (fr : Nat) (nn : Nat) (d : Nat → Nat) (g1 : Nat → Int32) (g3 : Nat → Int32) (hf : ∀ k, k < nn → f (fr + k) = nI (d k)) (hd : ∀ k, k < nn → d k ≤ 15) (hfr : fr + nn ≤ N0) (hSS : nn ≤ SS) (hN : N0 < 2 ^ 31) (hS2 : SS < 2 ^ 31) (hG : ∀ l, l ≤ 15 → g1 l = nI (zcn d nn l)) (hK : va_K D zcl [(cA1, .int), (cA2, .int), (cA3, .int), (cR, .int)] s) 
    (kk : ∀ (g2 : Nat → Int32) (H : Heap) (locs : List Loc) (ls : Array Slot), (∀ l, 1 ≤ l → l < 16 → g2 l = nI (zst d nn l)) → va_P D zcl [(h0, .inr (6, [.ref a1, .ref a2, .ref a3, .int (nI (zst d nn 16))])), (a1, .inl (cA1, 16, .inl g1)), (a2, .inl (cA2, 16, .inl g2)), (a3, .inl (cA3, SS, .inl g3)), (ar, .inl (cR, N0, .inl f))] H → va_D A [(h0, .inr (6, [.ref a1, .ref a2, .ref a3, .int (nI (zst d nn 16))])), (a1, .inl (cA1, 16, .inl g1)), (a2, .inl (cA2, 16, .inl g2)), (a3, .inl (cA3, SS, .inl g3)), (ar, .inl (cR, N0, .inl f))] → va_S A s.heap H locs → lv_has ls 6 [(4, .int (nI 16)), (0, .ref h0), (1, .ref ar), (2, .int (nI fr)), (3, .int (nI nn))] → W p l e R s m args below meth c H locs cells slots Q (F0 m 86 ls [])) :
    ∀ (j : Nat) (k : Nat) (g2 : Nat → Int32) (H : Heap) (locs : List Loc) (ls : Array Slot), k + j = 16 → 1 ≤ k → (∀ l, 1 ≤ l → l < k → g2 l = nI (zst d nn l)) → va_P D zcl [(h0, .inr (6, [.ref a1, .ref a2, .ref a3, .int (nI (zst d nn k))])), (a1, .inl (cA1, 16, .inl g1)), (a2, .inl (cA2, 16, .inl g2)), (a3, .inl (cA3, SS, .inl g3)), (ar, .inl (cR, N0, .inl f))] H → va_D A [(h0, .inr (6, [.ref a1, .ref a2, .ref a3, .int (nI (zst d nn k))])), (a1, .inl (cA1, 16, .inl g1)), (a2, .inl (cA2, 16, .inl g2)), (a3, .inl (cA3, SS, .inl g3)), (ar, .inl (cR, N0, .inl f))] → va_S A s.heap H locs → lv_has ls 6 [(4, .int (nI k)), (0, .ref h0), (1, .ref ar), (2, .int (nI fr)), (3, .int (nI nn))] → W p l e R s m args below meth c H locs cells slots Q (F0 m 46 ls []) := by
  intro j
  induction j with
  | zero =>
    intro k g2 H locs ls hk hk1 hI hP hD hS hl
    have hk : k = 16 := by omega
    subst hk
    refine lv_iload hx hb d_C_build_46 (lv_at hl 0 rfl) ?_
    refine lv_bipush (v := 15) hx hb d_C_build_48 (by decide) ?_
    refine lv_icmp_gt (tgt := 86) hx hb d_C_build_50 (by decide) (fun _ => ?_) (fun h => absurd (by decide +kernel) h)
    exact kk g2 H locs ls hI hP hD hS hl
  | succ j ih =>
    intro k g2 H locs ls hk hk1 hI hP hD hS hl
    refine lv_iload hx hb d_C_build_46 (lv_at hl 0 rfl) ?_
    refine lv_bipush (v := 15) hx hb d_C_build_48 (by decide) ?_
    refine lv_icmp_gt (tgt := 86) hx hb d_C_build_50 (by decide) (fun h => absurd h (show ¬ nI 15 < nI k from nI_nlt (by omega) (by omega))) (fun _ => ?_)
    refine lv_aload_n hx hb d_C_build_53 rfl (lv_at hl 1 rfl) ?_
    refine va_get (ci := 6) (C := "ZipGuard$CodeSet") (T := F_C) (N := 4) hx hb ht zi_C hown hK hP 0 rfl rfl 1 (by decide) (ht _ zm_257) (fun _ h9 => h9) rfl d_C_build_54 ?_
    refine lv_iload hx hb d_C_build_57 (lv_at hl 0 rfl) ?_
    refine lv_aload_n hx hb d_C_build_59 rfl (lv_at hl 1 rfl) ?_
    refine va_get (ci := 6) (C := "ZipGuard$CodeSet") (T := F_C) (N := 4) hx hb ht zi_C hown hK hP 0 rfl rfl 3 (by decide) (ht _ zm_259) (fun _ h9 => h9) rfl d_C_build_60 ?_
    refine va_iast hx hb hK hP hD hS 2 1 rfl rfl (vp_in_nI (by omega) (by omega)) d_C_build_63 (fun H locs hP hD hS => ?_)
    have hP : va_P D zcl [(h0, .inr (6, [.ref a1, .ref a2, .ref a3, .int (nI (zst d nn k))])), (a1, .inl (cA1, 16, .inl g1)), (a2, .inl (cA2, 16, .inl (upd g2 (nI k).toNatClampNeg (nI (zst d nn k))))), (a3, .inl (cA3, SS, .inl g3)), (ar, .inl (cR, N0, .inl f))] H := hP
    have hD : va_D A [(h0, .inr (6, [.ref a1, .ref a2, .ref a3, .int (nI (zst d nn k))])), (a1, .inl (cA1, 16, .inl g1)), (a2, .inl (cA2, 16, .inl (upd g2 (nI k).toNatClampNeg (nI (zst d nn k))))), (a3, .inl (cA3, SS, .inl g3)), (ar, .inl (cR, N0, .inl f))] := hD
    refine lv_aload_n hx hb d_C_build_64 rfl (lv_at hl 1 rfl) ?_
    refine lv_dup hx hb d_C_build_65 rfl ?_
    refine va_get (ci := 6) (C := "ZipGuard$CodeSet") (T := F_C) (N := 4) hx hb ht zi_C hown hK hP 0 rfl rfl 3 (by decide) (ht _ zm_259) (fun _ h9 => h9) rfl d_C_build_66 ?_
    refine lv_aload_n hx hb d_C_build_69 rfl (lv_at hl 1 rfl) ?_
    refine va_get (ci := 6) (C := "ZipGuard$CodeSet") (T := F_C) (N := 4) hx hb ht zi_C hown hK hP 0 rfl rfl 0 (by decide) (ht _ zm_256) (fun _ h9 => h9) rfl d_C_build_70 ?_
    refine lv_iload hx hb d_C_build_73 (lv_at hl 0 rfl) ?_
    refine va_iald hx hb hK hP 1 0 rfl rfl (vp_in_nI (by omega) (by omega)) d_C_build_75 ?_
    refine lv_topi (fun x3 e_x3 => ?_)
    have e_x3 : x3 = nI (zcn d nn k) := by rw [e_x3, nI_clamp (by omega)]; exact hG k (by omega)
    subst e_x3
    refine lv_iadd hx hb d_C_build_76 ?_
    refine lv_topi (fun x4 e_x4 => ?_)
    have e_x4 : x4 = nI (zst d nn (k + 1)) := by rw [e_x4, nI_add]; simp only [zst]; rw [if_neg (by omega)]
    subst e_x4
    refine va_put (ci := 6) (v := .int (nI (zst d nn (k + 1)))) (ty := .int) (C := "ZipGuard$CodeSet") (T := F_C) (N := 4) hx hb ht zi_C ty_C tk_C nm_C hown hK hP hD hS 0 rfl rfl 3 (by decide) (ht _ zm_259) (fun _ h9 => h9) rfl (by decide +kernel) rfl rfl (Nat.le_of_ble_eq_true rfl) d_C_build_77 (fun H locs hP hD hS => ?_)
    have hP : va_P D zcl [(h0, .inr (6, [.ref a1, .ref a2, .ref a3, .int (nI (zst d nn (k + 1)))])), (a1, .inl (cA1, 16, .inl g1)), (a2, .inl (cA2, 16, .inl (upd g2 (nI k).toNatClampNeg (nI (zst d nn k))))), (a3, .inl (cA3, SS, .inl g3)), (ar, .inl (cR, N0, .inl f))] H := hP
    have hD : va_D A [(h0, .inr (6, [.ref a1, .ref a2, .ref a3, .int (nI (zst d nn (k + 1)))])), (a1, .inl (cA1, 16, .inl g1)), (a2, .inl (cA2, 16, .inl (upd g2 (nI k).toNatClampNeg (nI (zst d nn k))))), (a3, .inl (cA3, SS, .inl g3)), (ar, .inl (cR, N0, .inl f))] := hD
    refine lv_iinc (k := 0) (v := (nI k) + 1) (lv' := [(4, .int ((nI k) + 1)), (0, .ref h0), (1, .ref ar), (2, .int (nI fr)), (3, .int (nI nn))]) hx hb d_C_build_80 hl rfl rfl (by decide) rfl (fun ls hl => ?_)
    refine lv_goto (tgt := 46) hx hb d_C_build_83 (by decide) ?_
    rw [nI_1] at hl
    refine ih (k + 1) (upd g2 (nI k).toNatClampNeg (nI (zst d nn k))) H locs ls (by omega) (by omega) ?_ hP hD hS hl
    intro l hl1 hl2
    rw [nI_clamp (by omega)]
    by_cases hld : l = k
    · rw [hld, pk_us]
    · rw [pk_un hld, hI l hl1 (by omega)]
set_option maxHeartbeats 4000000 in
set_option maxRecDepth 100000 in
theorem lp_C_build_89 {p : Program} {l : Launch} {e : Env} {R : Room} {s : State} {m : MethodId} {args : Array Value} {below : List Frame} {meth : Method} {c : Code} {cells slots : Nat} {Q : State → Prop} {A : Nat → Prop} {D : va_G} (hx : p.tables.exec = Jvm.exec) (hb : c.code = prog_3_method_2_code) (hml : c.maxLocals = 6) (hown : s.vm.findClass "ZipGuard$CodeSet" = some m.cls) (ht : ∀ w ∈ zt, w.before args s = true) (hA : ∀ q, s.heap.size ≤ q → A q) (h0 : Nat) (a1 : Nat) (a2 : Nat) (a3 : Nat) (ar : Nat) (cA1 : ClassId) (cA2 : ClassId) (cA3 : ClassId) (cR : ClassId) (SS : Nat) (N0 : Nat) (f : Nat → Int32) (fr : Nat) (nn : Nat) (d : Nat → Nat) (g1 : Nat → Int32) (k0 : Int32) (hf : ∀ k, k < nn → f (fr + k) = nI (d k)) (hd : ∀ k, k < nn → d k ≤ 15) (hfr : fr + nn ≤ N0) (hSS : nn ≤ SS) (hN : N0 < 2 ^ 31) (hS2 : SS < 2 ^ 31) (hK : va_K D zcl [(cA1, .int), (cA2, .int), (cA3, .int), (cR, .int)] s) 
    (kk : ∀ (g2 : Nat → Int32) (g3 : Nat → Int32) (H : Heap) (locs : List Loc) (ls : Array Slot), (∀ i, i < nn → 1 ≤ d i → g3 (zst d nn (d i) + zcn d i (d i)) = nI i) → va_P D zcl [(h0, .inr (6, [.ref a1, .ref a2, .ref a3, .int k0])), (a1, .inl (cA1, 16, .inl g1)), (a2, .inl (cA2, 16, .inl g2)), (a3, .inl (cA3, SS, .inl g3)), (ar, .inl (cR, N0, .inl f))] H → va_D A [(h0, .inr (6, [.ref a1, .ref a2, .ref a3, .int k0])), (a1, .inl (cA1, 16, .inl g1)), (a2, .inl (cA2, 16, .inl g2)), (a3, .inl (cA3, SS, .inl g3)), (ar, .inl (cR, N0, .inl f))] → va_S A s.heap H locs → lv_has ls 6 [(4, .int (nI nn)), (0, .ref h0), (1, .ref ar), (2, .int (nI fr)), (3, .int (nI nn))] → W p l e R s m args below meth c H locs cells slots Q (F0 m 139 ls [])) :
    ∀ (j : Nat) (k : Nat) (g2 : Nat → Int32) (g3 : Nat → Int32) (H : Heap) (locs : List Loc) (ls : Array Slot), k + j = nn → ((∀ l, 1 ≤ l → l ≤ 15 → g2 l = nI (zst d nn l + zcn d k l)) ∧ (∀ i, i < k → 1 ≤ d i → g3 (zst d nn (d i) + zcn d i (d i)) = nI i)) → va_P D zcl [(h0, .inr (6, [.ref a1, .ref a2, .ref a3, .int k0])), (a1, .inl (cA1, 16, .inl g1)), (a2, .inl (cA2, 16, .inl g2)), (a3, .inl (cA3, SS, .inl g3)), (ar, .inl (cR, N0, .inl f))] H → va_D A [(h0, .inr (6, [.ref a1, .ref a2, .ref a3, .int k0])), (a1, .inl (cA1, 16, .inl g1)), (a2, .inl (cA2, 16, .inl g2)), (a3, .inl (cA3, SS, .inl g3)), (ar, .inl (cR, N0, .inl f))] → va_S A s.heap H locs → lv_has ls 6 [(4, .int (nI k)), (0, .ref h0), (1, .ref ar), (2, .int (nI fr)), (3, .int (nI nn))] → W p l e R s m args below meth c H locs cells slots Q (F0 m 89 ls []) := by
  intro j
  induction j with
  | zero =>
    intro k g2 g3 H locs ls hk hI hP hD hS hl
    have hk : k = nn := by omega
    subst hk
    refine lv_iload hx hb d_C_build_89 (lv_at hl 0 rfl) ?_
    refine lv_iload_n hx hb d_C_build_91 rfl (lv_at hl 4 rfl) ?_
    refine lv_icmp_ge (tgt := 139) hx hb d_C_build_92 (by decide) (fun _ => ?_) (fun h => absurd (nI_le (by omega) (by omega)) h)
    exact kk g2 g3 H locs ls hI.2 hP hD hS hl
  | succ j ih =>
    intro k g2 g3 H locs ls hk hI hP hD hS hl
    refine lv_iload hx hb d_C_build_89 (lv_at hl 0 rfl) ?_
    refine lv_iload_n hx hb d_C_build_91 rfl (lv_at hl 4 rfl) ?_
    refine lv_icmp_ge (tgt := 139) hx hb d_C_build_92 (by decide) (fun h => absurd h (nI_ge (by omega) (by omega))) (fun _ => ?_)
    have hdk := hd k (by omega)
    refine lv_aload_n hx hb d_C_build_95 rfl (lv_at hl 2 rfl) ?_
    refine lv_iload_n hx hb d_C_build_96 rfl (lv_at hl 3 rfl) ?_
    refine lv_iload hx hb d_C_build_97 (lv_at hl 0 rfl) ?_
    refine lv_iadd hx hb d_C_build_99 ?_
    refine va_iald hx hb hK hP 4 3 rfl rfl (by rw [nI_add]; exact vp_in_nI (by omega) (by omega)) d_C_build_100 ?_
    refine lv_topi (fun x3 e_x3 => ?_)
    have e_x3 : x3 = nI (d k) := by rw [e_x3, nI_add, nI_clamp (by omega)]; exact hf k (by omega)
    subst e_x3
    refine lv_istore (lv' := [(5, .int (nI (d k))), (4, .int (nI k)), (0, .ref h0), (1, .ref ar), (2, .int (nI fr)), (3, .int (nI nn))]) hx hb d_C_build_101 hl (by decide) rfl (fun ls hl => ?_)
    refine lv_iload hx hb d_C_build_103 (lv_at hl 0 rfl) ?_
    by_cases hd0 : d k = 0
    · skip
      refine lv_if_le (tgt := 133) hx hb d_C_build_105 (by decide) (fun _ => ?_) (fun h => absurd (by rw [hd0]; decide +kernel) h)
      refine lv_iinc (k := 1) (v := (nI k) + 1) (lv' := [(4, .int ((nI k) + 1)), (5, .int (nI (d k))), (0, .ref h0), (1, .ref ar), (2, .int (nI fr)), (3, .int (nI nn))]) hx hb d_C_build_133 hl rfl rfl (by decide) rfl (fun ls hl => ?_)
      refine lv_goto (tgt := 89) hx hb d_C_build_136 (by decide) ?_
      rw [nI_1] at hl
      refine ih (k + 1) g2 g3 H locs ls (by omega) ⟨?_, ?_⟩ hP hD hS (lv_sub hl [0, 2, 3, 4, 5] rfl)
      · intro l h1 h2
        rw [hI.1 l h1 h2]
        have : d k ≠ l := by omega
        simp [zcn, this]
      · intro i hi h1
        by_cases hik : i = k
        · rw [hik] at h1
          omega
        · exact hI.2 i (by omega) h1
    · skip
      have hd1 : 1 ≤ d k := by omega
      have hin := zst_in d (k := k) (n := nn) (by omega) hd1 hdk
      refine lv_if_le (tgt := 133) hx hb d_C_build_105 (by decide) (fun h => absurd h (nI_nle (by omega) (by omega))) (fun _ => ?_)
      refine lv_aload_n hx hb d_C_build_108 rfl (lv_at hl 2 rfl) ?_
      refine va_get (ci := 6) (C := "ZipGuard$CodeSet") (T := F_C) (N := 4) hx hb ht zi_C hown hK hP 0 rfl rfl 2 (by decide) (ht _ zm_258) (fun _ h9 => h9) rfl d_C_build_109 ?_
      refine lv_aload_n hx hb d_C_build_112 rfl (lv_at hl 2 rfl) ?_
      refine va_get (ci := 6) (C := "ZipGuard$CodeSet") (T := F_C) (N := 4) hx hb ht zi_C hown hK hP 0 rfl rfl 1 (by decide) (ht _ zm_257) (fun _ h9 => h9) rfl d_C_build_113 ?_
      refine lv_iload hx hb d_C_build_116 (lv_at hl 0 rfl) ?_
      refine va_iald hx hb hK hP 2 1 rfl rfl (vp_in_nI (by omega) (by omega)) d_C_build_118 ?_
      refine lv_topi (fun x6 e_x6 => ?_)
      have e_x6 : x6 = nI (zst d nn (d k) + zcn d k (d k)) := by rw [e_x6, nI_clamp (by omega)]; exact hI.1 (d k) hd1 hdk
      subst e_x6
      refine lv_iload hx hb d_C_build_119 (lv_at hl 1 rfl) ?_
      refine va_iast hx hb hK hP hD hS 3 2 rfl rfl (vp_in_nI (by omega) (by omega)) d_C_build_121 (fun H locs hP hD hS => ?_)
      have hP : va_P D zcl [(h0, .inr (6, [.ref a1, .ref a2, .ref a3, .int k0])), (a1, .inl (cA1, 16, .inl g1)), (a2, .inl (cA2, 16, .inl g2)), (a3, .inl (cA3, SS, .inl (upd g3 (nI (zst d nn (d k) + zcn d k (d k))).toNatClampNeg (nI k)))), (ar, .inl (cR, N0, .inl f))] H := hP
      have hD : va_D A [(h0, .inr (6, [.ref a1, .ref a2, .ref a3, .int k0])), (a1, .inl (cA1, 16, .inl g1)), (a2, .inl (cA2, 16, .inl g2)), (a3, .inl (cA3, SS, .inl (upd g3 (nI (zst d nn (d k) + zcn d k (d k))).toNatClampNeg (nI k)))), (ar, .inl (cR, N0, .inl f))] := hD
      refine lv_aload_n hx hb d_C_build_122 rfl (lv_at hl 2 rfl) ?_
      refine va_get (ci := 6) (C := "ZipGuard$CodeSet") (T := F_C) (N := 4) hx hb ht zi_C hown hK hP 0 rfl rfl 1 (by decide) (ht _ zm_257) (fun _ h9 => h9) rfl d_C_build_123 ?_
      refine lv_iload hx hb d_C_build_126 (lv_at hl 0 rfl) ?_
      refine lv_dup2_11 hx hb d_C_build_128 rfl rfl ?_
      refine va_iald hx hb hK hP 2 1 rfl rfl (vp_in_nI (by omega) (by omega)) d_C_build_129 ?_
      refine lv_iconst (v := 1) hx hb d_C_build_130 (by decide) ?_
      refine lv_iadd hx hb d_C_build_131 ?_
      refine va_iast hx hb hK hP hD hS 2 1 rfl rfl (vp_in_nI (by omega) (by omega)) d_C_build_132 (fun H locs hP hD hS => ?_)
      have hP : va_P D zcl [(h0, .inr (6, [.ref a1, .ref a2, .ref a3, .int k0])), (a1, .inl (cA1, 16, .inl g1)), (a2, .inl (cA2, 16, .inl (upd g2 (nI (d k)).toNatClampNeg ((g2 (nI (d k)).toNatClampNeg) + 1)))), (a3, .inl (cA3, SS, .inl (upd g3 (nI (zst d nn (d k) + zcn d k (d k))).toNatClampNeg (nI k)))), (ar, .inl (cR, N0, .inl f))] H := hP
      have hD : va_D A [(h0, .inr (6, [.ref a1, .ref a2, .ref a3, .int k0])), (a1, .inl (cA1, 16, .inl g1)), (a2, .inl (cA2, 16, .inl (upd g2 (nI (d k)).toNatClampNeg ((g2 (nI (d k)).toNatClampNeg) + 1)))), (a3, .inl (cA3, SS, .inl (upd g3 (nI (zst d nn (d k) + zcn d k (d k))).toNatClampNeg (nI k)))), (ar, .inl (cR, N0, .inl f))] := hD
      refine lv_iinc (k := 1) (v := (nI k) + 1) (lv' := [(4, .int ((nI k) + 1)), (5, .int (nI (d k))), (0, .ref h0), (1, .ref ar), (2, .int (nI fr)), (3, .int (nI nn))]) hx hb d_C_build_133 hl rfl rfl (by decide) rfl (fun ls hl => ?_)
      refine lv_goto (tgt := 89) hx hb d_C_build_136 (by decide) ?_
      rw [nI_1] at hl
      refine ih (k + 1) (upd g2 (nI (d k)).toNatClampNeg ((g2 (nI (d k)).toNatClampNeg) + 1)) (upd g3 (nI (zst d nn (d k) + zcn d k (d k))).toNatClampNeg (nI k)) H locs ls (by omega) ⟨?_, ?_⟩ hP hD hS (lv_sub hl [0, 2, 3, 4, 5] rfl)
      · intro l h1 h2
        rw [nI_clamp (by omega)]
        by_cases hld : l = d k
        · rw [hld, pk_us, hI.1 _ hd1 hdk, nI_1]
          simp [zcn, Nat.add_assoc]
        · rw [pk_un hld, hI.1 l h1 h2]
          simp [zcn, Ne.symm hld]
      · intro i hi h1
        rw [nI_clamp (by omega)]
        by_cases hik : i = k
        · rw [hik, pk_us]
        · rw [pk_un (zst_inj d (i := i) (k := k) (n := nn) (by omega) (by omega) h1 hd1)]
          exact hI.2 i (by omega) h1
set_option maxHeartbeats 4000000 in
set_option maxRecDepth 100000 in
theorem c_C_build (l : Launch) (D : va_G) (sz : Nat) (h0 : Nat) (a1 : Nat) (a2 : Nat) (a3 : Nat) (ar : Nat) (cA1 : ClassId) (cA2 : ClassId) (cA3 : ClassId) (cR : ClassId) (SS : Nat) (N0 : Nat) (f : Nat → Int32) (fr : Nat) (nn : Nat) (d : Nat → Nat) (k0 : Int32) (g1 : Nat → Int32) (g2 : Nat → Int32) (g3 : Nat → Int32) (hf : ∀ k, k < nn → f (fr + k) = nI (d k)) (hd : ∀ k, k < nn → d k ≤ 15) (hfr : fr + nn ≤ N0) (hSS : nn ≤ SS) (hN : N0 < 2 ^ 31) (hS2 : SS < 2 ^ 31) : Met l y_C_build (Cond.code y_C_build prog_3_method_2_code 6 (Option.none : Option Jvm.ClassFile.FieldType) :: zt) { frames := 1, cells := 0, slots := 0, locals := 23 } (zPc [.ref h0, .ref ar, .int (nI fr), .int (nI nn)] D [(h0, .inr (6, [.ref a1, .ref a2, .ref a3, .int k0])), (a1, .inl (cA1, 16, .inl g1)), (a2, .inl (cA2, 16, .inl g2)), (a3, .inl (cA3, SS, .inl g3)), (ar, .inl (cR, N0, .inl f))] [(cA1, .int), (cA2, .int), (cA3, .int), (cR, .int)] sz (fun _ => True)) (va_Qv (fun (u : (Nat → Int32) × (Nat → Int32) × (Nat → Int32)) => match u with | (G1, G2, G3) => (∀ l, l ≤ 15 → G1 l = nI (zcn d nn l)) ∧ (∀ i, i < nn → 1 ≤ d i → G3 (zst d nn (d i) + zcn d i (d i)) = nI i)) (fun u t => zB D ((fun (u : (Nat → Int32) × (Nat → Int32) × (Nat → Int32)) => match u with | (G1, G2, G3) => [(h0, .inr (6, [.ref a1, .ref a2, .ref a3, .int (nI (zst d nn 16))])), (a1, .inl (cA1, 16, .inl G1)), (a2, .inl (cA2, 16, .inl G2)), (a3, .inl (cA3, SS, .inl G3)), (ar, .inl (cR, N0, .inl f))]) u) ((fun (u : (Nat → Int32) × (Nat → Int32) × (Nat → Int32)) => match u with | (G1, G2, G3) => [(cA1, .int), (cA2, .int), (cA3, .int), (cR, .int)]) u) (va_A [(h0, .inr (6, [.ref a1, .ref a2, .ref a3, .int k0])), (a1, .inl (cA1, 16, .inl g1)), (a2, .inl (cA2, 16, .inl g2)), (a3, .inl (cA3, SS, .inl g3)), (ar, .inl (cR, N0, .inl f))] sz) t) (va_A [(h0, .inr (6, [.ref a1, .ref a2, .ref a3, .int k0])), (a1, .inl (cA1, 16, .inl g1)), (a2, .inl (cA2, 16, .inl g2)), (a3, .inl (cA3, SS, .inl g3)), (ar, .inl (cR, N0, .inl f))] sz)) 0 0 (va_A [(h0, .inr (6, [.ref a1, .ref a2, .ref a3, .int k0])), (a1, .inl (cA1, 16, .inl g1)), (a2, .inl (cA2, 16, .inl g2)), (a3, .inl (cA3, SS, .inl g3)), (ar, .inl (cR, N0, .inl f))] sz) :=
  zMet (Qf := fun A => va_Qv (fun (u : (Nat → Int32) × (Nat → Int32) × (Nat → Int32)) => match u with | (G1, G2, G3) => (∀ l, l ≤ 15 → G1 l = nI (zcn d nn l)) ∧ (∀ i, i < nn → 1 ≤ d i → G3 (zst d nn (d i) + zcn d i (d i)) = nI i)) (fun u t => zB D ((fun (u : (Nat → Int32) × (Nat → Int32) × (Nat → Int32)) => match u with | (G1, G2, G3) => [(h0, .inr (6, [.ref a1, .ref a2, .ref a3, .int (nI (zst d nn 16))])), (a1, .inl (cA1, 16, .inl G1)), (a2, .inl (cA2, 16, .inl G2)), (a3, .inl (cA3, SS, .inl G3)), (ar, .inl (cR, N0, .inl f))]) u) ((fun (u : (Nat → Int32) × (Nat → Int32) × (Nat → Int32)) => match u with | (G1, G2, G3) => [(cA1, .int), (cA2, .int), (cA3, .int), (cR, .int)]) u) A t) A) (by decide) (Nat.le_of_ble_eq_true rfl) (fun p e s m below meth c A ls hx hb hr hml hown ht hlk hnm hA hK hP hD hX hl => by
    have hS : va_S A s.heap s.heap [] := va_S.rf
    have hl : lv_has ls 6 [(0, .ref h0), (1, .ref ar), (2, .int (nI fr)), (3, .int (nI nn))] := hl
    refine lv_aload_n hx hb d_C_build_0 rfl (lv_at hl 0 rfl) ?_
    refine va_get (ci := 6) (C := "ZipGuard$CodeSet") (T := F_C) (N := 4) hx hb ht zi_C hown hK hP 0 rfl rfl 0 (by decide) (ht _ zm_256) (fun _ h9 => h9) rfl d_C_build_1 ?_
    refine lv_iconst (v := 0) hx hb d_C_build_4 (by decide) ?_
    refine zjv (wr := [(h0, .inr (6, [.ref a1, .ref a2, .ref a3, .int k0])), (a2, .inl (cA2, 16, .inl g2)), (a3, .inl (cA3, SS, .inl g3)), (ar, .inl (cR, N0, .inl f))]) (va_runS (As := [.ref a1, .int 0]) (rest := []) ⟨hx, hb, hml, hown, ht⟩ (c_J_fill l D _ a1 cA1 16 g1 0 (by decide)) (zcwS 2 ht zm_367 zm_368 zm_73 zm_369 rfl rfl (by decide +kernel) ⟨Nat.le_of_ble_eq_true rfl, Nat.le_of_ble_eq_true rfl⟩) (zpre zBlind_t hK hP hD [1] [0] rfl (by decide) rfl (fun _ _ _ => trivial)) rfl rfl hl.1 rfl (lv_room (Nat.le_of_ble_eq_true rfl)) d_C_build_5 ⟨Nat.le_of_ble_eq_true rfl, Nat.le_of_ble_eq_true rfl⟩) hK hP hD hS hA [1] [0, 2, 3, 4] rfl rfl (by decide) (by decide) (fun u H locs hp2 hP hD hK hS => ?_)
    have hP : va_P D zcl [(h0, .inr (6, [.ref a1, .ref a2, .ref a3, .int k0])), (a2, .inl (cA2, 16, .inl g2)), (a3, .inl (cA3, SS, .inl g3)), (ar, .inl (cR, N0, .inl f)), (a1, .inl (cA1, 16, .inl (zfill g1 0 0 16)))] H := hP
    have hD : va_D A [(h0, .inr (6, [.ref a1, .ref a2, .ref a3, .int k0])), (a2, .inl (cA2, 16, .inl g2)), (a3, .inl (cA3, SS, .inl g3)), (ar, .inl (cR, N0, .inl f)), (a1, .inl (cA1, 16, .inl (zfill g1 0 0 16)))] := hD
    have hK : va_K D zcl [(cA1, .int), (cA2, .int), (cA3, .int), (cR, .int), (cA1, .int)] s := hK
    have hP := hP.sub (ws' := [(h0, .inr (6, [.ref a1, .ref a2, .ref a3, .int k0])), (a1, .inl (cA1, 16, .inl (zfill g1 0 0 16))), (a2, .inl (cA2, 16, .inl g2)), (a3, .inl (cA3, SS, .inl g3)), (ar, .inl (cR, N0, .inl f))]) [0, 4, 1, 2, 3] rfl
    have hD := hD.sub (ws' := [(h0, .inr (6, [.ref a1, .ref a2, .ref a3, .int k0])), (a1, .inl (cA1, 16, .inl (zfill g1 0 0 16))), (a2, .inl (cA2, 16, .inl g2)), (a3, .inl (cA3, SS, .inl g3)), (ar, .inl (cR, N0, .inl f))]) [0, 4, 1, 2, 3] (by decide) rfl
    have hK := hK.sub (tys' := [(cA1, .int), (cA2, .int), (cA3, .int), (cR, .int)]) [0, 1, 2, 3] rfl
    refine lv_iconst (v := 0) hx hb d_C_build_8 (by decide) ?_
    refine lv_istore (lv' := [(4, .int 0), (0, .ref h0), (1, .ref ar), (2, .int (nI fr)), (3, .int (nI nn))]) hx hb d_C_build_9 hl (by decide) rfl (fun ls hl => ?_)
    refine lp_C_build_11 hx hb hml hown ht hA h0 a1 a2 a3 ar cA1 cA2 cA3 cR SS N0 f fr nn d k0 g2 g3 hf hd hfr hSS hN hS2 hK (fun g1 H locs ls hI1 hP hD hS hl => ?_) nn 0 _ H locs ls (by omega) (fun l hl9 => ?_) hP hD hS hl
    rotate_left
    · unfold zfill
      rw [if_pos (by omega)]
      rfl
    refine lv_aload_n hx hb d_C_build_38 rfl (lv_at hl 1 rfl) ?_
    refine lv_iconst (v := 0) hx hb d_C_build_39 (by decide) ?_
    refine va_put (ci := 6) (v := .int 0) (ty := .int) (C := "ZipGuard$CodeSet") (T := F_C) (N := 4) hx hb ht zi_C ty_C tk_C nm_C hown hK hP hD hS 0 rfl rfl 3 (by decide) (ht _ zm_259) (fun _ h9 => h9) rfl (by decide +kernel) rfl rfl (Nat.le_of_ble_eq_true rfl) d_C_build_40 (fun H locs hP hD hS => ?_)
    have hP : va_P D zcl [(h0, .inr (6, [.ref a1, .ref a2, .ref a3, .int 0])), (a1, .inl (cA1, 16, .inl g1)), (a2, .inl (cA2, 16, .inl g2)), (a3, .inl (cA3, SS, .inl g3)), (ar, .inl (cR, N0, .inl f))] H := hP
    have hD : va_D A [(h0, .inr (6, [.ref a1, .ref a2, .ref a3, .int 0])), (a1, .inl (cA1, 16, .inl g1)), (a2, .inl (cA2, 16, .inl g2)), (a3, .inl (cA3, SS, .inl g3)), (ar, .inl (cR, N0, .inl f))] := hD
    refine lv_iconst (v := 1) hx hb d_C_build_43 (by decide) ?_
    refine lv_istore (lv' := [(4, .int 1), (0, .ref h0), (1, .ref ar), (2, .int (nI fr)), (3, .int (nI nn))]) hx hb d_C_build_44 hl (by decide) rfl (fun ls hl => ?_)
    refine lp_C_build_46 hx hb hml hown ht hA h0 a1 a2 a3 ar cA1 cA2 cA3 cR SS N0 f fr nn d g1 g3 hf hd hfr hSS hN hS2 hI1 hK (fun g2 H locs ls hI2 hP hD hS hl => ?_) 15 1 g2 H locs ls (by omega) (by omega) (fun l h1 h2 => by omega) hP hD hS hl
    refine lv_iconst (v := 0) hx hb d_C_build_86 (by decide) ?_
    refine lv_istore (lv' := [(4, .int 0), (0, .ref h0), (1, .ref ar), (2, .int (nI fr)), (3, .int (nI nn))]) hx hb d_C_build_87 hl (by decide) rfl (fun ls hl => ?_)
    refine lp_C_build_89 hx hb hml hown ht hA h0 a1 a2 a3 ar cA1 cA2 cA3 cR SS N0 f fr nn d g1 (nI (zst d nn 16)) hf hd hfr hSS hN hS2 hK (fun g2 g3 H locs ls hI3 hP hD hS hl => ?_) nn 0 g2 g3 H locs ls (by omega) ⟨fun l h1 h2 => ?_, fun i hi => by omega⟩ hP hD hS hl
    rotate_left
    · rw [hI2 l h1 (by omega)]
      simp [zcn]
    exact zretv hx hb hr hlk hK hP hD hS (g1, g2, g3) [0, 1, 2, 3, 4] [0, 1, 2, 3] rfl (by decide) rfl (⟨hI1, hI3⟩) (Nat.le_of_ble_eq_true rfl) (Nat.le_of_ble_eq_true rfl) d_C_build_139)
end
section
set_option maxRecDepth 100000 in
theorem zm_0 : Jvm.Cond.selects "ZipGuard$Unpacker" ({ cls := "ZipGuard$Unpacker", name := "buildFixedCodes", desc := "()V" } : Jvm.MethodName) ({ cls := "ZipGuard$Unpacker", name := "buildFixedCodes", desc := "()V" } : Jvm.MethodName) ∈ zt := zt_mp (List.mem_of_getElem? (i := 0) rfl)
set_option maxRecDepth 100000 in
theorem zm_66 : Jvm.Cond.initialized "ZipGuard$Tape" ∈ zt := zt_m1 (List.mem_of_getElem? (i := 2) rfl)
set_option maxRecDepth 100000 in
theorem zm_67 : Jvm.Cond.initialized "ZipGuard$Directory" ∈ zt := zt_m1 (List.mem_of_getElem? (i := 3) rfl)
set_option maxRecDepth 100000 in
theorem zm_68 : Jvm.Cond.initialized "ZipGuard$Entry" ∈ zt := zt_m1 (List.mem_of_getElem? (i := 4) rfl)
set_option maxRecDepth 100000 in
theorem zm_69 : Jvm.Cond.initialized "ZipGuard$Target" ∈ zt := zt_m1 (List.mem_of_getElem? (i := 5) rfl)
set_option maxRecDepth 100000 in
theorem zm_70 : Jvm.Cond.initialized "ZipGuard$Unpacker" ∈ zt := zt_m1 (List.mem_of_getElem? (i := 6) rfl)
set_option maxRecDepth 100000 in
theorem zm_71 : Jvm.Cond.initialized "ZipGuard$BitReader" ∈ zt := zt_m1 (List.mem_of_getElem? (i := 7) rfl)
set_option maxRecDepth 100000 in
theorem zm_72 : Jvm.Cond.initialized "ZipGuard$CodeSet" ∈ zt := zt_m1 (List.mem_of_getElem? (i := 8) rfl)
set_option maxRecDepth 100000 in
theorem zm_86 : Jvm.Cond.methodLink "ZipGuard" (1 : Nat) ({ cls := "java/lang/Object", name := "<init>", desc := "()V" } : Jvm.MethodName) ∈ zt := zt_m1 (List.mem_of_getElem? (i := 22) rfl)
set_option maxRecDepth 100000 in
theorem zm_89 : Jvm.Cond.classLink "ZipGuard" (7 : Nat) "ZipGuard$Tape" ∈ zt := zt_m1 (List.mem_of_getElem? (i := 25) rfl)
set_option maxRecDepth 100000 in
theorem zm_90 : Jvm.Cond.instantiable "ZipGuard$Tape" (2 : Nat) ∈ zt := zt_m1 (List.mem_of_getElem? (i := 26) rfl)
set_option maxRecDepth 100000 in
theorem zm_91 : Jvm.Cond.methodLink "ZipGuard" (9 : Nat) ({ cls := "ZipGuard$Tape", name := "<init>", desc := "()V" } : Jvm.MethodName) ∈ zt := zt_m1 (List.mem_of_getElem? (i := 27) rfl)
set_option maxRecDepth 100000 in
theorem zm_92 : Jvm.Cond.instanceMethod ({ cls := "ZipGuard$Tape", name := "<init>", desc := "()V" } : Jvm.MethodName) ∈ zt := zt_m1 (List.mem_of_getElem? (i := 28) rfl)
set_option maxRecDepth 100000 in
theorem zm_93 : Jvm.Cond.code ({ cls := "ZipGuard$Tape", name := "<init>", desc := "()V" } : Jvm.MethodName) prog_6_method_1_code (1 : Nat) (Option.none : Option Jvm.ClassFile.FieldType) ∈ zt := zt_m1 (List.mem_of_getElem? (i := 29) rfl)
set_option maxRecDepth 100000 in
theorem zm_106 : Jvm.Cond.classLink "ZipGuard" (16 : Nat) "ZipGuard$Directory" ∈ zt := zt_m1 (List.mem_of_getElem? (i := 42) rfl)
set_option maxRecDepth 100000 in
theorem zm_107 : Jvm.Cond.instantiable "ZipGuard$Directory" (5 : Nat) ∈ zt := zt_m1 (List.mem_of_getElem? (i := 43) rfl)
set_option maxRecDepth 100000 in
theorem zm_108 : Jvm.Cond.methodLink "ZipGuard" (18 : Nat) ({ cls := "ZipGuard$Directory", name := "<init>", desc := "(LZipGuard$Tape;)V" } : Jvm.MethodName) ∈ zt := zt_m1 (List.mem_of_getElem? (i := 44) rfl)
set_option maxRecDepth 100000 in
theorem zm_109 : Jvm.Cond.instanceMethod ({ cls := "ZipGuard$Directory", name := "<init>", desc := "(LZipGuard$Tape;)V" } : Jvm.MethodName) ∈ zt := zt_m1 (List.mem_of_getElem? (i := 45) rfl)
set_option maxRecDepth 100000 in
theorem zm_110 : Jvm.Cond.code ({ cls := "ZipGuard$Directory", name := "<init>", desc := "(LZipGuard$Tape;)V" } : Jvm.MethodName) prog_4_method_1_code (3 : Nat) (Option.none : Option Jvm.ClassFile.FieldType) ∈ zt := zt_m1 (List.mem_of_getElem? (i := 46) rfl)
set_option maxRecDepth 100000 in
theorem zm_111 : Jvm.Cond.methodLink "ZipGuard$Directory" (3 : Nat) ({ cls := "java/lang/Object", name := "<init>", desc := "()V" } : Jvm.MethodName) ∈ zt := zt_m1 (List.mem_of_getElem? (i := 47) rfl)
set_option maxRecDepth 100000 in
theorem zm_112 : Jvm.Cond.classLink "ZipGuard$Directory" (15 : Nat) "ZipGuard$Entry" ∈ zt := zt_m1 (List.mem_of_getElem? (i := 48) rfl)
set_option maxRecDepth 100000 in
theorem zm_113 : Jvm.Cond.instantiable "ZipGuard$Entry" (12 : Nat) ∈ zt := zt_m1 (List.mem_of_getElem? (i := 49) rfl)
set_option maxRecDepth 100000 in
theorem zm_114 : Jvm.Cond.methodLink "ZipGuard$Directory" (21 : Nat) ({ cls := "ZipGuard$Entry", name := "<init>", desc := "()V" } : Jvm.MethodName) ∈ zt := zt_m1 (List.mem_of_getElem? (i := 50) rfl)
set_option maxRecDepth 100000 in
theorem zm_115 : Jvm.Cond.instanceMethod ({ cls := "ZipGuard$Entry", name := "<init>", desc := "()V" } : Jvm.MethodName) ∈ zt := zt_m1 (List.mem_of_getElem? (i := 51) rfl)
set_option maxRecDepth 100000 in
theorem zm_116 : Jvm.Cond.code ({ cls := "ZipGuard$Entry", name := "<init>", desc := "()V" } : Jvm.MethodName) prog_5_method_1_code (1 : Nat) (Option.none : Option Jvm.ClassFile.FieldType) ∈ zt := zt_m1 (List.mem_of_getElem? (i := 52) rfl)
set_option maxRecDepth 100000 in
theorem zm_179 : Jvm.Cond.fieldLink "ZipGuard$Directory" (17 : Nat) "ZipGuard$Directory" "entries" "[LZipGuard$Entry;" ∈ zt := zt_m1 (List.mem_of_getElem? (i := 115) rfl)
set_option maxRecDepth 100000 in
theorem zm_181 : Jvm.Cond.fieldLink "ZipGuard$Directory" (22 : Nat) "ZipGuard$Directory" "count" "I" ∈ zt := zt_m1 (List.mem_of_getElem? (i := 117) rfl)
set_option maxRecDepth 100000 in
theorem zm_183 : Jvm.Cond.fieldLink "ZipGuard$Directory" (26 : Nat) "ZipGuard$Directory" "isOpen" "Z" ∈ zt := zt_m1 (List.mem_of_getElem? (i := 119) rfl)
set_option maxRecDepth 100000 in
theorem zm_185 : Jvm.Cond.fieldLink "ZipGuard$Directory" (30 : Nat) "ZipGuard$Directory" "faultPlace" "I" ∈ zt := zt_m1 (List.mem_of_getElem? (i := 121) rfl)
set_option maxRecDepth 100000 in
theorem zm_187 : Jvm.Cond.fieldLink "ZipGuard$Directory" (9 : Nat) "ZipGuard$Directory" "tape" "LZipGuard$Tape;" ∈ zt := zt_m1 (List.mem_of_getElem? (i := 123) rfl)
set_option maxRecDepth 100000 in
theorem zm_199 : Jvm.Cond.classLink "ZipGuard" (25 : Nat) "ZipGuard$Target" ∈ zt := zt_m1 (List.mem_of_getElem? (i := 135) rfl)
set_option maxRecDepth 100000 in
theorem zm_200 : Jvm.Cond.instantiable "ZipGuard$Target" (5 : Nat) ∈ zt := zt_m1 (List.mem_of_getElem? (i := 136) rfl)
set_option maxRecDepth 100000 in
theorem zm_201 : Jvm.Cond.methodLink "ZipGuard" (27 : Nat) ({ cls := "ZipGuard$Target", name := "<init>", desc := "()V" } : Jvm.MethodName) ∈ zt := zt_m1 (List.mem_of_getElem? (i := 137) rfl)
set_option maxRecDepth 100000 in
theorem zm_202 : Jvm.Cond.instanceMethod ({ cls := "ZipGuard$Target", name := "<init>", desc := "()V" } : Jvm.MethodName) ∈ zt := zt_m1 (List.mem_of_getElem? (i := 138) rfl)
set_option maxRecDepth 100000 in
theorem zm_203 : Jvm.Cond.code ({ cls := "ZipGuard$Target", name := "<init>", desc := "()V" } : Jvm.MethodName) prog_7_method_1_code (1 : Nat) (Option.none : Option Jvm.ClassFile.FieldType) ∈ zt := zt_m1 (List.mem_of_getElem? (i := 139) rfl)
set_option maxRecDepth 100000 in
theorem zm_225 : Jvm.Cond.classLink "ZipGuard" (32 : Nat) "ZipGuard$Unpacker" ∈ zt := zt_m1 (List.mem_of_getElem? (i := 161) rfl)
set_option maxRecDepth 100000 in
theorem zm_226 : Jvm.Cond.instantiable "ZipGuard$Unpacker" (8 : Nat) ∈ zt := zt_m1 (List.mem_of_getElem? (i := 162) rfl)
set_option maxRecDepth 100000 in
theorem zm_227 : Jvm.Cond.methodLink "ZipGuard" (34 : Nat) ({ cls := "ZipGuard$Unpacker", name := "<init>", desc := "(LZipGuard$Tape;LZipGuard$Target;)V" } : Jvm.MethodName) ∈ zt := zt_m1 (List.mem_of_getElem? (i := 163) rfl)
set_option maxRecDepth 100000 in
theorem zm_228 : Jvm.Cond.instanceMethod ({ cls := "ZipGuard$Unpacker", name := "<init>", desc := "(LZipGuard$Tape;LZipGuard$Target;)V" } : Jvm.MethodName) ∈ zt := zt_m1 (List.mem_of_getElem? (i := 164) rfl)
set_option maxRecDepth 100000 in
theorem zm_229 : Jvm.Cond.code ({ cls := "ZipGuard$Unpacker", name := "<init>", desc := "(LZipGuard$Tape;LZipGuard$Target;)V" } : Jvm.MethodName) prog_8_method_1_code (3 : Nat) (Option.none : Option Jvm.ClassFile.FieldType) ∈ zt := zt_m1 (List.mem_of_getElem? (i := 165) rfl)
set_option maxRecDepth 100000 in
theorem zm_230 : Jvm.Cond.methodLink "ZipGuard$Unpacker" (1 : Nat) ({ cls := "java/lang/Object", name := "<init>", desc := "()V" } : Jvm.MethodName) ∈ zt := zt_m1 (List.mem_of_getElem? (i := 166) rfl)
set_option maxRecDepth 100000 in
theorem zm_231 : Jvm.Cond.classLink "ZipGuard$Unpacker" (13 : Nat) "ZipGuard$BitReader" ∈ zt := zt_m1 (List.mem_of_getElem? (i := 167) rfl)
set_option maxRecDepth 100000 in
theorem zm_232 : Jvm.Cond.instantiable "ZipGuard$BitReader" (4 : Nat) ∈ zt := zt_m1 (List.mem_of_getElem? (i := 168) rfl)
set_option maxRecDepth 100000 in
theorem zm_233 : Jvm.Cond.methodLink "ZipGuard$Unpacker" (15 : Nat) ({ cls := "ZipGuard$BitReader", name := "<init>", desc := "(LZipGuard$Tape;)V" } : Jvm.MethodName) ∈ zt := zt_m1 (List.mem_of_getElem? (i := 169) rfl)
set_option maxRecDepth 100000 in
theorem zm_234 : Jvm.Cond.instanceMethod ({ cls := "ZipGuard$BitReader", name := "<init>", desc := "(LZipGuard$Tape;)V" } : Jvm.MethodName) ∈ zt := zt_m1 (List.mem_of_getElem? (i := 170) rfl)
set_option maxRecDepth 100000 in
theorem zm_235 : Jvm.Cond.code ({ cls := "ZipGuard$BitReader", name := "<init>", desc := "(LZipGuard$Tape;)V" } : Jvm.MethodName) prog_2_method_1_code (2 : Nat) (Option.none : Option Jvm.ClassFile.FieldType) ∈ zt := zt_m1 (List.mem_of_getElem? (i := 171) rfl)
set_option maxRecDepth 100000 in
theorem zm_250 : Jvm.Cond.classLink "ZipGuard$Unpacker" (26 : Nat) "ZipGuard$CodeSet" ∈ zt := zt_m1 (List.mem_of_getElem? (i := 186) rfl)
set_option maxRecDepth 100000 in
theorem zm_251 : Jvm.Cond.instantiable "ZipGuard$CodeSet" (4 : Nat) ∈ zt := zt_m1 (List.mem_of_getElem? (i := 187) rfl)
set_option maxRecDepth 100000 in
theorem zm_252 : Jvm.Cond.methodLink "ZipGuard$Unpacker" (28 : Nat) ({ cls := "ZipGuard$CodeSet", name := "<init>", desc := "(I)V" } : Jvm.MethodName) ∈ zt := zt_m1 (List.mem_of_getElem? (i := 188) rfl)
set_option maxRecDepth 100000 in
theorem zm_253 : Jvm.Cond.instanceMethod ({ cls := "ZipGuard$CodeSet", name := "<init>", desc := "(I)V" } : Jvm.MethodName) ∈ zt := zt_m1 (List.mem_of_getElem? (i := 189) rfl)
set_option maxRecDepth 100000 in
theorem zm_254 : Jvm.Cond.code ({ cls := "ZipGuard$CodeSet", name := "<init>", desc := "(I)V" } : Jvm.MethodName) prog_3_method_1_code (2 : Nat) (Option.none : Option Jvm.ClassFile.FieldType) ∈ zt := zt_m1 (List.mem_of_getElem? (i := 190) rfl)
set_option maxRecDepth 100000 in
theorem zm_270 : Jvm.Cond.methodLink "ZipGuard$Unpacker" (47 : Nat) ({ cls := "ZipGuard$Unpacker", name := "buildFixedCodes", desc := "()V" } : Jvm.MethodName) ∈ zt := zt_m1 (List.mem_of_getElem? (i := 206) rfl)
set_option maxRecDepth 100000 in
theorem zm_271 : Jvm.Cond.instanceMethod ({ cls := "ZipGuard$Unpacker", name := "buildFixedCodes", desc := "()V" } : Jvm.MethodName) ∈ zt := zt_m1 (List.mem_of_getElem? (i := 207) rfl)
set_option maxRecDepth 100000 in
theorem zm_272 : Jvm.Cond.code ({ cls := "ZipGuard$Unpacker", name := "buildFixedCodes", desc := "()V" } : Jvm.MethodName) prog_8_method_2_code (1 : Nat) (Option.none : Option Jvm.ClassFile.FieldType) ∈ zt := zt_m1 (List.mem_of_getElem? (i := 208) rfl)
set_option maxRecDepth 100000 in
theorem zm_273 : Jvm.Cond.methodLink "ZipGuard$Unpacker" (50 : Nat) ({ cls := "java/util/Arrays", name := "fill", desc := "([IIII)V" } : Jvm.MethodName) ∈ zt := zt_m1 (List.mem_of_getElem? (i := 209) rfl)
set_option maxRecDepth 100000 in
theorem zm_274 : Jvm.Cond.static ({ cls := "java/util/Arrays", name := "fill", desc := "([IIII)V" } : Jvm.MethodName) ∈ zt := zt_m1 (List.mem_of_getElem? (i := 210) rfl)
set_option maxRecDepth 100000 in
theorem zm_275 : Jvm.Cond.code ({ cls := "java/util/Arrays", name := "fill", desc := "([IIII)V" } : Jvm.MethodName) prog_27_method_104_code (5 : Nat) (Option.none : Option Jvm.ClassFile.FieldType) ∈ zt := zt_m1 (List.mem_of_getElem? (i := 211) rfl)
set_option maxRecDepth 100000 in
theorem zm_363 : Jvm.Cond.methodLink "ZipGuard$Unpacker" (56 : Nat) ({ cls := "ZipGuard$CodeSet", name := "build", desc := "([III)V" } : Jvm.MethodName) ∈ zt := zt_m3 (List.mem_of_getElem? (i := 35) rfl)
set_option maxRecDepth 100000 in
theorem zm_364 : Jvm.Cond.instanceMethod ({ cls := "ZipGuard$CodeSet", name := "build", desc := "([III)V" } : Jvm.MethodName) ∈ zt := zt_m3 (List.mem_of_getElem? (i := 36) rfl)
set_option maxRecDepth 100000 in
theorem zm_365 : Jvm.Cond.selects "ZipGuard$CodeSet" ({ cls := "ZipGuard$CodeSet", name := "build", desc := "([III)V" } : Jvm.MethodName) ({ cls := "ZipGuard$CodeSet", name := "build", desc := "([III)V" } : Jvm.MethodName) ∈ zt := zt_m3 (List.mem_of_getElem? (i := 37) rfl)
set_option maxRecDepth 100000 in
theorem zm_366 : Jvm.Cond.code ({ cls := "ZipGuard$CodeSet", name := "build", desc := "([III)V" } : Jvm.MethodName) prog_3_method_2_code (6 : Nat) (Option.none : Option Jvm.ClassFile.FieldType) ∈ zt := zt_m3 (List.mem_of_getElem? (i := 38) rfl)
set_option maxRecDepth 100000 in
theorem zm_370 : Jvm.Cond.fieldLink "ZipGuard$Unpacker" (7 : Nat) "ZipGuard$Unpacker" "target" "LZipGuard$Target;" ∈ zt := zt_m3 (List.mem_of_getElem? (i := 42) rfl)
set_option maxRecDepth 100000 in
theorem zm_371 : Jvm.Cond.fieldLink "ZipGuard$Unpacker" (18 : Nat) "ZipGuard$Unpacker" "bits" "LZipGuard$BitReader;" ∈ zt := zt_m3 (List.mem_of_getElem? (i := 43) rfl)
set_option maxRecDepth 100000 in
theorem zm_372 : Jvm.Cond.fieldLink "ZipGuard$Unpacker" (22 : Nat) "ZipGuard$Unpacker" "row" "[I" ∈ zt := zt_m3 (List.mem_of_getElem? (i := 44) rfl)
set_option maxRecDepth 100000 in
theorem zm_373 : Jvm.Cond.fieldLink "ZipGuard$Unpacker" (31 : Nat) "ZipGuard$Unpacker" "fixedSymbols" "LZipGuard$CodeSet;" ∈ zt := zt_m3 (List.mem_of_getElem? (i := 45) rfl)
set_option maxRecDepth 100000 in
theorem zm_374 : Jvm.Cond.fieldLink "ZipGuard$Unpacker" (35 : Nat) "ZipGuard$Unpacker" "fixedDistances" "LZipGuard$CodeSet;" ∈ zt := zt_m3 (List.mem_of_getElem? (i := 46) rfl)
set_option maxRecDepth 100000 in
theorem zm_375 : Jvm.Cond.fieldLink "ZipGuard$Unpacker" (38 : Nat) "ZipGuard$Unpacker" "lengthCodes" "LZipGuard$CodeSet;" ∈ zt := zt_m3 (List.mem_of_getElem? (i := 47) rfl)
set_option maxRecDepth 100000 in
theorem zm_376 : Jvm.Cond.fieldLink "ZipGuard$Unpacker" (41 : Nat) "ZipGuard$Unpacker" "ownSymbols" "LZipGuard$CodeSet;" ∈ zt := zt_m3 (List.mem_of_getElem? (i := 48) rfl)
set_option maxRecDepth 100000 in
theorem zm_377 : Jvm.Cond.fieldLink "ZipGuard$Unpacker" (44 : Nat) "ZipGuard$Unpacker" "ownDistances" "LZipGuard$CodeSet;" ∈ zt := zt_m3 (List.mem_of_getElem? (i := 49) rfl)
set_option maxRecDepth 100000 in
theorem zm_395 : Jvm.Cond.fieldLink "ZipGuard" (10 : Nat) "ZipGuard" "tape" "LZipGuard$Tape;" ∈ zt := zt_m3 (List.mem_of_getElem? (i := 67) rfl)
set_option maxRecDepth 100000 in
theorem zm_396 : Jvm.Cond.fieldLink "ZipGuard" (21 : Nat) "ZipGuard" "directory" "LZipGuard$Directory;" ∈ zt := zt_m3 (List.mem_of_getElem? (i := 68) rfl)
set_option maxRecDepth 100000 in
theorem zm_397 : Jvm.Cond.fieldLink "ZipGuard" (28 : Nat) "ZipGuard" "target" "LZipGuard$Target;" ∈ zt := zt_m3 (List.mem_of_getElem? (i := 69) rfl)
set_option maxRecDepth 100000 in
theorem zm_398 : Jvm.Cond.fieldLink "ZipGuard" (37 : Nat) "ZipGuard" "unpacker" "LZipGuard$Unpacker;" ∈ zt := zt_m3 (List.mem_of_getElem? (i := 70) rfl)
theorem d_D_init_0 : decode prog_4_method_1_code 0 = .ok (.aload_n 0, 1) := by decide +kernel
theorem d_D_init_1 : decode prog_4_method_1_code 1 = .ok (.invokespecial 3, 3) := by decide +kernel
theorem d_D_init_4 : decode prog_4_method_1_code 4 = .ok (.aload_n 0, 1) := by decide +kernel
theorem d_D_init_5 : decode prog_4_method_1_code 5 = .ok (.aload_n 1, 1) := by decide +kernel
theorem d_D_init_6 : decode prog_4_method_1_code 6 = .ok (.putfield 9, 3) := by decide +kernel
theorem d_D_init_9 : decode prog_4_method_1_code 9 = .ok (.aload_n 0, 1) := by decide +kernel
theorem d_D_init_10 : decode prog_4_method_1_code 10 = .ok (.bipush 64, 2) := by decide +kernel
theorem d_D_init_12 : decode prog_4_method_1_code 12 = .ok (.anewarray 15, 3) := by decide +kernel
theorem d_D_init_15 : decode prog_4_method_1_code 15 = .ok (.putfield 17, 3) := by decide +kernel
theorem d_D_init_18 : decode prog_4_method_1_code 18 = .ok (.iconst 0, 1) := by decide +kernel
theorem d_D_init_19 : decode prog_4_method_1_code 19 = .ok (.istore_n 2, 1) := by decide +kernel
theorem d_D_init_20 : decode prog_4_method_1_code 20 = .ok (.iload_n 2, 1) := by decide +kernel
theorem d_D_init_21 : decode prog_4_method_1_code 21 = .ok (.bipush 64, 2) := by decide +kernel
theorem d_D_init_23 : decode prog_4_method_1_code 23 = .ok (.if_icmp .ge 22, 3) := by decide +kernel
theorem d_D_init_26 : decode prog_4_method_1_code 26 = .ok (.aload_n 0, 1) := by decide +kernel
theorem d_D_init_27 : decode prog_4_method_1_code 27 = .ok (.getfield 17, 3) := by decide +kernel
theorem d_D_init_30 : decode prog_4_method_1_code 30 = .ok (.iload_n 2, 1) := by decide +kernel
theorem d_D_init_31 : decode prog_4_method_1_code 31 = .ok (.new 15, 3) := by decide +kernel
theorem d_D_init_34 : decode prog_4_method_1_code 34 = .ok (.dup, 1) := by decide +kernel
theorem d_D_init_35 : decode prog_4_method_1_code 35 = .ok (.invokespecial 21, 3) := by decide +kernel
theorem d_D_init_38 : decode prog_4_method_1_code 38 = .ok (.aastore, 1) := by decide +kernel
theorem d_D_init_39 : decode prog_4_method_1_code 39 = .ok (.iinc 2 1, 3) := by decide +kernel
theorem d_D_init_42 : decode prog_4_method_1_code 42 = .ok (.goto (-22), 3) := by decide +kernel
theorem d_D_init_45 : decode prog_4_method_1_code 45 = .ok (.aload_n 0, 1) := by decide +kernel
theorem d_D_init_46 : decode prog_4_method_1_code 46 = .ok (.iconst 0, 1) := by decide +kernel
theorem d_D_init_47 : decode prog_4_method_1_code 47 = .ok (.putfield 22, 3) := by decide +kernel
theorem d_D_init_50 : decode prog_4_method_1_code 50 = .ok (.aload_n 0, 1) := by decide +kernel
theorem d_D_init_51 : decode prog_4_method_1_code 51 = .ok (.iconst 0, 1) := by decide +kernel
theorem d_D_init_52 : decode prog_4_method_1_code 52 = .ok (.putfield 26, 3) := by decide +kernel
theorem d_D_init_55 : decode prog_4_method_1_code 55 = .ok (.aload_n 0, 1) := by decide +kernel
theorem d_D_init_56 : decode prog_4_method_1_code 56 = .ok (.iconst (-1), 1) := by decide +kernel
theorem d_D_init_57 : decode prog_4_method_1_code 57 = .ok (.putfield 30, 3) := by decide +kernel
theorem d_D_init_60 : decode prog_4_method_1_code 60 = .ok (.return_, 1) := by decide +kernel
theorem d_G_init_0 : decode prog_1_method_1_code 0 = .ok (.aload_n 0, 1) := by decide +kernel
theorem d_G_init_1 : decode prog_1_method_1_code 1 = .ok (.invokespecial 1, 3) := by decide +kernel
theorem d_G_init_4 : decode prog_1_method_1_code 4 = .ok (.aload_n 0, 1) := by decide +kernel
theorem d_G_init_5 : decode prog_1_method_1_code 5 = .ok (.new 7, 3) := by decide +kernel
theorem d_G_init_8 : decode prog_1_method_1_code 8 = .ok (.dup, 1) := by decide +kernel
theorem d_G_init_9 : decode prog_1_method_1_code 9 = .ok (.invokespecial 9, 3) := by decide +kernel
theorem d_G_init_12 : decode prog_1_method_1_code 12 = .ok (.putfield 10, 3) := by decide +kernel
theorem d_G_init_15 : decode prog_1_method_1_code 15 = .ok (.aload_n 0, 1) := by decide +kernel
theorem d_G_init_16 : decode prog_1_method_1_code 16 = .ok (.new 16, 3) := by decide +kernel
theorem d_G_init_19 : decode prog_1_method_1_code 19 = .ok (.dup, 1) := by decide +kernel
theorem d_G_init_20 : decode prog_1_method_1_code 20 = .ok (.aload_n 0, 1) := by decide +kernel
theorem d_G_init_21 : decode prog_1_method_1_code 21 = .ok (.getfield 10, 3) := by decide +kernel
theorem d_G_init_24 : decode prog_1_method_1_code 24 = .ok (.invokespecial 18, 3) := by decide +kernel
theorem d_G_init_27 : decode prog_1_method_1_code 27 = .ok (.putfield 21, 3) := by decide +kernel
theorem d_G_init_30 : decode prog_1_method_1_code 30 = .ok (.aload_n 0, 1) := by decide +kernel
theorem d_G_init_31 : decode prog_1_method_1_code 31 = .ok (.new 25, 3) := by decide +kernel
theorem d_G_init_34 : decode prog_1_method_1_code 34 = .ok (.dup, 1) := by decide +kernel
theorem d_G_init_35 : decode prog_1_method_1_code 35 = .ok (.invokespecial 27, 3) := by decide +kernel
theorem d_G_init_38 : decode prog_1_method_1_code 38 = .ok (.putfield 28, 3) := by decide +kernel
theorem d_G_init_41 : decode prog_1_method_1_code 41 = .ok (.aload_n 0, 1) := by decide +kernel
theorem d_G_init_42 : decode prog_1_method_1_code 42 = .ok (.new 32, 3) := by decide +kernel
theorem d_G_init_45 : decode prog_1_method_1_code 45 = .ok (.dup, 1) := by decide +kernel
theorem d_G_init_46 : decode prog_1_method_1_code 46 = .ok (.aload_n 0, 1) := by decide +kernel
theorem d_G_init_47 : decode prog_1_method_1_code 47 = .ok (.getfield 10, 3) := by decide +kernel
theorem d_G_init_50 : decode prog_1_method_1_code 50 = .ok (.aload_n 0, 1) := by decide +kernel
theorem d_G_init_51 : decode prog_1_method_1_code 51 = .ok (.getfield 28, 3) := by decide +kernel
theorem d_G_init_54 : decode prog_1_method_1_code 54 = .ok (.invokespecial 34, 3) := by decide +kernel
theorem d_G_init_57 : decode prog_1_method_1_code 57 = .ok (.putfield 37, 3) := by decide +kernel
theorem d_G_init_60 : decode prog_1_method_1_code 60 = .ok (.return_, 1) := by decide +kernel
theorem d_U_buildFixedCodes_0 : decode prog_8_method_2_code 0 = .ok (.aload_n 0, 1) := by decide +kernel
theorem d_U_buildFixedCodes_1 : decode prog_8_method_2_code 1 = .ok (.getfield 22, 3) := by decide +kernel
theorem d_U_buildFixedCodes_4 : decode prog_8_method_2_code 4 = .ok (.iconst 0, 1) := by decide +kernel
theorem d_U_buildFixedCodes_5 : decode prog_8_method_2_code 5 = .ok (.sipush 144, 3) := by decide +kernel
theorem d_U_buildFixedCodes_8 : decode prog_8_method_2_code 8 = .ok (.bipush 8, 2) := by decide +kernel
theorem d_U_buildFixedCodes_10 : decode prog_8_method_2_code 10 = .ok (.invokestatic 50, 3) := by decide +kernel
theorem d_U_buildFixedCodes_13 : decode prog_8_method_2_code 13 = .ok (.aload_n 0, 1) := by decide +kernel
theorem d_U_buildFixedCodes_14 : decode prog_8_method_2_code 14 = .ok (.getfield 22, 3) := by decide +kernel
theorem d_U_buildFixedCodes_17 : decode prog_8_method_2_code 17 = .ok (.sipush 144, 3) := by decide +kernel
theorem d_U_buildFixedCodes_20 : decode prog_8_method_2_code 20 = .ok (.sipush 256, 3) := by decide +kernel
theorem d_U_buildFixedCodes_23 : decode prog_8_method_2_code 23 = .ok (.bipush 9, 2) := by decide +kernel
theorem d_U_buildFixedCodes_25 : decode prog_8_method_2_code 25 = .ok (.invokestatic 50, 3) := by decide +kernel
theorem d_U_buildFixedCodes_28 : decode prog_8_method_2_code 28 = .ok (.aload_n 0, 1) := by decide +kernel
theorem d_U_buildFixedCodes_29 : decode prog_8_method_2_code 29 = .ok (.getfield 22, 3) := by decide +kernel
theorem d_U_buildFixedCodes_32 : decode prog_8_method_2_code 32 = .ok (.sipush 256, 3) := by decide +kernel
theorem d_U_buildFixedCodes_35 : decode prog_8_method_2_code 35 = .ok (.sipush 280, 3) := by decide +kernel
theorem d_U_buildFixedCodes_38 : decode prog_8_method_2_code 38 = .ok (.bipush 7, 2) := by decide +kernel
theorem d_U_buildFixedCodes_40 : decode prog_8_method_2_code 40 = .ok (.invokestatic 50, 3) := by decide +kernel
theorem d_U_buildFixedCodes_43 : decode prog_8_method_2_code 43 = .ok (.aload_n 0, 1) := by decide +kernel
theorem d_U_buildFixedCodes_44 : decode prog_8_method_2_code 44 = .ok (.getfield 22, 3) := by decide +kernel
theorem d_U_buildFixedCodes_47 : decode prog_8_method_2_code 47 = .ok (.sipush 280, 3) := by decide +kernel
theorem d_U_buildFixedCodes_50 : decode prog_8_method_2_code 50 = .ok (.sipush 288, 3) := by decide +kernel
theorem d_U_buildFixedCodes_53 : decode prog_8_method_2_code 53 = .ok (.bipush 8, 2) := by decide +kernel
theorem d_U_buildFixedCodes_55 : decode prog_8_method_2_code 55 = .ok (.invokestatic 50, 3) := by decide +kernel
theorem d_U_buildFixedCodes_58 : decode prog_8_method_2_code 58 = .ok (.aload_n 0, 1) := by decide +kernel
theorem d_U_buildFixedCodes_59 : decode prog_8_method_2_code 59 = .ok (.getfield 22, 3) := by decide +kernel
theorem d_U_buildFixedCodes_62 : decode prog_8_method_2_code 62 = .ok (.sipush 288, 3) := by decide +kernel
theorem d_U_buildFixedCodes_65 : decode prog_8_method_2_code 65 = .ok (.sipush 320, 3) := by decide +kernel
theorem d_U_buildFixedCodes_68 : decode prog_8_method_2_code 68 = .ok (.iconst 5, 1) := by decide +kernel
theorem d_U_buildFixedCodes_69 : decode prog_8_method_2_code 69 = .ok (.invokestatic 50, 3) := by decide +kernel
theorem d_U_buildFixedCodes_72 : decode prog_8_method_2_code 72 = .ok (.aload_n 0, 1) := by decide +kernel
theorem d_U_buildFixedCodes_73 : decode prog_8_method_2_code 73 = .ok (.getfield 31, 3) := by decide +kernel
theorem d_U_buildFixedCodes_76 : decode prog_8_method_2_code 76 = .ok (.aload_n 0, 1) := by decide +kernel
theorem d_U_buildFixedCodes_77 : decode prog_8_method_2_code 77 = .ok (.getfield 22, 3) := by decide +kernel
theorem d_U_buildFixedCodes_80 : decode prog_8_method_2_code 80 = .ok (.iconst 0, 1) := by decide +kernel
theorem d_U_buildFixedCodes_81 : decode prog_8_method_2_code 81 = .ok (.sipush 288, 3) := by decide +kernel
theorem d_U_buildFixedCodes_84 : decode prog_8_method_2_code 84 = .ok (.invokevirtual 56, 3) := by decide +kernel
theorem d_U_buildFixedCodes_87 : decode prog_8_method_2_code 87 = .ok (.aload_n 0, 1) := by decide +kernel
theorem d_U_buildFixedCodes_88 : decode prog_8_method_2_code 88 = .ok (.getfield 35, 3) := by decide +kernel
theorem d_U_buildFixedCodes_91 : decode prog_8_method_2_code 91 = .ok (.aload_n 0, 1) := by decide +kernel
theorem d_U_buildFixedCodes_92 : decode prog_8_method_2_code 92 = .ok (.getfield 22, 3) := by decide +kernel
theorem d_U_buildFixedCodes_95 : decode prog_8_method_2_code 95 = .ok (.sipush 288, 3) := by decide +kernel
theorem d_U_buildFixedCodes_98 : decode prog_8_method_2_code 98 = .ok (.bipush 32, 2) := by decide +kernel
theorem d_U_buildFixedCodes_100 : decode prog_8_method_2_code 100 = .ok (.invokevirtual 56, 3) := by decide +kernel
theorem d_U_buildFixedCodes_103 : decode prog_8_method_2_code 103 = .ok (.return_, 1) := by decide +kernel
theorem d_U_init_0 : decode prog_8_method_1_code 0 = .ok (.aload_n 0, 1) := by decide +kernel
theorem d_U_init_1 : decode prog_8_method_1_code 1 = .ok (.invokespecial 1, 3) := by decide +kernel
theorem d_U_init_4 : decode prog_8_method_1_code 4 = .ok (.aload_n 0, 1) := by decide +kernel
theorem d_U_init_5 : decode prog_8_method_1_code 5 = .ok (.aload_n 2, 1) := by decide +kernel
theorem d_U_init_6 : decode prog_8_method_1_code 6 = .ok (.putfield 7, 3) := by decide +kernel
theorem d_U_init_9 : decode prog_8_method_1_code 9 = .ok (.aload_n 0, 1) := by decide +kernel
theorem d_U_init_10 : decode prog_8_method_1_code 10 = .ok (.new 13, 3) := by decide +kernel
theorem d_U_init_13 : decode prog_8_method_1_code 13 = .ok (.dup, 1) := by decide +kernel
theorem d_U_init_14 : decode prog_8_method_1_code 14 = .ok (.aload_n 1, 1) := by decide +kernel
theorem d_U_init_15 : decode prog_8_method_1_code 15 = .ok (.invokespecial 15, 3) := by decide +kernel
theorem d_U_init_18 : decode prog_8_method_1_code 18 = .ok (.putfield 18, 3) := by decide +kernel
theorem d_U_init_21 : decode prog_8_method_1_code 21 = .ok (.aload_n 0, 1) := by decide +kernel
theorem d_U_init_22 : decode prog_8_method_1_code 22 = .ok (.sipush 320, 3) := by decide +kernel
theorem d_U_init_25 : decode prog_8_method_1_code 25 = .ok (.newarray .int, 2) := by decide +kernel
theorem d_U_init_27 : decode prog_8_method_1_code 27 = .ok (.putfield 22, 3) := by decide +kernel
theorem d_U_init_30 : decode prog_8_method_1_code 30 = .ok (.aload_n 0, 1) := by decide +kernel
theorem d_U_init_31 : decode prog_8_method_1_code 31 = .ok (.new 26, 3) := by decide +kernel
theorem d_U_init_34 : decode prog_8_method_1_code 34 = .ok (.dup, 1) := by decide +kernel
theorem d_U_init_35 : decode prog_8_method_1_code 35 = .ok (.sipush 288, 3) := by decide +kernel
theorem d_U_init_38 : decode prog_8_method_1_code 38 = .ok (.invokespecial 28, 3) := by decide +kernel
theorem d_U_init_41 : decode prog_8_method_1_code 41 = .ok (.putfield 31, 3) := by decide +kernel
theorem d_U_init_44 : decode prog_8_method_1_code 44 = .ok (.aload_n 0, 1) := by decide +kernel
theorem d_U_init_45 : decode prog_8_method_1_code 45 = .ok (.new 26, 3) := by decide +kernel
theorem d_U_init_48 : decode prog_8_method_1_code 48 = .ok (.dup, 1) := by decide +kernel
theorem d_U_init_49 : decode prog_8_method_1_code 49 = .ok (.bipush 32, 2) := by decide +kernel
theorem d_U_init_51 : decode prog_8_method_1_code 51 = .ok (.invokespecial 28, 3) := by decide +kernel
theorem d_U_init_54 : decode prog_8_method_1_code 54 = .ok (.putfield 35, 3) := by decide +kernel
theorem d_U_init_57 : decode prog_8_method_1_code 57 = .ok (.aload_n 0, 1) := by decide +kernel
theorem d_U_init_58 : decode prog_8_method_1_code 58 = .ok (.new 26, 3) := by decide +kernel
theorem d_U_init_61 : decode prog_8_method_1_code 61 = .ok (.dup, 1) := by decide +kernel
theorem d_U_init_62 : decode prog_8_method_1_code 62 = .ok (.bipush 19, 2) := by decide +kernel
theorem d_U_init_64 : decode prog_8_method_1_code 64 = .ok (.invokespecial 28, 3) := by decide +kernel
theorem d_U_init_67 : decode prog_8_method_1_code 67 = .ok (.putfield 38, 3) := by decide +kernel
theorem d_U_init_70 : decode prog_8_method_1_code 70 = .ok (.aload_n 0, 1) := by decide +kernel
theorem d_U_init_71 : decode prog_8_method_1_code 71 = .ok (.new 26, 3) := by decide +kernel
theorem d_U_init_74 : decode prog_8_method_1_code 74 = .ok (.dup, 1) := by decide +kernel
theorem d_U_init_75 : decode prog_8_method_1_code 75 = .ok (.sipush 286, 3) := by decide +kernel
theorem d_U_init_78 : decode prog_8_method_1_code 78 = .ok (.invokespecial 28, 3) := by decide +kernel
theorem d_U_init_81 : decode prog_8_method_1_code 81 = .ok (.putfield 41, 3) := by decide +kernel
theorem d_U_init_84 : decode prog_8_method_1_code 84 = .ok (.aload_n 0, 1) := by decide +kernel
theorem d_U_init_85 : decode prog_8_method_1_code 85 = .ok (.new 26, 3) := by decide +kernel
theorem d_U_init_88 : decode prog_8_method_1_code 88 = .ok (.dup, 1) := by decide +kernel
theorem d_U_init_89 : decode prog_8_method_1_code 89 = .ok (.bipush 30, 2) := by decide +kernel
theorem d_U_init_91 : decode prog_8_method_1_code 91 = .ok (.invokespecial 28, 3) := by decide +kernel
theorem d_U_init_94 : decode prog_8_method_1_code 94 = .ok (.putfield 44, 3) := by decide +kernel
theorem d_U_init_97 : decode prog_8_method_1_code 97 = .ok (.aload_n 0, 1) := by decide +kernel
theorem d_U_init_98 : decode prog_8_method_1_code 98 = .ok (.invokevirtual 47, 3) := by decide +kernel
theorem d_U_init_101 : decode prog_8_method_1_code 101 = .ok (.return_, 1) := by decide +kernel
def zfix (k : Nat) : Nat := if k < 144 then 8 else if k < 256 then 9 else if k < 280 then 7 else 8
def zfixF (f : Nat → Int32) : Nat → Int32 := zfill (zfill (zfill (zfill (zfill f 8 0 144) 9 144 256) 7 256 280) 8 280 288) 5 288 320
theorem zfix_s (f : Nat → Int32) : ∀ k, k < 288 → zfixF f (0 + k) = nI (zfix k) := by
  intro k hk
  unfold zfixF
  simp only [zfill, zfix, Nat.zero_add]
  by_cases h1 : k < 144
  · rw [if_neg (by omega), if_neg (by omega), if_neg (by omega), if_neg (by omega), if_pos (by omega), if_pos h1]; rfl
  · by_cases h2 : k < 256
    · rw [if_neg (by omega), if_neg (by omega), if_neg (by omega), if_pos (by omega), if_neg h1, if_pos h2]; rfl
    · by_cases h3 : k < 280
      · rw [if_neg (by omega), if_neg (by omega), if_pos (by omega), if_neg h1, if_neg h2, if_pos h3]; rfl
      · rw [if_neg (by omega), if_pos (by omega), if_neg h1, if_neg h2, if_neg h3]; rfl
theorem zfix_d (f : Nat → Int32) : ∀ k, k < 32 → zfixF f (288 + k) = nI ((fun _ => 5) k) := by
  intro k hk
  unfold zfixF
  simp only [zfill]
  rw [if_pos (by omega)]; rfl
theorem zfix_15 : ∀ k, k < 288 → zfix k ≤ 15 := by
  intro k hk
  unfold zfix
  split
  · omega
  · split
    · omega
    · split <;> omega
theorem zBlind_AO : zBlind (va_AO "ZipGuard$Entry") := fun _ _ h _ hx => hx.moved h
set_option maxHeartbeats 4000000 in
set_option maxRecDepth 100000 in
theorem c_U_bfc (l : Launch) (D : va_G) (sz : Nat) (h0 : Nat) (tg : Nat) (bt : Nat) (ar : Nat) (fs : Nat) (fd : Nat) (lc : Nat) (os : Nat) (od : Nat) (s1 : Nat) (s2 : Nat) (s3 : Nat) (d1 : Nat) (d2 : Nat) (d3 : Nat) (cR : ClassId) (cS1 : ClassId) (cS2 : ClassId) (cS3 : ClassId) (cD1 : ClassId) (cD2 : ClassId) (cD3 : ClassId) (f : Nat → Int32) (k1 : Int32) (k2 : Int32) (u1 : Nat → Int32) (u2 : Nat → Int32) (u3 : Nat → Int32) (v1 : Nat → Int32) (v2 : Nat → Int32) (v3 : Nat → Int32)  : Met l y_U_buildFixedCodes (Cond.code y_U_buildFixedCodes prog_8_method_2_code 1 (Option.none : Option Jvm.ClassFile.FieldType) :: zt) { frames := 2, cells := 0, slots := 0, locals := 48 } (zPc [.ref h0] D [(h0, .inr (4, [.ref tg, .ref bt, .ref ar, .ref fs, .ref fd, .ref lc, .ref os, .ref od])), (ar, .inl (cR, 320, .inl f)), (fs, .inr (6, [.ref s1, .ref s2, .ref s3, .int k1])), (s1, .inl (cS1, 16, .inl u1)), (s2, .inl (cS2, 16, .inl u2)), (s3, .inl (cS3, 288, .inl u3)), (fd, .inr (6, [.ref d1, .ref d2, .ref d3, .int k2])), (d1, .inl (cD1, 16, .inl v1)), (d2, .inl (cD2, 16, .inl v2)), (d3, .inl (cD3, 32, .inl v3))] [(cR, .int), (cS1, .int), (cS2, .int), (cS3, .int), (cD1, .int), (cD2, .int), (cD3, .int)] sz (fun _ => True)) (va_Qv (fun (u : ((Nat → Int32) × (Nat → Int32) × (Nat → Int32)) × ((Nat → Int32) × (Nat → Int32) × (Nat → Int32))) => match u with | ((G1, G2, G3), (E1, E2, E3)) => ((∀ l, l ≤ 15 → G1 l = nI (zcn zfix 288 l)) ∧ (∀ i, i < 288 → 1 ≤ zfix i → G3 (zst zfix 288 (zfix i) + zcn zfix i (zfix i)) = nI i)) ∧ ((∀ l, l ≤ 15 → E1 l = nI (zcn (fun _ => 5) 32 l)) ∧ (∀ i, i < 32 → 1 ≤ 5 → E3 (zst (fun _ => 5) 32 5 + zcn (fun _ => 5) i 5) = nI i))) (fun u t => zB D ((fun (u : ((Nat → Int32) × (Nat → Int32) × (Nat → Int32)) × ((Nat → Int32) × (Nat → Int32) × (Nat → Int32))) => match u with | ((G1, G2, G3), (E1, E2, E3)) => [(h0, .inr (4, [.ref tg, .ref bt, .ref ar, .ref fs, .ref fd, .ref lc, .ref os, .ref od])), (ar, .inl (cR, 320, .inl (zfixF f))), (fs, .inr (6, [.ref s1, .ref s2, .ref s3, .int (nI (zst zfix 288 16))])), (s1, .inl (cS1, 16, .inl G1)), (s2, .inl (cS2, 16, .inl G2)), (s3, .inl (cS3, 288, .inl G3)), (fd, .inr (6, [.ref d1, .ref d2, .ref d3, .int (nI (zst (fun _ => 5) 32 16))])), (d1, .inl (cD1, 16, .inl E1)), (d2, .inl (cD2, 16, .inl E2)), (d3, .inl (cD3, 32, .inl E3))]) u) ((fun (u : ((Nat → Int32) × (Nat → Int32) × (Nat → Int32)) × ((Nat → Int32) × (Nat → Int32) × (Nat → Int32))) => match u with | ((G1, G2, G3), (E1, E2, E3)) => [(cR, .int), (cS1, .int), (cS2, .int), (cS3, .int), (cD1, .int), (cD2, .int), (cD3, .int)]) u) (va_A [(h0, .inr (4, [.ref tg, .ref bt, .ref ar, .ref fs, .ref fd, .ref lc, .ref os, .ref od])), (ar, .inl (cR, 320, .inl f)), (fs, .inr (6, [.ref s1, .ref s2, .ref s3, .int k1])), (s1, .inl (cS1, 16, .inl u1)), (s2, .inl (cS2, 16, .inl u2)), (s3, .inl (cS3, 288, .inl u3)), (fd, .inr (6, [.ref d1, .ref d2, .ref d3, .int k2])), (d1, .inl (cD1, 16, .inl v1)), (d2, .inl (cD2, 16, .inl v2)), (d3, .inl (cD3, 32, .inl v3))] sz) t) (va_A [(h0, .inr (4, [.ref tg, .ref bt, .ref ar, .ref fs, .ref fd, .ref lc, .ref os, .ref od])), (ar, .inl (cR, 320, .inl f)), (fs, .inr (6, [.ref s1, .ref s2, .ref s3, .int k1])), (s1, .inl (cS1, 16, .inl u1)), (s2, .inl (cS2, 16, .inl u2)), (s3, .inl (cS3, 288, .inl u3)), (fd, .inr (6, [.ref d1, .ref d2, .ref d3, .int k2])), (d1, .inl (cD1, 16, .inl v1)), (d2, .inl (cD2, 16, .inl v2)), (d3, .inl (cD3, 32, .inl v3))] sz)) 0 0 (va_A [(h0, .inr (4, [.ref tg, .ref bt, .ref ar, .ref fs, .ref fd, .ref lc, .ref os, .ref od])), (ar, .inl (cR, 320, .inl f)), (fs, .inr (6, [.ref s1, .ref s2, .ref s3, .int k1])), (s1, .inl (cS1, 16, .inl u1)), (s2, .inl (cS2, 16, .inl u2)), (s3, .inl (cS3, 288, .inl u3)), (fd, .inr (6, [.ref d1, .ref d2, .ref d3, .int k2])), (d1, .inl (cD1, 16, .inl v1)), (d2, .inl (cD2, 16, .inl v2)), (d3, .inl (cD3, 32, .inl v3))] sz) :=
  zMet (Qf := fun A => va_Qv (fun (u : ((Nat → Int32) × (Nat → Int32) × (Nat → Int32)) × ((Nat → Int32) × (Nat → Int32) × (Nat → Int32))) => match u with | ((G1, G2, G3), (E1, E2, E3)) => ((∀ l, l ≤ 15 → G1 l = nI (zcn zfix 288 l)) ∧ (∀ i, i < 288 → 1 ≤ zfix i → G3 (zst zfix 288 (zfix i) + zcn zfix i (zfix i)) = nI i)) ∧ ((∀ l, l ≤ 15 → E1 l = nI (zcn (fun _ => 5) 32 l)) ∧ (∀ i, i < 32 → 1 ≤ 5 → E3 (zst (fun _ => 5) 32 5 + zcn (fun _ => 5) i 5) = nI i))) (fun u t => zB D ((fun (u : ((Nat → Int32) × (Nat → Int32) × (Nat → Int32)) × ((Nat → Int32) × (Nat → Int32) × (Nat → Int32))) => match u with | ((G1, G2, G3), (E1, E2, E3)) => [(h0, .inr (4, [.ref tg, .ref bt, .ref ar, .ref fs, .ref fd, .ref lc, .ref os, .ref od])), (ar, .inl (cR, 320, .inl (zfixF f))), (fs, .inr (6, [.ref s1, .ref s2, .ref s3, .int (nI (zst zfix 288 16))])), (s1, .inl (cS1, 16, .inl G1)), (s2, .inl (cS2, 16, .inl G2)), (s3, .inl (cS3, 288, .inl G3)), (fd, .inr (6, [.ref d1, .ref d2, .ref d3, .int (nI (zst (fun _ => 5) 32 16))])), (d1, .inl (cD1, 16, .inl E1)), (d2, .inl (cD2, 16, .inl E2)), (d3, .inl (cD3, 32, .inl E3))]) u) ((fun (u : ((Nat → Int32) × (Nat → Int32) × (Nat → Int32)) × ((Nat → Int32) × (Nat → Int32) × (Nat → Int32))) => match u with | ((G1, G2, G3), (E1, E2, E3)) => [(cR, .int), (cS1, .int), (cS2, .int), (cS3, .int), (cD1, .int), (cD2, .int), (cD3, .int)]) u) A t) A) (by decide) (Nat.le_of_ble_eq_true rfl) (fun p e s m below meth c A ls hx hb hr hml hown ht hlk hnm hA hK hP hD hX hl => by
    have hS : va_S A s.heap s.heap [] := va_S.rf
    have hl : lv_has ls 1 [(0, .ref h0)] := hl
    refine lv_aload_n hx hb d_U_buildFixedCodes_0 rfl (lv_at hl 0 rfl) ?_
    refine va_get (ci := 4) (C := "ZipGuard$Unpacker") (T := F_U) (N := 8) hx hb ht zi_U hown hK hP 0 rfl rfl 2 (by decide) (ht _ zm_372) (fun _ h9 => h9) rfl d_U_buildFixedCodes_1 ?_
    refine lv_iconst (v := 0) hx hb d_U_buildFixedCodes_4 (by decide) ?_
    refine lv_sipush (v := 144) hx hb d_U_buildFixedCodes_5 (by decide) ?_
    refine lv_bipush (v := 8) hx hb d_U_buildFixedCodes_8 (by decide) ?_
    refine zjv (wr := [(h0, .inr (4, [.ref tg, .ref bt, .ref ar, .ref fs, .ref fd, .ref lc, .ref os, .ref od])), (fs, .inr (6, [.ref s1, .ref s2, .ref s3, .int k1])), (s1, .inl (cS1, 16, .inl u1)), (s2, .inl (cS2, 16, .inl u2)), (s3, .inl (cS3, 288, .inl u3)), (fd, .inr (6, [.ref d1, .ref d2, .ref d3, .int k2])), (d1, .inl (cD1, 16, .inl v1)), (d2, .inl (cD2, 16, .inl v2)), (d3, .inl (cD3, 32, .inl v3))]) (va_runS (As := [.ref ar, .int 0, .int 144, .int 8]) (rest := []) ⟨hx, hb, hml, hown, ht⟩ (c_J_fillr l D _ ar cR 320 f 0 144 8 (by decide) (by decide) (by decide)) (zcwS 4 ht zm_273 zm_274 zm_73 zm_275 rfl rfl (by decide +kernel) ⟨Nat.le_of_ble_eq_true rfl, Nat.le_of_ble_eq_true rfl⟩) (zpre zBlind_t hK hP hD [1] [0] rfl (by decide) rfl (fun _ _ _ => trivial)) rfl rfl hl.1 rfl (lv_room (Nat.le_of_ble_eq_true rfl)) d_U_buildFixedCodes_10 ⟨Nat.le_of_ble_eq_true rfl, Nat.le_of_ble_eq_true rfl⟩) hK hP hD hS hA [1] [0, 2, 3, 4, 5, 6, 7, 8, 9] rfl rfl (by decide) (by decide) (fun u H locs hp2 hP hD hK hS => ?_)
    have hP : va_P D zcl [(h0, .inr (4, [.ref tg, .ref bt, .ref ar, .ref fs, .ref fd, .ref lc, .ref os, .ref od])), (fs, .inr (6, [.ref s1, .ref s2, .ref s3, .int k1])), (s1, .inl (cS1, 16, .inl u1)), (s2, .inl (cS2, 16, .inl u2)), (s3, .inl (cS3, 288, .inl u3)), (fd, .inr (6, [.ref d1, .ref d2, .ref d3, .int k2])), (d1, .inl (cD1, 16, .inl v1)), (d2, .inl (cD2, 16, .inl v2)), (d3, .inl (cD3, 32, .inl v3)), (ar, .inl (cR, 320, .inl (zfill f 8 0 144)))] H := hP
    have hD : va_D A [(h0, .inr (4, [.ref tg, .ref bt, .ref ar, .ref fs, .ref fd, .ref lc, .ref os, .ref od])), (fs, .inr (6, [.ref s1, .ref s2, .ref s3, .int k1])), (s1, .inl (cS1, 16, .inl u1)), (s2, .inl (cS2, 16, .inl u2)), (s3, .inl (cS3, 288, .inl u3)), (fd, .inr (6, [.ref d1, .ref d2, .ref d3, .int k2])), (d1, .inl (cD1, 16, .inl v1)), (d2, .inl (cD2, 16, .inl v2)), (d3, .inl (cD3, 32, .inl v3)), (ar, .inl (cR, 320, .inl (zfill f 8 0 144)))] := hD
    have hK : va_K D zcl [(cR, .int), (cS1, .int), (cS2, .int), (cS3, .int), (cD1, .int), (cD2, .int), (cD3, .int), (cR, .int)] s := hK
    have hP := hP.sub (ws' := [(h0, .inr (4, [.ref tg, .ref bt, .ref ar, .ref fs, .ref fd, .ref lc, .ref os, .ref od])), (ar, .inl (cR, 320, .inl (zfill f 8 0 144))), (fs, .inr (6, [.ref s1, .ref s2, .ref s3, .int k1])), (s1, .inl (cS1, 16, .inl u1)), (s2, .inl (cS2, 16, .inl u2)), (s3, .inl (cS3, 288, .inl u3)), (fd, .inr (6, [.ref d1, .ref d2, .ref d3, .int k2])), (d1, .inl (cD1, 16, .inl v1)), (d2, .inl (cD2, 16, .inl v2)), (d3, .inl (cD3, 32, .inl v3))]) [0, 9, 1, 2, 3, 4, 5, 6, 7, 8] rfl
    have hD := hD.sub (ws' := [(h0, .inr (4, [.ref tg, .ref bt, .ref ar, .ref fs, .ref fd, .ref lc, .ref os, .ref od])), (ar, .inl (cR, 320, .inl (zfill f 8 0 144))), (fs, .inr (6, [.ref s1, .ref s2, .ref s3, .int k1])), (s1, .inl (cS1, 16, .inl u1)), (s2, .inl (cS2, 16, .inl u2)), (s3, .inl (cS3, 288, .inl u3)), (fd, .inr (6, [.ref d1, .ref d2, .ref d3, .int k2])), (d1, .inl (cD1, 16, .inl v1)), (d2, .inl (cD2, 16, .inl v2)), (d3, .inl (cD3, 32, .inl v3))]) [0, 9, 1, 2, 3, 4, 5, 6, 7, 8] (by decide) rfl
    have hK := hK.sub (tys' := [(cR, .int), (cS1, .int), (cS2, .int), (cS3, .int), (cD1, .int), (cD2, .int), (cD3, .int)]) [0, 1, 2, 3, 4, 5, 6] rfl
    refine lv_aload_n hx hb d_U_buildFixedCodes_13 rfl (lv_at hl 0 rfl) ?_
    refine va_get (ci := 4) (C := "ZipGuard$Unpacker") (T := F_U) (N := 8) hx hb ht zi_U hown hK hP 0 rfl rfl 2 (by decide) (ht _ zm_372) (fun _ h9 => h9) rfl d_U_buildFixedCodes_14 ?_
    refine lv_sipush (v := 144) hx hb d_U_buildFixedCodes_17 (by decide) ?_
    refine lv_sipush (v := 256) hx hb d_U_buildFixedCodes_20 (by decide) ?_
    refine lv_bipush (v := 9) hx hb d_U_buildFixedCodes_23 (by decide) ?_
    refine zjv (wr := [(h0, .inr (4, [.ref tg, .ref bt, .ref ar, .ref fs, .ref fd, .ref lc, .ref os, .ref od])), (fs, .inr (6, [.ref s1, .ref s2, .ref s3, .int k1])), (s1, .inl (cS1, 16, .inl u1)), (s2, .inl (cS2, 16, .inl u2)), (s3, .inl (cS3, 288, .inl u3)), (fd, .inr (6, [.ref d1, .ref d2, .ref d3, .int k2])), (d1, .inl (cD1, 16, .inl v1)), (d2, .inl (cD2, 16, .inl v2)), (d3, .inl (cD3, 32, .inl v3))]) (va_runS (As := [.ref ar, .int 144, .int 256, .int 9]) (rest := []) ⟨hx, hb, hml, hown, ht⟩ (c_J_fillr l D _ ar cR 320 (zfill f 8 0 144) 144 256 9 (by decide) (by decide) (by decide)) (zcwS 4 ht zm_273 zm_274 zm_73 zm_275 rfl rfl (by decide +kernel) ⟨Nat.le_of_ble_eq_true rfl, Nat.le_of_ble_eq_true rfl⟩) (zpre zBlind_t hK hP hD [1] [0] rfl (by decide) rfl (fun _ _ _ => trivial)) rfl rfl hl.1 rfl (lv_room (Nat.le_of_ble_eq_true rfl)) d_U_buildFixedCodes_25 ⟨Nat.le_of_ble_eq_true rfl, Nat.le_of_ble_eq_true rfl⟩) hK hP hD hS hA [1] [0, 2, 3, 4, 5, 6, 7, 8, 9] rfl rfl (by decide) (by decide) (fun u H locs hp4 hP hD hK hS => ?_)
    have hP : va_P D zcl [(h0, .inr (4, [.ref tg, .ref bt, .ref ar, .ref fs, .ref fd, .ref lc, .ref os, .ref od])), (fs, .inr (6, [.ref s1, .ref s2, .ref s3, .int k1])), (s1, .inl (cS1, 16, .inl u1)), (s2, .inl (cS2, 16, .inl u2)), (s3, .inl (cS3, 288, .inl u3)), (fd, .inr (6, [.ref d1, .ref d2, .ref d3, .int k2])), (d1, .inl (cD1, 16, .inl v1)), (d2, .inl (cD2, 16, .inl v2)), (d3, .inl (cD3, 32, .inl v3)), (ar, .inl (cR, 320, .inl (zfill (zfill f 8 0 144) 9 144 256)))] H := hP
    have hD : va_D A [(h0, .inr (4, [.ref tg, .ref bt, .ref ar, .ref fs, .ref fd, .ref lc, .ref os, .ref od])), (fs, .inr (6, [.ref s1, .ref s2, .ref s3, .int k1])), (s1, .inl (cS1, 16, .inl u1)), (s2, .inl (cS2, 16, .inl u2)), (s3, .inl (cS3, 288, .inl u3)), (fd, .inr (6, [.ref d1, .ref d2, .ref d3, .int k2])), (d1, .inl (cD1, 16, .inl v1)), (d2, .inl (cD2, 16, .inl v2)), (d3, .inl (cD3, 32, .inl v3)), (ar, .inl (cR, 320, .inl (zfill (zfill f 8 0 144) 9 144 256)))] := hD
    have hK : va_K D zcl [(cR, .int), (cS1, .int), (cS2, .int), (cS3, .int), (cD1, .int), (cD2, .int), (cD3, .int), (cR, .int)] s := hK
    have hP := hP.sub (ws' := [(h0, .inr (4, [.ref tg, .ref bt, .ref ar, .ref fs, .ref fd, .ref lc, .ref os, .ref od])), (ar, .inl (cR, 320, .inl (zfill (zfill f 8 0 144) 9 144 256))), (fs, .inr (6, [.ref s1, .ref s2, .ref s3, .int k1])), (s1, .inl (cS1, 16, .inl u1)), (s2, .inl (cS2, 16, .inl u2)), (s3, .inl (cS3, 288, .inl u3)), (fd, .inr (6, [.ref d1, .ref d2, .ref d3, .int k2])), (d1, .inl (cD1, 16, .inl v1)), (d2, .inl (cD2, 16, .inl v2)), (d3, .inl (cD3, 32, .inl v3))]) [0, 9, 1, 2, 3, 4, 5, 6, 7, 8] rfl
    have hD := hD.sub (ws' := [(h0, .inr (4, [.ref tg, .ref bt, .ref ar, .ref fs, .ref fd, .ref lc, .ref os, .ref od])), (ar, .inl (cR, 320, .inl (zfill (zfill f 8 0 144) 9 144 256))), (fs, .inr (6, [.ref s1, .ref s2, .ref s3, .int k1])), (s1, .inl (cS1, 16, .inl u1)), (s2, .inl (cS2, 16, .inl u2)), (s3, .inl (cS3, 288, .inl u3)), (fd, .inr (6, [.ref d1, .ref d2, .ref d3, .int k2])), (d1, .inl (cD1, 16, .inl v1)), (d2, .inl (cD2, 16, .inl v2)), (d3, .inl (cD3, 32, .inl v3))]) [0, 9, 1, 2, 3, 4, 5, 6, 7, 8] (by decide) rfl
    have hK := hK.sub (tys' := [(cR, .int), (cS1, .int), (cS2, .int), (cS3, .int), (cD1, .int), (cD2, .int), (cD3, .int)]) [0, 1, 2, 3, 4, 5, 6] rfl
    refine lv_aload_n hx hb d_U_buildFixedCodes_28 rfl (lv_at hl 0 rfl) ?_
    refine va_get (ci := 4) (C := "ZipGuard$Unpacker") (T := F_U) (N := 8) hx hb ht zi_U hown hK hP 0 rfl rfl 2 (by decide) (ht _ zm_372) (fun _ h9 => h9) rfl d_U_buildFixedCodes_29 ?_
    refine lv_sipush (v := 256) hx hb d_U_buildFixedCodes_32 (by decide) ?_
    refine lv_sipush (v := 280) hx hb d_U_buildFixedCodes_35 (by decide) ?_
    refine lv_bipush (v := 7) hx hb d_U_buildFixedCodes_38 (by decide) ?_
    refine zjv (wr := [(h0, .inr (4, [.ref tg, .ref bt, .ref ar, .ref fs, .ref fd, .ref lc, .ref os, .ref od])), (fs, .inr (6, [.ref s1, .ref s2, .ref s3, .int k1])), (s1, .inl (cS1, 16, .inl u1)), (s2, .inl (cS2, 16, .inl u2)), (s3, .inl (cS3, 288, .inl u3)), (fd, .inr (6, [.ref d1, .ref d2, .ref d3, .int k2])), (d1, .inl (cD1, 16, .inl v1)), (d2, .inl (cD2, 16, .inl v2)), (d3, .inl (cD3, 32, .inl v3))]) (va_runS (As := [.ref ar, .int 256, .int 280, .int 7]) (rest := []) ⟨hx, hb, hml, hown, ht⟩ (c_J_fillr l D _ ar cR 320 (zfill (zfill f 8 0 144) 9 144 256) 256 280 7 (by decide) (by decide) (by decide)) (zcwS 4 ht zm_273 zm_274 zm_73 zm_275 rfl rfl (by decide +kernel) ⟨Nat.le_of_ble_eq_true rfl, Nat.le_of_ble_eq_true rfl⟩) (zpre zBlind_t hK hP hD [1] [0] rfl (by decide) rfl (fun _ _ _ => trivial)) rfl rfl hl.1 rfl (lv_room (Nat.le_of_ble_eq_true rfl)) d_U_buildFixedCodes_40 ⟨Nat.le_of_ble_eq_true rfl, Nat.le_of_ble_eq_true rfl⟩) hK hP hD hS hA [1] [0, 2, 3, 4, 5, 6, 7, 8, 9] rfl rfl (by decide) (by decide) (fun u H locs hp6 hP hD hK hS => ?_)
    have hP : va_P D zcl [(h0, .inr (4, [.ref tg, .ref bt, .ref ar, .ref fs, .ref fd, .ref lc, .ref os, .ref od])), (fs, .inr (6, [.ref s1, .ref s2, .ref s3, .int k1])), (s1, .inl (cS1, 16, .inl u1)), (s2, .inl (cS2, 16, .inl u2)), (s3, .inl (cS3, 288, .inl u3)), (fd, .inr (6, [.ref d1, .ref d2, .ref d3, .int k2])), (d1, .inl (cD1, 16, .inl v1)), (d2, .inl (cD2, 16, .inl v2)), (d3, .inl (cD3, 32, .inl v3)), (ar, .inl (cR, 320, .inl (zfill (zfill (zfill f 8 0 144) 9 144 256) 7 256 280)))] H := hP
    have hD : va_D A [(h0, .inr (4, [.ref tg, .ref bt, .ref ar, .ref fs, .ref fd, .ref lc, .ref os, .ref od])), (fs, .inr (6, [.ref s1, .ref s2, .ref s3, .int k1])), (s1, .inl (cS1, 16, .inl u1)), (s2, .inl (cS2, 16, .inl u2)), (s3, .inl (cS3, 288, .inl u3)), (fd, .inr (6, [.ref d1, .ref d2, .ref d3, .int k2])), (d1, .inl (cD1, 16, .inl v1)), (d2, .inl (cD2, 16, .inl v2)), (d3, .inl (cD3, 32, .inl v3)), (ar, .inl (cR, 320, .inl (zfill (zfill (zfill f 8 0 144) 9 144 256) 7 256 280)))] := hD
    have hK : va_K D zcl [(cR, .int), (cS1, .int), (cS2, .int), (cS3, .int), (cD1, .int), (cD2, .int), (cD3, .int), (cR, .int)] s := hK
    have hP := hP.sub (ws' := [(h0, .inr (4, [.ref tg, .ref bt, .ref ar, .ref fs, .ref fd, .ref lc, .ref os, .ref od])), (ar, .inl (cR, 320, .inl (zfill (zfill (zfill f 8 0 144) 9 144 256) 7 256 280))), (fs, .inr (6, [.ref s1, .ref s2, .ref s3, .int k1])), (s1, .inl (cS1, 16, .inl u1)), (s2, .inl (cS2, 16, .inl u2)), (s3, .inl (cS3, 288, .inl u3)), (fd, .inr (6, [.ref d1, .ref d2, .ref d3, .int k2])), (d1, .inl (cD1, 16, .inl v1)), (d2, .inl (cD2, 16, .inl v2)), (d3, .inl (cD3, 32, .inl v3))]) [0, 9, 1, 2, 3, 4, 5, 6, 7, 8] rfl
    have hD := hD.sub (ws' := [(h0, .inr (4, [.ref tg, .ref bt, .ref ar, .ref fs, .ref fd, .ref lc, .ref os, .ref od])), (ar, .inl (cR, 320, .inl (zfill (zfill (zfill f 8 0 144) 9 144 256) 7 256 280))), (fs, .inr (6, [.ref s1, .ref s2, .ref s3, .int k1])), (s1, .inl (cS1, 16, .inl u1)), (s2, .inl (cS2, 16, .inl u2)), (s3, .inl (cS3, 288, .inl u3)), (fd, .inr (6, [.ref d1, .ref d2, .ref d3, .int k2])), (d1, .inl (cD1, 16, .inl v1)), (d2, .inl (cD2, 16, .inl v2)), (d3, .inl (cD3, 32, .inl v3))]) [0, 9, 1, 2, 3, 4, 5, 6, 7, 8] (by decide) rfl
    have hK := hK.sub (tys' := [(cR, .int), (cS1, .int), (cS2, .int), (cS3, .int), (cD1, .int), (cD2, .int), (cD3, .int)]) [0, 1, 2, 3, 4, 5, 6] rfl
    refine lv_aload_n hx hb d_U_buildFixedCodes_43 rfl (lv_at hl 0 rfl) ?_
    refine va_get (ci := 4) (C := "ZipGuard$Unpacker") (T := F_U) (N := 8) hx hb ht zi_U hown hK hP 0 rfl rfl 2 (by decide) (ht _ zm_372) (fun _ h9 => h9) rfl d_U_buildFixedCodes_44 ?_
    refine lv_sipush (v := 280) hx hb d_U_buildFixedCodes_47 (by decide) ?_
    refine lv_sipush (v := 288) hx hb d_U_buildFixedCodes_50 (by decide) ?_
    refine lv_bipush (v := 8) hx hb d_U_buildFixedCodes_53 (by decide) ?_
    refine zjv (wr := [(h0, .inr (4, [.ref tg, .ref bt, .ref ar, .ref fs, .ref fd, .ref lc, .ref os, .ref od])), (fs, .inr (6, [.ref s1, .ref s2, .ref s3, .int k1])), (s1, .inl (cS1, 16, .inl u1)), (s2, .inl (cS2, 16, .inl u2)), (s3, .inl (cS3, 288, .inl u3)), (fd, .inr (6, [.ref d1, .ref d2, .ref d3, .int k2])), (d1, .inl (cD1, 16, .inl v1)), (d2, .inl (cD2, 16, .inl v2)), (d3, .inl (cD3, 32, .inl v3))]) (va_runS (As := [.ref ar, .int 280, .int 288, .int 8]) (rest := []) ⟨hx, hb, hml, hown, ht⟩ (c_J_fillr l D _ ar cR 320 (zfill (zfill (zfill f 8 0 144) 9 144 256) 7 256 280) 280 288 8 (by decide) (by decide) (by decide)) (zcwS 4 ht zm_273 zm_274 zm_73 zm_275 rfl rfl (by decide +kernel) ⟨Nat.le_of_ble_eq_true rfl, Nat.le_of_ble_eq_true rfl⟩) (zpre zBlind_t hK hP hD [1] [0] rfl (by decide) rfl (fun _ _ _ => trivial)) rfl rfl hl.1 rfl (lv_room (Nat.le_of_ble_eq_true rfl)) d_U_buildFixedCodes_55 ⟨Nat.le_of_ble_eq_true rfl, Nat.le_of_ble_eq_true rfl⟩) hK hP hD hS hA [1] [0, 2, 3, 4, 5, 6, 7, 8, 9] rfl rfl (by decide) (by decide) (fun u H locs hp8 hP hD hK hS => ?_)
    have hP : va_P D zcl [(h0, .inr (4, [.ref tg, .ref bt, .ref ar, .ref fs, .ref fd, .ref lc, .ref os, .ref od])), (fs, .inr (6, [.ref s1, .ref s2, .ref s3, .int k1])), (s1, .inl (cS1, 16, .inl u1)), (s2, .inl (cS2, 16, .inl u2)), (s3, .inl (cS3, 288, .inl u3)), (fd, .inr (6, [.ref d1, .ref d2, .ref d3, .int k2])), (d1, .inl (cD1, 16, .inl v1)), (d2, .inl (cD2, 16, .inl v2)), (d3, .inl (cD3, 32, .inl v3)), (ar, .inl (cR, 320, .inl (zfill (zfill (zfill (zfill f 8 0 144) 9 144 256) 7 256 280) 8 280 288)))] H := hP
    have hD : va_D A [(h0, .inr (4, [.ref tg, .ref bt, .ref ar, .ref fs, .ref fd, .ref lc, .ref os, .ref od])), (fs, .inr (6, [.ref s1, .ref s2, .ref s3, .int k1])), (s1, .inl (cS1, 16, .inl u1)), (s2, .inl (cS2, 16, .inl u2)), (s3, .inl (cS3, 288, .inl u3)), (fd, .inr (6, [.ref d1, .ref d2, .ref d3, .int k2])), (d1, .inl (cD1, 16, .inl v1)), (d2, .inl (cD2, 16, .inl v2)), (d3, .inl (cD3, 32, .inl v3)), (ar, .inl (cR, 320, .inl (zfill (zfill (zfill (zfill f 8 0 144) 9 144 256) 7 256 280) 8 280 288)))] := hD
    have hK : va_K D zcl [(cR, .int), (cS1, .int), (cS2, .int), (cS3, .int), (cD1, .int), (cD2, .int), (cD3, .int), (cR, .int)] s := hK
    have hP := hP.sub (ws' := [(h0, .inr (4, [.ref tg, .ref bt, .ref ar, .ref fs, .ref fd, .ref lc, .ref os, .ref od])), (ar, .inl (cR, 320, .inl (zfill (zfill (zfill (zfill f 8 0 144) 9 144 256) 7 256 280) 8 280 288))), (fs, .inr (6, [.ref s1, .ref s2, .ref s3, .int k1])), (s1, .inl (cS1, 16, .inl u1)), (s2, .inl (cS2, 16, .inl u2)), (s3, .inl (cS3, 288, .inl u3)), (fd, .inr (6, [.ref d1, .ref d2, .ref d3, .int k2])), (d1, .inl (cD1, 16, .inl v1)), (d2, .inl (cD2, 16, .inl v2)), (d3, .inl (cD3, 32, .inl v3))]) [0, 9, 1, 2, 3, 4, 5, 6, 7, 8] rfl
    have hD := hD.sub (ws' := [(h0, .inr (4, [.ref tg, .ref bt, .ref ar, .ref fs, .ref fd, .ref lc, .ref os, .ref od])), (ar, .inl (cR, 320, .inl (zfill (zfill (zfill (zfill f 8 0 144) 9 144 256) 7 256 280) 8 280 288))), (fs, .inr (6, [.ref s1, .ref s2, .ref s3, .int k1])), (s1, .inl (cS1, 16, .inl u1)), (s2, .inl (cS2, 16, .inl u2)), (s3, .inl (cS3, 288, .inl u3)), (fd, .inr (6, [.ref d1, .ref d2, .ref d3, .int k2])), (d1, .inl (cD1, 16, .inl v1)), (d2, .inl (cD2, 16, .inl v2)), (d3, .inl (cD3, 32, .inl v3))]) [0, 9, 1, 2, 3, 4, 5, 6, 7, 8] (by decide) rfl
    have hK := hK.sub (tys' := [(cR, .int), (cS1, .int), (cS2, .int), (cS3, .int), (cD1, .int), (cD2, .int), (cD3, .int)]) [0, 1, 2, 3, 4, 5, 6] rfl
    refine lv_aload_n hx hb d_U_buildFixedCodes_58 rfl (lv_at hl 0 rfl) ?_
    refine va_get (ci := 4) (C := "ZipGuard$Unpacker") (T := F_U) (N := 8) hx hb ht zi_U hown hK hP 0 rfl rfl 2 (by decide) (ht _ zm_372) (fun _ h9 => h9) rfl d_U_buildFixedCodes_59 ?_
    refine lv_sipush (v := 288) hx hb d_U_buildFixedCodes_62 (by decide) ?_
    refine lv_sipush (v := 320) hx hb d_U_buildFixedCodes_65 (by decide) ?_
    refine lv_iconst (v := 5) hx hb d_U_buildFixedCodes_68 (by decide) ?_
    refine zjv (wr := [(h0, .inr (4, [.ref tg, .ref bt, .ref ar, .ref fs, .ref fd, .ref lc, .ref os, .ref od])), (fs, .inr (6, [.ref s1, .ref s2, .ref s3, .int k1])), (s1, .inl (cS1, 16, .inl u1)), (s2, .inl (cS2, 16, .inl u2)), (s3, .inl (cS3, 288, .inl u3)), (fd, .inr (6, [.ref d1, .ref d2, .ref d3, .int k2])), (d1, .inl (cD1, 16, .inl v1)), (d2, .inl (cD2, 16, .inl v2)), (d3, .inl (cD3, 32, .inl v3))]) (va_runS (As := [.ref ar, .int 288, .int 320, .int 5]) (rest := []) ⟨hx, hb, hml, hown, ht⟩ (c_J_fillr l D _ ar cR 320 (zfill (zfill (zfill (zfill f 8 0 144) 9 144 256) 7 256 280) 8 280 288) 288 320 5 (by decide) (by decide) (by decide)) (zcwS 4 ht zm_273 zm_274 zm_73 zm_275 rfl rfl (by decide +kernel) ⟨Nat.le_of_ble_eq_true rfl, Nat.le_of_ble_eq_true rfl⟩) (zpre zBlind_t hK hP hD [1] [0] rfl (by decide) rfl (fun _ _ _ => trivial)) rfl rfl hl.1 rfl (lv_room (Nat.le_of_ble_eq_true rfl)) d_U_buildFixedCodes_69 ⟨Nat.le_of_ble_eq_true rfl, Nat.le_of_ble_eq_true rfl⟩) hK hP hD hS hA [1] [0, 2, 3, 4, 5, 6, 7, 8, 9] rfl rfl (by decide) (by decide) (fun u H locs hp10 hP hD hK hS => ?_)
    have hP : va_P D zcl [(h0, .inr (4, [.ref tg, .ref bt, .ref ar, .ref fs, .ref fd, .ref lc, .ref os, .ref od])), (fs, .inr (6, [.ref s1, .ref s2, .ref s3, .int k1])), (s1, .inl (cS1, 16, .inl u1)), (s2, .inl (cS2, 16, .inl u2)), (s3, .inl (cS3, 288, .inl u3)), (fd, .inr (6, [.ref d1, .ref d2, .ref d3, .int k2])), (d1, .inl (cD1, 16, .inl v1)), (d2, .inl (cD2, 16, .inl v2)), (d3, .inl (cD3, 32, .inl v3)), (ar, .inl (cR, 320, .inl (zfill (zfill (zfill (zfill (zfill f 8 0 144) 9 144 256) 7 256 280) 8 280 288) 5 288 320)))] H := hP
    have hD : va_D A [(h0, .inr (4, [.ref tg, .ref bt, .ref ar, .ref fs, .ref fd, .ref lc, .ref os, .ref od])), (fs, .inr (6, [.ref s1, .ref s2, .ref s3, .int k1])), (s1, .inl (cS1, 16, .inl u1)), (s2, .inl (cS2, 16, .inl u2)), (s3, .inl (cS3, 288, .inl u3)), (fd, .inr (6, [.ref d1, .ref d2, .ref d3, .int k2])), (d1, .inl (cD1, 16, .inl v1)), (d2, .inl (cD2, 16, .inl v2)), (d3, .inl (cD3, 32, .inl v3)), (ar, .inl (cR, 320, .inl (zfill (zfill (zfill (zfill (zfill f 8 0 144) 9 144 256) 7 256 280) 8 280 288) 5 288 320)))] := hD
    have hK : va_K D zcl [(cR, .int), (cS1, .int), (cS2, .int), (cS3, .int), (cD1, .int), (cD2, .int), (cD3, .int), (cR, .int)] s := hK
    have hP := hP.sub (ws' := [(h0, .inr (4, [.ref tg, .ref bt, .ref ar, .ref fs, .ref fd, .ref lc, .ref os, .ref od])), (ar, .inl (cR, 320, .inl (zfill (zfill (zfill (zfill (zfill f 8 0 144) 9 144 256) 7 256 280) 8 280 288) 5 288 320))), (fs, .inr (6, [.ref s1, .ref s2, .ref s3, .int k1])), (s1, .inl (cS1, 16, .inl u1)), (s2, .inl (cS2, 16, .inl u2)), (s3, .inl (cS3, 288, .inl u3)), (fd, .inr (6, [.ref d1, .ref d2, .ref d3, .int k2])), (d1, .inl (cD1, 16, .inl v1)), (d2, .inl (cD2, 16, .inl v2)), (d3, .inl (cD3, 32, .inl v3))]) [0, 9, 1, 2, 3, 4, 5, 6, 7, 8] rfl
    have hD := hD.sub (ws' := [(h0, .inr (4, [.ref tg, .ref bt, .ref ar, .ref fs, .ref fd, .ref lc, .ref os, .ref od])), (ar, .inl (cR, 320, .inl (zfill (zfill (zfill (zfill (zfill f 8 0 144) 9 144 256) 7 256 280) 8 280 288) 5 288 320))), (fs, .inr (6, [.ref s1, .ref s2, .ref s3, .int k1])), (s1, .inl (cS1, 16, .inl u1)), (s2, .inl (cS2, 16, .inl u2)), (s3, .inl (cS3, 288, .inl u3)), (fd, .inr (6, [.ref d1, .ref d2, .ref d3, .int k2])), (d1, .inl (cD1, 16, .inl v1)), (d2, .inl (cD2, 16, .inl v2)), (d3, .inl (cD3, 32, .inl v3))]) [0, 9, 1, 2, 3, 4, 5, 6, 7, 8] (by decide) rfl
    have hK := hK.sub (tys' := [(cR, .int), (cS1, .int), (cS2, .int), (cS3, .int), (cD1, .int), (cD2, .int), (cD3, .int)]) [0, 1, 2, 3, 4, 5, 6] rfl
    have hP : va_P D zcl [(h0, .inr (4, [.ref tg, .ref bt, .ref ar, .ref fs, .ref fd, .ref lc, .ref os, .ref od])), (ar, .inl (cR, 320, .inl (zfixF f))), (fs, .inr (6, [.ref s1, .ref s2, .ref s3, .int k1])), (s1, .inl (cS1, 16, .inl u1)), (s2, .inl (cS2, 16, .inl u2)), (s3, .inl (cS3, 288, .inl u3)), (fd, .inr (6, [.ref d1, .ref d2, .ref d3, .int k2])), (d1, .inl (cD1, 16, .inl v1)), (d2, .inl (cD2, 16, .inl v2)), (d3, .inl (cD3, 32, .inl v3))] H := hP
    have hD : va_D A [(h0, .inr (4, [.ref tg, .ref bt, .ref ar, .ref fs, .ref fd, .ref lc, .ref os, .ref od])), (ar, .inl (cR, 320, .inl (zfixF f))), (fs, .inr (6, [.ref s1, .ref s2, .ref s3, .int k1])), (s1, .inl (cS1, 16, .inl u1)), (s2, .inl (cS2, 16, .inl u2)), (s3, .inl (cS3, 288, .inl u3)), (fd, .inr (6, [.ref d1, .ref d2, .ref d3, .int k2])), (d1, .inl (cD1, 16, .inl v1)), (d2, .inl (cD2, 16, .inl v2)), (d3, .inl (cD3, 32, .inl v3))] := hD
    refine lv_aload_n hx hb d_U_buildFixedCodes_72 rfl (lv_at hl 0 rfl) ?_
    refine va_get (ci := 4) (C := "ZipGuard$Unpacker") (T := F_U) (N := 8) hx hb ht zi_U hown hK hP 0 rfl rfl 3 (by decide) (ht _ zm_373) (fun _ h9 => h9) rfl d_U_buildFixedCodes_73 ?_
    refine lv_aload_n hx hb d_U_buildFixedCodes_76 rfl (lv_at hl 0 rfl) ?_
    refine va_get (ci := 4) (C := "ZipGuard$Unpacker") (T := F_U) (N := 8) hx hb ht zi_U hown hK hP 0 rfl rfl 2 (by decide) (ht _ zm_372) (fun _ h9 => h9) rfl d_U_buildFixedCodes_77 ?_
    refine lv_iconst (v := 0) hx hb d_U_buildFixedCodes_80 (by decide) ?_
    refine lv_sipush (v := 288) hx hb d_U_buildFixedCodes_81 (by decide) ?_
    refine zjv (wr := [(h0, .inr (4, [.ref tg, .ref bt, .ref ar, .ref fs, .ref fd, .ref lc, .ref os, .ref od])), (fd, .inr (6, [.ref d1, .ref d2, .ref d3, .int k2])), (d1, .inl (cD1, 16, .inl v1)), (d2, .inl (cD2, 16, .inl v2)), (d3, .inl (cD3, 32, .inl v3))]) (va_runV (As := [.ref ar, .int 0, .int 288]) (rest := []) ⟨hx, hb, hml, hown, ht⟩ (c_C_build l D _ fs s1 s2 s3 ar cS1 cS2 cS3 cR 288 320 (zfixF f) 0 288 zfix k1 u1 u2 u3 (zfix_s f) zfix_15 (by decide) (by decide) (by decide) (by decide)) (cwV 3 ht (zt_goodV zm_363 zm_364 zm_365 zm_72 zm_366) rfl rfl rfl (by decide +kernel) ⟨Nat.le_of_ble_eq_true rfl, Nat.le_of_ble_eq_true rfl⟩) (zpreV zBlind_t hK hP hD [2, 3, 4, 5, 1] [1, 2, 3, 0] rfl (by decide) rfl (fun _ _ _ => trivial) (va_recv (q := ("ZipGuard$CodeSet", F_C, 4)) hK hP rfl (q0 := 2) (ci := 6) rfl)) rfl rfl hl.1 rfl (lv_room (Nat.le_of_ble_eq_true rfl)) d_U_buildFixedCodes_84 ⟨Nat.le_of_ble_eq_true rfl, Nat.le_of_ble_eq_true rfl⟩) hK hP hD hS hA [2, 3, 4, 5, 1] [0, 6, 7, 8, 9] rfl rfl (by decide) (by decide) (fun u H locs hp12 hP hD hK hS => ?_)
    obtain ⟨G1, G2, G3⟩ := u
    dsimp only at hp12 hP hD hK
    have hP : va_P D zcl [(h0, .inr (4, [.ref tg, .ref bt, .ref ar, .ref fs, .ref fd, .ref lc, .ref os, .ref od])), (fd, .inr (6, [.ref d1, .ref d2, .ref d3, .int k2])), (d1, .inl (cD1, 16, .inl v1)), (d2, .inl (cD2, 16, .inl v2)), (d3, .inl (cD3, 32, .inl v3)), (fs, .inr (6, [.ref s1, .ref s2, .ref s3, .int (nI (zst zfix 288 16))])), (s1, .inl (cS1, 16, .inl G1)), (s2, .inl (cS2, 16, .inl G2)), (s3, .inl (cS3, 288, .inl G3)), (ar, .inl (cR, 320, .inl (zfixF f)))] H := hP
    have hD : va_D A [(h0, .inr (4, [.ref tg, .ref bt, .ref ar, .ref fs, .ref fd, .ref lc, .ref os, .ref od])), (fd, .inr (6, [.ref d1, .ref d2, .ref d3, .int k2])), (d1, .inl (cD1, 16, .inl v1)), (d2, .inl (cD2, 16, .inl v2)), (d3, .inl (cD3, 32, .inl v3)), (fs, .inr (6, [.ref s1, .ref s2, .ref s3, .int (nI (zst zfix 288 16))])), (s1, .inl (cS1, 16, .inl G1)), (s2, .inl (cS2, 16, .inl G2)), (s3, .inl (cS3, 288, .inl G3)), (ar, .inl (cR, 320, .inl (zfixF f)))] := hD
    have hK : va_K D zcl [(cR, .int), (cS1, .int), (cS2, .int), (cS3, .int), (cD1, .int), (cD2, .int), (cD3, .int), (cS1, .int), (cS2, .int), (cS3, .int), (cR, .int)] s := hK
    have hP := hP.sub (ws' := [(h0, .inr (4, [.ref tg, .ref bt, .ref ar, .ref fs, .ref fd, .ref lc, .ref os, .ref od])), (ar, .inl (cR, 320, .inl (zfixF f))), (fs, .inr (6, [.ref s1, .ref s2, .ref s3, .int (nI (zst zfix 288 16))])), (s1, .inl (cS1, 16, .inl G1)), (s2, .inl (cS2, 16, .inl G2)), (s3, .inl (cS3, 288, .inl G3)), (fd, .inr (6, [.ref d1, .ref d2, .ref d3, .int k2])), (d1, .inl (cD1, 16, .inl v1)), (d2, .inl (cD2, 16, .inl v2)), (d3, .inl (cD3, 32, .inl v3))]) [0, 9, 5, 6, 7, 8, 1, 2, 3, 4] rfl
    have hD := hD.sub (ws' := [(h0, .inr (4, [.ref tg, .ref bt, .ref ar, .ref fs, .ref fd, .ref lc, .ref os, .ref od])), (ar, .inl (cR, 320, .inl (zfixF f))), (fs, .inr (6, [.ref s1, .ref s2, .ref s3, .int (nI (zst zfix 288 16))])), (s1, .inl (cS1, 16, .inl G1)), (s2, .inl (cS2, 16, .inl G2)), (s3, .inl (cS3, 288, .inl G3)), (fd, .inr (6, [.ref d1, .ref d2, .ref d3, .int k2])), (d1, .inl (cD1, 16, .inl v1)), (d2, .inl (cD2, 16, .inl v2)), (d3, .inl (cD3, 32, .inl v3))]) [0, 9, 5, 6, 7, 8, 1, 2, 3, 4] (by decide) rfl
    have hK := hK.sub (tys' := [(cR, .int), (cS1, .int), (cS2, .int), (cS3, .int), (cD1, .int), (cD2, .int), (cD3, .int)]) [0, 1, 2, 3, 4, 5, 6] rfl
    refine lv_aload_n hx hb d_U_buildFixedCodes_87 rfl (lv_at hl 0 rfl) ?_
    refine va_get (ci := 4) (C := "ZipGuard$Unpacker") (T := F_U) (N := 8) hx hb ht zi_U hown hK hP 0 rfl rfl 4 (by decide) (ht _ zm_374) (fun _ h9 => h9) rfl d_U_buildFixedCodes_88 ?_
    refine lv_aload_n hx hb d_U_buildFixedCodes_91 rfl (lv_at hl 0 rfl) ?_
    refine va_get (ci := 4) (C := "ZipGuard$Unpacker") (T := F_U) (N := 8) hx hb ht zi_U hown hK hP 0 rfl rfl 2 (by decide) (ht _ zm_372) (fun _ h9 => h9) rfl d_U_buildFixedCodes_92 ?_
    refine lv_sipush (v := 288) hx hb d_U_buildFixedCodes_95 (by decide) ?_
    refine lv_bipush (v := 32) hx hb d_U_buildFixedCodes_98 (by decide) ?_
    refine zjv (wr := [(h0, .inr (4, [.ref tg, .ref bt, .ref ar, .ref fs, .ref fd, .ref lc, .ref os, .ref od])), (fs, .inr (6, [.ref s1, .ref s2, .ref s3, .int (nI (zst zfix 288 16))])), (s1, .inl (cS1, 16, .inl G1)), (s2, .inl (cS2, 16, .inl G2)), (s3, .inl (cS3, 288, .inl G3))]) (va_runV (As := [.ref ar, .int 288, .int 32]) (rest := []) ⟨hx, hb, hml, hown, ht⟩ (c_C_build l D _ fd d1 d2 d3 ar cD1 cD2 cD3 cR 32 320 (zfixF f) 288 32 (fun _ => 5) k2 v1 v2 v3 (zfix_d f) (fun _ _ => by decide) (by decide) (by decide) (by decide) (by decide)) (cwV 3 ht (zt_goodV zm_363 zm_364 zm_365 zm_72 zm_366) rfl rfl rfl (by decide +kernel) ⟨Nat.le_of_ble_eq_true rfl, Nat.le_of_ble_eq_true rfl⟩) (zpreV zBlind_t hK hP hD [6, 7, 8, 9, 1] [4, 5, 6, 0] rfl (by decide) rfl (fun _ _ _ => trivial) (va_recv (q := ("ZipGuard$CodeSet", F_C, 4)) hK hP rfl (q0 := 6) (ci := 6) rfl)) rfl rfl hl.1 rfl (lv_room (Nat.le_of_ble_eq_true rfl)) d_U_buildFixedCodes_100 ⟨Nat.le_of_ble_eq_true rfl, Nat.le_of_ble_eq_true rfl⟩) hK hP hD hS hA [6, 7, 8, 9, 1] [0, 2, 3, 4, 5] rfl rfl (by decide) (by decide) (fun u H locs hp14 hP hD hK hS => ?_)
    obtain ⟨E1, E2, E3⟩ := u
    dsimp only at hp14 hP hD hK
    have hP : va_P D zcl [(h0, .inr (4, [.ref tg, .ref bt, .ref ar, .ref fs, .ref fd, .ref lc, .ref os, .ref od])), (fs, .inr (6, [.ref s1, .ref s2, .ref s3, .int (nI (zst zfix 288 16))])), (s1, .inl (cS1, 16, .inl G1)), (s2, .inl (cS2, 16, .inl G2)), (s3, .inl (cS3, 288, .inl G3)), (fd, .inr (6, [.ref d1, .ref d2, .ref d3, .int (nI (zst (fun _ => 5) 32 16))])), (d1, .inl (cD1, 16, .inl E1)), (d2, .inl (cD2, 16, .inl E2)), (d3, .inl (cD3, 32, .inl E3)), (ar, .inl (cR, 320, .inl (zfixF f)))] H := hP
    have hD : va_D A [(h0, .inr (4, [.ref tg, .ref bt, .ref ar, .ref fs, .ref fd, .ref lc, .ref os, .ref od])), (fs, .inr (6, [.ref s1, .ref s2, .ref s3, .int (nI (zst zfix 288 16))])), (s1, .inl (cS1, 16, .inl G1)), (s2, .inl (cS2, 16, .inl G2)), (s3, .inl (cS3, 288, .inl G3)), (fd, .inr (6, [.ref d1, .ref d2, .ref d3, .int (nI (zst (fun _ => 5) 32 16))])), (d1, .inl (cD1, 16, .inl E1)), (d2, .inl (cD2, 16, .inl E2)), (d3, .inl (cD3, 32, .inl E3)), (ar, .inl (cR, 320, .inl (zfixF f)))] := hD
    have hK : va_K D zcl [(cR, .int), (cS1, .int), (cS2, .int), (cS3, .int), (cD1, .int), (cD2, .int), (cD3, .int), (cD1, .int), (cD2, .int), (cD3, .int), (cR, .int)] s := hK
    have hP := hP.sub (ws' := [(h0, .inr (4, [.ref tg, .ref bt, .ref ar, .ref fs, .ref fd, .ref lc, .ref os, .ref od])), (ar, .inl (cR, 320, .inl (zfixF f))), (fs, .inr (6, [.ref s1, .ref s2, .ref s3, .int (nI (zst zfix 288 16))])), (s1, .inl (cS1, 16, .inl G1)), (s2, .inl (cS2, 16, .inl G2)), (s3, .inl (cS3, 288, .inl G3)), (fd, .inr (6, [.ref d1, .ref d2, .ref d3, .int (nI (zst (fun _ => 5) 32 16))])), (d1, .inl (cD1, 16, .inl E1)), (d2, .inl (cD2, 16, .inl E2)), (d3, .inl (cD3, 32, .inl E3))]) [0, 9, 1, 2, 3, 4, 5, 6, 7, 8] rfl
    have hD := hD.sub (ws' := [(h0, .inr (4, [.ref tg, .ref bt, .ref ar, .ref fs, .ref fd, .ref lc, .ref os, .ref od])), (ar, .inl (cR, 320, .inl (zfixF f))), (fs, .inr (6, [.ref s1, .ref s2, .ref s3, .int (nI (zst zfix 288 16))])), (s1, .inl (cS1, 16, .inl G1)), (s2, .inl (cS2, 16, .inl G2)), (s3, .inl (cS3, 288, .inl G3)), (fd, .inr (6, [.ref d1, .ref d2, .ref d3, .int (nI (zst (fun _ => 5) 32 16))])), (d1, .inl (cD1, 16, .inl E1)), (d2, .inl (cD2, 16, .inl E2)), (d3, .inl (cD3, 32, .inl E3))]) [0, 9, 1, 2, 3, 4, 5, 6, 7, 8] (by decide) rfl
    have hK := hK.sub (tys' := [(cR, .int), (cS1, .int), (cS2, .int), (cS3, .int), (cD1, .int), (cD2, .int), (cD3, .int)]) [0, 1, 2, 3, 4, 5, 6] rfl
    exact zretv hx hb hr hlk hK hP hD hS ((G1, G2, G3), (E1, E2, E3)) [0, 1, 2, 3, 4, 5, 6, 7, 8, 9] [0, 1, 2, 3, 4, 5, 6] rfl (by decide) rfl (⟨hp12, hp14⟩) (Nat.le_of_ble_eq_true rfl) (Nat.le_of_ble_eq_true rfl) d_U_buildFixedCodes_103)
set_option maxHeartbeats 4000000 in
set_option maxRecDepth 100000 in
theorem c_U_init0 (l : Launch) (D : va_G) (sz : Nat) (h0 : Nat) (h1 : Nat) (h2 : Nat) (b : Nat) (n : Int32)  : Met l y_U_init (Cond.code y_U_init prog_8_method_1_code 3 (Option.none : Option Jvm.ClassFile.FieldType) :: zt) { frames := 3, cells := 22, slots := 1159, locals := 68 } (zPc [.ref h0, .ref h1, .ref h2] D [(h0, .inr (4, [.null, .null, .null, .null, .null, .null, .null, .null])), (h1, .inr (1, [.ref b, .int n]))] [] sz (fun _ => True)) (va_Qv (fun (_ : Unit) => True) (fun u t => zB D ((fun (_ : Unit) => [(h1, .inr (1, [.ref b, .int n]))]) u) ((fun (_ : Unit) => []) u) (va_A [(h0, .inr (4, [.null, .null, .null, .null, .null, .null, .null, .null])), (h1, .inr (1, [.ref b, .int n]))] sz) t) (va_A [(h0, .inr (4, [.null, .null, .null, .null, .null, .null, .null, .null])), (h1, .inr (1, [.ref b, .int n]))] sz)) 22 1159 (va_A [(h0, .inr (4, [.null, .null, .null, .null, .null, .null, .null, .null])), (h1, .inr (1, [.ref b, .int n]))] sz) :=
  zMet (Qf := fun A => va_Qv (fun (_ : Unit) => True) (fun u t => zB D ((fun (_ : Unit) => [(h1, .inr (1, [.ref b, .int n]))]) u) ((fun (_ : Unit) => []) u) A t) A) (by decide) (Nat.le_of_ble_eq_true rfl) (fun p e s m below meth c A ls hx hb hr hml hown ht hlk hnm hA hK hP hD hX hl => by
    have hS : va_S A s.heap s.heap [] := va_S.rf
    have hl : lv_has ls 3 [(0, .ref h0), (1, .ref h1), (2, .ref h2)] := hl
    refine lv_aload_n hx hb d_U_init_0 rfl (lv_at hl 0 rfl) ?_
    refine W.objInit hx hb hown (ht _ zm_230) (ht _ zm_87) (ht _ zm_88) rfl (by rw [hml]; exact hl.1) rfl d_U_init_1 (Nat.le_of_ble_eq_true rfl) (Nat.le_of_ble_eq_true rfl) ?_
    refine W.eq (g2 := F0 m 4 ls []) rfl ?_
    refine lv_aload_n hx hb d_U_init_4 rfl (lv_at hl 0 rfl) ?_
    refine lv_aload_n hx hb d_U_init_5 rfl (lv_at hl 2 rfl) ?_
    refine va_putF (ci := 4) (v := .ref h2) (ty := .object "ZipGuard$Target") (C := "ZipGuard$Unpacker") (T := F_U) (N := 8) hx hb ht zi_U ty_U tk_U nm_U hown hK hP hD hS 0 rfl rfl 0 (by decide) (ht _ zm_370) (fun _ h9 => h9) rfl hnm rfl (by decide +kernel) rfl rfl (Nat.le_of_ble_eq_true rfl) d_U_init_6 (fun H locs hP hD hS => ?_)
    have hP : va_P D zcl [(h0, .inr (4, [.ref h2, .null, .null, .null, .null, .null, .null, .null])), (h1, .inr (1, [.ref b, .int n]))] H := hP
    have hD : va_D A [(h0, .inr (4, [.ref h2, .null, .null, .null, .null, .null, .null, .null])), (h1, .inr (1, [.ref b, .int n]))] := hD
    refine lv_aload_n hx hb d_U_init_9 rfl (lv_at hl 0 rfl) ?_
    refine va_new (ci := 5) (fs := [.null, .int 0, .int 0, .int 0]) (C := "ZipGuard$BitReader") (T := F_B) (N := 4) hx hb ht zi_B ty_B tk_B hown (ht _ zm_231) (ht _ zm_232) (ht _ zm_71) hK hP hD hS hA rfl zdf_B (Nat.le_of_ble_eq_true rfl) (Nat.le_of_ble_eq_true rfl) d_U_init_10 (fun q1 H hP hD hS => ?_)
    have hP : va_P D zcl [(h0, .inr (4, [.ref h2, .null, .null, .null, .null, .null, .null, .null])), (h1, .inr (1, [.ref b, .int n])), (q1, .inr (5, [.null, .int 0, .int 0, .int 0]))] H := hP
    have hD : va_D A [(h0, .inr (4, [.ref h2, .null, .null, .null, .null, .null, .null, .null])), (h1, .inr (1, [.ref b, .int n])), (q1, .inr (5, [.null, .int 0, .int 0, .int 0]))] := hD
    refine lv_dup hx hb d_U_init_13 rfl ?_
    refine lv_aload_n hx hb d_U_init_14 rfl (lv_at hl 1 rfl) ?_
    refine zjv (wr := [(h0, .inr (4, [.ref h2, .null, .null, .null, .null, .null, .null, .null]))]) (va_runI (As := [.ref h1]) (rest := [.ref q1, .ref h0]) ⟨hx, hb, hml, hown, ht⟩ (c_B_init l D _ q1 h1 b n ) (cwI 1 ht (zt_good zm_235) rfl rfl rfl (ht _ zm_71) (ht _ zm_233) (ht _ zm_234) rfl (by decide +kernel) ⟨Nat.le_of_ble_eq_true rfl, Nat.le_of_ble_eq_true rfl⟩) (zpre zBlind_t hK hP hD [2, 1] [] rfl (by decide) rfl (fun _ _ _ => trivial)) rfl rfl hl.1 rfl (lv_room (Nat.le_of_ble_eq_true rfl)) d_U_init_15 ⟨Nat.le_of_ble_eq_true rfl, Nat.le_of_ble_eq_true rfl⟩) hK hP hD hS hA [2, 1] [0] rfl rfl (by decide) (by decide) (fun u H locs hp3 hP hD hK hS => ?_)
    have hP : va_P D zcl [(h0, .inr (4, [.ref h2, .null, .null, .null, .null, .null, .null, .null])), (q1, .inr (5, [.ref b, .int 0, .int 0, .int 0])), (h1, .inr (1, [.ref b, .int n]))] H := hP
    have hD : va_D A [(h0, .inr (4, [.ref h2, .null, .null, .null, .null, .null, .null, .null])), (q1, .inr (5, [.ref b, .int 0, .int 0, .int 0])), (h1, .inr (1, [.ref b, .int n]))] := hD
    have hK : va_K D zcl [] s := hK
    refine va_putF (ci := 4) (v := .ref q1) (ty := .object "ZipGuard$BitReader") (C := "ZipGuard$Unpacker") (T := F_U) (N := 8) hx hb ht zi_U ty_U tk_U nm_U hown hK hP hD hS 0 rfl rfl 1 (by decide) (ht _ zm_371) (fun _ h9 => h9) rfl hnm rfl (by decide +kernel) rfl rfl (Nat.le_of_ble_eq_true rfl) d_U_init_18 (fun H locs hP hD hS => ?_)
    have hP : va_P D zcl [(h0, .inr (4, [.ref h2, .ref q1, .null, .null, .null, .null, .null, .null])), (q1, .inr (5, [.ref b, .int 0, .int 0, .int 0])), (h1, .inr (1, [.ref b, .int n]))] H := hP
    have hD : va_D A [(h0, .inr (4, [.ref h2, .ref q1, .null, .null, .null, .null, .null, .null])), (q1, .inr (5, [.ref b, .int 0, .int 0, .int 0])), (h1, .inr (1, [.ref b, .int n]))] := hD
    refine lv_aload_n hx hb d_U_init_21 rfl (lv_at hl 0 rfl) ?_
    refine lv_sipush (v := 320) hx hb d_U_init_22 (by decide) ?_
    refine va_newa (atype := .int) (ty := .int) (n := 320) (N' := 320) (a0 := (320, .inl (fun _ => 0))) hx hb (ht _ zm_269) rfl hK hP hD hS hA (fun _ => rfl) (by decide) (by decide) (by decide) (Nat.le_of_ble_eq_true rfl) (Nat.le_of_ble_eq_true rfl) d_U_init_25 (fun q4 cA5 H hK hP hD hS => ?_)
    have hP : va_P D zcl [(h0, .inr (4, [.ref h2, .ref q1, .null, .null, .null, .null, .null, .null])), (q1, .inr (5, [.ref b, .int 0, .int 0, .int 0])), (h1, .inr (1, [.ref b, .int n])), (q4, .inl (cA5, 320, .inl (fun _ => 0)))] H := hP
    have hD : va_D A [(h0, .inr (4, [.ref h2, .ref q1, .null, .null, .null, .null, .null, .null])), (q1, .inr (5, [.ref b, .int 0, .int 0, .int 0])), (h1, .inr (1, [.ref b, .int n])), (q4, .inl (cA5, 320, .inl (fun _ => 0)))] := hD
    have hK : va_K D zcl [(cA5, .int)] s := hK
    refine va_putF (ci := 4) (v := .ref q4) (ty := .array .int) (C := "ZipGuard$Unpacker") (T := F_U) (N := 8) hx hb ht zi_U ty_U tk_U nm_U hown hK hP hD hS 0 rfl rfl 2 (by decide) (ht _ zm_372) (fun _ h9 => h9) rfl hnm rfl (by decide +kernel) rfl rfl (Nat.le_of_ble_eq_true rfl) d_U_init_27 (fun H locs hP hD hS => ?_)
    have hP : va_P D zcl [(h0, .inr (4, [.ref h2, .ref q1, .ref q4, .null, .null, .null, .null, .null])), (q1, .inr (5, [.ref b, .int 0, .int 0, .int 0])), (h1, .inr (1, [.ref b, .int n])), (q4, .inl (cA5, 320, .inl (fun _ => 0)))] H := hP
    have hD : va_D A [(h0, .inr (4, [.ref h2, .ref q1, .ref q4, .null, .null, .null, .null, .null])), (q1, .inr (5, [.ref b, .int 0, .int 0, .int 0])), (h1, .inr (1, [.ref b, .int n])), (q4, .inl (cA5, 320, .inl (fun _ => 0)))] := hD
    refine lv_aload_n hx hb d_U_init_30 rfl (lv_at hl 0 rfl) ?_
    refine va_new (ci := 6) (fs := [.null, .null, .null, .int 0]) (C := "ZipGuard$CodeSet") (T := F_C) (N := 4) hx hb ht zi_C ty_C tk_C hown (ht _ zm_250) (ht _ zm_251) (ht _ zm_72) hK hP hD hS hA rfl zdf_C (Nat.le_of_ble_eq_true rfl) (Nat.le_of_ble_eq_true rfl) d_U_init_31 (fun q6 H hP hD hS => ?_)
    have hP : va_P D zcl [(h0, .inr (4, [.ref h2, .ref q1, .ref q4, .null, .null, .null, .null, .null])), (q1, .inr (5, [.ref b, .int 0, .int 0, .int 0])), (h1, .inr (1, [.ref b, .int n])), (q4, .inl (cA5, 320, .inl (fun _ => 0))), (q6, .inr (6, [.null, .null, .null, .int 0]))] H := hP
    have hD : va_D A [(h0, .inr (4, [.ref h2, .ref q1, .ref q4, .null, .null, .null, .null, .null])), (q1, .inr (5, [.ref b, .int 0, .int 0, .int 0])), (h1, .inr (1, [.ref b, .int n])), (q4, .inl (cA5, 320, .inl (fun _ => 0))), (q6, .inr (6, [.null, .null, .null, .int 0]))] := hD
    refine lv_dup hx hb d_U_init_34 rfl ?_
    refine lv_sipush (v := 288) hx hb d_U_init_35 (by decide) ?_
    refine zjv (wr := [(h0, .inr (4, [.ref h2, .ref q1, .ref q4, .null, .null, .null, .null, .null])), (q1, .inr (5, [.ref b, .int 0, .int 0, .int 0])), (h1, .inr (1, [.ref b, .int n])), (q4, .inl (cA5, 320, .inl (fun _ => 0)))]) (va_runI (As := [.int 288]) (rest := [.ref q6, .ref h0]) ⟨hx, hb, hml, hown, ht⟩ (c_C_init_288 l D _ q6 ) (cwI 1 ht (zt_good zm_254) rfl rfl rfl (ht _ zm_72) (ht _ zm_252) (ht _ zm_253) rfl (by decide +kernel) ⟨Nat.le_of_ble_eq_true rfl, Nat.le_of_ble_eq_true rfl⟩) (zpre zBlind_t hK hP hD [4] [] rfl (by decide) rfl (fun _ _ _ => trivial)) rfl rfl hl.1 rfl (lv_room (Nat.le_of_ble_eq_true rfl)) d_U_init_38 ⟨Nat.le_of_ble_eq_true rfl, Nat.le_of_ble_eq_true rfl⟩) hK hP hD hS hA [4] [0, 1, 2, 3] rfl rfl (by decide) (by decide) (fun u H locs hp14 hP hD hK hS => ?_)
    obtain ⟨q17, q28, q39, cA110, cA211, cA312⟩ := u
    dsimp only at hp14 hP hD hK
    have hP : va_P D zcl [(h0, .inr (4, [.ref h2, .ref q1, .ref q4, .null, .null, .null, .null, .null])), (q1, .inr (5, [.ref b, .int 0, .int 0, .int 0])), (h1, .inr (1, [.ref b, .int n])), (q4, .inl (cA5, 320, .inl (fun _ => 0))), (q6, .inr (6, [.ref q17, .ref q28, .ref q39, .int 0])), (q17, .inl (cA110, 16, .inl (fun _ => 0))), (q28, .inl (cA211, 16, .inl (fun _ => 0))), (q39, .inl (cA312, 288, .inl (fun _ => 0)))] H := hP
    have hD : va_D A [(h0, .inr (4, [.ref h2, .ref q1, .ref q4, .null, .null, .null, .null, .null])), (q1, .inr (5, [.ref b, .int 0, .int 0, .int 0])), (h1, .inr (1, [.ref b, .int n])), (q4, .inl (cA5, 320, .inl (fun _ => 0))), (q6, .inr (6, [.ref q17, .ref q28, .ref q39, .int 0])), (q17, .inl (cA110, 16, .inl (fun _ => 0))), (q28, .inl (cA211, 16, .inl (fun _ => 0))), (q39, .inl (cA312, 288, .inl (fun _ => 0)))] := hD
    have hK : va_K D zcl [(cA5, .int), (cA110, .int), (cA211, .int), (cA312, .int)] s := hK
    refine va_putF (ci := 4) (v := .ref q6) (ty := .object "ZipGuard$CodeSet") (C := "ZipGuard$Unpacker") (T := F_U) (N := 8) hx hb ht zi_U ty_U tk_U nm_U hown hK hP hD hS 0 rfl rfl 3 (by decide) (ht _ zm_373) (fun _ h9 => h9) rfl hnm rfl (by decide +kernel) rfl rfl (Nat.le_of_ble_eq_true rfl) d_U_init_41 (fun H locs hP hD hS => ?_)
    have hP : va_P D zcl [(h0, .inr (4, [.ref h2, .ref q1, .ref q4, .ref q6, .null, .null, .null, .null])), (q1, .inr (5, [.ref b, .int 0, .int 0, .int 0])), (h1, .inr (1, [.ref b, .int n])), (q4, .inl (cA5, 320, .inl (fun _ => 0))), (q6, .inr (6, [.ref q17, .ref q28, .ref q39, .int 0])), (q17, .inl (cA110, 16, .inl (fun _ => 0))), (q28, .inl (cA211, 16, .inl (fun _ => 0))), (q39, .inl (cA312, 288, .inl (fun _ => 0)))] H := hP
    have hD : va_D A [(h0, .inr (4, [.ref h2, .ref q1, .ref q4, .ref q6, .null, .null, .null, .null])), (q1, .inr (5, [.ref b, .int 0, .int 0, .int 0])), (h1, .inr (1, [.ref b, .int n])), (q4, .inl (cA5, 320, .inl (fun _ => 0))), (q6, .inr (6, [.ref q17, .ref q28, .ref q39, .int 0])), (q17, .inl (cA110, 16, .inl (fun _ => 0))), (q28, .inl (cA211, 16, .inl (fun _ => 0))), (q39, .inl (cA312, 288, .inl (fun _ => 0)))] := hD
    have hP := hP.sub (ws' := [(h0, .inr (4, [.ref h2, .ref q1, .ref q4, .ref q6, .null, .null, .null, .null])), (h1, .inr (1, [.ref b, .int n])), (q4, .inl (cA5, 320, .inl (fun _ => 0))), (q6, .inr (6, [.ref q17, .ref q28, .ref q39, .int 0])), (q17, .inl (cA110, 16, .inl (fun _ => 0))), (q28, .inl (cA211, 16, .inl (fun _ => 0))), (q39, .inl (cA312, 288, .inl (fun _ => 0)))]) [0, 2, 3, 4, 5, 6, 7] rfl
    have hD := hD.sub (ws' := [(h0, .inr (4, [.ref h2, .ref q1, .ref q4, .ref q6, .null, .null, .null, .null])), (h1, .inr (1, [.ref b, .int n])), (q4, .inl (cA5, 320, .inl (fun _ => 0))), (q6, .inr (6, [.ref q17, .ref q28, .ref q39, .int 0])), (q17, .inl (cA110, 16, .inl (fun _ => 0))), (q28, .inl (cA211, 16, .inl (fun _ => 0))), (q39, .inl (cA312, 288, .inl (fun _ => 0)))]) [0, 2, 3, 4, 5, 6, 7] (by decide) rfl
    have hK := hK.sub (tys' := [(cA5, .int), (cA110, .int), (cA211, .int), (cA312, .int)]) [0, 1, 2, 3] rfl
    refine lv_aload_n hx hb d_U_init_44 rfl (lv_at hl 0 rfl) ?_
    refine va_new (ci := 6) (fs := [.null, .null, .null, .int 0]) (C := "ZipGuard$CodeSet") (T := F_C) (N := 4) hx hb ht zi_C ty_C tk_C hown (ht _ zm_250) (ht _ zm_251) (ht _ zm_72) hK hP hD hS hA rfl zdf_C (Nat.le_of_ble_eq_true rfl) (Nat.le_of_ble_eq_true rfl) d_U_init_45 (fun q15 H hP hD hS => ?_)
    have hP : va_P D zcl [(h0, .inr (4, [.ref h2, .ref q1, .ref q4, .ref q6, .null, .null, .null, .null])), (h1, .inr (1, [.ref b, .int n])), (q4, .inl (cA5, 320, .inl (fun _ => 0))), (q6, .inr (6, [.ref q17, .ref q28, .ref q39, .int 0])), (q17, .inl (cA110, 16, .inl (fun _ => 0))), (q28, .inl (cA211, 16, .inl (fun _ => 0))), (q39, .inl (cA312, 288, .inl (fun _ => 0))), (q15, .inr (6, [.null, .null, .null, .int 0]))] H := hP
    have hD : va_D A [(h0, .inr (4, [.ref h2, .ref q1, .ref q4, .ref q6, .null, .null, .null, .null])), (h1, .inr (1, [.ref b, .int n])), (q4, .inl (cA5, 320, .inl (fun _ => 0))), (q6, .inr (6, [.ref q17, .ref q28, .ref q39, .int 0])), (q17, .inl (cA110, 16, .inl (fun _ => 0))), (q28, .inl (cA211, 16, .inl (fun _ => 0))), (q39, .inl (cA312, 288, .inl (fun _ => 0))), (q15, .inr (6, [.null, .null, .null, .int 0]))] := hD
    refine lv_dup hx hb d_U_init_48 rfl ?_
    refine lv_bipush (v := 32) hx hb d_U_init_49 (by decide) ?_
    refine zjv (wr := [(h0, .inr (4, [.ref h2, .ref q1, .ref q4, .ref q6, .null, .null, .null, .null])), (h1, .inr (1, [.ref b, .int n])), (q4, .inl (cA5, 320, .inl (fun _ => 0))), (q6, .inr (6, [.ref q17, .ref q28, .ref q39, .int 0])), (q17, .inl (cA110, 16, .inl (fun _ => 0))), (q28, .inl (cA211, 16, .inl (fun _ => 0))), (q39, .inl (cA312, 288, .inl (fun _ => 0)))]) (va_runI (As := [.int 32]) (rest := [.ref q15, .ref h0]) ⟨hx, hb, hml, hown, ht⟩ (c_C_init_32 l D _ q15 ) (cwI 1 ht (zt_good zm_254) rfl rfl rfl (ht _ zm_72) (ht _ zm_252) (ht _ zm_253) rfl (by decide +kernel) ⟨Nat.le_of_ble_eq_true rfl, Nat.le_of_ble_eq_true rfl⟩) (zpre zBlind_t hK hP hD [7] [] rfl (by decide) rfl (fun _ _ _ => trivial)) rfl rfl hl.1 rfl (lv_room (Nat.le_of_ble_eq_true rfl)) d_U_init_51 ⟨Nat.le_of_ble_eq_true rfl, Nat.le_of_ble_eq_true rfl⟩) hK hP hD hS hA [7] [0, 1, 2, 3, 4, 5, 6] rfl rfl (by decide) (by decide) (fun u H locs hp23 hP hD hK hS => ?_)
    obtain ⟨q116, q217, q318, cA119, cA220, cA321⟩ := u
    dsimp only at hp23 hP hD hK
    have hP : va_P D zcl [(h0, .inr (4, [.ref h2, .ref q1, .ref q4, .ref q6, .null, .null, .null, .null])), (h1, .inr (1, [.ref b, .int n])), (q4, .inl (cA5, 320, .inl (fun _ => 0))), (q6, .inr (6, [.ref q17, .ref q28, .ref q39, .int 0])), (q17, .inl (cA110, 16, .inl (fun _ => 0))), (q28, .inl (cA211, 16, .inl (fun _ => 0))), (q39, .inl (cA312, 288, .inl (fun _ => 0))), (q15, .inr (6, [.ref q116, .ref q217, .ref q318, .int 0])), (q116, .inl (cA119, 16, .inl (fun _ => 0))), (q217, .inl (cA220, 16, .inl (fun _ => 0))), (q318, .inl (cA321, 32, .inl (fun _ => 0)))] H := hP
    have hD : va_D A [(h0, .inr (4, [.ref h2, .ref q1, .ref q4, .ref q6, .null, .null, .null, .null])), (h1, .inr (1, [.ref b, .int n])), (q4, .inl (cA5, 320, .inl (fun _ => 0))), (q6, .inr (6, [.ref q17, .ref q28, .ref q39, .int 0])), (q17, .inl (cA110, 16, .inl (fun _ => 0))), (q28, .inl (cA211, 16, .inl (fun _ => 0))), (q39, .inl (cA312, 288, .inl (fun _ => 0))), (q15, .inr (6, [.ref q116, .ref q217, .ref q318, .int 0])), (q116, .inl (cA119, 16, .inl (fun _ => 0))), (q217, .inl (cA220, 16, .inl (fun _ => 0))), (q318, .inl (cA321, 32, .inl (fun _ => 0)))] := hD
    have hK : va_K D zcl [(cA5, .int), (cA110, .int), (cA211, .int), (cA312, .int), (cA119, .int), (cA220, .int), (cA321, .int)] s := hK
    refine va_putF (ci := 4) (v := .ref q15) (ty := .object "ZipGuard$CodeSet") (C := "ZipGuard$Unpacker") (T := F_U) (N := 8) hx hb ht zi_U ty_U tk_U nm_U hown hK hP hD hS 0 rfl rfl 4 (by decide) (ht _ zm_374) (fun _ h9 => h9) rfl hnm rfl (by decide +kernel) rfl rfl (Nat.le_of_ble_eq_true rfl) d_U_init_54 (fun H locs hP hD hS => ?_)
    have hP : va_P D zcl [(h0, .inr (4, [.ref h2, .ref q1, .ref q4, .ref q6, .ref q15, .null, .null, .null])), (h1, .inr (1, [.ref b, .int n])), (q4, .inl (cA5, 320, .inl (fun _ => 0))), (q6, .inr (6, [.ref q17, .ref q28, .ref q39, .int 0])), (q17, .inl (cA110, 16, .inl (fun _ => 0))), (q28, .inl (cA211, 16, .inl (fun _ => 0))), (q39, .inl (cA312, 288, .inl (fun _ => 0))), (q15, .inr (6, [.ref q116, .ref q217, .ref q318, .int 0])), (q116, .inl (cA119, 16, .inl (fun _ => 0))), (q217, .inl (cA220, 16, .inl (fun _ => 0))), (q318, .inl (cA321, 32, .inl (fun _ => 0)))] H := hP
    have hD : va_D A [(h0, .inr (4, [.ref h2, .ref q1, .ref q4, .ref q6, .ref q15, .null, .null, .null])), (h1, .inr (1, [.ref b, .int n])), (q4, .inl (cA5, 320, .inl (fun _ => 0))), (q6, .inr (6, [.ref q17, .ref q28, .ref q39, .int 0])), (q17, .inl (cA110, 16, .inl (fun _ => 0))), (q28, .inl (cA211, 16, .inl (fun _ => 0))), (q39, .inl (cA312, 288, .inl (fun _ => 0))), (q15, .inr (6, [.ref q116, .ref q217, .ref q318, .int 0])), (q116, .inl (cA119, 16, .inl (fun _ => 0))), (q217, .inl (cA220, 16, .inl (fun _ => 0))), (q318, .inl (cA321, 32, .inl (fun _ => 0)))] := hD
    have hP := hP.sub (ws' := [(h0, .inr (4, [.ref h2, .ref q1, .ref q4, .ref q6, .ref q15, .null, .null, .null])), (h1, .inr (1, [.ref b, .int n])), (q4, .inl (cA5, 320, .inl (fun _ => 0))), (q6, .inr (6, [.ref q17, .ref q28, .ref q39, .int 0])), (q17, .inl (cA110, 16, .inl (fun _ => 0))), (q28, .inl (cA211, 16, .inl (fun _ => 0))), (q39, .inl (cA312, 288, .inl (fun _ => 0))), (q15, .inr (6, [.ref q116, .ref q217, .ref q318, .int 0])), (q116, .inl (cA119, 16, .inl (fun _ => 0))), (q217, .inl (cA220, 16, .inl (fun _ => 0))), (q318, .inl (cA321, 32, .inl (fun _ => 0)))]) [0, 1, 2, 3, 4, 5, 6, 7, 8, 9, 10] rfl
    have hD := hD.sub (ws' := [(h0, .inr (4, [.ref h2, .ref q1, .ref q4, .ref q6, .ref q15, .null, .null, .null])), (h1, .inr (1, [.ref b, .int n])), (q4, .inl (cA5, 320, .inl (fun _ => 0))), (q6, .inr (6, [.ref q17, .ref q28, .ref q39, .int 0])), (q17, .inl (cA110, 16, .inl (fun _ => 0))), (q28, .inl (cA211, 16, .inl (fun _ => 0))), (q39, .inl (cA312, 288, .inl (fun _ => 0))), (q15, .inr (6, [.ref q116, .ref q217, .ref q318, .int 0])), (q116, .inl (cA119, 16, .inl (fun _ => 0))), (q217, .inl (cA220, 16, .inl (fun _ => 0))), (q318, .inl (cA321, 32, .inl (fun _ => 0)))]) [0, 1, 2, 3, 4, 5, 6, 7, 8, 9, 10] (by decide) rfl
    have hK := hK.sub (tys' := [(cA5, .int), (cA110, .int), (cA211, .int), (cA312, .int), (cA119, .int), (cA220, .int), (cA321, .int)]) [0, 1, 2, 3, 4, 5, 6] rfl
    refine lv_aload_n hx hb d_U_init_57 rfl (lv_at hl 0 rfl) ?_
    refine va_new (ci := 6) (fs := [.null, .null, .null, .int 0]) (C := "ZipGuard$CodeSet") (T := F_C) (N := 4) hx hb ht zi_C ty_C tk_C hown (ht _ zm_250) (ht _ zm_251) (ht _ zm_72) hK hP hD hS hA rfl zdf_C (Nat.le_of_ble_eq_true rfl) (Nat.le_of_ble_eq_true rfl) d_U_init_58 (fun q24 H hP hD hS => ?_)
    have hP : va_P D zcl [(h0, .inr (4, [.ref h2, .ref q1, .ref q4, .ref q6, .ref q15, .null, .null, .null])), (h1, .inr (1, [.ref b, .int n])), (q4, .inl (cA5, 320, .inl (fun _ => 0))), (q6, .inr (6, [.ref q17, .ref q28, .ref q39, .int 0])), (q17, .inl (cA110, 16, .inl (fun _ => 0))), (q28, .inl (cA211, 16, .inl (fun _ => 0))), (q39, .inl (cA312, 288, .inl (fun _ => 0))), (q15, .inr (6, [.ref q116, .ref q217, .ref q318, .int 0])), (q116, .inl (cA119, 16, .inl (fun _ => 0))), (q217, .inl (cA220, 16, .inl (fun _ => 0))), (q318, .inl (cA321, 32, .inl (fun _ => 0))), (q24, .inr (6, [.null, .null, .null, .int 0]))] H := hP
    have hD : va_D A [(h0, .inr (4, [.ref h2, .ref q1, .ref q4, .ref q6, .ref q15, .null, .null, .null])), (h1, .inr (1, [.ref b, .int n])), (q4, .inl (cA5, 320, .inl (fun _ => 0))), (q6, .inr (6, [.ref q17, .ref q28, .ref q39, .int 0])), (q17, .inl (cA110, 16, .inl (fun _ => 0))), (q28, .inl (cA211, 16, .inl (fun _ => 0))), (q39, .inl (cA312, 288, .inl (fun _ => 0))), (q15, .inr (6, [.ref q116, .ref q217, .ref q318, .int 0])), (q116, .inl (cA119, 16, .inl (fun _ => 0))), (q217, .inl (cA220, 16, .inl (fun _ => 0))), (q318, .inl (cA321, 32, .inl (fun _ => 0))), (q24, .inr (6, [.null, .null, .null, .int 0]))] := hD
    refine lv_dup hx hb d_U_init_61 rfl ?_
    refine lv_bipush (v := 19) hx hb d_U_init_62 (by decide) ?_
    refine zjv (wr := [(h0, .inr (4, [.ref h2, .ref q1, .ref q4, .ref q6, .ref q15, .null, .null, .null])), (h1, .inr (1, [.ref b, .int n])), (q4, .inl (cA5, 320, .inl (fun _ => 0))), (q6, .inr (6, [.ref q17, .ref q28, .ref q39, .int 0])), (q17, .inl (cA110, 16, .inl (fun _ => 0))), (q28, .inl (cA211, 16, .inl (fun _ => 0))), (q39, .inl (cA312, 288, .inl (fun _ => 0))), (q15, .inr (6, [.ref q116, .ref q217, .ref q318, .int 0])), (q116, .inl (cA119, 16, .inl (fun _ => 0))), (q217, .inl (cA220, 16, .inl (fun _ => 0))), (q318, .inl (cA321, 32, .inl (fun _ => 0)))]) (va_runI (As := [.int 19]) (rest := [.ref q24, .ref h0]) ⟨hx, hb, hml, hown, ht⟩ (c_C_init_19 l D _ q24 ) (cwI 1 ht (zt_good zm_254) rfl rfl rfl (ht _ zm_72) (ht _ zm_252) (ht _ zm_253) rfl (by decide +kernel) ⟨Nat.le_of_ble_eq_true rfl, Nat.le_of_ble_eq_true rfl⟩) (zpre zBlind_t hK hP hD [11] [] rfl (by decide) rfl (fun _ _ _ => trivial)) rfl rfl hl.1 rfl (lv_room (Nat.le_of_ble_eq_true rfl)) d_U_init_64 ⟨Nat.le_of_ble_eq_true rfl, Nat.le_of_ble_eq_true rfl⟩) hK hP hD hS hA [11] [0, 1, 2, 3, 4, 5, 6, 7, 8, 9, 10] rfl rfl (by decide) (by decide) (fun u H locs hp32 hP hD hK hS => ?_)
    obtain ⟨q125, q226, q327, cA128, cA229, cA330⟩ := u
    dsimp only at hp32 hP hD hK
    have hP : va_P D zcl [(h0, .inr (4, [.ref h2, .ref q1, .ref q4, .ref q6, .ref q15, .null, .null, .null])), (h1, .inr (1, [.ref b, .int n])), (q4, .inl (cA5, 320, .inl (fun _ => 0))), (q6, .inr (6, [.ref q17, .ref q28, .ref q39, .int 0])), (q17, .inl (cA110, 16, .inl (fun _ => 0))), (q28, .inl (cA211, 16, .inl (fun _ => 0))), (q39, .inl (cA312, 288, .inl (fun _ => 0))), (q15, .inr (6, [.ref q116, .ref q217, .ref q318, .int 0])), (q116, .inl (cA119, 16, .inl (fun _ => 0))), (q217, .inl (cA220, 16, .inl (fun _ => 0))), (q318, .inl (cA321, 32, .inl (fun _ => 0))), (q24, .inr (6, [.ref q125, .ref q226, .ref q327, .int 0])), (q125, .inl (cA128, 16, .inl (fun _ => 0))), (q226, .inl (cA229, 16, .inl (fun _ => 0))), (q327, .inl (cA330, 19, .inl (fun _ => 0)))] H := hP
    have hD : va_D A [(h0, .inr (4, [.ref h2, .ref q1, .ref q4, .ref q6, .ref q15, .null, .null, .null])), (h1, .inr (1, [.ref b, .int n])), (q4, .inl (cA5, 320, .inl (fun _ => 0))), (q6, .inr (6, [.ref q17, .ref q28, .ref q39, .int 0])), (q17, .inl (cA110, 16, .inl (fun _ => 0))), (q28, .inl (cA211, 16, .inl (fun _ => 0))), (q39, .inl (cA312, 288, .inl (fun _ => 0))), (q15, .inr (6, [.ref q116, .ref q217, .ref q318, .int 0])), (q116, .inl (cA119, 16, .inl (fun _ => 0))), (q217, .inl (cA220, 16, .inl (fun _ => 0))), (q318, .inl (cA321, 32, .inl (fun _ => 0))), (q24, .inr (6, [.ref q125, .ref q226, .ref q327, .int 0])), (q125, .inl (cA128, 16, .inl (fun _ => 0))), (q226, .inl (cA229, 16, .inl (fun _ => 0))), (q327, .inl (cA330, 19, .inl (fun _ => 0)))] := hD
    have hK : va_K D zcl [(cA5, .int), (cA110, .int), (cA211, .int), (cA312, .int), (cA119, .int), (cA220, .int), (cA321, .int), (cA128, .int), (cA229, .int), (cA330, .int)] s := hK
    refine va_putF (ci := 4) (v := .ref q24) (ty := .object "ZipGuard$CodeSet") (C := "ZipGuard$Unpacker") (T := F_U) (N := 8) hx hb ht zi_U ty_U tk_U nm_U hown hK hP hD hS 0 rfl rfl 5 (by decide) (ht _ zm_375) (fun _ h9 => h9) rfl hnm rfl (by decide +kernel) rfl rfl (Nat.le_of_ble_eq_true rfl) d_U_init_67 (fun H locs hP hD hS => ?_)
    have hP : va_P D zcl [(h0, .inr (4, [.ref h2, .ref q1, .ref q4, .ref q6, .ref q15, .ref q24, .null, .null])), (h1, .inr (1, [.ref b, .int n])), (q4, .inl (cA5, 320, .inl (fun _ => 0))), (q6, .inr (6, [.ref q17, .ref q28, .ref q39, .int 0])), (q17, .inl (cA110, 16, .inl (fun _ => 0))), (q28, .inl (cA211, 16, .inl (fun _ => 0))), (q39, .inl (cA312, 288, .inl (fun _ => 0))), (q15, .inr (6, [.ref q116, .ref q217, .ref q318, .int 0])), (q116, .inl (cA119, 16, .inl (fun _ => 0))), (q217, .inl (cA220, 16, .inl (fun _ => 0))), (q318, .inl (cA321, 32, .inl (fun _ => 0))), (q24, .inr (6, [.ref q125, .ref q226, .ref q327, .int 0])), (q125, .inl (cA128, 16, .inl (fun _ => 0))), (q226, .inl (cA229, 16, .inl (fun _ => 0))), (q327, .inl (cA330, 19, .inl (fun _ => 0)))] H := hP
    have hD : va_D A [(h0, .inr (4, [.ref h2, .ref q1, .ref q4, .ref q6, .ref q15, .ref q24, .null, .null])), (h1, .inr (1, [.ref b, .int n])), (q4, .inl (cA5, 320, .inl (fun _ => 0))), (q6, .inr (6, [.ref q17, .ref q28, .ref q39, .int 0])), (q17, .inl (cA110, 16, .inl (fun _ => 0))), (q28, .inl (cA211, 16, .inl (fun _ => 0))), (q39, .inl (cA312, 288, .inl (fun _ => 0))), (q15, .inr (6, [.ref q116, .ref q217, .ref q318, .int 0])), (q116, .inl (cA119, 16, .inl (fun _ => 0))), (q217, .inl (cA220, 16, .inl (fun _ => 0))), (q318, .inl (cA321, 32, .inl (fun _ => 0))), (q24, .inr (6, [.ref q125, .ref q226, .ref q327, .int 0])), (q125, .inl (cA128, 16, .inl (fun _ => 0))), (q226, .inl (cA229, 16, .inl (fun _ => 0))), (q327, .inl (cA330, 19, .inl (fun _ => 0)))] := hD
    have hP := hP.sub (ws' := [(h0, .inr (4, [.ref h2, .ref q1, .ref q4, .ref q6, .ref q15, .ref q24, .null, .null])), (h1, .inr (1, [.ref b, .int n])), (q4, .inl (cA5, 320, .inl (fun _ => 0))), (q6, .inr (6, [.ref q17, .ref q28, .ref q39, .int 0])), (q17, .inl (cA110, 16, .inl (fun _ => 0))), (q28, .inl (cA211, 16, .inl (fun _ => 0))), (q39, .inl (cA312, 288, .inl (fun _ => 0))), (q15, .inr (6, [.ref q116, .ref q217, .ref q318, .int 0])), (q116, .inl (cA119, 16, .inl (fun _ => 0))), (q217, .inl (cA220, 16, .inl (fun _ => 0))), (q318, .inl (cA321, 32, .inl (fun _ => 0)))]) [0, 1, 2, 3, 4, 5, 6, 7, 8, 9, 10] rfl
    have hD := hD.sub (ws' := [(h0, .inr (4, [.ref h2, .ref q1, .ref q4, .ref q6, .ref q15, .ref q24, .null, .null])), (h1, .inr (1, [.ref b, .int n])), (q4, .inl (cA5, 320, .inl (fun _ => 0))), (q6, .inr (6, [.ref q17, .ref q28, .ref q39, .int 0])), (q17, .inl (cA110, 16, .inl (fun _ => 0))), (q28, .inl (cA211, 16, .inl (fun _ => 0))), (q39, .inl (cA312, 288, .inl (fun _ => 0))), (q15, .inr (6, [.ref q116, .ref q217, .ref q318, .int 0])), (q116, .inl (cA119, 16, .inl (fun _ => 0))), (q217, .inl (cA220, 16, .inl (fun _ => 0))), (q318, .inl (cA321, 32, .inl (fun _ => 0)))]) [0, 1, 2, 3, 4, 5, 6, 7, 8, 9, 10] (by decide) rfl
    have hK := hK.sub (tys' := [(cA5, .int), (cA110, .int), (cA211, .int), (cA312, .int), (cA119, .int), (cA220, .int), (cA321, .int)]) [0, 1, 2, 3, 4, 5, 6] rfl
    refine lv_aload_n hx hb d_U_init_70 rfl (lv_at hl 0 rfl) ?_
    refine va_new (ci := 6) (fs := [.null, .null, .null, .int 0]) (C := "ZipGuard$CodeSet") (T := F_C) (N := 4) hx hb ht zi_C ty_C tk_C hown (ht _ zm_250) (ht _ zm_251) (ht _ zm_72) hK hP hD hS hA rfl zdf_C (Nat.le_of_ble_eq_true rfl) (Nat.le_of_ble_eq_true rfl) d_U_init_71 (fun q33 H hP hD hS => ?_)
    have hP : va_P D zcl [(h0, .inr (4, [.ref h2, .ref q1, .ref q4, .ref q6, .ref q15, .ref q24, .null, .null])), (h1, .inr (1, [.ref b, .int n])), (q4, .inl (cA5, 320, .inl (fun _ => 0))), (q6, .inr (6, [.ref q17, .ref q28, .ref q39, .int 0])), (q17, .inl (cA110, 16, .inl (fun _ => 0))), (q28, .inl (cA211, 16, .inl (fun _ => 0))), (q39, .inl (cA312, 288, .inl (fun _ => 0))), (q15, .inr (6, [.ref q116, .ref q217, .ref q318, .int 0])), (q116, .inl (cA119, 16, .inl (fun _ => 0))), (q217, .inl (cA220, 16, .inl (fun _ => 0))), (q318, .inl (cA321, 32, .inl (fun _ => 0))), (q33, .inr (6, [.null, .null, .null, .int 0]))] H := hP
    have hD : va_D A [(h0, .inr (4, [.ref h2, .ref q1, .ref q4, .ref q6, .ref q15, .ref q24, .null, .null])), (h1, .inr (1, [.ref b, .int n])), (q4, .inl (cA5, 320, .inl (fun _ => 0))), (q6, .inr (6, [.ref q17, .ref q28, .ref q39, .int 0])), (q17, .inl (cA110, 16, .inl (fun _ => 0))), (q28, .inl (cA211, 16, .inl (fun _ => 0))), (q39, .inl (cA312, 288, .inl (fun _ => 0))), (q15, .inr (6, [.ref q116, .ref q217, .ref q318, .int 0])), (q116, .inl (cA119, 16, .inl (fun _ => 0))), (q217, .inl (cA220, 16, .inl (fun _ => 0))), (q318, .inl (cA321, 32, .inl (fun _ => 0))), (q33, .inr (6, [.null, .null, .null, .int 0]))] := hD
    refine lv_dup hx hb d_U_init_74 rfl ?_
    refine lv_sipush (v := 286) hx hb d_U_init_75 (by decide) ?_
    refine zjv (wr := [(h0, .inr (4, [.ref h2, .ref q1, .ref q4, .ref q6, .ref q15, .ref q24, .null, .null])), (h1, .inr (1, [.ref b, .int n])), (q4, .inl (cA5, 320, .inl (fun _ => 0))), (q6, .inr (6, [.ref q17, .ref q28, .ref q39, .int 0])), (q17, .inl (cA110, 16, .inl (fun _ => 0))), (q28, .inl (cA211, 16, .inl (fun _ => 0))), (q39, .inl (cA312, 288, .inl (fun _ => 0))), (q15, .inr (6, [.ref q116, .ref q217, .ref q318, .int 0])), (q116, .inl (cA119, 16, .inl (fun _ => 0))), (q217, .inl (cA220, 16, .inl (fun _ => 0))), (q318, .inl (cA321, 32, .inl (fun _ => 0)))]) (va_runI (As := [.int 286]) (rest := [.ref q33, .ref h0]) ⟨hx, hb, hml, hown, ht⟩ (c_C_init_286 l D _ q33 ) (cwI 1 ht (zt_good zm_254) rfl rfl rfl (ht _ zm_72) (ht _ zm_252) (ht _ zm_253) rfl (by decide +kernel) ⟨Nat.le_of_ble_eq_true rfl, Nat.le_of_ble_eq_true rfl⟩) (zpre zBlind_t hK hP hD [11] [] rfl (by decide) rfl (fun _ _ _ => trivial)) rfl rfl hl.1 rfl (lv_room (Nat.le_of_ble_eq_true rfl)) d_U_init_78 ⟨Nat.le_of_ble_eq_true rfl, Nat.le_of_ble_eq_true rfl⟩) hK hP hD hS hA [11] [0, 1, 2, 3, 4, 5, 6, 7, 8, 9, 10] rfl rfl (by decide) (by decide) (fun u H locs hp41 hP hD hK hS => ?_)
    obtain ⟨q134, q235, q336, cA137, cA238, cA339⟩ := u
    dsimp only at hp41 hP hD hK
    have hP : va_P D zcl [(h0, .inr (4, [.ref h2, .ref q1, .ref q4, .ref q6, .ref q15, .ref q24, .null, .null])), (h1, .inr (1, [.ref b, .int n])), (q4, .inl (cA5, 320, .inl (fun _ => 0))), (q6, .inr (6, [.ref q17, .ref q28, .ref q39, .int 0])), (q17, .inl (cA110, 16, .inl (fun _ => 0))), (q28, .inl (cA211, 16, .inl (fun _ => 0))), (q39, .inl (cA312, 288, .inl (fun _ => 0))), (q15, .inr (6, [.ref q116, .ref q217, .ref q318, .int 0])), (q116, .inl (cA119, 16, .inl (fun _ => 0))), (q217, .inl (cA220, 16, .inl (fun _ => 0))), (q318, .inl (cA321, 32, .inl (fun _ => 0))), (q33, .inr (6, [.ref q134, .ref q235, .ref q336, .int 0])), (q134, .inl (cA137, 16, .inl (fun _ => 0))), (q235, .inl (cA238, 16, .inl (fun _ => 0))), (q336, .inl (cA339, 286, .inl (fun _ => 0)))] H := hP
    have hD : va_D A [(h0, .inr (4, [.ref h2, .ref q1, .ref q4, .ref q6, .ref q15, .ref q24, .null, .null])), (h1, .inr (1, [.ref b, .int n])), (q4, .inl (cA5, 320, .inl (fun _ => 0))), (q6, .inr (6, [.ref q17, .ref q28, .ref q39, .int 0])), (q17, .inl (cA110, 16, .inl (fun _ => 0))), (q28, .inl (cA211, 16, .inl (fun _ => 0))), (q39, .inl (cA312, 288, .inl (fun _ => 0))), (q15, .inr (6, [.ref q116, .ref q217, .ref q318, .int 0])), (q116, .inl (cA119, 16, .inl (fun _ => 0))), (q217, .inl (cA220, 16, .inl (fun _ => 0))), (q318, .inl (cA321, 32, .inl (fun _ => 0))), (q33, .inr (6, [.ref q134, .ref q235, .ref q336, .int 0])), (q134, .inl (cA137, 16, .inl (fun _ => 0))), (q235, .inl (cA238, 16, .inl (fun _ => 0))), (q336, .inl (cA339, 286, .inl (fun _ => 0)))] := hD
    have hK : va_K D zcl [(cA5, .int), (cA110, .int), (cA211, .int), (cA312, .int), (cA119, .int), (cA220, .int), (cA321, .int), (cA137, .int), (cA238, .int), (cA339, .int)] s := hK
    refine va_putF (ci := 4) (v := .ref q33) (ty := .object "ZipGuard$CodeSet") (C := "ZipGuard$Unpacker") (T := F_U) (N := 8) hx hb ht zi_U ty_U tk_U nm_U hown hK hP hD hS 0 rfl rfl 6 (by decide) (ht _ zm_376) (fun _ h9 => h9) rfl hnm rfl (by decide +kernel) rfl rfl (Nat.le_of_ble_eq_true rfl) d_U_init_81 (fun H locs hP hD hS => ?_)
    have hP : va_P D zcl [(h0, .inr (4, [.ref h2, .ref q1, .ref q4, .ref q6, .ref q15, .ref q24, .ref q33, .null])), (h1, .inr (1, [.ref b, .int n])), (q4, .inl (cA5, 320, .inl (fun _ => 0))), (q6, .inr (6, [.ref q17, .ref q28, .ref q39, .int 0])), (q17, .inl (cA110, 16, .inl (fun _ => 0))), (q28, .inl (cA211, 16, .inl (fun _ => 0))), (q39, .inl (cA312, 288, .inl (fun _ => 0))), (q15, .inr (6, [.ref q116, .ref q217, .ref q318, .int 0])), (q116, .inl (cA119, 16, .inl (fun _ => 0))), (q217, .inl (cA220, 16, .inl (fun _ => 0))), (q318, .inl (cA321, 32, .inl (fun _ => 0))), (q33, .inr (6, [.ref q134, .ref q235, .ref q336, .int 0])), (q134, .inl (cA137, 16, .inl (fun _ => 0))), (q235, .inl (cA238, 16, .inl (fun _ => 0))), (q336, .inl (cA339, 286, .inl (fun _ => 0)))] H := hP
    have hD : va_D A [(h0, .inr (4, [.ref h2, .ref q1, .ref q4, .ref q6, .ref q15, .ref q24, .ref q33, .null])), (h1, .inr (1, [.ref b, .int n])), (q4, .inl (cA5, 320, .inl (fun _ => 0))), (q6, .inr (6, [.ref q17, .ref q28, .ref q39, .int 0])), (q17, .inl (cA110, 16, .inl (fun _ => 0))), (q28, .inl (cA211, 16, .inl (fun _ => 0))), (q39, .inl (cA312, 288, .inl (fun _ => 0))), (q15, .inr (6, [.ref q116, .ref q217, .ref q318, .int 0])), (q116, .inl (cA119, 16, .inl (fun _ => 0))), (q217, .inl (cA220, 16, .inl (fun _ => 0))), (q318, .inl (cA321, 32, .inl (fun _ => 0))), (q33, .inr (6, [.ref q134, .ref q235, .ref q336, .int 0])), (q134, .inl (cA137, 16, .inl (fun _ => 0))), (q235, .inl (cA238, 16, .inl (fun _ => 0))), (q336, .inl (cA339, 286, .inl (fun _ => 0)))] := hD
    have hP := hP.sub (ws' := [(h0, .inr (4, [.ref h2, .ref q1, .ref q4, .ref q6, .ref q15, .ref q24, .ref q33, .null])), (h1, .inr (1, [.ref b, .int n])), (q4, .inl (cA5, 320, .inl (fun _ => 0))), (q6, .inr (6, [.ref q17, .ref q28, .ref q39, .int 0])), (q17, .inl (cA110, 16, .inl (fun _ => 0))), (q28, .inl (cA211, 16, .inl (fun _ => 0))), (q39, .inl (cA312, 288, .inl (fun _ => 0))), (q15, .inr (6, [.ref q116, .ref q217, .ref q318, .int 0])), (q116, .inl (cA119, 16, .inl (fun _ => 0))), (q217, .inl (cA220, 16, .inl (fun _ => 0))), (q318, .inl (cA321, 32, .inl (fun _ => 0)))]) [0, 1, 2, 3, 4, 5, 6, 7, 8, 9, 10] rfl
    have hD := hD.sub (ws' := [(h0, .inr (4, [.ref h2, .ref q1, .ref q4, .ref q6, .ref q15, .ref q24, .ref q33, .null])), (h1, .inr (1, [.ref b, .int n])), (q4, .inl (cA5, 320, .inl (fun _ => 0))), (q6, .inr (6, [.ref q17, .ref q28, .ref q39, .int 0])), (q17, .inl (cA110, 16, .inl (fun _ => 0))), (q28, .inl (cA211, 16, .inl (fun _ => 0))), (q39, .inl (cA312, 288, .inl (fun _ => 0))), (q15, .inr (6, [.ref q116, .ref q217, .ref q318, .int 0])), (q116, .inl (cA119, 16, .inl (fun _ => 0))), (q217, .inl (cA220, 16, .inl (fun _ => 0))), (q318, .inl (cA321, 32, .inl (fun _ => 0)))]) [0, 1, 2, 3, 4, 5, 6, 7, 8, 9, 10] (by decide) rfl
    have hK := hK.sub (tys' := [(cA5, .int), (cA110, .int), (cA211, .int), (cA312, .int), (cA119, .int), (cA220, .int), (cA321, .int)]) [0, 1, 2, 3, 4, 5, 6] rfl
    refine lv_aload_n hx hb d_U_init_84 rfl (lv_at hl 0 rfl) ?_
    refine va_new (ci := 6) (fs := [.null, .null, .null, .int 0]) (C := "ZipGuard$CodeSet") (T := F_C) (N := 4) hx hb ht zi_C ty_C tk_C hown (ht _ zm_250) (ht _ zm_251) (ht _ zm_72) hK hP hD hS hA rfl zdf_C (Nat.le_of_ble_eq_true rfl) (Nat.le_of_ble_eq_true rfl) d_U_init_85 (fun q42 H hP hD hS => ?_)
    have hP : va_P D zcl [(h0, .inr (4, [.ref h2, .ref q1, .ref q4, .ref q6, .ref q15, .ref q24, .ref q33, .null])), (h1, .inr (1, [.ref b, .int n])), (q4, .inl (cA5, 320, .inl (fun _ => 0))), (q6, .inr (6, [.ref q17, .ref q28, .ref q39, .int 0])), (q17, .inl (cA110, 16, .inl (fun _ => 0))), (q28, .inl (cA211, 16, .inl (fun _ => 0))), (q39, .inl (cA312, 288, .inl (fun _ => 0))), (q15, .inr (6, [.ref q116, .ref q217, .ref q318, .int 0])), (q116, .inl (cA119, 16, .inl (fun _ => 0))), (q217, .inl (cA220, 16, .inl (fun _ => 0))), (q318, .inl (cA321, 32, .inl (fun _ => 0))), (q42, .inr (6, [.null, .null, .null, .int 0]))] H := hP
    have hD : va_D A [(h0, .inr (4, [.ref h2, .ref q1, .ref q4, .ref q6, .ref q15, .ref q24, .ref q33, .null])), (h1, .inr (1, [.ref b, .int n])), (q4, .inl (cA5, 320, .inl (fun _ => 0))), (q6, .inr (6, [.ref q17, .ref q28, .ref q39, .int 0])), (q17, .inl (cA110, 16, .inl (fun _ => 0))), (q28, .inl (cA211, 16, .inl (fun _ => 0))), (q39, .inl (cA312, 288, .inl (fun _ => 0))), (q15, .inr (6, [.ref q116, .ref q217, .ref q318, .int 0])), (q116, .inl (cA119, 16, .inl (fun _ => 0))), (q217, .inl (cA220, 16, .inl (fun _ => 0))), (q318, .inl (cA321, 32, .inl (fun _ => 0))), (q42, .inr (6, [.null, .null, .null, .int 0]))] := hD
    refine lv_dup hx hb d_U_init_88 rfl ?_
    refine lv_bipush (v := 30) hx hb d_U_init_89 (by decide) ?_
    refine zjv (wr := [(h0, .inr (4, [.ref h2, .ref q1, .ref q4, .ref q6, .ref q15, .ref q24, .ref q33, .null])), (h1, .inr (1, [.ref b, .int n])), (q4, .inl (cA5, 320, .inl (fun _ => 0))), (q6, .inr (6, [.ref q17, .ref q28, .ref q39, .int 0])), (q17, .inl (cA110, 16, .inl (fun _ => 0))), (q28, .inl (cA211, 16, .inl (fun _ => 0))), (q39, .inl (cA312, 288, .inl (fun _ => 0))), (q15, .inr (6, [.ref q116, .ref q217, .ref q318, .int 0])), (q116, .inl (cA119, 16, .inl (fun _ => 0))), (q217, .inl (cA220, 16, .inl (fun _ => 0))), (q318, .inl (cA321, 32, .inl (fun _ => 0)))]) (va_runI (As := [.int 30]) (rest := [.ref q42, .ref h0]) ⟨hx, hb, hml, hown, ht⟩ (c_C_init_30 l D _ q42 ) (cwI 1 ht (zt_good zm_254) rfl rfl rfl (ht _ zm_72) (ht _ zm_252) (ht _ zm_253) rfl (by decide +kernel) ⟨Nat.le_of_ble_eq_true rfl, Nat.le_of_ble_eq_true rfl⟩) (zpre zBlind_t hK hP hD [11] [] rfl (by decide) rfl (fun _ _ _ => trivial)) rfl rfl hl.1 rfl (lv_room (Nat.le_of_ble_eq_true rfl)) d_U_init_91 ⟨Nat.le_of_ble_eq_true rfl, Nat.le_of_ble_eq_true rfl⟩) hK hP hD hS hA [11] [0, 1, 2, 3, 4, 5, 6, 7, 8, 9, 10] rfl rfl (by decide) (by decide) (fun u H locs hp50 hP hD hK hS => ?_)
    obtain ⟨q143, q244, q345, cA146, cA247, cA348⟩ := u
    dsimp only at hp50 hP hD hK
    have hP : va_P D zcl [(h0, .inr (4, [.ref h2, .ref q1, .ref q4, .ref q6, .ref q15, .ref q24, .ref q33, .null])), (h1, .inr (1, [.ref b, .int n])), (q4, .inl (cA5, 320, .inl (fun _ => 0))), (q6, .inr (6, [.ref q17, .ref q28, .ref q39, .int 0])), (q17, .inl (cA110, 16, .inl (fun _ => 0))), (q28, .inl (cA211, 16, .inl (fun _ => 0))), (q39, .inl (cA312, 288, .inl (fun _ => 0))), (q15, .inr (6, [.ref q116, .ref q217, .ref q318, .int 0])), (q116, .inl (cA119, 16, .inl (fun _ => 0))), (q217, .inl (cA220, 16, .inl (fun _ => 0))), (q318, .inl (cA321, 32, .inl (fun _ => 0))), (q42, .inr (6, [.ref q143, .ref q244, .ref q345, .int 0])), (q143, .inl (cA146, 16, .inl (fun _ => 0))), (q244, .inl (cA247, 16, .inl (fun _ => 0))), (q345, .inl (cA348, 30, .inl (fun _ => 0)))] H := hP
    have hD : va_D A [(h0, .inr (4, [.ref h2, .ref q1, .ref q4, .ref q6, .ref q15, .ref q24, .ref q33, .null])), (h1, .inr (1, [.ref b, .int n])), (q4, .inl (cA5, 320, .inl (fun _ => 0))), (q6, .inr (6, [.ref q17, .ref q28, .ref q39, .int 0])), (q17, .inl (cA110, 16, .inl (fun _ => 0))), (q28, .inl (cA211, 16, .inl (fun _ => 0))), (q39, .inl (cA312, 288, .inl (fun _ => 0))), (q15, .inr (6, [.ref q116, .ref q217, .ref q318, .int 0])), (q116, .inl (cA119, 16, .inl (fun _ => 0))), (q217, .inl (cA220, 16, .inl (fun _ => 0))), (q318, .inl (cA321, 32, .inl (fun _ => 0))), (q42, .inr (6, [.ref q143, .ref q244, .ref q345, .int 0])), (q143, .inl (cA146, 16, .inl (fun _ => 0))), (q244, .inl (cA247, 16, .inl (fun _ => 0))), (q345, .inl (cA348, 30, .inl (fun _ => 0)))] := hD
    have hK : va_K D zcl [(cA5, .int), (cA110, .int), (cA211, .int), (cA312, .int), (cA119, .int), (cA220, .int), (cA321, .int), (cA146, .int), (cA247, .int), (cA348, .int)] s := hK
    refine va_putF (ci := 4) (v := .ref q42) (ty := .object "ZipGuard$CodeSet") (C := "ZipGuard$Unpacker") (T := F_U) (N := 8) hx hb ht zi_U ty_U tk_U nm_U hown hK hP hD hS 0 rfl rfl 7 (by decide) (ht _ zm_377) (fun _ h9 => h9) rfl hnm rfl (by decide +kernel) rfl rfl (Nat.le_of_ble_eq_true rfl) d_U_init_94 (fun H locs hP hD hS => ?_)
    have hP : va_P D zcl [(h0, .inr (4, [.ref h2, .ref q1, .ref q4, .ref q6, .ref q15, .ref q24, .ref q33, .ref q42])), (h1, .inr (1, [.ref b, .int n])), (q4, .inl (cA5, 320, .inl (fun _ => 0))), (q6, .inr (6, [.ref q17, .ref q28, .ref q39, .int 0])), (q17, .inl (cA110, 16, .inl (fun _ => 0))), (q28, .inl (cA211, 16, .inl (fun _ => 0))), (q39, .inl (cA312, 288, .inl (fun _ => 0))), (q15, .inr (6, [.ref q116, .ref q217, .ref q318, .int 0])), (q116, .inl (cA119, 16, .inl (fun _ => 0))), (q217, .inl (cA220, 16, .inl (fun _ => 0))), (q318, .inl (cA321, 32, .inl (fun _ => 0))), (q42, .inr (6, [.ref q143, .ref q244, .ref q345, .int 0])), (q143, .inl (cA146, 16, .inl (fun _ => 0))), (q244, .inl (cA247, 16, .inl (fun _ => 0))), (q345, .inl (cA348, 30, .inl (fun _ => 0)))] H := hP
    have hD : va_D A [(h0, .inr (4, [.ref h2, .ref q1, .ref q4, .ref q6, .ref q15, .ref q24, .ref q33, .ref q42])), (h1, .inr (1, [.ref b, .int n])), (q4, .inl (cA5, 320, .inl (fun _ => 0))), (q6, .inr (6, [.ref q17, .ref q28, .ref q39, .int 0])), (q17, .inl (cA110, 16, .inl (fun _ => 0))), (q28, .inl (cA211, 16, .inl (fun _ => 0))), (q39, .inl (cA312, 288, .inl (fun _ => 0))), (q15, .inr (6, [.ref q116, .ref q217, .ref q318, .int 0])), (q116, .inl (cA119, 16, .inl (fun _ => 0))), (q217, .inl (cA220, 16, .inl (fun _ => 0))), (q318, .inl (cA321, 32, .inl (fun _ => 0))), (q42, .inr (6, [.ref q143, .ref q244, .ref q345, .int 0])), (q143, .inl (cA146, 16, .inl (fun _ => 0))), (q244, .inl (cA247, 16, .inl (fun _ => 0))), (q345, .inl (cA348, 30, .inl (fun _ => 0)))] := hD
    have hP := hP.sub (ws' := [(h0, .inr (4, [.ref h2, .ref q1, .ref q4, .ref q6, .ref q15, .ref q24, .ref q33, .ref q42])), (h1, .inr (1, [.ref b, .int n])), (q4, .inl (cA5, 320, .inl (fun _ => 0))), (q6, .inr (6, [.ref q17, .ref q28, .ref q39, .int 0])), (q17, .inl (cA110, 16, .inl (fun _ => 0))), (q28, .inl (cA211, 16, .inl (fun _ => 0))), (q39, .inl (cA312, 288, .inl (fun _ => 0))), (q15, .inr (6, [.ref q116, .ref q217, .ref q318, .int 0])), (q116, .inl (cA119, 16, .inl (fun _ => 0))), (q217, .inl (cA220, 16, .inl (fun _ => 0))), (q318, .inl (cA321, 32, .inl (fun _ => 0)))]) [0, 1, 2, 3, 4, 5, 6, 7, 8, 9, 10] rfl
    have hD := hD.sub (ws' := [(h0, .inr (4, [.ref h2, .ref q1, .ref q4, .ref q6, .ref q15, .ref q24, .ref q33, .ref q42])), (h1, .inr (1, [.ref b, .int n])), (q4, .inl (cA5, 320, .inl (fun _ => 0))), (q6, .inr (6, [.ref q17, .ref q28, .ref q39, .int 0])), (q17, .inl (cA110, 16, .inl (fun _ => 0))), (q28, .inl (cA211, 16, .inl (fun _ => 0))), (q39, .inl (cA312, 288, .inl (fun _ => 0))), (q15, .inr (6, [.ref q116, .ref q217, .ref q318, .int 0])), (q116, .inl (cA119, 16, .inl (fun _ => 0))), (q217, .inl (cA220, 16, .inl (fun _ => 0))), (q318, .inl (cA321, 32, .inl (fun _ => 0)))]) [0, 1, 2, 3, 4, 5, 6, 7, 8, 9, 10] (by decide) rfl
    have hK := hK.sub (tys' := [(cA5, .int), (cA110, .int), (cA211, .int), (cA312, .int), (cA119, .int), (cA220, .int), (cA321, .int)]) [0, 1, 2, 3, 4, 5, 6] rfl
    refine lv_aload_n hx hb d_U_init_97 rfl (lv_at hl 0 rfl) ?_
    refine zjv (wr := [(h1, .inr (1, [.ref b, .int n]))]) (va_runV (As := []) (rest := []) ⟨hx, hb, hml, hown, ht⟩ (c_U_bfc l D _ h0 h2 q1 q4 q6 q15 q24 q33 q42 q17 q28 q39 q116 q217 q318 cA5 cA110 cA211 cA312 cA119 cA220 cA321 (fun _ => 0) 0 0 (fun _ => 0) (fun _ => 0) (fun _ => 0) (fun _ => 0) (fun _ => 0) (fun _ => 0) ) (cwV 0 ht (zt_goodV zm_270 zm_271 zm_0 zm_70 zm_272) rfl rfl rfl (by decide +kernel) ⟨Nat.le_of_ble_eq_true rfl, Nat.le_of_ble_eq_true rfl⟩) (zpreV zBlind_t hK hP hD [0, 2, 3, 4, 5, 6, 7, 8, 9, 10] [0, 1, 2, 3, 4, 5, 6] rfl (by decide) rfl (fun _ _ _ => trivial) (va_recv (q := ("ZipGuard$Unpacker", F_U, 8)) hK hP rfl (q0 := 0) (ci := 4) rfl)) rfl rfl hl.1 rfl (lv_room (Nat.le_of_ble_eq_true rfl)) d_U_init_98 ⟨Nat.le_of_ble_eq_true rfl, Nat.le_of_ble_eq_true rfl⟩) hK hP hD hS hA [0, 2, 3, 4, 5, 6, 7, 8, 9, 10] [1] rfl rfl (by decide) (by decide) (fun u H locs hp58 hP hD hK hS => ?_)
    obtain ⟨⟨G151, G252, G353⟩, ⟨E154, E255, E356⟩⟩ := u
    dsimp only at hp58 hP hD hK
    have hP : va_P D zcl [(h1, .inr (1, [.ref b, .int n])), (h0, .inr (4, [.ref h2, .ref q1, .ref q4, .ref q6, .ref q15, .ref q24, .ref q33, .ref q42])), (q4, .inl (cA5, 320, .inl (zfixF (fun _ => 0)))), (q6, .inr (6, [.ref q17, .ref q28, .ref q39, .int (nI (zst zfix 288 16))])), (q17, .inl (cA110, 16, .inl G151)), (q28, .inl (cA211, 16, .inl G252)), (q39, .inl (cA312, 288, .inl G353)), (q15, .inr (6, [.ref q116, .ref q217, .ref q318, .int (nI (zst (fun _ => 5) 32 16))])), (q116, .inl (cA119, 16, .inl E154)), (q217, .inl (cA220, 16, .inl E255)), (q318, .inl (cA321, 32, .inl E356))] H := hP
    have hD : va_D A [(h1, .inr (1, [.ref b, .int n])), (h0, .inr (4, [.ref h2, .ref q1, .ref q4, .ref q6, .ref q15, .ref q24, .ref q33, .ref q42])), (q4, .inl (cA5, 320, .inl (zfixF (fun _ => 0)))), (q6, .inr (6, [.ref q17, .ref q28, .ref q39, .int (nI (zst zfix 288 16))])), (q17, .inl (cA110, 16, .inl G151)), (q28, .inl (cA211, 16, .inl G252)), (q39, .inl (cA312, 288, .inl G353)), (q15, .inr (6, [.ref q116, .ref q217, .ref q318, .int (nI (zst (fun _ => 5) 32 16))])), (q116, .inl (cA119, 16, .inl E154)), (q217, .inl (cA220, 16, .inl E255)), (q318, .inl (cA321, 32, .inl E356))] := hD
    have hK : va_K D zcl [(cA5, .int), (cA110, .int), (cA211, .int), (cA312, .int), (cA119, .int), (cA220, .int), (cA321, .int), (cA5, .int), (cA110, .int), (cA211, .int), (cA312, .int), (cA119, .int), (cA220, .int), (cA321, .int)] s := hK
    exact zretv hx hb hr hlk hK hP hD hS () [0] [] rfl (by decide) rfl (trivial) (Nat.le_of_ble_eq_true rfl) (Nat.le_of_ble_eq_true rfl) d_U_init_101)
set_option maxHeartbeats 4000000 in
set_option maxRecDepth 100000 in
theorem lp_D_init_20 {p : Program} {l : Launch} {e : Env} {R : Room} {s : State} {m : MethodId} {args : Array Value} {below : List Frame} {meth : Method} {c : Code} {Q : State → Prop} {A : Nat → Prop} {D : va_G} (hx : p.tables.exec = Jvm.exec) (hb : c.code = prog_4_method_1_code) (hml : c.maxLocals = 3) (hown : s.vm.findClass "ZipGuard$Directory" = some m.cls) (ht : ∀ w ∈ zt, w.before args s = true) (hA : ∀ q, s.heap.size ≤ q → A q) (h0 : Nat) (h1 : Nat) (qe : Nat) (cE : ClassId) (hRf : 2 ≤ R.frames) (hRl : 8 + (1 + 11) + 12 ≤ R.locals) (hRc : 129 ≤ R.cells) (hRs : 4672 ≤ R.slots) (hK : va_K D zcl [(cE, .object "ZipGuard$Entry")] s) 
    (kk : ∀ (fe : Nat → Option Nat) (H : Heap) (locs : List Loc) (ls : Array Slot), va_P D zcl [(h0, .inr (2, [.ref qe, .int 0, .int 0, .int 0, .ref h1])), (qe, .inl (cE, 64, .inr (.inr (.inr (.inr fe)))))] H → va_D A [(h0, .inr (2, [.ref qe, .int 0, .int 0, .int 0, .ref h1])), (qe, .inl (cE, 64, .inr (.inr (.inr (.inr fe)))))] → va_S A s.heap H locs → lv_has ls 3 [(2, .int (nI 64)), (0, .ref h0), (1, .ref h1)] → W p l e R s m args below meth c H locs (1 + 2 * 64) (64 + 72 * 64) Q (F0 m 45 ls [])) :
    ∀ (j : Nat) (k : Nat) (fe : Nat → Option Nat) (H : Heap) (locs : List Loc) (ls : Array Slot), k + j = 64 → va_P D zcl [(h0, .inr (2, [.ref qe, .int 0, .int 0, .int 0, .ref h1])), (qe, .inl (cE, 64, .inr (.inr (.inr (.inr fe)))))] H → va_D A [(h0, .inr (2, [.ref qe, .int 0, .int 0, .int 0, .ref h1])), (qe, .inl (cE, 64, .inr (.inr (.inr (.inr fe)))))] → va_S A s.heap H locs → lv_has ls 3 [(2, .int (nI k)), (0, .ref h0), (1, .ref h1)] → W p l e R s m args below meth c H locs (1 + 2 * k) (64 + 72 * k) Q (F0 m 20 ls []) := by
  intro j
  induction j with
  | zero =>
    intro k fe H locs ls hk hP hD hS hl
    have hk : k = 64 := by omega
    subst hk
    refine lv_iload_n hx hb d_D_init_20 rfl (lv_at hl 0 rfl) ?_
    refine lv_bipush (v := 64) hx hb d_D_init_21 (by decide) ?_
    refine lv_icmp_ge (tgt := 45) hx hb d_D_init_23 (by decide) (fun _ => ?_) (fun h => absurd (by decide +kernel) h)
    exact kk fe H locs ls hP hD hS hl
  | succ j ih =>
    intro k fe H locs ls hk hP hD hS hl
    refine lv_iload_n hx hb d_D_init_20 rfl (lv_at hl 0 rfl) ?_
    refine lv_bipush (v := 64) hx hb d_D_init_21 (by decide) ?_
    refine lv_icmp_ge (tgt := 45) hx hb d_D_init_23 (by decide) (fun h => absurd h (show ¬ nI 64 ≤ nI k from nI_ge (by omega) (by omega))) (fun _ => ?_)
    refine lv_aload_n hx hb d_D_init_26 rfl (lv_at hl 1 rfl) ?_
    refine va_get (ci := 2) (C := "ZipGuard$Directory") (T := F_D) (N := 5) hx hb ht zi_D hown hK hP 0 rfl rfl 0 (by decide) (ht _ zm_179) (fun _ h9 => h9) rfl d_D_init_27 ?_
    refine lv_iload_n hx hb d_D_init_30 rfl (lv_at hl 0 rfl) ?_
    refine va_new (ci := 7) (fs := [.null, .int 0, .int 0, .int 0, .int 0, .long 0, .int 0, .int 0, .int 0, .int 0, .int 0, .int 0]) (C := "ZipGuard$Entry") (T := F_E) (N := 12) hx hb ht zi_E ty_E tk_E hown (ht _ zm_112) (ht _ zm_113) (ht _ zm_68) hK hP hD hS hA rfl zdf_E (by omega) (by omega) d_D_init_31 (fun q3 H hP hD hS => ?_)
    have hP : va_P D zcl [(h0, .inr (2, [.ref qe, .int 0, .int 0, .int 0, .ref h1])), (qe, .inl (cE, 64, .inr (.inr (.inr (.inr fe))))), (q3, .inr (7, [.null, .int 0, .int 0, .int 0, .int 0, .long 0, .int 0, .int 0, .int 0, .int 0, .int 0, .int 0]))] H := hP
    have hD : va_D A [(h0, .inr (2, [.ref qe, .int 0, .int 0, .int 0, .ref h1])), (qe, .inl (cE, 64, .inr (.inr (.inr (.inr fe))))), (q3, .inr (7, [.null, .int 0, .int 0, .int 0, .int 0, .long 0, .int 0, .int 0, .int 0, .int 0, .int 0, .int 0]))] := hD
    refine lv_dup hx hb d_D_init_34 rfl ?_
    refine zjv (wr := [(h0, .inr (2, [.ref qe, .int 0, .int 0, .int 0, .ref h1])), (qe, .inl (cE, 64, .inr (.inr (.inr (.inr fe)))))]) (va_runI (As := []) (rest := [.ref q3, .int (nI k), .ref qe]) ⟨hx, hb, hml, hown, ht⟩ (c_E_init l D _ q3 ) (cwI 0 ht (zt_good zm_116) rfl rfl rfl (ht _ zm_68) (ht _ zm_114) (ht _ zm_115) rfl (by decide +kernel) ⟨hRf, hRl⟩) (zpre zBlind_t hK hP hD [2] [] rfl (by decide) rfl (fun _ _ _ => trivial)) rfl rfl hl.1 rfl (lv_room (Nat.le_of_ble_eq_true rfl)) d_D_init_35 ⟨by omega, by omega⟩) hK hP hD hS hA [2] [0, 1] rfl rfl (by decide) (by decide) (fun u H locs hp7 hP hD hK hS => ?_)
    obtain ⟨q14, cA15⟩ := u
    dsimp only at hp7 hP hD hK
    have hP : va_P D zcl [(h0, .inr (2, [.ref qe, .int 0, .int 0, .int 0, .ref h1])), (qe, .inl (cE, 64, .inr (.inr (.inr (.inr fe))))), (q3, .inr (7, [.ref q14, .int 0, .int 0, .int 0, .int 0, .long 0, .int 0, .int 0, .int 0, .int 0, .int 0, .int 0])), (q14, .inl (cA15, 60, .inl (fun _ => 0)))] H := hP
    have hD : va_D A [(h0, .inr (2, [.ref qe, .int 0, .int 0, .int 0, .ref h1])), (qe, .inl (cE, 64, .inr (.inr (.inr (.inr fe))))), (q3, .inr (7, [.ref q14, .int 0, .int 0, .int 0, .int 0, .long 0, .int 0, .int 0, .int 0, .int 0, .int 0, .int 0])), (q14, .inl (cA15, 60, .inl (fun _ => 0)))] := hD
    have hK : va_K D zcl [(cE, .object "ZipGuard$Entry"), (cA15, .byte)] s := hK
    refine va_astq (r := ("ZipGuard$Entry", F_E, 12)) hx hb hK hP hD hS 1 0 2 7 rfl rfl rfl rfl (vp_in_nI (by omega) (by omega)) d_D_init_38 (fun H locs hP hD hS => ?_)
    have hP : va_P D zcl [(h0, .inr (2, [.ref qe, .int 0, .int 0, .int 0, .ref h1])), (qe, .inl (cE, 64, .inr (.inr (.inr (.inr (va_up fe (nI k).toNatClampNeg (some q3))))))), (q3, .inr (7, [.ref q14, .int 0, .int 0, .int 0, .int 0, .long 0, .int 0, .int 0, .int 0, .int 0, .int 0, .int 0])), (q14, .inl (cA15, 60, .inl (fun _ => 0)))] H := hP
    have hD : va_D A [(h0, .inr (2, [.ref qe, .int 0, .int 0, .int 0, .ref h1])), (qe, .inl (cE, 64, .inr (.inr (.inr (.inr (va_up fe (nI k).toNatClampNeg (some q3))))))), (q3, .inr (7, [.ref q14, .int 0, .int 0, .int 0, .int 0, .long 0, .int 0, .int 0, .int 0, .int 0, .int 0, .int 0])), (q14, .inl (cA15, 60, .inl (fun _ => 0)))] := hD
    have hP := hP.sub (ws' := [(h0, .inr (2, [.ref qe, .int 0, .int 0, .int 0, .ref h1])), (qe, .inl (cE, 64, .inr (.inr (.inr (.inr (va_up fe (nI k).toNatClampNeg (some q3)))))))]) [0, 1] rfl
    have hD := hD.sub (ws' := [(h0, .inr (2, [.ref qe, .int 0, .int 0, .int 0, .ref h1])), (qe, .inl (cE, 64, .inr (.inr (.inr (.inr (va_up fe (nI k).toNatClampNeg (some q3)))))))]) [0, 1] (by decide) rfl
    have hK := hK.sub (tys' := [(cE, .object "ZipGuard$Entry")]) [0] rfl
    refine lv_iinc (k := 0) (v := (nI k) + 1) (lv' := [(2, .int ((nI k) + 1)), (0, .ref h0), (1, .ref h1)]) hx hb d_D_init_39 hl rfl rfl (by decide) rfl (fun ls hl => ?_)
    refine lv_goto (tgt := 20) hx hb d_D_init_42 (by decide) ?_
    rw [nI_1] at hl
    refine W.widen (k := 1 + 2 * (k + 1)) (n := 64 + 72 * (k + 1)) (by omega) (by omega) ?_
    exact ih (k + 1) (va_up fe (nI k).toNatClampNeg (some q3)) H locs ls (by omega) hP hD hS hl
set_option maxHeartbeats 4000000 in
set_option maxRecDepth 100000 in
theorem c_D_init0 (l : Launch) (D : va_G) (sz : Nat) (h0 : Nat) (h1 : Nat)  : Met l y_D_init (Cond.code y_D_init prog_4_method_1_code 3 (Option.none : Option Jvm.ClassFile.FieldType) :: zt) { frames := 2, cells := 129, slots := 4672, locals := 32 } (zPc [.ref h0, .ref h1] D [(h0, .inr (2, [.null, .int 0, .int 0, .int 0, .null]))] [] sz (va_AO "ZipGuard$Entry")) (va_Qv (fun (u : Nat) => match u with | qe => True) (fun u t => zB D ((fun (u : Nat) => match u with | qe => [(h0, .inr (2, [.ref qe, .int 0, .int 0, .int (-1), .ref h1]))]) u) ((fun (u : Nat) => match u with | qe => []) u) (va_A [(h0, .inr (2, [.null, .int 0, .int 0, .int 0, .null]))] sz) t) (va_A [(h0, .inr (2, [.null, .int 0, .int 0, .int 0, .null]))] sz)) 129 4672 (va_A [(h0, .inr (2, [.null, .int 0, .int 0, .int 0, .null]))] sz) :=
  zMet (Qf := fun A => va_Qv (fun (u : Nat) => match u with | qe => True) (fun u t => zB D ((fun (u : Nat) => match u with | qe => [(h0, .inr (2, [.ref qe, .int 0, .int 0, .int (-1), .ref h1]))]) u) ((fun (u : Nat) => match u with | qe => []) u) A t) A) (by decide) (Nat.le_of_ble_eq_true rfl) (fun p e s m below meth c A ls hx hb hr hml hown ht hlk hnm hA hK hP hD hX hl => by
    have hS : va_S A s.heap s.heap [] := va_S.rf
    have hl : lv_has ls 3 [(0, .ref h0), (1, .ref h1)] := hl
    refine lv_aload_n hx hb d_D_init_0 rfl (lv_at hl 0 rfl) ?_
    refine W.objInit hx hb hown (ht _ zm_111) (ht _ zm_87) (ht _ zm_88) rfl (by rw [hml]; exact hl.1) rfl d_D_init_1 (Nat.le_of_ble_eq_true rfl) (Nat.le_of_ble_eq_true rfl) ?_
    refine W.eq (g2 := F0 m 4 ls []) rfl ?_
    refine lv_aload_n hx hb d_D_init_4 rfl (lv_at hl 0 rfl) ?_
    refine lv_aload_n hx hb d_D_init_5 rfl (lv_at hl 1 rfl) ?_
    refine va_putF (ci := 2) (v := .ref h1) (ty := .object "ZipGuard$Tape") (C := "ZipGuard$Directory") (T := F_D) (N := 5) hx hb ht zi_D ty_D tk_D nm_D hown hK hP hD hS 0 rfl rfl 4 (by decide) (ht _ zm_187) (fun _ h9 => h9) rfl hnm rfl (by decide +kernel) rfl rfl (Nat.le_of_ble_eq_true rfl) d_D_init_6 (fun H locs hP hD hS => ?_)
    have hP : va_P D zcl [(h0, .inr (2, [.null, .int 0, .int 0, .int 0, .ref h1]))] H := hP
    have hD : va_D A [(h0, .inr (2, [.null, .int 0, .int 0, .int 0, .ref h1]))] := hD
    refine lv_aload_n hx hb d_D_init_9 rfl (lv_at hl 0 rfl) ?_
    refine lv_bipush (v := 64) hx hb d_D_init_10 (by decide) ?_
    refine va_newq (n := 64) (N' := 64) hx hb hown (ht _ zm_112) hX hK hP hD hS hA (by decide) (by decide) (by decide) (Nat.le_of_ble_eq_true rfl) (Nat.le_of_ble_eq_true rfl) d_D_init_12 (fun q1 cA2 H hK hP hD hS => ?_)
    have hP : va_P D zcl [(h0, .inr (2, [.null, .int 0, .int 0, .int 0, .ref h1])), (q1, .inl (cA2, 64, .inr (.inr (.inr (.inr (fun _ => none))))))] H := hP
    have hD : va_D A [(h0, .inr (2, [.null, .int 0, .int 0, .int 0, .ref h1])), (q1, .inl (cA2, 64, .inr (.inr (.inr (.inr (fun _ => none))))))] := hD
    have hK : va_K D zcl [(cA2, .object "ZipGuard$Entry")] s := hK
    refine va_putF (ci := 2) (v := .ref q1) (ty := .array (.object "ZipGuard$Entry")) (C := "ZipGuard$Directory") (T := F_D) (N := 5) hx hb ht zi_D ty_D tk_D nm_D hown hK hP hD hS 0 rfl rfl 0 (by decide) (ht _ zm_179) (fun _ h9 => h9) rfl hnm rfl (by decide +kernel) rfl rfl (Nat.le_of_ble_eq_true rfl) d_D_init_15 (fun H locs hP hD hS => ?_)
    have hP : va_P D zcl [(h0, .inr (2, [.ref q1, .int 0, .int 0, .int 0, .ref h1])), (q1, .inl (cA2, 64, .inr (.inr (.inr (.inr (fun _ => none))))))] H := hP
    have hD : va_D A [(h0, .inr (2, [.ref q1, .int 0, .int 0, .int 0, .ref h1])), (q1, .inl (cA2, 64, .inr (.inr (.inr (.inr (fun _ => none))))))] := hD
    refine lv_iconst (v := 0) hx hb d_D_init_18 (by decide) ?_
    refine lv_istore_n (lv' := [(2, .int 0), (0, .ref h0), (1, .ref h1)]) hx hb d_D_init_19 rfl hl (by decide) rfl (fun ls hl => ?_)
    refine lp_D_init_20 hx hb hml hown ht hA h0 h1 q1 cA2 (Nat.le_of_ble_eq_true rfl) (Nat.le_of_ble_eq_true rfl) (Nat.le_of_ble_eq_true rfl) (Nat.le_of_ble_eq_true rfl) hK (fun fe H locs ls hP hD hS hl => ?_) 64 0 _ H locs ls (by omega) hP hD hS hl
    refine lv_aload_n hx hb d_D_init_45 rfl (lv_at hl 1 rfl) ?_
    refine lv_iconst (v := 0) hx hb d_D_init_46 (by decide) ?_
    refine va_put (ci := 2) (v := .int 0) (ty := .int) (C := "ZipGuard$Directory") (T := F_D) (N := 5) hx hb ht zi_D ty_D tk_D nm_D hown hK hP hD hS 0 rfl rfl 1 (by decide) (ht _ zm_181) (fun _ h9 => h9) rfl (by decide +kernel) rfl rfl (Nat.le_of_ble_eq_true rfl) d_D_init_47 (fun H locs hP hD hS => ?_)
    have hP : va_P D zcl [(h0, .inr (2, [.ref q1, .int 0, .int 0, .int 0, .ref h1])), (q1, .inl (cA2, 64, .inr (.inr (.inr (.inr fe)))))] H := hP
    have hD : va_D A [(h0, .inr (2, [.ref q1, .int 0, .int 0, .int 0, .ref h1])), (q1, .inl (cA2, 64, .inr (.inr (.inr (.inr fe)))))] := hD
    refine lv_aload_n hx hb d_D_init_50 rfl (lv_at hl 1 rfl) ?_
    refine lv_iconst (v := 0) hx hb d_D_init_51 (by decide) ?_
    refine va_put (ci := 2) (v := .int 0) (ty := .boolean) (C := "ZipGuard$Directory") (T := F_D) (N := 5) hx hb ht zi_D ty_D tk_D nm_D hown hK hP hD hS 0 rfl rfl 2 (by decide) (ht _ zm_183) (fun _ h9 => h9) rfl (by decide +kernel) rfl rfl (Nat.le_of_ble_eq_true rfl) d_D_init_52 (fun H locs hP hD hS => ?_)
    have hP : va_P D zcl [(h0, .inr (2, [.ref q1, .int 0, .int 0, .int 0, .ref h1])), (q1, .inl (cA2, 64, .inr (.inr (.inr (.inr fe)))))] H := hP
    have hD : va_D A [(h0, .inr (2, [.ref q1, .int 0, .int 0, .int 0, .ref h1])), (q1, .inl (cA2, 64, .inr (.inr (.inr (.inr fe)))))] := hD
    refine lv_aload_n hx hb d_D_init_55 rfl (lv_at hl 1 rfl) ?_
    refine lv_iconst (v := (-1)) hx hb d_D_init_56 (by decide) ?_
    refine va_put (ci := 2) (v := .int (-1)) (ty := .int) (C := "ZipGuard$Directory") (T := F_D) (N := 5) hx hb ht zi_D ty_D tk_D nm_D hown hK hP hD hS 0 rfl rfl 3 (by decide) (ht _ zm_185) (fun _ h9 => h9) rfl (by decide +kernel) rfl rfl (Nat.le_of_ble_eq_true rfl) d_D_init_57 (fun H locs hP hD hS => ?_)
    have hP : va_P D zcl [(h0, .inr (2, [.ref q1, .int 0, .int 0, .int (-1), .ref h1])), (q1, .inl (cA2, 64, .inr (.inr (.inr (.inr fe)))))] H := hP
    have hD : va_D A [(h0, .inr (2, [.ref q1, .int 0, .int 0, .int (-1), .ref h1])), (q1, .inl (cA2, 64, .inr (.inr (.inr (.inr fe)))))] := hD
    exact zretv hx hb hr hlk hK hP hD hS q1 [0] [] rfl (by decide) rfl (trivial) (Nat.le_of_ble_eq_true rfl) (Nat.le_of_ble_eq_true rfl) d_D_init_60)
set_option maxHeartbeats 4000000 in
set_option maxRecDepth 100000 in
theorem c_G_init0 (l : Launch) (D : va_G) (sz : Nat) (h0 : Nat)  : Met l y_G_init (Cond.code y_G_init prog_1_method_1_code 1 (Option.none : Option Jvm.ClassFile.FieldType) :: zt) { frames := 4, cells := 157, slots := 65851, locals := 90 } (zPc [.ref h0] D [(h0, .inr (0, [.null, .null, .null, .null]))] [] sz (va_AO "ZipGuard$Entry")) (va_Qv (fun (u : Nat × Nat × Nat × Nat × Nat × Nat × Nat × ClassId) => match u with | (qt, qd, qa, qu, qb, qe, qo, cB) => True) (fun u t => zB D ((fun (u : Nat × Nat × Nat × Nat × Nat × Nat × Nat × ClassId) => match u with | (qt, qd, qa, qu, qb, qe, qo, cB) => [(h0, .inr (0, [.ref qt, .ref qd, .ref qa, .ref qu])), (qt, .inr (1, [.ref qb, .int 0])), (qb, .inl (cB, 20000, .inl (fun _ => 0))), (qd, .inr (2, [.ref qe, .int 0, .int 0, .int (-1), .ref qt])), (qa, .inr (3, [.int 20000, .int 100, .int 0, .ref qo, .int (-1)]))]) u) ((fun (u : Nat × Nat × Nat × Nat × Nat × Nat × Nat × ClassId) => match u with | (qt, qd, qa, qu, qb, qe, qo, cB) => [(cB, .byte)]) u) (va_A [(h0, .inr (0, [.null, .null, .null, .null]))] sz) t) (va_A [(h0, .inr (0, [.null, .null, .null, .null]))] sz)) 157 65851 (va_A [(h0, .inr (0, [.null, .null, .null, .null]))] sz) :=
  zMet (Qf := fun A => va_Qv (fun (u : Nat × Nat × Nat × Nat × Nat × Nat × Nat × ClassId) => match u with | (qt, qd, qa, qu, qb, qe, qo, cB) => True) (fun u t => zB D ((fun (u : Nat × Nat × Nat × Nat × Nat × Nat × Nat × ClassId) => match u with | (qt, qd, qa, qu, qb, qe, qo, cB) => [(h0, .inr (0, [.ref qt, .ref qd, .ref qa, .ref qu])), (qt, .inr (1, [.ref qb, .int 0])), (qb, .inl (cB, 20000, .inl (fun _ => 0))), (qd, .inr (2, [.ref qe, .int 0, .int 0, .int (-1), .ref qt])), (qa, .inr (3, [.int 20000, .int 100, .int 0, .ref qo, .int (-1)]))]) u) ((fun (u : Nat × Nat × Nat × Nat × Nat × Nat × Nat × ClassId) => match u with | (qt, qd, qa, qu, qb, qe, qo, cB) => [(cB, .byte)]) u) A t) A) (by decide) (Nat.le_of_ble_eq_true rfl) (fun p e s m below meth c A ls hx hb hr hml hown ht hlk hnm hA hK hP hD hX hl => by
    have hS : va_S A s.heap s.heap [] := va_S.rf
    have hl : lv_has ls 1 [(0, .ref h0)] := hl
    refine lv_aload_n hx hb d_G_init_0 rfl (lv_at hl 0 rfl) ?_
    refine W.objInit hx hb hown (ht _ zm_86) (ht _ zm_87) (ht _ zm_88) rfl (by rw [hml]; exact hl.1) rfl d_G_init_1 (Nat.le_of_ble_eq_true rfl) (Nat.le_of_ble_eq_true rfl) ?_
    refine W.eq (g2 := F0 m 4 ls []) rfl ?_
    refine lv_aload_n hx hb d_G_init_4 rfl (lv_at hl 0 rfl) ?_
    refine va_new (ci := 1) (fs := [.null, .int 0]) (C := "ZipGuard$Tape") (T := F_T) (N := 2) hx hb ht zi_T ty_T tk_T hown (ht _ zm_89) (ht _ zm_90) (ht _ zm_66) hK hP hD hS hA rfl zdf_T (Nat.le_of_ble_eq_true rfl) (Nat.le_of_ble_eq_true rfl) d_G_init_5 (fun q1 H hP hD hS => ?_)
    have hP : va_P D zcl [(h0, .inr (0, [.null, .null, .null, .null])), (q1, .inr (1, [.null, .int 0]))] H := hP
    have hD : va_D A [(h0, .inr (0, [.null, .null, .null, .null])), (q1, .inr (1, [.null, .int 0]))] := hD
    refine lv_dup hx hb d_G_init_8 rfl ?_
    refine zjv (wr := [(h0, .inr (0, [.null, .null, .null, .null]))]) (va_runI (As := []) (rest := [.ref q1, .ref h0]) ⟨hx, hb, hml, hown, ht⟩ (c_T_init l D _ q1 ) (cwI 0 ht (zt_good zm_93) rfl rfl rfl (ht _ zm_66) (ht _ zm_91) (ht _ zm_92) rfl (by decide +kernel) ⟨Nat.le_of_ble_eq_true rfl, Nat.le_of_ble_eq_true rfl⟩) (zpre zBlind_t hK hP hD [1] [] rfl (by decide) rfl (fun _ _ _ => trivial)) rfl rfl hl.1 rfl (lv_room (Nat.le_of_ble_eq_true rfl)) d_G_init_9 ⟨Nat.le_of_ble_eq_true rfl, Nat.le_of_ble_eq_true rfl⟩) hK hP hD hS hA [1] [0] rfl rfl (by decide) (by decide) (fun u H locs hp5 hP hD hK hS => ?_)
    obtain ⟨q12, cA13⟩ := u
    dsimp only at hp5 hP hD hK
    have hP : va_P D zcl [(h0, .inr (0, [.null, .null, .null, .null])), (q1, .inr (1, [.ref q12, .int 0])), (q12, .inl (cA13, 20000, .inl (fun _ => 0)))] H := hP
    have hD : va_D A [(h0, .inr (0, [.null, .null, .null, .null])), (q1, .inr (1, [.ref q12, .int 0])), (q12, .inl (cA13, 20000, .inl (fun _ => 0)))] := hD
    have hK : va_K D zcl [(cA13, .byte)] s := hK
    refine va_putF (ci := 0) (v := .ref q1) (ty := .object "ZipGuard$Tape") (C := "ZipGuard") (T := F_G) (N := 4) hx hb ht zi_G ty_G tk_G nm_G hown hK hP hD hS 0 rfl rfl 0 (by decide) (ht _ zm_395) (fun _ h9 => h9) rfl hnm rfl (by decide +kernel) rfl rfl (Nat.le_of_ble_eq_true rfl) d_G_init_12 (fun H locs hP hD hS => ?_)
    have hP : va_P D zcl [(h0, .inr (0, [.ref q1, .null, .null, .null])), (q1, .inr (1, [.ref q12, .int 0])), (q12, .inl (cA13, 20000, .inl (fun _ => 0)))] H := hP
    have hD : va_D A [(h0, .inr (0, [.ref q1, .null, .null, .null])), (q1, .inr (1, [.ref q12, .int 0])), (q12, .inl (cA13, 20000, .inl (fun _ => 0)))] := hD
    refine lv_aload_n hx hb d_G_init_15 rfl (lv_at hl 0 rfl) ?_
    refine va_new (ci := 2) (fs := [.null, .int 0, .int 0, .int 0, .null]) (C := "ZipGuard$Directory") (T := F_D) (N := 5) hx hb ht zi_D ty_D tk_D hown (ht _ zm_106) (ht _ zm_107) (ht _ zm_67) hK hP hD hS hA rfl zdf_D (Nat.le_of_ble_eq_true rfl) (Nat.le_of_ble_eq_true rfl) d_G_init_16 (fun q6 H hP hD hS => ?_)
    have hP : va_P D zcl [(h0, .inr (0, [.ref q1, .null, .null, .null])), (q1, .inr (1, [.ref q12, .int 0])), (q12, .inl (cA13, 20000, .inl (fun _ => 0))), (q6, .inr (2, [.null, .int 0, .int 0, .int 0, .null]))] H := hP
    have hD : va_D A [(h0, .inr (0, [.ref q1, .null, .null, .null])), (q1, .inr (1, [.ref q12, .int 0])), (q12, .inl (cA13, 20000, .inl (fun _ => 0))), (q6, .inr (2, [.null, .int 0, .int 0, .int 0, .null]))] := hD
    refine lv_dup hx hb d_G_init_19 rfl ?_
    refine lv_aload_n hx hb d_G_init_20 rfl (lv_at hl 0 rfl) ?_
    refine va_get (ci := 0) (C := "ZipGuard") (T := F_G) (N := 4) hx hb ht zi_G hown hK hP 0 rfl rfl 0 (by decide) (ht _ zm_395) (fun _ h9 => h9) rfl d_G_init_21 ?_
    refine zjv (wr := [(h0, .inr (0, [.ref q1, .null, .null, .null])), (q1, .inr (1, [.ref q12, .int 0])), (q12, .inl (cA13, 20000, .inl (fun _ => 0)))]) (va_runI (As := [.ref q1]) (rest := [.ref q6, .ref h0]) ⟨hx, hb, hml, hown, ht⟩ (c_D_init0 l D _ q6 q1 ) (cwI 1 ht (zt_good zm_110) rfl rfl rfl (ht _ zm_67) (ht _ zm_108) (ht _ zm_109) rfl (by decide +kernel) ⟨Nat.le_of_ble_eq_true rfl, Nat.le_of_ble_eq_true rfl⟩) (zpre zBlind_AO hK hP hD [3] [] rfl (by decide) rfl (fun U _ hW => hX.moved hW.alike)) rfl rfl hl.1 rfl (lv_room (Nat.le_of_ble_eq_true rfl)) d_G_init_24 ⟨Nat.le_of_ble_eq_true rfl, Nat.le_of_ble_eq_true rfl⟩) hK hP hD hS hA [3] [0, 1, 2] rfl rfl (by decide) (by decide) (fun u H locs hp9 hP hD hK hS => ?_)
    obtain ⟨qe7, rfl⟩ : ∃ z, z = u := ⟨u, rfl⟩
    dsimp only at hp9 hP hD hK
    have hP : va_P D zcl [(h0, .inr (0, [.ref q1, .null, .null, .null])), (q1, .inr (1, [.ref q12, .int 0])), (q12, .inl (cA13, 20000, .inl (fun _ => 0))), (q6, .inr (2, [.ref qe7, .int 0, .int 0, .int (-1), .ref q1]))] H := hP
    have hD : va_D A [(h0, .inr (0, [.ref q1, .null, .null, .null])), (q1, .inr (1, [.ref q12, .int 0])), (q12, .inl (cA13, 20000, .inl (fun _ => 0))), (q6, .inr (2, [.ref qe7, .int 0, .int 0, .int (-1), .ref q1]))] := hD
    have hK : va_K D zcl [(cA13, .byte)] s := hK
    refine va_putF (ci := 0) (v := .ref q6) (ty := .object "ZipGuard$Directory") (C := "ZipGuard") (T := F_G) (N := 4) hx hb ht zi_G ty_G tk_G nm_G hown hK hP hD hS 0 rfl rfl 1 (by decide) (ht _ zm_396) (fun _ h9 => h9) rfl hnm rfl (by decide +kernel) rfl rfl (Nat.le_of_ble_eq_true rfl) d_G_init_27 (fun H locs hP hD hS => ?_)
    have hP : va_P D zcl [(h0, .inr (0, [.ref q1, .ref q6, .null, .null])), (q1, .inr (1, [.ref q12, .int 0])), (q12, .inl (cA13, 20000, .inl (fun _ => 0))), (q6, .inr (2, [.ref qe7, .int 0, .int 0, .int (-1), .ref q1]))] H := hP
    have hD : va_D A [(h0, .inr (0, [.ref q1, .ref q6, .null, .null])), (q1, .inr (1, [.ref q12, .int 0])), (q12, .inl (cA13, 20000, .inl (fun _ => 0))), (q6, .inr (2, [.ref qe7, .int 0, .int 0, .int (-1), .ref q1]))] := hD
    refine lv_aload_n hx hb d_G_init_30 rfl (lv_at hl 0 rfl) ?_
    refine va_new (ci := 3) (fs := [.int 0, .int 0, .int 0, .null, .int 0]) (C := "ZipGuard$Target") (T := F_A) (N := 5) hx hb ht zi_A ty_A tk_A hown (ht _ zm_199) (ht _ zm_200) (ht _ zm_69) hK hP hD hS hA rfl zdf_A (Nat.le_of_ble_eq_true rfl) (Nat.le_of_ble_eq_true rfl) d_G_init_31 (fun q10 H hP hD hS => ?_)
    have hP : va_P D zcl [(h0, .inr (0, [.ref q1, .ref q6, .null, .null])), (q1, .inr (1, [.ref q12, .int 0])), (q12, .inl (cA13, 20000, .inl (fun _ => 0))), (q6, .inr (2, [.ref qe7, .int 0, .int 0, .int (-1), .ref q1])), (q10, .inr (3, [.int 0, .int 0, .int 0, .null, .int 0]))] H := hP
    have hD : va_D A [(h0, .inr (0, [.ref q1, .ref q6, .null, .null])), (q1, .inr (1, [.ref q12, .int 0])), (q12, .inl (cA13, 20000, .inl (fun _ => 0))), (q6, .inr (2, [.ref qe7, .int 0, .int 0, .int (-1), .ref q1])), (q10, .inr (3, [.int 0, .int 0, .int 0, .null, .int 0]))] := hD
    refine lv_dup hx hb d_G_init_34 rfl ?_
    refine zjv (wr := [(h0, .inr (0, [.ref q1, .ref q6, .null, .null])), (q1, .inr (1, [.ref q12, .int 0])), (q12, .inl (cA13, 20000, .inl (fun _ => 0))), (q6, .inr (2, [.ref qe7, .int 0, .int 0, .int (-1), .ref q1]))]) (va_runI (As := []) (rest := [.ref q10, .ref h0]) ⟨hx, hb, hml, hown, ht⟩ (c_A_init l D _ q10 ) (cwI 0 ht (zt_good zm_203) rfl rfl rfl (ht _ zm_69) (ht _ zm_201) (ht _ zm_202) rfl (by decide +kernel) ⟨Nat.le_of_ble_eq_true rfl, Nat.le_of_ble_eq_true rfl⟩) (zpre zBlind_t hK hP hD [4] [] rfl (by decide) rfl (fun _ _ _ => trivial)) rfl rfl hl.1 rfl (lv_room (Nat.le_of_ble_eq_true rfl)) d_G_init_35 ⟨Nat.le_of_ble_eq_true rfl, Nat.le_of_ble_eq_true rfl⟩) hK hP hD hS hA [4] [0, 1, 2, 3] rfl rfl (by decide) (by decide) (fun u H locs hp14 hP hD hK hS => ?_)
    obtain ⟨q111, cA112⟩ := u
    dsimp only at hp14 hP hD hK
    have hP : va_P D zcl [(h0, .inr (0, [.ref q1, .ref q6, .null, .null])), (q1, .inr (1, [.ref q12, .int 0])), (q12, .inl (cA13, 20000, .inl (fun _ => 0))), (q6, .inr (2, [.ref qe7, .int 0, .int 0, .int (-1), .ref q1])), (q10, .inr (3, [.int 20000, .int 100, .int 0, .ref q111, .int (-1)])), (q111, .inl (cA112, 40000, .inl (fun _ => 0)))] H := hP
    have hD : va_D A [(h0, .inr (0, [.ref q1, .ref q6, .null, .null])), (q1, .inr (1, [.ref q12, .int 0])), (q12, .inl (cA13, 20000, .inl (fun _ => 0))), (q6, .inr (2, [.ref qe7, .int 0, .int 0, .int (-1), .ref q1])), (q10, .inr (3, [.int 20000, .int 100, .int 0, .ref q111, .int (-1)])), (q111, .inl (cA112, 40000, .inl (fun _ => 0)))] := hD
    have hK : va_K D zcl [(cA13, .byte), (cA112, .byte)] s := hK
    refine va_putF (ci := 0) (v := .ref q10) (ty := .object "ZipGuard$Target") (C := "ZipGuard") (T := F_G) (N := 4) hx hb ht zi_G ty_G tk_G nm_G hown hK hP hD hS 0 rfl rfl 2 (by decide) (ht _ zm_397) (fun _ h9 => h9) rfl hnm rfl (by decide +kernel) rfl rfl (Nat.le_of_ble_eq_true rfl) d_G_init_38 (fun H locs hP hD hS => ?_)
    have hP : va_P D zcl [(h0, .inr (0, [.ref q1, .ref q6, .ref q10, .null])), (q1, .inr (1, [.ref q12, .int 0])), (q12, .inl (cA13, 20000, .inl (fun _ => 0))), (q6, .inr (2, [.ref qe7, .int 0, .int 0, .int (-1), .ref q1])), (q10, .inr (3, [.int 20000, .int 100, .int 0, .ref q111, .int (-1)])), (q111, .inl (cA112, 40000, .inl (fun _ => 0)))] H := hP
    have hD : va_D A [(h0, .inr (0, [.ref q1, .ref q6, .ref q10, .null])), (q1, .inr (1, [.ref q12, .int 0])), (q12, .inl (cA13, 20000, .inl (fun _ => 0))), (q6, .inr (2, [.ref qe7, .int 0, .int 0, .int (-1), .ref q1])), (q10, .inr (3, [.int 20000, .int 100, .int 0, .ref q111, .int (-1)])), (q111, .inl (cA112, 40000, .inl (fun _ => 0)))] := hD
    refine lv_aload_n hx hb d_G_init_41 rfl (lv_at hl 0 rfl) ?_
    refine va_new (ci := 4) (fs := [.null, .null, .null, .null, .null, .null, .null, .null]) (C := "ZipGuard$Unpacker") (T := F_U) (N := 8) hx hb ht zi_U ty_U tk_U hown (ht _ zm_225) (ht _ zm_226) (ht _ zm_70) hK hP hD hS hA rfl zdf_U (Nat.le_of_ble_eq_true rfl) (Nat.le_of_ble_eq_true rfl) d_G_init_42 (fun q15 H hP hD hS => ?_)
    have hP : va_P D zcl [(h0, .inr (0, [.ref q1, .ref q6, .ref q10, .null])), (q1, .inr (1, [.ref q12, .int 0])), (q12, .inl (cA13, 20000, .inl (fun _ => 0))), (q6, .inr (2, [.ref qe7, .int 0, .int 0, .int (-1), .ref q1])), (q10, .inr (3, [.int 20000, .int 100, .int 0, .ref q111, .int (-1)])), (q111, .inl (cA112, 40000, .inl (fun _ => 0))), (q15, .inr (4, [.null, .null, .null, .null, .null, .null, .null, .null]))] H := hP
    have hD : va_D A [(h0, .inr (0, [.ref q1, .ref q6, .ref q10, .null])), (q1, .inr (1, [.ref q12, .int 0])), (q12, .inl (cA13, 20000, .inl (fun _ => 0))), (q6, .inr (2, [.ref qe7, .int 0, .int 0, .int (-1), .ref q1])), (q10, .inr (3, [.int 20000, .int 100, .int 0, .ref q111, .int (-1)])), (q111, .inl (cA112, 40000, .inl (fun _ => 0))), (q15, .inr (4, [.null, .null, .null, .null, .null, .null, .null, .null]))] := hD
    refine lv_dup hx hb d_G_init_45 rfl ?_
    refine lv_aload_n hx hb d_G_init_46 rfl (lv_at hl 0 rfl) ?_
    refine va_get (ci := 0) (C := "ZipGuard") (T := F_G) (N := 4) hx hb ht zi_G hown hK hP 0 rfl rfl 0 (by decide) (ht _ zm_395) (fun _ h9 => h9) rfl d_G_init_47 ?_
    refine lv_aload_n hx hb d_G_init_50 rfl (lv_at hl 0 rfl) ?_
    refine va_get (ci := 0) (C := "ZipGuard") (T := F_G) (N := 4) hx hb ht zi_G hown hK hP 0 rfl rfl 2 (by decide) (ht _ zm_397) (fun _ h9 => h9) rfl d_G_init_51 ?_
    refine zjv (wr := [(h0, .inr (0, [.ref q1, .ref q6, .ref q10, .null])), (q12, .inl (cA13, 20000, .inl (fun _ => 0))), (q6, .inr (2, [.ref qe7, .int 0, .int 0, .int (-1), .ref q1])), (q10, .inr (3, [.int 20000, .int 100, .int 0, .ref q111, .int (-1)])), (q111, .inl (cA112, 40000, .inl (fun _ => 0)))]) (va_runI (As := [.ref q1, .ref q10]) (rest := [.ref q15, .ref h0]) ⟨hx, hb, hml, hown, ht⟩ (c_U_init0 l D _ q15 q1 q10 q12 0 ) (cwI 2 ht (zt_good zm_229) rfl rfl rfl (ht _ zm_70) (ht _ zm_227) (ht _ zm_228) rfl (by decide +kernel) ⟨Nat.le_of_ble_eq_true rfl, Nat.le_of_ble_eq_true rfl⟩) (zpre zBlind_t hK hP hD [6, 1] [] rfl (by decide) rfl (fun _ _ _ => trivial)) rfl rfl hl.1 rfl (lv_room (Nat.le_of_ble_eq_true rfl)) d_G_init_54 ⟨Nat.le_of_ble_eq_true rfl, Nat.le_of_ble_eq_true rfl⟩) hK hP hD hS hA [6, 1] [0, 2, 3, 4, 5] rfl rfl (by decide) (by decide) (fun u H locs hp17 hP hD hK hS => ?_)
    have hP : va_P D zcl [(h0, .inr (0, [.ref q1, .ref q6, .ref q10, .null])), (q12, .inl (cA13, 20000, .inl (fun _ => 0))), (q6, .inr (2, [.ref qe7, .int 0, .int 0, .int (-1), .ref q1])), (q10, .inr (3, [.int 20000, .int 100, .int 0, .ref q111, .int (-1)])), (q111, .inl (cA112, 40000, .inl (fun _ => 0))), (q1, .inr (1, [.ref q12, .int 0]))] H := hP
    have hD : va_D A [(h0, .inr (0, [.ref q1, .ref q6, .ref q10, .null])), (q12, .inl (cA13, 20000, .inl (fun _ => 0))), (q6, .inr (2, [.ref qe7, .int 0, .int 0, .int (-1), .ref q1])), (q10, .inr (3, [.int 20000, .int 100, .int 0, .ref q111, .int (-1)])), (q111, .inl (cA112, 40000, .inl (fun _ => 0))), (q1, .inr (1, [.ref q12, .int 0]))] := hD
    have hK : va_K D zcl [(cA13, .byte), (cA112, .byte)] s := hK
    refine va_putF (ci := 0) (v := .ref q15) (ty := .object "ZipGuard$Unpacker") (C := "ZipGuard") (T := F_G) (N := 4) hx hb ht zi_G ty_G tk_G nm_G hown hK hP hD hS 0 rfl rfl 3 (by decide) (ht _ zm_398) (fun _ h9 => h9) rfl hnm rfl (by decide +kernel) rfl rfl (Nat.le_of_ble_eq_true rfl) d_G_init_57 (fun H locs hP hD hS => ?_)
    have hP : va_P D zcl [(h0, .inr (0, [.ref q1, .ref q6, .ref q10, .ref q15])), (q12, .inl (cA13, 20000, .inl (fun _ => 0))), (q6, .inr (2, [.ref qe7, .int 0, .int 0, .int (-1), .ref q1])), (q10, .inr (3, [.int 20000, .int 100, .int 0, .ref q111, .int (-1)])), (q111, .inl (cA112, 40000, .inl (fun _ => 0))), (q1, .inr (1, [.ref q12, .int 0]))] H := hP
    have hD : va_D A [(h0, .inr (0, [.ref q1, .ref q6, .ref q10, .ref q15])), (q12, .inl (cA13, 20000, .inl (fun _ => 0))), (q6, .inr (2, [.ref qe7, .int 0, .int 0, .int (-1), .ref q1])), (q10, .inr (3, [.int 20000, .int 100, .int 0, .ref q111, .int (-1)])), (q111, .inl (cA112, 40000, .inl (fun _ => 0))), (q1, .inr (1, [.ref q12, .int 0]))] := hD
    exact zretv hx hb hr hlk hK hP hD hS (q1, q6, q10, q15, q12, qe7, q111, cA13) [0, 5, 1, 2, 3] [0] rfl (by decide) rfl (trivial) (Nat.le_of_ble_eq_true rfl) (Nat.le_of_ble_eq_true rfl) d_G_init_60)
end
section
/-! exceptions, second part: the words of a throw that aren't of the tables alone; a row that catches -/
abbrev zISE : String := "java/lang/IllegalStateException"
abbrev zIAE : String := "java/lang/IllegalArgumentException"
abbrev zIOB : String := "java/lang/IndexOutOfBoundsException"
abbrev zUP : List String := ["java/lang/RuntimeException", "java/lang/Exception"]
def zbadC : List Cond := [.castable zISE zISE, .castable zIAE zIAE, .castable zIOB zIOB]
def zbadD : List Cond := [.declares ⟨"java/lang/RuntimeException", "<init>", "()V"⟩, .declares ⟨"java/lang/Exception", "<init>", "()V"⟩, .declares ⟨"java/lang/Throwable", "<init>", "()V"⟩]
def zbadS : List (String × String) := [("UNASSIGNED_STACK", "[Ljava/lang/StackTraceElement;"), ("SUPPRESSED_SENTINEL", "Ljava/util/List;")]
/-- what a throw asks beside the good words -/
def zG (U : State) : Prop := ∀ args : Array Value, (∀ w ∈ zbadC, w.before args U = true) ∧ (∀ w ∈ zbadD, w.before args U = true) ∧ ∀ q ∈ zbadS, (Cond.laysStatic "java/lang/Throwable" q.1 q.2).before args U = true ∧ (Cond.isRef (.static "java/lang/Throwable" q.1 q.2)).before args U = true
theorem zcast_keep {C E : String} {U U' : State} {a a' : Array Value} (h : U.vm.Alike U'.vm) (hw : (Cond.castable C E).before a U = true) : (Cond.castable C E).before a' U' = true := by
  obtain ⟨c, t, h1, h2, h3⟩ := Cond.castable_spec hw
  have h1' : U'.vm.findClass C = some c := by rw [h.findClass]; exact h1
  have h2' : U'.vm.findClass E = some t := by rw [h.findClass]; exact h2
  have h3' : U'.vm.assignable c t = true := by rw [h.assignable]; exact h3
  simp [Cond.before, Cond.holds, Cond.value, h1', h2', h3']
theorem zdecl_keep {y : MethodName} {U U' : State} {a a' : Array Value} (h : U.vm.Alike U'.vm) (hw : (Cond.declares y).before a U = true) : (Cond.declares y).before a' U' = true := by
  obtain ⟨r0, r, h1, h2, h3, h4⟩ := Cond.declares_spec hw
  have h1' : U'.methodNamed? y = some r0 := by
    have q : (U.setVm U'.vm).methodNamed? y = some r0 := by rw [State.methodNamed?_setVm h]; exact h1
    exact q
  have h2' : U'.vm.method? r0 = some r := by rw [h.method?]; exact h2
  simp [Cond.before, Cond.holds, Cond.value, h1', h2', h3, h4]
theorem zstat_keep {C n d : String} {U U' : State} {a a' : Array Value} (h : U.vm.Alike U'.vm) (hq : ∀ q : Nat, q < U.heap.size → U'.heap[q]? = U.heap[q]?)
    (hl : (Cond.laysStatic C n d).before a U = true) (hr : (Cond.isRef (.static C n d)).before a U = true) : (Cond.laysStatic C n d).before a' U' = true ∧ (Cond.isRef (.static C n d)).before a' U' = true := by
  obtain ⟨c, k, i, f, ad, cell, hc, hi, hst, ha, hcell, hs, hcls, hlt, hty⟩ := Cond.laysStatic_spec hl
  obtain ⟨k', hi', hek⟩ := State.fieldFound?_setVm h hi
  have hi2 : U'.fieldFound? C n d = some (c, k', i, f) := hi'
  have hc2 : U'.vm.findClass C = some c := by rw [h.findClass]; exact hc
  have ha2 : k'.statics = some ad := by rw [hek]; exact ha
  have hcell2 : U'.heap[ad]? = some cell := by rw [hq ad (Array.getElem?_eq_some_iff.mp hcell).1]; exact hcell
  have hv : cell.slots[f.slot]? = some cell.slots[f.slot] := Array.getElem?_eq_getElem hlt
  have he : (Term.static C n d).eval a U none [] U = some cell.slots[f.slot] := by
    simp [Term.eval, State.fieldNamed?, hi, hst, ha, hcell, hs, hv]
  have he2 : (Term.static C n d).eval a' U' none [] U' = some cell.slots[f.slot] := by
    simp [Term.eval, State.fieldNamed?, hi2, hst, ha2, hcell2, hs, hv]
  refine ⟨Cond.laysStatic_of hc2 hi2 hst ha2 hcell2 hs hcls hlt (by rw [hek]; exact hty), ?_⟩
  simp only [Cond.before, Cond.holds, Cond.value, he] at hr
  simp only [Cond.before, Cond.holds, Cond.value, he2]
  exact hr
theorem zG_keep {U U' : State} (h : U.vm.Alike U'.vm) (hq : ∀ q : Nat, q < U.heap.size → U'.heap[q]? = U.heap[q]?) (hG : zG U) : zG U' := by
  intro a
  obtain ⟨h1, h2, h3⟩ := hG #[]
  refine ⟨fun w hw => ?_, fun w hw => ?_, fun q hm => zstat_keep h hq (h3 q hm).1 (h3 q hm).2⟩
  · have hz := h1 w hw
    simp only [zbadC, List.mem_cons, List.not_mem_nil, or_false] at hw
    rcases hw with rfl | rfl | rfl <;> exact zcast_keep h hz
  · have hz := h2 w hw
    simp only [zbadD, List.mem_cons, List.not_mem_nil, or_false] at hw
    rcases hw with rfl | rfl | rfl <;> exact zdecl_keep h hz
theorem zBlind_G : zBlind zG := fun U U' h hh hG => zG_keep h (fun q _ => by rw [hh]) hG
/-- all that a throw asks -/
def zbad : List Cond := zbadC ++ zbadD ++ (zbadS.map fun q => Cond.laysStatic "java/lang/Throwable" q.1 q.2) ++ (zbadS.map fun q => Cond.isRef (.static "java/lang/Throwable" q.1 q.2))
theorem zG_bad {U : State} (hG : zG U) (args : Array Value) : ∀ w ∈ zbad, w.before args U = true := by
  intro w hw
  obtain ⟨h1, h2, h3⟩ := hG args
  unfold zbad at hw
  simp only [List.mem_append, List.mem_map] at hw
  rcases hw with ((h | h) | ⟨q, hq, rfl⟩) | ⟨q, hq, rfl⟩
  · exact h1 w h
  · exact h2 w h
  · exact (h3 q hq).1
  · exact (h3 q hq).2
set_option maxRecDepth 100000 in
theorem zkey_ISE : ∀ w ∈ Bundle.ownAtoms0 "ZipGuard" 47 zISE zUP, w ∈ zt ∨ w ∈ zbad := by decide +kernel
set_option maxRecDepth 100000 in
theorem zkey_IAE : ∀ w ∈ Bundle.ownAtoms0 "ZipGuard" 61 zIAE zUP, w ∈ zt ∨ w ∈ zbad := by decide +kernel
set_option maxRecDepth 100000 in
theorem zkey_IOB : ∀ w ∈ Bundle.ownAtoms0 "ZipGuard" 67 zIOB zUP, w ∈ zt ∨ w ∈ zbad := by decide +kernel
theorem zhat {L : List Cond} {args : Array Value} {s : State} (key : ∀ w ∈ L, w ∈ zt ∨ w ∈ zbad) (ht : ∀ w ∈ zt, w.before args s = true) (hG : zG s) : ∀ w ∈ L, w.before args s = true := fun w hw =>
  (key w hw).elim (ht w) (zG_bad hG args w)
section ZXC
variable {p : Program} {l : Launch} {e : Env} {R : Room} {s : State} {m : MethodId} {args : Array Value} {below : List Frame} {meth : Method} {c : Code} {H : Heap} {locs : List Loc} {cells slots : Nat} {Q : State → Prop}
variable {pc : Nat} {ls : Array Slot} {rest : List Value}
/-- the first row of the table catches -/
theorem zcatch {own name : String} {ce : Cell} {q : Addr} (hown : s.vm.findClass own = some m.cls) (x : ExceptionTableEntry) (suf : List ExceptionTableEntry) (hsplit : c.exceptionTable.toList = x :: suf) (hx : covers x pc = true) (h0 : x.catchType ≠ 0)
    (hlink : (Cond.classLink own x.catchType name).before args s = true) (hcast : (Cond.castable name name).before args s = true) (hcell : H[q]? = some ce) (hv : ce.vm = .none) (hcl : s.vm.findClass name = some ce.cls)
    (kk : W p l e R s m args below meth c H locs cells slots Q (F0 m x.handlerPc ls [.ref q])) : zTW p l e R s m args below meth c H locs cells slots Q (F0 m pc ls rest) q := by
  intro T hT X
  have hpl : e.platform.magicAccessors = ({} : Platform).magicAccessors := by rw [X.admits.platform]
  obtain ⟨c3, c4, hc3, hc4, hasg⟩ := Cond.castable_spec hcast
  cases Option.some.inj (hc3.symm.trans hcl)
  cases Option.some.inj (hc4.symm.trans hcl)
  obtain ⟨c5, hc5, hl5⟩ := Cond.classLink_spec hown hlink e.platform hpl
  cases Option.some.inj (hc5.symm.trans hcl)
  obtain ⟨dk, _, _, kt, hd, _, _, _, _, hkt, _, hopen⟩ := hl5.here
  have hW' : s.WarmedH (T.vm.noted m.cls x.catchType (.cls ce.cls)) := X.warmed.noted hd hopen (State.rightAt_cls hl5)
  have hl6 : T.vm.ClassLinks e.platform m.cls x.catchType ce.cls := X.warmed.classLinks hl5
  obtain ⟨kt', hkt', -⟩ := X.warmed.alike.2.2 _ _ hkt
  have hcT : T.heap[q]? = some ce := by rw [hT]; exact hcell
  have hobj : ∀ k, ce.vm ≠ .statics k := fun k h => by rw [hv] at h; cases h
  obtain ⟨t, a1, b1⟩ := kk (T.setVm (T.vm.noted m.cls x.catchType (.cls ce.cls))) hT (X.noted hW')
  refine ⟨t, ?_, b1⟩
  have hgo : ∀ (Q : Handler → Pre) (E : CtlPost) (d : Bool) (acts : List Action), wp (findHandler (F0 m pc ls rest) q) Q E e d acts ((T.setTop (F0 m pc ls rest)).pushFrame (.throwing q)) ↔ Q (.found x.handlerPc) d acts (((T.setTop (F0 m pc ls rest)).pushFrame (.throwing q)).setVm (T.vm.noted m.cls x.catchType (.cls ce.cls))) := by
    intro Q E d acts
    rw [Jvm.W.findHandler_eq (s := (T.setTop (F0 m pc ls rest)).pushFrame (.throwing q)) (f := F0 m pc ls rest) X.method' X.code, hsplit]
    have hx2 := hx
    simp only [covers] at hx2
    have hvmE : ((T.setTop (F0 m pc ls rest)).pushFrame (.throwing q)).vm = T.vm := Stand.throwing_vm _ _ _
    have hhE : ((T.setTop (F0 m pc ls rest)).pushFrame (.throwing q)).heap = T.heap := Stand.throwing_heap _ _ _
    obtain ⟨ha, ht⟩ := (resolveClass_links e.toSetting hl6).op (op := VmOp.resolveClass m.cls x.catchType) rfl
    have hal : T.vm.Alike (T.vm.noted m.cls x.catchType (.cls ce.cls)) := (Vm.Alike.refl T.vm).noted _ _ _
    obtain ⟨k1', hk1', -⟩ := hal.2.2 _ _ hkt'
    have hfit' : (T.vm.noted m.cls x.catchType (.cls ce.cls)).assignable ce.cls ce.cls = true := by rw [hal.assignable, X.warmed.alike.assignable]; exact hasg
    simp [findHandler.go, hx2, h0, hvmE, hhE, ha, ht, hcT, hobj, hk1', hfit', VmOp.dirties, VmOp.acts]
  have h : At T m c below := X.here
  obtain ⟨hgo2, hw2⟩ := h.throwing (g := F0 m pc ls rest) q
  refine Steps.head hgo2 hw2 ?_
  have hst : (stepThrowing e ((T.setTop (F0 m pc ls rest)).pushFrame (.throwing q)) q (.java (F0 m pc ls rest) :: T.frames.tail)).1 = (((T.setTop (F0 m pc ls rest)).pushFrame (.throwing q)).setVm (T.vm.noted m.cls x.catchType (.cls ce.cls))).setFrames (.java { F0 m pc ls rest with pc := x.handlerPc, stack := [.ref q] } :: T.frames.tail) := by
    simp only [stepThrowing, searchFrame, vmDo]
    generalize hr : Sem.go _ e false [] ((T.setTop (F0 m pc ls rest)).pushFrame (.throwing q)) = res
    obtain ⟨as, rfl, ha⟩ := Sem.eq_ok_of hr (a := Handler.found x.handlerPc) (s' := ((T.setTop (F0 m pc ls rest)).pushFrame (.throwing q)).setVm (T.vm.noted m.cls x.catchType (.cls ce.cls))) (acts' := []) (by simp [hgo _ _ _ _])
    rfl
  rw [stepThread_throwing (frames_entered h.top _), hst]
  obtain ⟨g₀, hg⟩ := Option.isSome_iff_exists.mp h.top
  obtain ⟨r, hr⟩ := State.topJava?_eq_some.mp hg
  have hr' : (T.setVm (T.vm.noted m.cls x.catchType (.cls ce.cls))).frames = .java g₀ :: r := hr
  rw [State.setTop_of_frames _ hr'] at a1
  have hsv : ∀ (u : State) (v : Vm) (F G : List Frame), ((u.setFrames F).setVm v).setFrames G = (u.setVm v).setFrames G := by
    intro u v F G
    have h1 : (u.setFrames F).setVm v = (u.setVm v).setFrames F := rfl
    rw [h1, State.setFrames_setFrames]
  rw [hr, List.tail_cons, State.pushFrame, hsv, State.setTop_of_frames _ hr, hsv]
  exact a1
end ZXC
end
section
set_option maxRecDepth 100000 in
theorem zm_2 : Jvm.Cond.selects "ZipGuard$Directory" ({ cls := "ZipGuard$Directory", name := "findEnd", desc := "()I" } : Jvm.MethodName) ({ cls := "ZipGuard$Directory", name := "findEnd", desc := "()I" } : Jvm.MethodName) ∈ zt := zt_mp (List.mem_of_getElem? (i := 2) rfl)
set_option maxRecDepth 100000 in
theorem zm_3 : Jvm.Cond.selects "ZipGuard$Directory" ({ cls := "ZipGuard$Directory", name := "faultAt", desc := "(II)I" } : Jvm.MethodName) ({ cls := "ZipGuard$Directory", name := "faultAt", desc := "(II)I" } : Jvm.MethodName) ∈ zt := zt_mp (List.mem_of_getElem? (i := 3) rfl)
set_option maxRecDepth 100000 in
theorem zm_17 : Jvm.Cond.selects "ZipGuard" ({ cls := "ZipGuard", name := "openEntry", desc := "(I)LZipGuard$Entry;" } : Jvm.MethodName) ({ cls := "ZipGuard", name := "openEntry", desc := "(I)LZipGuard$Entry;" } : Jvm.MethodName) ∈ zt := zt_mp (List.mem_of_getElem? (i := 17) rfl)
set_option maxRecDepth 100000 in
theorem zm_65 : Jvm.Cond.initialized "ZipGuard" ∈ zt := zt_m1 (List.mem_of_getElem? (i := 1) rfl)
set_option maxRecDepth 100000 in
theorem zm_77 : Jvm.Cond.initialized "java/lang/IllegalArgumentException" ∈ zt := zt_m1 (List.mem_of_getElem? (i := 13) rfl)
set_option maxRecDepth 100000 in
theorem zm_78 : Jvm.Cond.initialized "java/lang/IndexOutOfBoundsException" ∈ zt := zt_m1 (List.mem_of_getElem? (i := 14) rfl)
set_option maxRecDepth 100000 in
theorem zm_80 : Jvm.Cond.initialized "java/lang/IllegalStateException" ∈ zt := zt_m1 (List.mem_of_getElem? (i := 16) rfl)
set_option maxRecDepth 100000 in
theorem zm_98 : Jvm.Cond.fieldLink "ZipGuard" (55 : Nat) "ZipGuard$Tape" "length" "I" ∈ zt := zt_m1 (List.mem_of_getElem? (i := 34) rfl)
set_option maxRecDepth 100000 in
theorem zm_99 : Jvm.Cond.fieldLink "ZipGuard$Directory" (37 : Nat) "ZipGuard$Tape" "length" "I" ∈ zt := zt_m1 (List.mem_of_getElem? (i := 35) rfl)
set_option maxRecDepth 100000 in
theorem zm_184 : Jvm.Cond.fieldLink "ZipGuard" (97 : Nat) "ZipGuard$Directory" "isOpen" "Z" ∈ zt := zt_m1 (List.mem_of_getElem? (i := 120) rfl)
set_option maxRecDepth 100000 in
theorem zm_186 : Jvm.Cond.fieldLink "ZipGuard" (79 : Nat) "ZipGuard$Directory" "faultPlace" "I" ∈ zt := zt_m1 (List.mem_of_getElem? (i := 122) rfl)
set_option maxRecDepth 100000 in
theorem zm_207 : Jvm.Cond.fieldLink "ZipGuard" (83 : Nat) "ZipGuard$Target" "budget" "I" ∈ zt := zt_m1 (List.mem_of_getElem? (i := 143) rfl)
set_option maxRecDepth 100000 in
theorem zm_209 : Jvm.Cond.fieldLink "ZipGuard" (86 : Nat) "ZipGuard$Target" "ratio" "I" ∈ zt := zt_m1 (List.mem_of_getElem? (i := 145) rfl)
set_option maxRecDepth 100000 in
theorem zm_211 : Jvm.Cond.fieldLink "ZipGuard" (143 : Nat) "ZipGuard$Target" "total" "I" ∈ zt := zt_m1 (List.mem_of_getElem? (i := 147) rfl)
set_option maxRecDepth 100000 in
theorem zm_412 : Jvm.Cond.methodLink "ZipGuard" (72 : Nat) ({ cls := "ZipGuard$Target", name := "clear", desc := "()V" } : Jvm.MethodName) ∈ zt := zt_m3 (List.mem_of_getElem? (i := 84) rfl)
set_option maxRecDepth 100000 in
theorem zm_413 : Jvm.Cond.instanceMethod ({ cls := "ZipGuard$Target", name := "clear", desc := "()V" } : Jvm.MethodName) ∈ zt := zt_m3 (List.mem_of_getElem? (i := 85) rfl)
set_option maxRecDepth 100000 in
theorem zm_414 : Jvm.Cond.selects "ZipGuard$Target" ({ cls := "ZipGuard$Target", name := "clear", desc := "()V" } : Jvm.MethodName) ({ cls := "ZipGuard$Target", name := "clear", desc := "()V" } : Jvm.MethodName) ∈ zt := zt_m3 (List.mem_of_getElem? (i := 86) rfl)
set_option maxRecDepth 100000 in
theorem zm_415 : Jvm.Cond.code ({ cls := "ZipGuard$Target", name := "clear", desc := "()V" } : Jvm.MethodName) prog_7_method_2_code (1 : Nat) (Option.none : Option Jvm.ClassFile.FieldType) ∈ zt := zt_m3 (List.mem_of_getElem? (i := 87) rfl)
set_option maxRecDepth 100000 in
theorem zm_416 : Jvm.Cond.methodLink "ZipGuard" (75 : Nat) ({ cls := "ZipGuard$Directory", name := "read", desc := "()I" } : Jvm.MethodName) ∈ zt := zt_m3 (List.mem_of_getElem? (i := 88) rfl)
set_option maxRecDepth 100000 in
theorem zm_417 : Jvm.Cond.instanceMethod ({ cls := "ZipGuard$Directory", name := "read", desc := "()I" } : Jvm.MethodName) ∈ zt := zt_m3 (List.mem_of_getElem? (i := 89) rfl)
set_option maxRecDepth 100000 in
theorem zm_418 : Jvm.Cond.selects "ZipGuard$Directory" ({ cls := "ZipGuard$Directory", name := "read", desc := "()I" } : Jvm.MethodName) ({ cls := "ZipGuard$Directory", name := "read", desc := "()I" } : Jvm.MethodName) ∈ zt := zt_m3 (List.mem_of_getElem? (i := 90) rfl)
set_option maxRecDepth 100000 in
theorem zm_419 : Jvm.Cond.code ({ cls := "ZipGuard$Directory", name := "read", desc := "()I" } : Jvm.MethodName) prog_4_method_3_code (3 : Nat) (Option.some Jvm.ClassFile.FieldType.int) ∈ zt := zt_m3 (List.mem_of_getElem? (i := 91) rfl)
set_option maxRecDepth 100000 in
theorem zm_420 : Jvm.Cond.methodLink "ZipGuard$Directory" (33 : Nat) ({ cls := "ZipGuard$Directory", name := "findEnd", desc := "()I" } : Jvm.MethodName) ∈ zt := zt_m3 (List.mem_of_getElem? (i := 92) rfl)
set_option maxRecDepth 100000 in
theorem zm_421 : Jvm.Cond.instanceMethod ({ cls := "ZipGuard$Directory", name := "findEnd", desc := "()I" } : Jvm.MethodName) ∈ zt := zt_m3 (List.mem_of_getElem? (i := 93) rfl)
set_option maxRecDepth 100000 in
theorem zm_422 : Jvm.Cond.code ({ cls := "ZipGuard$Directory", name := "findEnd", desc := "()I" } : Jvm.MethodName) prog_4_method_5_code (2 : Nat) (Option.some Jvm.ClassFile.FieldType.int) ∈ zt := zt_m3 (List.mem_of_getElem? (i := 94) rfl)
set_option maxRecDepth 100000 in
theorem zm_435 : Jvm.Cond.methodLink "ZipGuard$Directory" (42 : Nat) ({ cls := "ZipGuard$Directory", name := "faultAt", desc := "(II)I" } : Jvm.MethodName) ∈ zt := zt_m3 (List.mem_of_getElem? (i := 107) rfl)
set_option maxRecDepth 100000 in
theorem zm_436 : Jvm.Cond.instanceMethod ({ cls := "ZipGuard$Directory", name := "faultAt", desc := "(II)I" } : Jvm.MethodName) ∈ zt := zt_m3 (List.mem_of_getElem? (i := 108) rfl)
set_option maxRecDepth 100000 in
theorem zm_437 : Jvm.Cond.code ({ cls := "ZipGuard$Directory", name := "faultAt", desc := "(II)I" } : Jvm.MethodName) prog_4_method_4_code (3 : Nat) (Option.some Jvm.ClassFile.FieldType.int) ∈ zt := zt_m3 (List.mem_of_getElem? (i := 109) rfl)
set_option maxRecDepth 100000 in
theorem zm_520 : Jvm.Cond.methodLink "ZipGuard" (41 : Nat) ({ cls := "ZipGuard$Tape", name := "hasRoomFor", desc := "(I)Z" } : Jvm.MethodName) ∈ zt := zt_m4 (List.mem_of_getElem? (i := 9) rfl)
set_option maxRecDepth 100000 in
theorem zm_521 : Jvm.Cond.instanceMethod ({ cls := "ZipGuard$Tape", name := "hasRoomFor", desc := "(I)Z" } : Jvm.MethodName) ∈ zt := zt_m4 (List.mem_of_getElem? (i := 10) rfl)
set_option maxRecDepth 100000 in
theorem zm_522 : Jvm.Cond.selects "ZipGuard$Tape" ({ cls := "ZipGuard$Tape", name := "hasRoomFor", desc := "(I)Z" } : Jvm.MethodName) ({ cls := "ZipGuard$Tape", name := "hasRoomFor", desc := "(I)Z" } : Jvm.MethodName) ∈ zt := zt_m4 (List.mem_of_getElem? (i := 11) rfl)
set_option maxRecDepth 100000 in
theorem zm_523 : Jvm.Cond.code ({ cls := "ZipGuard$Tape", name := "hasRoomFor", desc := "(I)Z" } : Jvm.MethodName) prog_6_method_2_code (2 : Nat) (Option.some Jvm.ClassFile.FieldType.boolean) ∈ zt := zt_m4 (List.mem_of_getElem? (i := 12) rfl)
set_option maxRecDepth 100000 in
theorem zm_524 : Jvm.Cond.classLink "ZipGuard" (45 : Nat) "java/lang/IllegalStateException" ∈ zt := zt_m4 (List.mem_of_getElem? (i := 13) rfl)
set_option maxRecDepth 100000 in
theorem zm_544 : Jvm.Cond.methodLink "ZipGuard" (48 : Nat) ({ cls := "ZipGuard$Directory", name := "shut", desc := "()V" } : Jvm.MethodName) ∈ zt := zt_m4 (List.mem_of_getElem? (i := 33) rfl)
set_option maxRecDepth 100000 in
theorem zm_545 : Jvm.Cond.instanceMethod ({ cls := "ZipGuard$Directory", name := "shut", desc := "()V" } : Jvm.MethodName) ∈ zt := zt_m4 (List.mem_of_getElem? (i := 34) rfl)
set_option maxRecDepth 100000 in
theorem zm_546 : Jvm.Cond.selects "ZipGuard$Directory" ({ cls := "ZipGuard$Directory", name := "shut", desc := "()V" } : Jvm.MethodName) ({ cls := "ZipGuard$Directory", name := "shut", desc := "()V" } : Jvm.MethodName) ∈ zt := zt_m4 (List.mem_of_getElem? (i := 35) rfl)
set_option maxRecDepth 100000 in
theorem zm_547 : Jvm.Cond.code ({ cls := "ZipGuard$Directory", name := "shut", desc := "()V" } : Jvm.MethodName) prog_4_method_2_code (1 : Nat) (Option.none : Option Jvm.ClassFile.FieldType) ∈ zt := zt_m4 (List.mem_of_getElem? (i := 36) rfl)
set_option maxRecDepth 100000 in
theorem zm_548 : Jvm.Cond.methodLink "ZipGuard" (51 : Nat) ({ cls := "ZipGuard$Tape", name := "append", desc := "(I)V" } : Jvm.MethodName) ∈ zt := zt_m4 (List.mem_of_getElem? (i := 37) rfl)
set_option maxRecDepth 100000 in
theorem zm_549 : Jvm.Cond.instanceMethod ({ cls := "ZipGuard$Tape", name := "append", desc := "(I)V" } : Jvm.MethodName) ∈ zt := zt_m4 (List.mem_of_getElem? (i := 38) rfl)
set_option maxRecDepth 100000 in
theorem zm_550 : Jvm.Cond.selects "ZipGuard$Tape" ({ cls := "ZipGuard$Tape", name := "append", desc := "(I)V" } : Jvm.MethodName) ({ cls := "ZipGuard$Tape", name := "append", desc := "(I)V" } : Jvm.MethodName) ∈ zt := zt_m4 (List.mem_of_getElem? (i := 39) rfl)
set_option maxRecDepth 100000 in
theorem zm_551 : Jvm.Cond.code ({ cls := "ZipGuard$Tape", name := "append", desc := "(I)V" } : Jvm.MethodName) prog_6_method_3_code (3 : Nat) (Option.none : Option Jvm.ClassFile.FieldType) ∈ zt := zt_m4 (List.mem_of_getElem? (i := 40) rfl)
set_option maxRecDepth 100000 in
theorem zm_552 : Jvm.Cond.methodLink "ZipGuard$Tape" (17 : Nat) ({ cls := "ZipGuard$Tape", name := "hasRoomFor", desc := "(I)Z" } : Jvm.MethodName) ∈ zt := zt_m4 (List.mem_of_getElem? (i := 41) rfl)
set_option maxRecDepth 100000 in
theorem zm_561 : Jvm.Cond.classLink "ZipGuard" (59 : Nat) "java/lang/IllegalArgumentException" ∈ zt := zt_m4 (List.mem_of_getElem? (i := 50) rfl)
set_option maxRecDepth 100000 in
theorem zm_566 : Jvm.Cond.methodLink "ZipGuard" (62 : Nat) ({ cls := "ZipGuard$Tape", name := "keepFirst", desc := "(I)V" } : Jvm.MethodName) ∈ zt := zt_m4 (List.mem_of_getElem? (i := 55) rfl)
set_option maxRecDepth 100000 in
theorem zm_567 : Jvm.Cond.instanceMethod ({ cls := "ZipGuard$Tape", name := "keepFirst", desc := "(I)V" } : Jvm.MethodName) ∈ zt := zt_m4 (List.mem_of_getElem? (i := 56) rfl)
set_option maxRecDepth 100000 in
theorem zm_568 : Jvm.Cond.selects "ZipGuard$Tape" ({ cls := "ZipGuard$Tape", name := "keepFirst", desc := "(I)V" } : Jvm.MethodName) ({ cls := "ZipGuard$Tape", name := "keepFirst", desc := "(I)V" } : Jvm.MethodName) ∈ zt := zt_m4 (List.mem_of_getElem? (i := 57) rfl)
set_option maxRecDepth 100000 in
theorem zm_569 : Jvm.Cond.code ({ cls := "ZipGuard$Tape", name := "keepFirst", desc := "(I)V" } : Jvm.MethodName) prog_6_method_4_code (2 : Nat) (Option.none : Option Jvm.ClassFile.FieldType) ∈ zt := zt_m4 (List.mem_of_getElem? (i := 58) rfl)
set_option maxRecDepth 100000 in
theorem zm_578 : Jvm.Cond.classLink "ZipGuard" (65 : Nat) "java/lang/IndexOutOfBoundsException" ∈ zt := zt_m4 (List.mem_of_getElem? (i := 67) rfl)
set_option maxRecDepth 100000 in
theorem zm_603 : Jvm.Cond.constant "ZipGuard" (82 : Nat) (40000 : Int32) ∈ zt := zt_m4 (List.mem_of_getElem? (i := 92) rfl)
set_option maxRecDepth 100000 in
theorem zm_611 : Jvm.Cond.methodLink "ZipGuard" (89 : Nat) ({ cls := "ZipGuard", name := "openEntry", desc := "(I)LZipGuard$Entry;" } : Jvm.MethodName) ∈ zt := zt_m4 (List.mem_of_getElem? (i := 100) rfl)
set_option maxRecDepth 100000 in
theorem zm_612 : Jvm.Cond.instanceMethod ({ cls := "ZipGuard", name := "openEntry", desc := "(I)LZipGuard$Entry;" } : Jvm.MethodName) ∈ zt := zt_m4 (List.mem_of_getElem? (i := 101) rfl)
set_option maxRecDepth 100000 in
theorem zm_613 : Jvm.Cond.code ({ cls := "ZipGuard", name := "openEntry", desc := "(I)LZipGuard$Entry;" } : Jvm.MethodName) prog_1_method_14_code (2 : Nat) (Option.some (Jvm.ClassFile.FieldType.object "ZipGuard$Entry")) ∈ zt := zt_m4 (List.mem_of_getElem? (i := 102) rfl)
theorem d_A_clear_0 : decode prog_7_method_2_code 0 = .ok (.aload_n 0, 1) := by decide +kernel
theorem d_A_clear_1 : decode prog_7_method_2_code 1 = .ok (.iconst 0, 1) := by decide +kernel
theorem d_A_clear_2 : decode prog_7_method_2_code 2 = .ok (.putfield 23, 3) := by decide +kernel
theorem d_A_clear_5 : decode prog_7_method_2_code 5 = .ok (.return_, 1) := by decide +kernel
theorem d_D_faultAt_0 : decode prog_4_method_4_code 0 = .ok (.aload_n 0, 1) := by decide +kernel
theorem d_D_faultAt_1 : decode prog_4_method_4_code 1 = .ok (.iload_n 2, 1) := by decide +kernel
theorem d_D_faultAt_2 : decode prog_4_method_4_code 2 = .ok (.putfield 30, 3) := by decide +kernel
theorem d_D_faultAt_5 : decode prog_4_method_4_code 5 = .ok (.iload_n 1, 1) := by decide +kernel
theorem d_D_faultAt_6 : decode prog_4_method_4_code 6 = .ok (.ireturn, 1) := by decide +kernel
theorem d_D_findEnd_0 : decode prog_4_method_5_code 0 = .ok (.aload_n 0, 1) := by decide +kernel
theorem d_D_findEnd_1 : decode prog_4_method_5_code 1 = .ok (.getfield 9, 3) := by decide +kernel
theorem d_D_findEnd_4 : decode prog_4_method_5_code 4 = .ok (.getfield 37, 3) := by decide +kernel
theorem d_D_findEnd_7 : decode prog_4_method_5_code 7 = .ok (.bipush 22, 2) := by decide +kernel
theorem d_D_findEnd_9 : decode prog_4_method_5_code 9 = .ok (.isub, 1) := by decide +kernel
theorem d_D_findEnd_10 : decode prog_4_method_5_code 10 = .ok (.istore_n 1, 1) := by decide +kernel
theorem d_D_findEnd_11 : decode prog_4_method_5_code 11 = .ok (.iload_n 1, 1) := by decide +kernel
theorem d_D_findEnd_12 : decode prog_4_method_5_code 12 = .ok (.ifCond .lt 51, 3) := by decide +kernel
theorem d_D_findEnd_63 : decode prog_4_method_5_code 63 = .ok (.iconst (-1), 1) := by decide +kernel
theorem d_D_findEnd_64 : decode prog_4_method_5_code 64 = .ok (.ireturn, 1) := by decide +kernel
theorem d_D_read_0 : decode prog_4_method_3_code 0 = .ok (.aload_n 0, 1) := by decide +kernel
theorem d_D_read_1 : decode prog_4_method_3_code 1 = .ok (.iconst 0, 1) := by decide +kernel
theorem d_D_read_2 : decode prog_4_method_3_code 2 = .ok (.putfield 26, 3) := by decide +kernel
theorem d_D_read_5 : decode prog_4_method_3_code 5 = .ok (.aload_n 0, 1) := by decide +kernel
theorem d_D_read_6 : decode prog_4_method_3_code 6 = .ok (.iconst (-1), 1) := by decide +kernel
theorem d_D_read_7 : decode prog_4_method_3_code 7 = .ok (.putfield 30, 3) := by decide +kernel
theorem d_D_read_10 : decode prog_4_method_3_code 10 = .ok (.aload_n 0, 1) := by decide +kernel
theorem d_D_read_11 : decode prog_4_method_3_code 11 = .ok (.invokevirtual 33, 3) := by decide +kernel
theorem d_D_read_14 : decode prog_4_method_3_code 14 = .ok (.istore_n 1, 1) := by decide +kernel
theorem d_D_read_15 : decode prog_4_method_3_code 15 = .ok (.iload_n 1, 1) := by decide +kernel
theorem d_D_read_16 : decode prog_4_method_3_code 16 = .ok (.ifCond .ge 18, 3) := by decide +kernel
theorem d_D_read_19 : decode prog_4_method_3_code 19 = .ok (.aload_n 0, 1) := by decide +kernel
theorem d_D_read_20 : decode prog_4_method_3_code 20 = .ok (.iconst (-1), 1) := by decide +kernel
theorem d_D_read_21 : decode prog_4_method_3_code 21 = .ok (.aload_n 0, 1) := by decide +kernel
theorem d_D_read_22 : decode prog_4_method_3_code 22 = .ok (.getfield 9, 3) := by decide +kernel
theorem d_D_read_25 : decode prog_4_method_3_code 25 = .ok (.getfield 37, 3) := by decide +kernel
theorem d_D_read_28 : decode prog_4_method_3_code 28 = .ok (.invokevirtual 42, 3) := by decide +kernel
theorem d_D_read_31 : decode prog_4_method_3_code 31 = .ok (.goto 8, 3) := by decide +kernel
theorem d_D_read_39 : decode prog_4_method_3_code 39 = .ok (.istore_n 2, 1) := by decide +kernel
theorem d_D_read_40 : decode prog_4_method_3_code 40 = .ok (.iload_n 2, 1) := by decide +kernel
theorem d_D_read_41 : decode prog_4_method_3_code 41 = .ok (.ifCond .ge 5, 3) := by decide +kernel
theorem d_D_read_44 : decode prog_4_method_3_code 44 = .ok (.iload_n 2, 1) := by decide +kernel
theorem d_D_read_45 : decode prog_4_method_3_code 45 = .ok (.ireturn, 1) := by decide +kernel
theorem d_D_shut_0 : decode prog_4_method_2_code 0 = .ok (.aload_n 0, 1) := by decide +kernel
theorem d_D_shut_1 : decode prog_4_method_2_code 1 = .ok (.iconst 0, 1) := by decide +kernel
theorem d_D_shut_2 : decode prog_4_method_2_code 2 = .ok (.putfield 26, 3) := by decide +kernel
theorem d_D_shut_5 : decode prog_4_method_2_code 5 = .ok (.return_, 1) := by decide +kernel
theorem d_G_about_0 : decode prog_1_method_13_code 0 = .ok (.iload_n 1, 1) := by decide +kernel
theorem d_G_about_1 : decode prog_1_method_13_code 1 = .ok (.tableswitch 89 0 4 #[35, 43, 65, 73, 81], 35) := by decide +kernel
theorem d_G_about_36 : decode prog_1_method_13_code 36 = .ok (.aload_n 0, 1) := by decide +kernel
theorem d_G_about_37 : decode prog_1_method_13_code 37 = .ok (.getfield 10, 3) := by decide +kernel
theorem d_G_about_40 : decode prog_1_method_13_code 40 = .ok (.getfield 55, 3) := by decide +kernel
theorem d_G_about_43 : decode prog_1_method_13_code 43 = .ok (.ireturn, 1) := by decide +kernel
theorem d_G_about_44 : decode prog_1_method_13_code 44 = .ok (.aload_n 0, 1) := by decide +kernel
theorem d_G_about_45 : decode prog_1_method_13_code 45 = .ok (.getfield 21, 3) := by decide +kernel
theorem d_G_about_48 : decode prog_1_method_13_code 48 = .ok (.getfield 97, 3) := by decide +kernel
theorem d_G_about_51 : decode prog_1_method_13_code 51 = .ok (.ifCond .eq 13, 3) := by decide +kernel
theorem d_G_about_64 : decode prog_1_method_13_code 64 = .ok (.iconst 0, 1) := by decide +kernel
theorem d_G_about_65 : decode prog_1_method_13_code 65 = .ok (.ireturn, 1) := by decide +kernel
theorem d_G_about_66 : decode prog_1_method_13_code 66 = .ok (.aload_n 0, 1) := by decide +kernel
theorem d_G_about_67 : decode prog_1_method_13_code 67 = .ok (.getfield 28, 3) := by decide +kernel
theorem d_G_about_70 : decode prog_1_method_13_code 70 = .ok (.getfield 143, 3) := by decide +kernel
theorem d_G_about_73 : decode prog_1_method_13_code 73 = .ok (.ireturn, 1) := by decide +kernel
theorem d_G_about_74 : decode prog_1_method_13_code 74 = .ok (.aload_n 0, 1) := by decide +kernel
theorem d_G_about_75 : decode prog_1_method_13_code 75 = .ok (.getfield 28, 3) := by decide +kernel
theorem d_G_about_78 : decode prog_1_method_13_code 78 = .ok (.getfield 83, 3) := by decide +kernel
theorem d_G_about_81 : decode prog_1_method_13_code 81 = .ok (.ireturn, 1) := by decide +kernel
theorem d_G_about_82 : decode prog_1_method_13_code 82 = .ok (.aload_n 0, 1) := by decide +kernel
theorem d_G_about_83 : decode prog_1_method_13_code 83 = .ok (.getfield 28, 3) := by decide +kernel
theorem d_G_about_86 : decode prog_1_method_13_code 86 = .ok (.getfield 86, 3) := by decide +kernel
theorem d_G_about_89 : decode prog_1_method_13_code 89 = .ok (.ireturn, 1) := by decide +kernel
theorem d_G_about_90 : decode prog_1_method_13_code 90 = .ok (.new 59, 3) := by decide +kernel
theorem d_G_about_93 : decode prog_1_method_13_code 93 = .ok (.dup, 1) := by decide +kernel
theorem d_G_about_94 : decode prog_1_method_13_code 94 = .ok (.invokespecial 61, 3) := by decide +kernel
theorem d_G_about_97 : decode prog_1_method_13_code 97 = .ok (.athrow, 1) := by decide +kernel
theorem d_G_alter_0 : decode prog_1_method_4_code 0 = .ok (.iload_n 1, 1) := by decide +kernel
theorem d_G_alter_1 : decode prog_1_method_4_code 1 = .ok (.ifCond .lt 14, 3) := by decide +kernel
theorem d_G_alter_4 : decode prog_1_method_4_code 4 = .ok (.iload_n 1, 1) := by decide +kernel
theorem d_G_alter_5 : decode prog_1_method_4_code 5 = .ok (.aload_n 0, 1) := by decide +kernel
theorem d_G_alter_6 : decode prog_1_method_4_code 6 = .ok (.getfield 10, 3) := by decide +kernel
theorem d_G_alter_9 : decode prog_1_method_4_code 9 = .ok (.getfield 55, 3) := by decide +kernel
theorem d_G_alter_12 : decode prog_1_method_4_code 12 = .ok (.if_icmp .lt 11, 3) := by decide +kernel
theorem d_G_alter_15 : decode prog_1_method_4_code 15 = .ok (.new 65, 3) := by decide +kernel
theorem d_G_alter_18 : decode prog_1_method_4_code 18 = .ok (.dup, 1) := by decide +kernel
theorem d_G_alter_19 : decode prog_1_method_4_code 19 = .ok (.invokespecial 67, 3) := by decide +kernel
theorem d_G_alter_22 : decode prog_1_method_4_code 22 = .ok (.athrow, 1) := by decide +kernel
theorem d_G_end_0 : decode prog_1_method_3_code 0 = .ok (.iload_n 1, 1) := by decide +kernel
theorem d_G_end_1 : decode prog_1_method_3_code 1 = .ok (.ifCond .lt 14, 3) := by decide +kernel
theorem d_G_end_4 : decode prog_1_method_3_code 4 = .ok (.iload_n 1, 1) := by decide +kernel
theorem d_G_end_5 : decode prog_1_method_3_code 5 = .ok (.aload_n 0, 1) := by decide +kernel
theorem d_G_end_6 : decode prog_1_method_3_code 6 = .ok (.getfield 10, 3) := by decide +kernel
theorem d_G_end_9 : decode prog_1_method_3_code 9 = .ok (.getfield 55, 3) := by decide +kernel
theorem d_G_end_12 : decode prog_1_method_3_code 12 = .ok (.if_icmp .le 11, 3) := by decide +kernel
theorem d_G_end_15 : decode prog_1_method_3_code 15 = .ok (.new 59, 3) := by decide +kernel
theorem d_G_end_18 : decode prog_1_method_3_code 18 = .ok (.dup, 1) := by decide +kernel
theorem d_G_end_19 : decode prog_1_method_3_code 19 = .ok (.invokespecial 61, 3) := by decide +kernel
theorem d_G_end_22 : decode prog_1_method_3_code 22 = .ok (.athrow, 1) := by decide +kernel
theorem d_G_end_23 : decode prog_1_method_3_code 23 = .ok (.aload_n 0, 1) := by decide +kernel
theorem d_G_end_24 : decode prog_1_method_3_code 24 = .ok (.getfield 21, 3) := by decide +kernel
theorem d_G_end_27 : decode prog_1_method_3_code 27 = .ok (.invokevirtual 48, 3) := by decide +kernel
theorem d_G_end_30 : decode prog_1_method_3_code 30 = .ok (.aload_n 0, 1) := by decide +kernel
theorem d_G_end_31 : decode prog_1_method_3_code 31 = .ok (.getfield 10, 3) := by decide +kernel
theorem d_G_end_34 : decode prog_1_method_3_code 34 = .ok (.iload_n 1, 1) := by decide +kernel
theorem d_G_end_35 : decode prog_1_method_3_code 35 = .ok (.invokevirtual 62, 3) := by decide +kernel
theorem d_G_end_38 : decode prog_1_method_3_code 38 = .ok (.return_, 1) := by decide +kernel
theorem d_G_entry_0 : decode prog_1_method_10_code 0 = .ok (.aload_n 0, 1) := by decide +kernel
theorem d_G_entry_1 : decode prog_1_method_10_code 1 = .ok (.iload_n 1, 1) := by decide +kernel
theorem d_G_entry_2 : decode prog_1_method_10_code 2 = .ok (.invokevirtual 89, 3) := by decide +kernel
theorem d_G_feed_0 : decode prog_1_method_2_code 0 = .ok (.aload_n 0, 1) := by decide +kernel
theorem d_G_feed_1 : decode prog_1_method_2_code 1 = .ok (.getfield 10, 3) := by decide +kernel
theorem d_G_feed_4 : decode prog_1_method_2_code 4 = .ok (.bipush 20, 2) := by decide +kernel
theorem d_G_feed_6 : decode prog_1_method_2_code 6 = .ok (.invokevirtual 41, 3) := by decide +kernel
theorem d_G_feed_9 : decode prog_1_method_2_code 9 = .ok (.ifCond .ne 11, 3) := by decide +kernel
theorem d_G_feed_20 : decode prog_1_method_2_code 20 = .ok (.aload_n 0, 1) := by decide +kernel
theorem d_G_feed_21 : decode prog_1_method_2_code 21 = .ok (.getfield 21, 3) := by decide +kernel
theorem d_G_feed_24 : decode prog_1_method_2_code 24 = .ok (.invokevirtual 48, 3) := by decide +kernel
theorem d_G_feed_27 : decode prog_1_method_2_code 27 = .ok (.aload_n 0, 1) := by decide +kernel
theorem d_G_feed_28 : decode prog_1_method_2_code 28 = .ok (.getfield 10, 3) := by decide +kernel
theorem d_G_feed_31 : decode prog_1_method_2_code 31 = .ok (.iload_n 1, 1) := by decide +kernel
theorem d_G_feed_32 : decode prog_1_method_2_code 32 = .ok (.invokevirtual 51, 3) := by decide +kernel
theorem d_G_feed_35 : decode prog_1_method_2_code 35 = .ok (.aload_n 0, 1) := by decide +kernel
theorem d_G_feed_36 : decode prog_1_method_2_code 36 = .ok (.getfield 10, 3) := by decide +kernel
theorem d_G_feed_39 : decode prog_1_method_2_code 39 = .ok (.iload_n 2, 1) := by decide +kernel
theorem d_G_feed_40 : decode prog_1_method_2_code 40 = .ok (.invokevirtual 51, 3) := by decide +kernel
theorem d_G_feed_43 : decode prog_1_method_2_code 43 = .ok (.aload_n 0, 1) := by decide +kernel
theorem d_G_feed_44 : decode prog_1_method_2_code 44 = .ok (.getfield 10, 3) := by decide +kernel
theorem d_G_feed_47 : decode prog_1_method_2_code 47 = .ok (.iload_n 3, 1) := by decide +kernel
theorem d_G_feed_48 : decode prog_1_method_2_code 48 = .ok (.invokevirtual 51, 3) := by decide +kernel
theorem d_G_feed_51 : decode prog_1_method_2_code 51 = .ok (.aload_n 0, 1) := by decide +kernel
theorem d_G_feed_52 : decode prog_1_method_2_code 52 = .ok (.getfield 10, 3) := by decide +kernel
theorem d_G_feed_55 : decode prog_1_method_2_code 55 = .ok (.iload 4, 2) := by decide +kernel
theorem d_G_feed_57 : decode prog_1_method_2_code 57 = .ok (.invokevirtual 51, 3) := by decide +kernel
theorem d_G_feed_60 : decode prog_1_method_2_code 60 = .ok (.aload_n 0, 1) := by decide +kernel
theorem d_G_feed_61 : decode prog_1_method_2_code 61 = .ok (.getfield 10, 3) := by decide +kernel
theorem d_G_feed_64 : decode prog_1_method_2_code 64 = .ok (.iload 5, 2) := by decide +kernel
theorem d_G_feed_66 : decode prog_1_method_2_code 66 = .ok (.invokevirtual 51, 3) := by decide +kernel
theorem d_G_feed_69 : decode prog_1_method_2_code 69 = .ok (.aload_n 0, 1) := by decide +kernel
theorem d_G_feed_70 : decode prog_1_method_2_code 70 = .ok (.getfield 10, 3) := by decide +kernel
theorem d_G_feed_73 : decode prog_1_method_2_code 73 = .ok (.getfield 55, 3) := by decide +kernel
theorem d_G_feed_76 : decode prog_1_method_2_code 76 = .ok (.ireturn, 1) := by decide +kernel
theorem d_G_limits_0 : decode prog_1_method_7_code 0 = .ok (.iload_n 1, 1) := by decide +kernel
theorem d_G_limits_1 : decode prog_1_method_7_code 1 = .ok (.ifCond .lt 20, 3) := by decide +kernel
theorem d_G_limits_4 : decode prog_1_method_7_code 4 = .ok (.iload_n 1, 1) := by decide +kernel
theorem d_G_limits_5 : decode prog_1_method_7_code 5 = .ok (.ldc 82, 2) := by decide +kernel
theorem d_G_limits_7 : decode prog_1_method_7_code 7 = .ok (.if_icmp .gt 14, 3) := by decide +kernel
theorem d_G_limits_10 : decode prog_1_method_7_code 10 = .ok (.iload_n 2, 1) := by decide +kernel
theorem d_G_limits_11 : decode prog_1_method_7_code 11 = .ok (.ifCond .lt 10, 3) := by decide +kernel
theorem d_G_limits_14 : decode prog_1_method_7_code 14 = .ok (.iload_n 2, 1) := by decide +kernel
theorem d_G_limits_15 : decode prog_1_method_7_code 15 = .ok (.sipush 2000, 3) := by decide +kernel
theorem d_G_limits_18 : decode prog_1_method_7_code 18 = .ok (.if_icmp .le 11, 3) := by decide +kernel
theorem d_G_limits_21 : decode prog_1_method_7_code 21 = .ok (.new 59, 3) := by decide +kernel
theorem d_G_limits_24 : decode prog_1_method_7_code 24 = .ok (.dup, 1) := by decide +kernel
theorem d_G_limits_25 : decode prog_1_method_7_code 25 = .ok (.invokespecial 61, 3) := by decide +kernel
theorem d_G_limits_28 : decode prog_1_method_7_code 28 = .ok (.athrow, 1) := by decide +kernel
theorem d_G_limits_29 : decode prog_1_method_7_code 29 = .ok (.aload_n 0, 1) := by decide +kernel
theorem d_G_limits_30 : decode prog_1_method_7_code 30 = .ok (.getfield 28, 3) := by decide +kernel
theorem d_G_limits_33 : decode prog_1_method_7_code 33 = .ok (.iload_n 1, 1) := by decide +kernel
theorem d_G_limits_34 : decode prog_1_method_7_code 34 = .ok (.putfield 83, 3) := by decide +kernel
theorem d_G_limits_37 : decode prog_1_method_7_code 37 = .ok (.aload_n 0, 1) := by decide +kernel
theorem d_G_limits_38 : decode prog_1_method_7_code 38 = .ok (.getfield 28, 3) := by decide +kernel
theorem d_G_limits_41 : decode prog_1_method_7_code 41 = .ok (.iload_n 2, 1) := by decide +kernel
theorem d_G_limits_42 : decode prog_1_method_7_code 42 = .ok (.putfield 86, 3) := by decide +kernel
theorem d_G_limits_45 : decode prog_1_method_7_code 45 = .ok (.return_, 1) := by decide +kernel
theorem d_G_name_0 : decode prog_1_method_11_code 0 = .ok (.aload_n 0, 1) := by decide +kernel
theorem d_G_name_1 : decode prog_1_method_11_code 1 = .ok (.iload_n 1, 1) := by decide +kernel
theorem d_G_name_2 : decode prog_1_method_11_code 2 = .ok (.invokevirtual 89, 3) := by decide +kernel
theorem d_G_open_0 : decode prog_1_method_5_code 0 = .ok (.aload_n 0, 1) := by decide +kernel
theorem d_G_open_1 : decode prog_1_method_5_code 1 = .ok (.getfield 28, 3) := by decide +kernel
theorem d_G_open_4 : decode prog_1_method_5_code 4 = .ok (.invokevirtual 72, 3) := by decide +kernel
theorem d_G_open_7 : decode prog_1_method_5_code 7 = .ok (.aload_n 0, 1) := by decide +kernel
theorem d_G_open_8 : decode prog_1_method_5_code 8 = .ok (.getfield 21, 3) := by decide +kernel
theorem d_G_open_11 : decode prog_1_method_5_code 11 = .ok (.invokevirtual 75, 3) := by decide +kernel
theorem d_G_open_14 : decode prog_1_method_5_code 14 = .ok (.ireturn, 1) := by decide +kernel
theorem d_G_openEntry_0 : decode prog_1_method_14_code 0 = .ok (.aload_n 0, 1) := by decide +kernel
theorem d_G_openEntry_1 : decode prog_1_method_14_code 1 = .ok (.getfield 21, 3) := by decide +kernel
theorem d_G_openEntry_4 : decode prog_1_method_14_code 4 = .ok (.getfield 97, 3) := by decide +kernel
theorem d_G_openEntry_7 : decode prog_1_method_14_code 7 = .ok (.ifCond .ne 11, 3) := by decide +kernel
theorem d_G_openEntry_10 : decode prog_1_method_14_code 10 = .ok (.new 45, 3) := by decide +kernel
theorem d_G_openEntry_13 : decode prog_1_method_14_code 13 = .ok (.dup, 1) := by decide +kernel
theorem d_G_openEntry_14 : decode prog_1_method_14_code 14 = .ok (.invokespecial 47, 3) := by decide +kernel
theorem d_G_openEntry_17 : decode prog_1_method_14_code 17 = .ok (.athrow, 1) := by decide +kernel
theorem d_G_place_0 : decode prog_1_method_6_code 0 = .ok (.aload_n 0, 1) := by decide +kernel
theorem d_G_place_1 : decode prog_1_method_6_code 1 = .ok (.getfield 21, 3) := by decide +kernel
theorem d_G_place_4 : decode prog_1_method_6_code 4 = .ok (.getfield 79, 3) := by decide +kernel
theorem d_G_place_7 : decode prog_1_method_6_code 7 = .ok (.ireturn, 1) := by decide +kernel
theorem d_G_take_0 : decode prog_1_method_8_code 0 = .ok (.aload_n 0, 1) := by decide +kernel
theorem d_G_take_1 : decode prog_1_method_8_code 1 = .ok (.getfield 37, 3) := by decide +kernel
theorem d_G_take_4 : decode prog_1_method_8_code 4 = .ok (.aload_n 0, 1) := by decide +kernel
theorem d_G_take_5 : decode prog_1_method_8_code 5 = .ok (.iload_n 1, 1) := by decide +kernel
theorem d_G_take_6 : decode prog_1_method_8_code 6 = .ok (.invokevirtual 89, 3) := by decide +kernel
theorem d_G_takeAll_0 : decode prog_1_method_9_code 0 = .ok (.aload_n 0, 1) := by decide +kernel
theorem d_G_takeAll_1 : decode prog_1_method_9_code 1 = .ok (.getfield 21, 3) := by decide +kernel
theorem d_G_takeAll_4 : decode prog_1_method_9_code 4 = .ok (.getfield 97, 3) := by decide +kernel
theorem d_G_takeAll_7 : decode prog_1_method_9_code 7 = .ok (.ifCond .ne 11, 3) := by decide +kernel
theorem d_G_takeAll_10 : decode prog_1_method_9_code 10 = .ok (.new 45, 3) := by decide +kernel
theorem d_G_takeAll_13 : decode prog_1_method_9_code 13 = .ok (.dup, 1) := by decide +kernel
theorem d_G_takeAll_14 : decode prog_1_method_9_code 14 = .ok (.invokespecial 47, 3) := by decide +kernel
theorem d_G_takeAll_17 : decode prog_1_method_9_code 17 = .ok (.athrow, 1) := by decide +kernel
theorem d_G_written_0 : decode prog_1_method_12_code 0 = .ok (.aload_n 0, 1) := by decide +kernel
theorem d_G_written_1 : decode prog_1_method_12_code 1 = .ok (.iload_n 1, 1) := by decide +kernel
theorem d_G_written_2 : decode prog_1_method_12_code 2 = .ok (.invokevirtual 89, 3) := by decide +kernel
theorem d_T_append_0 : decode prog_6_method_3_code 0 = .ok (.aload_n 0, 1) := by decide +kernel
theorem d_T_append_1 : decode prog_6_method_3_code 1 = .ok (.iconst 4, 1) := by decide +kernel
theorem d_T_append_2 : decode prog_6_method_3_code 2 = .ok (.invokevirtual 17, 3) := by decide +kernel
theorem d_T_append_5 : decode prog_6_method_3_code 5 = .ok (.ifCond .ne 4, 3) := by decide +kernel
theorem d_T_append_9 : decode prog_6_method_3_code 9 = .ok (.bipush 24, 2) := by decide +kernel
theorem d_T_append_11 : decode prog_6_method_3_code 11 = .ok (.istore_n 2, 1) := by decide +kernel
theorem d_T_append_12 : decode prog_6_method_3_code 12 = .ok (.iload_n 2, 1) := by decide +kernel
theorem d_T_append_13 : decode prog_6_method_3_code 13 = .ok (.ifCond .lt 32, 3) := by decide +kernel
theorem d_T_append_16 : decode prog_6_method_3_code 16 = .ok (.aload_n 0, 1) := by decide +kernel
theorem d_T_append_17 : decode prog_6_method_3_code 17 = .ok (.getfield 9, 3) := by decide +kernel
theorem d_T_append_20 : decode prog_6_method_3_code 20 = .ok (.aload_n 0, 1) := by decide +kernel
theorem d_T_append_21 : decode prog_6_method_3_code 21 = .ok (.getfield 13, 3) := by decide +kernel
theorem d_T_append_24 : decode prog_6_method_3_code 24 = .ok (.iload_n 1, 1) := by decide +kernel
theorem d_T_append_25 : decode prog_6_method_3_code 25 = .ok (.iload_n 2, 1) := by decide +kernel
theorem d_T_append_26 : decode prog_6_method_3_code 26 = .ok (.ishr, 1) := by decide +kernel
theorem d_T_append_27 : decode prog_6_method_3_code 27 = .ok (.i2b, 1) := by decide +kernel
theorem d_T_append_28 : decode prog_6_method_3_code 28 = .ok (.bastore, 1) := by decide +kernel
theorem d_T_append_29 : decode prog_6_method_3_code 29 = .ok (.aload_n 0, 1) := by decide +kernel
theorem d_T_append_30 : decode prog_6_method_3_code 30 = .ok (.dup, 1) := by decide +kernel
theorem d_T_append_31 : decode prog_6_method_3_code 31 = .ok (.getfield 13, 3) := by decide +kernel
theorem d_T_append_34 : decode prog_6_method_3_code 34 = .ok (.iconst 1, 1) := by decide +kernel
theorem d_T_append_35 : decode prog_6_method_3_code 35 = .ok (.iadd, 1) := by decide +kernel
theorem d_T_append_36 : decode prog_6_method_3_code 36 = .ok (.putfield 13, 3) := by decide +kernel
theorem d_T_append_39 : decode prog_6_method_3_code 39 = .ok (.iinc 2 (-8), 3) := by decide +kernel
theorem d_T_append_42 : decode prog_6_method_3_code 42 = .ok (.goto (-30), 3) := by decide +kernel
theorem d_T_append_45 : decode prog_6_method_3_code 45 = .ok (.return_, 1) := by decide +kernel
theorem d_T_hasRoomFor_0 : decode prog_6_method_2_code 0 = .ok (.aload_n 0, 1) := by decide +kernel
theorem d_T_hasRoomFor_1 : decode prog_6_method_2_code 1 = .ok (.getfield 13, 3) := by decide +kernel
theorem d_T_hasRoomFor_4 : decode prog_6_method_2_code 4 = .ok (.iload_n 1, 1) := by decide +kernel
theorem d_T_hasRoomFor_5 : decode prog_6_method_2_code 5 = .ok (.iadd, 1) := by decide +kernel
theorem d_T_hasRoomFor_6 : decode prog_6_method_2_code 6 = .ok (.aload_n 0, 1) := by decide +kernel
theorem d_T_hasRoomFor_7 : decode prog_6_method_2_code 7 = .ok (.getfield 9, 3) := by decide +kernel
theorem d_T_hasRoomFor_10 : decode prog_6_method_2_code 10 = .ok (.arraylength, 1) := by decide +kernel
theorem d_T_hasRoomFor_11 : decode prog_6_method_2_code 11 = .ok (.if_icmp .gt 7, 3) := by decide +kernel
theorem d_T_hasRoomFor_14 : decode prog_6_method_2_code 14 = .ok (.iconst 1, 1) := by decide +kernel
theorem d_T_hasRoomFor_15 : decode prog_6_method_2_code 15 = .ok (.goto 4, 3) := by decide +kernel
theorem d_T_hasRoomFor_19 : decode prog_6_method_2_code 19 = .ok (.ireturn, 1) := by decide +kernel
theorem d_T_keepFirst_0 : decode prog_6_method_4_code 0 = .ok (.iload_n 1, 1) := by decide +kernel
theorem d_T_keepFirst_1 : decode prog_6_method_4_code 1 = .ok (.ifCond .lt 16, 3) := by decide +kernel
theorem d_T_keepFirst_4 : decode prog_6_method_4_code 4 = .ok (.iload_n 1, 1) := by decide +kernel
theorem d_T_keepFirst_5 : decode prog_6_method_4_code 5 = .ok (.aload_n 0, 1) := by decide +kernel
theorem d_T_keepFirst_6 : decode prog_6_method_4_code 6 = .ok (.getfield 13, 3) := by decide +kernel
theorem d_T_keepFirst_9 : decode prog_6_method_4_code 9 = .ok (.if_icmp .gt 8, 3) := by decide +kernel
theorem d_T_keepFirst_12 : decode prog_6_method_4_code 12 = .ok (.aload_n 0, 1) := by decide +kernel
theorem d_T_keepFirst_13 : decode prog_6_method_4_code 13 = .ok (.iload_n 1, 1) := by decide +kernel
theorem d_T_keepFirst_14 : decode prog_6_method_4_code 14 = .ok (.putfield 13, 3) := by decide +kernel
theorem d_T_keepFirst_17 : decode prog_6_method_4_code 17 = .ok (.return_, 1) := by decide +kernel
set_option maxHeartbeats 4000000 in
set_option maxRecDepth 100000 in
theorem c_T_room (l : Launch) (D : va_G) (sz : Nat) (qt : Nat) (qb : Nat) (cB : ClassId) (f : Nat → Int32) (L : Nat) (K : Nat) (h : L + K ≤ 20000) : Met l y_T_hasRoomFor (Cond.code y_T_hasRoomFor prog_6_method_2_code 2 (Option.some Jvm.ClassFile.FieldType.boolean) :: zt) { frames := 0, cells := 0, slots := 0, locals := 0 } (zPc [.ref qt, .int (nI K)] D [(qt, .inr (1, [.ref qb, .int (nI L)])), (qb, .inl (cB, 20000, .inl f))] [(cB, .byte)] sz (fun _ => True)) (va_Qi (fun (r : Int32) => fun (_ : Unit) => r = 1) (fun u t => zB D ((fun (_ : Unit) => [(qt, .inr (1, [.ref qb, .int (nI L)])), (qb, .inl (cB, 20000, .inl f))]) u) ((fun (_ : Unit) => [(cB, .byte)]) u) (va_A [(qt, .inr (1, [.ref qb, .int (nI L)])), (qb, .inl (cB, 20000, .inl f))] sz) t) (va_A [(qt, .inr (1, [.ref qb, .int (nI L)])), (qb, .inl (cB, 20000, .inl f))] sz)) 0 0 (va_A [(qt, .inr (1, [.ref qb, .int (nI L)])), (qb, .inl (cB, 20000, .inl f))] sz) :=
  zMet (Qf := fun A => va_Qi (fun (r : Int32) => fun (_ : Unit) => r = 1) (fun u t => zB D ((fun (_ : Unit) => [(qt, .inr (1, [.ref qb, .int (nI L)])), (qb, .inl (cB, 20000, .inl f))]) u) ((fun (_ : Unit) => [(cB, .byte)]) u) A t) A) (by decide) (Nat.le_of_ble_eq_true rfl) (fun p e s m below meth c A ls hx hb hr hml hown ht hlk hnm hA hK hP hD hX hl => by
    have hS : va_S A s.heap s.heap [] := va_S.rf
    have hl : lv_has ls 2 [(0, .ref qt), (1, .int (nI K))] := hl
    refine lv_aload_n hx hb d_T_hasRoomFor_0 rfl (lv_at hl 0 rfl) ?_
    refine va_get (ci := 1) (C := "ZipGuard$Tape") (T := F_T) (N := 2) hx hb ht zi_T hown hK hP 0 rfl rfl 1 (by decide) (ht _ zm_97) (fun _ h9 => h9) rfl d_T_hasRoomFor_1 ?_
    refine lv_iload_n hx hb d_T_hasRoomFor_4 rfl (lv_at hl 1 rfl) ?_
    refine lv_iadd hx hb d_T_hasRoomFor_5 ?_
    refine lv_aload_n hx hb d_T_hasRoomFor_6 rfl (lv_at hl 0 rfl) ?_
    refine va_get (ci := 1) (C := "ZipGuard$Tape") (T := F_T) (N := 2) hx hb ht zi_T hown hK hP 0 rfl rfl 0 (by decide) (ht _ zm_96) (fun _ h9 => h9) rfl d_T_hasRoomFor_7 ?_
    refine va_alen (v := 20000) hx hb hK hP 1 0 rfl rfl rfl d_T_hasRoomFor_10 ?_
    refine lv_icmp_gt (tgt := 18) hx hb d_T_hasRoomFor_11 (by decide) (fun h => absurd h (by rw [nI_add]; exact (show ¬ nI 20000 < nI (L + K) from nI_nlt (by omega) (by omega)))) (fun _ => ?_)
    refine lv_iconst (v := 1) hx hb d_T_hasRoomFor_14 (by decide) ?_
    refine lv_goto (tgt := 19) hx hb d_T_hasRoomFor_15 (by decide) ?_
    exact zretz hx hb hr hlk hK hP hD hS () [0, 1] [0] rfl (by decide) rfl (rfl) rfl (Nat.le_of_ble_eq_true rfl) (Nat.le_of_ble_eq_true rfl) d_T_hasRoomFor_19)
set_option maxHeartbeats 4000000 in
set_option maxRecDepth 100000 in
theorem c_T_app (l : Launch) (D : va_G) (sz : Nat) (qt : Nat) (qb : Nat) (cB : ClassId) (f : Nat → Int32) (L : Nat) (x : Int32) (h : L + 4 ≤ 20000) : Met l y_T_append (Cond.code y_T_append prog_6_method_3_code 3 (Option.none : Option Jvm.ClassFile.FieldType) :: zt) { frames := 1, cells := 0, slots := 0, locals := 21 } (zPc [.ref qt, .int x] D [(qt, .inr (1, [.ref qb, .int (nI L)])), (qb, .inl (cB, 20000, .inl f))] [(cB, .byte)] sz (fun _ => True)) (va_Qv (fun (u : Nat → Int32) => match u with | g => True) (fun u t => zB D ((fun (u : Nat → Int32) => match u with | g => [(qt, .inr (1, [.ref qb, .int (nI (L + 4))])), (qb, .inl (cB, 20000, .inl g))]) u) ((fun (u : Nat → Int32) => match u with | g => [(cB, .byte)]) u) (va_A [(qt, .inr (1, [.ref qb, .int (nI L)])), (qb, .inl (cB, 20000, .inl f))] sz) t) (va_A [(qt, .inr (1, [.ref qb, .int (nI L)])), (qb, .inl (cB, 20000, .inl f))] sz)) 0 0 (va_A [(qt, .inr (1, [.ref qb, .int (nI L)])), (qb, .inl (cB, 20000, .inl f))] sz) :=
  zMet (Qf := fun A => va_Qv (fun (u : Nat → Int32) => match u with | g => True) (fun u t => zB D ((fun (u : Nat → Int32) => match u with | g => [(qt, .inr (1, [.ref qb, .int (nI (L + 4))])), (qb, .inl (cB, 20000, .inl g))]) u) ((fun (u : Nat → Int32) => match u with | g => [(cB, .byte)]) u) A t) A) (by decide) (Nat.le_of_ble_eq_true rfl) (fun p e s m below meth c A ls hx hb hr hml hown ht hlk hnm hA hK hP hD hX hl => by
    have hS : va_S A s.heap s.heap [] := va_S.rf
    have hl : lv_has ls 3 [(0, .ref qt), (1, .int x)] := hl
    refine lv_aload_n hx hb d_T_append_0 rfl (lv_at hl 0 rfl) ?_
    refine lv_iconst (v := 4) hx hb d_T_append_1 (by decide) ?_
    refine zji (wr := []) (va_runV (As := [.int 4]) (rest := []) ⟨hx, hb, hml, hown, ht⟩ (c_T_room l D _ qt qb cB f L 4 h) (cwV 1 ht (zt_goodV zm_552 zm_521 zm_522 zm_66 zm_523) rfl rfl rfl (by decide +kernel) ⟨Nat.le_of_ble_eq_true rfl, Nat.le_of_ble_eq_true rfl⟩) (zpreV zBlind_t hK hP hD [0, 1] [0] rfl (by decide) rfl (fun _ _ _ => trivial) (va_recv (q := ("ZipGuard$Tape", F_T, 2)) hK hP rfl (q0 := 0) (ci := 1) rfl)) rfl rfl hl.1 rfl (lv_room (Nat.le_of_ble_eq_true rfl)) d_T_append_2 ⟨Nat.le_of_ble_eq_true rfl, Nat.le_of_ble_eq_true rfl⟩) hK hP hD hS hA [0, 1] [] rfl rfl (by decide) (by decide) (fun r1 u H locs hp2 hP hD hK hS => ?_)
    have hP : va_P D zcl [(qt, .inr (1, [.ref qb, .int (nI L)])), (qb, .inl (cB, 20000, .inl f))] H := hP
    have hD : va_D A [(qt, .inr (1, [.ref qb, .int (nI L)])), (qb, .inl (cB, 20000, .inl f))] := hD
    have hK : va_K D zcl [(cB, .byte), (cB, .byte)] s := hK
    subst hp2
    have hP := hP.sub (ws' := [(qt, .inr (1, [.ref qb, .int (nI L)])), (qb, .inl (cB, 20000, .inl f))]) [0, 1] rfl
    have hD := hD.sub (ws' := [(qt, .inr (1, [.ref qb, .int (nI L)])), (qb, .inl (cB, 20000, .inl f))]) [0, 1] (by decide) rfl
    have hK := hK.sub (tys' := [(cB, .byte)]) [0] rfl
    refine lv_if_ne (tgt := 9) hx hb d_T_append_5 (by decide) (fun _ => ?_) (fun h => absurd h (by decide))
    refine lv_bipush (v := 24) hx hb d_T_append_9 (by decide) ?_
    refine lv_istore_n (lv' := [(2, .int 24), (0, .ref qt), (1, .int x)]) hx hb d_T_append_11 rfl hl (by decide) rfl (fun ls hl => ?_)
    refine lv_iload_n hx hb d_T_append_12 rfl (lv_at hl 0 rfl) ?_
    refine lv_if_lt (tgt := 45) hx hb d_T_append_13 (by decide) (fun h => absurd h (by decide)) (fun _ => ?_)
    refine lv_aload_n hx hb d_T_append_16 rfl (lv_at hl 1 rfl) ?_
    refine va_get (ci := 1) (C := "ZipGuard$Tape") (T := F_T) (N := 2) hx hb ht zi_T hown hK hP 0 rfl rfl 0 (by decide) (ht _ zm_96) (fun _ h9 => h9) rfl d_T_append_17 ?_
    refine lv_aload_n hx hb d_T_append_20 rfl (lv_at hl 1 rfl) ?_
    refine va_get (ci := 1) (C := "ZipGuard$Tape") (T := F_T) (N := 2) hx hb ht zi_T hown hK hP 0 rfl rfl 1 (by decide) (ht _ zm_97) (fun _ h9 => h9) rfl d_T_append_21 ?_
    refine lv_iload_n hx hb d_T_append_24 rfl (lv_at hl 2 rfl) ?_
    refine lv_iload_n hx hb d_T_append_25 rfl (lv_at hl 0 rfl) ?_
    refine lv_ishr hx hb d_T_append_26 ?_
    refine lv_i2b hx hb d_T_append_27 rfl ?_
    refine va_bast hx hb hK hP hD hS 1 0 rfl rfl (vp_in_nI (by omega) (by omega)) d_T_append_28 (fun H locs hP hD hS => ?_)
    have hP : va_P D zcl [(qt, .inr (1, [.ref qb, .int (nI L)])), (qb, .inl (cB, 20000, .inl (upd f (nI L).toNatClampNeg (vp_nar .byte ((x >>> (24 &&& 31)).toInt8.toInt32)))))] H := hP
    have hD : va_D A [(qt, .inr (1, [.ref qb, .int (nI L)])), (qb, .inl (cB, 20000, .inl (upd f (nI L).toNatClampNeg (vp_nar .byte ((x >>> (24 &&& 31)).toInt8.toInt32)))))] := hD
    refine lv_aload_n hx hb d_T_append_29 rfl (lv_at hl 1 rfl) ?_
    refine lv_dup hx hb d_T_append_30 rfl ?_
    refine va_get (ci := 1) (C := "ZipGuard$Tape") (T := F_T) (N := 2) hx hb ht zi_T hown hK hP 0 rfl rfl 1 (by decide) (ht _ zm_97) (fun _ h9 => h9) rfl d_T_append_31 ?_
    refine lv_iconst (v := 1) hx hb d_T_append_34 (by decide) ?_
    refine lv_iadd hx hb d_T_append_35 ?_
    refine lv_topi (fun x5 e_x5 => ?_)
    have e_x5 : x5 = nI (L + 1) := by rw [e_x5, nI_1]
    subst e_x5
    refine va_put (ci := 1) (v := .int (nI (L + 1))) (ty := .int) (C := "ZipGuard$Tape") (T := F_T) (N := 2) hx hb ht zi_T ty_T tk_T nm_T hown hK hP hD hS 0 rfl rfl 1 (by decide) (ht _ zm_97) (fun _ h9 => h9) rfl (by decide +kernel) rfl rfl (Nat.le_of_ble_eq_true rfl) d_T_append_36 (fun H locs hP hD hS => ?_)
    have hP : va_P D zcl [(qt, .inr (1, [.ref qb, .int (nI (L + 1))])), (qb, .inl (cB, 20000, .inl (upd f (nI L).toNatClampNeg (vp_nar .byte ((x >>> (24 &&& 31)).toInt8.toInt32)))))] H := hP
    have hD : va_D A [(qt, .inr (1, [.ref qb, .int (nI (L + 1))])), (qb, .inl (cB, 20000, .inl (upd f (nI L).toNatClampNeg (vp_nar .byte ((x >>> (24 &&& 31)).toInt8.toInt32)))))] := hD
    refine lv_iinc (k := 0) (v := 16) (lv' := [(2, .int 16), (0, .ref qt), (1, .int x)]) hx hb d_T_append_39 hl rfl (by decide) (by decide) rfl (fun ls hl => ?_)
    refine lv_goto (tgt := 12) hx hb d_T_append_42 (by decide) ?_
    refine lv_iload_n hx hb d_T_append_12 rfl (lv_at hl 0 rfl) ?_
    refine lv_if_lt (tgt := 45) hx hb d_T_append_13 (by decide) (fun h => absurd h (by decide)) (fun _ => ?_)
    refine lv_aload_n hx hb d_T_append_16 rfl (lv_at hl 1 rfl) ?_
    refine va_get (ci := 1) (C := "ZipGuard$Tape") (T := F_T) (N := 2) hx hb ht zi_T hown hK hP 0 rfl rfl 0 (by decide) (ht _ zm_96) (fun _ h9 => h9) rfl d_T_append_17 ?_
    refine lv_aload_n hx hb d_T_append_20 rfl (lv_at hl 1 rfl) ?_
    refine va_get (ci := 1) (C := "ZipGuard$Tape") (T := F_T) (N := 2) hx hb ht zi_T hown hK hP 0 rfl rfl 1 (by decide) (ht _ zm_97) (fun _ h9 => h9) rfl d_T_append_21 ?_
    refine lv_iload_n hx hb d_T_append_24 rfl (lv_at hl 2 rfl) ?_
    refine lv_iload_n hx hb d_T_append_25 rfl (lv_at hl 0 rfl) ?_
    refine lv_ishr hx hb d_T_append_26 ?_
    refine lv_i2b hx hb d_T_append_27 rfl ?_
    refine va_bast hx hb hK hP hD hS 1 0 rfl rfl (vp_in_nI (by omega) (by omega)) d_T_append_28 (fun H locs hP hD hS => ?_)
    have hP : va_P D zcl [(qt, .inr (1, [.ref qb, .int (nI (L + 1))])), (qb, .inl (cB, 20000, .inl (upd (upd f (nI L).toNatClampNeg (vp_nar .byte ((x >>> (24 &&& 31)).toInt8.toInt32))) (nI (L + 1)).toNatClampNeg (vp_nar .byte ((x >>> (16 &&& 31)).toInt8.toInt32)))))] H := hP
    have hD : va_D A [(qt, .inr (1, [.ref qb, .int (nI (L + 1))])), (qb, .inl (cB, 20000, .inl (upd (upd f (nI L).toNatClampNeg (vp_nar .byte ((x >>> (24 &&& 31)).toInt8.toInt32))) (nI (L + 1)).toNatClampNeg (vp_nar .byte ((x >>> (16 &&& 31)).toInt8.toInt32)))))] := hD
    refine lv_aload_n hx hb d_T_append_29 rfl (lv_at hl 1 rfl) ?_
    refine lv_dup hx hb d_T_append_30 rfl ?_
    refine va_get (ci := 1) (C := "ZipGuard$Tape") (T := F_T) (N := 2) hx hb ht zi_T hown hK hP 0 rfl rfl 1 (by decide) (ht _ zm_97) (fun _ h9 => h9) rfl d_T_append_31 ?_
    refine lv_iconst (v := 1) hx hb d_T_append_34 (by decide) ?_
    refine lv_iadd hx hb d_T_append_35 ?_
    refine lv_topi (fun x7 e_x7 => ?_)
    have e_x7 : x7 = nI (L + 2) := by rw [e_x7, nI_1]
    subst e_x7
    refine va_put (ci := 1) (v := .int (nI (L + 2))) (ty := .int) (C := "ZipGuard$Tape") (T := F_T) (N := 2) hx hb ht zi_T ty_T tk_T nm_T hown hK hP hD hS 0 rfl rfl 1 (by decide) (ht _ zm_97) (fun _ h9 => h9) rfl (by decide +kernel) rfl rfl (Nat.le_of_ble_eq_true rfl) d_T_append_36 (fun H locs hP hD hS => ?_)
    have hP : va_P D zcl [(qt, .inr (1, [.ref qb, .int (nI (L + 2))])), (qb, .inl (cB, 20000, .inl (upd (upd f (nI L).toNatClampNeg (vp_nar .byte ((x >>> (24 &&& 31)).toInt8.toInt32))) (nI (L + 1)).toNatClampNeg (vp_nar .byte ((x >>> (16 &&& 31)).toInt8.toInt32)))))] H := hP
    have hD : va_D A [(qt, .inr (1, [.ref qb, .int (nI (L + 2))])), (qb, .inl (cB, 20000, .inl (upd (upd f (nI L).toNatClampNeg (vp_nar .byte ((x >>> (24 &&& 31)).toInt8.toInt32))) (nI (L + 1)).toNatClampNeg (vp_nar .byte ((x >>> (16 &&& 31)).toInt8.toInt32)))))] := hD
    refine lv_iinc (k := 0) (v := 8) (lv' := [(2, .int 8), (0, .ref qt), (1, .int x)]) hx hb d_T_append_39 hl rfl (by decide) (by decide) rfl (fun ls hl => ?_)
    refine lv_goto (tgt := 12) hx hb d_T_append_42 (by decide) ?_
    refine lv_iload_n hx hb d_T_append_12 rfl (lv_at hl 0 rfl) ?_
    refine lv_if_lt (tgt := 45) hx hb d_T_append_13 (by decide) (fun h => absurd h (by decide)) (fun _ => ?_)
    refine lv_aload_n hx hb d_T_append_16 rfl (lv_at hl 1 rfl) ?_
    refine va_get (ci := 1) (C := "ZipGuard$Tape") (T := F_T) (N := 2) hx hb ht zi_T hown hK hP 0 rfl rfl 0 (by decide) (ht _ zm_96) (fun _ h9 => h9) rfl d_T_append_17 ?_
    refine lv_aload_n hx hb d_T_append_20 rfl (lv_at hl 1 rfl) ?_
    refine va_get (ci := 1) (C := "ZipGuard$Tape") (T := F_T) (N := 2) hx hb ht zi_T hown hK hP 0 rfl rfl 1 (by decide) (ht _ zm_97) (fun _ h9 => h9) rfl d_T_append_21 ?_
    refine lv_iload_n hx hb d_T_append_24 rfl (lv_at hl 2 rfl) ?_
    refine lv_iload_n hx hb d_T_append_25 rfl (lv_at hl 0 rfl) ?_
    refine lv_ishr hx hb d_T_append_26 ?_
    refine lv_i2b hx hb d_T_append_27 rfl ?_
    refine va_bast hx hb hK hP hD hS 1 0 rfl rfl (vp_in_nI (by omega) (by omega)) d_T_append_28 (fun H locs hP hD hS => ?_)
    have hP : va_P D zcl [(qt, .inr (1, [.ref qb, .int (nI (L + 2))])), (qb, .inl (cB, 20000, .inl (upd (upd (upd f (nI L).toNatClampNeg (vp_nar .byte ((x >>> (24 &&& 31)).toInt8.toInt32))) (nI (L + 1)).toNatClampNeg (vp_nar .byte ((x >>> (16 &&& 31)).toInt8.toInt32))) (nI (L + 2)).toNatClampNeg (vp_nar .byte ((x >>> (8 &&& 31)).toInt8.toInt32)))))] H := hP
    have hD : va_D A [(qt, .inr (1, [.ref qb, .int (nI (L + 2))])), (qb, .inl (cB, 20000, .inl (upd (upd (upd f (nI L).toNatClampNeg (vp_nar .byte ((x >>> (24 &&& 31)).toInt8.toInt32))) (nI (L + 1)).toNatClampNeg (vp_nar .byte ((x >>> (16 &&& 31)).toInt8.toInt32))) (nI (L + 2)).toNatClampNeg (vp_nar .byte ((x >>> (8 &&& 31)).toInt8.toInt32)))))] := hD
    refine lv_aload_n hx hb d_T_append_29 rfl (lv_at hl 1 rfl) ?_
    refine lv_dup hx hb d_T_append_30 rfl ?_
    refine va_get (ci := 1) (C := "ZipGuard$Tape") (T := F_T) (N := 2) hx hb ht zi_T hown hK hP 0 rfl rfl 1 (by decide) (ht _ zm_97) (fun _ h9 => h9) rfl d_T_append_31 ?_
    refine lv_iconst (v := 1) hx hb d_T_append_34 (by decide) ?_
    refine lv_iadd hx hb d_T_append_35 ?_
    refine lv_topi (fun x9 e_x9 => ?_)
    have e_x9 : x9 = nI (L + 3) := by rw [e_x9, nI_1]
    subst e_x9
    refine va_put (ci := 1) (v := .int (nI (L + 3))) (ty := .int) (C := "ZipGuard$Tape") (T := F_T) (N := 2) hx hb ht zi_T ty_T tk_T nm_T hown hK hP hD hS 0 rfl rfl 1 (by decide) (ht _ zm_97) (fun _ h9 => h9) rfl (by decide +kernel) rfl rfl (Nat.le_of_ble_eq_true rfl) d_T_append_36 (fun H locs hP hD hS => ?_)
    have hP : va_P D zcl [(qt, .inr (1, [.ref qb, .int (nI (L + 3))])), (qb, .inl (cB, 20000, .inl (upd (upd (upd f (nI L).toNatClampNeg (vp_nar .byte ((x >>> (24 &&& 31)).toInt8.toInt32))) (nI (L + 1)).toNatClampNeg (vp_nar .byte ((x >>> (16 &&& 31)).toInt8.toInt32))) (nI (L + 2)).toNatClampNeg (vp_nar .byte ((x >>> (8 &&& 31)).toInt8.toInt32)))))] H := hP
    have hD : va_D A [(qt, .inr (1, [.ref qb, .int (nI (L + 3))])), (qb, .inl (cB, 20000, .inl (upd (upd (upd f (nI L).toNatClampNeg (vp_nar .byte ((x >>> (24 &&& 31)).toInt8.toInt32))) (nI (L + 1)).toNatClampNeg (vp_nar .byte ((x >>> (16 &&& 31)).toInt8.toInt32))) (nI (L + 2)).toNatClampNeg (vp_nar .byte ((x >>> (8 &&& 31)).toInt8.toInt32)))))] := hD
    refine lv_iinc (k := 0) (v := 0) (lv' := [(2, .int 0), (0, .ref qt), (1, .int x)]) hx hb d_T_append_39 hl rfl (by decide) (by decide) rfl (fun ls hl => ?_)
    refine lv_goto (tgt := 12) hx hb d_T_append_42 (by decide) ?_
    refine lv_iload_n hx hb d_T_append_12 rfl (lv_at hl 0 rfl) ?_
    refine lv_if_lt (tgt := 45) hx hb d_T_append_13 (by decide) (fun h => absurd h (by decide)) (fun _ => ?_)
    refine lv_aload_n hx hb d_T_append_16 rfl (lv_at hl 1 rfl) ?_
    refine va_get (ci := 1) (C := "ZipGuard$Tape") (T := F_T) (N := 2) hx hb ht zi_T hown hK hP 0 rfl rfl 0 (by decide) (ht _ zm_96) (fun _ h9 => h9) rfl d_T_append_17 ?_
    refine lv_aload_n hx hb d_T_append_20 rfl (lv_at hl 1 rfl) ?_
    refine va_get (ci := 1) (C := "ZipGuard$Tape") (T := F_T) (N := 2) hx hb ht zi_T hown hK hP 0 rfl rfl 1 (by decide) (ht _ zm_97) (fun _ h9 => h9) rfl d_T_append_21 ?_
    refine lv_iload_n hx hb d_T_append_24 rfl (lv_at hl 2 rfl) ?_
    refine lv_iload_n hx hb d_T_append_25 rfl (lv_at hl 0 rfl) ?_
    refine lv_ishr hx hb d_T_append_26 ?_
    refine lv_i2b hx hb d_T_append_27 rfl ?_
    refine va_bast hx hb hK hP hD hS 1 0 rfl rfl (vp_in_nI (by omega) (by omega)) d_T_append_28 (fun H locs hP hD hS => ?_)
    have hP : va_P D zcl [(qt, .inr (1, [.ref qb, .int (nI (L + 3))])), (qb, .inl (cB, 20000, .inl (upd (upd (upd (upd f (nI L).toNatClampNeg (vp_nar .byte ((x >>> (24 &&& 31)).toInt8.toInt32))) (nI (L + 1)).toNatClampNeg (vp_nar .byte ((x >>> (16 &&& 31)).toInt8.toInt32))) (nI (L + 2)).toNatClampNeg (vp_nar .byte ((x >>> (8 &&& 31)).toInt8.toInt32))) (nI (L + 3)).toNatClampNeg (vp_nar .byte ((x >>> (0 &&& 31)).toInt8.toInt32)))))] H := hP
    have hD : va_D A [(qt, .inr (1, [.ref qb, .int (nI (L + 3))])), (qb, .inl (cB, 20000, .inl (upd (upd (upd (upd f (nI L).toNatClampNeg (vp_nar .byte ((x >>> (24 &&& 31)).toInt8.toInt32))) (nI (L + 1)).toNatClampNeg (vp_nar .byte ((x >>> (16 &&& 31)).toInt8.toInt32))) (nI (L + 2)).toNatClampNeg (vp_nar .byte ((x >>> (8 &&& 31)).toInt8.toInt32))) (nI (L + 3)).toNatClampNeg (vp_nar .byte ((x >>> (0 &&& 31)).toInt8.toInt32)))))] := hD
    refine lv_aload_n hx hb d_T_append_29 rfl (lv_at hl 1 rfl) ?_
    refine lv_dup hx hb d_T_append_30 rfl ?_
    refine va_get (ci := 1) (C := "ZipGuard$Tape") (T := F_T) (N := 2) hx hb ht zi_T hown hK hP 0 rfl rfl 1 (by decide) (ht _ zm_97) (fun _ h9 => h9) rfl d_T_append_31 ?_
    refine lv_iconst (v := 1) hx hb d_T_append_34 (by decide) ?_
    refine lv_iadd hx hb d_T_append_35 ?_
    refine lv_topi (fun x11 e_x11 => ?_)
    have e_x11 : x11 = nI (L + 4) := by rw [e_x11, nI_1]
    subst e_x11
    refine va_put (ci := 1) (v := .int (nI (L + 4))) (ty := .int) (C := "ZipGuard$Tape") (T := F_T) (N := 2) hx hb ht zi_T ty_T tk_T nm_T hown hK hP hD hS 0 rfl rfl 1 (by decide) (ht _ zm_97) (fun _ h9 => h9) rfl (by decide +kernel) rfl rfl (Nat.le_of_ble_eq_true rfl) d_T_append_36 (fun H locs hP hD hS => ?_)
    have hP : va_P D zcl [(qt, .inr (1, [.ref qb, .int (nI (L + 4))])), (qb, .inl (cB, 20000, .inl (upd (upd (upd (upd f (nI L).toNatClampNeg (vp_nar .byte ((x >>> (24 &&& 31)).toInt8.toInt32))) (nI (L + 1)).toNatClampNeg (vp_nar .byte ((x >>> (16 &&& 31)).toInt8.toInt32))) (nI (L + 2)).toNatClampNeg (vp_nar .byte ((x >>> (8 &&& 31)).toInt8.toInt32))) (nI (L + 3)).toNatClampNeg (vp_nar .byte ((x >>> (0 &&& 31)).toInt8.toInt32)))))] H := hP
    have hD : va_D A [(qt, .inr (1, [.ref qb, .int (nI (L + 4))])), (qb, .inl (cB, 20000, .inl (upd (upd (upd (upd f (nI L).toNatClampNeg (vp_nar .byte ((x >>> (24 &&& 31)).toInt8.toInt32))) (nI (L + 1)).toNatClampNeg (vp_nar .byte ((x >>> (16 &&& 31)).toInt8.toInt32))) (nI (L + 2)).toNatClampNeg (vp_nar .byte ((x >>> (8 &&& 31)).toInt8.toInt32))) (nI (L + 3)).toNatClampNeg (vp_nar .byte ((x >>> (0 &&& 31)).toInt8.toInt32)))))] := hD
    refine lv_iinc (k := 0) (v := (-8)) (lv' := [(2, .int (-8)), (0, .ref qt), (1, .int x)]) hx hb d_T_append_39 hl rfl (by decide) (by decide) rfl (fun ls hl => ?_)
    refine lv_goto (tgt := 12) hx hb d_T_append_42 (by decide) ?_
    refine lv_iload_n hx hb d_T_append_12 rfl (lv_at hl 0 rfl) ?_
    refine lv_if_lt (tgt := 45) hx hb d_T_append_13 (by decide) (fun _ => ?_) (fun h => absurd (by decide) h)
    exact zretv hx hb hr hlk hK hP hD hS (upd (upd (upd (upd f (nI L).toNatClampNeg (vp_nar .byte ((x >>> (24 &&& 31)).toInt8.toInt32))) (nI (L + 1)).toNatClampNeg (vp_nar .byte ((x >>> (16 &&& 31)).toInt8.toInt32))) (nI (L + 2)).toNatClampNeg (vp_nar .byte ((x >>> (8 &&& 31)).toInt8.toInt32))) (nI (L + 3)).toNatClampNeg (vp_nar .byte ((x >>> (0 &&& 31)).toInt8.toInt32))) [0, 1] [0] rfl (by decide) rfl (trivial) (Nat.le_of_ble_eq_true rfl) (Nat.le_of_ble_eq_true rfl) d_T_append_45)
set_option maxHeartbeats 4000000 in
set_option maxRecDepth 100000 in
theorem c_D_shut (l : Launch) (D : va_G) (sz : Nat) (qd : Nat) (qe : Nat) (qt : Nat) (cn : Int32) (op : Int32) (fp : Int32)  : Met l y_D_shut (Cond.code y_D_shut prog_4_method_2_code 1 (Option.none : Option Jvm.ClassFile.FieldType) :: zt) { frames := 0, cells := 0, slots := 0, locals := 0 } (zPc [.ref qd] D [(qd, .inr (2, [.ref qe, .int cn, .int op, .int fp, .ref qt]))] [] sz (fun _ => True)) (va_Qv (fun (_ : Unit) => True) (fun u t => zB D ((fun (_ : Unit) => [(qd, .inr (2, [.ref qe, .int cn, .int 0, .int fp, .ref qt]))]) u) ((fun (_ : Unit) => []) u) (va_A [(qd, .inr (2, [.ref qe, .int cn, .int op, .int fp, .ref qt]))] sz) t) (va_A [(qd, .inr (2, [.ref qe, .int cn, .int op, .int fp, .ref qt]))] sz)) 0 0 (va_A [(qd, .inr (2, [.ref qe, .int cn, .int op, .int fp, .ref qt]))] sz) :=
  zMet (Qf := fun A => va_Qv (fun (_ : Unit) => True) (fun u t => zB D ((fun (_ : Unit) => [(qd, .inr (2, [.ref qe, .int cn, .int 0, .int fp, .ref qt]))]) u) ((fun (_ : Unit) => []) u) A t) A) (by decide) (Nat.le_of_ble_eq_true rfl) (fun p e s m below meth c A ls hx hb hr hml hown ht hlk hnm hA hK hP hD hX hl => by
    have hS : va_S A s.heap s.heap [] := va_S.rf
    have hl : lv_has ls 1 [(0, .ref qd)] := hl
    refine lv_aload_n hx hb d_D_shut_0 rfl (lv_at hl 0 rfl) ?_
    refine lv_iconst (v := 0) hx hb d_D_shut_1 (by decide) ?_
    refine va_put (ci := 2) (v := .int 0) (ty := .boolean) (C := "ZipGuard$Directory") (T := F_D) (N := 5) hx hb ht zi_D ty_D tk_D nm_D hown hK hP hD hS 0 rfl rfl 2 (by decide) (ht _ zm_183) (fun _ h9 => h9) rfl (by decide +kernel) rfl rfl (Nat.le_of_ble_eq_true rfl) d_D_shut_2 (fun H locs hP hD hS => ?_)
    have hP : va_P D zcl [(qd, .inr (2, [.ref qe, .int cn, .int 0, .int fp, .ref qt]))] H := hP
    have hD : va_D A [(qd, .inr (2, [.ref qe, .int cn, .int 0, .int fp, .ref qt]))] := hD
    exact zretv hx hb hr hlk hK hP hD hS () [0] [] rfl (by decide) rfl (trivial) (Nat.le_of_ble_eq_true rfl) (Nat.le_of_ble_eq_true rfl) d_D_shut_5)
set_option maxHeartbeats 4000000 in
set_option maxRecDepth 100000 in
theorem c_A_clear (l : Launch) (D : va_G) (sz : Nat) (qa : Nat) (qo : Nat) (bu : Int32) (ra : Int32) (to : Int32) (rs : Int32)  : Met l y_A_clear (Cond.code y_A_clear prog_7_method_2_code 1 (Option.none : Option Jvm.ClassFile.FieldType) :: zt) { frames := 0, cells := 0, slots := 0, locals := 0 } (zPc [.ref qa] D [(qa, .inr (3, [.int bu, .int ra, .int to, .ref qo, .int rs]))] [] sz (fun _ => True)) (va_Qv (fun (_ : Unit) => True) (fun u t => zB D ((fun (_ : Unit) => [(qa, .inr (3, [.int bu, .int ra, .int 0, .ref qo, .int rs]))]) u) ((fun (_ : Unit) => []) u) (va_A [(qa, .inr (3, [.int bu, .int ra, .int to, .ref qo, .int rs]))] sz) t) (va_A [(qa, .inr (3, [.int bu, .int ra, .int to, .ref qo, .int rs]))] sz)) 0 0 (va_A [(qa, .inr (3, [.int bu, .int ra, .int to, .ref qo, .int rs]))] sz) :=
  zMet (Qf := fun A => va_Qv (fun (_ : Unit) => True) (fun u t => zB D ((fun (_ : Unit) => [(qa, .inr (3, [.int bu, .int ra, .int 0, .ref qo, .int rs]))]) u) ((fun (_ : Unit) => []) u) A t) A) (by decide) (Nat.le_of_ble_eq_true rfl) (fun p e s m below meth c A ls hx hb hr hml hown ht hlk hnm hA hK hP hD hX hl => by
    have hS : va_S A s.heap s.heap [] := va_S.rf
    have hl : lv_has ls 1 [(0, .ref qa)] := hl
    refine lv_aload_n hx hb d_A_clear_0 rfl (lv_at hl 0 rfl) ?_
    refine lv_iconst (v := 0) hx hb d_A_clear_1 (by decide) ?_
    refine va_put (ci := 3) (v := .int 0) (ty := .int) (C := "ZipGuard$Target") (T := F_A) (N := 5) hx hb ht zi_A ty_A tk_A nm_A hown hK hP hD hS 0 rfl rfl 2 (by decide) (ht _ zm_210) (fun _ h9 => h9) rfl (by decide +kernel) rfl rfl (Nat.le_of_ble_eq_true rfl) d_A_clear_2 (fun H locs hP hD hS => ?_)
    have hP : va_P D zcl [(qa, .inr (3, [.int bu, .int ra, .int 0, .ref qo, .int rs]))] H := hP
    have hD : va_D A [(qa, .inr (3, [.int bu, .int ra, .int 0, .ref qo, .int rs]))] := hD
    exact zretv hx hb hr hlk hK hP hD hS () [0] [] rfl (by decide) rfl (trivial) (Nat.le_of_ble_eq_true rfl) (Nat.le_of_ble_eq_true rfl) d_A_clear_5)
set_option maxHeartbeats 4000000 in
set_option maxRecDepth 100000 in
theorem c_G_feed (l : Launch) (D : va_G) (sz : Nat) (h0 : Nat) (qt : Nat) (qd : Nat) (qa : Nat) (qu : Nat) (qb : Nat) (qe : Nat) (cB : ClassId) (f : Nat → Int32) (L : Nat) (cn : Int32) (op : Int32) (fp : Int32) (x1 : Int32) (x2 : Int32) (x3 : Int32) (x4 : Int32) (x5 : Int32) (h : L + 20 ≤ 20000) : Met l y_G_feed (Cond.code y_G_feed prog_1_method_2_code 6 (Option.some Jvm.ClassFile.FieldType.int) :: zt) { frames := 2, cells := 0, slots := 0, locals := 43 } (zPc [.ref h0, .int x1, .int x2, .int x3, .int x4, .int x5] D [(h0, .inr (0, [.ref qt, .ref qd, .ref qa, .ref qu])), (qt, .inr (1, [.ref qb, .int (nI L)])), (qb, .inl (cB, 20000, .inl f)), (qd, .inr (2, [.ref qe, .int cn, .int op, .int fp, .ref qt]))] [(cB, .byte)] sz (fun _ => True)) (va_Qi (fun (r : Int32) => fun (u : Nat → Int32) => match u with | g => r = nI (L + 20)) (fun u t => zB D ((fun (u : Nat → Int32) => match u with | g => [(h0, .inr (0, [.ref qt, .ref qd, .ref qa, .ref qu])), (qt, .inr (1, [.ref qb, .int (nI (L + 20))])), (qb, .inl (cB, 20000, .inl g)), (qd, .inr (2, [.ref qe, .int cn, .int 0, .int fp, .ref qt]))]) u) ((fun (u : Nat → Int32) => match u with | g => [(cB, .byte)]) u) (va_A [(h0, .inr (0, [.ref qt, .ref qd, .ref qa, .ref qu])), (qt, .inr (1, [.ref qb, .int (nI L)])), (qb, .inl (cB, 20000, .inl f)), (qd, .inr (2, [.ref qe, .int cn, .int op, .int fp, .ref qt]))] sz) t) (va_A [(h0, .inr (0, [.ref qt, .ref qd, .ref qa, .ref qu])), (qt, .inr (1, [.ref qb, .int (nI L)])), (qb, .inl (cB, 20000, .inl f)), (qd, .inr (2, [.ref qe, .int cn, .int op, .int fp, .ref qt]))] sz)) 0 0 (va_A [(h0, .inr (0, [.ref qt, .ref qd, .ref qa, .ref qu])), (qt, .inr (1, [.ref qb, .int (nI L)])), (qb, .inl (cB, 20000, .inl f)), (qd, .inr (2, [.ref qe, .int cn, .int op, .int fp, .ref qt]))] sz) :=
  zMet (Qf := fun A => va_Qi (fun (r : Int32) => fun (u : Nat → Int32) => match u with | g => r = nI (L + 20)) (fun u t => zB D ((fun (u : Nat → Int32) => match u with | g => [(h0, .inr (0, [.ref qt, .ref qd, .ref qa, .ref qu])), (qt, .inr (1, [.ref qb, .int (nI (L + 20))])), (qb, .inl (cB, 20000, .inl g)), (qd, .inr (2, [.ref qe, .int cn, .int 0, .int fp, .ref qt]))]) u) ((fun (u : Nat → Int32) => match u with | g => [(cB, .byte)]) u) A t) A) (by decide) (Nat.le_of_ble_eq_true rfl) (fun p e s m below meth c A ls hx hb hr hml hown ht hlk hnm hA hK hP hD hX hl => by
    have hS : va_S A s.heap s.heap [] := va_S.rf
    have hl : lv_has ls 6 [(0, .ref h0), (1, .int x1), (2, .int x2), (3, .int x3), (4, .int x4), (5, .int x5)] := hl
    refine lv_aload_n hx hb d_G_feed_0 rfl (lv_at hl 0 rfl) ?_
    refine va_get (ci := 0) (C := "ZipGuard") (T := F_G) (N := 4) hx hb ht zi_G hown hK hP 0 rfl rfl 0 (by decide) (ht _ zm_395) (fun _ h9 => h9) rfl d_G_feed_1 ?_
    refine lv_bipush (v := 20) hx hb d_G_feed_4 (by decide) ?_
    refine zji (wr := [(h0, .inr (0, [.ref qt, .ref qd, .ref qa, .ref qu])), (qd, .inr (2, [.ref qe, .int cn, .int op, .int fp, .ref qt]))]) (va_runV (As := [.int 20]) (rest := []) ⟨hx, hb, hml, hown, ht⟩ (c_T_room l D _ qt qb cB f L 20 h) (cwV 1 ht (zt_goodV zm_520 zm_521 zm_522 zm_66 zm_523) rfl rfl rfl (by decide +kernel) ⟨Nat.le_of_ble_eq_true rfl, Nat.le_of_ble_eq_true rfl⟩) (zpreV zBlind_t hK hP hD [1, 2] [0] rfl (by decide) rfl (fun _ _ _ => trivial) (va_recv (q := ("ZipGuard$Tape", F_T, 2)) hK hP rfl (q0 := 1) (ci := 1) rfl)) rfl rfl hl.1 rfl (lv_room (Nat.le_of_ble_eq_true rfl)) d_G_feed_6 ⟨Nat.le_of_ble_eq_true rfl, Nat.le_of_ble_eq_true rfl⟩) hK hP hD hS hA [1, 2] [0, 3] rfl rfl (by decide) (by decide) (fun r1 u H locs hp2 hP hD hK hS => ?_)
    have hP : va_P D zcl [(h0, .inr (0, [.ref qt, .ref qd, .ref qa, .ref qu])), (qd, .inr (2, [.ref qe, .int cn, .int op, .int fp, .ref qt])), (qt, .inr (1, [.ref qb, .int (nI L)])), (qb, .inl (cB, 20000, .inl f))] H := hP
    have hD : va_D A [(h0, .inr (0, [.ref qt, .ref qd, .ref qa, .ref qu])), (qd, .inr (2, [.ref qe, .int cn, .int op, .int fp, .ref qt])), (qt, .inr (1, [.ref qb, .int (nI L)])), (qb, .inl (cB, 20000, .inl f))] := hD
    have hK : va_K D zcl [(cB, .byte), (cB, .byte)] s := hK
    subst hp2
    have hP := hP.sub (ws' := [(h0, .inr (0, [.ref qt, .ref qd, .ref qa, .ref qu])), (qt, .inr (1, [.ref qb, .int (nI L)])), (qb, .inl (cB, 20000, .inl f)), (qd, .inr (2, [.ref qe, .int cn, .int op, .int fp, .ref qt]))]) [0, 2, 3, 1] rfl
    have hD := hD.sub (ws' := [(h0, .inr (0, [.ref qt, .ref qd, .ref qa, .ref qu])), (qt, .inr (1, [.ref qb, .int (nI L)])), (qb, .inl (cB, 20000, .inl f)), (qd, .inr (2, [.ref qe, .int cn, .int op, .int fp, .ref qt]))]) [0, 2, 3, 1] (by decide) rfl
    have hK := hK.sub (tys' := [(cB, .byte)]) [0] rfl
    refine lv_if_ne (tgt := 20) hx hb d_G_feed_9 (by decide) (fun _ => ?_) (fun h => absurd h (by decide))
    refine lv_aload_n hx hb d_G_feed_20 rfl (lv_at hl 0 rfl) ?_
    refine va_get (ci := 0) (C := "ZipGuard") (T := F_G) (N := 4) hx hb ht zi_G hown hK hP 0 rfl rfl 1 (by decide) (ht _ zm_396) (fun _ h9 => h9) rfl d_G_feed_21 ?_
    refine zjv (wr := [(h0, .inr (0, [.ref qt, .ref qd, .ref qa, .ref qu])), (qt, .inr (1, [.ref qb, .int (nI L)])), (qb, .inl (cB, 20000, .inl f))]) (va_runV (As := []) (rest := []) ⟨hx, hb, hml, hown, ht⟩ (c_D_shut l D _ qd qe qt cn op fp ) (cwV 0 ht (zt_goodV zm_544 zm_545 zm_546 zm_67 zm_547) rfl rfl rfl (by decide +kernel) ⟨Nat.le_of_ble_eq_true rfl, Nat.le_of_ble_eq_true rfl⟩) (zpreV zBlind_t hK hP hD [3] [] rfl (by decide) rfl (fun _ _ _ => trivial) (va_recv (q := ("ZipGuard$Directory", F_D, 5)) hK hP rfl (q0 := 3) (ci := 2) rfl)) rfl rfl hl.1 rfl (lv_room (Nat.le_of_ble_eq_true rfl)) d_G_feed_24 ⟨Nat.le_of_ble_eq_true rfl, Nat.le_of_ble_eq_true rfl⟩) hK hP hD hS hA [3] [0, 1, 2] rfl rfl (by decide) (by decide) (fun u H locs hp5 hP hD hK hS => ?_)
    have hP : va_P D zcl [(h0, .inr (0, [.ref qt, .ref qd, .ref qa, .ref qu])), (qt, .inr (1, [.ref qb, .int (nI L)])), (qb, .inl (cB, 20000, .inl f)), (qd, .inr (2, [.ref qe, .int cn, .int 0, .int fp, .ref qt]))] H := hP
    have hD : va_D A [(h0, .inr (0, [.ref qt, .ref qd, .ref qa, .ref qu])), (qt, .inr (1, [.ref qb, .int (nI L)])), (qb, .inl (cB, 20000, .inl f)), (qd, .inr (2, [.ref qe, .int cn, .int 0, .int fp, .ref qt]))] := hD
    have hK : va_K D zcl [(cB, .byte)] s := hK
    refine lv_aload_n hx hb d_G_feed_27 rfl (lv_at hl 0 rfl) ?_
    refine va_get (ci := 0) (C := "ZipGuard") (T := F_G) (N := 4) hx hb ht zi_G hown hK hP 0 rfl rfl 0 (by decide) (ht _ zm_395) (fun _ h9 => h9) rfl d_G_feed_28 ?_
    refine lv_iload_n hx hb d_G_feed_31 rfl (lv_at hl 1 rfl) ?_
    refine zjv (wr := [(h0, .inr (0, [.ref qt, .ref qd, .ref qa, .ref qu])), (qd, .inr (2, [.ref qe, .int cn, .int 0, .int fp, .ref qt]))]) (va_runV (As := [.int x1]) (rest := []) ⟨hx, hb, hml, hown, ht⟩ (c_T_app l D _ qt qb cB f L x1 (by omega)) (cwV 1 ht (zt_goodV zm_548 zm_549 zm_550 zm_66 zm_551) rfl rfl rfl (by decide +kernel) ⟨Nat.le_of_ble_eq_true rfl, Nat.le_of_ble_eq_true rfl⟩) (zpreV zBlind_t hK hP hD [1, 2] [0] rfl (by decide) rfl (fun _ _ _ => trivial) (va_recv (q := ("ZipGuard$Tape", F_T, 2)) hK hP rfl (q0 := 1) (ci := 1) rfl)) rfl rfl hl.1 rfl (lv_room (Nat.le_of_ble_eq_true rfl)) d_G_feed_32 ⟨Nat.le_of_ble_eq_true rfl, Nat.le_of_ble_eq_true rfl⟩) hK hP hD hS hA [1, 2] [0, 3] rfl rfl (by decide) (by decide) (fun u H locs hp8 hP hD hK hS => ?_)
    obtain ⟨g6, rfl⟩ : ∃ z, z = u := ⟨u, rfl⟩
    dsimp only at hp8 hP hD hK
    have hP : va_P D zcl [(h0, .inr (0, [.ref qt, .ref qd, .ref qa, .ref qu])), (qd, .inr (2, [.ref qe, .int cn, .int 0, .int fp, .ref qt])), (qt, .inr (1, [.ref qb, .int (nI (L + 4))])), (qb, .inl (cB, 20000, .inl g6))] H := hP
    have hD : va_D A [(h0, .inr (0, [.ref qt, .ref qd, .ref qa, .ref qu])), (qd, .inr (2, [.ref qe, .int cn, .int 0, .int fp, .ref qt])), (qt, .inr (1, [.ref qb, .int (nI (L + 4))])), (qb, .inl (cB, 20000, .inl g6))] := hD
    have hK : va_K D zcl [(cB, .byte), (cB, .byte)] s := hK
    have hP := hP.sub (ws' := [(h0, .inr (0, [.ref qt, .ref qd, .ref qa, .ref qu])), (qt, .inr (1, [.ref qb, .int (nI (L + 4))])), (qb, .inl (cB, 20000, .inl g6)), (qd, .inr (2, [.ref qe, .int cn, .int 0, .int fp, .ref qt]))]) [0, 2, 3, 1] rfl
    have hD := hD.sub (ws' := [(h0, .inr (0, [.ref qt, .ref qd, .ref qa, .ref qu])), (qt, .inr (1, [.ref qb, .int (nI (L + 4))])), (qb, .inl (cB, 20000, .inl g6)), (qd, .inr (2, [.ref qe, .int cn, .int 0, .int fp, .ref qt]))]) [0, 2, 3, 1] (by decide) rfl
    have hK := hK.sub (tys' := [(cB, .byte)]) [0] rfl
    refine lv_aload_n hx hb d_G_feed_35 rfl (lv_at hl 0 rfl) ?_
    refine va_get (ci := 0) (C := "ZipGuard") (T := F_G) (N := 4) hx hb ht zi_G hown hK hP 0 rfl rfl 0 (by decide) (ht _ zm_395) (fun _ h9 => h9) rfl d_G_feed_36 ?_
    refine lv_iload_n hx hb d_G_feed_39 rfl (lv_at hl 2 rfl) ?_
    refine zjv (wr := [(h0, .inr (0, [.ref qt, .ref qd, .ref qa, .ref qu])), (qd, .inr (2, [.ref qe, .int cn, .int 0, .int fp, .ref qt]))]) (va_runV (As := [.int x2]) (rest := []) ⟨hx, hb, hml, hown, ht⟩ (c_T_app l D _ qt qb cB g6 (L + 4) x2 (by omega)) (cwV 1 ht (zt_goodV zm_548 zm_549 zm_550 zm_66 zm_551) rfl rfl rfl (by decide +kernel) ⟨Nat.le_of_ble_eq_true rfl, Nat.le_of_ble_eq_true rfl⟩) (zpreV zBlind_t hK hP hD [1, 2] [0] rfl (by decide) rfl (fun _ _ _ => trivial) (va_recv (q := ("ZipGuard$Tape", F_T, 2)) hK hP rfl (q0 := 1) (ci := 1) rfl)) rfl rfl hl.1 rfl (lv_room (Nat.le_of_ble_eq_true rfl)) d_G_feed_40 ⟨Nat.le_of_ble_eq_true rfl, Nat.le_of_ble_eq_true rfl⟩) hK hP hD hS hA [1, 2] [0, 3] rfl rfl (by decide) (by decide) (fun u H locs hp11 hP hD hK hS => ?_)
    obtain ⟨g9, rfl⟩ : ∃ z, z = u := ⟨u, rfl⟩
    dsimp only at hp11 hP hD hK
    have hP : va_P D zcl [(h0, .inr (0, [.ref qt, .ref qd, .ref qa, .ref qu])), (qd, .inr (2, [.ref qe, .int cn, .int 0, .int fp, .ref qt])), (qt, .inr (1, [.ref qb, .int (nI ((L + 4) + 4))])), (qb, .inl (cB, 20000, .inl g9))] H := hP
    have hD : va_D A [(h0, .inr (0, [.ref qt, .ref qd, .ref qa, .ref qu])), (qd, .inr (2, [.ref qe, .int cn, .int 0, .int fp, .ref qt])), (qt, .inr (1, [.ref qb, .int (nI ((L + 4) + 4))])), (qb, .inl (cB, 20000, .inl g9))] := hD
    have hK : va_K D zcl [(cB, .byte), (cB, .byte)] s := hK
    have hP := hP.sub (ws' := [(h0, .inr (0, [.ref qt, .ref qd, .ref qa, .ref qu])), (qt, .inr (1, [.ref qb, .int (nI (L + 8))])), (qb, .inl (cB, 20000, .inl g9)), (qd, .inr (2, [.ref qe, .int cn, .int 0, .int fp, .ref qt]))]) [0, 2, 3, 1] rfl
    have hD := hD.sub (ws' := [(h0, .inr (0, [.ref qt, .ref qd, .ref qa, .ref qu])), (qt, .inr (1, [.ref qb, .int (nI (L + 8))])), (qb, .inl (cB, 20000, .inl g9)), (qd, .inr (2, [.ref qe, .int cn, .int 0, .int fp, .ref qt]))]) [0, 2, 3, 1] (by decide) rfl
    have hK := hK.sub (tys' := [(cB, .byte)]) [0] rfl
    refine lv_aload_n hx hb d_G_feed_43 rfl (lv_at hl 0 rfl) ?_
    refine va_get (ci := 0) (C := "ZipGuard") (T := F_G) (N := 4) hx hb ht zi_G hown hK hP 0 rfl rfl 0 (by decide) (ht _ zm_395) (fun _ h9 => h9) rfl d_G_feed_44 ?_
    refine lv_iload_n hx hb d_G_feed_47 rfl (lv_at hl 3 rfl) ?_
    refine zjv (wr := [(h0, .inr (0, [.ref qt, .ref qd, .ref qa, .ref qu])), (qd, .inr (2, [.ref qe, .int cn, .int 0, .int fp, .ref qt]))]) (va_runV (As := [.int x3]) (rest := []) ⟨hx, hb, hml, hown, ht⟩ (c_T_app l D _ qt qb cB g9 (L + 8) x3 (by omega)) (cwV 1 ht (zt_goodV zm_548 zm_549 zm_550 zm_66 zm_551) rfl rfl rfl (by decide +kernel) ⟨Nat.le_of_ble_eq_true rfl, Nat.le_of_ble_eq_true rfl⟩) (zpreV zBlind_t hK hP hD [1, 2] [0] rfl (by decide) rfl (fun _ _ _ => trivial) (va_recv (q := ("ZipGuard$Tape", F_T, 2)) hK hP rfl (q0 := 1) (ci := 1) rfl)) rfl rfl hl.1 rfl (lv_room (Nat.le_of_ble_eq_true rfl)) d_G_feed_48 ⟨Nat.le_of_ble_eq_true rfl, Nat.le_of_ble_eq_true rfl⟩) hK hP hD hS hA [1, 2] [0, 3] rfl rfl (by decide) (by decide) (fun u H locs hp14 hP hD hK hS => ?_)
    obtain ⟨g12, rfl⟩ : ∃ z, z = u := ⟨u, rfl⟩
    dsimp only at hp14 hP hD hK
    have hP : va_P D zcl [(h0, .inr (0, [.ref qt, .ref qd, .ref qa, .ref qu])), (qd, .inr (2, [.ref qe, .int cn, .int 0, .int fp, .ref qt])), (qt, .inr (1, [.ref qb, .int (nI ((L + 8) + 4))])), (qb, .inl (cB, 20000, .inl g12))] H := hP
    have hD : va_D A [(h0, .inr (0, [.ref qt, .ref qd, .ref qa, .ref qu])), (qd, .inr (2, [.ref qe, .int cn, .int 0, .int fp, .ref qt])), (qt, .inr (1, [.ref qb, .int (nI ((L + 8) + 4))])), (qb, .inl (cB, 20000, .inl g12))] := hD
    have hK : va_K D zcl [(cB, .byte), (cB, .byte)] s := hK
    have hP := hP.sub (ws' := [(h0, .inr (0, [.ref qt, .ref qd, .ref qa, .ref qu])), (qt, .inr (1, [.ref qb, .int (nI (L + 12))])), (qb, .inl (cB, 20000, .inl g12)), (qd, .inr (2, [.ref qe, .int cn, .int 0, .int fp, .ref qt]))]) [0, 2, 3, 1] rfl
    have hD := hD.sub (ws' := [(h0, .inr (0, [.ref qt, .ref qd, .ref qa, .ref qu])), (qt, .inr (1, [.ref qb, .int (nI (L + 12))])), (qb, .inl (cB, 20000, .inl g12)), (qd, .inr (2, [.ref qe, .int cn, .int 0, .int fp, .ref qt]))]) [0, 2, 3, 1] (by decide) rfl
    have hK := hK.sub (tys' := [(cB, .byte)]) [0] rfl
    refine lv_aload_n hx hb d_G_feed_51 rfl (lv_at hl 0 rfl) ?_
    refine va_get (ci := 0) (C := "ZipGuard") (T := F_G) (N := 4) hx hb ht zi_G hown hK hP 0 rfl rfl 0 (by decide) (ht _ zm_395) (fun _ h9 => h9) rfl d_G_feed_52 ?_
    refine lv_iload hx hb d_G_feed_55 (lv_at hl 4 rfl) ?_
    refine zjv (wr := [(h0, .inr (0, [.ref qt, .ref qd, .ref qa, .ref qu])), (qd, .inr (2, [.ref qe, .int cn, .int 0, .int fp, .ref qt]))]) (va_runV (As := [.int x4]) (rest := []) ⟨hx, hb, hml, hown, ht⟩ (c_T_app l D _ qt qb cB g12 (L + 12) x4 (by omega)) (cwV 1 ht (zt_goodV zm_548 zm_549 zm_550 zm_66 zm_551) rfl rfl rfl (by decide +kernel) ⟨Nat.le_of_ble_eq_true rfl, Nat.le_of_ble_eq_true rfl⟩) (zpreV zBlind_t hK hP hD [1, 2] [0] rfl (by decide) rfl (fun _ _ _ => trivial) (va_recv (q := ("ZipGuard$Tape", F_T, 2)) hK hP rfl (q0 := 1) (ci := 1) rfl)) rfl rfl hl.1 rfl (lv_room (Nat.le_of_ble_eq_true rfl)) d_G_feed_57 ⟨Nat.le_of_ble_eq_true rfl, Nat.le_of_ble_eq_true rfl⟩) hK hP hD hS hA [1, 2] [0, 3] rfl rfl (by decide) (by decide) (fun u H locs hp17 hP hD hK hS => ?_)
    obtain ⟨g15, rfl⟩ : ∃ z, z = u := ⟨u, rfl⟩
    dsimp only at hp17 hP hD hK
    have hP : va_P D zcl [(h0, .inr (0, [.ref qt, .ref qd, .ref qa, .ref qu])), (qd, .inr (2, [.ref qe, .int cn, .int 0, .int fp, .ref qt])), (qt, .inr (1, [.ref qb, .int (nI ((L + 12) + 4))])), (qb, .inl (cB, 20000, .inl g15))] H := hP
    have hD : va_D A [(h0, .inr (0, [.ref qt, .ref qd, .ref qa, .ref qu])), (qd, .inr (2, [.ref qe, .int cn, .int 0, .int fp, .ref qt])), (qt, .inr (1, [.ref qb, .int (nI ((L + 12) + 4))])), (qb, .inl (cB, 20000, .inl g15))] := hD
    have hK : va_K D zcl [(cB, .byte), (cB, .byte)] s := hK
    have hP := hP.sub (ws' := [(h0, .inr (0, [.ref qt, .ref qd, .ref qa, .ref qu])), (qt, .inr (1, [.ref qb, .int (nI (L + 16))])), (qb, .inl (cB, 20000, .inl g15)), (qd, .inr (2, [.ref qe, .int cn, .int 0, .int fp, .ref qt]))]) [0, 2, 3, 1] rfl
    have hD := hD.sub (ws' := [(h0, .inr (0, [.ref qt, .ref qd, .ref qa, .ref qu])), (qt, .inr (1, [.ref qb, .int (nI (L + 16))])), (qb, .inl (cB, 20000, .inl g15)), (qd, .inr (2, [.ref qe, .int cn, .int 0, .int fp, .ref qt]))]) [0, 2, 3, 1] (by decide) rfl
    have hK := hK.sub (tys' := [(cB, .byte)]) [0] rfl
    refine lv_aload_n hx hb d_G_feed_60 rfl (lv_at hl 0 rfl) ?_
    refine va_get (ci := 0) (C := "ZipGuard") (T := F_G) (N := 4) hx hb ht zi_G hown hK hP 0 rfl rfl 0 (by decide) (ht _ zm_395) (fun _ h9 => h9) rfl d_G_feed_61 ?_
    refine lv_iload hx hb d_G_feed_64 (lv_at hl 5 rfl) ?_
    refine zjv (wr := [(h0, .inr (0, [.ref qt, .ref qd, .ref qa, .ref qu])), (qd, .inr (2, [.ref qe, .int cn, .int 0, .int fp, .ref qt]))]) (va_runV (As := [.int x5]) (rest := []) ⟨hx, hb, hml, hown, ht⟩ (c_T_app l D _ qt qb cB g15 (L + 16) x5 (by omega)) (cwV 1 ht (zt_goodV zm_548 zm_549 zm_550 zm_66 zm_551) rfl rfl rfl (by decide +kernel) ⟨Nat.le_of_ble_eq_true rfl, Nat.le_of_ble_eq_true rfl⟩) (zpreV zBlind_t hK hP hD [1, 2] [0] rfl (by decide) rfl (fun _ _ _ => trivial) (va_recv (q := ("ZipGuard$Tape", F_T, 2)) hK hP rfl (q0 := 1) (ci := 1) rfl)) rfl rfl hl.1 rfl (lv_room (Nat.le_of_ble_eq_true rfl)) d_G_feed_66 ⟨Nat.le_of_ble_eq_true rfl, Nat.le_of_ble_eq_true rfl⟩) hK hP hD hS hA [1, 2] [0, 3] rfl rfl (by decide) (by decide) (fun u H locs hp20 hP hD hK hS => ?_)
    obtain ⟨g18, rfl⟩ : ∃ z, z = u := ⟨u, rfl⟩
    dsimp only at hp20 hP hD hK
    have hP : va_P D zcl [(h0, .inr (0, [.ref qt, .ref qd, .ref qa, .ref qu])), (qd, .inr (2, [.ref qe, .int cn, .int 0, .int fp, .ref qt])), (qt, .inr (1, [.ref qb, .int (nI ((L + 16) + 4))])), (qb, .inl (cB, 20000, .inl g18))] H := hP
    have hD : va_D A [(h0, .inr (0, [.ref qt, .ref qd, .ref qa, .ref qu])), (qd, .inr (2, [.ref qe, .int cn, .int 0, .int fp, .ref qt])), (qt, .inr (1, [.ref qb, .int (nI ((L + 16) + 4))])), (qb, .inl (cB, 20000, .inl g18))] := hD
    have hK : va_K D zcl [(cB, .byte), (cB, .byte)] s := hK
    have hP := hP.sub (ws' := [(h0, .inr (0, [.ref qt, .ref qd, .ref qa, .ref qu])), (qt, .inr (1, [.ref qb, .int (nI (L + 20))])), (qb, .inl (cB, 20000, .inl g18)), (qd, .inr (2, [.ref qe, .int cn, .int 0, .int fp, .ref qt]))]) [0, 2, 3, 1] rfl
    have hD := hD.sub (ws' := [(h0, .inr (0, [.ref qt, .ref qd, .ref qa, .ref qu])), (qt, .inr (1, [.ref qb, .int (nI (L + 20))])), (qb, .inl (cB, 20000, .inl g18)), (qd, .inr (2, [.ref qe, .int cn, .int 0, .int fp, .ref qt]))]) [0, 2, 3, 1] (by decide) rfl
    have hK := hK.sub (tys' := [(cB, .byte)]) [0] rfl
    refine lv_aload_n hx hb d_G_feed_69 rfl (lv_at hl 0 rfl) ?_
    refine va_get (ci := 0) (C := "ZipGuard") (T := F_G) (N := 4) hx hb ht zi_G hown hK hP 0 rfl rfl 0 (by decide) (ht _ zm_395) (fun _ h9 => h9) rfl d_G_feed_70 ?_
    refine va_get (ci := 1) (C := "ZipGuard$Tape") (T := F_T) (N := 2) hx hb ht zi_T hown hK hP 1 rfl rfl 1 (by decide) (ht _ zm_98) (fun _ h9 => h9) rfl d_G_feed_73 ?_
    exact zreti hx hb hr hlk hK hP hD hS g18 [0, 1, 2, 3] [0] rfl (by decide) rfl (rfl) (Nat.le_of_ble_eq_true rfl) (Nat.le_of_ble_eq_true rfl) d_G_feed_76)
set_option maxHeartbeats 4000000 in
set_option maxRecDepth 100000 in
theorem c_T_keep (l : Launch) (D : va_G) (sz : Nat) (qt : Nat) (qb : Nat) (n0 : Int32) (n : Int32) (h0 : ¬ n < 0) (h1 : n ≤ n0) : Met l y_T_keepFirst (Cond.code y_T_keepFirst prog_6_method_4_code 2 (Option.none : Option Jvm.ClassFile.FieldType) :: zt) { frames := 0, cells := 0, slots := 0, locals := 0 } (zPc [.ref qt, .int n] D [(qt, .inr (1, [.ref qb, .int n0]))] [] sz (fun _ => True)) (va_Qv (fun (_ : Unit) => True) (fun u t => zB D ((fun (_ : Unit) => [(qt, .inr (1, [.ref qb, .int n]))]) u) ((fun (_ : Unit) => []) u) (va_A [(qt, .inr (1, [.ref qb, .int n0]))] sz) t) (va_A [(qt, .inr (1, [.ref qb, .int n0]))] sz)) 0 0 (va_A [(qt, .inr (1, [.ref qb, .int n0]))] sz) :=
  zMet (Qf := fun A => va_Qv (fun (_ : Unit) => True) (fun u t => zB D ((fun (_ : Unit) => [(qt, .inr (1, [.ref qb, .int n]))]) u) ((fun (_ : Unit) => []) u) A t) A) (by decide) (Nat.le_of_ble_eq_true rfl) (fun p e s m below meth c A ls hx hb hr hml hown ht hlk hnm hA hK hP hD hX hl => by
    have hS : va_S A s.heap s.heap [] := va_S.rf
    have hl : lv_has ls 2 [(0, .ref qt), (1, .int n)] := hl
    refine lv_iload_n hx hb d_T_keepFirst_0 rfl (lv_at hl 1 rfl) ?_
    refine lv_if_lt (tgt := 17) hx hb d_T_keepFirst_1 (by decide) (fun h => absurd h (h0)) (fun _ => ?_)
    refine lv_iload_n hx hb d_T_keepFirst_4 rfl (lv_at hl 1 rfl) ?_
    refine lv_aload_n hx hb d_T_keepFirst_5 rfl (lv_at hl 0 rfl) ?_
    refine va_get (ci := 1) (C := "ZipGuard$Tape") (T := F_T) (N := 2) hx hb ht zi_T hown hK hP 0 rfl rfl 1 (by decide) (ht _ zm_97) (fun _ h9 => h9) rfl d_T_keepFirst_6 ?_
    refine lv_icmp_gt (tgt := 17) hx hb d_T_keepFirst_9 (by decide) (fun h => absurd h (Int32.not_lt.mpr h1)) (fun _ => ?_)
    refine lv_aload_n hx hb d_T_keepFirst_12 rfl (lv_at hl 0 rfl) ?_
    refine lv_iload_n hx hb d_T_keepFirst_13 rfl (lv_at hl 1 rfl) ?_
    refine va_put (ci := 1) (v := .int n) (ty := .int) (C := "ZipGuard$Tape") (T := F_T) (N := 2) hx hb ht zi_T ty_T tk_T nm_T hown hK hP hD hS 0 rfl rfl 1 (by decide) (ht _ zm_97) (fun _ h9 => h9) rfl (by decide +kernel) rfl rfl (Nat.le_of_ble_eq_true rfl) d_T_keepFirst_14 (fun H locs hP hD hS => ?_)
    have hP : va_P D zcl [(qt, .inr (1, [.ref qb, .int n]))] H := hP
    have hD : va_D A [(qt, .inr (1, [.ref qb, .int n]))] := hD
    exact zretv hx hb hr hlk hK hP hD hS () [0] [] rfl (by decide) rfl (trivial) (Nat.le_of_ble_eq_true rfl) (Nat.le_of_ble_eq_true rfl) d_T_keepFirst_17)
set_option maxHeartbeats 4000000 in
set_option maxRecDepth 100000 in
theorem c_G_end (l : Launch) (D : va_G) (sz : Nat) (h0 : Nat) (qt : Nat) (qd : Nat) (qa : Nat) (qu : Nat) (qb : Nat) (qe : Nat) (n0 : Int32) (cn : Int32) (op : Int32) (fp : Int32) (n : Int32) (ha : ¬ n < 0) (hb1 : n ≤ n0) : Met l y_G_end (Cond.code y_G_end prog_1_method_3_code 2 (Option.none : Option Jvm.ClassFile.FieldType) :: zt) { frames := 1, cells := 0, slots := 0, locals := 21 } (zPc [.ref h0, .int n] D [(h0, .inr (0, [.ref qt, .ref qd, .ref qa, .ref qu])), (qt, .inr (1, [.ref qb, .int n0])), (qd, .inr (2, [.ref qe, .int cn, .int op, .int fp, .ref qt]))] [] sz (fun _ => True)) (va_Qv (fun (_ : Unit) => True) (fun u t => zB D ((fun (_ : Unit) => [(h0, .inr (0, [.ref qt, .ref qd, .ref qa, .ref qu])), (qt, .inr (1, [.ref qb, .int n])), (qd, .inr (2, [.ref qe, .int cn, .int 0, .int fp, .ref qt]))]) u) ((fun (_ : Unit) => []) u) (va_A [(h0, .inr (0, [.ref qt, .ref qd, .ref qa, .ref qu])), (qt, .inr (1, [.ref qb, .int n0])), (qd, .inr (2, [.ref qe, .int cn, .int op, .int fp, .ref qt]))] sz) t) (va_A [(h0, .inr (0, [.ref qt, .ref qd, .ref qa, .ref qu])), (qt, .inr (1, [.ref qb, .int n0])), (qd, .inr (2, [.ref qe, .int cn, .int op, .int fp, .ref qt]))] sz)) 0 0 (va_A [(h0, .inr (0, [.ref qt, .ref qd, .ref qa, .ref qu])), (qt, .inr (1, [.ref qb, .int n0])), (qd, .inr (2, [.ref qe, .int cn, .int op, .int fp, .ref qt]))] sz) :=
  zMet (Qf := fun A => va_Qv (fun (_ : Unit) => True) (fun u t => zB D ((fun (_ : Unit) => [(h0, .inr (0, [.ref qt, .ref qd, .ref qa, .ref qu])), (qt, .inr (1, [.ref qb, .int n])), (qd, .inr (2, [.ref qe, .int cn, .int 0, .int fp, .ref qt]))]) u) ((fun (_ : Unit) => []) u) A t) A) (by decide) (Nat.le_of_ble_eq_true rfl) (fun p e s m below meth c A ls hx hb hr hml hown ht hlk hnm hA hK hP hD hX hl => by
    have hS : va_S A s.heap s.heap [] := va_S.rf
    have hl : lv_has ls 2 [(0, .ref h0), (1, .int n)] := hl
    refine lv_iload_n hx hb d_G_end_0 rfl (lv_at hl 1 rfl) ?_
    refine lv_if_lt (tgt := 15) hx hb d_G_end_1 (by decide) (fun h => absurd h (ha)) (fun _ => ?_)
    refine lv_iload_n hx hb d_G_end_4 rfl (lv_at hl 1 rfl) ?_
    refine lv_aload_n hx hb d_G_end_5 rfl (lv_at hl 0 rfl) ?_
    refine va_get (ci := 0) (C := "ZipGuard") (T := F_G) (N := 4) hx hb ht zi_G hown hK hP 0 rfl rfl 0 (by decide) (ht _ zm_395) (fun _ h9 => h9) rfl d_G_end_6 ?_
    refine va_get (ci := 1) (C := "ZipGuard$Tape") (T := F_T) (N := 2) hx hb ht zi_T hown hK hP 1 rfl rfl 1 (by decide) (ht _ zm_98) (fun _ h9 => h9) rfl d_G_end_9 ?_
    refine lv_icmp_le (tgt := 23) hx hb d_G_end_12 (by decide) (fun _ => ?_) (fun h => absurd (hb1) h)
    refine lv_aload_n hx hb d_G_end_23 rfl (lv_at hl 0 rfl) ?_
    refine va_get (ci := 0) (C := "ZipGuard") (T := F_G) (N := 4) hx hb ht zi_G hown hK hP 0 rfl rfl 1 (by decide) (ht _ zm_396) (fun _ h9 => h9) rfl d_G_end_24 ?_
    refine zjv (wr := [(h0, .inr (0, [.ref qt, .ref qd, .ref qa, .ref qu])), (qt, .inr (1, [.ref qb, .int n0]))]) (va_runV (As := []) (rest := []) ⟨hx, hb, hml, hown, ht⟩ (c_D_shut l D _ qd qe qt cn op fp ) (cwV 0 ht (zt_goodV zm_544 zm_545 zm_546 zm_67 zm_547) rfl rfl rfl (by decide +kernel) ⟨Nat.le_of_ble_eq_true rfl, Nat.le_of_ble_eq_true rfl⟩) (zpreV zBlind_t hK hP hD [2] [] rfl (by decide) rfl (fun _ _ _ => trivial) (va_recv (q := ("ZipGuard$Directory", F_D, 5)) hK hP rfl (q0 := 2) (ci := 2) rfl)) rfl rfl hl.1 rfl (lv_room (Nat.le_of_ble_eq_true rfl)) d_G_end_27 ⟨Nat.le_of_ble_eq_true rfl, Nat.le_of_ble_eq_true rfl⟩) hK hP hD hS hA [2] [0, 1] rfl rfl (by decide) (by decide) (fun u H locs hp4 hP hD hK hS => ?_)
    have hP : va_P D zcl [(h0, .inr (0, [.ref qt, .ref qd, .ref qa, .ref qu])), (qt, .inr (1, [.ref qb, .int n0])), (qd, .inr (2, [.ref qe, .int cn, .int 0, .int fp, .ref qt]))] H := hP
    have hD : va_D A [(h0, .inr (0, [.ref qt, .ref qd, .ref qa, .ref qu])), (qt, .inr (1, [.ref qb, .int n0])), (qd, .inr (2, [.ref qe, .int cn, .int 0, .int fp, .ref qt]))] := hD
    have hK : va_K D zcl [] s := hK
    refine lv_aload_n hx hb d_G_end_30 rfl (lv_at hl 0 rfl) ?_
    refine va_get (ci := 0) (C := "ZipGuard") (T := F_G) (N := 4) hx hb ht zi_G hown hK hP 0 rfl rfl 0 (by decide) (ht _ zm_395) (fun _ h9 => h9) rfl d_G_end_31 ?_
    refine lv_iload_n hx hb d_G_end_34 rfl (lv_at hl 1 rfl) ?_
    refine zjv (wr := [(h0, .inr (0, [.ref qt, .ref qd, .ref qa, .ref qu])), (qd, .inr (2, [.ref qe, .int cn, .int 0, .int fp, .ref qt]))]) (va_runV (As := [.int n]) (rest := []) ⟨hx, hb, hml, hown, ht⟩ (c_T_keep l D _ qt qb n0 n ha hb1) (cwV 1 ht (zt_goodV zm_566 zm_567 zm_568 zm_66 zm_569) rfl rfl rfl (by decide +kernel) ⟨Nat.le_of_ble_eq_true rfl, Nat.le_of_ble_eq_true rfl⟩) (zpreV zBlind_t hK hP hD [1] [] rfl (by decide) rfl (fun _ _ _ => trivial) (va_recv (q := ("ZipGuard$Tape", F_T, 2)) hK hP rfl (q0 := 1) (ci := 1) rfl)) rfl rfl hl.1 rfl (lv_room (Nat.le_of_ble_eq_true rfl)) d_G_end_35 ⟨Nat.le_of_ble_eq_true rfl, Nat.le_of_ble_eq_true rfl⟩) hK hP hD hS hA [1] [0, 2] rfl rfl (by decide) (by decide) (fun u H locs hp6 hP hD hK hS => ?_)
    have hP : va_P D zcl [(h0, .inr (0, [.ref qt, .ref qd, .ref qa, .ref qu])), (qd, .inr (2, [.ref qe, .int cn, .int 0, .int fp, .ref qt])), (qt, .inr (1, [.ref qb, .int n]))] H := hP
    have hD : va_D A [(h0, .inr (0, [.ref qt, .ref qd, .ref qa, .ref qu])), (qd, .inr (2, [.ref qe, .int cn, .int 0, .int fp, .ref qt])), (qt, .inr (1, [.ref qb, .int n]))] := hD
    have hK : va_K D zcl [] s := hK
    exact zretv hx hb hr hlk hK hP hD hS () [0, 2, 1] [] rfl (by decide) rfl (trivial) (Nat.le_of_ble_eq_true rfl) (Nat.le_of_ble_eq_true rfl) d_G_end_38)
set_option maxHeartbeats 4000000 in
set_option maxRecDepth 100000 in
theorem c_G_endX (l : Launch) (D : va_G) (sz : Nat) (h0 : Nat) (qt : Nat) (qd : Nat) (qa : Nat) (qu : Nat) (qb : Nat) (qe : Nat) (n0 : Int32) (cn : Int32) (op : Int32) (fp : Int32) (n : Int32) (hl9 : l.stackTraces = false) (hbad : n < 0 ∨ ¬ n ≤ n0) : zTh l y_G_end (Cond.code y_G_end prog_1_method_3_code 2 (Option.none : Option Jvm.ClassFile.FieldType) :: zt) { frames := 6, cells := 1, slots := 6, locals := 90 } (zPc [.ref h0, .int n] D [(h0, .inr (0, [.ref qt, .ref qd, .ref qa, .ref qu])), (qt, .inr (1, [.ref qb, .int n0])), (qd, .inr (2, [.ref qe, .int cn, .int op, .int fp, .ref qt]))] [] sz (zG)) "java/lang/IllegalArgumentException" 1 6 :=
  zTh_of (by decide) (Nat.le_of_ble_eq_true rfl) (fun p e s m below meth c A ls hx hb hr hml hown ht hlk hno hA hK hP hD hX hl => by
    have hS : va_S A s.heap s.heap [] := va_S.rf
    have hl : lv_has ls 2 [(0, .ref h0), (1, .int n)] := hl
    refine lv_iload_n hx hb d_G_end_0 rfl (lv_at hl 1 rfl) ?_
    refine lv_if_lt (tgt := 15) hx hb d_G_end_1 (by decide) (fun hc1 => ?_) (fun hc1 => ?_)
    · skip
      exact zthrow (cls := zIAE) (names := zUP) (ik := 59) (ic := 61) (rest := []) hx hb hl9 hown (by decide) (by decide) (ht _ zm_561) (ht _ zm_77) (zhat zkey_IAE ht hX) (hl.1.trans hml.symm) d_G_end_15 d_G_end_18 d_G_end_19 d_G_end_22 hno (Nat.le_of_ble_eq_true rfl) (Nat.le_of_ble_eq_true rfl) (Nat.le_of_ble_eq_true rfl) (Nat.le_of_ble_eq_true rfl) hlk (Nat.le_of_ble_eq_true rfl) (Nat.le_of_ble_eq_true rfl)
    · skip
      refine lv_iload_n hx hb d_G_end_4 rfl (lv_at hl 1 rfl) ?_
      refine lv_aload_n hx hb d_G_end_5 rfl (lv_at hl 0 rfl) ?_
      refine va_get (ci := 0) (C := "ZipGuard") (T := F_G) (N := 4) hx hb ht zi_G hown hK hP 0 rfl rfl 0 (by decide) (ht _ zm_395) (fun _ h9 => h9) rfl d_G_end_6 ?_
      refine va_get (ci := 1) (C := "ZipGuard$Tape") (T := F_T) (N := 2) hx hb ht zi_T hown hK hP 1 rfl rfl 1 (by decide) (ht _ zm_98) (fun _ h9 => h9) rfl d_G_end_9 ?_
      refine lv_icmp_le (tgt := 23) hx hb d_G_end_12 (by decide) (fun h => absurd h (hbad.resolve_left hc1)) (fun _ => ?_)
      exact zthrow (cls := zIAE) (names := zUP) (ik := 59) (ic := 61) (rest := []) hx hb hl9 hown (by decide) (by decide) (ht _ zm_561) (ht _ zm_77) (zhat zkey_IAE ht hX) (hl.1.trans hml.symm) d_G_end_15 d_G_end_18 d_G_end_19 d_G_end_22 hno (Nat.le_of_ble_eq_true rfl) (Nat.le_of_ble_eq_true rfl) (Nat.le_of_ble_eq_true rfl) (Nat.le_of_ble_eq_true rfl) hlk (Nat.le_of_ble_eq_true rfl) (Nat.le_of_ble_eq_true rfl))
set_option maxHeartbeats 4000000 in
set_option maxRecDepth 100000 in
theorem c_G_alterX (l : Launch) (D : va_G) (sz : Nat) (h0 : Nat) (qt : Nat) (qd : Nat) (qa : Nat) (qu : Nat) (qb : Nat) (n0 : Int32) (n : Int32) (y : Int32) (hl9 : l.stackTraces = false) (hbad : n < 0 ∨ ¬ n < n0) : zTh l y_G_alter (Cond.code y_G_alter prog_1_method_4_code 3 (Option.some Jvm.ClassFile.FieldType.int) :: zt) { frames := 6, cells := 1, slots := 6, locals := 90 } (zPc [.ref h0, .int n, .int y] D [(h0, .inr (0, [.ref qt, .ref qd, .ref qa, .ref qu])), (qt, .inr (1, [.ref qb, .int n0]))] [] sz (zG)) "java/lang/IndexOutOfBoundsException" 1 6 :=
  zTh_of (by decide) (Nat.le_of_ble_eq_true rfl) (fun p e s m below meth c A ls hx hb hr hml hown ht hlk hno hA hK hP hD hX hl => by
    have hS : va_S A s.heap s.heap [] := va_S.rf
    have hl : lv_has ls 3 [(0, .ref h0), (1, .int n), (2, .int y)] := hl
    refine lv_iload_n hx hb d_G_alter_0 rfl (lv_at hl 1 rfl) ?_
    refine lv_if_lt (tgt := 15) hx hb d_G_alter_1 (by decide) (fun hc1 => ?_) (fun hc1 => ?_)
    · skip
      exact zthrow (cls := zIOB) (names := zUP) (ik := 65) (ic := 67) (rest := []) hx hb hl9 hown (by decide) (by decide) (ht _ zm_578) (ht _ zm_78) (zhat zkey_IOB ht hX) (hl.1.trans hml.symm) d_G_alter_15 d_G_alter_18 d_G_alter_19 d_G_alter_22 hno (Nat.le_of_ble_eq_true rfl) (Nat.le_of_ble_eq_true rfl) (Nat.le_of_ble_eq_true rfl) (Nat.le_of_ble_eq_true rfl) hlk (Nat.le_of_ble_eq_true rfl) (Nat.le_of_ble_eq_true rfl)
    · skip
      refine lv_iload_n hx hb d_G_alter_4 rfl (lv_at hl 1 rfl) ?_
      refine lv_aload_n hx hb d_G_alter_5 rfl (lv_at hl 0 rfl) ?_
      refine va_get (ci := 0) (C := "ZipGuard") (T := F_G) (N := 4) hx hb ht zi_G hown hK hP 0 rfl rfl 0 (by decide) (ht _ zm_395) (fun _ h9 => h9) rfl d_G_alter_6 ?_
      refine va_get (ci := 1) (C := "ZipGuard$Tape") (T := F_T) (N := 2) hx hb ht zi_T hown hK hP 1 rfl rfl 1 (by decide) (ht _ zm_98) (fun _ h9 => h9) rfl d_G_alter_9 ?_
      refine lv_icmp_lt (tgt := 23) hx hb d_G_alter_12 (by decide) (fun h => absurd h (hbad.resolve_left hc1)) (fun _ => ?_)
      exact zthrow (cls := zIOB) (names := zUP) (ik := 65) (ic := 67) (rest := []) hx hb hl9 hown (by decide) (by decide) (ht _ zm_578) (ht _ zm_78) (zhat zkey_IOB ht hX) (hl.1.trans hml.symm) d_G_alter_15 d_G_alter_18 d_G_alter_19 d_G_alter_22 hno (Nat.le_of_ble_eq_true rfl) (Nat.le_of_ble_eq_true rfl) (Nat.le_of_ble_eq_true rfl) (Nat.le_of_ble_eq_true rfl) hlk (Nat.le_of_ble_eq_true rfl) (Nat.le_of_ble_eq_true rfl))
set_option maxHeartbeats 4000000 in
set_option maxRecDepth 100000 in
theorem c_D_fault (l : Launch) (D : va_G) (sz : Nat) (qd : Nat) (qe : Nat) (qt : Nat) (cn : Int32) (op : Int32) (fp : Int32) (x : Int32) (y : Int32)  : Met l y_D_faultAt (Cond.code y_D_faultAt prog_4_method_4_code 3 (Option.some Jvm.ClassFile.FieldType.int) :: zt) { frames := 0, cells := 0, slots := 0, locals := 0 } (zPc [.ref qd, .int x, .int y] D [(qd, .inr (2, [.ref qe, .int cn, .int op, .int fp, .ref qt]))] [] sz (fun _ => True)) (va_Qi (fun (r : Int32) => fun (_ : Unit) => r = x) (fun u t => zB D ((fun (_ : Unit) => [(qd, .inr (2, [.ref qe, .int cn, .int op, .int y, .ref qt]))]) u) ((fun (_ : Unit) => []) u) (va_A [(qd, .inr (2, [.ref qe, .int cn, .int op, .int fp, .ref qt]))] sz) t) (va_A [(qd, .inr (2, [.ref qe, .int cn, .int op, .int fp, .ref qt]))] sz)) 0 0 (va_A [(qd, .inr (2, [.ref qe, .int cn, .int op, .int fp, .ref qt]))] sz) :=
  zMet (Qf := fun A => va_Qi (fun (r : Int32) => fun (_ : Unit) => r = x) (fun u t => zB D ((fun (_ : Unit) => [(qd, .inr (2, [.ref qe, .int cn, .int op, .int y, .ref qt]))]) u) ((fun (_ : Unit) => []) u) A t) A) (by decide) (Nat.le_of_ble_eq_true rfl) (fun p e s m below meth c A ls hx hb hr hml hown ht hlk hnm hA hK hP hD hX hl => by
    have hS : va_S A s.heap s.heap [] := va_S.rf
    have hl : lv_has ls 3 [(0, .ref qd), (1, .int x), (2, .int y)] := hl
    refine lv_aload_n hx hb d_D_faultAt_0 rfl (lv_at hl 0 rfl) ?_
    refine lv_iload_n hx hb d_D_faultAt_1 rfl (lv_at hl 2 rfl) ?_
    refine va_put (ci := 2) (v := .int y) (ty := .int) (C := "ZipGuard$Directory") (T := F_D) (N := 5) hx hb ht zi_D ty_D tk_D nm_D hown hK hP hD hS 0 rfl rfl 3 (by decide) (ht _ zm_185) (fun _ h9 => h9) rfl (by decide +kernel) rfl rfl (Nat.le_of_ble_eq_true rfl) d_D_faultAt_2 (fun H locs hP hD hS => ?_)
    have hP : va_P D zcl [(qd, .inr (2, [.ref qe, .int cn, .int op, .int y, .ref qt]))] H := hP
    have hD : va_D A [(qd, .inr (2, [.ref qe, .int cn, .int op, .int y, .ref qt]))] := hD
    refine lv_iload_n hx hb d_D_faultAt_5 rfl (lv_at hl 1 rfl) ?_
    exact zreti hx hb hr hlk hK hP hD hS () [0] [] rfl (by decide) rfl (rfl) (Nat.le_of_ble_eq_true rfl) (Nat.le_of_ble_eq_true rfl) d_D_faultAt_6)
set_option maxHeartbeats 4000000 in
set_option maxRecDepth 100000 in
theorem c_D_find0 (l : Launch) (D : va_G) (sz : Nat) (qd : Nat) (qe : Nat) (qt : Nat) (qb : Nat) (cn : Int32) (op : Int32) (fp : Int32)  : Met l y_D_findEnd (Cond.code y_D_findEnd prog_4_method_5_code 2 (Option.some Jvm.ClassFile.FieldType.int) :: zt) { frames := 0, cells := 0, slots := 0, locals := 0 } (zPc [.ref qd] D [(qd, .inr (2, [.ref qe, .int cn, .int op, .int fp, .ref qt])), (qt, .inr (1, [.ref qb, .int 0]))] [] sz (fun _ => True)) (va_Qi (fun (r : Int32) => fun (_ : Unit) => r = -1) (fun u t => zB D ((fun (_ : Unit) => [(qd, .inr (2, [.ref qe, .int cn, .int op, .int fp, .ref qt])), (qt, .inr (1, [.ref qb, .int 0]))]) u) ((fun (_ : Unit) => []) u) (va_A [(qd, .inr (2, [.ref qe, .int cn, .int op, .int fp, .ref qt])), (qt, .inr (1, [.ref qb, .int 0]))] sz) t) (va_A [(qd, .inr (2, [.ref qe, .int cn, .int op, .int fp, .ref qt])), (qt, .inr (1, [.ref qb, .int 0]))] sz)) 0 0 (va_A [(qd, .inr (2, [.ref qe, .int cn, .int op, .int fp, .ref qt])), (qt, .inr (1, [.ref qb, .int 0]))] sz) :=
  zMet (Qf := fun A => va_Qi (fun (r : Int32) => fun (_ : Unit) => r = -1) (fun u t => zB D ((fun (_ : Unit) => [(qd, .inr (2, [.ref qe, .int cn, .int op, .int fp, .ref qt])), (qt, .inr (1, [.ref qb, .int 0]))]) u) ((fun (_ : Unit) => []) u) A t) A) (by decide) (Nat.le_of_ble_eq_true rfl) (fun p e s m below meth c A ls hx hb hr hml hown ht hlk hnm hA hK hP hD hX hl => by
    have hS : va_S A s.heap s.heap [] := va_S.rf
    have hl : lv_has ls 2 [(0, .ref qd)] := hl
    refine lv_aload_n hx hb d_D_findEnd_0 rfl (lv_at hl 0 rfl) ?_
    refine va_get (ci := 2) (C := "ZipGuard$Directory") (T := F_D) (N := 5) hx hb ht zi_D hown hK hP 0 rfl rfl 4 (by decide) (ht _ zm_187) (fun _ h9 => h9) rfl d_D_findEnd_1 ?_
    refine va_get (ci := 1) (C := "ZipGuard$Tape") (T := F_T) (N := 2) hx hb ht zi_T hown hK hP 1 rfl rfl 1 (by decide) (ht _ zm_99) (fun _ h9 => h9) rfl d_D_findEnd_4 ?_
    refine lv_bipush (v := 22) hx hb d_D_findEnd_7 (by decide) ?_
    refine lv_isub hx hb d_D_findEnd_9 ?_
    refine lv_topi (fun z1 e_z1 => ?_)
    have e_z1 : z1 = (-22) := e_z1.trans (by decide)
    subst e_z1
    refine lv_istore_n (lv' := [(1, .int (-22)), (0, .ref qd)]) hx hb d_D_findEnd_10 rfl hl (by decide) rfl (fun ls hl => ?_)
    refine lv_iload_n hx hb d_D_findEnd_11 rfl (lv_at hl 0 rfl) ?_
    refine lv_if_lt (tgt := 63) hx hb d_D_findEnd_12 (by decide) (fun _ => ?_) (fun h => absurd (by decide) h)
    refine lv_iconst (v := (-1)) hx hb d_D_findEnd_63 (by decide) ?_
    exact zreti hx hb hr hlk hK hP hD hS () [0, 1] [] rfl (by decide) rfl (rfl) (Nat.le_of_ble_eq_true rfl) (Nat.le_of_ble_eq_true rfl) d_D_findEnd_64)
set_option maxHeartbeats 4000000 in
set_option maxRecDepth 100000 in
theorem c_D_read0 (l : Launch) (D : va_G) (sz : Nat) (qd : Nat) (qe : Nat) (qt : Nat) (qb : Nat) (cn : Int32) (op : Int32) (fp : Int32)  : Met l y_D_read (Cond.code y_D_read prog_4_method_3_code 3 (Option.some Jvm.ClassFile.FieldType.int) :: zt) { frames := 1, cells := 0, slots := 0, locals := 22 } (zPc [.ref qd] D [(qd, .inr (2, [.ref qe, .int cn, .int op, .int fp, .ref qt])), (qt, .inr (1, [.ref qb, .int 0]))] [] sz (fun _ => True)) (va_Qi (fun (r : Int32) => fun (_ : Unit) => r = -1) (fun u t => zB D ((fun (_ : Unit) => [(qd, .inr (2, [.ref qe, .int cn, .int 0, .int 0, .ref qt])), (qt, .inr (1, [.ref qb, .int 0]))]) u) ((fun (_ : Unit) => []) u) (va_A [(qd, .inr (2, [.ref qe, .int cn, .int op, .int fp, .ref qt])), (qt, .inr (1, [.ref qb, .int 0]))] sz) t) (va_A [(qd, .inr (2, [.ref qe, .int cn, .int op, .int fp, .ref qt])), (qt, .inr (1, [.ref qb, .int 0]))] sz)) 0 0 (va_A [(qd, .inr (2, [.ref qe, .int cn, .int op, .int fp, .ref qt])), (qt, .inr (1, [.ref qb, .int 0]))] sz) :=
  zMet (Qf := fun A => va_Qi (fun (r : Int32) => fun (_ : Unit) => r = -1) (fun u t => zB D ((fun (_ : Unit) => [(qd, .inr (2, [.ref qe, .int cn, .int 0, .int 0, .ref qt])), (qt, .inr (1, [.ref qb, .int 0]))]) u) ((fun (_ : Unit) => []) u) A t) A) (by decide) (Nat.le_of_ble_eq_true rfl) (fun p e s m below meth c A ls hx hb hr hml hown ht hlk hnm hA hK hP hD hX hl => by
    have hS : va_S A s.heap s.heap [] := va_S.rf
    have hl : lv_has ls 3 [(0, .ref qd)] := hl
    refine lv_aload_n hx hb d_D_read_0 rfl (lv_at hl 0 rfl) ?_
    refine lv_iconst (v := 0) hx hb d_D_read_1 (by decide) ?_
    refine va_put (ci := 2) (v := .int 0) (ty := .boolean) (C := "ZipGuard$Directory") (T := F_D) (N := 5) hx hb ht zi_D ty_D tk_D nm_D hown hK hP hD hS 0 rfl rfl 2 (by decide) (ht _ zm_183) (fun _ h9 => h9) rfl (by decide +kernel) rfl rfl (Nat.le_of_ble_eq_true rfl) d_D_read_2 (fun H locs hP hD hS => ?_)
    have hP : va_P D zcl [(qd, .inr (2, [.ref qe, .int cn, .int 0, .int fp, .ref qt])), (qt, .inr (1, [.ref qb, .int 0]))] H := hP
    have hD : va_D A [(qd, .inr (2, [.ref qe, .int cn, .int 0, .int fp, .ref qt])), (qt, .inr (1, [.ref qb, .int 0]))] := hD
    refine lv_aload_n hx hb d_D_read_5 rfl (lv_at hl 0 rfl) ?_
    refine lv_iconst (v := (-1)) hx hb d_D_read_6 (by decide) ?_
    refine va_put (ci := 2) (v := .int (-1)) (ty := .int) (C := "ZipGuard$Directory") (T := F_D) (N := 5) hx hb ht zi_D ty_D tk_D nm_D hown hK hP hD hS 0 rfl rfl 3 (by decide) (ht _ zm_185) (fun _ h9 => h9) rfl (by decide +kernel) rfl rfl (Nat.le_of_ble_eq_true rfl) d_D_read_7 (fun H locs hP hD hS => ?_)
    have hP : va_P D zcl [(qd, .inr (2, [.ref qe, .int cn, .int 0, .int (-1), .ref qt])), (qt, .inr (1, [.ref qb, .int 0]))] H := hP
    have hD : va_D A [(qd, .inr (2, [.ref qe, .int cn, .int 0, .int (-1), .ref qt])), (qt, .inr (1, [.ref qb, .int 0]))] := hD
    refine lv_aload_n hx hb d_D_read_10 rfl (lv_at hl 0 rfl) ?_
    refine zji (wr := []) (va_runV (As := []) (rest := []) ⟨hx, hb, hml, hown, ht⟩ (c_D_find0 l D _ qd qe qt qb cn 0 (-1) ) (cwV 0 ht (zt_goodV zm_420 zm_421 zm_2 zm_67 zm_422) rfl rfl rfl (by decide +kernel) ⟨Nat.le_of_ble_eq_true rfl, Nat.le_of_ble_eq_true rfl⟩) (zpreV zBlind_t hK hP hD [0, 1] [] rfl (by decide) rfl (fun _ _ _ => trivial) (va_recv (q := ("ZipGuard$Directory", F_D, 5)) hK hP rfl (q0 := 0) (ci := 2) rfl)) rfl rfl hl.1 rfl (lv_room (Nat.le_of_ble_eq_true rfl)) d_D_read_11 ⟨Nat.le_of_ble_eq_true rfl, Nat.le_of_ble_eq_true rfl⟩) hK hP hD hS hA [0, 1] [] rfl rfl (by decide) (by decide) (fun r1 u H locs hp2 hP hD hK hS => ?_)
    have hP : va_P D zcl [(qd, .inr (2, [.ref qe, .int cn, .int 0, .int (-1), .ref qt])), (qt, .inr (1, [.ref qb, .int 0]))] H := hP
    have hD : va_D A [(qd, .inr (2, [.ref qe, .int cn, .int 0, .int (-1), .ref qt])), (qt, .inr (1, [.ref qb, .int 0]))] := hD
    have hK : va_K D zcl [] s := hK
    subst hp2
    refine lv_istore_n (lv' := [(1, .int (-1)), (0, .ref qd)]) hx hb d_D_read_14 rfl hl (by decide) rfl (fun ls hl => ?_)
    refine lv_iload_n hx hb d_D_read_15 rfl (lv_at hl 0 rfl) ?_
    refine lv_if_ge (tgt := 34) hx hb d_D_read_16 (by decide) (fun h => absurd h (by decide)) (fun _ => ?_)
    refine lv_aload_n hx hb d_D_read_19 rfl (lv_at hl 1 rfl) ?_
    refine lv_iconst (v := (-1)) hx hb d_D_read_20 (by decide) ?_
    refine lv_aload_n hx hb d_D_read_21 rfl (lv_at hl 1 rfl) ?_
    refine va_get (ci := 2) (C := "ZipGuard$Directory") (T := F_D) (N := 5) hx hb ht zi_D hown hK hP 0 rfl rfl 4 (by decide) (ht _ zm_187) (fun _ h9 => h9) rfl d_D_read_22 ?_
    refine va_get (ci := 1) (C := "ZipGuard$Tape") (T := F_T) (N := 2) hx hb ht zi_T hown hK hP 1 rfl rfl 1 (by decide) (ht _ zm_99) (fun _ h9 => h9) rfl d_D_read_25 ?_
    refine zji (wr := [(qt, .inr (1, [.ref qb, .int 0]))]) (va_runV (As := [.int (-1), .int 0]) (rest := []) ⟨hx, hb, hml, hown, ht⟩ (c_D_fault l D _ qd qe qt cn 0 (-1) (-1) 0 ) (cwV 2 ht (zt_goodV zm_435 zm_436 zm_3 zm_67 zm_437) rfl rfl rfl (by decide +kernel) ⟨Nat.le_of_ble_eq_true rfl, Nat.le_of_ble_eq_true rfl⟩) (zpreV zBlind_t hK hP hD [0] [] rfl (by decide) rfl (fun _ _ _ => trivial) (va_recv (q := ("ZipGuard$Directory", F_D, 5)) hK hP rfl (q0 := 0) (ci := 2) rfl)) rfl rfl hl.1 rfl (lv_room (Nat.le_of_ble_eq_true rfl)) d_D_read_28 ⟨Nat.le_of_ble_eq_true rfl, Nat.le_of_ble_eq_true rfl⟩) hK hP hD hS hA [0] [1] rfl rfl (by decide) (by decide) (fun r4 u H locs hp5 hP hD hK hS => ?_)
    have hP : va_P D zcl [(qt, .inr (1, [.ref qb, .int 0])), (qd, .inr (2, [.ref qe, .int cn, .int 0, .int 0, .ref qt]))] H := hP
    have hD : va_D A [(qt, .inr (1, [.ref qb, .int 0])), (qd, .inr (2, [.ref qe, .int cn, .int 0, .int 0, .ref qt]))] := hD
    have hK : va_K D zcl [] s := hK
    subst hp5
    refine lv_goto (tgt := 39) hx hb d_D_read_31 (by decide) ?_
    refine lv_istore_n (lv' := [(2, .int (-1)), (1, .int (-1)), (0, .ref qd)]) hx hb d_D_read_39 rfl hl (by decide) rfl (fun ls hl => ?_)
    refine lv_iload_n hx hb d_D_read_40 rfl (lv_at hl 0 rfl) ?_
    refine lv_if_ge (tgt := 46) hx hb d_D_read_41 (by decide) (fun h => absurd h (by decide)) (fun _ => ?_)
    refine lv_iload_n hx hb d_D_read_44 rfl (lv_at hl 0 rfl) ?_
    exact zreti hx hb hr hlk hK hP hD hS () [1, 0] [] rfl (by decide) rfl (rfl) (Nat.le_of_ble_eq_true rfl) (Nat.le_of_ble_eq_true rfl) d_D_read_45)
set_option maxHeartbeats 4000000 in
set_option maxRecDepth 100000 in
theorem c_G_open0 (l : Launch) (D : va_G) (sz : Nat) (h0 : Nat) (qt : Nat) (qd : Nat) (qa : Nat) (qu : Nat) (qb : Nat) (qe : Nat) (qo : Nat) (cn : Int32) (op : Int32) (fp : Int32) (bu : Int32) (ra : Int32) (to : Int32) (rs : Int32)  : Met l y_G_open (Cond.code y_G_open prog_1_method_5_code 1 (Option.some Jvm.ClassFile.FieldType.int) :: zt) { frames := 2, cells := 0, slots := 0, locals := 44 } (zPc [.ref h0] D [(h0, .inr (0, [.ref qt, .ref qd, .ref qa, .ref qu])), (qt, .inr (1, [.ref qb, .int 0])), (qd, .inr (2, [.ref qe, .int cn, .int op, .int fp, .ref qt])), (qa, .inr (3, [.int bu, .int ra, .int to, .ref qo, .int rs]))] [] sz (fun _ => True)) (va_Qi (fun (r : Int32) => fun (_ : Unit) => r = -1) (fun u t => zB D ((fun (_ : Unit) => [(h0, .inr (0, [.ref qt, .ref qd, .ref qa, .ref qu])), (qt, .inr (1, [.ref qb, .int 0])), (qd, .inr (2, [.ref qe, .int cn, .int 0, .int 0, .ref qt])), (qa, .inr (3, [.int bu, .int ra, .int 0, .ref qo, .int rs]))]) u) ((fun (_ : Unit) => []) u) (va_A [(h0, .inr (0, [.ref qt, .ref qd, .ref qa, .ref qu])), (qt, .inr (1, [.ref qb, .int 0])), (qd, .inr (2, [.ref qe, .int cn, .int op, .int fp, .ref qt])), (qa, .inr (3, [.int bu, .int ra, .int to, .ref qo, .int rs]))] sz) t) (va_A [(h0, .inr (0, [.ref qt, .ref qd, .ref qa, .ref qu])), (qt, .inr (1, [.ref qb, .int 0])), (qd, .inr (2, [.ref qe, .int cn, .int op, .int fp, .ref qt])), (qa, .inr (3, [.int bu, .int ra, .int to, .ref qo, .int rs]))] sz)) 0 0 (va_A [(h0, .inr (0, [.ref qt, .ref qd, .ref qa, .ref qu])), (qt, .inr (1, [.ref qb, .int 0])), (qd, .inr (2, [.ref qe, .int cn, .int op, .int fp, .ref qt])), (qa, .inr (3, [.int bu, .int ra, .int to, .ref qo, .int rs]))] sz) :=
  zMet (Qf := fun A => va_Qi (fun (r : Int32) => fun (_ : Unit) => r = -1) (fun u t => zB D ((fun (_ : Unit) => [(h0, .inr (0, [.ref qt, .ref qd, .ref qa, .ref qu])), (qt, .inr (1, [.ref qb, .int 0])), (qd, .inr (2, [.ref qe, .int cn, .int 0, .int 0, .ref qt])), (qa, .inr (3, [.int bu, .int ra, .int 0, .ref qo, .int rs]))]) u) ((fun (_ : Unit) => []) u) A t) A) (by decide) (Nat.le_of_ble_eq_true rfl) (fun p e s m below meth c A ls hx hb hr hml hown ht hlk hnm hA hK hP hD hX hl => by
    have hS : va_S A s.heap s.heap [] := va_S.rf
    have hl : lv_has ls 1 [(0, .ref h0)] := hl
    refine lv_aload_n hx hb d_G_open_0 rfl (lv_at hl 0 rfl) ?_
    refine va_get (ci := 0) (C := "ZipGuard") (T := F_G) (N := 4) hx hb ht zi_G hown hK hP 0 rfl rfl 2 (by decide) (ht _ zm_397) (fun _ h9 => h9) rfl d_G_open_1 ?_
    refine zjv (wr := [(h0, .inr (0, [.ref qt, .ref qd, .ref qa, .ref qu])), (qt, .inr (1, [.ref qb, .int 0])), (qd, .inr (2, [.ref qe, .int cn, .int op, .int fp, .ref qt]))]) (va_runV (As := []) (rest := []) ⟨hx, hb, hml, hown, ht⟩ (c_A_clear l D _ qa qo bu ra to rs ) (cwV 0 ht (zt_goodV zm_412 zm_413 zm_414 zm_69 zm_415) rfl rfl rfl (by decide +kernel) ⟨Nat.le_of_ble_eq_true rfl, Nat.le_of_ble_eq_true rfl⟩) (zpreV zBlind_t hK hP hD [3] [] rfl (by decide) rfl (fun _ _ _ => trivial) (va_recv (q := ("ZipGuard$Target", F_A, 5)) hK hP rfl (q0 := 3) (ci := 3) rfl)) rfl rfl hl.1 rfl (lv_room (Nat.le_of_ble_eq_true rfl)) d_G_open_4 ⟨Nat.le_of_ble_eq_true rfl, Nat.le_of_ble_eq_true rfl⟩) hK hP hD hS hA [3] [0, 1, 2] rfl rfl (by decide) (by decide) (fun u H locs hp2 hP hD hK hS => ?_)
    have hP : va_P D zcl [(h0, .inr (0, [.ref qt, .ref qd, .ref qa, .ref qu])), (qt, .inr (1, [.ref qb, .int 0])), (qd, .inr (2, [.ref qe, .int cn, .int op, .int fp, .ref qt])), (qa, .inr (3, [.int bu, .int ra, .int 0, .ref qo, .int rs]))] H := hP
    have hD : va_D A [(h0, .inr (0, [.ref qt, .ref qd, .ref qa, .ref qu])), (qt, .inr (1, [.ref qb, .int 0])), (qd, .inr (2, [.ref qe, .int cn, .int op, .int fp, .ref qt])), (qa, .inr (3, [.int bu, .int ra, .int 0, .ref qo, .int rs]))] := hD
    have hK : va_K D zcl [] s := hK
    refine lv_aload_n hx hb d_G_open_7 rfl (lv_at hl 0 rfl) ?_
    refine va_get (ci := 0) (C := "ZipGuard") (T := F_G) (N := 4) hx hb ht zi_G hown hK hP 0 rfl rfl 1 (by decide) (ht _ zm_396) (fun _ h9 => h9) rfl d_G_open_8 ?_
    refine zji (wr := [(h0, .inr (0, [.ref qt, .ref qd, .ref qa, .ref qu])), (qa, .inr (3, [.int bu, .int ra, .int 0, .ref qo, .int rs]))]) (va_runV (As := []) (rest := []) ⟨hx, hb, hml, hown, ht⟩ (c_D_read0 l D _ qd qe qt qb cn op fp ) (cwV 0 ht (zt_goodV zm_416 zm_417 zm_418 zm_67 zm_419) rfl rfl rfl (by decide +kernel) ⟨Nat.le_of_ble_eq_true rfl, Nat.le_of_ble_eq_true rfl⟩) (zpreV zBlind_t hK hP hD [2, 1] [] rfl (by decide) rfl (fun _ _ _ => trivial) (va_recv (q := ("ZipGuard$Directory", F_D, 5)) hK hP rfl (q0 := 2) (ci := 2) rfl)) rfl rfl hl.1 rfl (lv_room (Nat.le_of_ble_eq_true rfl)) d_G_open_11 ⟨Nat.le_of_ble_eq_true rfl, Nat.le_of_ble_eq_true rfl⟩) hK hP hD hS hA [2, 1] [0, 3] rfl rfl (by decide) (by decide) (fun r3 u H locs hp4 hP hD hK hS => ?_)
    have hP : va_P D zcl [(h0, .inr (0, [.ref qt, .ref qd, .ref qa, .ref qu])), (qa, .inr (3, [.int bu, .int ra, .int 0, .ref qo, .int rs])), (qd, .inr (2, [.ref qe, .int cn, .int 0, .int 0, .ref qt])), (qt, .inr (1, [.ref qb, .int 0]))] H := hP
    have hD : va_D A [(h0, .inr (0, [.ref qt, .ref qd, .ref qa, .ref qu])), (qa, .inr (3, [.int bu, .int ra, .int 0, .ref qo, .int rs])), (qd, .inr (2, [.ref qe, .int cn, .int 0, .int 0, .ref qt])), (qt, .inr (1, [.ref qb, .int 0]))] := hD
    have hK : va_K D zcl [] s := hK
    exact zreti hx hb hr hlk hK hP hD hS () [0, 3, 2, 1] [] rfl (by decide) rfl (hp4) (Nat.le_of_ble_eq_true rfl) (Nat.le_of_ble_eq_true rfl) d_G_open_14)
set_option maxHeartbeats 4000000 in
set_option maxRecDepth 100000 in
theorem c_G_place (l : Launch) (D : va_G) (sz : Nat) (h0 : Nat) (qt : Nat) (qd : Nat) (qa : Nat) (qu : Nat) (qe : Nat) (cn : Int32) (op : Int32) (fp : Int32)  : Met l y_G_place (Cond.code y_G_place prog_1_method_6_code 1 (Option.some Jvm.ClassFile.FieldType.int) :: zt) { frames := 0, cells := 0, slots := 0, locals := 0 } (zPc [.ref h0] D [(h0, .inr (0, [.ref qt, .ref qd, .ref qa, .ref qu])), (qd, .inr (2, [.ref qe, .int cn, .int op, .int fp, .ref qt]))] [] sz (fun _ => True)) (va_Qi (fun (r : Int32) => fun (_ : Unit) => r = fp) (fun u t => zB D ((fun (_ : Unit) => [(h0, .inr (0, [.ref qt, .ref qd, .ref qa, .ref qu])), (qd, .inr (2, [.ref qe, .int cn, .int op, .int fp, .ref qt]))]) u) ((fun (_ : Unit) => []) u) (va_A [(h0, .inr (0, [.ref qt, .ref qd, .ref qa, .ref qu])), (qd, .inr (2, [.ref qe, .int cn, .int op, .int fp, .ref qt]))] sz) t) (va_A [(h0, .inr (0, [.ref qt, .ref qd, .ref qa, .ref qu])), (qd, .inr (2, [.ref qe, .int cn, .int op, .int fp, .ref qt]))] sz)) 0 0 (va_A [(h0, .inr (0, [.ref qt, .ref qd, .ref qa, .ref qu])), (qd, .inr (2, [.ref qe, .int cn, .int op, .int fp, .ref qt]))] sz) :=
  zMet (Qf := fun A => va_Qi (fun (r : Int32) => fun (_ : Unit) => r = fp) (fun u t => zB D ((fun (_ : Unit) => [(h0, .inr (0, [.ref qt, .ref qd, .ref qa, .ref qu])), (qd, .inr (2, [.ref qe, .int cn, .int op, .int fp, .ref qt]))]) u) ((fun (_ : Unit) => []) u) A t) A) (by decide) (Nat.le_of_ble_eq_true rfl) (fun p e s m below meth c A ls hx hb hr hml hown ht hlk hnm hA hK hP hD hX hl => by
    have hS : va_S A s.heap s.heap [] := va_S.rf
    have hl : lv_has ls 1 [(0, .ref h0)] := hl
    refine lv_aload_n hx hb d_G_place_0 rfl (lv_at hl 0 rfl) ?_
    refine va_get (ci := 0) (C := "ZipGuard") (T := F_G) (N := 4) hx hb ht zi_G hown hK hP 0 rfl rfl 1 (by decide) (ht _ zm_396) (fun _ h9 => h9) rfl d_G_place_1 ?_
    refine va_get (ci := 2) (C := "ZipGuard$Directory") (T := F_D) (N := 5) hx hb ht zi_D hown hK hP 1 rfl rfl 3 (by decide) (ht _ zm_186) (fun _ h9 => h9) rfl d_G_place_4 ?_
    exact zreti hx hb hr hlk hK hP hD hS () [0, 1] [] rfl (by decide) rfl (rfl) (Nat.le_of_ble_eq_true rfl) (Nat.le_of_ble_eq_true rfl) d_G_place_7)
set_option maxHeartbeats 4000000 in
set_option maxRecDepth 100000 in
theorem c_G_lim (l : Launch) (D : va_G) (sz : Nat) (h0 : Nat) (qt : Nat) (qd : Nat) (qa : Nat) (qu : Nat) (qo : Nat) (bu : Int32) (ra : Int32) (to : Int32) (rs : Int32) (x : Int32) (y : Int32) (h1 : ¬ x < 0) (h2 : ¬ 40000 < x) (h3 : ¬ y < 0) (h4 : y ≤ 2000) : Met l y_G_limits (Cond.code y_G_limits prog_1_method_7_code 3 (Option.none : Option Jvm.ClassFile.FieldType) :: zt) { frames := 0, cells := 0, slots := 0, locals := 0 } (zPc [.ref h0, .int x, .int y] D [(h0, .inr (0, [.ref qt, .ref qd, .ref qa, .ref qu])), (qa, .inr (3, [.int bu, .int ra, .int to, .ref qo, .int rs]))] [] sz (fun _ => True)) (va_Qv (fun (_ : Unit) => True) (fun u t => zB D ((fun (_ : Unit) => [(h0, .inr (0, [.ref qt, .ref qd, .ref qa, .ref qu])), (qa, .inr (3, [.int x, .int y, .int to, .ref qo, .int rs]))]) u) ((fun (_ : Unit) => []) u) (va_A [(h0, .inr (0, [.ref qt, .ref qd, .ref qa, .ref qu])), (qa, .inr (3, [.int bu, .int ra, .int to, .ref qo, .int rs]))] sz) t) (va_A [(h0, .inr (0, [.ref qt, .ref qd, .ref qa, .ref qu])), (qa, .inr (3, [.int bu, .int ra, .int to, .ref qo, .int rs]))] sz)) 0 0 (va_A [(h0, .inr (0, [.ref qt, .ref qd, .ref qa, .ref qu])), (qa, .inr (3, [.int bu, .int ra, .int to, .ref qo, .int rs]))] sz) :=
  zMet (Qf := fun A => va_Qv (fun (_ : Unit) => True) (fun u t => zB D ((fun (_ : Unit) => [(h0, .inr (0, [.ref qt, .ref qd, .ref qa, .ref qu])), (qa, .inr (3, [.int x, .int y, .int to, .ref qo, .int rs]))]) u) ((fun (_ : Unit) => []) u) A t) A) (by decide) (Nat.le_of_ble_eq_true rfl) (fun p e s m below meth c A ls hx hb hr hml hown ht hlk hnm hA hK hP hD hX hl => by
    have hS : va_S A s.heap s.heap [] := va_S.rf
    have hl : lv_has ls 3 [(0, .ref h0), (1, .int x), (2, .int y)] := hl
    refine lv_iload_n hx hb d_G_limits_0 rfl (lv_at hl 1 rfl) ?_
    refine lv_if_lt (tgt := 21) hx hb d_G_limits_1 (by decide) (fun h => absurd h (h1)) (fun _ => ?_)
    refine lv_iload_n hx hb d_G_limits_4 rfl (lv_at hl 1 rfl) ?_
    refine lv_ldc (v := 40000) hx hb hown (ht _ zm_603) d_G_limits_5 ?_
    refine lv_icmp_gt (tgt := 21) hx hb d_G_limits_7 (by decide) (fun h => absurd h (h2)) (fun _ => ?_)
    refine lv_iload_n hx hb d_G_limits_10 rfl (lv_at hl 2 rfl) ?_
    refine lv_if_lt (tgt := 21) hx hb d_G_limits_11 (by decide) (fun h => absurd h (h3)) (fun _ => ?_)
    refine lv_iload_n hx hb d_G_limits_14 rfl (lv_at hl 2 rfl) ?_
    refine lv_sipush (v := 2000) hx hb d_G_limits_15 (by decide) ?_
    refine lv_icmp_le (tgt := 29) hx hb d_G_limits_18 (by decide) (fun _ => ?_) (fun h => absurd (h4) h)
    refine lv_aload_n hx hb d_G_limits_29 rfl (lv_at hl 0 rfl) ?_
    refine va_get (ci := 0) (C := "ZipGuard") (T := F_G) (N := 4) hx hb ht zi_G hown hK hP 0 rfl rfl 2 (by decide) (ht _ zm_397) (fun _ h9 => h9) rfl d_G_limits_30 ?_
    refine lv_iload_n hx hb d_G_limits_33 rfl (lv_at hl 1 rfl) ?_
    refine va_put (ci := 3) (v := .int x) (ty := .int) (C := "ZipGuard$Target") (T := F_A) (N := 5) hx hb ht zi_A ty_A tk_A nm_A hown hK hP hD hS 1 rfl rfl 0 (by decide) (ht _ zm_207) (fun _ h9 => h9) rfl (by decide +kernel) rfl rfl (Nat.le_of_ble_eq_true rfl) d_G_limits_34 (fun H locs hP hD hS => ?_)
    have hP : va_P D zcl [(h0, .inr (0, [.ref qt, .ref qd, .ref qa, .ref qu])), (qa, .inr (3, [.int x, .int ra, .int to, .ref qo, .int rs]))] H := hP
    have hD : va_D A [(h0, .inr (0, [.ref qt, .ref qd, .ref qa, .ref qu])), (qa, .inr (3, [.int x, .int ra, .int to, .ref qo, .int rs]))] := hD
    refine lv_aload_n hx hb d_G_limits_37 rfl (lv_at hl 0 rfl) ?_
    refine va_get (ci := 0) (C := "ZipGuard") (T := F_G) (N := 4) hx hb ht zi_G hown hK hP 0 rfl rfl 2 (by decide) (ht _ zm_397) (fun _ h9 => h9) rfl d_G_limits_38 ?_
    refine lv_iload_n hx hb d_G_limits_41 rfl (lv_at hl 2 rfl) ?_
    refine va_put (ci := 3) (v := .int y) (ty := .int) (C := "ZipGuard$Target") (T := F_A) (N := 5) hx hb ht zi_A ty_A tk_A nm_A hown hK hP hD hS 1 rfl rfl 1 (by decide) (ht _ zm_209) (fun _ h9 => h9) rfl (by decide +kernel) rfl rfl (Nat.le_of_ble_eq_true rfl) d_G_limits_42 (fun H locs hP hD hS => ?_)
    have hP : va_P D zcl [(h0, .inr (0, [.ref qt, .ref qd, .ref qa, .ref qu])), (qa, .inr (3, [.int x, .int y, .int to, .ref qo, .int rs]))] H := hP
    have hD : va_D A [(h0, .inr (0, [.ref qt, .ref qd, .ref qa, .ref qu])), (qa, .inr (3, [.int x, .int y, .int to, .ref qo, .int rs]))] := hD
    exact zretv hx hb hr hlk hK hP hD hS () [0, 1] [] rfl (by decide) rfl (trivial) (Nat.le_of_ble_eq_true rfl) (Nat.le_of_ble_eq_true rfl) d_G_limits_45)
set_option maxHeartbeats 4000000 in
set_option maxRecDepth 100000 in
theorem c_G_limX (l : Launch) (D : va_G) (sz : Nat) (h0 : Nat) (qt : Nat) (qd : Nat) (qa : Nat) (qu : Nat) (qo : Nat) (bu : Int32) (ra : Int32) (to : Int32) (rs : Int32) (x : Int32) (y : Int32) (hl9 : l.stackTraces = false) (hbad : x < 0 ∨ 40000 < x ∨ y < 0 ∨ ¬ y ≤ 2000) : zTh l y_G_limits (Cond.code y_G_limits prog_1_method_7_code 3 (Option.none : Option Jvm.ClassFile.FieldType) :: zt) { frames := 6, cells := 1, slots := 6, locals := 90 } (zPc [.ref h0, .int x, .int y] D [(h0, .inr (0, [.ref qt, .ref qd, .ref qa, .ref qu])), (qa, .inr (3, [.int bu, .int ra, .int to, .ref qo, .int rs]))] [] sz (zG)) "java/lang/IllegalArgumentException" 1 6 :=
  zTh_of (by decide) (Nat.le_of_ble_eq_true rfl) (fun p e s m below meth c A ls hx hb hr hml hown ht hlk hno hA hK hP hD hX hl => by
    have hS : va_S A s.heap s.heap [] := va_S.rf
    have hl : lv_has ls 3 [(0, .ref h0), (1, .int x), (2, .int y)] := hl
    refine lv_iload_n hx hb d_G_limits_0 rfl (lv_at hl 1 rfl) ?_
    refine lv_if_lt (tgt := 21) hx hb d_G_limits_1 (by decide) (fun hc1 => ?_) (fun hc1 => ?_)
    · skip
      exact zthrow (cls := zIAE) (names := zUP) (ik := 59) (ic := 61) (rest := []) hx hb hl9 hown (by decide) (by decide) (ht _ zm_561) (ht _ zm_77) (zhat zkey_IAE ht hX) (hl.1.trans hml.symm) d_G_limits_21 d_G_limits_24 d_G_limits_25 d_G_limits_28 hno (Nat.le_of_ble_eq_true rfl) (Nat.le_of_ble_eq_true rfl) (Nat.le_of_ble_eq_true rfl) (Nat.le_of_ble_eq_true rfl) hlk (Nat.le_of_ble_eq_true rfl) (Nat.le_of_ble_eq_true rfl)
    · skip
      refine lv_iload_n hx hb d_G_limits_4 rfl (lv_at hl 1 rfl) ?_
      refine lv_ldc (v := 40000) hx hb hown (ht _ zm_603) d_G_limits_5 ?_
      refine lv_icmp_gt (tgt := 21) hx hb d_G_limits_7 (by decide) (fun hc2 => ?_) (fun hc2 => ?_)
      · skip
        exact zthrow (cls := zIAE) (names := zUP) (ik := 59) (ic := 61) (rest := []) hx hb hl9 hown (by decide) (by decide) (ht _ zm_561) (ht _ zm_77) (zhat zkey_IAE ht hX) (hl.1.trans hml.symm) d_G_limits_21 d_G_limits_24 d_G_limits_25 d_G_limits_28 hno (Nat.le_of_ble_eq_true rfl) (Nat.le_of_ble_eq_true rfl) (Nat.le_of_ble_eq_true rfl) (Nat.le_of_ble_eq_true rfl) hlk (Nat.le_of_ble_eq_true rfl) (Nat.le_of_ble_eq_true rfl)
      · skip
        refine lv_iload_n hx hb d_G_limits_10 rfl (lv_at hl 2 rfl) ?_
        refine lv_if_lt (tgt := 21) hx hb d_G_limits_11 (by decide) (fun hc3 => ?_) (fun hc3 => ?_)
        · skip
          exact zthrow (cls := zIAE) (names := zUP) (ik := 59) (ic := 61) (rest := []) hx hb hl9 hown (by decide) (by decide) (ht _ zm_561) (ht _ zm_77) (zhat zkey_IAE ht hX) (hl.1.trans hml.symm) d_G_limits_21 d_G_limits_24 d_G_limits_25 d_G_limits_28 hno (Nat.le_of_ble_eq_true rfl) (Nat.le_of_ble_eq_true rfl) (Nat.le_of_ble_eq_true rfl) (Nat.le_of_ble_eq_true rfl) hlk (Nat.le_of_ble_eq_true rfl) (Nat.le_of_ble_eq_true rfl)
        · skip
          refine lv_iload_n hx hb d_G_limits_14 rfl (lv_at hl 2 rfl) ?_
          refine lv_sipush (v := 2000) hx hb d_G_limits_15 (by decide) ?_
          refine lv_icmp_le (tgt := 29) hx hb d_G_limits_18 (by decide) (fun h => absurd h (((hbad.resolve_left hc1).resolve_left hc2).resolve_left hc3)) (fun _ => ?_)
          exact zthrow (cls := zIAE) (names := zUP) (ik := 59) (ic := 61) (rest := []) hx hb hl9 hown (by decide) (by decide) (ht _ zm_561) (ht _ zm_77) (zhat zkey_IAE ht hX) (hl.1.trans hml.symm) d_G_limits_21 d_G_limits_24 d_G_limits_25 d_G_limits_28 hno (Nat.le_of_ble_eq_true rfl) (Nat.le_of_ble_eq_true rfl) (Nat.le_of_ble_eq_true rfl) (Nat.le_of_ble_eq_true rfl) hlk (Nat.le_of_ble_eq_true rfl) (Nat.le_of_ble_eq_true rfl))
set_option maxHeartbeats 4000000 in
set_option maxRecDepth 100000 in
theorem c_G_oeX (l : Launch) (D : va_G) (sz : Nat) (h0 : Nat) (qt : Nat) (qd : Nat) (qa : Nat) (qu : Nat) (qe : Nat) (cn : Int32) (fp : Int32) (n : Int32) (hl9 : l.stackTraces = false) : zTh l y_G_openEntry (Cond.code y_G_openEntry prog_1_method_14_code 2 (Option.some (Jvm.ClassFile.FieldType.object "ZipGuard$Entry")) :: zt) { frames := 6, cells := 1, slots := 6, locals := 90 } (zPc [.ref h0, .int n] D [(h0, .inr (0, [.ref qt, .ref qd, .ref qa, .ref qu])), (qd, .inr (2, [.ref qe, .int cn, .int 0, .int fp, .ref qt]))] [] sz (zG)) "java/lang/IllegalStateException" 1 6 :=
  zTh_of (by decide) (Nat.le_of_ble_eq_true rfl) (fun p e s m below meth c A ls hx hb hr hml hown ht hlk hno hA hK hP hD hX hl => by
    have hS : va_S A s.heap s.heap [] := va_S.rf
    have hl : lv_has ls 2 [(0, .ref h0), (1, .int n)] := hl
    refine lv_aload_n hx hb d_G_openEntry_0 rfl (lv_at hl 0 rfl) ?_
    refine va_get (ci := 0) (C := "ZipGuard") (T := F_G) (N := 4) hx hb ht zi_G hown hK hP 0 rfl rfl 1 (by decide) (ht _ zm_396) (fun _ h9 => h9) rfl d_G_openEntry_1 ?_
    refine va_get (ci := 2) (C := "ZipGuard$Directory") (T := F_D) (N := 5) hx hb ht zi_D hown hK hP 1 rfl rfl 2 (by decide) (ht _ zm_184) (fun _ h9 => h9) rfl d_G_openEntry_4 ?_
    refine lv_if_ne (tgt := 18) hx hb d_G_openEntry_7 (by decide) (fun h => absurd (by decide) h) (fun _ => ?_)
    exact zthrow (cls := zISE) (names := zUP) (ik := 45) (ic := 47) (rest := []) hx hb hl9 hown (by decide) (by decide) (ht _ zm_524) (ht _ zm_80) (zhat zkey_ISE ht hX) (hl.1.trans hml.symm) d_G_openEntry_10 d_G_openEntry_13 d_G_openEntry_14 d_G_openEntry_17 hno (Nat.le_of_ble_eq_true rfl) (Nat.le_of_ble_eq_true rfl) (Nat.le_of_ble_eq_true rfl) (Nat.le_of_ble_eq_true rfl) hlk (Nat.le_of_ble_eq_true rfl) (Nat.le_of_ble_eq_true rfl))
set_option maxHeartbeats 4000000 in
set_option maxRecDepth 100000 in
theorem c_G_taX (l : Launch) (D : va_G) (sz : Nat) (h0 : Nat) (qt : Nat) (qd : Nat) (qa : Nat) (qu : Nat) (qe : Nat) (cn : Int32) (fp : Int32) (hl9 : l.stackTraces = false) : zTh l y_G_takeAll (Cond.code y_G_takeAll prog_1_method_9_code 2 (Option.some Jvm.ClassFile.FieldType.int) :: zt) { frames := 6, cells := 1, slots := 6, locals := 90 } (zPc [.ref h0] D [(h0, .inr (0, [.ref qt, .ref qd, .ref qa, .ref qu])), (qd, .inr (2, [.ref qe, .int cn, .int 0, .int fp, .ref qt]))] [] sz (zG)) "java/lang/IllegalStateException" 1 6 :=
  zTh_of (by decide) (Nat.le_of_ble_eq_true rfl) (fun p e s m below meth c A ls hx hb hr hml hown ht hlk hno hA hK hP hD hX hl => by
    have hS : va_S A s.heap s.heap [] := va_S.rf
    have hl : lv_has ls 2 [(0, .ref h0)] := hl
    refine lv_aload_n hx hb d_G_takeAll_0 rfl (lv_at hl 0 rfl) ?_
    refine va_get (ci := 0) (C := "ZipGuard") (T := F_G) (N := 4) hx hb ht zi_G hown hK hP 0 rfl rfl 1 (by decide) (ht _ zm_396) (fun _ h9 => h9) rfl d_G_takeAll_1 ?_
    refine va_get (ci := 2) (C := "ZipGuard$Directory") (T := F_D) (N := 5) hx hb ht zi_D hown hK hP 1 rfl rfl 2 (by decide) (ht _ zm_184) (fun _ h9 => h9) rfl d_G_takeAll_4 ?_
    refine lv_if_ne (tgt := 18) hx hb d_G_takeAll_7 (by decide) (fun h => absurd (by decide) h) (fun _ => ?_)
    exact zthrow (cls := zISE) (names := zUP) (ik := 45) (ic := 47) (rest := []) hx hb hl9 hown (by decide) (by decide) (ht _ zm_524) (ht _ zm_80) (zhat zkey_ISE ht hX) (hl.1.trans hml.symm) d_G_takeAll_10 d_G_takeAll_13 d_G_takeAll_14 d_G_takeAll_17 hno (Nat.le_of_ble_eq_true rfl) (Nat.le_of_ble_eq_true rfl) (Nat.le_of_ble_eq_true rfl) (Nat.le_of_ble_eq_true rfl) hlk (Nat.le_of_ble_eq_true rfl) (Nat.le_of_ble_eq_true rfl))
set_option maxHeartbeats 4000000 in
set_option maxRecDepth 100000 in
theorem c_G_takeX (l : Launch) (D : va_G) (sz : Nat) (h0 : Nat) (qt : Nat) (qd : Nat) (qa : Nat) (qu : Nat) (qe : Nat) (cn : Int32) (fp : Int32) (n : Int32) (hl9 : l.stackTraces = false) : zTh l y_G_take (Cond.code y_G_take prog_1_method_8_code 2 (Option.some Jvm.ClassFile.FieldType.int) :: zt) { frames := 7, cells := 1, slots := 6, locals := 111 } (zPc [.ref h0, .int n] D [(h0, .inr (0, [.ref qt, .ref qd, .ref qa, .ref qu])), (qd, .inr (2, [.ref qe, .int cn, .int 0, .int fp, .ref qt]))] [] sz (zG)) "java/lang/IllegalStateException" 1 6 :=
  zTh_of (by decide) (Nat.le_of_ble_eq_true rfl) (fun p e s m below meth c A ls hx hb hr hml hown ht hlk hno hA hK hP hD hX hl => by
    have hS : va_S A s.heap s.heap [] := va_S.rf
    have hl : lv_has ls 2 [(0, .ref h0), (1, .int n)] := hl
    refine lv_aload_n hx hb d_G_take_0 rfl (lv_at hl 0 rfl) ?_
    refine va_get (ci := 0) (C := "ZipGuard") (T := F_G) (N := 4) hx hb ht zi_G hown hK hP 0 rfl rfl 3 (by decide) (ht _ zm_398) (fun _ h9 => h9) rfl d_G_take_1 ?_
    refine lv_aload_n hx hb d_G_take_4 rfl (lv_at hl 0 rfl) ?_
    refine lv_iload_n hx hb d_G_take_5 rfl (lv_at hl 1 rfl) ?_
    exact zcallVT (As := [.int n]) (rest := [.ref qu]) ⟨hx, hb, hml, hown, ht⟩ (c_G_oeX l D _ h0 qt qd qa qu qe cn fp n hl9) (cwV 1 ht (zt_goodV zm_611 zm_612 zm_17 zm_65 zm_613) rfl rfl rfl (by decide +kernel) ⟨Nat.le_of_ble_eq_true rfl, Nat.le_of_ble_eq_true rfl⟩) (zpreV zBlind_G hK hP hD [0, 1] [] rfl (by decide) rfl (fun U hU hW => zBlind_G s U hW.alike hU hX) (va_recv (q := ("ZipGuard", F_G, 4)) hK hP rfl (q0 := 0) (ci := 0) rfl)) rfl hl.1 (lv_room (Nat.le_of_ble_eq_true rfl)) d_G_take_6 ⟨Nat.le_of_ble_eq_true rfl, Nat.le_of_ble_eq_true rfl⟩ (fun q ce H1 _ _ z3 z4 z5 => zout hno hlk z3 z4 z5 (Nat.le_of_ble_eq_true rfl) (Nat.le_of_ble_eq_true rfl)))
set_option maxHeartbeats 4000000 in
set_option maxRecDepth 100000 in
theorem c_G_entX (l : Launch) (D : va_G) (sz : Nat) (h0 : Nat) (qt : Nat) (qd : Nat) (qa : Nat) (qu : Nat) (qe : Nat) (cn : Int32) (fp : Int32) (n : Int32) (y : Int32) (hl9 : l.stackTraces = false) : zTh l y_G_entry (Cond.code y_G_entry prog_1_method_10_code 4 (Option.some Jvm.ClassFile.FieldType.int) :: zt) { frames := 7, cells := 1, slots := 6, locals := 111 } (zPc [.ref h0, .int n, .int y] D [(h0, .inr (0, [.ref qt, .ref qd, .ref qa, .ref qu])), (qd, .inr (2, [.ref qe, .int cn, .int 0, .int fp, .ref qt]))] [] sz (zG)) "java/lang/IllegalStateException" 1 6 :=
  zTh_of (by decide) (Nat.le_of_ble_eq_true rfl) (fun p e s m below meth c A ls hx hb hr hml hown ht hlk hno hA hK hP hD hX hl => by
    have hS : va_S A s.heap s.heap [] := va_S.rf
    have hl : lv_has ls 4 [(0, .ref h0), (1, .int n), (2, .int y)] := hl
    refine lv_aload_n hx hb d_G_entry_0 rfl (lv_at hl 0 rfl) ?_
    refine lv_iload_n hx hb d_G_entry_1 rfl (lv_at hl 1 rfl) ?_
    exact zcallVT (As := [.int n]) (rest := []) ⟨hx, hb, hml, hown, ht⟩ (c_G_oeX l D _ h0 qt qd qa qu qe cn fp n hl9) (cwV 1 ht (zt_goodV zm_611 zm_612 zm_17 zm_65 zm_613) rfl rfl rfl (by decide +kernel) ⟨Nat.le_of_ble_eq_true rfl, Nat.le_of_ble_eq_true rfl⟩) (zpreV zBlind_G hK hP hD [0, 1] [] rfl (by decide) rfl (fun U hU hW => zBlind_G s U hW.alike hU hX) (va_recv (q := ("ZipGuard", F_G, 4)) hK hP rfl (q0 := 0) (ci := 0) rfl)) rfl hl.1 (lv_room (Nat.le_of_ble_eq_true rfl)) d_G_entry_2 ⟨Nat.le_of_ble_eq_true rfl, Nat.le_of_ble_eq_true rfl⟩ (fun q ce H1 _ _ z3 z4 z5 => zout hno hlk z3 z4 z5 (Nat.le_of_ble_eq_true rfl) (Nat.le_of_ble_eq_true rfl)))
set_option maxHeartbeats 4000000 in
set_option maxRecDepth 100000 in
theorem c_G_namX (l : Launch) (D : va_G) (sz : Nat) (h0 : Nat) (qt : Nat) (qd : Nat) (qa : Nat) (qu : Nat) (qe : Nat) (cn : Int32) (fp : Int32) (n : Int32) (y : Int32) (hl9 : l.stackTraces = false) : zTh l y_G_name (Cond.code y_G_name prog_1_method_11_code 4 (Option.some Jvm.ClassFile.FieldType.int) :: zt) { frames := 7, cells := 1, slots := 6, locals := 111 } (zPc [.ref h0, .int n, .int y] D [(h0, .inr (0, [.ref qt, .ref qd, .ref qa, .ref qu])), (qd, .inr (2, [.ref qe, .int cn, .int 0, .int fp, .ref qt]))] [] sz (zG)) "java/lang/IllegalStateException" 1 6 :=
  zTh_of (by decide) (Nat.le_of_ble_eq_true rfl) (fun p e s m below meth c A ls hx hb hr hml hown ht hlk hno hA hK hP hD hX hl => by
    have hS : va_S A s.heap s.heap [] := va_S.rf
    have hl : lv_has ls 4 [(0, .ref h0), (1, .int n), (2, .int y)] := hl
    refine lv_aload_n hx hb d_G_name_0 rfl (lv_at hl 0 rfl) ?_
    refine lv_iload_n hx hb d_G_name_1 rfl (lv_at hl 1 rfl) ?_
    exact zcallVT (As := [.int n]) (rest := []) ⟨hx, hb, hml, hown, ht⟩ (c_G_oeX l D _ h0 qt qd qa qu qe cn fp n hl9) (cwV 1 ht (zt_goodV zm_611 zm_612 zm_17 zm_65 zm_613) rfl rfl rfl (by decide +kernel) ⟨Nat.le_of_ble_eq_true rfl, Nat.le_of_ble_eq_true rfl⟩) (zpreV zBlind_G hK hP hD [0, 1] [] rfl (by decide) rfl (fun U hU hW => zBlind_G s U hW.alike hU hX) (va_recv (q := ("ZipGuard", F_G, 4)) hK hP rfl (q0 := 0) (ci := 0) rfl)) rfl hl.1 (lv_room (Nat.le_of_ble_eq_true rfl)) d_G_name_2 ⟨Nat.le_of_ble_eq_true rfl, Nat.le_of_ble_eq_true rfl⟩ (fun q ce H1 _ _ z3 z4 z5 => zout hno hlk z3 z4 z5 (Nat.le_of_ble_eq_true rfl) (Nat.le_of_ble_eq_true rfl)))
set_option maxHeartbeats 4000000 in
set_option maxRecDepth 100000 in
theorem c_G_wriX (l : Launch) (D : va_G) (sz : Nat) (h0 : Nat) (qt : Nat) (qd : Nat) (qa : Nat) (qu : Nat) (qe : Nat) (cn : Int32) (fp : Int32) (n : Int32) (y : Int32) (hl9 : l.stackTraces = false) : zTh l y_G_written (Cond.code y_G_written prog_1_method_12_code 4 (Option.some Jvm.ClassFile.FieldType.int) :: zt) { frames := 7, cells := 1, slots := 6, locals := 111 } (zPc [.ref h0, .int n, .int y] D [(h0, .inr (0, [.ref qt, .ref qd, .ref qa, .ref qu])), (qd, .inr (2, [.ref qe, .int cn, .int 0, .int fp, .ref qt]))] [] sz (zG)) "java/lang/IllegalStateException" 1 6 :=
  zTh_of (by decide) (Nat.le_of_ble_eq_true rfl) (fun p e s m below meth c A ls hx hb hr hml hown ht hlk hno hA hK hP hD hX hl => by
    have hS : va_S A s.heap s.heap [] := va_S.rf
    have hl : lv_has ls 4 [(0, .ref h0), (1, .int n), (2, .int y)] := hl
    refine lv_aload_n hx hb d_G_written_0 rfl (lv_at hl 0 rfl) ?_
    refine lv_iload_n hx hb d_G_written_1 rfl (lv_at hl 1 rfl) ?_
    exact zcallVT (As := [.int n]) (rest := []) ⟨hx, hb, hml, hown, ht⟩ (c_G_oeX l D _ h0 qt qd qa qu qe cn fp n hl9) (cwV 1 ht (zt_goodV zm_611 zm_612 zm_17 zm_65 zm_613) rfl rfl rfl (by decide +kernel) ⟨Nat.le_of_ble_eq_true rfl, Nat.le_of_ble_eq_true rfl⟩) (zpreV zBlind_G hK hP hD [0, 1] [] rfl (by decide) rfl (fun U hU hW => zBlind_G s U hW.alike hU hX) (va_recv (q := ("ZipGuard", F_G, 4)) hK hP rfl (q0 := 0) (ci := 0) rfl)) rfl hl.1 (lv_room (Nat.le_of_ble_eq_true rfl)) d_G_written_2 ⟨Nat.le_of_ble_eq_true rfl, Nat.le_of_ble_eq_true rfl⟩ (fun q ce H1 _ _ z3 z4 z5 => zout hno hlk z3 z4 z5 (Nat.le_of_ble_eq_true rfl) (Nat.le_of_ble_eq_true rfl)))
set_option maxHeartbeats 4000000 in
set_option maxRecDepth 100000 in
theorem c_G_ab0 (l : Launch) (D : va_G) (sz : Nat) (h0 : Nat) (qt : Nat) (qd : Nat) (qa : Nat) (qu : Nat) (qb : Nat) (qe : Nat) (qo : Nat) (n0 : Int32) (cn : Int32) (fp : Int32) (bu : Int32) (ra : Int32) (to : Int32) (rs : Int32)  : Met l y_G_about (Cond.code y_G_about prog_1_method_13_code 2 (Option.some Jvm.ClassFile.FieldType.int) :: zt) { frames := 0, cells := 0, slots := 0, locals := 0 } (zPc [.ref h0, .int 0] D [(h0, .inr (0, [.ref qt, .ref qd, .ref qa, .ref qu])), (qt, .inr (1, [.ref qb, .int n0])), (qd, .inr (2, [.ref qe, .int cn, .int 0, .int fp, .ref qt])), (qa, .inr (3, [.int bu, .int ra, .int to, .ref qo, .int rs]))] [] sz (fun _ => True)) (va_Qi (fun (r : Int32) => fun (_ : Unit) => r = n0) (fun u t => zB D ((fun (_ : Unit) => [(h0, .inr (0, [.ref qt, .ref qd, .ref qa, .ref qu])), (qt, .inr (1, [.ref qb, .int n0])), (qd, .inr (2, [.ref qe, .int cn, .int 0, .int fp, .ref qt])), (qa, .inr (3, [.int bu, .int ra, .int to, .ref qo, .int rs]))]) u) ((fun (_ : Unit) => []) u) (va_A [(h0, .inr (0, [.ref qt, .ref qd, .ref qa, .ref qu])), (qt, .inr (1, [.ref qb, .int n0])), (qd, .inr (2, [.ref qe, .int cn, .int 0, .int fp, .ref qt])), (qa, .inr (3, [.int bu, .int ra, .int to, .ref qo, .int rs]))] sz) t) (va_A [(h0, .inr (0, [.ref qt, .ref qd, .ref qa, .ref qu])), (qt, .inr (1, [.ref qb, .int n0])), (qd, .inr (2, [.ref qe, .int cn, .int 0, .int fp, .ref qt])), (qa, .inr (3, [.int bu, .int ra, .int to, .ref qo, .int rs]))] sz)) 0 0 (va_A [(h0, .inr (0, [.ref qt, .ref qd, .ref qa, .ref qu])), (qt, .inr (1, [.ref qb, .int n0])), (qd, .inr (2, [.ref qe, .int cn, .int 0, .int fp, .ref qt])), (qa, .inr (3, [.int bu, .int ra, .int to, .ref qo, .int rs]))] sz) :=
  zMet (Qf := fun A => va_Qi (fun (r : Int32) => fun (_ : Unit) => r = n0) (fun u t => zB D ((fun (_ : Unit) => [(h0, .inr (0, [.ref qt, .ref qd, .ref qa, .ref qu])), (qt, .inr (1, [.ref qb, .int n0])), (qd, .inr (2, [.ref qe, .int cn, .int 0, .int fp, .ref qt])), (qa, .inr (3, [.int bu, .int ra, .int to, .ref qo, .int rs]))]) u) ((fun (_ : Unit) => []) u) A t) A) (by decide) (Nat.le_of_ble_eq_true rfl) (fun p e s m below meth c A ls hx hb hr hml hown ht hlk hnm hA hK hP hD hX hl => by
    have hS : va_S A s.heap s.heap [] := va_S.rf
    have hl : lv_has ls 2 [(0, .ref h0), (1, .int 0)] := hl
    refine lv_iload_n hx hb d_G_about_0 rfl (lv_at hl 1 rfl) ?_
    refine lv_tableIn (off := 35) (tgt := 36) hx hb d_G_about_1 (by decide) (by decide) (by decide) (by decide) ?_
    refine lv_aload_n hx hb d_G_about_36 rfl (lv_at hl 0 rfl) ?_
    refine va_get (ci := 0) (C := "ZipGuard") (T := F_G) (N := 4) hx hb ht zi_G hown hK hP 0 rfl rfl 0 (by decide) (ht _ zm_395) (fun _ h9 => h9) rfl d_G_about_37 ?_
    refine va_get (ci := 1) (C := "ZipGuard$Tape") (T := F_T) (N := 2) hx hb ht zi_T hown hK hP 1 rfl rfl 1 (by decide) (ht _ zm_98) (fun _ h9 => h9) rfl d_G_about_40 ?_
    exact zreti hx hb hr hlk hK hP hD hS () [0, 1, 2, 3] [] rfl (by decide) rfl (rfl) (Nat.le_of_ble_eq_true rfl) (Nat.le_of_ble_eq_true rfl) d_G_about_43)
set_option maxHeartbeats 4000000 in
set_option maxRecDepth 100000 in
theorem c_G_ab1 (l : Launch) (D : va_G) (sz : Nat) (h0 : Nat) (qt : Nat) (qd : Nat) (qa : Nat) (qu : Nat) (qb : Nat) (qe : Nat) (qo : Nat) (n0 : Int32) (cn : Int32) (fp : Int32) (bu : Int32) (ra : Int32) (to : Int32) (rs : Int32)  : Met l y_G_about (Cond.code y_G_about prog_1_method_13_code 2 (Option.some Jvm.ClassFile.FieldType.int) :: zt) { frames := 0, cells := 0, slots := 0, locals := 0 } (zPc [.ref h0, .int 1] D [(h0, .inr (0, [.ref qt, .ref qd, .ref qa, .ref qu])), (qt, .inr (1, [.ref qb, .int n0])), (qd, .inr (2, [.ref qe, .int cn, .int 0, .int fp, .ref qt])), (qa, .inr (3, [.int bu, .int ra, .int to, .ref qo, .int rs]))] [] sz (fun _ => True)) (va_Qi (fun (r : Int32) => fun (_ : Unit) => r = 0) (fun u t => zB D ((fun (_ : Unit) => [(h0, .inr (0, [.ref qt, .ref qd, .ref qa, .ref qu])), (qt, .inr (1, [.ref qb, .int n0])), (qd, .inr (2, [.ref qe, .int cn, .int 0, .int fp, .ref qt])), (qa, .inr (3, [.int bu, .int ra, .int to, .ref qo, .int rs]))]) u) ((fun (_ : Unit) => []) u) (va_A [(h0, .inr (0, [.ref qt, .ref qd, .ref qa, .ref qu])), (qt, .inr (1, [.ref qb, .int n0])), (qd, .inr (2, [.ref qe, .int cn, .int 0, .int fp, .ref qt])), (qa, .inr (3, [.int bu, .int ra, .int to, .ref qo, .int rs]))] sz) t) (va_A [(h0, .inr (0, [.ref qt, .ref qd, .ref qa, .ref qu])), (qt, .inr (1, [.ref qb, .int n0])), (qd, .inr (2, [.ref qe, .int cn, .int 0, .int fp, .ref qt])), (qa, .inr (3, [.int bu, .int ra, .int to, .ref qo, .int rs]))] sz)) 0 0 (va_A [(h0, .inr (0, [.ref qt, .ref qd, .ref qa, .ref qu])), (qt, .inr (1, [.ref qb, .int n0])), (qd, .inr (2, [.ref qe, .int cn, .int 0, .int fp, .ref qt])), (qa, .inr (3, [.int bu, .int ra, .int to, .ref qo, .int rs]))] sz) :=
  zMet (Qf := fun A => va_Qi (fun (r : Int32) => fun (_ : Unit) => r = 0) (fun u t => zB D ((fun (_ : Unit) => [(h0, .inr (0, [.ref qt, .ref qd, .ref qa, .ref qu])), (qt, .inr (1, [.ref qb, .int n0])), (qd, .inr (2, [.ref qe, .int cn, .int 0, .int fp, .ref qt])), (qa, .inr (3, [.int bu, .int ra, .int to, .ref qo, .int rs]))]) u) ((fun (_ : Unit) => []) u) A t) A) (by decide) (Nat.le_of_ble_eq_true rfl) (fun p e s m below meth c A ls hx hb hr hml hown ht hlk hnm hA hK hP hD hX hl => by
    have hS : va_S A s.heap s.heap [] := va_S.rf
    have hl : lv_has ls 2 [(0, .ref h0), (1, .int 1)] := hl
    refine lv_iload_n hx hb d_G_about_0 rfl (lv_at hl 1 rfl) ?_
    refine lv_tableIn (off := 43) (tgt := 44) hx hb d_G_about_1 (by decide) (by decide) (by decide) (by decide) ?_
    refine lv_aload_n hx hb d_G_about_44 rfl (lv_at hl 0 rfl) ?_
    refine va_get (ci := 0) (C := "ZipGuard") (T := F_G) (N := 4) hx hb ht zi_G hown hK hP 0 rfl rfl 1 (by decide) (ht _ zm_396) (fun _ h9 => h9) rfl d_G_about_45 ?_
    refine va_get (ci := 2) (C := "ZipGuard$Directory") (T := F_D) (N := 5) hx hb ht zi_D hown hK hP 2 rfl rfl 2 (by decide) (ht _ zm_184) (fun _ h9 => h9) rfl d_G_about_48 ?_
    refine lv_if_eq (tgt := 64) hx hb d_G_about_51 (by decide) (fun _ => ?_) (fun h => absurd (by decide) h)
    refine lv_iconst (v := 0) hx hb d_G_about_64 (by decide) ?_
    exact zreti hx hb hr hlk hK hP hD hS () [0, 1, 2, 3] [] rfl (by decide) rfl (rfl) (Nat.le_of_ble_eq_true rfl) (Nat.le_of_ble_eq_true rfl) d_G_about_65)
set_option maxHeartbeats 4000000 in
set_option maxRecDepth 100000 in
theorem c_G_ab2 (l : Launch) (D : va_G) (sz : Nat) (h0 : Nat) (qt : Nat) (qd : Nat) (qa : Nat) (qu : Nat) (qb : Nat) (qe : Nat) (qo : Nat) (n0 : Int32) (cn : Int32) (fp : Int32) (bu : Int32) (ra : Int32) (to : Int32) (rs : Int32)  : Met l y_G_about (Cond.code y_G_about prog_1_method_13_code 2 (Option.some Jvm.ClassFile.FieldType.int) :: zt) { frames := 0, cells := 0, slots := 0, locals := 0 } (zPc [.ref h0, .int 2] D [(h0, .inr (0, [.ref qt, .ref qd, .ref qa, .ref qu])), (qt, .inr (1, [.ref qb, .int n0])), (qd, .inr (2, [.ref qe, .int cn, .int 0, .int fp, .ref qt])), (qa, .inr (3, [.int bu, .int ra, .int to, .ref qo, .int rs]))] [] sz (fun _ => True)) (va_Qi (fun (r : Int32) => fun (_ : Unit) => r = to) (fun u t => zB D ((fun (_ : Unit) => [(h0, .inr (0, [.ref qt, .ref qd, .ref qa, .ref qu])), (qt, .inr (1, [.ref qb, .int n0])), (qd, .inr (2, [.ref qe, .int cn, .int 0, .int fp, .ref qt])), (qa, .inr (3, [.int bu, .int ra, .int to, .ref qo, .int rs]))]) u) ((fun (_ : Unit) => []) u) (va_A [(h0, .inr (0, [.ref qt, .ref qd, .ref qa, .ref qu])), (qt, .inr (1, [.ref qb, .int n0])), (qd, .inr (2, [.ref qe, .int cn, .int 0, .int fp, .ref qt])), (qa, .inr (3, [.int bu, .int ra, .int to, .ref qo, .int rs]))] sz) t) (va_A [(h0, .inr (0, [.ref qt, .ref qd, .ref qa, .ref qu])), (qt, .inr (1, [.ref qb, .int n0])), (qd, .inr (2, [.ref qe, .int cn, .int 0, .int fp, .ref qt])), (qa, .inr (3, [.int bu, .int ra, .int to, .ref qo, .int rs]))] sz)) 0 0 (va_A [(h0, .inr (0, [.ref qt, .ref qd, .ref qa, .ref qu])), (qt, .inr (1, [.ref qb, .int n0])), (qd, .inr (2, [.ref qe, .int cn, .int 0, .int fp, .ref qt])), (qa, .inr (3, [.int bu, .int ra, .int to, .ref qo, .int rs]))] sz) :=
  zMet (Qf := fun A => va_Qi (fun (r : Int32) => fun (_ : Unit) => r = to) (fun u t => zB D ((fun (_ : Unit) => [(h0, .inr (0, [.ref qt, .ref qd, .ref qa, .ref qu])), (qt, .inr (1, [.ref qb, .int n0])), (qd, .inr (2, [.ref qe, .int cn, .int 0, .int fp, .ref qt])), (qa, .inr (3, [.int bu, .int ra, .int to, .ref qo, .int rs]))]) u) ((fun (_ : Unit) => []) u) A t) A) (by decide) (Nat.le_of_ble_eq_true rfl) (fun p e s m below meth c A ls hx hb hr hml hown ht hlk hnm hA hK hP hD hX hl => by
    have hS : va_S A s.heap s.heap [] := va_S.rf
    have hl : lv_has ls 2 [(0, .ref h0), (1, .int 2)] := hl
    refine lv_iload_n hx hb d_G_about_0 rfl (lv_at hl 1 rfl) ?_
    refine lv_tableIn (off := 65) (tgt := 66) hx hb d_G_about_1 (by decide) (by decide) (by decide) (by decide) ?_
    refine lv_aload_n hx hb d_G_about_66 rfl (lv_at hl 0 rfl) ?_
    refine va_get (ci := 0) (C := "ZipGuard") (T := F_G) (N := 4) hx hb ht zi_G hown hK hP 0 rfl rfl 2 (by decide) (ht _ zm_397) (fun _ h9 => h9) rfl d_G_about_67 ?_
    refine va_get (ci := 3) (C := "ZipGuard$Target") (T := F_A) (N := 5) hx hb ht zi_A hown hK hP 3 rfl rfl 2 (by decide) (ht _ zm_211) (fun _ h9 => h9) rfl d_G_about_70 ?_
    exact zreti hx hb hr hlk hK hP hD hS () [0, 1, 2, 3] [] rfl (by decide) rfl (rfl) (Nat.le_of_ble_eq_true rfl) (Nat.le_of_ble_eq_true rfl) d_G_about_73)
set_option maxHeartbeats 4000000 in
set_option maxRecDepth 100000 in
theorem c_G_ab3 (l : Launch) (D : va_G) (sz : Nat) (h0 : Nat) (qt : Nat) (qd : Nat) (qa : Nat) (qu : Nat) (qb : Nat) (qe : Nat) (qo : Nat) (n0 : Int32) (cn : Int32) (fp : Int32) (bu : Int32) (ra : Int32) (to : Int32) (rs : Int32)  : Met l y_G_about (Cond.code y_G_about prog_1_method_13_code 2 (Option.some Jvm.ClassFile.FieldType.int) :: zt) { frames := 0, cells := 0, slots := 0, locals := 0 } (zPc [.ref h0, .int 3] D [(h0, .inr (0, [.ref qt, .ref qd, .ref qa, .ref qu])), (qt, .inr (1, [.ref qb, .int n0])), (qd, .inr (2, [.ref qe, .int cn, .int 0, .int fp, .ref qt])), (qa, .inr (3, [.int bu, .int ra, .int to, .ref qo, .int rs]))] [] sz (fun _ => True)) (va_Qi (fun (r : Int32) => fun (_ : Unit) => r = bu) (fun u t => zB D ((fun (_ : Unit) => [(h0, .inr (0, [.ref qt, .ref qd, .ref qa, .ref qu])), (qt, .inr (1, [.ref qb, .int n0])), (qd, .inr (2, [.ref qe, .int cn, .int 0, .int fp, .ref qt])), (qa, .inr (3, [.int bu, .int ra, .int to, .ref qo, .int rs]))]) u) ((fun (_ : Unit) => []) u) (va_A [(h0, .inr (0, [.ref qt, .ref qd, .ref qa, .ref qu])), (qt, .inr (1, [.ref qb, .int n0])), (qd, .inr (2, [.ref qe, .int cn, .int 0, .int fp, .ref qt])), (qa, .inr (3, [.int bu, .int ra, .int to, .ref qo, .int rs]))] sz) t) (va_A [(h0, .inr (0, [.ref qt, .ref qd, .ref qa, .ref qu])), (qt, .inr (1, [.ref qb, .int n0])), (qd, .inr (2, [.ref qe, .int cn, .int 0, .int fp, .ref qt])), (qa, .inr (3, [.int bu, .int ra, .int to, .ref qo, .int rs]))] sz)) 0 0 (va_A [(h0, .inr (0, [.ref qt, .ref qd, .ref qa, .ref qu])), (qt, .inr (1, [.ref qb, .int n0])), (qd, .inr (2, [.ref qe, .int cn, .int 0, .int fp, .ref qt])), (qa, .inr (3, [.int bu, .int ra, .int to, .ref qo, .int rs]))] sz) :=
  zMet (Qf := fun A => va_Qi (fun (r : Int32) => fun (_ : Unit) => r = bu) (fun u t => zB D ((fun (_ : Unit) => [(h0, .inr (0, [.ref qt, .ref qd, .ref qa, .ref qu])), (qt, .inr (1, [.ref qb, .int n0])), (qd, .inr (2, [.ref qe, .int cn, .int 0, .int fp, .ref qt])), (qa, .inr (3, [.int bu, .int ra, .int to, .ref qo, .int rs]))]) u) ((fun (_ : Unit) => []) u) A t) A) (by decide) (Nat.le_of_ble_eq_true rfl) (fun p e s m below meth c A ls hx hb hr hml hown ht hlk hnm hA hK hP hD hX hl => by
    have hS : va_S A s.heap s.heap [] := va_S.rf
    have hl : lv_has ls 2 [(0, .ref h0), (1, .int 3)] := hl
    refine lv_iload_n hx hb d_G_about_0 rfl (lv_at hl 1 rfl) ?_
    refine lv_tableIn (off := 73) (tgt := 74) hx hb d_G_about_1 (by decide) (by decide) (by decide) (by decide) ?_
    refine lv_aload_n hx hb d_G_about_74 rfl (lv_at hl 0 rfl) ?_
    refine va_get (ci := 0) (C := "ZipGuard") (T := F_G) (N := 4) hx hb ht zi_G hown hK hP 0 rfl rfl 2 (by decide) (ht _ zm_397) (fun _ h9 => h9) rfl d_G_about_75 ?_
    refine va_get (ci := 3) (C := "ZipGuard$Target") (T := F_A) (N := 5) hx hb ht zi_A hown hK hP 3 rfl rfl 0 (by decide) (ht _ zm_207) (fun _ h9 => h9) rfl d_G_about_78 ?_
    exact zreti hx hb hr hlk hK hP hD hS () [0, 1, 2, 3] [] rfl (by decide) rfl (rfl) (Nat.le_of_ble_eq_true rfl) (Nat.le_of_ble_eq_true rfl) d_G_about_81)
set_option maxHeartbeats 4000000 in
set_option maxRecDepth 100000 in
theorem c_G_ab4 (l : Launch) (D : va_G) (sz : Nat) (h0 : Nat) (qt : Nat) (qd : Nat) (qa : Nat) (qu : Nat) (qb : Nat) (qe : Nat) (qo : Nat) (n0 : Int32) (cn : Int32) (fp : Int32) (bu : Int32) (ra : Int32) (to : Int32) (rs : Int32)  : Met l y_G_about (Cond.code y_G_about prog_1_method_13_code 2 (Option.some Jvm.ClassFile.FieldType.int) :: zt) { frames := 0, cells := 0, slots := 0, locals := 0 } (zPc [.ref h0, .int 4] D [(h0, .inr (0, [.ref qt, .ref qd, .ref qa, .ref qu])), (qt, .inr (1, [.ref qb, .int n0])), (qd, .inr (2, [.ref qe, .int cn, .int 0, .int fp, .ref qt])), (qa, .inr (3, [.int bu, .int ra, .int to, .ref qo, .int rs]))] [] sz (fun _ => True)) (va_Qi (fun (r : Int32) => fun (_ : Unit) => r = ra) (fun u t => zB D ((fun (_ : Unit) => [(h0, .inr (0, [.ref qt, .ref qd, .ref qa, .ref qu])), (qt, .inr (1, [.ref qb, .int n0])), (qd, .inr (2, [.ref qe, .int cn, .int 0, .int fp, .ref qt])), (qa, .inr (3, [.int bu, .int ra, .int to, .ref qo, .int rs]))]) u) ((fun (_ : Unit) => []) u) (va_A [(h0, .inr (0, [.ref qt, .ref qd, .ref qa, .ref qu])), (qt, .inr (1, [.ref qb, .int n0])), (qd, .inr (2, [.ref qe, .int cn, .int 0, .int fp, .ref qt])), (qa, .inr (3, [.int bu, .int ra, .int to, .ref qo, .int rs]))] sz) t) (va_A [(h0, .inr (0, [.ref qt, .ref qd, .ref qa, .ref qu])), (qt, .inr (1, [.ref qb, .int n0])), (qd, .inr (2, [.ref qe, .int cn, .int 0, .int fp, .ref qt])), (qa, .inr (3, [.int bu, .int ra, .int to, .ref qo, .int rs]))] sz)) 0 0 (va_A [(h0, .inr (0, [.ref qt, .ref qd, .ref qa, .ref qu])), (qt, .inr (1, [.ref qb, .int n0])), (qd, .inr (2, [.ref qe, .int cn, .int 0, .int fp, .ref qt])), (qa, .inr (3, [.int bu, .int ra, .int to, .ref qo, .int rs]))] sz) :=
  zMet (Qf := fun A => va_Qi (fun (r : Int32) => fun (_ : Unit) => r = ra) (fun u t => zB D ((fun (_ : Unit) => [(h0, .inr (0, [.ref qt, .ref qd, .ref qa, .ref qu])), (qt, .inr (1, [.ref qb, .int n0])), (qd, .inr (2, [.ref qe, .int cn, .int 0, .int fp, .ref qt])), (qa, .inr (3, [.int bu, .int ra, .int to, .ref qo, .int rs]))]) u) ((fun (_ : Unit) => []) u) A t) A) (by decide) (Nat.le_of_ble_eq_true rfl) (fun p e s m below meth c A ls hx hb hr hml hown ht hlk hnm hA hK hP hD hX hl => by
    have hS : va_S A s.heap s.heap [] := va_S.rf
    have hl : lv_has ls 2 [(0, .ref h0), (1, .int 4)] := hl
    refine lv_iload_n hx hb d_G_about_0 rfl (lv_at hl 1 rfl) ?_
    refine lv_tableIn (off := 81) (tgt := 82) hx hb d_G_about_1 (by decide) (by decide) (by decide) (by decide) ?_
    refine lv_aload_n hx hb d_G_about_82 rfl (lv_at hl 0 rfl) ?_
    refine va_get (ci := 0) (C := "ZipGuard") (T := F_G) (N := 4) hx hb ht zi_G hown hK hP 0 rfl rfl 2 (by decide) (ht _ zm_397) (fun _ h9 => h9) rfl d_G_about_83 ?_
    refine va_get (ci := 3) (C := "ZipGuard$Target") (T := F_A) (N := 5) hx hb ht zi_A hown hK hP 3 rfl rfl 1 (by decide) (ht _ zm_209) (fun _ h9 => h9) rfl d_G_about_86 ?_
    exact zreti hx hb hr hlk hK hP hD hS () [0, 1, 2, 3] [] rfl (by decide) rfl (rfl) (Nat.le_of_ble_eq_true rfl) (Nat.le_of_ble_eq_true rfl) d_G_about_89)
set_option maxHeartbeats 4000000 in
set_option maxRecDepth 100000 in
theorem c_G_abX (l : Launch) (D : va_G) (sz : Nat) (h0 : Nat) (qt : Nat) (qd : Nat) (qa : Nat) (qu : Nat) (n : Int32) (hl9 : l.stackTraces = false) (hbad : n.toInt < 0 ∨ 4 < n.toInt) : zTh l y_G_about (Cond.code y_G_about prog_1_method_13_code 2 (Option.some Jvm.ClassFile.FieldType.int) :: zt) { frames := 6, cells := 1, slots := 6, locals := 90 } (zPc [.ref h0, .int n] D [(h0, .inr (0, [.ref qt, .ref qd, .ref qa, .ref qu]))] [] sz (zG)) "java/lang/IllegalArgumentException" 1 6 :=
  zTh_of (by decide) (Nat.le_of_ble_eq_true rfl) (fun p e s m below meth c A ls hx hb hr hml hown ht hlk hno hA hK hP hD hX hl => by
    have hS : va_S A s.heap s.heap [] := va_S.rf
    have hl : lv_has ls 2 [(0, .ref h0), (1, .int n)] := hl
    refine lv_iload_n hx hb d_G_about_0 rfl (lv_at hl 1 rfl) ?_
    refine lv_tableOut (tgt := 90) hx hb d_G_about_1 hbad (by decide) ?_
    exact zthrow (cls := zIAE) (names := zUP) (ik := 59) (ic := 61) (rest := []) hx hb hl9 hown (by decide) (by decide) (ht _ zm_561) (ht _ zm_77) (zhat zkey_IAE ht hX) (hl.1.trans hml.symm) d_G_about_90 d_G_about_93 d_G_about_94 d_G_about_97 hno (Nat.le_of_ble_eq_true rfl) (Nat.le_of_ble_eq_true rfl) (Nat.le_of_ble_eq_true rfl) (Nat.le_of_ble_eq_true rfl) hlk (Nat.le_of_ble_eq_true rfl) (Nat.le_of_ble_eq_true rfl))
end
