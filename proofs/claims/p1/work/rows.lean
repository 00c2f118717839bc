section
-- ===== PART A: goes FIRST, ahead of the names: the tables' words, and 'selects' of the private methods out of them =====
/-- a private method of a class that the tables say can be made, by its rows of tables_1 -/
def lw_okq (q : MethodName × Nat) : Prop := (q.1.cls ≠ "java/lang/invoke/MethodHandle" ∧ q.1.cls ≠ "java/lang/invoke/VarHandle") ∧ Cond.instantiable q.1.cls q.2 ∈ tables_1 ∧ Cond.privateMethod q.1 ∈ tables_1 ∧ Cond.instanceMethod q.1 ∈ tables_1
theorem lw_p0 : lw_okq (⟨"PackageBook", "takeTape", "()I"⟩, 11) := ⟨⟨by decide +kernel, by decide +kernel⟩, List.mem_of_getElem? (i := 26) (by decide +kernel), List.mem_of_getElem? (i := 339) (by decide +kernel), List.mem_of_getElem? (i := 340) (by decide +kernel)⟩
theorem lw_p1 : lw_okq (⟨"PackageBook$FileMaker", "putRecord", "(LPackageBook$Shelf;ILPackageBook$Presser;)V"⟩, 2) := ⟨⟨by decide +kernel, by decide +kernel⟩, List.mem_of_getElem? (i := 168) (by decide +kernel), List.mem_of_getElem? (i := 377) (by decide +kernel), List.mem_of_getElem? (i := 378) (by decide +kernel)⟩
theorem lw_p2 : lw_okq (⟨"PackageBook$Presser", "putNumber", "(II)V"⟩, 9) := ⟨⟨by decide +kernel, by decide +kernel⟩, List.mem_of_getElem? (i := 57) (by decide +kernel), List.mem_of_getElem? (i := 389) (by decide +kernel), List.mem_of_getElem? (i := 390) (by decide +kernel)⟩
theorem lw_p3 : lw_okq (⟨"PackageBook$Presser", "findLongest", "(I)V"⟩, 9) := ⟨⟨by decide +kernel, by decide +kernel⟩, List.mem_of_getElem? (i := 57) (by decide +kernel), List.mem_of_getElem? (i := 393) (by decide +kernel), List.mem_of_getElem? (i := 394) (by decide +kernel)⟩
theorem lw_p4 : lw_okq (⟨"PackageBook$Presser", "mixAt", "(I)I"⟩, 9) := ⟨⟨by decide +kernel, by decide +kernel⟩, List.mem_of_getElem? (i := 57) (by decide +kernel), List.mem_of_getElem? (i := 400) (by decide +kernel), List.mem_of_getElem? (i := 401) (by decide +kernel)⟩
theorem lw_p5 : lw_okq (⟨"PackageBook$Presser", "sameFrom", "(III)I"⟩, 9) := ⟨⟨by decide +kernel, by decide +kernel⟩, List.mem_of_getElem? (i := 57) (by decide +kernel), List.mem_of_getElem? (i := 404) (by decide +kernel), List.mem_of_getElem? (i := 405) (by decide +kernel)⟩
theorem lw_p6 : lw_okq (⟨"PackageBook$Presser", "putSymbol", "(I)V"⟩, 9) := ⟨⟨by decide +kernel, by decide +kernel⟩, List.mem_of_getElem? (i := 57) (by decide +kernel), List.mem_of_getElem? (i := 408) (by decide +kernel), List.mem_of_getElem? (i := 409) (by decide +kernel)⟩
theorem lw_p7 : lw_okq (⟨"PackageBook$Presser", "putLength", "()V"⟩, 9) := ⟨⟨by decide +kernel, by decide +kernel⟩, List.mem_of_getElem? (i := 57) (by decide +kernel), List.mem_of_getElem? (i := 415) (by decide +kernel), List.mem_of_getElem? (i := 416) (by decide +kernel)⟩
theorem lw_p8 : lw_okq (⟨"PackageBook$Presser", "putDistance", "()V"⟩, 9) := ⟨⟨by decide +kernel, by decide +kernel⟩, List.mem_of_getElem? (i := 57) (by decide +kernel), List.mem_of_getElem? (i := 419) (by decide +kernel), List.mem_of_getElem? (i := 420) (by decide +kernel)⟩
theorem lw_p9 : lw_okq (⟨"PackageBook$Presser", "remember", "(I)V"⟩, 9) := ⟨⟨by decide +kernel, by decide +kernel⟩, List.mem_of_getElem? (i := 57) (by decide +kernel), List.mem_of_getElem? (i := 423) (by decide +kernel), List.mem_of_getElem? (i := 424) (by decide +kernel)⟩
theorem lw_p10 : lw_okq (⟨"PackageBook$FileMaker", "putEntry", "(LPackageBook$Shelf;I)V"⟩, 2) := ⟨⟨by decide +kernel, by decide +kernel⟩, List.mem_of_getElem? (i := 168) (by decide +kernel), List.mem_of_getElem? (i := 450) (by decide +kernel), List.mem_of_getElem? (i := 451) (by decide +kernel)⟩
theorem lw_p11 : lw_okq (⟨"PackageBook$FileMaker", "putEnd", "(II)V"⟩, 2) := ⟨⟨by decide +kernel, by decide +kernel⟩, List.mem_of_getElem? (i := 168) (by decide +kernel), List.mem_of_getElem? (i := 455) (by decide +kernel), List.mem_of_getElem? (i := 456) (by decide +kernel)⟩
theorem lw_p12 : lw_okq (⟨"PackageBook$FileReader", "isEnd", "(I)Z"⟩, 1) := ⟨⟨by decide +kernel, by decide +kernel⟩, List.mem_of_getElem? (i := 184) (by decide +kernel), List.mem_of_getElem? (i := 472) (by decide +kernel), List.mem_of_getElem? (i := 473) (by decide +kernel)⟩
theorem lw_p13 : lw_okq (⟨"PackageBook$FileReader", "isDirectory", "(III)Z"⟩, 1) := ⟨⟨by decide +kernel, by decide +kernel⟩, List.mem_of_getElem? (i := 184) (by decide +kernel), List.mem_of_getElem? (i := 484) (by decide +kernel), List.mem_of_getElem? (i := 485) (by decide +kernel)⟩
theorem lw_p14 : lw_okq (⟨"PackageBook$FileReader", "isEntry", "(I)Z"⟩, 1) := ⟨⟨by decide +kernel, by decide +kernel⟩, List.mem_of_getElem? (i := 184) (by decide +kernel), List.mem_of_getElem? (i := 488) (by decide +kernel), List.mem_of_getElem? (i := 489) (by decide +kernel)⟩
theorem lw_p15 : lw_okq (⟨"PackageBook$FileReader", "readEntry", "(IJLPackageBook$Shelf;LPackageBook$Expander;)I"⟩, 1) := ⟨⟨by decide +kernel, by decide +kernel⟩, List.mem_of_getElem? (i := 184) (by decide +kernel), List.mem_of_getElem? (i := 493) (by decide +kernel), List.mem_of_getElem? (i := 494) (by decide +kernel)⟩
def lw_privs_1 : List (MethodName × Nat) := [(⟨"PackageBook", "takeTape", "()I"⟩, 11), (⟨"PackageBook$FileMaker", "putRecord", "(LPackageBook$Shelf;ILPackageBook$Presser;)V"⟩, 2), (⟨"PackageBook$Presser", "putNumber", "(II)V"⟩, 9), (⟨"PackageBook$Presser", "findLongest", "(I)V"⟩, 9), (⟨"PackageBook$Presser", "mixAt", "(I)I"⟩, 9), (⟨"PackageBook$Presser", "sameFrom", "(III)I"⟩, 9), (⟨"PackageBook$Presser", "putSymbol", "(I)V"⟩, 9), (⟨"PackageBook$Presser", "putLength", "()V"⟩, 9), (⟨"PackageBook$Presser", "putDistance", "()V"⟩, 9), (⟨"PackageBook$Presser", "remember", "(I)V"⟩, 9), (⟨"PackageBook$FileMaker", "putEntry", "(LPackageBook$Shelf;I)V"⟩, 2), (⟨"PackageBook$FileMaker", "putEnd", "(II)V"⟩, 2), (⟨"PackageBook$FileReader", "isEnd", "(I)Z"⟩, 1), (⟨"PackageBook$FileReader", "isDirectory", "(III)Z"⟩, 1), (⟨"PackageBook$FileReader", "isEntry", "(I)Z"⟩, 1), (⟨"PackageBook$FileReader", "readEntry", "(IJLPackageBook$Shelf;LPackageBook$Expander;)I"⟩, 1)]
theorem lw_r1 : ∀ q ∈ lw_privs_1, lw_okq q := List.forall_mem_cons.mpr ⟨lw_p0, List.forall_mem_cons.mpr ⟨lw_p1, List.forall_mem_cons.mpr ⟨lw_p2, List.forall_mem_cons.mpr ⟨lw_p3, List.forall_mem_cons.mpr ⟨lw_p4, List.forall_mem_cons.mpr ⟨lw_p5, List.forall_mem_cons.mpr ⟨lw_p6, List.forall_mem_cons.mpr ⟨lw_p7, List.forall_mem_cons.mpr ⟨lw_p8, List.forall_mem_cons.mpr ⟨lw_p9, List.forall_mem_cons.mpr ⟨lw_p10, List.forall_mem_cons.mpr ⟨lw_p11, List.forall_mem_cons.mpr ⟨lw_p12, List.forall_mem_cons.mpr ⟨lw_p13, List.forall_mem_cons.mpr ⟨lw_p14, List.forall_mem_cons.mpr ⟨lw_p15, fun _ h => absurd h List.not_mem_nil⟩⟩⟩⟩⟩⟩⟩⟩⟩⟩⟩⟩⟩⟩⟩⟩
theorem lw_p16 : lw_okq (⟨"PackageBook$FileReader", "isRecordOf", "(III)Z"⟩, 1) := ⟨⟨by decide +kernel, by decide +kernel⟩, List.mem_of_getElem? (i := 184) (by decide +kernel), List.mem_of_getElem? (i := 498) (by decide +kernel), List.mem_of_getElem? (i := 499) (by decide +kernel)⟩
theorem lw_p17 : lw_okq (⟨"PackageBook$Expander", "number", "(I)I"⟩, 11) := ⟨⟨by decide +kernel, by decide +kernel⟩, List.mem_of_getElem? (i := 96) (by decide +kernel), List.mem_of_getElem? (i := 515) (by decide +kernel), List.mem_of_getElem? (i := 516) (by decide +kernel)⟩
theorem lw_p18 : lw_okq (⟨"PackageBook$Expander", "readStored", "()V"⟩, 11) := ⟨⟨by decide +kernel, by decide +kernel⟩, List.mem_of_getElem? (i := 96) (by decide +kernel), List.mem_of_getElem? (i := 519) (by decide +kernel), List.mem_of_getElem? (i := 520) (by decide +kernel)⟩
theorem lw_p19 : lw_okq (⟨"PackageBook$Expander", "fail", "(I)V"⟩, 11) := ⟨⟨by decide +kernel, by decide +kernel⟩, List.mem_of_getElem? (i := 96) (by decide +kernel), List.mem_of_getElem? (i := 524) (by decide +kernel), List.mem_of_getElem? (i := 525) (by decide +kernel)⟩
theorem lw_p20 : lw_okq (⟨"PackageBook$Expander", "putByte", "(I)V"⟩, 11) := ⟨⟨by decide +kernel, by decide +kernel⟩, List.mem_of_getElem? (i := 96) (by decide +kernel), List.mem_of_getElem? (i := 528) (by decide +kernel), List.mem_of_getElem? (i := 529) (by decide +kernel)⟩
theorem lw_p21 : lw_okq (⟨"PackageBook$Expander", "readSymbols", "(LPackageBook$Code;LPackageBook$Code;)V"⟩, 11) := ⟨⟨by decide +kernel, by decide +kernel⟩, List.mem_of_getElem? (i := 96) (by decide +kernel), List.mem_of_getElem? (i := 533) (by decide +kernel), List.mem_of_getElem? (i := 534) (by decide +kernel)⟩
theorem lw_p22 : lw_okq (⟨"PackageBook$Expander", "symbol", "(LPackageBook$Code;)I"⟩, 11) := ⟨⟨by decide +kernel, by decide +kernel⟩, List.mem_of_getElem? (i := 96) (by decide +kernel), List.mem_of_getElem? (i := 537) (by decide +kernel), List.mem_of_getElem? (i := 538) (by decide +kernel)⟩
theorem lw_p23 : lw_okq (⟨"PackageBook$Expander", "repeat", "(ILPackageBook$Code;)V"⟩, 11) := ⟨⟨by decide +kernel, by decide +kernel⟩, List.mem_of_getElem? (i := 96) (by decide +kernel), List.mem_of_getElem? (i := 541) (by decide +kernel), List.mem_of_getElem? (i := 542) (by decide +kernel)⟩
theorem lw_p24 : lw_okq (⟨"PackageBook$Expander", "readCodes", "()V"⟩, 11) := ⟨⟨by decide +kernel, by decide +kernel⟩, List.mem_of_getElem? (i := 96) (by decide +kernel), List.mem_of_getElem? (i := 557) (by decide +kernel), List.mem_of_getElem? (i := 558) (by decide +kernel)⟩
theorem lw_p25 : lw_okq (⟨"PackageBook$Expander", "readTold", "(I)V"⟩, 11) := ⟨⟨by decide +kernel, by decide +kernel⟩, List.mem_of_getElem? (i := 96) (by decide +kernel), List.mem_of_getElem? (i := 566) (by decide +kernel), List.mem_of_getElem? (i := 567) (by decide +kernel)⟩
theorem lw_p26 : lw_okq (⟨"PackageBook$Shelf", "placeOf", "([BII)I"⟩, 5) := ⟨⟨by decide +kernel, by decide +kernel⟩, List.mem_of_getElem? (i := 267) (by decide +kernel), List.mem_of_getElem? (i := 585) (by decide +kernel), List.mem_of_getElem? (i := 586) (by decide +kernel)⟩
theorem lw_p27 : lw_okq (⟨"PackageBook$Shelf", "isBefore", "(I[BII)Z"⟩, 5) := ⟨⟨by decide +kernel, by decide +kernel⟩, List.mem_of_getElem? (i := 267) (by decide +kernel), List.mem_of_getElem? (i := 589) (by decide +kernel), List.mem_of_getElem? (i := 590) (by decide +kernel)⟩
theorem lw_p28 : lw_okq (⟨"PackageBook", "settle", "(I)I"⟩, 11) := ⟨⟨by decide +kernel, by decide +kernel⟩, List.mem_of_getElem? (i := 26) (by decide +kernel), List.mem_of_getElem? (i := 593) (by decide +kernel), List.mem_of_getElem? (i := 594) (by decide +kernel)⟩
theorem lw_p29 : lw_okq (⟨"PackageBook$Shelf", "endsWith", "(ILjava/lang/String;)Z"⟩, 5) := ⟨⟨by decide +kernel, by decide +kernel⟩, List.mem_of_getElem? (i := 267) (by decide +kernel), List.mem_of_getElem? (i := 621) (by decide +kernel), List.mem_of_getElem? (i := 622) (by decide +kernel)⟩
theorem lw_p30 : lw_okq (⟨"PackageBook$Markup", "readHead", "()Z"⟩, 13) := ⟨⟨by decide +kernel, by decide +kernel⟩, List.mem_of_getElem? (i := 194) (by decide +kernel), List.mem_of_getElem? (i := 682) (by decide +kernel), List.mem_of_getElem? (i := 683) (by decide +kernel)⟩
theorem lw_p31 : lw_okq (⟨"PackageBook$Markup", "skipGaps", "()Z"⟩, 13) := ⟨⟨by decide +kernel, by decide +kernel⟩, List.mem_of_getElem? (i := 194) (by decide +kernel), List.mem_of_getElem? (i := 686) (by decide +kernel), List.mem_of_getElem? (i := 687) (by decide +kernel)⟩
def lw_privs_2 : List (MethodName × Nat) := [(⟨"PackageBook$FileReader", "isRecordOf", "(III)Z"⟩, 1), (⟨"PackageBook$Expander", "number", "(I)I"⟩, 11), (⟨"PackageBook$Expander", "readStored", "()V"⟩, 11), (⟨"PackageBook$Expander", "fail", "(I)V"⟩, 11), (⟨"PackageBook$Expander", "putByte", "(I)V"⟩, 11), (⟨"PackageBook$Expander", "readSymbols", "(LPackageBook$Code;LPackageBook$Code;)V"⟩, 11), (⟨"PackageBook$Expander", "symbol", "(LPackageBook$Code;)I"⟩, 11), (⟨"PackageBook$Expander", "repeat", "(ILPackageBook$Code;)V"⟩, 11), (⟨"PackageBook$Expander", "readCodes", "()V"⟩, 11), (⟨"PackageBook$Expander", "readTold", "(I)V"⟩, 11), (⟨"PackageBook$Shelf", "placeOf", "([BII)I"⟩, 5), (⟨"PackageBook$Shelf", "isBefore", "(I[BII)Z"⟩, 5), (⟨"PackageBook", "settle", "(I)I"⟩, 11), (⟨"PackageBook$Shelf", "endsWith", "(ILjava/lang/String;)Z"⟩, 5), (⟨"PackageBook$Markup", "readHead", "()Z"⟩, 13), (⟨"PackageBook$Markup", "skipGaps", "()Z"⟩, 13)]
theorem lw_r2 : ∀ q ∈ lw_privs_2, lw_okq q := List.forall_mem_cons.mpr ⟨lw_p16, List.forall_mem_cons.mpr ⟨lw_p17, List.forall_mem_cons.mpr ⟨lw_p18, List.forall_mem_cons.mpr ⟨lw_p19, List.forall_mem_cons.mpr ⟨lw_p20, List.forall_mem_cons.mpr ⟨lw_p21, List.forall_mem_cons.mpr ⟨lw_p22, List.forall_mem_cons.mpr ⟨lw_p23, List.forall_mem_cons.mpr ⟨lw_p24, List.forall_mem_cons.mpr ⟨lw_p25, List.forall_mem_cons.mpr ⟨lw_p26, List.forall_mem_cons.mpr ⟨lw_p27, List.forall_mem_cons.mpr ⟨lw_p28, List.forall_mem_cons.mpr ⟨lw_p29, List.forall_mem_cons.mpr ⟨lw_p30, List.forall_mem_cons.mpr ⟨lw_p31, fun _ h => absurd h List.not_mem_nil⟩⟩⟩⟩⟩⟩⟩⟩⟩⟩⟩⟩⟩⟩⟩⟩
theorem lw_p32 : lw_okq (⟨"PackageBook$Markup", "skipSpace", "()Z"⟩, 13) := ⟨⟨by decide +kernel, by decide +kernel⟩, List.mem_of_getElem? (i := 194) (by decide +kernel), List.mem_of_getElem? (i := 690) (by decide +kernel), List.mem_of_getElem? (i := 691) (by decide +kernel)⟩
theorem lw_p33 : lw_okq (⟨"PackageBook$Markup", "next", "(I)I"⟩, 13) := ⟨⟨by decide +kernel, by decide +kernel⟩, List.mem_of_getElem? (i := 194) (by decide +kernel), List.mem_of_getElem? (i := 694) (by decide +kernel), List.mem_of_getElem? (i := 695) (by decide +kernel)⟩
theorem lw_p34 : lw_okq (⟨"PackageBook$Markup", "skipComment", "()Z"⟩, 13) := ⟨⟨by decide +kernel, by decide +kernel⟩, List.mem_of_getElem? (i := 194) (by decide +kernel), List.mem_of_getElem? (i := 701) (by decide +kernel), List.mem_of_getElem? (i := 702) (by decide +kernel)⟩
theorem lw_p35 : lw_okq (⟨"PackageBook$Markup", "takeText", "(Ljava/lang/String;)Z"⟩, 13) := ⟨⟨by decide +kernel, by decide +kernel⟩, List.mem_of_getElem? (i := 194) (by decide +kernel), List.mem_of_getElem? (i := 706) (by decide +kernel), List.mem_of_getElem? (i := 707) (by decide +kernel)⟩
theorem lw_p36 : lw_okq (⟨"PackageBook$Markup", "fail", "(I)Z"⟩, 13) := ⟨⟨by decide +kernel, by decide +kernel⟩, List.mem_of_getElem? (i := 194) (by decide +kernel), List.mem_of_getElem? (i := 712) (by decide +kernel), List.mem_of_getElem? (i := 713) (by decide +kernel)⟩
theorem lw_p37 : lw_okq (⟨"PackageBook$Markup", "isElementNext", "()Z"⟩, 13) := ⟨⟨by decide +kernel, by decide +kernel⟩, List.mem_of_getElem? (i := 194) (by decide +kernel), List.mem_of_getElem? (i := 720) (by decide +kernel), List.mem_of_getElem? (i := 721) (by decide +kernel)⟩
theorem lw_p38 : lw_okq (⟨"PackageBook$Markup", "readElement", "(LPackageBook$Shelf;)Z"⟩, 13) := ⟨⟨by decide +kernel, by decide +kernel⟩, List.mem_of_getElem? (i := 194) (by decide +kernel), List.mem_of_getElem? (i := 724) (by decide +kernel), List.mem_of_getElem? (i := 725) (by decide +kernel)⟩
theorem lw_p39 : lw_okq (⟨"PackageBook$Markup", "readAttribute", "(LPackageBook$Shelf;)Z"⟩, 13) := ⟨⟨by decide +kernel, by decide +kernel⟩, List.mem_of_getElem? (i := 194) (by decide +kernel), List.mem_of_getElem? (i := 729) (by decide +kernel), List.mem_of_getElem? (i := 730) (by decide +kernel)⟩
theorem lw_p40 : lw_okq (⟨"PackageBook$Markup", "skipLetters", "()V"⟩, 13) := ⟨⟨by decide +kernel, by decide +kernel⟩, List.mem_of_getElem? (i := 194) (by decide +kernel), List.mem_of_getElem? (i := 733) (by decide +kernel), List.mem_of_getElem? (i := 734) (by decide +kernel)⟩
theorem lw_p41 : lw_okq (⟨"PackageBook$Markup", "isText", "(ILjava/lang/String;)Z"⟩, 13) := ⟨⟨by decide +kernel, by decide +kernel⟩, List.mem_of_getElem? (i := 194) (by decide +kernel), List.mem_of_getElem? (i := 738) (by decide +kernel), List.mem_of_getElem? (i := 739) (by decide +kernel)⟩
theorem lw_p42 : lw_okq (⟨"PackageBook$Markup", "readValue", "(I)Z"⟩, 13) := ⟨⟨by decide +kernel, by decide +kernel⟩, List.mem_of_getElem? (i := 194) (by decide +kernel), List.mem_of_getElem? (i := 744) (by decide +kernel), List.mem_of_getElem? (i := 745) (by decide +kernel)⟩
theorem lw_p43 : lw_okq (⟨"PackageBook$Markup", "readNumber", "()I"⟩, 13) := ⟨⟨by decide +kernel, by decide +kernel⟩, List.mem_of_getElem? (i := 194) (by decide +kernel), List.mem_of_getElem? (i := 748) (by decide +kernel), List.mem_of_getElem? (i := 749) (by decide +kernel)⟩
theorem lw_p44 : lw_okq (⟨"PackageBook$Markup", "readNamed", "()I"⟩, 13) := ⟨⟨by decide +kernel, by decide +kernel⟩, List.mem_of_getElem? (i := 194) (by decide +kernel), List.mem_of_getElem? (i := 752) (by decide +kernel), List.mem_of_getElem? (i := 753) (by decide +kernel)⟩
theorem lw_p45 : lw_okq (⟨"PackageBook$Markup", "keepId", "()Z"⟩, 13) := ⟨⟨by decide +kernel, by decide +kernel⟩, List.mem_of_getElem? (i := 194) (by decide +kernel), List.mem_of_getElem? (i := 762) (by decide +kernel), List.mem_of_getElem? (i := 763) (by decide +kernel)⟩
theorem lw_p46 : lw_okq (⟨"PackageBook$Markup", "keepGoal", "(LPackageBook$Shelf;)Z"⟩, 13) := ⟨⟨by decide +kernel, by decide +kernel⟩, List.mem_of_getElem? (i := 194) (by decide +kernel), List.mem_of_getElem? (i := 766) (by decide +kernel), List.mem_of_getElem? (i := 767) (by decide +kernel)⟩
theorem lw_p47 : lw_okq (⟨"PackageBook$Markup", "readClose", "(Ljava/lang/String;)Z"⟩, 13) := ⟨⟨by decide +kernel, by decide +kernel⟩, List.mem_of_getElem? (i := 194) (by decide +kernel), List.mem_of_getElem? (i := 773) (by decide +kernel), List.mem_of_getElem? (i := 774) (by decide +kernel)⟩
def lw_privs_3 : List (MethodName × Nat) := [(⟨"PackageBook$Markup", "skipSpace", "()Z"⟩, 13), (⟨"PackageBook$Markup", "next", "(I)I"⟩, 13), (⟨"PackageBook$Markup", "skipComment", "()Z"⟩, 13), (⟨"PackageBook$Markup", "takeText", "(Ljava/lang/String;)Z"⟩, 13), (⟨"PackageBook$Markup", "fail", "(I)Z"⟩, 13), (⟨"PackageBook$Markup", "isElementNext", "()Z"⟩, 13), (⟨"PackageBook$Markup", "readElement", "(LPackageBook$Shelf;)Z"⟩, 13), (⟨"PackageBook$Markup", "readAttribute", "(LPackageBook$Shelf;)Z"⟩, 13), (⟨"PackageBook$Markup", "skipLetters", "()V"⟩, 13), (⟨"PackageBook$Markup", "isText", "(ILjava/lang/String;)Z"⟩, 13), (⟨"PackageBook$Markup", "readValue", "(I)Z"⟩, 13), (⟨"PackageBook$Markup", "readNumber", "()I"⟩, 13), (⟨"PackageBook$Markup", "readNamed", "()I"⟩, 13), (⟨"PackageBook$Markup", "keepId", "()Z"⟩, 13), (⟨"PackageBook$Markup", "keepGoal", "(LPackageBook$Shelf;)Z"⟩, 13), (⟨"PackageBook$Markup", "readClose", "(Ljava/lang/String;)Z"⟩, 13)]
theorem lw_r3 : ∀ q ∈ lw_privs_3, lw_okq q := List.forall_mem_cons.mpr ⟨lw_p32, List.forall_mem_cons.mpr ⟨lw_p33, List.forall_mem_cons.mpr ⟨lw_p34, List.forall_mem_cons.mpr ⟨lw_p35, List.forall_mem_cons.mpr ⟨lw_p36, List.forall_mem_cons.mpr ⟨lw_p37, List.forall_mem_cons.mpr ⟨lw_p38, List.forall_mem_cons.mpr ⟨lw_p39, List.forall_mem_cons.mpr ⟨lw_p40, List.forall_mem_cons.mpr ⟨lw_p41, List.forall_mem_cons.mpr ⟨lw_p42, List.forall_mem_cons.mpr ⟨lw_p43, List.forall_mem_cons.mpr ⟨lw_p44, List.forall_mem_cons.mpr ⟨lw_p45, List.forall_mem_cons.mpr ⟨lw_p46, List.forall_mem_cons.mpr ⟨lw_p47, fun _ h => absurd h List.not_mem_nil⟩⟩⟩⟩⟩⟩⟩⟩⟩⟩⟩⟩⟩⟩⟩⟩
theorem lw_p48 : lw_okq (⟨"PackageBook$Markup", "readTail", "()Z"⟩, 13) := ⟨⟨by decide +kernel, by decide +kernel⟩, List.mem_of_getElem? (i := 194) (by decide +kernel), List.mem_of_getElem? (i := 777) (by decide +kernel), List.mem_of_getElem? (i := 778) (by decide +kernel)⟩
theorem lw_p49 : lw_okq (⟨"PackageBook", "noteRelations", "(I)V"⟩, 11) := ⟨⟨by decide +kernel, by decide +kernel⟩, List.mem_of_getElem? (i := 26) (by decide +kernel), List.mem_of_getElem? (i := 786) (by decide +kernel), List.mem_of_getElem? (i := 787) (by decide +kernel)⟩
theorem lw_p50 : lw_okq (⟨"PackageBook", "noteUnreached", "()V"⟩, 11) := ⟨⟨by decide +kernel, by decide +kernel⟩, List.mem_of_getElem? (i := 26) (by decide +kernel), List.mem_of_getElem? (i := 802) (by decide +kernel), List.mem_of_getElem? (i := 803) (by decide +kernel)⟩
theorem lw_p51 : lw_okq (⟨"PackageBook", "reachedFromRoot", "()I"⟩, 11) := ⟨⟨by decide +kernel, by decide +kernel⟩, List.mem_of_getElem? (i := 26) (by decide +kernel), List.mem_of_getElem? (i := 806) (by decide +kernel), List.mem_of_getElem? (i := 807) (by decide +kernel)⟩
theorem lw_p52 : lw_okq (⟨"java/lang/Throwable", "fillInStackTrace", "(I)Ljava/lang/Throwable;"⟩, 6) := ⟨⟨by decide +kernel, by decide +kernel⟩, List.mem_of_getElem? (i := 862) (by decide +kernel), List.mem_of_getElem? (i := 860) (by decide +kernel), List.mem_of_getElem? (i := 861) (by decide +kernel)⟩
theorem lw_p53 : lw_okq (⟨"PackageBookModel", "look", "([BII)V"⟩, 52) := ⟨⟨by decide +kernel, by decide +kernel⟩, List.mem_of_getElem? (i := 1023) (by decide +kernel), List.mem_of_getElem? (i := 1210) (by decide +kernel), List.mem_of_getElem? (i := 1211) (by decide +kernel)⟩
theorem lw_p54 : lw_okq (⟨"PackageBookModel", "isRoom", "(II)Z"⟩, 52) := ⟨⟨by decide +kernel, by decide +kernel⟩, List.mem_of_getElem? (i := 1023) (by decide +kernel), List.mem_of_getElem? (i := 1214) (by decide +kernel), List.mem_of_getElem? (i := 1215) (by decide +kernel)⟩
theorem lw_p55 : lw_okq (⟨"PackageBookModel", "find", "(I)I"⟩, 52) := ⟨⟨by decide +kernel, by decide +kernel⟩, List.mem_of_getElem? (i := 1023) (by decide +kernel), List.mem_of_getElem? (i := 1218) (by decide +kernel), List.mem_of_getElem? (i := 1219) (by decide +kernel)⟩
theorem lw_p56 : lw_okq (⟨"PackageBookModel", "compare", "(II)I"⟩, 52) := ⟨⟨by decide +kernel, by decide +kernel⟩, List.mem_of_getElem? (i := 1023) (by decide +kernel), List.mem_of_getElem? (i := 1222) (by decide +kernel), List.mem_of_getElem? (i := 1223) (by decide +kernel)⟩
theorem lw_p57 : lw_okq (⟨"PackageBookModel", "allBytes", "(I)I"⟩, 52) := ⟨⟨by decide +kernel, by decide +kernel⟩, List.mem_of_getElem? (i := 1023) (by decide +kernel), List.mem_of_getElem? (i := 1226) (by decide +kernel), List.mem_of_getElem? (i := 1227) (by decide +kernel)⟩
theorem lw_p58 : lw_okq (⟨"PackageBookModel", "put", "(I[BII)V"⟩, 52) := ⟨⟨by decide +kernel, by decide +kernel⟩, List.mem_of_getElem? (i := 1023) (by decide +kernel), List.mem_of_getElem? (i := 1230) (by decide +kernel), List.mem_of_getElem? (i := 1231) (by decide +kernel)⟩
theorem lw_p59 : lw_okq (⟨"PackageBookModel", "move", "(II)V"⟩, 52) := ⟨⟨by decide +kernel, by decide +kernel⟩, List.mem_of_getElem? (i := 1023) (by decide +kernel), List.mem_of_getElem? (i := 1234) (by decide +kernel), List.mem_of_getElem? (i := 1235) (by decide +kernel)⟩
theorem lw_p60 : lw_okq (⟨"PackageBookModel", "pressRow", "([BII)V"⟩, 52) := ⟨⟨by decide +kernel, by decide +kernel⟩, List.mem_of_getElem? (i := 1023) (by decide +kernel), List.mem_of_getElem? (i := 1262) (by decide +kernel), List.mem_of_getElem? (i := 1263) (by decide +kernel)⟩
theorem lw_p61 : lw_okq (⟨"PackageBookModel", "putNumber", "(II)V"⟩, 52) := ⟨⟨by decide +kernel, by decide +kernel⟩, List.mem_of_getElem? (i := 1023) (by decide +kernel), List.mem_of_getElem? (i := 1266) (by decide +kernel), List.mem_of_getElem? (i := 1267) (by decide +kernel)⟩
theorem lw_p62 : lw_okq (⟨"PackageBookModel", "putBit", "(I)V"⟩, 52) := ⟨⟨by decide +kernel, by decide +kernel⟩, List.mem_of_getElem? (i := 1023) (by decide +kernel), List.mem_of_getElem? (i := 1270) (by decide +kernel), List.mem_of_getElem? (i := 1271) (by decide +kernel)⟩
theorem lw_p63 : lw_okq (⟨"PackageBookModel", "putSymbol", "(I)V"⟩, 52) := ⟨⟨by decide +kernel, by decide +kernel⟩, List.mem_of_getElem? (i := 1023) (by decide +kernel), List.mem_of_getElem? (i := 1277) (by decide +kernel), List.mem_of_getElem? (i := 1278) (by decide +kernel)⟩
def lw_privs_4 : List (MethodName × Nat) := [(⟨"PackageBook$Markup", "readTail", "()Z"⟩, 13), (⟨"PackageBook", "noteRelations", "(I)V"⟩, 11), (⟨"PackageBook", "noteUnreached", "()V"⟩, 11), (⟨"PackageBook", "reachedFromRoot", "()I"⟩, 11), (⟨"java/lang/Throwable", "fillInStackTrace", "(I)Ljava/lang/Throwable;"⟩, 6), (⟨"PackageBookModel", "look", "([BII)V"⟩, 52), (⟨"PackageBookModel", "isRoom", "(II)Z"⟩, 52), (⟨"PackageBookModel", "find", "(I)I"⟩, 52), (⟨"PackageBookModel", "compare", "(II)I"⟩, 52), (⟨"PackageBookModel", "allBytes", "(I)I"⟩, 52), (⟨"PackageBookModel", "put", "(I[BII)V"⟩, 52), (⟨"PackageBookModel", "move", "(II)V"⟩, 52), (⟨"PackageBookModel", "pressRow", "([BII)V"⟩, 52), (⟨"PackageBookModel", "putNumber", "(II)V"⟩, 52), (⟨"PackageBookModel", "putBit", "(I)V"⟩, 52), (⟨"PackageBookModel", "putSymbol", "(I)V"⟩, 52)]
theorem lw_r4 : ∀ q ∈ lw_privs_4, lw_okq q := List.forall_mem_cons.mpr ⟨lw_p48, List.forall_mem_cons.mpr ⟨lw_p49, List.forall_mem_cons.mpr ⟨lw_p50, List.forall_mem_cons.mpr ⟨lw_p51, List.forall_mem_cons.mpr ⟨lw_p52, List.forall_mem_cons.mpr ⟨lw_p53, List.forall_mem_cons.mpr ⟨lw_p54, List.forall_mem_cons.mpr ⟨lw_p55, List.forall_mem_cons.mpr ⟨lw_p56, List.forall_mem_cons.mpr ⟨lw_p57, List.forall_mem_cons.mpr ⟨lw_p58, List.forall_mem_cons.mpr ⟨lw_p59, List.forall_mem_cons.mpr ⟨lw_p60, List.forall_mem_cons.mpr ⟨lw_p61, List.forall_mem_cons.mpr ⟨lw_p62, List.forall_mem_cons.mpr ⟨lw_p63, fun _ h => absurd h List.not_mem_nil⟩⟩⟩⟩⟩⟩⟩⟩⟩⟩⟩⟩⟩⟩⟩⟩
theorem lw_p64 : lw_okq (⟨"PackageBookModel", "putCode", "(II)V"⟩, 52) := ⟨⟨by decide +kernel, by decide +kernel⟩, List.mem_of_getElem? (i := 1023) (by decide +kernel), List.mem_of_getElem? (i := 1281) (by decide +kernel), List.mem_of_getElem? (i := 1282) (by decide +kernel)⟩
theorem lw_p65 : lw_okq (⟨"PackageBookModel", "putLength", "(I)V"⟩, 52) := ⟨⟨by decide +kernel, by decide +kernel⟩, List.mem_of_getElem? (i := 1023) (by decide +kernel), List.mem_of_getElem? (i := 1285) (by decide +kernel), List.mem_of_getElem? (i := 1286) (by decide +kernel)⟩
theorem lw_p66 : lw_okq (⟨"PackageBookModel", "putDistance", "(I)V"⟩, 52) := ⟨⟨by decide +kernel, by decide +kernel⟩, List.mem_of_getElem? (i := 1023) (by decide +kernel), List.mem_of_getElem? (i := 1292) (by decide +kernel), List.mem_of_getElem? (i := 1293) (by decide +kernel)⟩
theorem lw_p67 : lw_okq (⟨"PackageBookModel", "takeRow", "()V"⟩, 52) := ⟨⟨by decide +kernel, by decide +kernel⟩, List.mem_of_getElem? (i := 1023) (by decide +kernel), List.mem_of_getElem? (i := 1303) (by decide +kernel), List.mem_of_getElem? (i := 1304) (by decide +kernel)⟩
theorem lw_p68 : lw_okq (⟨"PackageBookModel", "expandRow", "(II)I"⟩, 52) := ⟨⟨by decide +kernel, by decide +kernel⟩, List.mem_of_getElem? (i := 1023) (by decide +kernel), List.mem_of_getElem? (i := 1307) (by decide +kernel), List.mem_of_getElem? (i := 1308) (by decide +kernel)⟩
theorem lw_p69 : lw_okq (⟨"PackageBookModel", "number", "(I)I"⟩, 52) := ⟨⟨by decide +kernel, by decide +kernel⟩, List.mem_of_getElem? (i := 1023) (by decide +kernel), List.mem_of_getElem? (i := 1311) (by decide +kernel), List.mem_of_getElem? (i := 1312) (by decide +kernel)⟩
theorem lw_p70 : lw_okq (⟨"PackageBookModel", "fail", "(I)V"⟩, 52) := ⟨⟨by decide +kernel, by decide +kernel⟩, List.mem_of_getElem? (i := 1023) (by decide +kernel), List.mem_of_getElem? (i := 1315) (by decide +kernel), List.mem_of_getElem? (i := 1316) (by decide +kernel)⟩
theorem lw_p71 : lw_okq (⟨"PackageBookModel", "stored", "()V"⟩, 52) := ⟨⟨by decide +kernel, by decide +kernel⟩, List.mem_of_getElem? (i := 1023) (by decide +kernel), List.mem_of_getElem? (i := 1319) (by decide +kernel), List.mem_of_getElem? (i := 1320) (by decide +kernel)⟩
theorem lw_p72 : lw_okq (⟨"PackageBookModel", "give", "(I)V"⟩, 52) := ⟨⟨by decide +kernel, by decide +kernel⟩, List.mem_of_getElem? (i := 1023) (by decide +kernel), List.mem_of_getElem? (i := 1324) (by decide +kernel), List.mem_of_getElem? (i := 1325) (by decide +kernel)⟩
theorem lw_p73 : lw_okq (⟨"PackageBookModel", "tellFixed", "()V"⟩, 52) := ⟨⟨by decide +kernel, by decide +kernel⟩, List.mem_of_getElem? (i := 1023) (by decide +kernel), List.mem_of_getElem? (i := 1328) (by decide +kernel), List.mem_of_getElem? (i := 1329) (by decide +kernel)⟩
theorem lw_p74 : lw_okq (⟨"PackageBookModel", "tellCoded", "()V"⟩, 52) := ⟨⟨by decide +kernel, by decide +kernel⟩, List.mem_of_getElem? (i := 1023) (by decide +kernel), List.mem_of_getElem? (i := 1332) (by decide +kernel), List.mem_of_getElem? (i := 1333) (by decide +kernel)⟩
theorem lw_p75 : lw_okq (⟨"PackageBookModel", "isRight", "(II)Z"⟩, 52) := ⟨⟨by decide +kernel, by decide +kernel⟩, List.mem_of_getElem? (i := 1023) (by decide +kernel), List.mem_of_getElem? (i := 1336) (by decide +kernel), List.mem_of_getElem? (i := 1337) (by decide +kernel)⟩
theorem lw_p76 : lw_okq (⟨"PackageBookModel", "many", "(III)I"⟩, 52) := ⟨⟨by decide +kernel, by decide +kernel⟩, List.mem_of_getElem? (i := 1023) (by decide +kernel), List.mem_of_getElem? (i := 1340) (by decide +kernel), List.mem_of_getElem? (i := 1341) (by decide +kernel)⟩
theorem lw_p77 : lw_okq (⟨"PackageBookModel", "tell", "(II)I"⟩, 52) := ⟨⟨by decide +kernel, by decide +kernel⟩, List.mem_of_getElem? (i := 1023) (by decide +kernel), List.mem_of_getElem? (i := 1344) (by decide +kernel), List.mem_of_getElem? (i := 1345) (by decide +kernel)⟩
theorem lw_p78 : lw_okq (⟨"PackageBookModel", "symbol", "(II)I"⟩, 52) := ⟨⟨by decide +kernel, by decide +kernel⟩, List.mem_of_getElem? (i := 1023) (by decide +kernel), List.mem_of_getElem? (i := 1348) (by decide +kernel), List.mem_of_getElem? (i := 1349) (by decide +kernel)⟩
theorem lw_p79 : lw_okq (⟨"PackageBookModel", "symbolOf", "(IIII)I"⟩, 52) := ⟨⟨by decide +kernel, by decide +kernel⟩, List.mem_of_getElem? (i := 1023) (by decide +kernel), List.mem_of_getElem? (i := 1352) (by decide +kernel), List.mem_of_getElem? (i := 1353) (by decide +kernel)⟩
def lw_privs_5 : List (MethodName × Nat) := [(⟨"PackageBookModel", "putCode", "(II)V"⟩, 52), (⟨"PackageBookModel", "putLength", "(I)V"⟩, 52), (⟨"PackageBookModel", "putDistance", "(I)V"⟩, 52), (⟨"PackageBookModel", "takeRow", "()V"⟩, 52), (⟨"PackageBookModel", "expandRow", "(II)I"⟩, 52), (⟨"PackageBookModel", "number", "(I)I"⟩, 52), (⟨"PackageBookModel", "fail", "(I)V"⟩, 52), (⟨"PackageBookModel", "stored", "()V"⟩, 52), (⟨"PackageBookModel", "give", "(I)V"⟩, 52), (⟨"PackageBookModel", "tellFixed", "()V"⟩, 52), (⟨"PackageBookModel", "tellCoded", "()V"⟩, 52), (⟨"PackageBookModel", "isRight", "(II)Z"⟩, 52), (⟨"PackageBookModel", "many", "(III)I"⟩, 52), (⟨"PackageBookModel", "tell", "(II)I"⟩, 52), (⟨"PackageBookModel", "symbol", "(II)I"⟩, 52), (⟨"PackageBookModel", "symbolOf", "(IIII)I"⟩, 52)]
theorem lw_r5 : ∀ q ∈ lw_privs_5, lw_okq q := List.forall_mem_cons.mpr ⟨lw_p64, List.forall_mem_cons.mpr ⟨lw_p65, List.forall_mem_cons.mpr ⟨lw_p66, List.forall_mem_cons.mpr ⟨lw_p67, List.forall_mem_cons.mpr ⟨lw_p68, List.forall_mem_cons.mpr ⟨lw_p69, List.forall_mem_cons.mpr ⟨lw_p70, List.forall_mem_cons.mpr ⟨lw_p71, List.forall_mem_cons.mpr ⟨lw_p72, List.forall_mem_cons.mpr ⟨lw_p73, List.forall_mem_cons.mpr ⟨lw_p74, List.forall_mem_cons.mpr ⟨lw_p75, List.forall_mem_cons.mpr ⟨lw_p76, List.forall_mem_cons.mpr ⟨lw_p77, List.forall_mem_cons.mpr ⟨lw_p78, List.forall_mem_cons.mpr ⟨lw_p79, fun _ h => absurd h List.not_mem_nil⟩⟩⟩⟩⟩⟩⟩⟩⟩⟩⟩⟩⟩⟩⟩⟩
theorem lw_p80 : lw_okq (⟨"PackageBookModel", "toldAt", "(I)I"⟩, 52) := ⟨⟨by decide +kernel, by decide +kernel⟩, List.mem_of_getElem? (i := 1023) (by decide +kernel), List.mem_of_getElem? (i := 1356) (by decide +kernel), List.mem_of_getElem? (i := 1357) (by decide +kernel)⟩
theorem lw_p81 : lw_okq (⟨"PackageBookModel", "symbols", "()V"⟩, 52) := ⟨⟨by decide +kernel, by decide +kernel⟩, List.mem_of_getElem? (i := 1023) (by decide +kernel), List.mem_of_getElem? (i := 1360) (by decide +kernel), List.mem_of_getElem? (i := 1361) (by decide +kernel)⟩
theorem lw_p82 : lw_okq (⟨"PackageBookModel", "goBack", "(I)V"⟩, 52) := ⟨⟨by decide +kernel, by decide +kernel⟩, List.mem_of_getElem? (i := 1023) (by decide +kernel), List.mem_of_getElem? (i := 1364) (by decide +kernel), List.mem_of_getElem? (i := 1365) (by decide +kernel)⟩
theorem lw_p83 : lw_okq (⟨"PackageBookModel", "writePart", "(I)V"⟩, 52) := ⟨⟨by decide +kernel, by decide +kernel⟩, List.mem_of_getElem? (i := 1023) (by decide +kernel), List.mem_of_getElem? (i := 1376) (by decide +kernel), List.mem_of_getElem? (i := 1377) (by decide +kernel)⟩
theorem lw_p84 : lw_okq (⟨"PackageBookModel", "lay", "(JI)V"⟩, 52) := ⟨⟨by decide +kernel, by decide +kernel⟩, List.mem_of_getElem? (i := 1023) (by decide +kernel), List.mem_of_getElem? (i := 1381) (by decide +kernel), List.mem_of_getElem? (i := 1382) (by decide +kernel)⟩
theorem lw_p85 : lw_okq (⟨"PackageBookModel", "enter", "(JI)V"⟩, 52) := ⟨⟨by decide +kernel, by decide +kernel⟩, List.mem_of_getElem? (i := 1023) (by decide +kernel), List.mem_of_getElem? (i := 1389) (by decide +kernel), List.mem_of_getElem? (i := 1390) (by decide +kernel)⟩
theorem lw_p86 : lw_okq (⟨"PackageBookModel", "readRow", "()I"⟩, 52) := ⟨⟨by decide +kernel, by decide +kernel⟩, List.mem_of_getElem? (i := 1023) (by decide +kernel), List.mem_of_getElem? (i := 1402) (by decide +kernel), List.mem_of_getElem? (i := 1403) (by decide +kernel)⟩
theorem lw_p87 : lw_okq (⟨"PackageBookModel", "directoryFault", "()I"⟩, 52) := ⟨⟨by decide +kernel, by decide +kernel⟩, List.mem_of_getElem? (i := 1023) (by decide +kernel), List.mem_of_getElem? (i := 1406) (by decide +kernel), List.mem_of_getElem? (i := 1407) (by decide +kernel)⟩
theorem lw_p88 : lw_okq (⟨"PackageBookModel", "at", "(II)J"⟩, 52) := ⟨⟨by decide +kernel, by decide +kernel⟩, List.mem_of_getElem? (i := 1023) (by decide +kernel), List.mem_of_getElem? (i := 1410) (by decide +kernel), List.mem_of_getElem? (i := 1411) (by decide +kernel)⟩
theorem lw_p89 : lw_okq (⟨"PackageBookModel", "entryFault", "(II)I"⟩, 52) := ⟨⟨by decide +kernel, by decide +kernel⟩, List.mem_of_getElem? (i := 1023) (by decide +kernel), List.mem_of_getElem? (i := 1417) (by decide +kernel), List.mem_of_getElem? (i := 1418) (by decide +kernel)⟩
theorem lw_p90 : lw_okq (⟨"PackageBookModel", "isRecord", "(II)Z"⟩, 52) := ⟨⟨by decide +kernel, by decide +kernel⟩, List.mem_of_getElem? (i := 1023) (by decide +kernel), List.mem_of_getElem? (i := 1421) (by decide +kernel), List.mem_of_getElem? (i := 1422) (by decide +kernel)⟩
theorem lw_p91 : lw_okq (⟨"PackageBookModel", "isRoot", "(I)Z"⟩, 52) := ⟨⟨by decide +kernel, by decide +kernel⟩, List.mem_of_getElem? (i := 1023) (by decide +kernel), List.mem_of_getElem? (i := 1434) (by decide +kernel), List.mem_of_getElem? (i := 1435) (by decide +kernel)⟩
theorem lw_p92 : lw_okq (⟨"PackageBookModel", "isTeller", "(I)Z"⟩, 52) := ⟨⟨by decide +kernel, by decide +kernel⟩, List.mem_of_getElem? (i := 1023) (by decide +kernel), List.mem_of_getElem? (i := 1438) (by decide +kernel), List.mem_of_getElem? (i := 1439) (by decide +kernel)⟩
theorem lw_p93 : lw_okq (⟨"PackageBookModel", "tellerOf", "(I)I"⟩, 52) := ⟨⟨by decide +kernel, by decide +kernel⟩, List.mem_of_getElem? (i := 1023) (by decide +kernel), List.mem_of_getElem? (i := 1442) (by decide +kernel), List.mem_of_getElem? (i := 1443) (by decide +kernel)⟩
theorem lw_p94 : lw_okq (⟨"PackageBookModel", "lookAt", "(I)V"⟩, 52) := ⟨⟨by decide +kernel, by decide +kernel⟩, List.mem_of_getElem? (i := 1023) (by decide +kernel), List.mem_of_getElem? (i := 1446) (by decide +kernel), List.mem_of_getElem? (i := 1447) (by decide +kernel)⟩
theorem lw_p95 : lw_okq (⟨"PackageBookModel", "readRelations", "(I)Z"⟩, 52) := ⟨⟨by decide +kernel, by decide +kernel⟩, List.mem_of_getElem? (i := 1023) (by decide +kernel), List.mem_of_getElem? (i := 1450) (by decide +kernel), List.mem_of_getElem? (i := 1451) (by decide +kernel)⟩
def lw_privs_6 : List (MethodName × Nat) := [(⟨"PackageBookModel", "toldAt", "(I)I"⟩, 52), (⟨"PackageBookModel", "symbols", "()V"⟩, 52), (⟨"PackageBookModel", "goBack", "(I)V"⟩, 52), (⟨"PackageBookModel", "writePart", "(I)V"⟩, 52), (⟨"PackageBookModel", "lay", "(JI)V"⟩, 52), (⟨"PackageBookModel", "enter", "(JI)V"⟩, 52), (⟨"PackageBookModel", "readRow", "()I"⟩, 52), (⟨"PackageBookModel", "directoryFault", "()I"⟩, 52), (⟨"PackageBookModel", "at", "(II)J"⟩, 52), (⟨"PackageBookModel", "entryFault", "(II)I"⟩, 52), (⟨"PackageBookModel", "isRecord", "(II)Z"⟩, 52), (⟨"PackageBookModel", "isRoot", "(I)Z"⟩, 52), (⟨"PackageBookModel", "isTeller", "(I)Z"⟩, 52), (⟨"PackageBookModel", "tellerOf", "(I)I"⟩, 52), (⟨"PackageBookModel", "lookAt", "(I)V"⟩, 52), (⟨"PackageBookModel", "readRelations", "(I)Z"⟩, 52)]
theorem lw_r6 : ∀ q ∈ lw_privs_6, lw_okq q := List.forall_mem_cons.mpr ⟨lw_p80, List.forall_mem_cons.mpr ⟨lw_p81, List.forall_mem_cons.mpr ⟨lw_p82, List.forall_mem_cons.mpr ⟨lw_p83, List.forall_mem_cons.mpr ⟨lw_p84, List.forall_mem_cons.mpr ⟨lw_p85, List.forall_mem_cons.mpr ⟨lw_p86, List.forall_mem_cons.mpr ⟨lw_p87, List.forall_mem_cons.mpr ⟨lw_p88, List.forall_mem_cons.mpr ⟨lw_p89, List.forall_mem_cons.mpr ⟨lw_p90, List.forall_mem_cons.mpr ⟨lw_p91, List.forall_mem_cons.mpr ⟨lw_p92, List.forall_mem_cons.mpr ⟨lw_p93, List.forall_mem_cons.mpr ⟨lw_p94, List.forall_mem_cons.mpr ⟨lw_p95, fun _ h => absurd h List.not_mem_nil⟩⟩⟩⟩⟩⟩⟩⟩⟩⟩⟩⟩⟩⟩⟩⟩
theorem lw_p96 : lw_okq (⟨"PackageBookModel", "readMarkup", "(I)V"⟩, 52) := ⟨⟨by decide +kernel, by decide +kernel⟩, List.mem_of_getElem? (i := 1023) (by decide +kernel), List.mem_of_getElem? (i := 1454) (by decide +kernel), List.mem_of_getElem? (i := 1455) (by decide +kernel)⟩
theorem lw_p97 : lw_okq (⟨"PackageBookModel", "gaps", "()V"⟩, 52) := ⟨⟨by decide +kernel, by decide +kernel⟩, List.mem_of_getElem? (i := 1023) (by decide +kernel), List.mem_of_getElem? (i := 1458) (by decide +kernel), List.mem_of_getElem? (i := 1459) (by decide +kernel)⟩
theorem lw_p98 : lw_okq (⟨"PackageBookModel", "space", "()Z"⟩, 52) := ⟨⟨by decide +kernel, by decide +kernel⟩, List.mem_of_getElem? (i := 1023) (by decide +kernel), List.mem_of_getElem? (i := 1462) (by decide +kernel), List.mem_of_getElem? (i := 1463) (by decide +kernel)⟩
theorem lw_p99 : lw_okq (⟨"PackageBookModel", "here", "()I"⟩, 52) := ⟨⟨by decide +kernel, by decide +kernel⟩, List.mem_of_getElem? (i := 1023) (by decide +kernel), List.mem_of_getElem? (i := 1466) (by decide +kernel), List.mem_of_getElem? (i := 1467) (by decide +kernel)⟩
theorem lw_p100 : lw_okq (⟨"PackageBookModel", "behind", "()I"⟩, 52) := ⟨⟨by decide +kernel, by decide +kernel⟩, List.mem_of_getElem? (i := 1023) (by decide +kernel), List.mem_of_getElem? (i := 1473) (by decide +kernel), List.mem_of_getElem? (i := 1474) (by decide +kernel)⟩
theorem lw_p101 : lw_okq (⟨"PackageBookModel", "words", "([B)V"⟩, 52) := ⟨⟨by decide +kernel, by decide +kernel⟩, List.mem_of_getElem? (i := 1023) (by decide +kernel), List.mem_of_getElem? (i := 1477) (by decide +kernel), List.mem_of_getElem? (i := 1478) (by decide +kernel)⟩
theorem lw_p102 : lw_okq (⟨"PackageBookModel", "need", "(I)V"⟩, 52) := ⟨⟨by decide +kernel, by decide +kernel⟩, List.mem_of_getElem? (i := 1023) (by decide +kernel), List.mem_of_getElem? (i := 1481) (by decide +kernel), List.mem_of_getElem? (i := 1482) (by decide +kernel)⟩
theorem lw_p103 : lw_okq (⟨"PackageBookModel", "stop", "(I)V"⟩, 52) := ⟨⟨by decide +kernel, by decide +kernel⟩, List.mem_of_getElem? (i := 1023) (by decide +kernel), List.mem_of_getElem? (i := 1485) (by decide +kernel), List.mem_of_getElem? (i := 1486) (by decide +kernel)⟩
theorem lw_p104 : lw_okq (⟨"PackageBookModel", "element", "()V"⟩, 52) := ⟨⟨by decide +kernel, by decide +kernel⟩, List.mem_of_getElem? (i := 1023) (by decide +kernel), List.mem_of_getElem? (i := 1489) (by decide +kernel), List.mem_of_getElem? (i := 1490) (by decide +kernel)⟩
theorem lw_p105 : lw_okq (⟨"PackageBookModel", "attribute", "(I)I"⟩, 52) := ⟨⟨by decide +kernel, by decide +kernel⟩, List.mem_of_getElem? (i := 1023) (by decide +kernel), List.mem_of_getElem? (i := 1493) (by decide +kernel), List.mem_of_getElem? (i := 1494) (by decide +kernel)⟩
theorem lw_p106 : lw_okq (⟨"PackageBookModel", "letterCount", "()I"⟩, 52) := ⟨⟨by decide +kernel, by decide +kernel⟩, List.mem_of_getElem? (i := 1023) (by decide +kernel), List.mem_of_getElem? (i := 1497) (by decide +kernel), List.mem_of_getElem? (i := 1498) (by decide +kernel)⟩
theorem lw_p107 : lw_okq (⟨"PackageBookModel", "isIdHere", "(I)Z"⟩, 52) := ⟨⟨by decide +kernel, by decide +kernel⟩, List.mem_of_getElem? (i := 1023) (by decide +kernel), List.mem_of_getElem? (i := 1501) (by decide +kernel), List.mem_of_getElem? (i := 1502) (by decide +kernel)⟩
theorem lw_p108 : lw_okq (⟨"PackageBookModel", "isToHere", "(I)Z"⟩, 52) := ⟨⟨by decide +kernel, by decide +kernel⟩, List.mem_of_getElem? (i := 1023) (by decide +kernel), List.mem_of_getElem? (i := 1505) (by decide +kernel), List.mem_of_getElem? (i := 1506) (by decide +kernel)⟩
theorem lw_p109 : lw_okq (⟨"PackageBookModel", "readValue", "()V"⟩, 52) := ⟨⟨by decide +kernel, by decide +kernel⟩, List.mem_of_getElem? (i := 1023) (by decide +kernel), List.mem_of_getElem? (i := 1509) (by decide +kernel), List.mem_of_getElem? (i := 1510) (by decide +kernel)⟩
theorem lw_p110 : lw_okq (⟨"PackageBookModel", "reference", "()I"⟩, 52) := ⟨⟨by decide +kernel, by decide +kernel⟩, List.mem_of_getElem? (i := 1023) (by decide +kernel), List.mem_of_getElem? (i := 1513) (by decide +kernel), List.mem_of_getElem? (i := 1514) (by decide +kernel)⟩
theorem lw_p111 : lw_okq (⟨"PackageBookModel", "named", "(I)I"⟩, 52) := ⟨⟨by decide +kernel, by decide +kernel⟩, List.mem_of_getElem? (i := 1023) (by decide +kernel), List.mem_of_getElem? (i := 1517) (by decide +kernel), List.mem_of_getElem? (i := 1518) (by decide +kernel)⟩
def lw_privs_7 : List (MethodName × Nat) := [(⟨"PackageBookModel", "readMarkup", "(I)V"⟩, 52), (⟨"PackageBookModel", "gaps", "()V"⟩, 52), (⟨"PackageBookModel", "space", "()Z"⟩, 52), (⟨"PackageBookModel", "here", "()I"⟩, 52), (⟨"PackageBookModel", "behind", "()I"⟩, 52), (⟨"PackageBookModel", "words", "([B)V"⟩, 52), (⟨"PackageBookModel", "need", "(I)V"⟩, 52), (⟨"PackageBookModel", "stop", "(I)V"⟩, 52), (⟨"PackageBookModel", "element", "()V"⟩, 52), (⟨"PackageBookModel", "attribute", "(I)I"⟩, 52), (⟨"PackageBookModel", "letterCount", "()I"⟩, 52), (⟨"PackageBookModel", "isIdHere", "(I)Z"⟩, 52), (⟨"PackageBookModel", "isToHere", "(I)Z"⟩, 52), (⟨"PackageBookModel", "readValue", "()V"⟩, 52), (⟨"PackageBookModel", "reference", "()I"⟩, 52), (⟨"PackageBookModel", "named", "(I)I"⟩, 52)]
theorem lw_r7 : ∀ q ∈ lw_privs_7, lw_okq q := List.forall_mem_cons.mpr ⟨lw_p96, List.forall_mem_cons.mpr ⟨lw_p97, List.forall_mem_cons.mpr ⟨lw_p98, List.forall_mem_cons.mpr ⟨lw_p99, List.forall_mem_cons.mpr ⟨lw_p100, List.forall_mem_cons.mpr ⟨lw_p101, List.forall_mem_cons.mpr ⟨lw_p102, List.forall_mem_cons.mpr ⟨lw_p103, List.forall_mem_cons.mpr ⟨lw_p104, List.forall_mem_cons.mpr ⟨lw_p105, List.forall_mem_cons.mpr ⟨lw_p106, List.forall_mem_cons.mpr ⟨lw_p107, List.forall_mem_cons.mpr ⟨lw_p108, List.forall_mem_cons.mpr ⟨lw_p109, List.forall_mem_cons.mpr ⟨lw_p110, List.forall_mem_cons.mpr ⟨lw_p111, fun _ h => absurd h List.not_mem_nil⟩⟩⟩⟩⟩⟩⟩⟩⟩⟩⟩⟩⟩⟩⟩⟩
theorem lw_p112 : lw_okq (⟨"PackageBookModel", "close", "([B)V"⟩, 52) := ⟨⟨by decide +kernel, by decide +kernel⟩, List.mem_of_getElem? (i := 1023) (by decide +kernel), List.mem_of_getElem? (i := 1528) (by decide +kernel), List.mem_of_getElem? (i := 1529) (by decide +kernel)⟩
theorem lw_p113 : lw_okq (⟨"PackageBookModel", "note", "(III)V"⟩, 52) := ⟨⟨by decide +kernel, by decide +kernel⟩, List.mem_of_getElem? (i := 1023) (by decide +kernel), List.mem_of_getElem? (i := 1532) (by decide +kernel), List.mem_of_getElem? (i := 1533) (by decide +kernel)⟩
theorem lw_p114 : lw_okq (⟨"PackageBookModel", "isAgain", "(I)Z"⟩, 52) := ⟨⟨by decide +kernel, by decide +kernel⟩, List.mem_of_getElem? (i := 1023) (by decide +kernel), List.mem_of_getElem? (i := 1536) (by decide +kernel), List.mem_of_getElem? (i := 1537) (by decide +kernel)⟩
theorem lw_p115 : lw_okq (⟨"PackageBookModel", "goalOf", "(I)I"⟩, 52) := ⟨⟨by decide +kernel, by decide +kernel⟩, List.mem_of_getElem? (i := 1023) (by decide +kernel), List.mem_of_getElem? (i := 1540) (by decide +kernel), List.mem_of_getElem? (i := 1541) (by decide +kernel)⟩
theorem lw_p116 : lw_okq (⟨"PackageBookModel", "spread", "()Z"⟩, 52) := ⟨⟨by decide +kernel, by decide +kernel⟩, List.mem_of_getElem? (i := 1023) (by decide +kernel), List.mem_of_getElem? (i := 1544) (by decide +kernel), List.mem_of_getElem? (i := 1545) (by decide +kernel)⟩
def lw_privs_8 : List (MethodName × Nat) := [(⟨"PackageBookModel", "close", "([B)V"⟩, 52), (⟨"PackageBookModel", "note", "(III)V"⟩, 52), (⟨"PackageBookModel", "isAgain", "(I)Z"⟩, 52), (⟨"PackageBookModel", "goalOf", "(I)I"⟩, 52), (⟨"PackageBookModel", "spread", "()Z"⟩, 52)]
theorem lw_r8 : ∀ q ∈ lw_privs_8, lw_okq q := List.forall_mem_cons.mpr ⟨lw_p112, List.forall_mem_cons.mpr ⟨lw_p113, List.forall_mem_cons.mpr ⟨lw_p114, List.forall_mem_cons.mpr ⟨lw_p115, List.forall_mem_cons.mpr ⟨lw_p116, fun _ h => absurd h List.not_mem_nil⟩⟩⟩⟩⟩
def lw_privs : List (MethodName × Nat) := lw_privs_1 ++ (lw_privs_2 ++ (lw_privs_3 ++ (lw_privs_4 ++ (lw_privs_5 ++ (lw_privs_6 ++ (lw_privs_7 ++ (lw_privs_8)))))))
def lw_tbl : List Cond := k2_sels lw_privs ++ tables_1
theorem lw_privs_ok : ∀ q ∈ lw_privs, lw_okq q := by
  show ∀ q ∈ lw_privs_1 ++ (lw_privs_2 ++ (lw_privs_3 ++ (lw_privs_4 ++ (lw_privs_5 ++ (lw_privs_6 ++ (lw_privs_7 ++ (lw_privs_8))))))), lw_okq q
  exact List.forall_mem_append.mpr ⟨lw_r1, List.forall_mem_append.mpr ⟨lw_r2, List.forall_mem_append.mpr ⟨lw_r3, List.forall_mem_append.mpr ⟨lw_r4, List.forall_mem_append.mpr ⟨lw_r5, List.forall_mem_append.mpr ⟨lw_r6, List.forall_mem_append.mpr ⟨lw_r7, lw_r8⟩⟩⟩⟩⟩⟩⟩

/-- the words that every method of the system has -/
def uW : List Cond := lw_tbl.filter goodWord
theorem uW_of {w : Cond} (i : Nat) (h : lw_tbl[i]? = some w) (hg : goodWord w = true) : w ∈ uW := List.mem_filter.mpr ⟨List.mem_of_getElem? h, hg⟩
end
section
def T_Row : u_T := fun k => match k with
  | 0 => ("PackageBook$Row", "bytes", "[B", true)
  | _ => ("PackageBook$Row", "size", "I", false)
def t_Row : Nat → FieldType := fun k => match k with
  | 0 => .array .byte
  | _ => .int
theorem t_Row_ok : ∀ k, k < 2 → parseFieldDescriptor (T_Row k).2.2.1 = some (t_Row k) := by decide +kernel
theorem n_Row : ∀ a, a < 2 → ∀ b, b < 2 → a ≠ b → (T_Row a).2.1 ≠ (T_Row b).2.1 := by decide +kernel
def T_Code : u_T := fun k => match k with
  | 0 => ("PackageBook$Code", "counts", "[I", true)
  | 1 => ("PackageBook$Code", "symbols", "[I", true)
  | _ => ("PackageBook$Code", "size", "I", false)
def t_Code : Nat → FieldType := fun k => match k with
  | 0 => .array .int
  | 1 => .array .int
  | _ => .int
theorem t_Code_ok : ∀ k, k < 3 → parseFieldDescriptor (T_Code k).2.2.1 = some (t_Code k) := by decide +kernel
theorem n_Code : ∀ a, a < 3 → ∀ b, b < 3 → a ≠ b → (T_Code a).2.1 ≠ (T_Code b).2.1 := by decide +kernel
def T_Findings : u_T := fun k => match k with
  | 0 => ("PackageBook$Findings", "kinds", "[I", true)
  | 1 => ("PackageBook$Findings", "owners", "[I", true)
  | 2 => ("PackageBook$Findings", "places", "[I", true)
  | _ => ("PackageBook$Findings", "count", "I", false)
def t_Findings : Nat → FieldType := fun k => match k with
  | 0 => .array .int
  | 1 => .array .int
  | 2 => .array .int
  | _ => .int
theorem t_Findings_ok : ∀ k, k < 4 → parseFieldDescriptor (T_Findings k).2.2.1 = some (t_Findings k) := by decide +kernel
theorem n_Findings : ∀ a, a < 4 → ∀ b, b < 4 → a ≠ b → (T_Findings a).2.1 ≠ (T_Findings b).2.1 := by decide +kernel
def T_Shelf : u_T := fun k => match k with
  | 0 => ("PackageBook$Shelf", "names", "[B", true)
  | 1 => ("PackageBook$Shelf", "nameSizes", "[I", true)
  | 2 => ("PackageBook$Shelf", "bytes", "[B", true)
  | 3 => ("PackageBook$Shelf", "begins", "[I", true)
  | _ => ("PackageBook$Shelf", "count", "I", false)
def t_Shelf : Nat → FieldType := fun k => match k with
  | 0 => .array .byte
  | 1 => .array .int
  | 2 => .array .byte
  | 3 => .array .int
  | _ => .int
theorem t_Shelf_ok : ∀ k, k < 5 → parseFieldDescriptor (T_Shelf k).2.2.1 = some (t_Shelf k) := by decide +kernel
theorem n_Shelf : ∀ a, a < 5 → ∀ b, b < 5 → a ≠ b → (T_Shelf a).2.1 ≠ (T_Shelf b).2.1 := by decide +kernel
def T_Presser : u_T := fun k => match k with
  | 0 => ("PackageBook$Presser", "pressed", "LPackageBook$Row;", true)
  | 1 => ("PackageBook$Presser", "latest", "[I", true)
  | 2 => ("PackageBook$Presser", "earlier", "[I", true)
  | 3 => ("PackageBook$Presser", "row", "[B", false)
  | 4 => ("PackageBook$Presser", "begin", "I", false)
  | 5 => ("PackageBook$Presser", "size", "I", false)
  | 6 => ("PackageBook$Presser", "bits", "I", false)
  | 7 => ("PackageBook$Presser", "length", "I", false)
  | _ => ("PackageBook$Presser", "distance", "I", false)
def t_Presser : Nat → FieldType := fun k => match k with
  | 0 => .object "PackageBook$Row"
  | 1 => .array .int
  | 2 => .array .int
  | 3 => .array .byte
  | 4 => .int
  | 5 => .int
  | 6 => .int
  | 7 => .int
  | _ => .int
theorem t_Presser_ok : ∀ k, k < 9 → parseFieldDescriptor (T_Presser k).2.2.1 = some (t_Presser k) := by decide +kernel
theorem n_Presser : ∀ a, a < 9 → ∀ b, b < 9 → a ≠ b → (T_Presser a).2.1 ≠ (T_Presser b).2.1 := by decide +kernel
def T_Expander : u_T := fun k => match k with
  | 0 => ("PackageBook$Expander", "expanded", "LPackageBook$Row;", true)
  | 1 => ("PackageBook$Expander", "told", "[I", true)
  | 2 => ("PackageBook$Expander", "fixedFirst", "LPackageBook$Code;", true)
  | 3 => ("PackageBook$Expander", "fixedSecond", "LPackageBook$Code;", true)
  | 4 => ("PackageBook$Expander", "first", "LPackageBook$Code;", true)
  | 5 => ("PackageBook$Expander", "second", "LPackageBook$Code;", true)
  | 6 => ("PackageBook$Expander", "third", "LPackageBook$Code;", true)
  | 7 => ("PackageBook$Expander", "row", "[B", false)
  | 8 => ("PackageBook$Expander", "at", "I", false)
  | 9 => ("PackageBook$Expander", "end", "I", false)
  | _ => ("PackageBook$Expander", "fault", "I", false)
def t_Expander : Nat → FieldType := fun k => match k with
  | 0 => .object "PackageBook$Row"
  | 1 => .array .int
  | 2 => .object "PackageBook$Code"
  | 3 => .object "PackageBook$Code"
  | 4 => .object "PackageBook$Code"
  | 5 => .object "PackageBook$Code"
  | 6 => .object "PackageBook$Code"
  | 7 => .array .byte
  | 8 => .int
  | 9 => .int
  | _ => .int
theorem t_Expander_ok : ∀ k, k < 11 → parseFieldDescriptor (T_Expander k).2.2.1 = some (t_Expander k) := by decide +kernel
theorem n_Expander : ∀ a, a < 11 → ∀ b, b < 11 → a ≠ b → (T_Expander a).2.1 ≠ (T_Expander b).2.1 := by decide +kernel
def T_FileMaker : u_T := fun k => match k with
  | 0 => ("PackageBook$FileMaker", "made", "LPackageBook$Row;", true)
  | _ => ("PackageBook$FileMaker", "records", "[I", true)
def t_FileMaker : Nat → FieldType := fun k => match k with
  | 0 => .object "PackageBook$Row"
  | _ => .array .int
theorem t_FileMaker_ok : ∀ k, k < 2 → parseFieldDescriptor (T_FileMaker k).2.2.1 = some (t_FileMaker k) := by decide +kernel
theorem n_FileMaker : ∀ a, a < 2 → ∀ b, b < 2 → a ≠ b → (T_FileMaker a).2.1 ≠ (T_FileMaker b).2.1 := by decide +kernel
def T_FileReader : u_T := fun k => match k with
  | _ => ("PackageBook$FileReader", "row", "[B", false)
def t_FileReader : Nat → FieldType := fun k => match k with
  | _ => .array .byte
theorem t_FileReader_ok : ∀ k, k < 1 → parseFieldDescriptor (T_FileReader k).2.2.1 = some (t_FileReader k) := by decide +kernel
theorem n_FileReader : ∀ a, a < 1 → ∀ b, b < 1 → a ≠ b → (T_FileReader a).2.1 ≠ (T_FileReader b).2.1 := by decide +kernel
def T_Markup : u_T := fun k => match k with
  | 0 => ("PackageBook$Markup", "ids", "[J", true)
  | 1 => ("PackageBook$Markup", "goals", "[I", true)
  | 2 => ("PackageBook$Markup", "value", "[B", true)
  | 3 => ("PackageBook$Markup", "row", "[B", false)
  | 4 => ("PackageBook$Markup", "count", "I", false)
  | 5 => ("PackageBook$Markup", "fault", "I", false)
  | 6 => ("PackageBook$Markup", "begin", "I", false)
  | 7 => ("PackageBook$Markup", "at", "I", false)
  | 8 => ("PackageBook$Markup", "end", "I", false)
  | 9 => ("PackageBook$Markup", "valueSize", "I", false)
  | 10 => ("PackageBook$Markup", "isOpen", "Z", false)
  | 11 => ("PackageBook$Markup", "hasId", "Z", false)
  | _ => ("PackageBook$Markup", "hasTo", "Z", false)
def t_Markup : Nat → FieldType := fun k => match k with
  | 0 => .array .long
  | 1 => .array .int
  | 2 => .array .byte
  | 3 => .array .byte
  | 4 => .int
  | 5 => .int
  | 6 => .int
  | 7 => .int
  | 8 => .int
  | 9 => .int
  | 10 => .boolean
  | 11 => .boolean
  | _ => .boolean
theorem t_Markup_ok : ∀ k, k < 13 → parseFieldDescriptor (T_Markup k).2.2.1 = some (t_Markup k) := by decide +kernel
theorem n_Markup : ∀ a, a < 13 → ∀ b, b < 13 → a ≠ b → (T_Markup a).2.1 ≠ (T_Markup b).2.1 := by decide +kernel
def T_Book : u_T := fun k => match k with
  | 0 => ("PackageBook", "tape", "LPackageBook$Row;", true)
  | 1 => ("PackageBook", "came", "LPackageBook$Row;", true)
  | 2 => ("PackageBook", "presser", "LPackageBook$Presser;", true)
  | 3 => ("PackageBook", "expander", "LPackageBook$Expander;", true)
  | 4 => ("PackageBook", "maker", "LPackageBook$FileMaker;", true)
  | 5 => ("PackageBook", "reader", "LPackageBook$FileReader;", true)
  | 6 => ("PackageBook", "markup", "LPackageBook$Markup;", true)
  | 7 => ("PackageBook", "findings", "LPackageBook$Findings;", true)
  | 8 => ("PackageBook", "goals", "[I", true)
  | 9 => ("PackageBook", "parts", "LPackageBook$Shelf;", false)
  | _ => ("PackageBook", "spare", "LPackageBook$Shelf;", false)
def t_Book : Nat → FieldType := fun k => match k with
  | 0 => .object "PackageBook$Row"
  | 1 => .object "PackageBook$Row"
  | 2 => .object "PackageBook$Presser"
  | 3 => .object "PackageBook$Expander"
  | 4 => .object "PackageBook$FileMaker"
  | 5 => .object "PackageBook$FileReader"
  | 6 => .object "PackageBook$Markup"
  | 7 => .object "PackageBook$Findings"
  | 8 => .array .int
  | 9 => .object "PackageBook$Shelf"
  | _ => .object "PackageBook$Shelf"
theorem t_Book_ok : ∀ k, k < 11 → parseFieldDescriptor (T_Book k).2.2.1 = some (t_Book k) := by decide +kernel
theorem n_Book : ∀ a, a < 11 → ∀ b, b < 11 → a ≠ b → (T_Book a).2.1 ≠ (T_Book b).2.1 := by decide +kernel
def T_Mod : u_T := fun k => match k with
  | 0 => ("PackageBookModel", "rels", "[B", true)
  | 1 => ("PackageBookModel", "openRels", "[B", true)
  | 2 => ("PackageBookModel", "closeRels", "[B", true)
  | 3 => ("PackageBookModel", "openRel", "[B", true)
  | 4 => ("PackageBookModel", "closeRel", "[B", true)
  | 5 => ("PackageBookModel", "comment", "[B", true)
  | 6 => ("PackageBookModel", "ends", "[B", true)
  | 7 => ("PackageBookModel", "order", "[B", true)
  | 8 => ("PackageBookModel", "thrown", "I", false)
  | 9 => ("PackageBookModel", "taped", "I", false)
  | 10 => ("PackageBookModel", "tape", "[B", true)
  | 11 => ("PackageBookModel", "count", "[I", true)
  | 12 => ("PackageBookModel", "nameSize", "[I", true)
  | 13 => ("PackageBookModel", "names", "[B", true)
  | 14 => ("PackageBookModel", "size", "[I", true)
  | 15 => ("PackageBookModel", "data", "[B", true)
  | 16 => ("PackageBookModel", "lookedSize", "I", false)
  | 17 => ("PackageBookModel", "looked", "[B", true)
  | 18 => ("PackageBookModel", "fileSize", "I", false)
  | 19 => ("PackageBookModel", "file", "[B", true)
  | 20 => ("PackageBookModel", "directorySize", "I", false)
  | 21 => ("PackageBookModel", "directory", "[B", true)
  | 22 => ("PackageBookModel", "outSize", "I", false)
  | 23 => ("PackageBookModel", "out", "[B", true)
  | 24 => ("PackageBookModel", "rowSize", "I", false)
  | 25 => ("PackageBookModel", "row", "[B", true)
  | 26 => ("PackageBookModel", "bitAt", "I", false)
  | 27 => ("PackageBookModel", "bitEnd", "I", false)
  | 28 => ("PackageBookModel", "why", "I", false)
  | 29 => ("PackageBookModel", "madeSize", "I", false)
  | 30 => ("PackageBookModel", "made", "[B", true)
  | 31 => ("PackageBookModel", "length", "[I", true)
  | 32 => ("PackageBookModel", "firstCount", "I", false)
  | 33 => ("PackageBookModel", "secondCount", "I", false)
  | 34 => ("PackageBookModel", "heldBits", "I", false)
  | 35 => ("PackageBookModel", "heldCount", "I", false)
  | 36 => ("PackageBookModel", "pressedSize", "I", false)
  | 37 => ("PackageBookModel", "pressed", "[B", true)
  | 38 => ("PackageBookModel", "at", "I", false)
  | 39 => ("PackageBookModel", "bad", "Z", false)
  | 40 => ("PackageBookModel", "markSize", "I", false)
  | 41 => ("PackageBookModel", "mark", "[B", true)
  | 42 => ("PackageBookModel", "relationCount", "I", false)
  | 43 => ("PackageBookModel", "idSize", "[I", true)
  | 44 => ("PackageBookModel", "ids", "[B", true)
  | 45 => ("PackageBookModel", "goalSize", "[I", true)
  | 46 => ("PackageBookModel", "goals", "[B", true)
  | 47 => ("PackageBookModel", "valueSize", "I", false)
  | 48 => ("PackageBookModel", "value", "[B", true)
  | 49 => ("PackageBookModel", "faultCount", "I", false)
  | 50 => ("PackageBookModel", "faults", "[I", true)
  | _ => ("PackageBookModel", "reached", "[Z", true)
def t_Mod : Nat → FieldType := fun k => match k with
  | 0 => .array .byte
  | 1 => .array .byte
  | 2 => .array .byte
  | 3 => .array .byte
  | 4 => .array .byte
  | 5 => .array .byte
  | 6 => .array .byte
  | 7 => .array .byte
  | 8 => .int
  | 9 => .int
  | 10 => .array .byte
  | 11 => .array .int
  | 12 => .array .int
  | 13 => .array .byte
  | 14 => .array .int
  | 15 => .array .byte
  | 16 => .int
  | 17 => .array .byte
  | 18 => .int
  | 19 => .array .byte
  | 20 => .int
  | 21 => .array .byte
  | 22 => .int
  | 23 => .array .byte
  | 24 => .int
  | 25 => .array .byte
  | 26 => .int
  | 27 => .int
  | 28 => .int
  | 29 => .int
  | 30 => .array .byte
  | 31 => .array .int
  | 32 => .int
  | 33 => .int
  | 34 => .int
  | 35 => .int
  | 36 => .int
  | 37 => .array .byte
  | 38 => .int
  | 39 => .boolean
  | 40 => .int
  | 41 => .array .byte
  | 42 => .int
  | 43 => .array .int
  | 44 => .array .byte
  | 45 => .array .int
  | 46 => .array .byte
  | 47 => .int
  | 48 => .array .byte
  | 49 => .int
  | 50 => .array .int
  | _ => .array .boolean
theorem t_Mod_ok : ∀ k, k < 52 → parseFieldDescriptor (T_Mod k).2.2.1 = some (t_Mod k) := by decide +kernel
theorem n_Mod : ∀ a, a < 52 → ∀ b, b < 52 → a ≠ b → (T_Mod a).2.1 ≠ (T_Mod b).2.1 := by decide +kernel
abbrev vwCl : List vw_C := [("PackageBook$Row", T_Row, 2), ("PackageBook$Code", T_Code, 3), ("PackageBook$Findings", T_Findings, 4), ("PackageBook$Shelf", T_Shelf, 5), ("PackageBook$Presser", T_Presser, 9), ("PackageBook$Expander", T_Expander, 11), ("PackageBook$FileMaker", T_FileMaker, 2), ("PackageBook$FileReader", T_FileReader, 1), ("PackageBook$Markup", T_Markup, 13), ("PackageBook", T_Book, 11), ("PackageBookModel", T_Mod, 52)]
theorem k_167 : (Jvm.Cond.laysFinal "PackageBook$Row" "PackageBook$Row" "bytes" "[B") ∈ uW := uW_of 167 (by decide +kernel) (by decide +kernel)
theorem k_169 : (Jvm.Cond.lays "PackageBook$Row" "PackageBook$Row" "size" "I") ∈ uW := uW_of 169 (by decide +kernel) (by decide +kernel)
theorem in_Row : ∀ w ∈ u_ws "PackageBook$Row" T_Row 2, w ∈ uW := List.forall_mem_cons.mpr ⟨k_167, List.forall_mem_cons.mpr ⟨k_169, fun _ h => absurd h List.not_mem_nil⟩⟩
theorem k_232 : (Jvm.Cond.laysFinal "PackageBook$Code" "PackageBook$Code" "counts" "[I") ∈ uW := uW_of 232 (by decide +kernel) (by decide +kernel)
theorem k_234 : (Jvm.Cond.laysFinal "PackageBook$Code" "PackageBook$Code" "symbols" "[I") ∈ uW := uW_of 234 (by decide +kernel) (by decide +kernel)
theorem k_236 : (Jvm.Cond.lays "PackageBook$Code" "PackageBook$Code" "size" "I") ∈ uW := uW_of 236 (by decide +kernel) (by decide +kernel)
theorem in_Code : ∀ w ∈ u_ws "PackageBook$Code" T_Code 3, w ∈ uW := List.forall_mem_cons.mpr ⟨k_232, List.forall_mem_cons.mpr ⟨k_234, List.forall_mem_cons.mpr ⟨k_236, fun _ h => absurd h List.not_mem_nil⟩⟩⟩
theorem k_374 : (Jvm.Cond.laysFinal "PackageBook$Findings" "PackageBook$Findings" "kinds" "[I") ∈ uW := uW_of 374 (by decide +kernel) (by decide +kernel)
theorem k_376 : (Jvm.Cond.laysFinal "PackageBook$Findings" "PackageBook$Findings" "owners" "[I") ∈ uW := uW_of 376 (by decide +kernel) (by decide +kernel)
theorem k_378 : (Jvm.Cond.laysFinal "PackageBook$Findings" "PackageBook$Findings" "places" "[I") ∈ uW := uW_of 378 (by decide +kernel) (by decide +kernel)
theorem k_380 : (Jvm.Cond.lays "PackageBook$Findings" "PackageBook$Findings" "count" "I") ∈ uW := uW_of 380 (by decide +kernel) (by decide +kernel)
theorem in_Findings : ∀ w ∈ u_ws "PackageBook$Findings" T_Findings 4, w ∈ uW := List.forall_mem_cons.mpr ⟨k_374, List.forall_mem_cons.mpr ⟨k_376, List.forall_mem_cons.mpr ⟨k_378, List.forall_mem_cons.mpr ⟨k_380, fun _ h => absurd h List.not_mem_nil⟩⟩⟩⟩
theorem k_406 : (Jvm.Cond.laysFinal "PackageBook$Shelf" "PackageBook$Shelf" "names" "[B") ∈ uW := uW_of 406 (by decide +kernel) (by decide +kernel)
theorem k_408 : (Jvm.Cond.laysFinal "PackageBook$Shelf" "PackageBook$Shelf" "nameSizes" "[I") ∈ uW := uW_of 408 (by decide +kernel) (by decide +kernel)
theorem k_410 : (Jvm.Cond.laysFinal "PackageBook$Shelf" "PackageBook$Shelf" "bytes" "[B") ∈ uW := uW_of 410 (by decide +kernel) (by decide +kernel)
theorem k_412 : (Jvm.Cond.laysFinal "PackageBook$Shelf" "PackageBook$Shelf" "begins" "[I") ∈ uW := uW_of 412 (by decide +kernel) (by decide +kernel)
theorem k_414 : (Jvm.Cond.lays "PackageBook$Shelf" "PackageBook$Shelf" "count" "I") ∈ uW := uW_of 414 (by decide +kernel) (by decide +kernel)
theorem in_Shelf : ∀ w ∈ u_ws "PackageBook$Shelf" T_Shelf 5, w ∈ uW := List.forall_mem_cons.mpr ⟨k_406, List.forall_mem_cons.mpr ⟨k_408, List.forall_mem_cons.mpr ⟨k_410, List.forall_mem_cons.mpr ⟨k_412, List.forall_mem_cons.mpr ⟨k_414, fun _ h => absurd h List.not_mem_nil⟩⟩⟩⟩⟩
theorem k_192 : (Jvm.Cond.laysFinal "PackageBook$Presser" "PackageBook$Presser" "pressed" "LPackageBook$Row;") ∈ uW := uW_of 192 (by decide +kernel) (by decide +kernel)
theorem k_194 : (Jvm.Cond.laysFinal "PackageBook$Presser" "PackageBook$Presser" "latest" "[I") ∈ uW := uW_of 194 (by decide +kernel) (by decide +kernel)
theorem k_196 : (Jvm.Cond.laysFinal "PackageBook$Presser" "PackageBook$Presser" "earlier" "[I") ∈ uW := uW_of 196 (by decide +kernel) (by decide +kernel)
theorem k_198 : (Jvm.Cond.lays "PackageBook$Presser" "PackageBook$Presser" "row" "[B") ∈ uW := uW_of 198 (by decide +kernel) (by decide +kernel)
theorem k_200 : (Jvm.Cond.lays "PackageBook$Presser" "PackageBook$Presser" "begin" "I") ∈ uW := uW_of 200 (by decide +kernel) (by decide +kernel)
theorem k_202 : (Jvm.Cond.lays "PackageBook$Presser" "PackageBook$Presser" "size" "I") ∈ uW := uW_of 202 (by decide +kernel) (by decide +kernel)
theorem k_204 : (Jvm.Cond.lays "PackageBook$Presser" "PackageBook$Presser" "bits" "I") ∈ uW := uW_of 204 (by decide +kernel) (by decide +kernel)
theorem k_206 : (Jvm.Cond.lays "PackageBook$Presser" "PackageBook$Presser" "length" "I") ∈ uW := uW_of 206 (by decide +kernel) (by decide +kernel)
theorem k_208 : (Jvm.Cond.lays "PackageBook$Presser" "PackageBook$Presser" "distance" "I") ∈ uW := uW_of 208 (by decide +kernel) (by decide +kernel)
theorem in_Presser : ∀ w ∈ u_ws "PackageBook$Presser" T_Presser 9, w ∈ uW := List.forall_mem_cons.mpr ⟨k_192, List.forall_mem_cons.mpr ⟨k_194, List.forall_mem_cons.mpr ⟨k_196, List.forall_mem_cons.mpr ⟨k_198, List.forall_mem_cons.mpr ⟨k_200, List.forall_mem_cons.mpr ⟨k_202, List.forall_mem_cons.mpr ⟨k_204, List.forall_mem_cons.mpr ⟨k_206, List.forall_mem_cons.mpr ⟨k_208, fun _ h => absurd h List.not_mem_nil⟩⟩⟩⟩⟩⟩⟩⟩⟩
theorem k_261 : (Jvm.Cond.laysFinal "PackageBook$Expander" "PackageBook$Expander" "expanded" "LPackageBook$Row;") ∈ uW := uW_of 261 (by decide +kernel) (by decide +kernel)
theorem k_263 : (Jvm.Cond.laysFinal "PackageBook$Expander" "PackageBook$Expander" "told" "[I") ∈ uW := uW_of 263 (by decide +kernel) (by decide +kernel)
theorem k_265 : (Jvm.Cond.laysFinal "PackageBook$Expander" "PackageBook$Expander" "fixedFirst" "LPackageBook$Code;") ∈ uW := uW_of 265 (by decide +kernel) (by decide +kernel)
theorem k_267 : (Jvm.Cond.laysFinal "PackageBook$Expander" "PackageBook$Expander" "fixedSecond" "LPackageBook$Code;") ∈ uW := uW_of 267 (by decide +kernel) (by decide +kernel)
theorem k_269 : (Jvm.Cond.laysFinal "PackageBook$Expander" "PackageBook$Expander" "first" "LPackageBook$Code;") ∈ uW := uW_of 269 (by decide +kernel) (by decide +kernel)
theorem k_271 : (Jvm.Cond.laysFinal "PackageBook$Expander" "PackageBook$Expander" "second" "LPackageBook$Code;") ∈ uW := uW_of 271 (by decide +kernel) (by decide +kernel)
theorem k_273 : (Jvm.Cond.laysFinal "PackageBook$Expander" "PackageBook$Expander" "third" "LPackageBook$Code;") ∈ uW := uW_of 273 (by decide +kernel) (by decide +kernel)
theorem k_275 : (Jvm.Cond.lays "PackageBook$Expander" "PackageBook$Expander" "row" "[B") ∈ uW := uW_of 275 (by decide +kernel) (by decide +kernel)
theorem k_277 : (Jvm.Cond.lays "PackageBook$Expander" "PackageBook$Expander" "at" "I") ∈ uW := uW_of 277 (by decide +kernel) (by decide +kernel)
theorem k_279 : (Jvm.Cond.lays "PackageBook$Expander" "PackageBook$Expander" "end" "I") ∈ uW := uW_of 279 (by decide +kernel) (by decide +kernel)
theorem k_281 : (Jvm.Cond.lays "PackageBook$Expander" "PackageBook$Expander" "fault" "I") ∈ uW := uW_of 281 (by decide +kernel) (by decide +kernel)
theorem in_Expander : ∀ w ∈ u_ws "PackageBook$Expander" T_Expander 11, w ∈ uW := List.forall_mem_cons.mpr ⟨k_261, List.forall_mem_cons.mpr ⟨k_263, List.forall_mem_cons.mpr ⟨k_265, List.forall_mem_cons.mpr ⟨k_267, List.forall_mem_cons.mpr ⟨k_269, List.forall_mem_cons.mpr ⟨k_271, List.forall_mem_cons.mpr ⟨k_273, List.forall_mem_cons.mpr ⟨k_275, List.forall_mem_cons.mpr ⟨k_277, List.forall_mem_cons.mpr ⟨k_279, List.forall_mem_cons.mpr ⟨k_281, fun _ h => absurd h List.not_mem_nil⟩⟩⟩⟩⟩⟩⟩⟩⟩⟩⟩
theorem k_295 : (Jvm.Cond.laysFinal "PackageBook$FileMaker" "PackageBook$FileMaker" "made" "LPackageBook$Row;") ∈ uW := uW_of 295 (by decide +kernel) (by decide +kernel)
theorem k_297 : (Jvm.Cond.laysFinal "PackageBook$FileMaker" "PackageBook$FileMaker" "records" "[I") ∈ uW := uW_of 297 (by decide +kernel) (by decide +kernel)
theorem in_FileMaker : ∀ w ∈ u_ws "PackageBook$FileMaker" T_FileMaker 2, w ∈ uW := List.forall_mem_cons.mpr ⟨k_295, List.forall_mem_cons.mpr ⟨k_297, fun _ h => absurd h List.not_mem_nil⟩⟩
theorem k_307 : (Jvm.Cond.lays "PackageBook$FileReader" "PackageBook$FileReader" "row" "[B") ∈ uW := uW_of 307 (by decide +kernel) (by decide +kernel)
theorem in_FileReader : ∀ w ∈ u_ws "PackageBook$FileReader" T_FileReader 1, w ∈ uW := List.forall_mem_cons.mpr ⟨k_307, fun _ h => absurd h List.not_mem_nil⟩
theorem k_332 : (Jvm.Cond.laysFinal "PackageBook$Markup" "PackageBook$Markup" "ids" "[J") ∈ uW := uW_of 332 (by decide +kernel) (by decide +kernel)
theorem k_334 : (Jvm.Cond.laysFinal "PackageBook$Markup" "PackageBook$Markup" "goals" "[I") ∈ uW := uW_of 334 (by decide +kernel) (by decide +kernel)
theorem k_336 : (Jvm.Cond.laysFinal "PackageBook$Markup" "PackageBook$Markup" "value" "[B") ∈ uW := uW_of 336 (by decide +kernel) (by decide +kernel)
theorem k_338 : (Jvm.Cond.lays "PackageBook$Markup" "PackageBook$Markup" "row" "[B") ∈ uW := uW_of 338 (by decide +kernel) (by decide +kernel)
theorem k_340 : (Jvm.Cond.lays "PackageBook$Markup" "PackageBook$Markup" "count" "I") ∈ uW := uW_of 340 (by decide +kernel) (by decide +kernel)
theorem k_342 : (Jvm.Cond.lays "PackageBook$Markup" "PackageBook$Markup" "fault" "I") ∈ uW := uW_of 342 (by decide +kernel) (by decide +kernel)
theorem k_344 : (Jvm.Cond.lays "PackageBook$Markup" "PackageBook$Markup" "begin" "I") ∈ uW := uW_of 344 (by decide +kernel) (by decide +kernel)
theorem k_346 : (Jvm.Cond.lays "PackageBook$Markup" "PackageBook$Markup" "at" "I") ∈ uW := uW_of 346 (by decide +kernel) (by decide +kernel)
theorem k_348 : (Jvm.Cond.lays "PackageBook$Markup" "PackageBook$Markup" "end" "I") ∈ uW := uW_of 348 (by decide +kernel) (by decide +kernel)
theorem k_350 : (Jvm.Cond.lays "PackageBook$Markup" "PackageBook$Markup" "valueSize" "I") ∈ uW := uW_of 350 (by decide +kernel) (by decide +kernel)
theorem k_352 : (Jvm.Cond.lays "PackageBook$Markup" "PackageBook$Markup" "isOpen" "Z") ∈ uW := uW_of 352 (by decide +kernel) (by decide +kernel)
theorem k_354 : (Jvm.Cond.lays "PackageBook$Markup" "PackageBook$Markup" "hasId" "Z") ∈ uW := uW_of 354 (by decide +kernel) (by decide +kernel)
theorem k_356 : (Jvm.Cond.lays "PackageBook$Markup" "PackageBook$Markup" "hasTo" "Z") ∈ uW := uW_of 356 (by decide +kernel) (by decide +kernel)
theorem in_Markup : ∀ w ∈ u_ws "PackageBook$Markup" T_Markup 13, w ∈ uW := List.forall_mem_cons.mpr ⟨k_332, List.forall_mem_cons.mpr ⟨k_334, List.forall_mem_cons.mpr ⟨k_336, List.forall_mem_cons.mpr ⟨k_338, List.forall_mem_cons.mpr ⟨k_340, List.forall_mem_cons.mpr ⟨k_342, List.forall_mem_cons.mpr ⟨k_344, List.forall_mem_cons.mpr ⟨k_346, List.forall_mem_cons.mpr ⟨k_348, List.forall_mem_cons.mpr ⟨k_350, List.forall_mem_cons.mpr ⟨k_352, List.forall_mem_cons.mpr ⟨k_354, List.forall_mem_cons.mpr ⟨k_356, fun _ h => absurd h List.not_mem_nil⟩⟩⟩⟩⟩⟩⟩⟩⟩⟩⟩⟩⟩
theorem k_428 : (Jvm.Cond.laysFinal "PackageBook" "PackageBook" "tape" "LPackageBook$Row;") ∈ uW := uW_of 428 (by decide +kernel) (by decide +kernel)
theorem k_430 : (Jvm.Cond.laysFinal "PackageBook" "PackageBook" "came" "LPackageBook$Row;") ∈ uW := uW_of 430 (by decide +kernel) (by decide +kernel)
theorem k_432 : (Jvm.Cond.laysFinal "PackageBook" "PackageBook" "presser" "LPackageBook$Presser;") ∈ uW := uW_of 432 (by decide +kernel) (by decide +kernel)
theorem k_434 : (Jvm.Cond.laysFinal "PackageBook" "PackageBook" "expander" "LPackageBook$Expander;") ∈ uW := uW_of 434 (by decide +kernel) (by decide +kernel)
theorem k_436 : (Jvm.Cond.laysFinal "PackageBook" "PackageBook" "maker" "LPackageBook$FileMaker;") ∈ uW := uW_of 436 (by decide +kernel) (by decide +kernel)
theorem k_438 : (Jvm.Cond.laysFinal "PackageBook" "PackageBook" "reader" "LPackageBook$FileReader;") ∈ uW := uW_of 438 (by decide +kernel) (by decide +kernel)
theorem k_440 : (Jvm.Cond.laysFinal "PackageBook" "PackageBook" "markup" "LPackageBook$Markup;") ∈ uW := uW_of 440 (by decide +kernel) (by decide +kernel)
theorem k_442 : (Jvm.Cond.laysFinal "PackageBook" "PackageBook" "findings" "LPackageBook$Findings;") ∈ uW := uW_of 442 (by decide +kernel) (by decide +kernel)
theorem k_444 : (Jvm.Cond.laysFinal "PackageBook" "PackageBook" "goals" "[I") ∈ uW := uW_of 444 (by decide +kernel) (by decide +kernel)
theorem k_446 : (Jvm.Cond.lays "PackageBook" "PackageBook" "parts" "LPackageBook$Shelf;") ∈ uW := uW_of 446 (by decide +kernel) (by decide +kernel)
theorem k_448 : (Jvm.Cond.lays "PackageBook" "PackageBook" "spare" "LPackageBook$Shelf;") ∈ uW := uW_of 448 (by decide +kernel) (by decide +kernel)
theorem in_Book : ∀ w ∈ u_ws "PackageBook" T_Book 11, w ∈ uW := List.forall_mem_cons.mpr ⟨k_428, List.forall_mem_cons.mpr ⟨k_430, List.forall_mem_cons.mpr ⟨k_432, List.forall_mem_cons.mpr ⟨k_434, List.forall_mem_cons.mpr ⟨k_436, List.forall_mem_cons.mpr ⟨k_438, List.forall_mem_cons.mpr ⟨k_440, List.forall_mem_cons.mpr ⟨k_442, List.forall_mem_cons.mpr ⟨k_444, List.forall_mem_cons.mpr ⟨k_446, List.forall_mem_cons.mpr ⟨k_448, fun _ h => absurd h List.not_mem_nil⟩⟩⟩⟩⟩⟩⟩⟩⟩⟩⟩
theorem k_1198 : (Jvm.Cond.laysFinal "PackageBookModel" "PackageBookModel" "rels" "[B") ∈ uW := uW_of 1198 (by decide +kernel) (by decide +kernel)
theorem k_1200 : (Jvm.Cond.laysFinal "PackageBookModel" "PackageBookModel" "openRels" "[B") ∈ uW := uW_of 1200 (by decide +kernel) (by decide +kernel)
theorem k_1202 : (Jvm.Cond.laysFinal "PackageBookModel" "PackageBookModel" "closeRels" "[B") ∈ uW := uW_of 1202 (by decide +kernel) (by decide +kernel)
theorem k_1204 : (Jvm.Cond.laysFinal "PackageBookModel" "PackageBookModel" "openRel" "[B") ∈ uW := uW_of 1204 (by decide +kernel) (by decide +kernel)
theorem k_1206 : (Jvm.Cond.laysFinal "PackageBookModel" "PackageBookModel" "closeRel" "[B") ∈ uW := uW_of 1206 (by decide +kernel) (by decide +kernel)
theorem k_1208 : (Jvm.Cond.laysFinal "PackageBookModel" "PackageBookModel" "comment" "[B") ∈ uW := uW_of 1208 (by decide +kernel) (by decide +kernel)
theorem k_1210 : (Jvm.Cond.laysFinal "PackageBookModel" "PackageBookModel" "ends" "[B") ∈ uW := uW_of 1210 (by decide +kernel) (by decide +kernel)
theorem k_1212 : (Jvm.Cond.laysFinal "PackageBookModel" "PackageBookModel" "order" "[B") ∈ uW := uW_of 1212 (by decide +kernel) (by decide +kernel)
theorem k_1214 : (Jvm.Cond.lays "PackageBookModel" "PackageBookModel" "thrown" "I") ∈ uW := uW_of 1214 (by decide +kernel) (by decide +kernel)
theorem k_1216 : (Jvm.Cond.lays "PackageBookModel" "PackageBookModel" "taped" "I") ∈ uW := uW_of 1216 (by decide +kernel) (by decide +kernel)
theorem k_1218 : (Jvm.Cond.laysFinal "PackageBookModel" "PackageBookModel" "tape" "[B") ∈ uW := uW_of 1218 (by decide +kernel) (by decide +kernel)
theorem k_1220 : (Jvm.Cond.laysFinal "PackageBookModel" "PackageBookModel" "count" "[I") ∈ uW := uW_of 1220 (by decide +kernel) (by decide +kernel)
theorem k_1222 : (Jvm.Cond.laysFinal "PackageBookModel" "PackageBookModel" "nameSize" "[I") ∈ uW := uW_of 1222 (by decide +kernel) (by decide +kernel)
theorem k_1224 : (Jvm.Cond.laysFinal "PackageBookModel" "PackageBookModel" "names" "[B") ∈ uW := uW_of 1224 (by decide +kernel) (by decide +kernel)
theorem k_1226 : (Jvm.Cond.laysFinal "PackageBookModel" "PackageBookModel" "size" "[I") ∈ uW := uW_of 1226 (by decide +kernel) (by decide +kernel)
theorem k_1228 : (Jvm.Cond.laysFinal "PackageBookModel" "PackageBookModel" "data" "[B") ∈ uW := uW_of 1228 (by decide +kernel) (by decide +kernel)
theorem k_1230 : (Jvm.Cond.lays "PackageBookModel" "PackageBookModel" "lookedSize" "I") ∈ uW := uW_of 1230 (by decide +kernel) (by decide +kernel)
theorem k_1232 : (Jvm.Cond.laysFinal "PackageBookModel" "PackageBookModel" "looked" "[B") ∈ uW := uW_of 1232 (by decide +kernel) (by decide +kernel)
theorem k_1234 : (Jvm.Cond.lays "PackageBookModel" "PackageBookModel" "fileSize" "I") ∈ uW := uW_of 1234 (by decide +kernel) (by decide +kernel)
theorem k_1236 : (Jvm.Cond.laysFinal "PackageBookModel" "PackageBookModel" "file" "[B") ∈ uW := uW_of 1236 (by decide +kernel) (by decide +kernel)
theorem k_1238 : (Jvm.Cond.lays "PackageBookModel" "PackageBookModel" "directorySize" "I") ∈ uW := uW_of 1238 (by decide +kernel) (by decide +kernel)
theorem k_1240 : (Jvm.Cond.laysFinal "PackageBookModel" "PackageBookModel" "directory" "[B") ∈ uW := uW_of 1240 (by decide +kernel) (by decide +kernel)
theorem k_1242 : (Jvm.Cond.lays "PackageBookModel" "PackageBookModel" "outSize" "I") ∈ uW := uW_of 1242 (by decide +kernel) (by decide +kernel)
theorem k_1244 : (Jvm.Cond.laysFinal "PackageBookModel" "PackageBookModel" "out" "[B") ∈ uW := uW_of 1244 (by decide +kernel) (by decide +kernel)
theorem k_1246 : (Jvm.Cond.lays "PackageBookModel" "PackageBookModel" "rowSize" "I") ∈ uW := uW_of 1246 (by decide +kernel) (by decide +kernel)
theorem k_1248 : (Jvm.Cond.laysFinal "PackageBookModel" "PackageBookModel" "row" "[B") ∈ uW := uW_of 1248 (by decide +kernel) (by decide +kernel)
theorem k_1250 : (Jvm.Cond.lays "PackageBookModel" "PackageBookModel" "bitAt" "I") ∈ uW := uW_of 1250 (by decide +kernel) (by decide +kernel)
theorem k_1252 : (Jvm.Cond.lays "PackageBookModel" "PackageBookModel" "bitEnd" "I") ∈ uW := uW_of 1252 (by decide +kernel) (by decide +kernel)
theorem k_1254 : (Jvm.Cond.lays "PackageBookModel" "PackageBookModel" "why" "I") ∈ uW := uW_of 1254 (by decide +kernel) (by decide +kernel)
theorem k_1256 : (Jvm.Cond.lays "PackageBookModel" "PackageBookModel" "madeSize" "I") ∈ uW := uW_of 1256 (by decide +kernel) (by decide +kernel)
theorem k_1258 : (Jvm.Cond.laysFinal "PackageBookModel" "PackageBookModel" "made" "[B") ∈ uW := uW_of 1258 (by decide +kernel) (by decide +kernel)
theorem k_1260 : (Jvm.Cond.laysFinal "PackageBookModel" "PackageBookModel" "length" "[I") ∈ uW := uW_of 1260 (by decide +kernel) (by decide +kernel)
theorem k_1262 : (Jvm.Cond.lays "PackageBookModel" "PackageBookModel" "firstCount" "I") ∈ uW := uW_of 1262 (by decide +kernel) (by decide +kernel)
theorem k_1264 : (Jvm.Cond.lays "PackageBookModel" "PackageBookModel" "secondCount" "I") ∈ uW := uW_of 1264 (by decide +kernel) (by decide +kernel)
theorem k_1266 : (Jvm.Cond.lays "PackageBookModel" "PackageBookModel" "heldBits" "I") ∈ uW := uW_of 1266 (by decide +kernel) (by decide +kernel)
theorem k_1268 : (Jvm.Cond.lays "PackageBookModel" "PackageBookModel" "heldCount" "I") ∈ uW := uW_of 1268 (by decide +kernel) (by decide +kernel)
theorem k_1270 : (Jvm.Cond.lays "PackageBookModel" "PackageBookModel" "pressedSize" "I") ∈ uW := uW_of 1270 (by decide +kernel) (by decide +kernel)
theorem k_1272 : (Jvm.Cond.laysFinal "PackageBookModel" "PackageBookModel" "pressed" "[B") ∈ uW := uW_of 1272 (by decide +kernel) (by decide +kernel)
theorem k_1274 : (Jvm.Cond.lays "PackageBookModel" "PackageBookModel" "at" "I") ∈ uW := uW_of 1274 (by decide +kernel) (by decide +kernel)
theorem k_1276 : (Jvm.Cond.lays "PackageBookModel" "PackageBookModel" "bad" "Z") ∈ uW := uW_of 1276 (by decide +kernel) (by decide +kernel)
theorem k_1278 : (Jvm.Cond.lays "PackageBookModel" "PackageBookModel" "markSize" "I") ∈ uW := uW_of 1278 (by decide +kernel) (by decide +kernel)
theorem k_1280 : (Jvm.Cond.laysFinal "PackageBookModel" "PackageBookModel" "mark" "[B") ∈ uW := uW_of 1280 (by decide +kernel) (by decide +kernel)
theorem k_1282 : (Jvm.Cond.lays "PackageBookModel" "PackageBookModel" "relationCount" "I") ∈ uW := uW_of 1282 (by decide +kernel) (by decide +kernel)
theorem k_1284 : (Jvm.Cond.laysFinal "PackageBookModel" "PackageBookModel" "idSize" "[I") ∈ uW := uW_of 1284 (by decide +kernel) (by decide +kernel)
theorem k_1286 : (Jvm.Cond.laysFinal "PackageBookModel" "PackageBookModel" "ids" "[B") ∈ uW := uW_of 1286 (by decide +kernel) (by decide +kernel)
theorem k_1288 : (Jvm.Cond.laysFinal "PackageBookModel" "PackageBookModel" "goalSize" "[I") ∈ uW := uW_of 1288 (by decide +kernel) (by decide +kernel)
theorem k_1290 : (Jvm.Cond.laysFinal "PackageBookModel" "PackageBookModel" "goals" "[B") ∈ uW := uW_of 1290 (by decide +kernel) (by decide +kernel)
theorem k_1292 : (Jvm.Cond.lays "PackageBookModel" "PackageBookModel" "valueSize" "I") ∈ uW := uW_of 1292 (by decide +kernel) (by decide +kernel)
theorem k_1294 : (Jvm.Cond.laysFinal "PackageBookModel" "PackageBookModel" "value" "[B") ∈ uW := uW_of 1294 (by decide +kernel) (by decide +kernel)
theorem k_1296 : (Jvm.Cond.lays "PackageBookModel" "PackageBookModel" "faultCount" "I") ∈ uW := uW_of 1296 (by decide +kernel) (by decide +kernel)
theorem k_1298 : (Jvm.Cond.laysFinal "PackageBookModel" "PackageBookModel" "faults" "[I") ∈ uW := uW_of 1298 (by decide +kernel) (by decide +kernel)
theorem k_1300 : (Jvm.Cond.laysFinal "PackageBookModel" "PackageBookModel" "reached" "[Z") ∈ uW := uW_of 1300 (by decide +kernel) (by decide +kernel)
theorem in_Mod : ∀ w ∈ u_ws "PackageBookModel" T_Mod 52, w ∈ uW := List.forall_mem_cons.mpr ⟨k_1198, List.forall_mem_cons.mpr ⟨k_1200, List.forall_mem_cons.mpr ⟨k_1202, List.forall_mem_cons.mpr ⟨k_1204, List.forall_mem_cons.mpr ⟨k_1206, List.forall_mem_cons.mpr ⟨k_1208, List.forall_mem_cons.mpr ⟨k_1210, List.forall_mem_cons.mpr ⟨k_1212, List.forall_mem_cons.mpr ⟨k_1214, List.forall_mem_cons.mpr ⟨k_1216, List.forall_mem_cons.mpr ⟨k_1218, List.forall_mem_cons.mpr ⟨k_1220, List.forall_mem_cons.mpr ⟨k_1222, List.forall_mem_cons.mpr ⟨k_1224, List.forall_mem_cons.mpr ⟨k_1226, List.forall_mem_cons.mpr ⟨k_1228, List.forall_mem_cons.mpr ⟨k_1230, List.forall_mem_cons.mpr ⟨k_1232, List.forall_mem_cons.mpr ⟨k_1234, List.forall_mem_cons.mpr ⟨k_1236, List.forall_mem_cons.mpr ⟨k_1238, List.forall_mem_cons.mpr ⟨k_1240, List.forall_mem_cons.mpr ⟨k_1242, List.forall_mem_cons.mpr ⟨k_1244, List.forall_mem_cons.mpr ⟨k_1246, List.forall_mem_cons.mpr ⟨k_1248, List.forall_mem_cons.mpr ⟨k_1250, List.forall_mem_cons.mpr ⟨k_1252, List.forall_mem_cons.mpr ⟨k_1254, List.forall_mem_cons.mpr ⟨k_1256, List.forall_mem_cons.mpr ⟨k_1258, List.forall_mem_cons.mpr ⟨k_1260, List.forall_mem_cons.mpr ⟨k_1262, List.forall_mem_cons.mpr ⟨k_1264, List.forall_mem_cons.mpr ⟨k_1266, List.forall_mem_cons.mpr ⟨k_1268, List.forall_mem_cons.mpr ⟨k_1270, List.forall_mem_cons.mpr ⟨k_1272, List.forall_mem_cons.mpr ⟨k_1274, List.forall_mem_cons.mpr ⟨k_1276, List.forall_mem_cons.mpr ⟨k_1278, List.forall_mem_cons.mpr ⟨k_1280, List.forall_mem_cons.mpr ⟨k_1282, List.forall_mem_cons.mpr ⟨k_1284, List.forall_mem_cons.mpr ⟨k_1286, List.forall_mem_cons.mpr ⟨k_1288, List.forall_mem_cons.mpr ⟨k_1290, List.forall_mem_cons.mpr ⟨k_1292, List.forall_mem_cons.mpr ⟨k_1294, List.forall_mem_cons.mpr ⟨k_1296, List.forall_mem_cons.mpr ⟨k_1298, List.forall_mem_cons.mpr ⟨k_1300, fun _ h => absurd h List.not_mem_nil⟩⟩⟩⟩⟩⟩⟩⟩⟩⟩⟩⟩⟩⟩⟩⟩⟩⟩⟩⟩⟩⟩⟩⟩⟩⟩⟩⟩⟩⟩⟩⟩⟩⟩⟩⟩⟩⟩⟩⟩⟩⟩⟩⟩⟩⟩⟩⟩⟩⟩⟩⟩

def pb_strs : List (String × Nat × String) := [("PackageBook$Shelf", 72, ".rels"), ("PackageBook$Markup", 168, "<!--"), ("PackageBook$Markup", 170, "-->"), ("PackageBook$Markup", 71, "<rels"), ("PackageBook$Markup", 87, ">"), ("PackageBook$Markup", 89, "/>"), ("PackageBook$Markup", 100, "<rel"), ("PackageBook$Markup", 116, "id"), ("PackageBook$Markup", 122, "to"), ("PackageBook$Markup", 124, "="), ("PackageBook$Markup", 147, "amp"), ("PackageBook$Markup", 149, "lt"), ("PackageBook$Markup", 151, "gt"), ("PackageBook$Markup", 153, "quot"), ("PackageBook$Markup", 155, "apos"), ("PackageBook$Markup", 145, ";"), ("PackageBook$Markup", 111, "</rel"), ("PackageBook$Markup", 91, "</rels"), ("PackageBook", 256, "root"), ("PackageBook", 79, "one to eight bytes can be typed"), ("PackageBook", 90, "the tape is full"), ("PackageBook", 96, "the tape has not so many bytes"), ("PackageBook", 114, "the tape does not begin with such a name"), ("PackageBook", 124, "too many parts or bytes"), ("PackageBook", 145, "no such part or question"), ("PackageBook", 155, "no such part or byte"), ("PackageBook", 182, "no such byte"), ("PackageBook", 184, "a byte is changed by 0 to 255"), ("PackageBook", 186, "too many bytes"), ("PackageBook", 222, "no such fault or question"), ("PackageBook", 233, "no such part"), ("PackageBook", 240, "no such relation")]
/-! what a method takes as given of the start, and what no call changes: nest words, strings, the table THIRD_ORDER, two statics of Throwable -/
def pb_isN : Cond → Bool
  | .fieldLinkNest .. => true
  | .methodLinkNest .. => true
  | .castable .. => true
  | _ => false
def uN : List Cond := lw_tbl.filter pb_isN
theorem uN_of {w : Cond} (i : Nat) (h : lw_tbl[i]? = some w) (hg : pb_isN w = true) : w ∈ uN := List.mem_filter.mpr ⟨List.mem_of_getElem? h, hg⟩
theorem uN_same {w : Cond} (h : w ∈ uN) {u U : State} (hv : U.vm = u.vm) (hZ : va_Nw w u) : va_Nw w U := by
  have hg := (List.mem_filter.mp h).2
  cases w <;> first | exact va_Nw.same rfl hv.symm hZ | cases hg
theorem uN_warm {w : Cond} (h : w ∈ uN) {s U : State} (hW : s.WarmedH U.vm) (hZ : va_Nw w s) : va_Nw w U := by
  have hg := (List.mem_filter.mp h).2
  cases w <;> first | exact va_Nw.warmF hW hZ | exact va_Nw.warmM hW hZ | exact va_Nw.warmC hW hZ | cases hg
theorem uN_use {w : Cond} (h : w ∈ uN) {U : State} {a : Array Value} (hZ : va_Nw w U) : w.before a U = true := by
  have hg := (List.mem_filter.mp h).2
  cases w <;> first | exact va_Nw.use rfl hZ | cases hg
/-- a static of a class that holds a reference or null: its value, its place -/
def tz (C n d : String) (A : Nat → Prop) (U : State) (H : Heap) : Prop := va_Zq C n d A U H ∧ ∃ (c : ClassId) (k : Class) (i : Nat) (f : Field) (a : Nat) (cell : Cell),
  U.vm.findClass C = some c ∧ U.fieldFound? C n d = some (c, k, i, f) ∧ f.isStatic = true ∧ k.statics = some a ∧ H[a]? = some cell ∧ cell.vm.isStatics = true ∧ cell.cls = c ∧ f.slot < cell.slots.size ∧ k.staticTypes[f.slot]? = some f.type ∧ ¬ A a
theorem tz.moved {C n d : String} {A : Nat → Prop} {u U : State} {H : Heap} (hv : u.vm.Alike U.vm) (h : tz C n d A u H) : tz C n d A U H := by
  obtain ⟨h0, c, k, i, f, a, cell, h1, h2, h3, h4, h5, h6, h7, h8, h9, h10⟩ := h
  obtain ⟨k', g1, g2⟩ := State.fieldFound?_setVm hv h2
  exact ⟨h0.moved hv, c, k', i, f, a, cell, by rw [hv.findClass]; exact h1, g1, h3, by rw [g2]; exact h4, h5, h6, h7, h8, by rw [g2]; exact h9, h10⟩
theorem tz.kept {C n d : String} {A : Nat → Prop} {U : State} {H H1 : Heap} (h : tz C n d A U H) (hq : ∀ a : Nat, a < H.size → ¬ A a → H1[a]? = H[a]?) : tz C n d A U H1 := by
  obtain ⟨h0, c, k, i, f, a, cell, h1, h2, h3, h4, h5, h6, h7, h8, h9, h10⟩ := h
  exact ⟨h0.kept hq, c, k, i, f, a, cell, h1, h2, h3, h4, by rw [hq a (Array.getElem?_eq_some_iff.mp h5).1 h10]; exact h5, h6, h7, h8, h9, h10⟩
theorem tz.narrow {C n d : String} {A B : Nat → Prop} {U : State} {H : Heap} (h : tz C n d A U H) (hAB : ∀ q, B q → A q) : tz C n d B U H := by
  obtain ⟨h0, c, k, i, f, a, cell, h1, h2, h3, h4, h5, h6, h7, h8, h9, h10⟩ := h
  exact ⟨h0.narrow hAB, c, k, i, f, a, cell, h1, h2, h3, h4, h5, h6, h7, h8, h9, fun z => h10 (hAB _ z)⟩
theorem tz.lays {C n d : String} {A : Nat → Prop} {s : State} {args : Array Value} (h : tz C n d A s s.heap) : (Cond.laysStatic C n d).before args s = true := by
  obtain ⟨h0, c, k, i, f, a, cell, h1, h2, h3, h4, h5, h6, h7, h8, h9, -⟩ := h
  show (Cond.laysStatic C n d).holds args s none s [] = true
  exact Cond.laysStatic_of h1 h2 h3 h4 h5 h6 h7 h8 h9
theorem tz.isRef {C n d : String} {A : Nat → Prop} {s : State} {args : Array Value} (h : tz C n d A s s.heap) : (Cond.isRef (.static C n d)).before args s = true := by
  have main : ∀ v : Value, v.isRef = true → va_Z C n d v A s s.heap → (Cond.isRef (.static C n d)).before args s = true := by
    intro v hv hz
    obtain ⟨cf, kf, fi, f, a, cell, h1, h2, h3, h4, h5, h6, h7, -⟩ := hz
    have he : (Term.static C n d).eval args s none [] s = some v := by
      simp [Term.eval, State.fieldNamed?, h1, h2, h4, h5, h6, h7]
    simp only [Cond.before, Cond.holds, Cond.value, he]
    cases v <;> simp_all [Value.isRef]
  rcases h.1 with g | ⟨t, g⟩
  · exact main _ rfl g
  · exact main _ rfl g
theorem tz_of {args : Array Value} {s : State} {C n d : String} {A : Nat → Prop} (hl : (Cond.laysStatic C n d).before args s = true) (hini : (Cond.initialized C).before args s = true) (h : (Cond.isRef (.static C n d)).before args s = true) (hA : ∀ a : Nat, a < s.heap.size → ¬ A a) : tz C n d A s s.heap := by
  refine ⟨va_Zqof hl hini h hA, ?_⟩
  obtain ⟨c, k, i, f, a, cell, h1, h2, h3, h4, h5, h6, h7, h8, h9⟩ := Cond.laysStatic_spec hl
  exact ⟨c, k, i, f, a, cell, h1, h2, h3, h4, h5, h6, h7, h8, h9, hA a (Array.getElem?_eq_some_iff.mp h5).1⟩
def pb_third : List Int32 := [16, 17, 18, 0, 8, 7, 9, 6, 10, 5, 11, 4, 12, 3, 13, 2, 14, 1, 15]
def pb_Z (A : Nat → Prop) (U : State) (H : Heap) : Prop := (∃ t : Nat, va_Z "PackageBook$Expander" "THIRD_ORDER" "[I" (.ref t) A U H ∧ va_T .int t 19 (fun j => .int (pb_third.getD j 0)) A U H) ∧
  (∀ w ∈ uN, va_Nw w U) ∧ (∀ q ∈ pb_strs, ∃ a : Nat, vk_R q.1 q.2.1 q.2.2 a U) ∧ tz Bundle.tN "UNASSIGNED_STACK" Bundle.steD A U H ∧ tz Bundle.tN "SUPPRESSED_SENTINEL" Bundle.listD A U H
theorem pb_Z.same {A : Nat → Prop} {u U : State} {H : Heap} (hv : U.vm = u.vm) (h : pb_Z A u H) : pb_Z A U H := by
  obtain ⟨⟨t, h1, h2⟩, h3, h4, h5, h6⟩ := h
  have ha : u.vm.Alike U.vm := by rw [hv]; exact Vm.Alike.refl _
  exact ⟨⟨t, h1.moved ha, h2.moved ha⟩, fun w hw => uN_same hw hv (h3 w hw), fun q hq => (h4 q hq).imp fun a g => vk_R.same hv g, h5.moved ha, h6.moved ha⟩
theorem pb_Z.warm {A : Nat → Prop} {s U : State} {H : Heap} (hW : s.WarmedH U.vm) (h : pb_Z A s H) : pb_Z A U H := by
  obtain ⟨⟨t, h1, h2⟩, h3, h4, h5, h6⟩ := h
  exact ⟨⟨t, h1.moved hW.alike, h2.moved hW.alike⟩, fun w hw => uN_warm hw hW (h3 w hw), fun q hq => (h4 q hq).imp fun a g => vk_R.warm hW g, h5.moved hW.alike, h6.moved hW.alike⟩
theorem pb_Z.narrow {A B : Nat → Prop} {U : State} {H : Heap} (hAB : ∀ q, B q → A q) (h : pb_Z A U H) : pb_Z B U H := by
  obtain ⟨⟨t, h1, h2⟩, h3, h4, h5, h6⟩ := h
  exact ⟨⟨t, h1.narrow hAB, h2.narrow hAB⟩, h3, h4, h5.narrow hAB, h6.narrow hAB⟩
theorem pb_Z.kept {A : Nat → Prop} {U : State} {H0 H : Heap} {locs : List Loc} (h : pb_Z A U H0) (hS : va_S A H0 H locs) : pb_Z A U H := by
  obtain ⟨⟨t, h1, h2⟩, h3, h4, h5, h6⟩ := h
  exact ⟨⟨t, h1.kept hS.2.1, h2.kept hS.2.1⟩, h3, h4, h5.kept hS.2.1, h6.kept hS.2.1⟩
end
section
/-! The pure layer: pb_P says of a frame (pc, locals, stack) and a world that the machine comes to its goal from there. Heap, locations and slots are inside. -/
abbrev pb_G : Type := va_G × (ClassId × ClassId × ClassId × ClassId)
def pb_T (G : pb_G) : List (ClassId × FieldType) := [(G.2.1, .byte), (G.2.2.1, .int), (G.2.2.2.1, .long), (G.2.2.2.2, .boolean)]
/-- a method: name, bytes, locals, what it returns, its handlers, room -/
abbrev pb_I : Type := MethodName × ByteArray × Nat × Option FieldType × List (Nat × Nat × Nat × Nat) × Room
abbrev pi_y (I : pb_I) : MethodName := I.1
abbrev pi_c (I : pb_I) : ByteArray := I.2.1
abbrev pi_n (I : pb_I) : Nat := I.2.2.1
abbrev pi_r (I : pb_I) : Option FieldType := I.2.2.2.1
abbrev pi_h (I : pb_I) : List (Nat × Nat × Nat × Nat) := I.2.2.2.2.1
abbrev pi_R (I : pb_I) : Room := I.2.2.2.2.2
/-- its own word, and the words of all methods -/
def pi_d (I : pb_I) : Cond := match pi_h I with
  | [] => .code (pi_y I) (pi_c I) (pi_n I) (pi_r I)
  | h => .codeWith (pi_y I) (pi_c I) (pi_n I) (pi_r I) h
def pi_w (I : pb_I) : List Cond := pi_d I :: uW
theorem uW_good {w : Cond} (h : w ∈ uW) : (w.onTables && w.keeps) = true ∨ ∃ ty, w = .arrayClass ty := good_of_word (List.mem_filter.mp h).2
theorem pb_gd {J : pb_I} (h : pi_d J ∈ uW) : GoodIn uW (pi_w J) := fun w hw => by
  rcases List.mem_cons.mp hw with rfl | h1
  · exact ⟨h, uW_good h⟩
  · exact ⟨h1, uW_good h1⟩
theorem pb_gdS {own : String} {index : Nat} {J : pb_I} (h : pi_d J ∈ uW) (h1 : Cond.methodLink own index (pi_y J) ∈ uW) (h2 : Cond.static (pi_y J) ∈ uW) (h3 : Cond.initialized own ∈ uW) : GoodIn uW (wsS own index (pi_y J) (pi_w J)) := fun w hw => by
  rcases List.mem_append.mp hw with h9 | h9
  · simp only [List.mem_cons, List.not_mem_nil, or_false] at h9
    rcases h9 with rfl | rfl | rfl
    · exact ⟨h1, uW_good h1⟩
    · exact ⟨h2, uW_good h2⟩
    · exact ⟨h3, uW_good h3⟩
  · exact pb_gd h w h9
theorem pb_gdV {own C : String} {index : Nat} {J : pb_I} (h : pi_d J ∈ uW) (h1 : Cond.methodLink own index (pi_y J) ∈ uW) (h2 : Cond.instanceMethod (pi_y J) ∈ uW) (h3 : Cond.selects C (pi_y J) (pi_y J) ∈ uW) (h4 : Cond.initialized C ∈ uW) : GoodIn uW (wsV own index C (pi_y J) (pi_w J)) := fun w hw => by
  rcases List.mem_append.mp hw with h9 | h9
  · simp only [List.mem_cons, List.not_mem_nil, or_false] at h9
    rcases h9 with rfl | rfl | rfl | rfl
    · exact ⟨h1, uW_good h1⟩
    · exact ⟨h2, uW_good h2⟩
    · exact ⟨h3, uW_good h3⟩
    · exact ⟨h4, uW_good h4⟩
  · exact pb_gd h w h9
/-- the machine's things of one run of a method -/
abbrev pb_M : Type := (Program × Env × State × MethodId × Array Value) × (List Frame × Method × Code) × ((Nat → Prop) × (State → Prop))
abbrev pm_p (M : pb_M) : Program := M.1.1
abbrev pm_e (M : pb_M) : Env := M.1.2.1
abbrev pm_s (M : pb_M) : State := M.1.2.2.1
abbrev pm_m (M : pb_M) : MethodId := M.1.2.2.2.1
abbrev pm_a (M : pb_M) : Array Value := M.1.2.2.2.2
abbrev pm_b (M : pb_M) : List Frame := M.2.1.1
abbrev pm_h (M : pb_M) : Method := M.2.1.2.1
abbrev pm_c (M : pb_M) : Code := M.2.1.2.2
abbrev pm_A (M : pb_M) : Nat → Prop := M.2.2.1
abbrev pm_Q (M : pb_M) : State → Prop := M.2.2.2
def pb_Ev (l : Launch) (G : pb_G) (M : pb_M) (I : pb_I) : Prop :=
  (pm_p M).tables.exec = Jvm.exec ∧ (pm_c M).code = pi_c I ∧ (pm_c M).maxLocals = pi_n I ∧ (pm_s M).vm.findClass (pi_y I).cls = some (pm_m M).cls ∧
  (∀ w ∈ uW, w.before (pm_a M) (pm_s M) = true) ∧ va_K G.1 vwCl (pb_T G) (pm_s M) ∧ (∀ q, (pm_s M).heap.size ≤ q → pm_A M q) ∧
  (pm_h M).locks = false ∧ (pm_h M).name = (pi_y I).name ∧ (pm_h M).sig.returnType = pi_r I ∧ l.stackTraces = false ∧ pb_Z (pm_A M) (pm_s M) (pm_s M).heap
def pb_P (l : Launch) (G : pb_G) (M : pb_M) (I : pb_I) (pc : Nat) (lo : List (Nat × Value)) (rest : List Value) (ws : va_W) (ck cn : Nat) : Prop :=
  pb_Ev l G M I → ∀ (H : Heap) (locs : List Loc) (ls : Array Slot), va_P G.1 vwCl ws H → va_D (pm_A M) ws → va_S (pm_A M) (pm_s M).heap H locs → lv_has ls (pi_n I) lo →
    W (pm_p M) l (pm_e M) (pi_R I) (pm_s M) (pm_m M) (pm_a M) (pm_b M) (pm_h M) (pm_c M) H locs ck cn (pm_Q M) (F0 (pm_m M) pc ls rest)
section PB
variable {l : Launch} {G : pb_G} {M : pb_M} {I : pb_I} {pc : Nat} {lo : List (Nat × Value)} {rest : List Value} {ws : va_W} {ck cn : Nat}
theorem pb_hw {J : pb_I} {w : Cond} (h : pi_d J = w) : pi_w J = w :: uW := by show pi_d J :: uW = _; rw [h]
theorem pb_w (E : pb_Ev l G M I) {w : Cond} (h : w ∈ uW) : w.before (pm_a M) (pm_s M) = true := E.2.2.2.2.1 w h
theorem pb_ws (E : pb_Ev l G M I) : ∀ w ∈ uW, w.before (pm_a M) (pm_s M) = true := E.2.2.2.2.1
theorem pb_k (E : pb_Ev l G M I) : va_K G.1 vwCl (pb_T G) (pm_s M) := E.2.2.2.2.2.1
theorem pb_hA (E : pb_Ev l G M I) : ∀ q, (pm_s M).heap.size ≤ q → pm_A M q := E.2.2.2.2.2.2.1
theorem pb_lock (E : pb_Ev l G M I) : (pm_h M).locks = false := E.2.2.2.2.2.2.2.1
theorem pb_name (E : pb_Ev l G M I) : (pm_h M).name = (pi_y I).name := E.2.2.2.2.2.2.2.2.1
theorem pb_ret (E : pb_Ev l G M I) : (pm_h M).sig.returnType = pi_r I := E.2.2.2.2.2.2.2.2.2.1
theorem pb_tr (E : pb_Ev l G M I) : l.stackTraces = false := E.2.2.2.2.2.2.2.2.2.2.1
theorem pb_z (E : pb_Ev l G M I) : pb_Z (pm_A M) (pm_s M) (pm_s M).heap := E.2.2.2.2.2.2.2.2.2.2.2
theorem pb_z3 (E : pb_Ev l G M I) : ∃ t : Nat, va_Z "PackageBook$Expander" "THIRD_ORDER" "[I" (.ref t) (pm_A M) (pm_s M) (pm_s M).heap ∧ va_T .int t 19 (fun j => .int (pb_third.getD j 0)) (pm_A M) (pm_s M) (pm_s M).heap := (pb_z E).1
theorem pb_n (E : pb_Ev l G M I) {w : Cond} (h : w ∈ uN) : w.before (pm_a M) (pm_s M) = true := uN_use h ((pb_z E).2.1 w h)
/-- the same place in other words -/
theorem pb_eq {pc' : Nat} {lo' : List (Nat × Value)} {rest' : List Value} {ws' : va_W} (kk : pb_P l G M I pc' lo' rest' ws' ck cn) (h1 : pc = pc' := by rfl) (h2 : lo = lo' := by rfl) (h3 : rest = rest' := by rfl) (h4 : ws = ws' := by rfl) : pb_P l G M I pc lo rest ws ck cn := by
  subst h1 h2 h3 h4; exact kk
theorem pb_asi {x y : Int32} (h : x = y) (kk : pb_P l G M I pc lo (.int y :: rest) ws ck cn) : pb_P l G M I pc lo (.int x :: rest) ws ck cn := by subst h; exact kk
theorem pb_asl {x y : Int64} (h : x = y) (kk : pb_P l G M I pc lo (.long y :: rest) ws ck cn) : pb_P l G M I pc lo (.long x :: rest) ws ck cn := by subst h; exact kk
theorem pb_topi {x : Int32} (kk : ∀ y : Int32, y = x → pb_P l G M I pc lo (.int y :: rest) ws ck cn) : pb_P l G M I pc lo (.int x :: rest) ws ck cn := kk x rfl
theorem pb_topl {x : Int64} (kk : ∀ y : Int64, y = x → pb_P l G M I pc lo (.long y :: rest) ws ck cn) : pb_P l G M I pc lo (.long x :: rest) ws ck cn := kk x rfl
theorem pb_widen {k' n' : Nat} (h1 : ck ≤ k') (h2 : cn ≤ n') (kk : pb_P l G M I pc lo rest ws k' n') : pb_P l G M I pc lo rest ws ck cn := fun E H locs ls hP hD hS hl => W.widen h1 h2 (kk E H locs ls hP hD hS hl)
theorem pb_iconst {n : Int} {v : Int32} (hdg : decode (pi_c I) pc = .ok (.iconst n, 1)) (hv : Int32.ofInt n = v) (k9 : pb_P l G M I (pc + 1) lo (.int v :: rest) ws ck cn) : pb_P l G M I pc lo (rest) ws ck cn := fun E H locs ls hP hD hS hl => lv_iconst E.1 E.2.1 hdg hv (k9 E H locs ls hP hD hS hl)
theorem pb_bipush {n : Int} {v : Int32} (hdg : decode (pi_c I) pc = .ok (.bipush n, 2)) (hv : (Int8.ofInt n).toInt32 = v) (k9 : pb_P l G M I (pc + 2) lo (.int v :: rest) ws ck cn) : pb_P l G M I pc lo (rest) ws ck cn := fun E H locs ls hP hD hS hl => lv_bipush E.1 E.2.1 hdg hv (k9 E H locs ls hP hD hS hl)
theorem pb_sipush {n : Int} {v : Int32} (hdg : decode (pi_c I) pc = .ok (.sipush n, 3)) (hv : (Int16.ofInt n).toInt32 = v) (k9 : pb_P l G M I (pc + 3) lo (.int v :: rest) ws ck cn) : pb_P l G M I pc lo (rest) ws ck cn := fun E H locs ls hP hD hS hl => lv_sipush E.1 E.2.1 hdg hv (k9 E H locs ls hP hD hS hl)
theorem pb_lconst {n : Fin 2} {v : Int64} (hdg : decode (pi_c I) pc = .ok (.lconst n, 1)) (hv : Int64.ofNat (n : Nat) = v) (k9 : pb_P l G M I (pc + 1) lo (.long v :: rest) ws ck cn) : pb_P l G M I pc lo (rest) ws ck cn := fun E H locs ls hP hD hS hl => lv_lconst E.1 E.2.1 hdg hv (k9 E H locs ls hP hD hS hl)
theorem pb_iadd {x y : Int32} (hdg : decode (pi_c I) pc = .ok (.iadd, 1)) (k9 : pb_P l G M I (pc + 1) lo (.int (x + y) :: rest) ws ck cn) : pb_P l G M I pc lo (.int y :: .int x :: rest) ws ck cn := fun E H locs ls hP hD hS hl => lv_iadd E.1 E.2.1 hdg (k9 E H locs ls hP hD hS hl)
theorem pb_isub {x y : Int32} (hdg : decode (pi_c I) pc = .ok (.isub, 1)) (k9 : pb_P l G M I (pc + 1) lo (.int (x - y) :: rest) ws ck cn) : pb_P l G M I pc lo (.int y :: .int x :: rest) ws ck cn := fun E H locs ls hP hD hS hl => lv_isub E.1 E.2.1 hdg (k9 E H locs ls hP hD hS hl)
theorem pb_imul {x y : Int32} (hdg : decode (pi_c I) pc = .ok (.imul, 1)) (k9 : pb_P l G M I (pc + 1) lo (.int (x * y) :: rest) ws ck cn) : pb_P l G M I pc lo (.int y :: .int x :: rest) ws ck cn := fun E H locs ls hP hD hS hl => lv_imul E.1 E.2.1 hdg (k9 E H locs ls hP hD hS hl)
theorem pb_iand {x y : Int32} (hdg : decode (pi_c I) pc = .ok (.iand, 1)) (k9 : pb_P l G M I (pc + 1) lo (.int (x &&& y) :: rest) ws ck cn) : pb_P l G M I pc lo (.int y :: .int x :: rest) ws ck cn := fun E H locs ls hP hD hS hl => lv_iand E.1 E.2.1 hdg (k9 E H locs ls hP hD hS hl)
theorem pb_ior {x y : Int32} (hdg : decode (pi_c I) pc = .ok (.ior, 1)) (k9 : pb_P l G M I (pc + 1) lo (.int (x ||| y) :: rest) ws ck cn) : pb_P l G M I pc lo (.int y :: .int x :: rest) ws ck cn := fun E H locs ls hP hD hS hl => lv_ior E.1 E.2.1 hdg (k9 E H locs ls hP hD hS hl)
theorem pb_ixor {x y : Int32} (hdg : decode (pi_c I) pc = .ok (.ixor, 1)) (k9 : pb_P l G M I (pc + 1) lo (.int (x ^^^ y) :: rest) ws ck cn) : pb_P l G M I pc lo (.int y :: .int x :: rest) ws ck cn := fun E H locs ls hP hD hS hl => lv_ixor E.1 E.2.1 hdg (k9 E H locs ls hP hD hS hl)
theorem pb_idiv {x y : Int32} (hdg : decode (pi_c I) pc = .ok (.idiv, 1)) (hne : ¬ y = 0) (k9 : pb_P l G M I (pc + 1) lo (.int (x / y) :: rest) ws ck cn) : pb_P l G M I pc lo (.int y :: .int x :: rest) ws ck cn := fun E H locs ls hP hD hS hl => lv_idiv E.1 E.2.1 hdg hne (k9 E H locs ls hP hD hS hl)
theorem pb_irem {x y : Int32} (hdg : decode (pi_c I) pc = .ok (.irem, 1)) (hne : ¬ y = 0) (k9 : pb_P l G M I (pc + 1) lo (.int (x - x / y * y) :: rest) ws ck cn) : pb_P l G M I pc lo (.int y :: .int x :: rest) ws ck cn := fun E H locs ls hP hD hS hl => lv_irem E.1 E.2.1 hdg hne (k9 E H locs ls hP hD hS hl)
theorem pb_ineg {x : Int32} (hdg : decode (pi_c I) pc = .ok (.ineg, 1)) (k9 : pb_P l G M I (pc + 1) lo (.int (-x) :: rest) ws ck cn) : pb_P l G M I pc lo (.int x :: rest) ws ck cn := fun E H locs ls hP hD hS hl => lv_ineg E.1 E.2.1 hdg (k9 E H locs ls hP hD hS hl)
theorem pb_ladd {x y : Int64} (hdg : decode (pi_c I) pc = .ok (.ladd, 1)) (k9 : pb_P l G M I (pc + 1) lo (.long (x + y) :: rest) ws ck cn) : pb_P l G M I pc lo (.long y :: .long x :: rest) ws ck cn := fun E H locs ls hP hD hS hl => lv_ladd E.1 E.2.1 hdg (k9 E H locs ls hP hD hS hl)
theorem pb_lsub {x y : Int64} (hdg : decode (pi_c I) pc = .ok (.lsub, 1)) (k9 : pb_P l G M I (pc + 1) lo (.long (x - y) :: rest) ws ck cn) : pb_P l G M I pc lo (.long y :: .long x :: rest) ws ck cn := fun E H locs ls hP hD hS hl => lv_lsub E.1 E.2.1 hdg (k9 E H locs ls hP hD hS hl)
theorem pb_lmul {x y : Int64} (hdg : decode (pi_c I) pc = .ok (.lmul, 1)) (k9 : pb_P l G M I (pc + 1) lo (.long (x * y) :: rest) ws ck cn) : pb_P l G M I pc lo (.long y :: .long x :: rest) ws ck cn := fun E H locs ls hP hD hS hl => lv_lmul E.1 E.2.1 hdg (k9 E H locs ls hP hD hS hl)
theorem pb_land {x y : Int64} (hdg : decode (pi_c I) pc = .ok (.land, 1)) (k9 : pb_P l G M I (pc + 1) lo (.long (x &&& y) :: rest) ws ck cn) : pb_P l G M I pc lo (.long y :: .long x :: rest) ws ck cn := fun E H locs ls hP hD hS hl => lv_land E.1 E.2.1 hdg (k9 E H locs ls hP hD hS hl)
theorem pb_lor {x y : Int64} (hdg : decode (pi_c I) pc = .ok (.lor, 1)) (k9 : pb_P l G M I (pc + 1) lo (.long (x ||| y) :: rest) ws ck cn) : pb_P l G M I pc lo (.long y :: .long x :: rest) ws ck cn := fun E H locs ls hP hD hS hl => lv_lor E.1 E.2.1 hdg (k9 E H locs ls hP hD hS hl)
theorem pb_lxor {x y : Int64} (hdg : decode (pi_c I) pc = .ok (.lxor, 1)) (k9 : pb_P l G M I (pc + 1) lo (.long (x ^^^ y) :: rest) ws ck cn) : pb_P l G M I pc lo (.long y :: .long x :: rest) ws ck cn := fun E H locs ls hP hD hS hl => lv_lxor E.1 E.2.1 hdg (k9 E H locs ls hP hD hS hl)
theorem pb_lneg {x : Int64} (hdg : decode (pi_c I) pc = .ok (.lneg, 1)) (k9 : pb_P l G M I (pc + 1) lo (.long (-x) :: rest) ws ck cn) : pb_P l G M I pc lo (.long x :: rest) ws ck cn := fun E H locs ls hP hD hS hl => lv_lneg E.1 E.2.1 hdg (k9 E H locs ls hP hD hS hl)
theorem pb_ishl {x y : Int32} (hdg : decode (pi_c I) pc = .ok (.ishl, 1)) (k9 : pb_P l G M I (pc + 1) lo (.int (x <<< (y &&& 31)) :: rest) ws ck cn) : pb_P l G M I pc lo (.int y :: .int x :: rest) ws ck cn := fun E H locs ls hP hD hS hl => lv_ishl E.1 E.2.1 hdg (k9 E H locs ls hP hD hS hl)
theorem pb_ishr {x y : Int32} (hdg : decode (pi_c I) pc = .ok (.ishr, 1)) (k9 : pb_P l G M I (pc + 1) lo (.int (x >>> (y &&& 31)) :: rest) ws ck cn) : pb_P l G M I pc lo (.int y :: .int x :: rest) ws ck cn := fun E H locs ls hP hD hS hl => lv_ishr E.1 E.2.1 hdg (k9 E H locs ls hP hD hS hl)
theorem pb_i2l {x : Int32} {v : Int64} (hdg : decode (pi_c I) pc = .ok (.i2l, 1)) (hv : x.toInt64 = v) (k9 : pb_P l G M I (pc + 1) lo (.long v :: rest) ws ck cn) : pb_P l G M I pc lo (.int x :: rest) ws ck cn := fun E H locs ls hP hD hS hl => lv_i2l E.1 E.2.1 hdg hv (k9 E H locs ls hP hD hS hl)
theorem pb_l2i {x : Int64} {v : Int32} (hdg : decode (pi_c I) pc = .ok (.l2i, 1)) (hv : x.toInt32 = v) (k9 : pb_P l G M I (pc + 1) lo (.int v :: rest) ws ck cn) : pb_P l G M I pc lo (.long x :: rest) ws ck cn := fun E H locs ls hP hD hS hl => lv_l2i E.1 E.2.1 hdg hv (k9 E H locs ls hP hD hS hl)
theorem pb_i2b {x : Int32} {v : Int32} (hdg : decode (pi_c I) pc = .ok (.i2b, 1)) (hv : x.toInt8.toInt32 = v) (k9 : pb_P l G M I (pc + 1) lo (.int v :: rest) ws ck cn) : pb_P l G M I pc lo (.int x :: rest) ws ck cn := fun E H locs ls hP hD hS hl => lv_i2b E.1 E.2.1 hdg hv (k9 E H locs ls hP hD hS hl)
theorem pb_i2s {x : Int32} {v : Int32} (hdg : decode (pi_c I) pc = .ok (.i2s, 1)) (hv : x.toInt16.toInt32 = v) (k9 : pb_P l G M I (pc + 1) lo (.int v :: rest) ws ck cn) : pb_P l G M I pc lo (.int x :: rest) ws ck cn := fun E H locs ls hP hD hS hl => lv_i2s E.1 E.2.1 hdg hv (k9 E H locs ls hP hD hS hl)
theorem pb_i2c {x : Int32} {v : Int32} (hdg : decode (pi_c I) pc = .ok (.i2c, 1)) (hv : (x.toUInt32 % 65536).toInt32 = v) (k9 : pb_P l G M I (pc + 1) lo (.int v :: rest) ws ck cn) : pb_P l G M I pc lo (.int x :: rest) ws ck cn := fun E H locs ls hP hD hS hl => lv_i2c E.1 E.2.1 hdg hv (k9 E H locs ls hP hD hS hl)
theorem pb_iushr {x y v : Int32} (hdg : decode (pi_c I) pc = .ok (.iushr, 1)) (hv : (x.toUInt32 >>> (y.toUInt32 &&& Int32.toUInt32 31)).toInt32 = v) (k9 : pb_P l G M I (pc + 1) lo (.int v :: rest) ws ck cn) : pb_P l G M I pc lo (.int y :: .int x :: rest) ws ck cn := fun E H locs ls hP hD hS hl => lv_iushr E.1 E.2.1 hdg hv (k9 E H locs ls hP hD hS hl)
theorem pb_lushr {x v : Int64} {y : Int32} (hdg : decode (pi_c I) pc = .ok (.lushr, 1)) (hv : (x.toUInt64 >>> (y.toInt64.toUInt64 &&& Int64.toUInt64 63)).toInt64 = v) (k9 : pb_P l G M I (pc + 1) lo (.long v :: rest) ws ck cn) : pb_P l G M I pc lo (.int y :: .long x :: rest) ws ck cn := fun E H locs ls hP hD hS hl => lv_lushr E.1 E.2.1 hdg hv (k9 E H locs ls hP hD hS hl)
theorem pb_lshl {x v : Int64} {y : Int32} (hdg : decode (pi_c I) pc = .ok (.lshl, 1)) (hv : x <<< (y.toInt64 &&& 63) = v) (k9 : pb_P l G M I (pc + 1) lo (.long v :: rest) ws ck cn) : pb_P l G M I pc lo (.int y :: .long x :: rest) ws ck cn := fun E H locs ls hP hD hS hl => lv_lshl E.1 E.2.1 hdg hv (k9 E H locs ls hP hD hS hl)
theorem pb_lshr {x v : Int64} {y : Int32} (hdg : decode (pi_c I) pc = .ok (.lshr, 1)) (hv : x >>> (y.toInt64 &&& 63) = v) (k9 : pb_P l G M I (pc + 1) lo (.long v :: rest) ws ck cn) : pb_P l G M I pc lo (.int y :: .long x :: rest) ws ck cn := fun E H locs ls hP hD hS hl => lv_lshr E.1 E.2.1 hdg hv (k9 E H locs ls hP hD hS hl)
theorem pb_dup {va : Value} (hdg : decode (pi_c I) pc = .ok (.dup, 1)) (hva : va.category = 1) (k9 : pb_P l G M I (pc + 1) lo (va :: va :: rest) ws ck cn) : pb_P l G M I pc lo (va :: rest) ws ck cn := fun E H locs ls hP hD hS hl => lv_dup E.1 E.2.1 hdg hva (k9 E H locs ls hP hD hS hl)
theorem pb_pop {va : Value} (hdg : decode (pi_c I) pc = .ok (.pop, 1)) (hva : va.category = 1) (k9 : pb_P l G M I (pc + 1) lo (rest) ws ck cn) : pb_P l G M I pc lo (va :: rest) ws ck cn := fun E H locs ls hP hD hS hl => lv_pop E.1 E.2.1 hdg hva (k9 E H locs ls hP hD hS hl)
theorem pb_dup_x1 {va vb : Value} (hdg : decode (pi_c I) pc = .ok (.dup_x1, 1)) (hva : va.category = 1) (hvb : vb.category = 1) (k9 : pb_P l G M I (pc + 1) lo (va :: vb :: va :: rest) ws ck cn) : pb_P l G M I pc lo (va :: vb :: rest) ws ck cn := fun E H locs ls hP hD hS hl => lv_dup_x1 E.1 E.2.1 hdg hva hvb (k9 E H locs ls hP hD hS hl)
theorem pb_dup_x2 {va vb vd : Value} (hdg : decode (pi_c I) pc = .ok (.dup_x2, 1)) (hva : va.category = 1) (hvb : vb.category = 1) (hvd : vd.category = 1) (k9 : pb_P l G M I (pc + 1) lo (va :: vb :: vd :: va :: rest) ws ck cn) : pb_P l G M I pc lo (va :: vb :: vd :: rest) ws ck cn := fun E H locs ls hP hD hS hl => lv_dup_x2 E.1 E.2.1 hdg hva hvb hvd (k9 E H locs ls hP hD hS hl)
theorem pb_dup2_11 {va vb : Value} (hdg : decode (pi_c I) pc = .ok (.dup2, 1)) (hva : va.category = 1) (hvb : vb.category = 1) (k9 : pb_P l G M I (pc + 1) lo (va :: vb :: va :: vb :: rest) ws ck cn) : pb_P l G M I pc lo (va :: vb :: rest) ws ck cn := fun E H locs ls hP hD hS hl => lv_dup2_11 E.1 E.2.1 hdg hva hvb (k9 E H locs ls hP hD hS hl)
theorem pb_dup2_2 {va : Value} (hdg : decode (pi_c I) pc = .ok (.dup2, 1)) (hva : va.category = 2) (k9 : pb_P l G M I (pc + 1) lo (va :: va :: rest) ws ck cn) : pb_P l G M I pc lo (va :: rest) ws ck cn := fun E H locs ls hP hD hS hl => lv_dup2_2 E.1 E.2.1 hdg hva (k9 E H locs ls hP hD hS hl)
theorem pb_pop2_2 {va : Value} (hdg : decode (pi_c I) pc = .ok (.pop2, 1)) (hva : va.category = 2) (k9 : pb_P l G M I (pc + 1) lo (rest) ws ck cn) : pb_P l G M I pc lo (va :: rest) ws ck cn := fun E H locs ls hP hD hS hl => lv_pop2_2 E.1 E.2.1 hdg hva (k9 E H locs ls hP hD hS hl)
theorem pb_if_eq {x : Int32} {off : Int} {tgt : Nat} (hdg : decode (pi_c I) pc = .ok (.ifCond .eq off, 3)) (ht : (pc : Int) + off = (tgt : Int)) (kt9 : x = 0 → pb_P l G M I tgt lo rest ws ck cn) (kf9 : ¬ x = 0 → pb_P l G M I (pc + 3) lo rest ws ck cn) : pb_P l G M I pc lo (.int x :: rest) ws ck cn := fun E H locs ls hP hD hS hl => lv_if_eq E.1 E.2.1 hdg ht (fun z9 => kt9 z9 E H locs ls hP hD hS hl) (fun z9 => kf9 z9 E H locs ls hP hD hS hl)
theorem pb_icmp_eq {x y : Int32} {off : Int} {tgt : Nat} (hdg : decode (pi_c I) pc = .ok (.if_icmp .eq off, 3)) (ht : (pc : Int) + off = (tgt : Int)) (kt9 : x = y → pb_P l G M I tgt lo rest ws ck cn) (kf9 : ¬ x = y → pb_P l G M I (pc + 3) lo rest ws ck cn) : pb_P l G M I pc lo (.int y :: .int x :: rest) ws ck cn := fun E H locs ls hP hD hS hl => lv_icmp_eq E.1 E.2.1 hdg ht (fun z9 => kt9 z9 E H locs ls hP hD hS hl) (fun z9 => kf9 z9 E H locs ls hP hD hS hl)
theorem pb_if_ne {x : Int32} {off : Int} {tgt : Nat} (hdg : decode (pi_c I) pc = .ok (.ifCond .ne off, 3)) (ht : (pc : Int) + off = (tgt : Int)) (kt9 : ¬ x = 0 → pb_P l G M I tgt lo rest ws ck cn) (kf9 : x = 0 → pb_P l G M I (pc + 3) lo rest ws ck cn) : pb_P l G M I pc lo (.int x :: rest) ws ck cn := fun E H locs ls hP hD hS hl => lv_if_ne E.1 E.2.1 hdg ht (fun z9 => kt9 z9 E H locs ls hP hD hS hl) (fun z9 => kf9 z9 E H locs ls hP hD hS hl)
theorem pb_icmp_ne {x y : Int32} {off : Int} {tgt : Nat} (hdg : decode (pi_c I) pc = .ok (.if_icmp .ne off, 3)) (ht : (pc : Int) + off = (tgt : Int)) (kt9 : ¬ x = y → pb_P l G M I tgt lo rest ws ck cn) (kf9 : x = y → pb_P l G M I (pc + 3) lo rest ws ck cn) : pb_P l G M I pc lo (.int y :: .int x :: rest) ws ck cn := fun E H locs ls hP hD hS hl => lv_icmp_ne E.1 E.2.1 hdg ht (fun z9 => kt9 z9 E H locs ls hP hD hS hl) (fun z9 => kf9 z9 E H locs ls hP hD hS hl)
theorem pb_if_lt {x : Int32} {off : Int} {tgt : Nat} (hdg : decode (pi_c I) pc = .ok (.ifCond .lt off, 3)) (ht : (pc : Int) + off = (tgt : Int)) (kt9 : x < 0 → pb_P l G M I tgt lo rest ws ck cn) (kf9 : ¬ x < 0 → pb_P l G M I (pc + 3) lo rest ws ck cn) : pb_P l G M I pc lo (.int x :: rest) ws ck cn := fun E H locs ls hP hD hS hl => lv_if_lt E.1 E.2.1 hdg ht (fun z9 => kt9 z9 E H locs ls hP hD hS hl) (fun z9 => kf9 z9 E H locs ls hP hD hS hl)
theorem pb_icmp_lt {x y : Int32} {off : Int} {tgt : Nat} (hdg : decode (pi_c I) pc = .ok (.if_icmp .lt off, 3)) (ht : (pc : Int) + off = (tgt : Int)) (kt9 : x < y → pb_P l G M I tgt lo rest ws ck cn) (kf9 : ¬ x < y → pb_P l G M I (pc + 3) lo rest ws ck cn) : pb_P l G M I pc lo (.int y :: .int x :: rest) ws ck cn := fun E H locs ls hP hD hS hl => lv_icmp_lt E.1 E.2.1 hdg ht (fun z9 => kt9 z9 E H locs ls hP hD hS hl) (fun z9 => kf9 z9 E H locs ls hP hD hS hl)
theorem pb_if_ge {x : Int32} {off : Int} {tgt : Nat} (hdg : decode (pi_c I) pc = .ok (.ifCond .ge off, 3)) (ht : (pc : Int) + off = (tgt : Int)) (kt9 : 0 ≤ x → pb_P l G M I tgt lo rest ws ck cn) (kf9 : ¬ 0 ≤ x → pb_P l G M I (pc + 3) lo rest ws ck cn) : pb_P l G M I pc lo (.int x :: rest) ws ck cn := fun E H locs ls hP hD hS hl => lv_if_ge E.1 E.2.1 hdg ht (fun z9 => kt9 z9 E H locs ls hP hD hS hl) (fun z9 => kf9 z9 E H locs ls hP hD hS hl)
theorem pb_icmp_ge {x y : Int32} {off : Int} {tgt : Nat} (hdg : decode (pi_c I) pc = .ok (.if_icmp .ge off, 3)) (ht : (pc : Int) + off = (tgt : Int)) (kt9 : y ≤ x → pb_P l G M I tgt lo rest ws ck cn) (kf9 : ¬ y ≤ x → pb_P l G M I (pc + 3) lo rest ws ck cn) : pb_P l G M I pc lo (.int y :: .int x :: rest) ws ck cn := fun E H locs ls hP hD hS hl => lv_icmp_ge E.1 E.2.1 hdg ht (fun z9 => kt9 z9 E H locs ls hP hD hS hl) (fun z9 => kf9 z9 E H locs ls hP hD hS hl)
theorem pb_if_gt {x : Int32} {off : Int} {tgt : Nat} (hdg : decode (pi_c I) pc = .ok (.ifCond .gt off, 3)) (ht : (pc : Int) + off = (tgt : Int)) (kt9 : 0 < x → pb_P l G M I tgt lo rest ws ck cn) (kf9 : ¬ 0 < x → pb_P l G M I (pc + 3) lo rest ws ck cn) : pb_P l G M I pc lo (.int x :: rest) ws ck cn := fun E H locs ls hP hD hS hl => lv_if_gt E.1 E.2.1 hdg ht (fun z9 => kt9 z9 E H locs ls hP hD hS hl) (fun z9 => kf9 z9 E H locs ls hP hD hS hl)
theorem pb_icmp_gt {x y : Int32} {off : Int} {tgt : Nat} (hdg : decode (pi_c I) pc = .ok (.if_icmp .gt off, 3)) (ht : (pc : Int) + off = (tgt : Int)) (kt9 : y < x → pb_P l G M I tgt lo rest ws ck cn) (kf9 : ¬ y < x → pb_P l G M I (pc + 3) lo rest ws ck cn) : pb_P l G M I pc lo (.int y :: .int x :: rest) ws ck cn := fun E H locs ls hP hD hS hl => lv_icmp_gt E.1 E.2.1 hdg ht (fun z9 => kt9 z9 E H locs ls hP hD hS hl) (fun z9 => kf9 z9 E H locs ls hP hD hS hl)
theorem pb_if_le {x : Int32} {off : Int} {tgt : Nat} (hdg : decode (pi_c I) pc = .ok (.ifCond .le off, 3)) (ht : (pc : Int) + off = (tgt : Int)) (kt9 : x ≤ 0 → pb_P l G M I tgt lo rest ws ck cn) (kf9 : ¬ x ≤ 0 → pb_P l G M I (pc + 3) lo rest ws ck cn) : pb_P l G M I pc lo (.int x :: rest) ws ck cn := fun E H locs ls hP hD hS hl => lv_if_le E.1 E.2.1 hdg ht (fun z9 => kt9 z9 E H locs ls hP hD hS hl) (fun z9 => kf9 z9 E H locs ls hP hD hS hl)
theorem pb_icmp_le {x y : Int32} {off : Int} {tgt : Nat} (hdg : decode (pi_c I) pc = .ok (.if_icmp .le off, 3)) (ht : (pc : Int) + off = (tgt : Int)) (kt9 : x ≤ y → pb_P l G M I tgt lo rest ws ck cn) (kf9 : ¬ x ≤ y → pb_P l G M I (pc + 3) lo rest ws ck cn) : pb_P l G M I pc lo (.int y :: .int x :: rest) ws ck cn := fun E H locs ls hP hD hS hl => lv_icmp_le E.1 E.2.1 hdg ht (fun z9 => kt9 z9 E H locs ls hP hD hS hl) (fun z9 => kf9 z9 E H locs ls hP hD hS hl)
theorem pb_goto {off : Int} {tgt : Nat} (hdg : decode (pi_c I) pc = .ok (.goto off, 3)) (ht : (pc : Int) + off = (tgt : Int)) (k9 : pb_P l G M I tgt lo rest ws ck cn) : pb_P l G M I pc lo rest ws ck cn := fun E H locs ls hP hD hS hl => lv_goto E.1 E.2.1 hdg ht (k9 E H locs ls hP hD hS hl)
theorem pb_null (hdg : decode (pi_c I) pc = .ok (.aconst_null, 1)) (k9 : pb_P l G M I (pc + 1) lo (.null :: rest) ws ck cn) : pb_P l G M I pc lo rest ws ck cn := fun E H locs ls hP hD hS hl => lv_null E.1 E.2.1 hdg (k9 E H locs ls hP hD hS hl)
theorem pb_ifnull {x : Nat} {off : Int} (hdg : decode (pi_c I) pc = .ok (.ifnull off, 3)) (k9 : pb_P l G M I (pc + 3) lo rest ws ck cn) : pb_P l G M I pc lo (.ref x :: rest) ws ck cn := fun E H locs ls hP hD hS hl => lv_ifnull E.1 E.2.1 hdg (k9 E H locs ls hP hD hS hl)
theorem pb_ifnonnull {x : Nat} {off : Int} {tgt : Nat} (hdg : decode (pi_c I) pc = .ok (.ifnonnull off, 3)) (ht : (pc : Int) + off = (tgt : Int)) (k9 : pb_P l G M I tgt lo rest ws ck cn) : pb_P l G M I pc lo (.ref x :: rest) ws ck cn := fun E H locs ls hP hD hS hl => lv_ifnonnull E.1 E.2.1 hdg ht (k9 E H locs ls hP hD hS hl)
theorem pb_ifnullN {off : Int} {tgt : Nat} (hdg : decode (pi_c I) pc = .ok (.ifnull off, 3)) (ht : (pc : Int) + off = (tgt : Int)) (k9 : pb_P l G M I tgt lo rest ws ck cn) : pb_P l G M I pc lo (.null :: rest) ws ck cn := fun E H locs ls hP hD hS hl => lv_ifnullN E.1 E.2.1 hdg ht (k9 E H locs ls hP hD hS hl)
theorem pb_ifnonnullN {off : Int} (hdg : decode (pi_c I) pc = .ok (.ifnonnull off, 3)) (k9 : pb_P l G M I (pc + 3) lo rest ws ck cn) : pb_P l G M I pc lo (.null :: rest) ws ck cn := fun E H locs ls hP hD hS hl => lv_ifnonnullN E.1 E.2.1 hdg (k9 E H locs ls hP hD hS hl)
theorem pb_iload_n {k : Fin 4} {i : Nat} {x : Int32} (hd : decode (pi_c I) pc = .ok (.iload_n k, 1)) (j : Nat) (hj : lo[j]? = some (i, .int x)) (hi : (k : Nat) = i) (kk : pb_P l G M I (pc + 1) lo (.int x :: rest) ws ck cn) : pb_P l G M I pc lo rest ws ck cn := fun E H locs ls hP hD hS hl => lv_iload_n E.1 E.2.1 hd hi (lv_at hl j hj) (kk E H locs ls hP hD hS hl)
theorem pb_iload {i : Nat} {x : Int32} (hd : decode (pi_c I) pc = .ok (.iload i, 2)) (j : Nat) (hj : lo[j]? = some (i, .int x)) (kk : pb_P l G M I (pc + 2) lo (.int x :: rest) ws ck cn) : pb_P l G M I pc lo rest ws ck cn := fun E H locs ls hP hD hS hl => lv_iload E.1 E.2.1 hd (lv_at hl j hj) (kk E H locs ls hP hD hS hl)
theorem pb_istore_n {k : Fin 4} {i : Nat} {x : Int32} {lo' : List (Nat × Value)} (hd : decode (pi_c I) pc = .ok (.istore_n k, 1)) (hi : (k : Nat) = i) (hn : i < pi_n I) (hl9 : (i, Value.int x) :: lo.filter (fun q => !(q.1 == i) && !(q.1 + 1 == i && q.2.category == 2)) = lo') (kk : pb_P l G M I (pc + 1) lo' rest ws ck cn) : pb_P l G M I pc lo (.int x :: rest) ws ck cn := fun E H locs ls hP hD hS hl => lv_istore_n E.1 E.2.1 hd hi hl hn hl9 (fun ls' hl' => kk E H locs ls' hP hD hS hl')
theorem pb_istore {i : Nat} {x : Int32} {lo' : List (Nat × Value)} (hd : decode (pi_c I) pc = .ok (.istore i, 2)) (hn : i < pi_n I) (hl9 : (i, Value.int x) :: lo.filter (fun q => !(q.1 == i) && !(q.1 + 1 == i && q.2.category == 2)) = lo') (kk : pb_P l G M I (pc + 2) lo' rest ws ck cn) : pb_P l G M I pc lo (.int x :: rest) ws ck cn := fun E H locs ls hP hD hS hl => lv_istore E.1 E.2.1 hd hl hn hl9 (fun ls' hl' => kk E H locs ls' hP hD hS hl')
theorem pb_lload_n {k : Fin 4} {i : Nat} {x : Int64} (hd : decode (pi_c I) pc = .ok (.lload_n k, 1)) (j : Nat) (hj : lo[j]? = some (i, .long x)) (hi : (k : Nat) = i) (kk : pb_P l G M I (pc + 1) lo (.long x :: rest) ws ck cn) : pb_P l G M I pc lo rest ws ck cn := fun E H locs ls hP hD hS hl => lv_lload_n E.1 E.2.1 hd hi (lv_at hl j hj) (kk E H locs ls hP hD hS hl)
theorem pb_lload {i : Nat} {x : Int64} (hd : decode (pi_c I) pc = .ok (.lload i, 2)) (j : Nat) (hj : lo[j]? = some (i, .long x)) (kk : pb_P l G M I (pc + 2) lo (.long x :: rest) ws ck cn) : pb_P l G M I pc lo rest ws ck cn := fun E H locs ls hP hD hS hl => lv_lload E.1 E.2.1 hd (lv_at hl j hj) (kk E H locs ls hP hD hS hl)
theorem pb_lstore_n {k : Fin 4} {i : Nat} {x : Int64} {lo' : List (Nat × Value)} (hd : decode (pi_c I) pc = .ok (.lstore_n k, 1)) (hi : (k : Nat) = i) (hn : i + 1 < pi_n I) (hl9 : (i, Value.long x) :: lo.filter (fun q => !(q.1 == i) && (!(q.1 == i + 1) && !(q.1 + 1 == i && q.2.category == 2))) = lo') (kk : pb_P l G M I (pc + 1) lo' rest ws ck cn) : pb_P l G M I pc lo (.long x :: rest) ws ck cn := fun E H locs ls hP hD hS hl => lv_lstore_n E.1 E.2.1 hd hi hl hn hl9 (fun ls' hl' => kk E H locs ls' hP hD hS hl')
theorem pb_lstore {i : Nat} {x : Int64} {lo' : List (Nat × Value)} (hd : decode (pi_c I) pc = .ok (.lstore i, 2)) (hn : i + 1 < pi_n I) (hl9 : (i, Value.long x) :: lo.filter (fun q => !(q.1 == i) && (!(q.1 == i + 1) && !(q.1 + 1 == i && q.2.category == 2))) = lo') (kk : pb_P l G M I (pc + 2) lo' rest ws ck cn) : pb_P l G M I pc lo (.long x :: rest) ws ck cn := fun E H locs ls hP hD hS hl => lv_lstore E.1 E.2.1 hd hl hn hl9 (fun ls' hl' => kk E H locs ls' hP hD hS hl')
theorem pb_aload_n {k : Fin 4} {i : Nat} {x : Nat} (hd : decode (pi_c I) pc = .ok (.aload_n k, 1)) (j : Nat) (hj : lo[j]? = some (i, .ref x)) (hi : (k : Nat) = i) (kk : pb_P l G M I (pc + 1) lo (.ref x :: rest) ws ck cn) : pb_P l G M I pc lo rest ws ck cn := fun E H locs ls hP hD hS hl => lv_aload_n E.1 E.2.1 hd hi (lv_at hl j hj) (kk E H locs ls hP hD hS hl)
theorem pb_aload {i : Nat} {x : Nat} (hd : decode (pi_c I) pc = .ok (.aload i, 2)) (j : Nat) (hj : lo[j]? = some (i, .ref x)) (kk : pb_P l G M I (pc + 2) lo (.ref x :: rest) ws ck cn) : pb_P l G M I pc lo rest ws ck cn := fun E H locs ls hP hD hS hl => lv_aload E.1 E.2.1 hd (lv_at hl j hj) (kk E H locs ls hP hD hS hl)
theorem pb_astore_n {k : Fin 4} {i : Nat} {x : Nat} {lo' : List (Nat × Value)} (hd : decode (pi_c I) pc = .ok (.astore_n k, 1)) (hi : (k : Nat) = i) (hn : i < pi_n I) (hl9 : (i, Value.ref x) :: lo.filter (fun q => !(q.1 == i) && !(q.1 + 1 == i && q.2.category == 2)) = lo') (kk : pb_P l G M I (pc + 1) lo' rest ws ck cn) : pb_P l G M I pc lo (.ref x :: rest) ws ck cn := fun E H locs ls hP hD hS hl => lv_astore_n E.1 E.2.1 hd hi hl hn hl9 (fun ls' hl' => kk E H locs ls' hP hD hS hl')
theorem pb_astore {i : Nat} {x : Nat} {lo' : List (Nat × Value)} (hd : decode (pi_c I) pc = .ok (.astore i, 2)) (hn : i < pi_n I) (hl9 : (i, Value.ref x) :: lo.filter (fun q => !(q.1 == i) && !(q.1 + 1 == i && q.2.category == 2)) = lo') (kk : pb_P l G M I (pc + 2) lo' rest ws ck cn) : pb_P l G M I pc lo (.ref x :: rest) ws ck cn := fun E H locs ls hP hD hS hl => lv_astore E.1 E.2.1 hd hl hn hl9 (fun ls' hl' => kk E H locs ls' hP hD hS hl')
theorem pb_iinc {i : Nat} {z : Int} {x v : Int32} {lo' : List (Nat × Value)} (hd : decode (pi_c I) pc = .ok (.iinc i z, 3)) (j : Nat) (hj : lo[j]? = some (i, .int x)) (hv : x + Int32.ofInt z = v) (hn : i < pi_n I) (hl9 : (i, Value.int v) :: lo.filter (fun q => !(q.1 == i) && !(q.1 + 1 == i && q.2.category == 2)) = lo') (kk : pb_P l G M I (pc + 3) lo' rest ws ck cn) : pb_P l G M I pc lo rest ws ck cn := fun E H locs ls hP hD hS hl => lv_iinc E.1 E.2.1 hd hl hj hv hn hl9 (fun ls' hl' => kk E H locs ls' hP hD hS hl')
theorem pb_iald {a N : Nat} {f : Nat → Int32} {i : Int32} (hd : decode (pi_c I) pc = .ok (.iaload, 1)) (q0 : Nat) (ha : ws[q0]? = some (a, .inl (G.2.2.1, N, .inl f))) (hin : vp_in i N) (kk : pb_P l G M I (pc + 1) lo (.int (f i.toNatClampNeg) :: rest) ws ck cn) : pb_P l G M I pc lo (.int i :: .ref a :: rest) ws ck cn := fun E H locs ls hP hD hS hl => va_iald E.1 E.2.1 (pb_k E) hP q0 1 ha rfl hin hd (kk E H locs ls hP hD hS hl)
theorem pb_iast {a N : Nat} {f : Nat → Int32} {i : Int32} {x : Int32} {ws' : va_W} (hd : decode (pi_c I) pc = .ok (.iastore, 1)) (q0 : Nat) (ha : ws[q0]? = some (a, .inl (G.2.2.1, N, .inl f))) (hin : vp_in i N) (hw : ws.set q0 (a, .inl (G.2.2.1, N, .inl (upd f i.toNatClampNeg x))) = ws') (kk : pb_P l G M I (pc + 1) lo rest ws' ck cn) : pb_P l G M I pc lo (.int x :: .int i :: .ref a :: rest) ws ck cn := by
  subst hw
  exact fun E H locs ls hP hD hS hl => va_iast E.1 E.2.1 (pb_k E) hP hD hS q0 1 ha rfl hin hd (fun H1 locs1 hP1 hD1 hS1 => kk E H1 locs1 ls hP1 hD1 hS1 hl)
theorem pb_newi {z : Int32} {N : Nat} (hd : decode (pi_c I) pc = .ok (.newarray .int, 2)) (harr : Cond.arrayClass .int ∈ uW) (hn : ¬ z < 0) (hN : z.toNatClampNeg = N) (hb : N * componentBytes .int ≤ 536870912) (hc : ck + 1 ≤ (pi_R I).cells) (hs : cn + N ≤ (pi_R I).slots) (kk : ∀ q : Nat, pb_P l G M I (pc + 2) lo (.ref q :: rest) (ws ++ [(q, .inl (G.2.2.1, N, .inl (fun _ => 0)))]) (ck + 1) (cn + N)) : pb_P l G M I pc lo (.int z :: rest) ws ck cn := fun E H locs ls hP hD hS hl => by
  refine va_newa (a0 := (N, .inl (fun _ => 0))) (N' := N) (ty := .int) E.1 E.2.1 (atype := .int) (pb_w E harr) rfl (pb_k E) hP hD hS (pb_hA E) (fun cA => rfl) hn hN hb hc hs hd (fun q cA H1 hK1 hP1 hD1 hS1 => ?_)
  have hc9 : cA = G.2.2.1 := Option.some.inj ((hK1.2 4 (cA, .int) rfl).2.symm.trans (hK1.2 1 (G.2.2.1, .int) rfl).2)
  subst hc9
  exact kk q E H1 locs ls hP1 hD1 hS1 hl
theorem pb_bald {a N : Nat} {f : Nat → Int32} {i : Int32} (hd : decode (pi_c I) pc = .ok (.baload, 1)) (q0 : Nat) (ha : ws[q0]? = some (a, .inl (G.2.1, N, .inl f))) (hin : vp_in i N) (kk : pb_P l G M I (pc + 1) lo (.int (f i.toNatClampNeg) :: rest) ws ck cn) : pb_P l G M I pc lo (.int i :: .ref a :: rest) ws ck cn := fun E H locs ls hP hD hS hl => va_bald E.1 E.2.1 (pb_k E) hP q0 0 ha rfl hin hd (kk E H locs ls hP hD hS hl)
theorem pb_bast {a N : Nat} {f : Nat → Int32} {i : Int32} {x : Int32} {ws' : va_W} (hd : decode (pi_c I) pc = .ok (.bastore, 1)) (q0 : Nat) (ha : ws[q0]? = some (a, .inl (G.2.1, N, .inl f))) (hin : vp_in i N) (hw : ws.set q0 (a, .inl (G.2.1, N, .inl (upd f i.toNatClampNeg (vp_nar .byte x)))) = ws') (kk : pb_P l G M I (pc + 1) lo rest ws' ck cn) : pb_P l G M I pc lo (.int x :: .int i :: .ref a :: rest) ws ck cn := by
  subst hw
  exact fun E H locs ls hP hD hS hl => va_bast E.1 E.2.1 (pb_k E) hP hD hS q0 0 ha rfl hin hd (fun H1 locs1 hP1 hD1 hS1 => kk E H1 locs1 ls hP1 hD1 hS1 hl)
theorem pb_newb {z : Int32} {N : Nat} (hd : decode (pi_c I) pc = .ok (.newarray .byte, 2)) (harr : Cond.arrayClass .byte ∈ uW) (hn : ¬ z < 0) (hN : z.toNatClampNeg = N) (hb : N * componentBytes .byte ≤ 536870912) (hc : ck + 1 ≤ (pi_R I).cells) (hs : cn + N ≤ (pi_R I).slots) (kk : ∀ q : Nat, pb_P l G M I (pc + 2) lo (.ref q :: rest) (ws ++ [(q, .inl (G.2.1, N, .inl (fun _ => 0)))]) (ck + 1) (cn + N)) : pb_P l G M I pc lo (.int z :: rest) ws ck cn := fun E H locs ls hP hD hS hl => by
  refine va_newa (a0 := (N, .inl (fun _ => 0))) (N' := N) (ty := .byte) E.1 E.2.1 (atype := .byte) (pb_w E harr) rfl (pb_k E) hP hD hS (pb_hA E) (fun cA => rfl) hn hN hb hc hs hd (fun q cA H1 hK1 hP1 hD1 hS1 => ?_)
  have hc9 : cA = G.2.1 := Option.some.inj ((hK1.2 4 (cA, .byte) rfl).2.symm.trans (hK1.2 0 (G.2.1, .byte) rfl).2)
  subst hc9
  exact kk q E H1 locs ls hP1 hD1 hS1 hl
theorem pb_lald {a N : Nat} {f : Nat → Int64} {i : Int32} (hd : decode (pi_c I) pc = .ok (.laload, 1)) (q0 : Nat) (ha : ws[q0]? = some (a, .inl (G.2.2.2.1, N, .inr (.inl f)))) (hin : vp_in i N) (kk : pb_P l G M I (pc + 1) lo (.long (f i.toNatClampNeg) :: rest) ws ck cn) : pb_P l G M I pc lo (.int i :: .ref a :: rest) ws ck cn := fun E H locs ls hP hD hS hl => va_lald E.1 E.2.1 (pb_k E) hP q0 2 ha rfl hin hd (kk E H locs ls hP hD hS hl)
theorem pb_last {a N : Nat} {f : Nat → Int64} {i : Int32} {x : Int64} {ws' : va_W} (hd : decode (pi_c I) pc = .ok (.lastore, 1)) (q0 : Nat) (ha : ws[q0]? = some (a, .inl (G.2.2.2.1, N, .inr (.inl f)))) (hin : vp_in i N) (hw : ws.set q0 (a, .inl (G.2.2.2.1, N, .inr (.inl (vp_updL f i.toNatClampNeg x)))) = ws') (kk : pb_P l G M I (pc + 1) lo rest ws' ck cn) : pb_P l G M I pc lo (.long x :: .int i :: .ref a :: rest) ws ck cn := by
  subst hw
  exact fun E H locs ls hP hD hS hl => va_last E.1 E.2.1 (pb_k E) hP hD hS q0 2 ha rfl hin hd (fun H1 locs1 hP1 hD1 hS1 => kk E H1 locs1 ls hP1 hD1 hS1 hl)
theorem pb_newl {z : Int32} {N : Nat} (hd : decode (pi_c I) pc = .ok (.newarray .long, 2)) (harr : Cond.arrayClass .long ∈ uW) (hn : ¬ z < 0) (hN : z.toNatClampNeg = N) (hb : N * componentBytes .long ≤ 536870912) (hc : ck + 1 ≤ (pi_R I).cells) (hs : cn + N ≤ (pi_R I).slots) (kk : ∀ q : Nat, pb_P l G M I (pc + 2) lo (.ref q :: rest) (ws ++ [(q, .inl (G.2.2.2.1, N, .inr (.inl (fun _ => 0))))]) (ck + 1) (cn + N)) : pb_P l G M I pc lo (.int z :: rest) ws ck cn := fun E H locs ls hP hD hS hl => by
  refine va_newa (a0 := (N, .inr (.inl (fun _ => 0)))) (N' := N) (ty := .long) E.1 E.2.1 (atype := .long) (pb_w E harr) rfl (pb_k E) hP hD hS (pb_hA E) (fun cA => rfl) hn hN hb hc hs hd (fun q cA H1 hK1 hP1 hD1 hS1 => ?_)
  have hc9 : cA = G.2.2.2.1 := Option.some.inj ((hK1.2 4 (cA, .long) rfl).2.symm.trans (hK1.2 2 (G.2.2.2.1, .long) rfl).2)
  subst hc9
  exact kk q E H1 locs ls hP1 hD1 hS1 hl
theorem pb_zald {a N : Nat} {f : Nat → Int32} {i : Int32} (hd : decode (pi_c I) pc = .ok (.baload, 1)) (q0 : Nat) (ha : ws[q0]? = some (a, .inl (G.2.2.2.2, N, .inl f))) (hin : vp_in i N) (kk : pb_P l G M I (pc + 1) lo (.int (f i.toNatClampNeg) :: rest) ws ck cn) : pb_P l G M I pc lo (.int i :: .ref a :: rest) ws ck cn := fun E H locs ls hP hD hS hl => va_zald E.1 E.2.1 (pb_k E) hP q0 3 ha rfl hin hd (kk E H locs ls hP hD hS hl)
theorem pb_zast {a N : Nat} {f : Nat → Int32} {i : Int32} {x : Int32} {ws' : va_W} (hd : decode (pi_c I) pc = .ok (.bastore, 1)) (q0 : Nat) (ha : ws[q0]? = some (a, .inl (G.2.2.2.2, N, .inl f))) (hin : vp_in i N) (hw : ws.set q0 (a, .inl (G.2.2.2.2, N, .inl (upd f i.toNatClampNeg (vp_nar .boolean x)))) = ws') (kk : pb_P l G M I (pc + 1) lo rest ws' ck cn) : pb_P l G M I pc lo (.int x :: .int i :: .ref a :: rest) ws ck cn := by
  subst hw
  exact fun E H locs ls hP hD hS hl => va_zast E.1 E.2.1 (pb_k E) hP hD hS q0 3 ha rfl hin hd (fun H1 locs1 hP1 hD1 hS1 => kk E H1 locs1 ls hP1 hD1 hS1 hl)
theorem pb_newz {z : Int32} {N : Nat} (hd : decode (pi_c I) pc = .ok (.newarray .boolean, 2)) (harr : Cond.arrayClass .boolean ∈ uW) (hn : ¬ z < 0) (hN : z.toNatClampNeg = N) (hb : N * componentBytes .boolean ≤ 536870912) (hc : ck + 1 ≤ (pi_R I).cells) (hs : cn + N ≤ (pi_R I).slots) (kk : ∀ q : Nat, pb_P l G M I (pc + 2) lo (.ref q :: rest) (ws ++ [(q, .inl (G.2.2.2.2, N, .inl (fun _ => 0)))]) (ck + 1) (cn + N)) : pb_P l G M I pc lo (.int z :: rest) ws ck cn := fun E H locs ls hP hD hS hl => by
  refine va_newa (a0 := (N, .inl (fun _ => 0))) (N' := N) (ty := .boolean) E.1 E.2.1 (atype := .boolean) (pb_w E harr) rfl (pb_k E) hP hD hS (pb_hA E) (fun cA => rfl) hn hN hb hc hs hd (fun q cA H1 hK1 hP1 hD1 hS1 => ?_)
  have hc9 : cA = G.2.2.2.2 := Option.some.inj ((hK1.2 4 (cA, .boolean) rfl).2.symm.trans (hK1.2 3 (G.2.2.2.2, .boolean) rfl).2)
  subst hc9
  exact kk q E H1 locs ls hP1 hD1 hS1 hl
theorem pb_alen {a : Nat} {cA : ClassId} {x : vp_A} {v : Int32} (hd : decode (pi_c I) pc = .ok (.arraylength, 1)) (q0 t0 : Nat) (ha : ws[q0]? = some (a, .inl (cA, x))) {ty : FieldType} (ht : (pb_T G)[t0]? = some (cA, ty)) (hv : Int32.ofNat x.1 = v) (kk : pb_P l G M I (pc + 1) lo (.int v :: rest) ws ck cn) : pb_P l G M I pc lo (.ref a :: rest) ws ck cn := fun E H locs ls hP hD hS hl => va_alen E.1 E.2.1 (pb_k E) hP q0 t0 ha ht hv hd (kk E H locs ls hP hD hS hl)

theorem pb_ldc {v : Int32} {index : Nat} (hd : decode (pi_c I) pc = .ok (.ldc index, 2)) (hw : Cond.constant (pi_y I).cls index v ∈ uW) (kk : pb_P l G M I (pc + 2) lo (.int v :: rest) ws ck cn) : pb_P l G M I pc lo rest ws ck cn := fun E H locs ls hP hD hS hl => lv_ldc E.1 E.2.1 E.2.2.2.1 (pb_w E hw) hd (kk E H locs ls hP hD hS hl)
theorem pb_ldc2 {v : Int64} {index : Nat} (hd : decode (pi_c I) pc = .ok (.ldc2_w index, 3)) (hw : Cond.constantLong (pi_y I).cls index v ∈ uW) (kk : pb_P l G M I (pc + 3) lo (.long v :: rest) ws ck cn) : pb_P l G M I pc lo rest ws ck cn := fun E H locs ls hP hD hS hl => lv_ldc2 E.1 E.2.1 E.2.2.2.1 (pb_w E hw) hd (kk E H locs ls hP hD hS hl)
theorem pb_get {C : String} {T : u_T} {N ci index a : Nat} {fs : List Value} {v : Value} (hd : decode (pi_c I) pc = .ok (.getfield index, 3)) (q0 k : Nat) (he : ws[q0]? = some (a, .inr (ci, fs))) (hc : vwCl[ci]? = some (C, T, N)) (hk : k < N) (hin : ∀ w ∈ u_ws C T N, w ∈ uW) (hlink : Cond.fieldLink (pi_y I).cls index (T k).1 (T k).2.1 (T k).2.2.1 ∈ uW) (hv : fs[k]? = some v) (kk : pb_P l G M I (pc + 3) lo (v :: rest) ws ck cn) : pb_P l G M I pc lo (.ref a :: rest) ws ck cn := fun E H locs ls hP hD hS hl => va_get E.1 E.2.1 (pb_ws E) hin E.2.2.2.1 (pb_k E) hP q0 he hc k hk (pb_w E hlink) (fun _ h9 => h9) hv hd (kk E H locs ls hP hD hS hl)
theorem pb_getN {C host : String} {T : u_T} {N ci index a : Nat} {fs : List Value} {v : Value} (hd : decode (pi_c I) pc = .ok (.getfield index, 3)) (q0 k : Nat) (he : ws[q0]? = some (a, .inr (ci, fs))) (hc : vwCl[ci]? = some (C, T, N)) (hk : k < N) (hin : ∀ w ∈ u_ws C T N, w ∈ uW) (hlink : Cond.fieldLinkNest (pi_y I).cls index (T k).1 (T k).2.1 (T k).2.2.1 host ∈ uN) (hv : fs[k]? = some v) (kk : pb_P l G M I (pc + 3) lo (v :: rest) ws ck cn) : pb_P l G M I pc lo (.ref a :: rest) ws ck cn := fun E H locs ls hP hD hS hl => va_getN E.1 E.2.1 (pb_ws E) hin E.2.2.2.1 (pb_k E) hP q0 he hc k hk (pb_n E hlink) (fun _ h9 => h9) hv hd (kk E H locs ls hP hD hS hl)
theorem pb_put {C : String} {T : u_T} {N ci index a : Nat} {fs : List Value} {v : Value} {ty : FieldType} {ws' : va_W} (hd : decode (pi_c I) pc = .ok (.putfield index, 3)) (q0 k : Nat) (ty0 : Nat → FieldType) (hty : ∀ k, k < N → parseFieldDescriptor (T k).2.2.1 = some (ty0 k)) (hnm : ∀ a, a < N → ∀ b, b < N → a ≠ b → (T a).2.1 ≠ (T b).2.1) (he : ws[q0]? = some (a, .inr (ci, fs))) (hc : vwCl[ci]? = some (C, T, N)) (hk : k < N) (hin : ∀ w ∈ u_ws C T N, w ∈ uW) (hlink : Cond.fieldLink (pi_y I).cls index (T k).1 (T k).2.1 (T k).2.2.1 ∈ uW) (hfin : (T k).2.2.2 = false) (h3 : parseFieldDescriptor (T k).2.2.1 = some ty) (h4 : narrow ty v = v) (h5 : fits ty v = true) (h6 : k < fs.length) (hw : ws.set q0 (a, .inr (ci, fs.set k v)) = ws') (kk : pb_P l G M I (pc + 3) lo rest ws' ck cn) : pb_P l G M I pc lo (v :: .ref a :: rest) ws ck cn := by
  subst hw
  exact fun E H locs ls hP hD hS hl => va_put E.1 E.2.1 (pb_ws E) hin ty0 hty hnm E.2.2.2.1 (pb_k E) hP hD hS q0 he hc k hk (pb_w E hlink) (fun _ h9 => h9) hfin h3 h4 h5 h6 hd (fun H1 locs1 hP1 hD1 hS1 => kk E H1 locs1 ls hP1 hD1 hS1 hl)
theorem pb_putN {C host : String} {T : u_T} {N ci index a : Nat} {fs : List Value} {v : Value} {ty : FieldType} {ws' : va_W} (hd : decode (pi_c I) pc = .ok (.putfield index, 3)) (q0 k : Nat) (ty0 : Nat → FieldType) (hty : ∀ k, k < N → parseFieldDescriptor (T k).2.2.1 = some (ty0 k)) (hnm : ∀ a, a < N → ∀ b, b < N → a ≠ b → (T a).2.1 ≠ (T b).2.1) (he : ws[q0]? = some (a, .inr (ci, fs))) (hc : vwCl[ci]? = some (C, T, N)) (hk : k < N) (hin : ∀ w ∈ u_ws C T N, w ∈ uW) (hlink : Cond.fieldLinkNest (pi_y I).cls index (T k).1 (T k).2.1 (T k).2.2.1 host ∈ uN) (hfin : (T k).2.2.2 = false) (h3 : parseFieldDescriptor (T k).2.2.1 = some ty) (h4 : narrow ty v = v) (h5 : fits ty v = true) (h6 : k < fs.length) (hw : ws.set q0 (a, .inr (ci, fs.set k v)) = ws') (kk : pb_P l G M I (pc + 3) lo rest ws' ck cn) : pb_P l G M I pc lo (v :: .ref a :: rest) ws ck cn := by
  subst hw
  exact fun E H locs ls hP hD hS hl => va_putN E.1 E.2.1 (pb_ws E) hin ty0 hty hnm E.2.2.2.1 (pb_k E) hP hD hS q0 he hc k hk (pb_n E hlink) (fun _ h9 => h9) hfin h3 h4 h5 h6 hd (fun H1 locs1 hP1 hD1 hS1 => kk E H1 locs1 ls hP1 hD1 hS1 hl)
theorem pb_putF {C : String} {T : u_T} {N ci index a : Nat} {fs : List Value} {v : Value} {ty : FieldType} {ws' : va_W} (hd : decode (pi_c I) pc = .ok (.putfield index, 3)) (q0 k : Nat) (ty0 : Nat → FieldType) (hty : ∀ k, k < N → parseFieldDescriptor (T k).2.2.1 = some (ty0 k)) (hnm : ∀ a, a < N → ∀ b, b < N → a ≠ b → (T a).2.1 ≠ (T b).2.1) (he : ws[q0]? = some (a, .inr (ci, fs))) (hc : vwCl[ci]? = some (C, T, N)) (hk : k < N) (hin : ∀ w ∈ u_ws C T N, w ∈ uW) (hlink : Cond.fieldLink (pi_y I).cls index (T k).1 (T k).2.1 (T k).2.2.1 ∈ uW) (hfin : (T k).2.2.2 = true) (hin2 : (pi_y I).name = "<init>") (hdecl : (T k).1 = (pi_y I).cls) (h3 : parseFieldDescriptor (T k).2.2.1 = some ty) (h4 : narrow ty v = v) (h5 : fits ty v = true) (h6 : k < fs.length) (hw : ws.set q0 (a, .inr (ci, fs.set k v)) = ws') (kk : pb_P l G M I (pc + 3) lo rest ws' ck cn) : pb_P l G M I pc lo (v :: .ref a :: rest) ws ck cn := by
  subst hw
  exact fun E H locs ls hP hD hS hl => va_putF E.1 E.2.1 (pb_ws E) hin ty0 hty hnm E.2.2.2.1 (pb_k E) hP hD hS q0 he hc k hk (pb_w E hlink) (fun _ h9 => h9) hfin ((pb_name E).trans hin2) hdecl h3 h4 h5 h6 hd (fun H1 locs1 hP1 hD1 hS1 => kk E H1 locs1 ls hP1 hD1 hS1 hl)
theorem pb_new {C : String} {T : u_T} {N ci index : Nat} {fs : List Value} (hd : decode (pi_c I) pc = .ok (.new index, 3)) (ty : Nat → FieldType) (hty : ∀ k, k < N → parseFieldDescriptor (T k).2.2.1 = some (ty k)) (hc : vwCl[ci]? = some (C, T, N)) (hin : ∀ w ∈ u_ws C T N, w ∈ uW) (h1 : Cond.classLink (pi_y I).cls index C ∈ uW) (h2 : Cond.instantiable C N ∈ uW) (h3 : Cond.initialized C ∈ uW) (hfs : ∀ j, j < N → defaultValue (ty j) = vp_V fs j) (h4 : ck + 1 ≤ (pi_R I).cells) (h5 : cn + N ≤ (pi_R I).slots) (kk : ∀ q : Nat, pb_P l G M I (pc + 3) lo (.ref q :: rest) (ws ++ [(q, .inr (ci, fs))]) (ck + 1) (cn + N)) : pb_P l G M I pc lo rest ws ck cn := fun E H locs ls hP hD hS hl => va_new E.1 E.2.1 (pb_ws E) hin ty hty E.2.2.2.1 (pb_w E h1) (pb_w E h2) (pb_w E h3) (pb_k E) hP hD hS (pb_hA E) hc hfs h4 h5 hd (fun q H1 hP1 hD1 hS1 => kk q E H1 locs ls hP1 hD1 hS1 hl)
theorem pb_objInit {a index : Nat} (hd : decode (pi_c I) pc = .ok (.invokespecial index, 3)) (h1 : Cond.methodLink (pi_y I).cls index Lib.objectInit ∈ uW) (h2 : Cond.instanceMethod Lib.objectInit ∈ uW) (h3 : Cond.code Lib.objectInit ⟨#[0xb1]⟩ 1 none ∈ uW) (h4 : 1 ≤ (pi_R I).frames) (h5 : (rest.map fun v => v.category).sum + 12 ≤ (pi_R I).locals) (kk : pb_P l G M I (pc + 3) lo rest ws ck cn) : pb_P l G M I pc lo (.ref a :: rest) ws ck cn := fun E H locs ls hP hD hS hl => W.objInit E.1 E.2.1 E.2.2.2.1 (pb_w E h1) (pb_w E h2) (pb_w E h3) rfl (by rw [E.2.2.1]; exact hl.1) rfl hd h4 (by show 2 * 0 + _ + 12 ≤ _; omega) (kk E H locs ls hP hD hS hl)

/-- what a contract leaves behind: an answer v, a picture u of what came of the world -/
def cn_Q {S : Type} (G : pb_G) (A : Nat → Prop) (post : Option Value → S → Prop) (w1 : S → va_W) : Array Value → State → Outcome → State → Prop := fun _ s0 oc t =>
  (∃ (v : Option Value) (u : S), oc = .returned v ∧ post v u ∧ va_P G.1 vwCl (w1 u) t.heap ∧ va_D A (w1 u)) ∧ va_F A s0 t
def cn_B (G : pb_G) (w0 : va_W) (sz : Nat) (U : State) : Prop := U.heap.size = sz ∧ va_P G.1 vwCl w0 U.heap ∧ va_K G.1 vwCl (pb_T G) U ∧ va_D (fun _ => True) w0 ∧ pb_Z (va_A w0 sz) U U.heap
/-- a contract: method I with these arguments in the world w0 returns v with the world w1 u, where post v u -/
def Cn (l : Launch) (G : pb_G) (I : pb_I) (as : List Value) (w0 : va_W) {S : Type} (post : Option Value → S → Prop) (w1 : S → va_W) : Prop :=
  ∀ sz : Nat, Met l (pi_y I) (pi_w I) (pi_R I) (va_Pc as (cn_B G w0 sz)) (cn_Q G (va_A w0 sz) post w1) (pi_R I).cells (pi_R I).slots (va_A w0 sz)
/-- the goal of a method that only returns -/
def pb_Rq {S : Type} (G : pb_G) (M : pb_M) (I : pb_I) (post : Option Value → S → Prop) (w1 : S → va_W) : Prop :=
  pm_Q M = MQ (pm_b M) (cn_Q G (pm_A M) post w1) (pm_a M) (pm_s M) (pi_R I).cells (pi_R I).slots (pm_A M)
theorem pb_iret {S : Type} {post : Option Value → S → Prop} {w1 : S → va_W} {v : Int32} (hQ : pb_Rq G M I post w1) (hd : decode (pi_c I) pc = .ok (.ireturn, 1)) {ty : FieldType} (hr : pi_r I = some ty) (hn : narrow ty (.int v) = .int v) (u : S) (hp : post (some (.int v)) u) (is : List Nat) (h1 : va_nd is = true) (h2 : is.map (fun i => ws[i]?) = (w1 u).map some) (h3 : is.filterMap (fun i => ws[i]?) = w1 u) (h4 : ck ≤ (pi_R I).cells) (h5 : cn ≤ (pi_R I).slots) : pb_P l G M I pc lo [.int v] ws ck cn := fun E H locs ls hP hD hS hl => by
  refine W.widen h4 h5 ?_
  rw [show pm_Q M = _ from hQ]
  exact W.zret E.1 E.2.1 ((pb_ret E).trans hr) hn (fun t ht hW => ⟨⟨_, u, rfl, hp, by rw [ht]; exact hP.sub is h3, hD.sub is h1 h2⟩, hS.F ht⟩) hS.2.2 hd (pb_lock E)
theorem pb_vret {S : Type} {post : Option Value → S → Prop} {w1 : S → va_W} (hQ : pb_Rq G M I post w1) (hd : decode (pi_c I) pc = .ok (.return_, 1)) (hr : pi_r I = none) (u : S) (hp : post none u) (is : List Nat) (h1 : va_nd is = true) (h2 : is.map (fun i => ws[i]?) = (w1 u).map some) (h3 : is.filterMap (fun i => ws[i]?) = w1 u) (h4 : ck ≤ (pi_R I).cells) (h5 : cn ≤ (pi_R I).slots) : pb_P l G M I pc lo [] ws ck cn := fun E H locs ls hP hD hS hl => by
  refine W.widen h4 h5 ?_
  rw [show pm_Q M = _ from hQ]
  exact W.vret E.1 E.2.1 ((pb_ret E).trans hr) (fun t ht hW => ⟨⟨_, u, rfl, hp, by rw [ht]; exact hP.sub is h3, hD.sub is h1 h2⟩, hS.F ht⟩) hS.2.2 hd (pb_lock E)
theorem pb_lret {S : Type} {post : Option Value → S → Prop} {w1 : S → va_W} {v : Int64} (hQ : pb_Rq G M I post w1) (hd : decode (pi_c I) pc = .ok (.lreturn, 1)) (hr : pi_r I = some .long) (u : S) (hp : post (some (.long v)) u) (is : List Nat) (h1 : va_nd is = true) (h2 : is.map (fun i => ws[i]?) = (w1 u).map some) (h3 : is.filterMap (fun i => ws[i]?) = w1 u) (h4 : ck ≤ (pi_R I).cells) (h5 : cn ≤ (pi_R I).slots) : pb_P l G M I pc lo [.long v] ws ck cn := fun E H locs ls hP hD hS hl => by
  refine W.widen h4 h5 ?_
  rw [show pm_Q M = _ from hQ]
  exact W.lret E.1 E.2.1 ((pb_ret E).trans hr) (fun t ht hW => ⟨⟨_, u, rfl, hp, by rw [ht]; exact hP.sub is h3, hD.sub is h1 h2⟩, hS.F ht⟩) hS.2.2 hd (pb_lock E)
theorem Cn.of {S : Type} {as : List Value} {w0 : va_W} {post : Option Value → S → Prop} {w1 : S → va_W} (hl : l.stackTraces = false) (hy : plainName (pi_y I).cls = true) (hw : pi_d I = .code (pi_y I) (pi_c I) (pi_n I) (pi_r I)) (hn : (lg_sl as).length ≤ pi_n I)
    (body : ∀ M : pb_M, pb_Rq G M I post w1 → pb_P l G M I 0 (lv_args 0 as) [] w0 0 0) : Cn l G I as w0 post w1 := by
  intro sz
  refine Met.ofW (cc := pi_c I) (maxL := pi_n I) (ret := pi_r I) hy (pb_hw hw) ?_
  intro p e s m args below meth c s₁ B hml hv
  obtain ⟨rfl, hsz, hP, hK, hD0, hZ⟩ := hv
  subst hsz
  have hl9 := lv_entry as hn
  rw [lg_entry_eq]
  exact body ((p, e, s, m, as.toArray), (below, meth, c), (va_A w0 s.heap.size, MQ below (cn_Q G (va_A w0 s.heap.size) post w1) as.toArray s (pi_R I).cells (pi_R I).slots (va_A w0 s.heap.size))) rfl
    ⟨B.exec, B.bytes, hml, findClass_of_methodNamed B.named, fun w h => atoms_spec (ws := pi_w I) B.pre w (List.mem_cons_of_mem _ h), hK, fun q h => Or.inr h, B.notSynchronized, (name_of_methodNamed B.named B.method).1, B.returns, hl, hZ⟩ s.heap [] _ hP hD0.self va_S.rf hl9
def cn_st (v : Option Value) (r : List Value) : List Value := match v with
  | none => r
  | some x => x :: r
theorem cn_st_eq (v : Option Value) (r : List Value) : v.toList ++ r = cn_st v r := by cases v <;> rfl
theorem cn_blind {G : pb_G} {as : List Value} {w0 : va_W} {sz : Nat} : FrameBlind (va_Pc as (cn_B G w0 sz)) := by
  intro a U g mk q
  obtain ⟨q0, q1, qP, qK, qD, qZ⟩ := q
  exact ⟨q0, q1, qP, va_K.moved (u := U) (U := U.calling g mk a) (Vm.Alike.refl U.vm) qK, qD, pb_Z.same (u := U) (U := U.calling g mk a) rfl qZ⟩
theorem cn_pre {as : List Value} {w0 : va_W} (E : pb_Ev l G M I) {H : Heap} {locs : List Loc} (hP : va_P G.1 vwCl ws H) (hD : va_D (pm_A M) ws) (hS : va_S (pm_A M) (pm_s M).heap H locs) (isC : List Nat) (h0 : va_nd isC = true) (hC : isC.map (fun i => ws[i]?) = w0.map some) (hC2 : isC.filterMap (fun i => ws[i]?) = w0) :
    ∀ U : State, U.heap = H → (pm_s M).WarmedH U.vm → va_Pc as (cn_B G w0 H.size) as.toArray U := by
  intro U hU hW
  refine ⟨rfl, by rw [hU], by rw [hU]; exact hP.sub isC hC2, va_K.moved hW.alike (pb_k E), (hD.sub isC h0 hC).weaken (fun _ _ _ _ => trivial), ?_⟩
  rw [hU]
  exact pb_Z.warm hW (pb_Z.narrow (va_free hD hS (pb_hA E) isC hC) ((pb_z E).kept hS))
theorem cn_go {S : Type} {post : Option Value → S → Prop} {w1 : S → va_W} {w0 wr : va_W} {a : Array Value} {mc ms : Nat} {st0 : List Value} {ls : Array Slot} {H : Heap} {locs : List Loc} (E : pb_Ev l G M I) (hP : va_P G.1 vwCl ws H) (hD : va_D (pm_A M) ws) (hS : va_S (pm_A M) (pm_s M).heap H locs) (hl : lv_has ls (pi_n I) lo)
    (isC isR : List Nat) (hC : isC.map (fun i => ws[i]?) = w0.map some) (hR : isR.map (fun i => ws[i]?) = wr.map some) (hn : va_nd isR = true) (hdis : ∀ i ∈ isR, i ∉ isC)
    (hr : va_Run (pm_p M) l (pm_e M) (pi_R I) (pm_s M) (pm_m M) (pm_a M) (pm_b M) (pm_h M) (pm_c M) H locs ck cn mc ms (F0 (pm_m M) pc ls st0) rest (cn_Q G (va_A w0 H.size) post w1 a) (va_A w0 H.size))
    (kk : ∀ (v : Option Value) (u : S), post v u → pb_P l G M I (pc + 3) lo (cn_st v rest) (wr ++ w1 u) (ck + mc) (cn + ms)) :
    W (pm_p M) l (pm_e M) (pi_R I) (pm_s M) (pm_m M) (pm_a M) (pm_b M) (pm_h M) (pm_c M) H locs ck cn (pm_Q M) (F0 (pm_m M) pc ls st0) := by
  have hF := va_free hD hS (pb_hA E) isC hC
  intro T hT X
  obtain ⟨v, st₀, t, T', L, h0, X', hL, e1, e2, ⟨⟨v', u, hv, hp, hP1, hD1⟩, hz, hk⟩, st⟩ := hr T hT X
  cases hv
  rw [h0] at hz hk
  rw [← e1] at hP1 hz hk
  obtain ⟨hP2, hD2⟩ := va_join hP hD isC isR hC hR hn hdis hk hF hP1 hD1
  obtain ⟨t2, a1, b1⟩ := kk v u hp E T'.heap (locs ++ L) ls hP2 hD2
    ⟨Nat.le_trans hS.1 hz, fun q h1 h2 => by rw [hk q (Nat.lt_of_lt_of_le h1 hS.1) (fun z => h2 (hF q z))]; exact hS.2.1 q h1 h2, fun q hq => by
      rcases List.mem_append.mp hq with h | h
      · exact hS.2.2 q h
      · exact hF _ (hL q h)⟩ hl T' rfl X'
  rw [← cn_st_eq] at a1
  exact ⟨t2, st t2 a1, b1⟩
/-- a call of a constructor -/
theorem pb_callI {S : Type} {J : pb_I} {nA : Nat} {as : List Value} {b index : Nat} {w0 wr : va_W} {post : Option Value → S → Prop} {w1 : S → va_W} (hd : decode (pi_c I) pc = .ok (.invokespecial index, 3)) (hM : Cn l G J (.ref b :: as) w0 post w1)
    (isC isR : List Nat) (h0 : va_nd isC = true) (hC : isC.map (fun i => ws[i]?) = w0.map some) (hC2 : isC.filterMap (fun i => ws[i]?) = w0) (hR : isR.map (fun i => ws[i]?) = wr.map some) (hn : va_nd isR = true) (hdis : ∀ i ∈ isR, i ∉ isC)
    (hcd : pi_d J ∈ uW) (hw : pi_d J = .code (pi_y J) (pi_c J) (pi_n J) none) (hini : Cond.initialized (pi_y J).cls ∈ uW) (hlk : Cond.methodLink (pi_y I).cls index (pi_y J) ∈ uW) (hin : Cond.instanceMethod (pi_y J) ∈ uW) (hy1 : (pi_y J).name = "<init>")
    (hy : (pi_y J).cls ≠ "java/lang/invoke/MethodHandle" ∧ (pi_y J).cls ≠ "java/lang/invoke/VarHandle" ∧ (parseMethodDescriptor (pi_y J).desc).map (fun d => d.parameters.length) = some nA) (hRm : (pi_R J).frames + 1 ≤ (pi_R I).frames ∧ 8 + (pi_n J + 11) + (pi_R J).locals ≤ (pi_R I).locals) (hA9 : as.length = nA)
    {st0 : List Value} (hst : st0 = as.reverse ++ .ref b :: rest) (h8 : (rest.map fun v => v.category).sum ≤ 8) (hf : ck + (pi_R J).cells ≤ (pi_R I).cells ∧ cn + (pi_R J).slots ≤ (pi_R I).slots)
    (kk : ∀ (v : Option Value) (u : S), post v u → pb_P l G M I (pc + 3) lo (cn_st v rest) (wr ++ w1 u) (ck + (pi_R J).cells) (cn + (pi_R J).slots)) : pb_P l G M I pc lo st0 ws ck cn := fun E H locs ls hP hD hS hl => by
  subst hst
  refine cn_go E hP hD hS hl isC isR hC hR hn hdis (va_runI (As := as) (b := b) ⟨E.1, E.2.1, E.2.2.1, E.2.2.2.1, pb_ws E⟩ (hM H.size) (cwI nA (pb_ws E) (pb_gd hcd) (pb_hw hw) rfl rfl (pb_w E hini) (pb_w E hlk) (pb_w E hin) hy1 hy hRm) ⟨cn_blind, cn_pre E hP hD hS isC h0 hC hC2⟩ rfl hA9 hl.1 rfl (lv_room h8) hd hf) kk
theorem pb_callIN {S : Type} {J : pb_I} {nA : Nat} {as : List Value} {b index : Nat} {host : String} {w0 wr : va_W} {post : Option Value → S → Prop} {w1 : S → va_W} (hd : decode (pi_c I) pc = .ok (.invokespecial index, 3)) (hM : Cn l G J (.ref b :: as) w0 post w1)
    (isC isR : List Nat) (h0 : va_nd isC = true) (hC : isC.map (fun i => ws[i]?) = w0.map some) (hC2 : isC.filterMap (fun i => ws[i]?) = w0) (hR : isR.map (fun i => ws[i]?) = wr.map some) (hn : va_nd isR = true) (hdis : ∀ i ∈ isR, i ∉ isC)
    (hcd : pi_d J ∈ uW) (hw : pi_d J = .code (pi_y J) (pi_c J) (pi_n J) none) (hini : Cond.initialized (pi_y J).cls ∈ uW) (hlk : Cond.methodLinkNest (pi_y I).cls index (pi_y J) host ∈ uN) (hin : Cond.instanceMethod (pi_y J) ∈ uW) (hy1 : (pi_y J).name = "<init>")
    (hy : (pi_y J).cls ≠ "java/lang/invoke/MethodHandle" ∧ (pi_y J).cls ≠ "java/lang/invoke/VarHandle" ∧ (parseMethodDescriptor (pi_y J).desc).map (fun d => d.parameters.length) = some nA) (hRm : (pi_R J).frames + 1 ≤ (pi_R I).frames ∧ 8 + (pi_n J + 11) + (pi_R J).locals ≤ (pi_R I).locals) (hA9 : as.length = nA)
    {st0 : List Value} (hst : st0 = as.reverse ++ .ref b :: rest) (h8 : (rest.map fun v => v.category).sum ≤ 8) (hf : ck + (pi_R J).cells ≤ (pi_R I).cells ∧ cn + (pi_R J).slots ≤ (pi_R I).slots)
    (kk : ∀ (v : Option Value) (u : S), post v u → pb_P l G M I (pc + 3) lo (cn_st v rest) (wr ++ w1 u) (ck + (pi_R J).cells) (cn + (pi_R J).slots)) : pb_P l G M I pc lo st0 ws ck cn := fun E H locs ls hP hD hS hl => by
  subst hst
  refine cn_go E hP hD hS hl isC isR hC hR hn hdis (va_runIN (As := as) (b := b) ⟨E.1, E.2.1, E.2.2.1, E.2.2.2.1, pb_ws E⟩ (hM H.size) ⟨va_cnB nA (pb_ws E) (pb_gd hcd) (pb_hw hw) rfl rfl (va_Nw.of rfl (pb_n E hlk)) (pb_w E hini) hy hRm, hy1, pb_w E hin⟩ ⟨cn_blind, cn_pre E hP hD hS isC h0 hC hC2⟩ rfl hA9 hl.1 rfl (lv_room h8) hd hf) kk
/-- a call of a static method -/
theorem pb_callS {S : Type} {J : pb_I} {nA : Nat} {as : List Value} {index : Nat} {w0 wr : va_W} {post : Option Value → S → Prop} {w1 : S → va_W} (hd : decode (pi_c I) pc = .ok (.invokestatic index, 3)) (hM : Cn l G J as w0 post w1)
    (isC isR : List Nat) (h0 : va_nd isC = true) (hC : isC.map (fun i => ws[i]?) = w0.map some) (hC2 : isC.filterMap (fun i => ws[i]?) = w0) (hR : isR.map (fun i => ws[i]?) = wr.map some) (hn : va_nd isR = true) (hdis : ∀ i ∈ isR, i ∉ isC)
    (hcd : pi_d J ∈ uW) (hw : pi_d J = .code (pi_y J) (pi_c J) (pi_n J) (pi_r J)) (hini : Cond.initialized (pi_y I).cls ∈ uW) (hlk : Cond.methodLink (pi_y I).cls index (pi_y J) ∈ uW) (hst9 : Cond.static (pi_y J) ∈ uW)
    (hy : (pi_y J).cls = (pi_y I).cls ∧ (pi_y J).cls ≠ "java/lang/invoke/MethodHandle" ∧ (pi_y J).cls ≠ "java/lang/invoke/VarHandle" ∧ (parseMethodDescriptor (pi_y J).desc).map (fun d => d.parameters.length) = some nA) (hRm : (pi_R J).frames + 1 ≤ (pi_R I).frames ∧ 8 + (pi_n J + 11) + (pi_R J).locals ≤ (pi_R I).locals) (hA9 : as.length = nA)
    {st0 : List Value} (hst : st0 = as.reverse ++ rest) (h8 : (rest.map fun v => v.category).sum ≤ 8) (hf : ck + (pi_R J).cells ≤ (pi_R I).cells ∧ cn + (pi_R J).slots ≤ (pi_R I).slots)
    (kk : ∀ (v : Option Value) (u : S), post v u → pb_P l G M I (pc + 3) lo (cn_st v rest) (wr ++ w1 u) (ck + (pi_R J).cells) (cn + (pi_R J).slots)) : pb_P l G M I pc lo st0 ws ck cn := fun E H locs ls hP hD hS hl => by
  subst hst
  refine cn_go E hP hD hS hl isC isR hC hR hn hdis (va_runS (As := as) ⟨E.1, E.2.1, E.2.2.1, E.2.2.2.1, pb_ws E⟩ (hM H.size) (cwS nA (pb_ws E) (pb_gdS hcd hlk hst9 hini) (pb_hw hw) rfl rfl hy hRm) ⟨cn_blind, cn_pre E hP hD hS isC h0 hC hC2⟩ rfl hA9 hl.1 rfl (lv_room h8) hd hf) kk
theorem pb_callSN {S : Type} {J : pb_I} {nA : Nat} {as : List Value} {index : Nat} {host : String} {w0 wr : va_W} {post : Option Value → S → Prop} {w1 : S → va_W} (hd : decode (pi_c I) pc = .ok (.invokestatic index, 3)) (hM : Cn l G J as w0 post w1)
    (isC isR : List Nat) (h0 : va_nd isC = true) (hC : isC.map (fun i => ws[i]?) = w0.map some) (hC2 : isC.filterMap (fun i => ws[i]?) = w0) (hR : isR.map (fun i => ws[i]?) = wr.map some) (hn : va_nd isR = true) (hdis : ∀ i ∈ isR, i ∉ isC)
    (hcd : pi_d J ∈ uW) (hw : pi_d J = .code (pi_y J) (pi_c J) (pi_n J) (pi_r J)) (hini : Cond.initialized (pi_y J).cls ∈ uW) (hlk : Cond.methodLinkNest (pi_y I).cls index (pi_y J) host ∈ uN) (hst9 : Cond.static (pi_y J) ∈ uW)
    (hy : (pi_y J).cls ≠ "java/lang/invoke/MethodHandle" ∧ (pi_y J).cls ≠ "java/lang/invoke/VarHandle" ∧ (parseMethodDescriptor (pi_y J).desc).map (fun d => d.parameters.length) = some nA) (hRm : (pi_R J).frames + 1 ≤ (pi_R I).frames ∧ 8 + (pi_n J + 11) + (pi_R J).locals ≤ (pi_R I).locals) (hA9 : as.length = nA)
    {st0 : List Value} (hst : st0 = as.reverse ++ rest) (h8 : (rest.map fun v => v.category).sum ≤ 8) (hf : ck + (pi_R J).cells ≤ (pi_R I).cells ∧ cn + (pi_R J).slots ≤ (pi_R I).slots)
    (kk : ∀ (v : Option Value) (u : S), post v u → pb_P l G M I (pc + 3) lo (cn_st v rest) (wr ++ w1 u) (ck + (pi_R J).cells) (cn + (pi_R J).slots)) : pb_P l G M I pc lo st0 ws ck cn := fun E H locs ls hP hD hS hl => by
  subst hst
  refine cn_go E hP hD hS hl isC isR hC hR hn hdis (va_runSN (As := as) ⟨E.1, E.2.1, E.2.2.1, E.2.2.2.1, pb_ws E⟩ (hM H.size) ⟨va_cnB nA (pb_ws E) (pb_gd hcd) (pb_hw hw) rfl rfl (va_Nw.of rfl (pb_n E hlk)) (pb_w E hini) hy hRm, pb_w E hst9, trivial⟩ ⟨cn_blind, cn_pre E hP hD hS isC h0 hC hC2⟩ rfl hA9 hl.1 rfl (lv_room h8) hd hf) kk
/-- a call of an object's method -/
theorem pb_callV {S : Type} {J : pb_I} {nA : Nat} {as : List Value} {b index qb ci N : Nat} {T : u_T} {fs : List Value} {w0 wr : va_W} {post : Option Value → S → Prop} {w1 : S → va_W} (hd : decode (pi_c I) pc = .ok (.invokevirtual index, 3)) (hM : Cn l G J (.ref b :: as) w0 post w1)
    (hb : ws[qb]? = some (b, .inr (ci, fs))) (hc : vwCl[ci]? = some ((pi_y J).cls, T, N))
    (isC isR : List Nat) (h0 : va_nd isC = true) (hC : isC.map (fun i => ws[i]?) = w0.map some) (hC2 : isC.filterMap (fun i => ws[i]?) = w0) (hR : isR.map (fun i => ws[i]?) = wr.map some) (hn : va_nd isR = true) (hdis : ∀ i ∈ isR, i ∉ isC)
    (hcd : pi_d J ∈ uW) (hw : pi_d J = .code (pi_y J) (pi_c J) (pi_n J) (pi_r J)) (hini : Cond.initialized (pi_y J).cls ∈ uW) (hlk : Cond.methodLink (pi_y I).cls index (pi_y J) ∈ uW) (hin : Cond.instanceMethod (pi_y J) ∈ uW) (hsel : Cond.selects (pi_y J).cls (pi_y J) (pi_y J) ∈ uW)
    (hy : (pi_y J).cls = (pi_y J).cls ∧ (pi_y J).cls ≠ "java/lang/invoke/MethodHandle" ∧ (pi_y J).cls ≠ "java/lang/invoke/VarHandle" ∧ (parseMethodDescriptor (pi_y J).desc).map (fun d => d.parameters.length) = some nA) (hRm : (pi_R J).frames + 1 ≤ (pi_R I).frames ∧ 8 + (pi_n J + 11) + (pi_R J).locals ≤ (pi_R I).locals) (hA9 : as.length = nA)
    {st0 : List Value} (hst : st0 = as.reverse ++ .ref b :: rest) (h8 : (rest.map fun v => v.category).sum ≤ 8) (hf : ck + (pi_R J).cells ≤ (pi_R I).cells ∧ cn + (pi_R J).slots ≤ (pi_R I).slots)
    (kk : ∀ (v : Option Value) (u : S), post v u → pb_P l G M I (pc + 3) lo (cn_st v rest) (wr ++ w1 u) (ck + (pi_R J).cells) (cn + (pi_R J).slots)) : pb_P l G M I pc lo st0 ws ck cn := fun E H locs ls hP hD hS hl => by
  subst hst
  refine cn_go E hP hD hS hl isC isR hC hR hn hdis (va_runV (As := as) (b := b) (C := (pi_y J).cls) ⟨E.1, E.2.1, E.2.2.1, E.2.2.2.1, pb_ws E⟩ (hM H.size) (cwV nA (pb_ws E) (pb_gdV hcd hlk hin hsel hini) (pb_hw hw) rfl rfl hy hRm) ⟨cn_blind, va_recv (pb_k E) hP hc hb, cn_pre E hP hD hS isC h0 hC hC2⟩ rfl hA9 hl.1 rfl (lv_room h8) hd hf) kk
theorem pb_callVN {S : Type} {J : pb_I} {nA : Nat} {as : List Value} {b index qb ci N : Nat} {host : String} {T : u_T} {fs : List Value} {w0 wr : va_W} {post : Option Value → S → Prop} {w1 : S → va_W} (hd : decode (pi_c I) pc = .ok (.invokevirtual index, 3)) (hM : Cn l G J (.ref b :: as) w0 post w1)
    (hb : ws[qb]? = some (b, .inr (ci, fs))) (hc : vwCl[ci]? = some ((pi_y J).cls, T, N))
    (isC isR : List Nat) (h0 : va_nd isC = true) (hC : isC.map (fun i => ws[i]?) = w0.map some) (hC2 : isC.filterMap (fun i => ws[i]?) = w0) (hR : isR.map (fun i => ws[i]?) = wr.map some) (hn : va_nd isR = true) (hdis : ∀ i ∈ isR, i ∉ isC)
    (hcd : pi_d J ∈ uW) (hw : pi_d J = .code (pi_y J) (pi_c J) (pi_n J) (pi_r J)) (hini : Cond.initialized (pi_y J).cls ∈ uW) (hlk : Cond.methodLinkNest (pi_y I).cls index (pi_y J) host ∈ uN) (hin : Cond.instanceMethod (pi_y J) ∈ uW) (hsel : Cond.selects (pi_y J).cls (pi_y J) (pi_y J) ∈ uW)
    (hy : (pi_y J).cls ≠ "java/lang/invoke/MethodHandle" ∧ (pi_y J).cls ≠ "java/lang/invoke/VarHandle" ∧ (parseMethodDescriptor (pi_y J).desc).map (fun d => d.parameters.length) = some nA) (hRm : (pi_R J).frames + 1 ≤ (pi_R I).frames ∧ 8 + (pi_n J + 11) + (pi_R J).locals ≤ (pi_R I).locals) (hA9 : as.length = nA)
    {st0 : List Value} (hst : st0 = as.reverse ++ .ref b :: rest) (h8 : (rest.map fun v => v.category).sum ≤ 8) (hf : ck + (pi_R J).cells ≤ (pi_R I).cells ∧ cn + (pi_R J).slots ≤ (pi_R I).slots)
    (kk : ∀ (v : Option Value) (u : S), post v u → pb_P l G M I (pc + 3) lo (cn_st v rest) (wr ++ w1 u) (ck + (pi_R J).cells) (cn + (pi_R J).slots)) : pb_P l G M I pc lo st0 ws ck cn := fun E H locs ls hP hD hS hl => by
  subst hst
  refine cn_go E hP hD hS hl isC isR hC hR hn hdis (va_runVN (As := as) (b := b) (C := (pi_y J).cls) ⟨E.1, E.2.1, E.2.2.1, E.2.2.2.1, pb_ws E⟩ (hM H.size) ⟨va_cnB nA (pb_ws E) (pb_gd hcd) (pb_hw hw) rfl rfl (va_Nw.of rfl (pb_n E hlk)) (pb_w E hini) hy hRm, pb_w E hin, pb_w E hsel⟩ ⟨cn_blind, va_recv (pb_k E) hP hc hb, cn_pre E hP hD hS isC h0 hC hC2⟩ rfl hA9 hl.1 rfl (lv_room h8) hd hf) kk

theorem pb_re {ws' : va_W} {lo' : List (Nat × Value)} (is ks : List Nat) (h1 : va_nd is = true) (h2 : is.map (fun i => ws[i]?) = ws'.map some) (h3 : is.filterMap (fun i => ws[i]?) = ws') (h4 : lv_pick lo ks = lo') (kk : pb_P l G M I pc lo' rest ws' ck cn) : pb_P l G M I pc lo rest ws ck cn := fun E H locs ls hP hD hS hl => kk E H locs ls (hP.sub is h3) (hD.sub is h1 h2) hS (lv_sub hl ks h4)
theorem pb_iincN {i : Nat} {z : Int} {x c : Int32} (hd : decode (pi_c I) pc = .ok (.iinc i z, 3)) (j : Nat) (hj : lo[j]? = some (i, .int x)) (hz : Int32.ofInt z = c) (hn : i < pi_n I) (kk : ∀ y : Int32, y = x + c → pb_P l G M I (pc + 3) ((i, Value.int y) :: lo.filter (fun q => !(q.1 == i) && !(q.1 + 1 == i && q.2.category == 2))) rest ws ck cn) : pb_P l G M I pc lo rest ws ck cn := by
  subst hz
  exact pb_iinc hd j hj rfl hn rfl (kk _ rfl)
theorem pb_gets3 {index : Nat} (hd : decode (pi_c I) pc = .ok (.getstatic index, 3)) (hlk : Cond.fieldLink (pi_y I).cls index "PackageBook$Expander" "THIRD_ORDER" "[I" ∈ uW) (kk : ∀ t : Nat, va_T .int t 19 (fun j => .int (pb_third.getD j 0)) (pm_A M) (pm_s M) (pm_s M).heap → pb_P l G M I (pc + 3) lo (.ref t :: rest) ws ck cn) : pb_P l G M I pc lo rest ws ck cn := fun E H locs ls hP hD hS hl => by
  obtain ⟨t, h1, h2⟩ := pb_z3 E
  exact va_gets E.1 E.2.1 h1 hS E.2.2.2.1 (pb_w E hlk) (fun _ h9 => h9) hd (kk t h2 E H locs ls hP hD hS hl)
theorem pb_tlen {t N : Nat} {f : Nat → Value} {ty : FieldType} {v : Int32} (hT : va_T ty t N f (pm_A M) (pm_s M) (pm_s M).heap) (hv : Int32.ofNat N = v) (hd : decode (pi_c I) pc = .ok (.arraylength, 1)) (kk : pb_P l G M I (pc + 1) lo (.int v :: rest) ws ck cn) : pb_P l G M I pc lo (.ref t :: rest) ws ck cn := fun E H locs ls hP hD hS hl => va_tlen E.1 E.2.1 hT hS hv hd (kk E H locs ls hP hD hS hl)
theorem pb_copy {a0 a n0 n1 index : Nat} {f g : Nat → Int32} {cA : ClassId} {ty : FieldType} {sp dp z : Int32} {ws' : va_W} (hd : decode (pi_c I) pc = .ok (.invokestatic index, 3)) (t0 q0 q1 : Nat) (ht : (pb_T G)[t0]? = some (cA, ty)) (hp : refKind ty = false) (ha0 : ws[q0]? = some (a0, .inl (cA, n0, .inl f))) (ha1 : ws[q1]? = some (a, .inl (cA, n1, .inl g))) (w1 : Cond.methodLink (pi_y I).cls index arraycopyName ∈ uW) (w2 : Cond.native arraycopyName ∈ uW) (w3 : Cond.static arraycopyName ∈ uW) (w4 : Cond.initialized "java/lang/System" ∈ uW) (h1 : ¬ sp < 0) (h2 : ¬ dp < 0) (h3 : ¬ z < 0) (h4 : sp.toNatClampNeg + z.toNatClampNeg ≤ n0) (h5 : dp.toNatClampNeg + z.toNatClampNeg ≤ n1) (hfit : ∀ i, i < z.toNatClampNeg → fits ty (.int (f (sp.toNatClampNeg + i))) = true) (h6 : 1 ≤ (pi_R I).frames) (h7 : (rest.map fun v => v.category).sum + (nativeFrameWords "java/lang/System" "arraycopy" 5 + 11) ≤ (pi_R I).locals) (hw : ws.set q1 (a, .inl (cA, n1, .inl (va_cpy f g sp.toNatClampNeg dp.toNatClampNeg z.toNatClampNeg))) = ws') (kk : pb_P l G M I (pc + 3) lo rest ws' ck cn) : pb_P l G M I pc lo (.int z :: .int dp :: .ref a :: .int sp :: .ref a0 :: rest) ws ck cn := by
  subst hw
  exact fun E H locs ls hP hD hS hl => va_copyi E.1 E.2.1 (E.2.2.1.trans hl.1.symm) E.2.2.2.1 (pb_w E w1) (pb_w E w2) (pb_w E w3) (pb_w E w4) (pb_k E) hP hD hS q0 q1 t0 t0 ha0 ha1 ht ht hp h1 h2 h3 h4 h5 hfit h6 h7 hd (fun H1 locs1 hP1 hD1 hS1 => kk E H1 locs1 ls hP1 hD1 hS1 hl)
end PB

/-! numbers: an Int32 by its Int -/
theorem ti_bm {z : Int} (h1 : -2147483648 ≤ z) (h2 : z < 2147483648) : z.bmod (2 ^ 32) = z := by
  simp only [Int.bmod]; split <;> omega
theorem ti_add {x y z : Int32} {a b : Int} (e : z = x + y) (hx : x.toInt = a) (hy : y.toInt = b) (h1 : -2147483648 ≤ a + b) (h2 : a + b < 2147483648) : z.toInt = a + b := by
  subst e hx hy; rw [Int32.toInt_add]; exact ti_bm h1 h2
theorem ti_sub {x y z : Int32} {a b : Int} (e : z = x - y) (hx : x.toInt = a) (hy : y.toInt = b) (h1 : -2147483648 ≤ a - b) (h2 : a - b < 2147483648) : z.toInt = a - b := by
  subst e hx hy; rw [Int32.toInt_sub]; exact ti_bm h1 h2
theorem ti_mul {x y z : Int32} {a b : Int} (e : z = x * y) (hx : x.toInt = a) (hy : y.toInt = b) (h1 : -2147483648 ≤ a * b) (h2 : a * b < 2147483648) : z.toInt = a * b := by
  subst e hx hy; rw [Int32.toInt_mul]; exact ti_bm h1 h2
theorem ti_le {x y : Int32} {a b : Int} (hx : x.toInt = a) (hy : y.toInt = b) : x ≤ y ↔ a ≤ b := by rw [Int32.le_iff_toInt_le, hx, hy]
theorem ti_lt {x y : Int32} {a b : Int} (hx : x.toInt = a) (hy : y.toInt = b) : x < y ↔ a < b := by rw [Int32.lt_iff_toInt_lt, hx, hy]
theorem ti_eq {x y : Int32} {a b : Int} (hx : x.toInt = a) (hy : y.toInt = b) : x = y ↔ a = b := by rw [← Int32.toInt_inj, hx, hy]
theorem ti_ofNat {z : Int32} {n : Nat} (e : z = Int32.ofNat n) (h : n < 2147483648) : z.toInt = (n : Int) := by subst e; exact nI_toInt h
theorem ti_clamp {x : Int32} (h : 0 ≤ x.toInt) : (x.toNatClampNeg : Int) = x.toInt := by
  show ((x.toInt.toNat : Nat) : Int) = x.toInt
  omega
theorem ti_rng (x : Int32) : -2147483648 ≤ x.toInt ∧ x.toInt < 2147483648 := ⟨Int32.le_toInt x, Int32.toInt_lt x⟩
end
section
theorem d_Row_init_0 : decode prog_9_method_1_code 0 = .ok (.aload_n 0, 1) := by decide +kernel
theorem d_Row_init_1 : decode prog_9_method_1_code 1 = .ok (.invokespecial 1, 3) := by decide +kernel
theorem k_155 : (Jvm.Cond.methodLink "PackageBook$Row" (1 : Nat) ({ cls := "java/lang/Object", name := "<init>", desc := "()V" } : Jvm.MethodName)) ∈ uW := uW_of 155 (by decide +kernel) (by decide +kernel)
theorem k_148 : (Jvm.Cond.instanceMethod ({ cls := "java/lang/Object", name := "<init>", desc := "()V" } : Jvm.MethodName)) ∈ uW := uW_of 148 (by decide +kernel) (by decide +kernel)
theorem k_149 : (Jvm.Cond.code ({ cls := "java/lang/Object", name := "<init>", desc := "()V" } : Jvm.MethodName) object_method_1_code (1 : Nat) (Option.none : Option Jvm.ClassFile.FieldType)) ∈ uW := uW_of 149 (by decide +kernel) (by decide +kernel)
theorem d_Row_init_4 : decode prog_9_method_1_code 4 = .ok (.aload_n 0, 1) := by decide +kernel
theorem d_Row_init_5 : decode prog_9_method_1_code 5 = .ok (.iload_n 1, 1) := by decide +kernel
theorem d_Row_init_6 : decode prog_9_method_1_code 6 = .ok (.newarray .byte, 2) := by decide +kernel
theorem k_172 : (Jvm.Cond.arrayClass Jvm.ClassFile.FieldType.byte) ∈ uW := uW_of 172 (by decide +kernel) (by decide +kernel)
theorem d_Row_init_8 : decode prog_9_method_1_code 8 = .ok (.putfield 7, 3) := by decide +kernel
theorem k_156 : (Jvm.Cond.fieldLink "PackageBook$Row" (7 : Nat) "PackageBook$Row" "bytes" "[B") ∈ uW := uW_of 156 (by decide +kernel) (by decide +kernel)
theorem d_Row_init_11 : decode prog_9_method_1_code 11 = .ok (.return_, 1) := by decide +kernel
abbrev y_Row_init : MethodName := ⟨"PackageBook$Row", "<init>", "(I)V"⟩
abbrev i_Row_init : pb_I := (y_Row_init, prog_9_method_1_code, 2, (Option.none : Option Jvm.ClassFile.FieldType), [], { frames := 1, cells := 1, slots := 15000, locals := 20 })
set_option maxRecDepth 100000 in
set_option maxHeartbeats 4000000 in
theorem c_Row_init {l : Launch} (hl : l.stackTraces = false) (G : pb_G) (h : Nat) (n : Int32) (N : Nat) (hn : ¬ n < 0) (hN : n.toNatClampNeg = N) (hb : N ≤ 15000) : Cn l G i_Row_init [.ref h, .int n] [(h, .inr (0, [.null, .int 0]))] (S := Nat) (fun v u => v = none) (fun u => [(h, .inr (0, [.ref u, .int 0])), (u, .inl (G.2.1, N, .inl (fun _ => 0)))]) := by
  refine Cn.of hl (by decide +kernel) rfl (Nat.le_of_ble_eq_true rfl) (fun M hQ => ?_)
  refine pb_eq (pc' := 0) (lo' := [(0, .ref h), (1, .int n)]) (rest' := []) (ws' := [(h, .inr (0, [.null, .int 0]))]) ?_
  refine pb_aload_n (pc := 0) d_Row_init_0 0 rfl rfl ?_
  refine pb_objInit (pc := 1) d_Row_init_1 k_155 k_148 k_149 (by decide) (Nat.le_of_ble_eq_true rfl) ?_
  refine pb_aload_n (pc := 4) d_Row_init_4 0 rfl rfl ?_
  refine pb_iload_n (pc := 5) d_Row_init_5 1 rfl rfl ?_
  refine pb_newb (pc := 6) (N := N) d_Row_init_6 k_172 hn hN (by rw [show componentBytes .byte = 1 from rfl]; omega) (by decide) (by show 0 + N ≤ 15000; omega) (fun q1 => ?_)
  refine pb_widen (k' := 1) (n' := 15000) (by decide) (by omega) ?_
  refine pb_eq (pc' := 8) (lo' := [(0, .ref h), (1, .int n)]) (rest' := [.ref q1, .ref h]) (ws' := [(h, .inr (0, [.null, .int 0])), (q1, .inl (G.2.1, N, .inl (fun _ => 0)))]) ?_
  refine pb_putF (pc := 8) (ty := (.array .byte)) (ws' := [(h, .inr (0, [.ref q1, .int 0])), (q1, .inl (G.2.1, N, .inl (fun _ => 0)))]) d_Row_init_8 0 0 t_Row t_Row_ok n_Row rfl rfl (by decide) in_Row k_156 rfl rfl rfl (by decide +kernel) rfl rfl (Nat.le_of_ble_eq_true rfl) rfl ?_
  exact pb_vret (pc := 11) hQ d_Row_init_11 rfl (q1) rfl [0, 1] (by decide) rfl rfl (by decide) (by decide)
end
section
/-! counting how many of a row's numbers are 1 .. m-1, or m -/
def cd_n (f : Nat → Int32) (o : Nat) (m : Int) : Nat → Nat
  | 0 => 0
  | k + 1 => cd_n f o m k + (if 1 ≤ (f (o + k)).toInt ∧ (f (o + k)).toInt < m then 1 else 0)
def cd_e (f : Nat → Int32) (o : Nat) (m : Int) : Nat → Nat
  | 0 => 0
  | k + 1 => cd_e f o m k + (if (f (o + k)).toInt = m then 1 else 0)
theorem cd_le (f : Nat → Int32) (o : Nat) (m : Int) : ∀ k, cd_n f o m k ≤ k
  | 0 => Nat.le_refl _
  | k + 1 => by
    have h := cd_le f o m k
    simp only [cd_n]
    split <;> omega
theorem cd_one (f : Nat → Int32) (o : Nat) : ∀ k, cd_n f o 1 k = 0
  | 0 => rfl
  | k + 1 => by
    simp only [cd_n, cd_one f o k]
    split <;> omega
theorem cd_sum (f : Nat → Int32) (o : Nat) {m : Int} (hm : 1 ≤ m) : ∀ k, cd_n f o m k + cd_e f o m k = cd_n f o (m + 1) k
  | 0 => rfl
  | k + 1 => by
    have h := cd_sum f o hm k
    simp only [cd_n, cd_e]
    split <;> split <;> split <;> omega
theorem cd_mono (f : Nat → Int32) (o : Nat) (m : Int) (j : Nat) : ∀ k, j ≤ k → cd_e f o m j ≤ cd_e f o m k
  | 0, h => by
    obtain rfl : j = 0 := by omega
    exact Nat.le_refl _
  | k + 1, h => by
    by_cases e : j = k + 1
    · subst e; exact Nat.le_refl _
    · have h1 := cd_mono f o m j k (by omega)
      simp only [cd_e]
      omega
theorem cd_room (f : Nat → Int32) (o : Nat) {m : Int} (hm : 1 ≤ m) {j k : Nat} (hj : j < k) (he : (f (o + j)).toInt = m) : cd_n f o m k + cd_e f o m j < k := by
  have h1 := cd_mono f o m (j + 1) k hj
  have h2 := cd_sum f o hm k
  have h3 := cd_le f o (m + 1) k
  simp only [cd_e] at h1
  rw [if_pos he] at h1
  omega

theorem d_Code_init_0 : decode prog_2_method_1_code 0 = .ok (.aload_n 0, 1) := by decide +kernel
theorem d_Code_init_1 : decode prog_2_method_1_code 1 = .ok (.invokespecial 1, 3) := by decide +kernel
theorem k_225 : (Jvm.Cond.methodLink "PackageBook$Code" (1 : Nat) ({ cls := "java/lang/Object", name := "<init>", desc := "()V" } : Jvm.MethodName)) ∈ uW := uW_of 225 (by decide +kernel) (by decide +kernel)
theorem d_Code_init_4 : decode prog_2_method_1_code 4 = .ok (.aload_n 0, 1) := by decide +kernel
theorem d_Code_init_5 : decode prog_2_method_1_code 5 = .ok (.bipush 16, 2) := by decide +kernel
theorem d_Code_init_7 : decode prog_2_method_1_code 7 = .ok (.newarray .int, 2) := by decide +kernel
theorem k_211 : (Jvm.Cond.arrayClass Jvm.ClassFile.FieldType.int) ∈ uW := uW_of 211 (by decide +kernel) (by decide +kernel)
theorem d_Code_init_9 : decode prog_2_method_1_code 9 = .ok (.putfield 9, 3) := by decide +kernel
theorem k_226 : (Jvm.Cond.fieldLink "PackageBook$Code" (9 : Nat) "PackageBook$Code" "counts" "[I") ∈ uW := uW_of 226 (by decide +kernel) (by decide +kernel)
theorem d_Code_init_12 : decode prog_2_method_1_code 12 = .ok (.aload_n 0, 1) := by decide +kernel
theorem d_Code_init_13 : decode prog_2_method_1_code 13 = .ok (.iload_n 1, 1) := by decide +kernel
theorem d_Code_init_14 : decode prog_2_method_1_code 14 = .ok (.newarray .int, 2) := by decide +kernel
theorem d_Code_init_16 : decode prog_2_method_1_code 16 = .ok (.putfield 13, 3) := by decide +kernel
theorem k_228 : (Jvm.Cond.fieldLink "PackageBook$Code" (13 : Nat) "PackageBook$Code" "symbols" "[I") ∈ uW := uW_of 228 (by decide +kernel) (by decide +kernel)
theorem d_Code_init_19 : decode prog_2_method_1_code 19 = .ok (.return_, 1) := by decide +kernel
abbrev y_Code_init : MethodName := ⟨"PackageBook$Code", "<init>", "(I)V"⟩
abbrev i_Code_init : pb_I := (y_Code_init, prog_2_method_1_code, 2, (Option.none : Option Jvm.ClassFile.FieldType), [], { frames := 1, cells := 2, slots := 316, locals := 20 })
set_option maxRecDepth 100000 in
set_option maxHeartbeats 4000000 in
theorem c_Code_init {l : Launch} (hl : l.stackTraces = false) (G : pb_G) (h : Nat) (n : Int32) (N : Nat) (hn : ¬ n < 0) (hN : n.toNatClampNeg = N) (hb : N ≤ 300) : Cn l G i_Code_init [.ref h, .int n] [(h, .inr (1, [.null, .null, .int 0]))] (S := Nat × Nat) (fun v u => v = none) (fun u => [(h, .inr (1, [.ref u.1, .ref u.2, .int 0])), (u.1, .inl (G.2.2.1, 16, .inl (fun _ => 0))), (u.2, .inl (G.2.2.1, N, .inl (fun _ => 0)))]) := by
  refine Cn.of hl (by decide +kernel) rfl (Nat.le_of_ble_eq_true rfl) (fun M hQ => ?_)
  refine pb_eq (pc' := 0) (lo' := [(0, .ref h), (1, .int n)]) (rest' := []) (ws' := [(h, .inr (1, [.null, .null, .int 0]))]) ?_
  refine pb_aload_n (pc := 0) d_Code_init_0 0 rfl rfl ?_
  refine pb_objInit (pc := 1) d_Code_init_1 k_225 k_148 k_149 (by decide) (Nat.le_of_ble_eq_true rfl) ?_
  refine pb_aload_n (pc := 4) d_Code_init_4 0 rfl rfl ?_
  refine pb_bipush (pc := 5) (v := 16) d_Code_init_5 (by decide) ?_
  refine pb_newi (pc := 7) (N := 16) d_Code_init_7 k_211 (by decide) (by decide) (by decide) (by decide) (by decide) (fun q1 => ?_)
  refine pb_eq (pc' := 9) (lo' := [(0, .ref h), (1, .int n)]) (rest' := [.ref q1, .ref h]) (ws' := [(h, .inr (1, [.null, .null, .int 0])), (q1, .inl (G.2.2.1, 16, .inl (fun _ => 0)))]) ?_
  refine pb_putF (pc := 9) (ty := (.array .int)) (ws' := [(h, .inr (1, [.ref q1, .null, .int 0])), (q1, .inl (G.2.2.1, 16, .inl (fun _ => 0)))]) d_Code_init_9 0 0 t_Code t_Code_ok n_Code rfl rfl (by decide) in_Code k_226 rfl rfl rfl (by decide +kernel) rfl rfl (Nat.le_of_ble_eq_true rfl) rfl ?_
  refine pb_aload_n (pc := 12) d_Code_init_12 0 rfl rfl ?_
  refine pb_iload_n (pc := 13) d_Code_init_13 1 rfl rfl ?_
  refine pb_newi (pc := 14) (N := N) d_Code_init_14 k_211 hn hN (by rw [show componentBytes .int = 4 from rfl]; omega) (by decide) (by show 16 + N ≤ 316; omega) (fun q2 => ?_)
  refine pb_widen (k' := 2) (n' := 316) (by decide) (by omega) ?_
  refine pb_eq (pc' := 16) (lo' := [(0, .ref h), (1, .int n)]) (rest' := [.ref q2, .ref h]) (ws' := [(h, .inr (1, [.ref q1, .null, .int 0])), (q1, .inl (G.2.2.1, 16, .inl (fun _ => 0))), (q2, .inl (G.2.2.1, N, .inl (fun _ => 0)))]) ?_
  refine pb_putF (pc := 16) (ty := (.array .int)) (ws' := [(h, .inr (1, [.ref q1, .ref q2, .int 0])), (q1, .inl (G.2.2.1, 16, .inl (fun _ => 0))), (q2, .inl (G.2.2.1, N, .inl (fun _ => 0)))]) d_Code_init_16 0 1 t_Code t_Code_ok n_Code rfl rfl (by decide) in_Code k_228 rfl rfl rfl (by decide +kernel) rfl rfl (Nat.le_of_ble_eq_true rfl) rfl ?_
  exact pb_vret (pc := 19) hQ d_Code_init_19 rfl (q1, q2) rfl [0, 1, 2] (by decide) rfl rfl (by decide) (by decide)

theorem d_Code_tell_0 : decode prog_2_method_2_code 0 = .ok (.aload_n 0, 1) := by decide +kernel
theorem d_Code_tell_1 : decode prog_2_method_2_code 1 = .ok (.iconst 0, 1) := by decide +kernel
theorem d_Code_tell_2 : decode prog_2_method_2_code 2 = .ok (.putfield 16, 3) := by decide +kernel
theorem k_230 : (Jvm.Cond.fieldLink "PackageBook$Code" (16 : Nat) "PackageBook$Code" "size" "I") ∈ uW := uW_of 230 (by decide +kernel) (by decide +kernel)
theorem d_Code_tell_5 : decode prog_2_method_2_code 5 = .ok (.aload_n 0, 1) := by decide +kernel
theorem d_Code_tell_6 : decode prog_2_method_2_code 6 = .ok (.getfield 9, 3) := by decide +kernel
theorem d_Code_tell_9 : decode prog_2_method_2_code 9 = .ok (.iconst 0, 1) := by decide +kernel
theorem d_Code_tell_10 : decode prog_2_method_2_code 10 = .ok (.iconst 0, 1) := by decide +kernel
theorem d_Code_tell_11 : decode prog_2_method_2_code 11 = .ok (.iastore, 1) := by decide +kernel
theorem d_Code_tell_12 : decode prog_2_method_2_code 12 = .ok (.iconst 1, 1) := by decide +kernel
theorem d_Code_tell_13 : decode prog_2_method_2_code 13 = .ok (.istore 4, 2) := by decide +kernel
theorem d_Code_tell_15 : decode prog_2_method_2_code 15 = .ok (.iload 4, 2) := by decide +kernel
theorem d_Code_tell_17 : decode prog_2_method_2_code 17 = .ok (.bipush 15, 2) := by decide +kernel
theorem d_Code_tell_19 : decode prog_2_method_2_code 19 = .ok (.if_icmp .gt 76, 3) := by decide +kernel
theorem d_Code_tell_95 : decode prog_2_method_2_code 95 = .ok (.return_, 1) := by decide +kernel
theorem d_Code_tell_22 : decode prog_2_method_2_code 22 = .ok (.aload_n 0, 1) := by decide +kernel
theorem d_Code_tell_23 : decode prog_2_method_2_code 23 = .ok (.getfield 16, 3) := by decide +kernel
theorem d_Code_tell_26 : decode prog_2_method_2_code 26 = .ok (.istore 5, 2) := by decide +kernel
theorem d_Code_tell_28 : decode prog_2_method_2_code 28 = .ok (.iconst 0, 1) := by decide +kernel
theorem d_Code_tell_29 : decode prog_2_method_2_code 29 = .ok (.istore 6, 2) := by decide +kernel
theorem d_Code_tell_31 : decode prog_2_method_2_code 31 = .ok (.iload 6, 2) := by decide +kernel
theorem d_Code_tell_33 : decode prog_2_method_2_code 33 = .ok (.iload_n 3, 1) := by decide +kernel
theorem d_Code_tell_34 : decode prog_2_method_2_code 34 = .ok (.if_icmp .ge 41, 3) := by decide +kernel
theorem d_Code_tell_75 : decode prog_2_method_2_code 75 = .ok (.aload_n 0, 1) := by decide +kernel
theorem d_Code_tell_76 : decode prog_2_method_2_code 76 = .ok (.getfield 9, 3) := by decide +kernel
theorem d_Code_tell_79 : decode prog_2_method_2_code 79 = .ok (.iload 4, 2) := by decide +kernel
theorem d_Code_tell_81 : decode prog_2_method_2_code 81 = .ok (.aload_n 0, 1) := by decide +kernel
theorem d_Code_tell_82 : decode prog_2_method_2_code 82 = .ok (.getfield 16, 3) := by decide +kernel
theorem d_Code_tell_85 : decode prog_2_method_2_code 85 = .ok (.iload 5, 2) := by decide +kernel
theorem d_Code_tell_87 : decode prog_2_method_2_code 87 = .ok (.isub, 1) := by decide +kernel
theorem d_Code_tell_88 : decode prog_2_method_2_code 88 = .ok (.iastore, 1) := by decide +kernel
theorem d_Code_tell_89 : decode prog_2_method_2_code 89 = .ok (.iinc 4 1, 3) := by decide +kernel
theorem d_Code_tell_92 : decode prog_2_method_2_code 92 = .ok (.goto (-77), 3) := by decide +kernel
theorem d_Code_tell_37 : decode prog_2_method_2_code 37 = .ok (.aload_n 1, 1) := by decide +kernel
theorem d_Code_tell_38 : decode prog_2_method_2_code 38 = .ok (.iload_n 2, 1) := by decide +kernel
theorem d_Code_tell_39 : decode prog_2_method_2_code 39 = .ok (.iload 6, 2) := by decide +kernel
theorem d_Code_tell_41 : decode prog_2_method_2_code 41 = .ok (.iadd, 1) := by decide +kernel
theorem d_Code_tell_42 : decode prog_2_method_2_code 42 = .ok (.iaload, 1) := by decide +kernel
theorem d_Code_tell_43 : decode prog_2_method_2_code 43 = .ok (.iload 4, 2) := by decide +kernel
theorem d_Code_tell_45 : decode prog_2_method_2_code 45 = .ok (.if_icmp .ne 24, 3) := by decide +kernel
theorem d_Code_tell_69 : decode prog_2_method_2_code 69 = .ok (.iinc 6 1, 3) := by decide +kernel
theorem d_Code_tell_72 : decode prog_2_method_2_code 72 = .ok (.goto (-41), 3) := by decide +kernel
theorem d_Code_tell_48 : decode prog_2_method_2_code 48 = .ok (.aload_n 0, 1) := by decide +kernel
theorem d_Code_tell_49 : decode prog_2_method_2_code 49 = .ok (.getfield 13, 3) := by decide +kernel
theorem d_Code_tell_52 : decode prog_2_method_2_code 52 = .ok (.aload_n 0, 1) := by decide +kernel
theorem d_Code_tell_53 : decode prog_2_method_2_code 53 = .ok (.getfield 16, 3) := by decide +kernel
theorem d_Code_tell_56 : decode prog_2_method_2_code 56 = .ok (.iload 6, 2) := by decide +kernel
theorem d_Code_tell_58 : decode prog_2_method_2_code 58 = .ok (.iastore, 1) := by decide +kernel
theorem d_Code_tell_59 : decode prog_2_method_2_code 59 = .ok (.aload_n 0, 1) := by decide +kernel
theorem d_Code_tell_60 : decode prog_2_method_2_code 60 = .ok (.dup, 1) := by decide +kernel
theorem d_Code_tell_61 : decode prog_2_method_2_code 61 = .ok (.getfield 16, 3) := by decide +kernel
theorem d_Code_tell_64 : decode prog_2_method_2_code 64 = .ok (.iconst 1, 1) := by decide +kernel
theorem d_Code_tell_65 : decode prog_2_method_2_code 65 = .ok (.iadd, 1) := by decide +kernel
theorem d_Code_tell_66 : decode prog_2_method_2_code 66 = .ok (.putfield 16, 3) := by decide +kernel
abbrev y_Code_tell : MethodName := ⟨"PackageBook$Code", "tell", "([III)V"⟩
abbrev i_Code_tell : pb_I := (y_Code_tell, prog_2_method_2_code, 7, (Option.none : Option Jvm.ClassFile.FieldType), [], { frames := 0, cells := 0, slots := 0, locals := 0 })
set_option maxRecDepth 100000 in
set_option maxHeartbeats 4000000 in
theorem c_Code_tell {l : Launch} (hl : l.stackTraces = false) (G : pb_G) (h : Nat) (c : Nat) (y : Nat) (b : Nat) (sz : Int32) (fc : Nat → Int32) (fy : Nat → Int32) (fb : Nat → Int32) (Ny : Nat) (Nb : Nat) (from_ : Int32) (n : Int32) (h0 : 0 ≤ from_.toInt) (h1 : 0 ≤ n.toInt) (h2 : from_.toInt + n.toInt ≤ Nb) (h3 : n.toInt ≤ Ny) (h4 : Nb ≤ 100000) (h5 : Ny ≤ 100000) : Cn l G i_Code_tell [.ref h, .ref b, .int from_, .int n] [(h, .inr (1, [.ref c, .ref y, .int sz])), (c, .inl (G.2.2.1, 16, .inl fc)), (y, .inl (G.2.2.1, Ny, .inl fy)), (b, .inl (G.2.2.1, Nb, .inl fb))] (S := Int32 × (Nat → Int32) × (Nat → Int32)) (fun v u => v = none) (fun u => [(h, .inr (1, [.ref c, .ref y, .int u.1])), (c, .inl (G.2.2.1, 16, .inl u.2.1)), (y, .inl (G.2.2.1, Ny, .inl u.2.2)), (b, .inl (G.2.2.1, Nb, .inl fb))]) := by
  refine Cn.of hl (by decide +kernel) rfl (Nat.le_of_ble_eq_true rfl) (fun M hQ => ?_)
  refine pb_eq (pc' := 0) (lo' := [(0, .ref h), (1, .ref b), (2, .int from_), (3, .int n)]) (rest' := []) (ws' := [(h, .inr (1, [.ref c, .ref y, .int sz])), (c, .inl (G.2.2.1, 16, .inl fc)), (y, .inl (G.2.2.1, Ny, .inl fy)), (b, .inl (G.2.2.1, Nb, .inl fb))]) ?_
  have z0 : (0 : Int32).toInt = 0 := by decide
  have z1 : (1 : Int32).toInt = 1 := by decide
  have z2 : (0 : Int32).toNatClampNeg = 0 := by decide
  have c1 := ti_clamp h0
  have c4 := ti_clamp h1
  refine pb_aload_n (pc := 0) d_Code_tell_0 0 rfl rfl ?_
  refine pb_iconst (pc := 1) (v := 0) d_Code_tell_1 (by decide) ?_
  refine pb_put (pc := 2) (ty := .int) (ws' := [(h, .inr (1, [.ref c, .ref y, .int 0])), (c, .inl (G.2.2.1, 16, .inl fc)), (y, .inl (G.2.2.1, Ny, .inl fy)), (b, .inl (G.2.2.1, Nb, .inl fb))]) d_Code_tell_2 0 2 t_Code t_Code_ok n_Code rfl rfl (by decide) in_Code k_230 rfl (by decide +kernel) rfl rfl (Nat.le_of_ble_eq_true rfl) rfl ?_
  refine pb_aload_n (pc := 5) d_Code_tell_5 0 rfl rfl ?_
  refine pb_get (pc := 6) d_Code_tell_6 0 0 rfl rfl (by decide) in_Code k_226 rfl ?_
  refine pb_iconst (pc := 9) (v := 0) d_Code_tell_9 (by decide) ?_
  refine pb_iconst (pc := 10) (v := 0) d_Code_tell_10 (by decide) ?_
  refine pb_iast (pc := 11) (ws' := [(h, .inr (1, [.ref c, .ref y, .int 0])), (c, .inl (G.2.2.1, 16, .inl (upd fc ((0 : Int32).toNatClampNeg) 0))), (y, .inl (G.2.2.1, Ny, .inl fy)), (b, .inl (G.2.2.1, Nb, .inl fb))]) d_Code_tell_11 1 rfl (by unfold vp_in; decide) rfl ?_
  refine pb_iconst (pc := 12) (v := 1) d_Code_tell_12 (by decide) ?_
  refine pb_istore (pc := 13) (lo' := [(4, .int 1), (0, .ref h), (1, .ref b), (2, .int from_), (3, .int n)]) d_Code_tell_13 (by decide) rfl ?_
  have hL15 : ∀ (N9 : Nat) (m : Int32) (s1 : Int32) (g1 : Nat → Int32) (g2 : Nat → Int32), (1 ≤ m.toInt) → (m.toInt ≤ 16) → (s1.toInt = (cd_n fb from_.toNatClampNeg m.toInt n.toNatClampNeg : Int)) → ((16 - m.toInt).toNat) < N9 → pb_P l G M i_Code_tell 15 [(4, .int m), (0, .ref h), (1, .ref b), (2, .int from_), (3, .int n)] [] [(h, .inr (1, [.ref c, .ref y, .int s1])), (c, .inl (G.2.2.1, 16, .inl g1)), (y, .inl (G.2.2.1, Ny, .inl g2)), (b, .inl (G.2.2.1, Nb, .inl fb))] 0 0 := by
    intro N9
    induction N9 with
    | zero => intro m s1 g1 g2 hm1 hm2 hs hm9; exact absurd hm9 (Nat.not_lt_zero _)
    | succ N9 ih15 =>
      intro m s1 g1 g2 hm1 hm2 hs hm9
      refine pb_iload (pc := 15) d_Code_tell_15 0 rfl ?_
      refine pb_bipush (pc := 17) (v := 15) d_Code_tell_17 (by decide) ?_
      refine pb_icmp_gt (pc := 19) (tgt := 95) d_Code_tell_19 (by decide) (fun w1 => ?_) (fun w1 => ?_)
      · have tw1 : 15 < m.toInt := (ti_lt (by decide) rfl).mp w1
        exact pb_vret (pc := 95) hQ d_Code_tell_95 rfl (s1, g1, g2) rfl [0, 1, 2, 3] (by decide) rfl rfl (by decide) (by decide)
      · have tw1 : ¬ 15 < m.toInt := fun z9 => w1 ((ti_lt (by decide) rfl).mpr z9)
        refine pb_aload_n (pc := 22) d_Code_tell_22 1 rfl rfl ?_
        refine pb_get (pc := 23) d_Code_tell_23 0 2 rfl rfl (by decide) in_Code k_230 rfl ?_
        refine pb_istore (pc := 26) (lo' := [(5, .int s1), (4, .int m), (0, .ref h), (1, .ref b), (2, .int from_), (3, .int n)]) d_Code_tell_26 (by decide) rfl ?_
        refine pb_iconst (pc := 28) (v := 0) d_Code_tell_28 (by decide) ?_
        refine pb_istore (pc := 29) (lo' := [(6, .int 0), (5, .int s1), (4, .int m), (0, .ref h), (1, .ref b), (2, .int from_), (3, .int n)]) d_Code_tell_29 (by decide) rfl ?_
        have hL31 : ∀ (N9 : Nat) (k : Int32) (s3 : Int32) (g4 : Nat → Int32), (0 ≤ k.toInt) → (k.toInt ≤ n.toInt) → (s3.toInt = (cd_n fb from_.toNatClampNeg m.toInt n.toNatClampNeg : Int) + (cd_e fb from_.toNatClampNeg m.toInt k.toNatClampNeg : Int)) → ((n.toInt - k.toInt).toNat) < N9 → pb_P l G M i_Code_tell 31 [(6, .int k), (5, .int s1), (4, .int m), (0, .ref h), (1, .ref b), (2, .int from_), (3, .int n)] [] [(h, .inr (1, [.ref c, .ref y, .int s3])), (c, .inl (G.2.2.1, 16, .inl g1)), (y, .inl (G.2.2.1, Ny, .inl g4)), (b, .inl (G.2.2.1, Nb, .inl fb))] 0 0 := by
          intro N9
          induction N9 with
          | zero => intro k s3 g4 hk hk2 hs3 hm9; exact absurd hm9 (Nat.not_lt_zero _)
          | succ N9 ih31 =>
            intro k s3 g4 hk hk2 hs3 hm9
            refine pb_iload (pc := 31) d_Code_tell_31 0 rfl ?_
            refine pb_iload_n (pc := 33) d_Code_tell_33 6 rfl rfl ?_
            refine pb_icmp_ge (pc := 34) (tgt := 75) d_Code_tell_34 (by decide) (fun w2 => ?_) (fun w2 => ?_)
            · have tw2 : n.toInt ≤ k.toInt := (ti_le rfl rfl).mp w2
              have c2 := ti_clamp hk
              have hx := cd_sum fb from_.toNatClampNeg hm1 n.toNatClampNeg
              have hkn : k.toNatClampNeg = n.toNatClampNeg := by omega
              rw [hkn] at hs3
              have hle := cd_le fb from_.toNatClampNeg m.toInt n.toNatClampNeg
              have hle2 := cd_le fb from_.toNatClampNeg (m.toInt + 1) n.toNatClampNeg
              refine pb_aload_n (pc := 75) d_Code_tell_75 3 rfl rfl ?_
              refine pb_get (pc := 76) d_Code_tell_76 0 0 rfl rfl (by decide) in_Code k_226 rfl ?_
              refine pb_iload (pc := 79) d_Code_tell_79 2 rfl ?_
              refine pb_aload_n (pc := 81) d_Code_tell_81 3 rfl rfl ?_
              refine pb_get (pc := 82) d_Code_tell_82 0 2 rfl rfl (by decide) in_Code k_230 rfl ?_
              refine pb_iload (pc := 85) d_Code_tell_85 1 rfl ?_
              refine pb_isub (pc := 87) d_Code_tell_87 ?_
              refine pb_topi (fun i3 ei3 => ?_)
              have ti3 : i3.toInt = s3.toInt - s1.toInt := ti_sub ei3 rfl rfl (by omega) (by omega)
              refine pb_iast (pc := 88) (ws' := [(h, .inr (1, [.ref c, .ref y, .int s3])), (c, .inl (G.2.2.1, 16, .inl (upd g1 ((m : Int32).toNatClampNeg) i3))), (y, .inl (G.2.2.1, Ny, .inl g4)), (b, .inl (G.2.2.1, Nb, .inl fb))]) d_Code_tell_88 1 rfl (vp_in_iff.mpr (by constructor <;> omega)) rfl ?_
              refine pb_iincN (pc := 89) (c := 1) d_Code_tell_89 2 rfl (by decide) (by decide) (fun i4 ei4 => ?_)
              have ti4 : i4.toInt = m.toInt + 1 := ti_add ei4 rfl (by decide) (by omega) (by omega)
              refine pb_eq (pc' := 92) (lo' := [(4, .int i4), (6, .int k), (5, .int s1), (0, .ref h), (1, .ref b), (2, .int from_), (3, .int n)]) (rest' := []) (ws' := [(h, .inr (1, [.ref c, .ref y, .int s3])), (c, .inl (G.2.2.1, 16, .inl (upd g1 ((m : Int32).toNatClampNeg) i3))), (y, .inl (G.2.2.1, Ny, .inl g4)), (b, .inl (G.2.2.1, Nb, .inl fb))]) ?_
              refine pb_goto (pc := 92) (tgt := 15) d_Code_tell_92 (by decide) ?_
              refine pb_re (ws' := [(h, .inr (1, [.ref c, .ref y, .int s3])), (c, .inl (G.2.2.1, 16, .inl (upd g1 ((m : Int32).toNatClampNeg) i3))), (y, .inl (G.2.2.1, Ny, .inl g4)), (b, .inl (G.2.2.1, Nb, .inl fb))]) (lo' := [(4, .int i4), (0, .ref h), (1, .ref b), (2, .int from_), (3, .int n)]) [0, 1, 2, 3] [0, 3, 4, 5, 6] (by decide) rfl rfl rfl ?_
              exact ih15 i4 s3 (upd g1 ((m : Int32).toNatClampNeg) i3) g4 (by omega) (by omega) (by rw [show i4.toInt = m.toInt + 1 by omega]; omega) (by omega)
            · have tw2 : ¬ n.toInt ≤ k.toInt := fun z9 => w2 ((ti_le rfl rfl).mpr z9)
              refine pb_aload_n (pc := 37) d_Code_tell_37 4 rfl rfl ?_
              refine pb_iload_n (pc := 38) d_Code_tell_38 5 rfl rfl ?_
              refine pb_iload (pc := 39) d_Code_tell_39 0 rfl ?_
              refine pb_iadd (pc := 41) d_Code_tell_41 ?_
              refine pb_topi (fun i5 ei5 => ?_)
              have ti5 : i5.toInt = from_.toInt + k.toInt := ti_add ei5 rfl rfl (by omega) (by omega)
              refine pb_iald (pc := 42) d_Code_tell_42 3 rfl (vp_in_iff.mpr (by constructor <;> omega)) ?_
              refine pb_topi (fun i6 ei6 => ?_)
              refine pb_iload (pc := 43) d_Code_tell_43 2 rfl ?_
              have c2 := ti_clamp hk
              have hBB : (fb (from_.toNatClampNeg + k.toNatClampNeg)).toInt = i6.toInt := by rw [ei6, show from_.toNatClampNeg + k.toNatClampNeg = i5.toNatClampNeg by have := ti_clamp (x := i5) (by omega); omega]
              refine pb_icmp_ne (pc := 45) (tgt := 69) d_Code_tell_45 (by decide) (fun w7 => ?_) (fun w7 => ?_)
              · have tw7 : ¬ i6.toInt = m.toInt := fun z9 => w7 ((ti_eq rfl rfl).mpr z9)
                refine pb_iincN (pc := 69) (c := 1) d_Code_tell_69 0 rfl (by decide) (by decide) (fun i8 ei8 => ?_)
                have ti8 : i8.toInt = k.toInt + 1 := ti_add ei8 rfl (by decide) (by omega) (by omega)
                refine pb_eq (pc' := 72) (lo' := [(6, .int i8), (5, .int s1), (4, .int m), (0, .ref h), (1, .ref b), (2, .int from_), (3, .int n)]) (rest' := []) (ws' := [(h, .inr (1, [.ref c, .ref y, .int s3])), (c, .inl (G.2.2.1, 16, .inl g1)), (y, .inl (G.2.2.1, Ny, .inl g4)), (b, .inl (G.2.2.1, Nb, .inl fb))]) ?_
                refine pb_goto (pc := 72) (tgt := 31) d_Code_tell_72 (by decide) ?_
                exact ih31 i8 s3 g4 (by omega) (by omega) (by rw [show i8.toNatClampNeg = k.toNatClampNeg + 1 by have := ti_clamp (x := i8) (by omega); omega]; simp only [cd_e]; split <;> omega) (by omega)
              · have tw7 : i6.toInt = m.toInt := (ti_eq rfl rfl).mp w7
                have hR := cd_room fb from_.toNatClampNeg hm1 (j := k.toNatClampNeg) (k := n.toNatClampNeg) (by omega) (by omega)
                refine pb_aload_n (pc := 48) d_Code_tell_48 3 rfl rfl ?_
                refine pb_get (pc := 49) d_Code_tell_49 0 1 rfl rfl (by decide) in_Code k_228 rfl ?_
                refine pb_aload_n (pc := 52) d_Code_tell_52 3 rfl rfl ?_
                refine pb_get (pc := 53) d_Code_tell_53 0 2 rfl rfl (by decide) in_Code k_230 rfl ?_
                refine pb_iload (pc := 56) d_Code_tell_56 0 rfl ?_
                refine pb_iast (pc := 58) (ws' := [(h, .inr (1, [.ref c, .ref y, .int s3])), (c, .inl (G.2.2.1, 16, .inl g1)), (y, .inl (G.2.2.1, Ny, .inl (upd g4 ((s3 : Int32).toNatClampNeg) k))), (b, .inl (G.2.2.1, Nb, .inl fb))]) d_Code_tell_58 2 rfl (vp_in_iff.mpr (by constructor <;> omega)) rfl ?_
                refine pb_aload_n (pc := 59) d_Code_tell_59 3 rfl rfl ?_
                refine pb_dup (pc := 60) d_Code_tell_60 rfl ?_
                refine pb_get (pc := 61) d_Code_tell_61 0 2 rfl rfl (by decide) in_Code k_230 rfl ?_
                refine pb_iconst (pc := 64) (v := 1) d_Code_tell_64 (by decide) ?_
                refine pb_iadd (pc := 65) d_Code_tell_65 ?_
                refine pb_topi (fun i9 ei9 => ?_)
                have ti9 : i9.toInt = s3.toInt + 1 := ti_add ei9 rfl (by decide) (by omega) (by omega)
                refine pb_put (pc := 66) (ty := .int) (ws' := [(h, .inr (1, [.ref c, .ref y, .int i9])), (c, .inl (G.2.2.1, 16, .inl g1)), (y, .inl (G.2.2.1, Ny, .inl (upd g4 ((s3 : Int32).toNatClampNeg) k))), (b, .inl (G.2.2.1, Nb, .inl fb))]) d_Code_tell_66 0 2 t_Code t_Code_ok n_Code rfl rfl (by decide) in_Code k_230 rfl (by decide +kernel) rfl rfl (Nat.le_of_ble_eq_true rfl) rfl ?_
                refine pb_iincN (pc := 69) (c := 1) d_Code_tell_69 0 rfl (by decide) (by decide) (fun i10 ei10 => ?_)
                have ti10 : i10.toInt = k.toInt + 1 := ti_add ei10 rfl (by decide) (by omega) (by omega)
                refine pb_eq (pc' := 72) (lo' := [(6, .int i10), (5, .int s1), (4, .int m), (0, .ref h), (1, .ref b), (2, .int from_), (3, .int n)]) (rest' := []) (ws' := [(h, .inr (1, [.ref c, .ref y, .int i9])), (c, .inl (G.2.2.1, 16, .inl g1)), (y, .inl (G.2.2.1, Ny, .inl (upd g4 ((s3 : Int32).toNatClampNeg) k))), (b, .inl (G.2.2.1, Nb, .inl fb))]) ?_
                refine pb_goto (pc := 72) (tgt := 31) d_Code_tell_72 (by decide) ?_
                exact ih31 i10 i9 (upd g4 ((s3 : Int32).toNatClampNeg) k) (by omega) (by omega) (by rw [show i10.toNatClampNeg = k.toNatClampNeg + 1 by have := ti_clamp (x := i10) (by omega); omega]; simp only [cd_e]; split <;> omega) (by omega)
        exact hL31 _ 0 s1 g2 (by omega) (by omega) (by rw [z2]; simp only [cd_e]; omega) (Nat.lt_succ_self _)
  exact hL15 _ 1 0 (upd fc ((0 : Int32).toNatClampNeg) 0) fy (by omega) (by omega) (by rw [z0, z1, cd_one]; rfl) (Nat.lt_succ_self _)

theorem d_Expander_setAll_0 : decode prog_3_method_2_code 0 = .ok (.iload_n 1, 1) := by decide +kernel
theorem d_Expander_setAll_1 : decode prog_3_method_2_code 1 = .ok (.istore 4, 2) := by decide +kernel
theorem d_Expander_setAll_3 : decode prog_3_method_2_code 3 = .ok (.iload 4, 2) := by decide +kernel
theorem d_Expander_setAll_5 : decode prog_3_method_2_code 5 = .ok (.iload_n 2, 1) := by decide +kernel
theorem d_Expander_setAll_6 : decode prog_3_method_2_code 6 = .ok (.if_icmp .ge 14, 3) := by decide +kernel
theorem d_Expander_setAll_20 : decode prog_3_method_2_code 20 = .ok (.return_, 1) := by decide +kernel
theorem d_Expander_setAll_9 : decode prog_3_method_2_code 9 = .ok (.aload_n 0, 1) := by decide +kernel
theorem d_Expander_setAll_10 : decode prog_3_method_2_code 10 = .ok (.iload 4, 2) := by decide +kernel
theorem d_Expander_setAll_12 : decode prog_3_method_2_code 12 = .ok (.iload_n 3, 1) := by decide +kernel
theorem d_Expander_setAll_13 : decode prog_3_method_2_code 13 = .ok (.iastore, 1) := by decide +kernel
theorem d_Expander_setAll_14 : decode prog_3_method_2_code 14 = .ok (.iinc 4 1, 3) := by decide +kernel
theorem d_Expander_setAll_17 : decode prog_3_method_2_code 17 = .ok (.goto (-14), 3) := by decide +kernel
abbrev y_Expander_setAll : MethodName := ⟨"PackageBook$Expander", "setAll", "([IIII)V"⟩
abbrev i_Expander_setAll : pb_I := (y_Expander_setAll, prog_3_method_2_code, 5, (Option.none : Option Jvm.ClassFile.FieldType), [], { frames := 0, cells := 0, slots := 0, locals := 0 })
set_option maxRecDepth 100000 in
set_option maxHeartbeats 4000000 in
theorem c_Exp_setAll {l : Launch} (hl : l.stackTraces = false) (G : pb_G) (b : Nat) (N : Nat) (f : Nat → Int32) (from_ : Int32) (end_ : Int32) (v : Int32) (h0 : 0 ≤ from_.toInt) (h1 : end_.toInt ≤ N) (h2 : N ≤ 100000) : Cn l G i_Expander_setAll [.ref b, .int from_, .int end_, .int v] [(b, .inl (G.2.2.1, N, .inl f))] (S := (Nat → Int32)) (fun v u => v = none) (fun u => [(b, .inl (G.2.2.1, N, .inl u))]) := by
  refine Cn.of hl (by decide +kernel) rfl (Nat.le_of_ble_eq_true rfl) (fun M hQ => ?_)
  refine pb_eq (pc' := 0) (lo' := [(0, .ref b), (1, .int from_), (2, .int end_), (3, .int v)]) (rest' := []) (ws' := [(b, .inl (G.2.2.1, N, .inl f))]) ?_
  refine pb_iload_n (pc := 0) d_Expander_setAll_0 1 rfl rfl ?_
  refine pb_istore (pc := 1) (lo' := [(4, .int from_), (0, .ref b), (1, .int from_), (2, .int end_), (3, .int v)]) d_Expander_setAll_1 (by decide) rfl ?_
  have hL3 : ∀ (N9 : Nat) (k : Int32) (g : Nat → Int32), (from_.toInt ≤ k.toInt) → ((end_.toInt - k.toInt).toNat) < N9 → pb_P l G M i_Expander_setAll 3 [(4, .int k), (0, .ref b), (1, .int from_), (2, .int end_), (3, .int v)] [] [(b, .inl (G.2.2.1, N, .inl g))] 0 0 := by
    intro N9
    induction N9 with
    | zero => intro k g hk hm9; exact absurd hm9 (Nat.not_lt_zero _)
    | succ N9 ih3 =>
      intro k g hk hm9
      refine pb_iload (pc := 3) d_Expander_setAll_3 0 rfl ?_
      refine pb_iload_n (pc := 5) d_Expander_setAll_5 3 rfl rfl ?_
      refine pb_icmp_ge (pc := 6) (tgt := 20) d_Expander_setAll_6 (by decide) (fun w1 => ?_) (fun w1 => ?_)
      · have tw1 : end_.toInt ≤ k.toInt := (ti_le rfl rfl).mp w1
        exact pb_vret (pc := 20) hQ d_Expander_setAll_20 rfl (g) rfl [0] (by decide) rfl rfl (by decide) (by decide)
      · have tw1 : ¬ end_.toInt ≤ k.toInt := fun z9 => w1 ((ti_le rfl rfl).mpr z9)
        refine pb_aload_n (pc := 9) d_Expander_setAll_9 1 rfl rfl ?_
        refine pb_iload (pc := 10) d_Expander_setAll_10 0 rfl ?_
        refine pb_iload_n (pc := 12) d_Expander_setAll_12 4 rfl rfl ?_
        refine pb_iast (pc := 13) (ws' := [(b, .inl (G.2.2.1, N, .inl (upd g ((k : Int32).toNatClampNeg) v)))]) d_Expander_setAll_13 0 rfl (vp_in_iff.mpr (by constructor <;> omega)) rfl ?_
        refine pb_iincN (pc := 14) (c := 1) d_Expander_setAll_14 0 rfl (by decide) (by decide) (fun i2 ei2 => ?_)
        have ti2 : i2.toInt = k.toInt + 1 := ti_add ei2 rfl (by decide) (by omega) (by omega)
        refine pb_eq (pc' := 17) (lo' := [(4, .int i2), (0, .ref b), (1, .int from_), (2, .int end_), (3, .int v)]) (rest' := []) (ws' := [(b, .inl (G.2.2.1, N, .inl (upd g ((k : Int32).toNatClampNeg) v)))]) ?_
        refine pb_goto (pc := 17) (tgt := 3) d_Expander_setAll_17 (by decide) ?_
        exact ih3 i2 (upd g ((k : Int32).toNatClampNeg) v) (by omega) (by omega)
  exact hL3 _ from_ f (by omega) (Nat.lt_succ_self _)
end
section
theorem d_Shelf_init_0 : decode prog_10_method_1_code 0 = .ok (.aload_n 0, 1) := by decide +kernel
theorem d_Shelf_init_1 : decode prog_10_method_1_code 1 = .ok (.invokespecial 3, 3) := by decide +kernel
theorem k_388 : (Jvm.Cond.methodLink "PackageBook$Shelf" (3 : Nat) ({ cls := "java/lang/Object", name := "<init>", desc := "()V" } : Jvm.MethodName)) ∈ uW := uW_of 388 (by decide +kernel) (by decide +kernel)
theorem d_Shelf_init_4 : decode prog_10_method_1_code 4 = .ok (.aload_n 0, 1) := by decide +kernel
theorem d_Shelf_init_5 : decode prog_10_method_1_code 5 = .ok (.sipush 384, 3) := by decide +kernel
theorem d_Shelf_init_8 : decode prog_10_method_1_code 8 = .ok (.newarray .byte, 2) := by decide +kernel
theorem d_Shelf_init_10 : decode prog_10_method_1_code 10 = .ok (.putfield 9, 3) := by decide +kernel
theorem k_389 : (Jvm.Cond.fieldLink "PackageBook$Shelf" (9 : Nat) "PackageBook$Shelf" "names" "[B") ∈ uW := uW_of 389 (by decide +kernel) (by decide +kernel)
theorem d_Shelf_init_13 : decode prog_10_method_1_code 13 = .ok (.aload_n 0, 1) := by decide +kernel
theorem d_Shelf_init_14 : decode prog_10_method_1_code 14 = .ok (.bipush 16, 2) := by decide +kernel
theorem d_Shelf_init_16 : decode prog_10_method_1_code 16 = .ok (.newarray .int, 2) := by decide +kernel
theorem d_Shelf_init_18 : decode prog_10_method_1_code 18 = .ok (.putfield 15, 3) := by decide +kernel
theorem k_392 : (Jvm.Cond.fieldLink "PackageBook$Shelf" (15 : Nat) "PackageBook$Shelf" "nameSizes" "[I") ∈ uW := uW_of 392 (by decide +kernel) (by decide +kernel)
theorem d_Shelf_init_21 : decode prog_10_method_1_code 21 = .ok (.aload_n 0, 1) := by decide +kernel
theorem d_Shelf_init_22 : decode prog_10_method_1_code 22 = .ok (.sipush 12000, 3) := by decide +kernel
theorem d_Shelf_init_25 : decode prog_10_method_1_code 25 = .ok (.newarray .byte, 2) := by decide +kernel
theorem d_Shelf_init_27 : decode prog_10_method_1_code 27 = .ok (.putfield 19, 3) := by decide +kernel
theorem k_395 : (Jvm.Cond.fieldLink "PackageBook$Shelf" (19 : Nat) "PackageBook$Shelf" "bytes" "[B") ∈ uW := uW_of 395 (by decide +kernel) (by decide +kernel)
theorem d_Shelf_init_30 : decode prog_10_method_1_code 30 = .ok (.aload_n 0, 1) := by decide +kernel
theorem d_Shelf_init_31 : decode prog_10_method_1_code 31 = .ok (.bipush 17, 2) := by decide +kernel
theorem d_Shelf_init_33 : decode prog_10_method_1_code 33 = .ok (.newarray .int, 2) := by decide +kernel
theorem d_Shelf_init_35 : decode prog_10_method_1_code 35 = .ok (.putfield 22, 3) := by decide +kernel
theorem k_399 : (Jvm.Cond.fieldLink "PackageBook$Shelf" (22 : Nat) "PackageBook$Shelf" "begins" "[I") ∈ uW := uW_of 399 (by decide +kernel) (by decide +kernel)
theorem d_Shelf_init_38 : decode prog_10_method_1_code 38 = .ok (.return_, 1) := by decide +kernel
abbrev y_Shelf_init : MethodName := ⟨"PackageBook$Shelf", "<init>", "()V"⟩
abbrev i_Shelf_init : pb_I := (y_Shelf_init, prog_10_method_1_code, 1, (Option.none : Option Jvm.ClassFile.FieldType), [], { frames := 1, cells := 4, slots := 12417, locals := 20 })
set_option maxRecDepth 100000 in
set_option maxHeartbeats 4000000 in
theorem c_Shelf_init {l : Launch} (hl : l.stackTraces = false) (G : pb_G) (h : Nat) : Cn l G i_Shelf_init [.ref h] [(h, .inr (3, [.null, .null, .null, .null, .int 0]))] (S := Nat × Nat × Nat × Nat) (fun v u => v = none) (fun u => [(h, .inr (3, [.ref u.1, .ref u.2.1, .ref u.2.2.1, .ref u.2.2.2, .int 0])), (u.1, .inl (G.2.1, 384, .inl (fun _ => 0))), (u.2.1, .inl (G.2.2.1, 16, .inl (fun _ => 0))), (u.2.2.1, .inl (G.2.1, 12000, .inl (fun _ => 0))), (u.2.2.2, .inl (G.2.2.1, 17, .inl (fun _ => 0)))]) := by
  refine Cn.of hl (by decide +kernel) rfl (Nat.le_of_ble_eq_true rfl) (fun M hQ => ?_)
  refine pb_eq (pc' := 0) (lo' := [(0, .ref h)]) (rest' := []) (ws' := [(h, .inr (3, [.null, .null, .null, .null, .int 0]))]) ?_
  refine pb_aload_n (pc := 0) d_Shelf_init_0 0 rfl rfl ?_
  refine pb_objInit (pc := 1) d_Shelf_init_1 k_388 k_148 k_149 (by decide) (Nat.le_of_ble_eq_true rfl) ?_
  refine pb_aload_n (pc := 4) d_Shelf_init_4 0 rfl rfl ?_
  refine pb_sipush (pc := 5) (v := 384) d_Shelf_init_5 (by decide) ?_
  refine pb_newb (pc := 8) (N := 384) d_Shelf_init_8 k_172 (by decide) (by decide) (by decide) (by decide) (by decide) (fun q1 => ?_)
  refine pb_eq (pc' := 10) (lo' := [(0, .ref h)]) (rest' := [.ref q1, .ref h]) (ws' := [(h, .inr (3, [.null, .null, .null, .null, .int 0])), (q1, .inl (G.2.1, 384, .inl (fun _ => 0)))]) ?_
  refine pb_putF (pc := 10) (ty := (.array .byte)) (ws' := [(h, .inr (3, [.ref q1, .null, .null, .null, .int 0])), (q1, .inl (G.2.1, 384, .inl (fun _ => 0)))]) d_Shelf_init_10 0 0 t_Shelf t_Shelf_ok n_Shelf rfl rfl (by decide) in_Shelf k_389 rfl rfl rfl (by decide +kernel) rfl rfl (Nat.le_of_ble_eq_true rfl) rfl ?_
  refine pb_aload_n (pc := 13) d_Shelf_init_13 0 rfl rfl ?_
  refine pb_bipush (pc := 14) (v := 16) d_Shelf_init_14 (by decide) ?_
  refine pb_newi (pc := 16) (N := 16) d_Shelf_init_16 k_211 (by decide) (by decide) (by decide) (by decide) (by decide) (fun q2 => ?_)
  refine pb_eq (pc' := 18) (lo' := [(0, .ref h)]) (rest' := [.ref q2, .ref h]) (ws' := [(h, .inr (3, [.ref q1, .null, .null, .null, .int 0])), (q1, .inl (G.2.1, 384, .inl (fun _ => 0))), (q2, .inl (G.2.2.1, 16, .inl (fun _ => 0)))]) ?_
  refine pb_putF (pc := 18) (ty := (.array .int)) (ws' := [(h, .inr (3, [.ref q1, .ref q2, .null, .null, .int 0])), (q1, .inl (G.2.1, 384, .inl (fun _ => 0))), (q2, .inl (G.2.2.1, 16, .inl (fun _ => 0)))]) d_Shelf_init_18 0 1 t_Shelf t_Shelf_ok n_Shelf rfl rfl (by decide) in_Shelf k_392 rfl rfl rfl (by decide +kernel) rfl rfl (Nat.le_of_ble_eq_true rfl) rfl ?_
  refine pb_aload_n (pc := 21) d_Shelf_init_21 0 rfl rfl ?_
  refine pb_sipush (pc := 22) (v := 12000) d_Shelf_init_22 (by decide) ?_
  refine pb_newb (pc := 25) (N := 12000) d_Shelf_init_25 k_172 (by decide) (by decide) (by decide) (by decide) (by decide) (fun q3 => ?_)
  refine pb_eq (pc' := 27) (lo' := [(0, .ref h)]) (rest' := [.ref q3, .ref h]) (ws' := [(h, .inr (3, [.ref q1, .ref q2, .null, .null, .int 0])), (q1, .inl (G.2.1, 384, .inl (fun _ => 0))), (q2, .inl (G.2.2.1, 16, .inl (fun _ => 0))), (q3, .inl (G.2.1, 12000, .inl (fun _ => 0)))]) ?_
  refine pb_putF (pc := 27) (ty := (.array .byte)) (ws' := [(h, .inr (3, [.ref q1, .ref q2, .ref q3, .null, .int 0])), (q1, .inl (G.2.1, 384, .inl (fun _ => 0))), (q2, .inl (G.2.2.1, 16, .inl (fun _ => 0))), (q3, .inl (G.2.1, 12000, .inl (fun _ => 0)))]) d_Shelf_init_27 0 2 t_Shelf t_Shelf_ok n_Shelf rfl rfl (by decide) in_Shelf k_395 rfl rfl rfl (by decide +kernel) rfl rfl (Nat.le_of_ble_eq_true rfl) rfl ?_
  refine pb_aload_n (pc := 30) d_Shelf_init_30 0 rfl rfl ?_
  refine pb_bipush (pc := 31) (v := 17) d_Shelf_init_31 (by decide) ?_
  refine pb_newi (pc := 33) (N := 17) d_Shelf_init_33 k_211 (by decide) (by decide) (by decide) (by decide) (by decide) (fun q4 => ?_)
  refine pb_eq (pc' := 35) (lo' := [(0, .ref h)]) (rest' := [.ref q4, .ref h]) (ws' := [(h, .inr (3, [.ref q1, .ref q2, .ref q3, .null, .int 0])), (q1, .inl (G.2.1, 384, .inl (fun _ => 0))), (q2, .inl (G.2.2.1, 16, .inl (fun _ => 0))), (q3, .inl (G.2.1, 12000, .inl (fun _ => 0))), (q4, .inl (G.2.2.1, 17, .inl (fun _ => 0)))]) ?_
  refine pb_putF (pc := 35) (ty := (.array .int)) (ws' := [(h, .inr (3, [.ref q1, .ref q2, .ref q3, .ref q4, .int 0])), (q1, .inl (G.2.1, 384, .inl (fun _ => 0))), (q2, .inl (G.2.2.1, 16, .inl (fun _ => 0))), (q3, .inl (G.2.1, 12000, .inl (fun _ => 0))), (q4, .inl (G.2.2.1, 17, .inl (fun _ => 0)))]) d_Shelf_init_35 0 3 t_Shelf t_Shelf_ok n_Shelf rfl rfl (by decide) in_Shelf k_399 rfl rfl rfl (by decide +kernel) rfl rfl (Nat.le_of_ble_eq_true rfl) rfl ?_
  exact pb_vret (pc := 38) hQ d_Shelf_init_38 rfl (q1, q2, q3, q4) rfl [0, 1, 2, 3, 4] (by decide) rfl rfl (by decide) (by decide)

theorem d_Findings_init_0 : decode prog_6_method_1_code 0 = .ok (.aload_n 0, 1) := by decide +kernel
theorem d_Findings_init_1 : decode prog_6_method_1_code 1 = .ok (.invokespecial 3, 3) := by decide +kernel
theorem k_365 : (Jvm.Cond.methodLink "PackageBook$Findings" (3 : Nat) ({ cls := "java/lang/Object", name := "<init>", desc := "()V" } : Jvm.MethodName)) ∈ uW := uW_of 365 (by decide +kernel) (by decide +kernel)
theorem d_Findings_init_4 : decode prog_6_method_1_code 4 = .ok (.aload_n 0, 1) := by decide +kernel
theorem d_Findings_init_5 : decode prog_6_method_1_code 5 = .ok (.sipush 1232, 3) := by decide +kernel
theorem d_Findings_init_8 : decode prog_6_method_1_code 8 = .ok (.newarray .int, 2) := by decide +kernel
theorem d_Findings_init_10 : decode prog_6_method_1_code 10 = .ok (.putfield 11, 3) := by decide +kernel
theorem k_366 : (Jvm.Cond.fieldLink "PackageBook$Findings" (11 : Nat) "PackageBook$Findings" "kinds" "[I") ∈ uW := uW_of 366 (by decide +kernel) (by decide +kernel)
theorem d_Findings_init_13 : decode prog_6_method_1_code 13 = .ok (.aload_n 0, 1) := by decide +kernel
theorem d_Findings_init_14 : decode prog_6_method_1_code 14 = .ok (.sipush 1232, 3) := by decide +kernel
theorem d_Findings_init_17 : decode prog_6_method_1_code 17 = .ok (.newarray .int, 2) := by decide +kernel
theorem d_Findings_init_19 : decode prog_6_method_1_code 19 = .ok (.putfield 15, 3) := by decide +kernel
theorem k_368 : (Jvm.Cond.fieldLink "PackageBook$Findings" (15 : Nat) "PackageBook$Findings" "owners" "[I") ∈ uW := uW_of 368 (by decide +kernel) (by decide +kernel)
theorem d_Findings_init_22 : decode prog_6_method_1_code 22 = .ok (.aload_n 0, 1) := by decide +kernel
theorem d_Findings_init_23 : decode prog_6_method_1_code 23 = .ok (.sipush 1232, 3) := by decide +kernel
theorem d_Findings_init_26 : decode prog_6_method_1_code 26 = .ok (.newarray .int, 2) := by decide +kernel
theorem d_Findings_init_28 : decode prog_6_method_1_code 28 = .ok (.putfield 18, 3) := by decide +kernel
theorem k_370 : (Jvm.Cond.fieldLink "PackageBook$Findings" (18 : Nat) "PackageBook$Findings" "places" "[I") ∈ uW := uW_of 370 (by decide +kernel) (by decide +kernel)
theorem d_Findings_init_31 : decode prog_6_method_1_code 31 = .ok (.return_, 1) := by decide +kernel
abbrev y_Findings_init : MethodName := ⟨"PackageBook$Findings", "<init>", "()V"⟩
abbrev i_Findings_init : pb_I := (y_Findings_init, prog_6_method_1_code, 1, (Option.none : Option Jvm.ClassFile.FieldType), [], { frames := 1, cells := 3, slots := 3696, locals := 20 })
set_option maxRecDepth 100000 in
set_option maxHeartbeats 4000000 in
theorem c_Findings_init {l : Launch} (hl : l.stackTraces = false) (G : pb_G) (h : Nat) : Cn l G i_Findings_init [.ref h] [(h, .inr (2, [.null, .null, .null, .int 0]))] (S := Nat × Nat × Nat) (fun v u => v = none) (fun u => [(h, .inr (2, [.ref u.1, .ref u.2.1, .ref u.2.2, .int 0])), (u.1, .inl (G.2.2.1, 1232, .inl (fun _ => 0))), (u.2.1, .inl (G.2.2.1, 1232, .inl (fun _ => 0))), (u.2.2, .inl (G.2.2.1, 1232, .inl (fun _ => 0)))]) := by
  refine Cn.of hl (by decide +kernel) rfl (Nat.le_of_ble_eq_true rfl) (fun M hQ => ?_)
  refine pb_eq (pc' := 0) (lo' := [(0, .ref h)]) (rest' := []) (ws' := [(h, .inr (2, [.null, .null, .null, .int 0]))]) ?_
  refine pb_aload_n (pc := 0) d_Findings_init_0 0 rfl rfl ?_
  refine pb_objInit (pc := 1) d_Findings_init_1 k_365 k_148 k_149 (by decide) (Nat.le_of_ble_eq_true rfl) ?_
  refine pb_aload_n (pc := 4) d_Findings_init_4 0 rfl rfl ?_
  refine pb_sipush (pc := 5) (v := 1232) d_Findings_init_5 (by decide) ?_
  refine pb_newi (pc := 8) (N := 1232) d_Findings_init_8 k_211 (by decide) (by decide) (by decide) (by decide) (by decide) (fun q1 => ?_)
  refine pb_eq (pc' := 10) (lo' := [(0, .ref h)]) (rest' := [.ref q1, .ref h]) (ws' := [(h, .inr (2, [.null, .null, .null, .int 0])), (q1, .inl (G.2.2.1, 1232, .inl (fun _ => 0)))]) ?_
  refine pb_putF (pc := 10) (ty := (.array .int)) (ws' := [(h, .inr (2, [.ref q1, .null, .null, .int 0])), (q1, .inl (G.2.2.1, 1232, .inl (fun _ => 0)))]) d_Findings_init_10 0 0 t_Findings t_Findings_ok n_Findings rfl rfl (by decide) in_Findings k_366 rfl rfl rfl (by decide +kernel) rfl rfl (Nat.le_of_ble_eq_true rfl) rfl ?_
  refine pb_aload_n (pc := 13) d_Findings_init_13 0 rfl rfl ?_
  refine pb_sipush (pc := 14) (v := 1232) d_Findings_init_14 (by decide) ?_
  refine pb_newi (pc := 17) (N := 1232) d_Findings_init_17 k_211 (by decide) (by decide) (by decide) (by decide) (by decide) (fun q2 => ?_)
  refine pb_eq (pc' := 19) (lo' := [(0, .ref h)]) (rest' := [.ref q2, .ref h]) (ws' := [(h, .inr (2, [.ref q1, .null, .null, .int 0])), (q1, .inl (G.2.2.1, 1232, .inl (fun _ => 0))), (q2, .inl (G.2.2.1, 1232, .inl (fun _ => 0)))]) ?_
  refine pb_putF (pc := 19) (ty := (.array .int)) (ws' := [(h, .inr (2, [.ref q1, .ref q2, .null, .int 0])), (q1, .inl (G.2.2.1, 1232, .inl (fun _ => 0))), (q2, .inl (G.2.2.1, 1232, .inl (fun _ => 0)))]) d_Findings_init_19 0 1 t_Findings t_Findings_ok n_Findings rfl rfl (by decide) in_Findings k_368 rfl rfl rfl (by decide +kernel) rfl rfl (Nat.le_of_ble_eq_true rfl) rfl ?_
  refine pb_aload_n (pc := 22) d_Findings_init_22 0 rfl rfl ?_
  refine pb_sipush (pc := 23) (v := 1232) d_Findings_init_23 (by decide) ?_
  refine pb_newi (pc := 26) (N := 1232) d_Findings_init_26 k_211 (by decide) (by decide) (by decide) (by decide) (by decide) (fun q3 => ?_)
  refine pb_eq (pc' := 28) (lo' := [(0, .ref h)]) (rest' := [.ref q3, .ref h]) (ws' := [(h, .inr (2, [.ref q1, .ref q2, .null, .int 0])), (q1, .inl (G.2.2.1, 1232, .inl (fun _ => 0))), (q2, .inl (G.2.2.1, 1232, .inl (fun _ => 0))), (q3, .inl (G.2.2.1, 1232, .inl (fun _ => 0)))]) ?_
  refine pb_putF (pc := 28) (ty := (.array .int)) (ws' := [(h, .inr (2, [.ref q1, .ref q2, .ref q3, .int 0])), (q1, .inl (G.2.2.1, 1232, .inl (fun _ => 0))), (q2, .inl (G.2.2.1, 1232, .inl (fun _ => 0))), (q3, .inl (G.2.2.1, 1232, .inl (fun _ => 0)))]) d_Findings_init_28 0 2 t_Findings t_Findings_ok n_Findings rfl rfl (by decide) in_Findings k_370 rfl rfl rfl (by decide +kernel) rfl rfl (Nat.le_of_ble_eq_true rfl) rfl ?_
  exact pb_vret (pc := 31) hQ d_Findings_init_31 rfl (q1, q2, q3) rfl [0, 1, 2, 3] (by decide) rfl rfl (by decide) (by decide)

theorem d_FileReader_init_0 : decode prog_5_method_1_code 0 = .ok (.aload_n 0, 1) := by decide +kernel
theorem d_FileReader_init_1 : decode prog_5_method_1_code 1 = .ok (.invokespecial 3, 3) := by decide +kernel
theorem k_305 : (Jvm.Cond.methodLink "PackageBook$FileReader" (3 : Nat) ({ cls := "java/lang/Object", name := "<init>", desc := "()V" } : Jvm.MethodName)) ∈ uW := uW_of 305 (by decide +kernel) (by decide +kernel)
theorem d_FileReader_init_4 : decode prog_5_method_1_code 4 = .ok (.aload_n 0, 1) := by decide +kernel
theorem d_FileReader_init_5 : decode prog_5_method_1_code 5 = .ok (.iconst 0, 1) := by decide +kernel
theorem d_FileReader_init_6 : decode prog_5_method_1_code 6 = .ok (.newarray .byte, 2) := by decide +kernel
theorem d_FileReader_init_8 : decode prog_5_method_1_code 8 = .ok (.putfield 9, 3) := by decide +kernel
theorem k_306 : (Jvm.Cond.fieldLink "PackageBook$FileReader" (9 : Nat) "PackageBook$FileReader" "row" "[B") ∈ uW := uW_of 306 (by decide +kernel) (by decide +kernel)
theorem d_FileReader_init_11 : decode prog_5_method_1_code 11 = .ok (.return_, 1) := by decide +kernel
abbrev y_FileReader_init : MethodName := ⟨"PackageBook$FileReader", "<init>", "()V"⟩
abbrev i_FileReader_init : pb_I := (y_FileReader_init, prog_5_method_1_code, 1, (Option.none : Option Jvm.ClassFile.FieldType), [], { frames := 1, cells := 1, slots := 0, locals := 20 })
set_option maxRecDepth 100000 in
set_option maxHeartbeats 4000000 in
theorem c_FileReader_init {l : Launch} (hl : l.stackTraces = false) (G : pb_G) (h : Nat) : Cn l G i_FileReader_init [.ref h] [(h, .inr (7, [.null]))] (S := Nat) (fun v u => v = none) (fun u => [(h, .inr (7, [.ref u])), (u, .inl (G.2.1, 0, .inl (fun _ => 0)))]) := by
  refine Cn.of hl (by decide +kernel) rfl (Nat.le_of_ble_eq_true rfl) (fun M hQ => ?_)
  refine pb_eq (pc' := 0) (lo' := [(0, .ref h)]) (rest' := []) (ws' := [(h, .inr (7, [.null]))]) ?_
  refine pb_aload_n (pc := 0) d_FileReader_init_0 0 rfl rfl ?_
  refine pb_objInit (pc := 1) d_FileReader_init_1 k_305 k_148 k_149 (by decide) (Nat.le_of_ble_eq_true rfl) ?_
  refine pb_aload_n (pc := 4) d_FileReader_init_4 0 rfl rfl ?_
  refine pb_iconst (pc := 5) (v := 0) d_FileReader_init_5 (by decide) ?_
  refine pb_newb (pc := 6) (N := 0) d_FileReader_init_6 k_172 (by decide) (by decide) (by decide) (by decide) (by decide) (fun q1 => ?_)
  refine pb_eq (pc' := 8) (lo' := [(0, .ref h)]) (rest' := [.ref q1, .ref h]) (ws' := [(h, .inr (7, [.null])), (q1, .inl (G.2.1, 0, .inl (fun _ => 0)))]) ?_
  refine pb_put (pc := 8) (ty := (.array .byte)) (ws' := [(h, .inr (7, [.ref q1])), (q1, .inl (G.2.1, 0, .inl (fun _ => 0)))]) d_FileReader_init_8 0 0 t_FileReader t_FileReader_ok n_FileReader rfl rfl (by decide) in_FileReader k_306 rfl (by decide +kernel) rfl rfl (Nat.le_of_ble_eq_true rfl) rfl ?_
  exact pb_vret (pc := 11) hQ d_FileReader_init_11 rfl (q1) rfl [0, 1] (by decide) rfl rfl (by decide) (by decide)

theorem d_FileMaker_init_0 : decode prog_4_method_1_code 0 = .ok (.aload_n 0, 1) := by decide +kernel
theorem d_FileMaker_init_1 : decode prog_4_method_1_code 1 = .ok (.invokespecial 3, 3) := by decide +kernel
theorem k_289 : (Jvm.Cond.methodLink "PackageBook$FileMaker" (3 : Nat) ({ cls := "java/lang/Object", name := "<init>", desc := "()V" } : Jvm.MethodName)) ∈ uW := uW_of 289 (by decide +kernel) (by decide +kernel)
theorem d_FileMaker_init_4 : decode prog_4_method_1_code 4 = .ok (.aload_n 0, 1) := by decide +kernel
theorem d_FileMaker_init_5 : decode prog_4_method_1_code 5 = .ok (.new 9, 3) := by decide +kernel
theorem k_290 : (Jvm.Cond.classLink "PackageBook$FileMaker" (9 : Nat) "PackageBook$Row") ∈ uW := uW_of 290 (by decide +kernel) (by decide +kernel)
theorem k_151 : (Jvm.Cond.instantiable "PackageBook$Row" (2 : Nat)) ∈ uW := uW_of 151 (by decide +kernel) (by decide +kernel)
theorem k_119 : (Jvm.Cond.initialized "PackageBook$Row") ∈ uW := uW_of 119 (by decide +kernel) (by decide +kernel)
theorem d_FileMaker_init_8 : decode prog_4_method_1_code 8 = .ok (.dup, 1) := by decide +kernel
theorem d_FileMaker_init_9 : decode prog_4_method_1_code 9 = .ok (.sipush 14006, 3) := by decide +kernel
theorem d_FileMaker_init_12 : decode prog_4_method_1_code 12 = .ok (.invokespecial 11, 3) := by decide +kernel
theorem k_291 : (Jvm.Cond.methodLink "PackageBook$FileMaker" (11 : Nat) ({ cls := "PackageBook$Row", name := "<init>", desc := "(I)V" } : Jvm.MethodName)) ∈ uW := uW_of 291 (by decide +kernel) (by decide +kernel)
theorem k_154 : (Jvm.Cond.code ({ cls := "PackageBook$Row", name := "<init>", desc := "(I)V" } : Jvm.MethodName) prog_9_method_1_code (2 : Nat) (Option.none : Option Jvm.ClassFile.FieldType)) ∈ uW := uW_of 154 (by decide +kernel) (by decide +kernel)
theorem k_153 : (Jvm.Cond.instanceMethod ({ cls := "PackageBook$Row", name := "<init>", desc := "(I)V" } : Jvm.MethodName)) ∈ uW := uW_of 153 (by decide +kernel) (by decide +kernel)
theorem d_FileMaker_init_15 : decode prog_4_method_1_code 15 = .ok (.putfield 14, 3) := by decide +kernel
theorem k_292 : (Jvm.Cond.fieldLink "PackageBook$FileMaker" (14 : Nat) "PackageBook$FileMaker" "made" "LPackageBook$Row;") ∈ uW := uW_of 292 (by decide +kernel) (by decide +kernel)
theorem d_FileMaker_init_18 : decode prog_4_method_1_code 18 = .ok (.aload_n 0, 1) := by decide +kernel
theorem d_FileMaker_init_19 : decode prog_4_method_1_code 19 = .ok (.bipush 16, 2) := by decide +kernel
theorem d_FileMaker_init_21 : decode prog_4_method_1_code 21 = .ok (.newarray .int, 2) := by decide +kernel
theorem d_FileMaker_init_23 : decode prog_4_method_1_code 23 = .ok (.putfield 20, 3) := by decide +kernel
theorem k_294 : (Jvm.Cond.fieldLink "PackageBook$FileMaker" (20 : Nat) "PackageBook$FileMaker" "records" "[I") ∈ uW := uW_of 294 (by decide +kernel) (by decide +kernel)
theorem d_FileMaker_init_26 : decode prog_4_method_1_code 26 = .ok (.return_, 1) := by decide +kernel
abbrev y_FileMaker_init : MethodName := ⟨"PackageBook$FileMaker", "<init>", "()V"⟩
abbrev i_FileMaker_init : pb_I := (y_FileMaker_init, prog_4_method_1_code, 1, (Option.none : Option Jvm.ClassFile.FieldType), [], { frames := 2, cells := 3, slots := 15018, locals := 41 })
set_option maxRecDepth 100000 in
set_option maxHeartbeats 4000000 in
theorem c_FileMaker_init {l : Launch} (hl : l.stackTraces = false) (G : pb_G) (h : Nat) : Cn l G i_FileMaker_init [.ref h] [(h, .inr (6, [.null, .null]))] (S := Nat × Nat × Nat) (fun v u => v = none) (fun u => [(h, .inr (6, [.ref u.1, .ref u.2.2])), (u.1, .inr (0, [.ref u.2.1, .int 0])), (u.2.1, .inl (G.2.1, 14006, .inl (fun _ => 0))), (u.2.2, .inl (G.2.2.1, 16, .inl (fun _ => 0)))]) := by
  refine Cn.of hl (by decide +kernel) rfl (Nat.le_of_ble_eq_true rfl) (fun M hQ => ?_)
  refine pb_eq (pc' := 0) (lo' := [(0, .ref h)]) (rest' := []) (ws' := [(h, .inr (6, [.null, .null]))]) ?_
  refine pb_aload_n (pc := 0) d_FileMaker_init_0 0 rfl rfl ?_
  refine pb_objInit (pc := 1) d_FileMaker_init_1 k_289 k_148 k_149 (by decide) (Nat.le_of_ble_eq_true rfl) ?_
  refine pb_aload_n (pc := 4) d_FileMaker_init_4 0 rfl rfl ?_
  refine pb_new (pc := 5) (ci := 0) (fs := [.null, .int 0]) d_FileMaker_init_5 t_Row t_Row_ok rfl in_Row k_290 k_151 k_119 (by decide) (by decide) (by decide) (fun q1 => ?_)
  refine pb_eq (pc' := 8) (lo' := [(0, .ref h)]) (rest' := [.ref q1, .ref h]) (ws' := [(h, .inr (6, [.null, .null])), (q1, .inr (0, [.null, .int 0]))]) ?_
  refine pb_dup (pc := 8) d_FileMaker_init_8 rfl ?_
  refine pb_sipush (pc := 9) (v := 14006) d_FileMaker_init_9 (by decide) ?_
  refine pb_callI (pc := 12) (nA := 1) (rest := [.ref q1, .ref h]) (wr := [(h, .inr (6, [.null, .null]))]) d_FileMaker_init_12 (c_Row_init hl G q1 14006 14006 (by decide) (by decide) (by decide)) [1] [0] (by decide) rfl rfl rfl (by decide) (by decide) k_154 rfl k_119 k_291 k_153 rfl (by decide +kernel) (by decide) rfl rfl (Nat.le_of_ble_eq_true rfl) (by decide) (fun v9 u3 h2 => ?_)
  obtain ⟨q_4, rfl⟩ : ∃ z9, z9 = u3 := ⟨_, rfl⟩
  have eh2 := h2
  have eh2 : v9 = none := eh2
  subst eh2
  refine pb_eq (pc' := 15) (lo' := [(0, .ref h)]) (rest' := [.ref q1, .ref h]) (ws' := [(h, .inr (6, [.null, .null])), (q1, .inr (0, [.ref q_4, .int 0])), (q_4, .inl (G.2.1, 14006, .inl (fun _ => 0)))]) ?_
  refine pb_putF (pc := 15) (ty := (.object "PackageBook$Row")) (ws' := [(h, .inr (6, [.ref q1, .null])), (q1, .inr (0, [.ref q_4, .int 0])), (q_4, .inl (G.2.1, 14006, .inl (fun _ => 0)))]) d_FileMaker_init_15 0 0 t_FileMaker t_FileMaker_ok n_FileMaker rfl rfl (by decide) in_FileMaker k_292 rfl rfl rfl (by decide +kernel) rfl rfl (Nat.le_of_ble_eq_true rfl) rfl ?_
  refine pb_aload_n (pc := 18) d_FileMaker_init_18 0 rfl rfl ?_
  refine pb_bipush (pc := 19) (v := 16) d_FileMaker_init_19 (by decide) ?_
  refine pb_newi (pc := 21) (N := 16) d_FileMaker_init_21 k_211 (by decide) (by decide) (by decide) (by decide) (by decide) (fun q5 => ?_)
  refine pb_eq (pc' := 23) (lo' := [(0, .ref h)]) (rest' := [.ref q5, .ref h]) (ws' := [(h, .inr (6, [.ref q1, .null])), (q1, .inr (0, [.ref q_4, .int 0])), (q_4, .inl (G.2.1, 14006, .inl (fun _ => 0))), (q5, .inl (G.2.2.1, 16, .inl (fun _ => 0)))]) ?_
  refine pb_putF (pc := 23) (ty := (.array .int)) (ws' := [(h, .inr (6, [.ref q1, .ref q5])), (q1, .inr (0, [.ref q_4, .int 0])), (q_4, .inl (G.2.1, 14006, .inl (fun _ => 0))), (q5, .inl (G.2.2.1, 16, .inl (fun _ => 0)))]) d_FileMaker_init_23 0 1 t_FileMaker t_FileMaker_ok n_FileMaker rfl rfl (by decide) in_FileMaker k_294 rfl rfl rfl (by decide +kernel) rfl rfl (Nat.le_of_ble_eq_true rfl) rfl ?_
  exact pb_vret (pc := 26) hQ d_FileMaker_init_26 rfl (q1, q_4, q5) rfl [0, 1, 2, 3] (by decide) rfl rfl (by decide) (by decide)

theorem d_Presser_init_0 : decode prog_8_method_1_code 0 = .ok (.aload_n 0, 1) := by decide +kernel
theorem d_Presser_init_1 : decode prog_8_method_1_code 1 = .ok (.invokespecial 3, 3) := by decide +kernel
theorem k_178 : (Jvm.Cond.methodLink "PackageBook$Presser" (3 : Nat) ({ cls := "java/lang/Object", name := "<init>", desc := "()V" } : Jvm.MethodName)) ∈ uW := uW_of 178 (by decide +kernel) (by decide +kernel)
theorem d_Presser_init_4 : decode prog_8_method_1_code 4 = .ok (.aload_n 0, 1) := by decide +kernel
theorem d_Presser_init_5 : decode prog_8_method_1_code 5 = .ok (.new 9, 3) := by decide +kernel
theorem k_179 : (Jvm.Cond.classLink "PackageBook$Presser" (9 : Nat) "PackageBook$Row") ∈ uW := uW_of 179 (by decide +kernel) (by decide +kernel)
theorem d_Presser_init_8 : decode prog_8_method_1_code 8 = .ok (.dup, 1) := by decide +kernel
theorem d_Presser_init_9 : decode prog_8_method_1_code 9 = .ok (.sipush 4502, 3) := by decide +kernel
theorem d_Presser_init_12 : decode prog_8_method_1_code 12 = .ok (.invokespecial 11, 3) := by decide +kernel
theorem k_180 : (Jvm.Cond.methodLink "PackageBook$Presser" (11 : Nat) ({ cls := "PackageBook$Row", name := "<init>", desc := "(I)V" } : Jvm.MethodName)) ∈ uW := uW_of 180 (by decide +kernel) (by decide +kernel)
theorem d_Presser_init_15 : decode prog_8_method_1_code 15 = .ok (.putfield 14, 3) := by decide +kernel
theorem k_181 : (Jvm.Cond.fieldLink "PackageBook$Presser" (14 : Nat) "PackageBook$Presser" "pressed" "LPackageBook$Row;") ∈ uW := uW_of 181 (by decide +kernel) (by decide +kernel)
theorem d_Presser_init_18 : decode prog_8_method_1_code 18 = .ok (.aload_n 0, 1) := by decide +kernel
theorem d_Presser_init_19 : decode prog_8_method_1_code 19 = .ok (.sipush 1024, 3) := by decide +kernel
theorem d_Presser_init_22 : decode prog_8_method_1_code 22 = .ok (.newarray .int, 2) := by decide +kernel
theorem d_Presser_init_24 : decode prog_8_method_1_code 24 = .ok (.putfield 20, 3) := by decide +kernel
theorem k_184 : (Jvm.Cond.fieldLink "PackageBook$Presser" (20 : Nat) "PackageBook$Presser" "latest" "[I") ∈ uW := uW_of 184 (by decide +kernel) (by decide +kernel)
theorem d_Presser_init_27 : decode prog_8_method_1_code 27 = .ok (.aload_n 0, 1) := by decide +kernel
theorem d_Presser_init_28 : decode prog_8_method_1_code 28 = .ok (.sipush 4000, 3) := by decide +kernel
theorem d_Presser_init_31 : decode prog_8_method_1_code 31 = .ok (.newarray .int, 2) := by decide +kernel
theorem d_Presser_init_33 : decode prog_8_method_1_code 33 = .ok (.putfield 24, 3) := by decide +kernel
theorem k_185 : (Jvm.Cond.fieldLink "PackageBook$Presser" (24 : Nat) "PackageBook$Presser" "earlier" "[I") ∈ uW := uW_of 185 (by decide +kernel) (by decide +kernel)
theorem d_Presser_init_36 : decode prog_8_method_1_code 36 = .ok (.aload_n 0, 1) := by decide +kernel
theorem d_Presser_init_37 : decode prog_8_method_1_code 37 = .ok (.iconst 0, 1) := by decide +kernel
theorem d_Presser_init_38 : decode prog_8_method_1_code 38 = .ok (.newarray .byte, 2) := by decide +kernel
theorem d_Presser_init_40 : decode prog_8_method_1_code 40 = .ok (.putfield 27, 3) := by decide +kernel
theorem k_186 : (Jvm.Cond.fieldLink "PackageBook$Presser" (27 : Nat) "PackageBook$Presser" "row" "[B") ∈ uW := uW_of 186 (by decide +kernel) (by decide +kernel)
theorem d_Presser_init_43 : decode prog_8_method_1_code 43 = .ok (.return_, 1) := by decide +kernel
abbrev y_Presser_init : MethodName := ⟨"PackageBook$Presser", "<init>", "()V"⟩
abbrev i_Presser_init : pb_I := (y_Presser_init, prog_8_method_1_code, 1, (Option.none : Option Jvm.ClassFile.FieldType), [], { frames := 2, cells := 5, slots := 20026, locals := 41 })
set_option maxRecDepth 100000 in
set_option maxHeartbeats 4000000 in
theorem c_Presser_init {l : Launch} (hl : l.stackTraces = false) (G : pb_G) (h : Nat) : Cn l G i_Presser_init [.ref h] [(h, .inr (4, [.null, .null, .null, .null, .int 0, .int 0, .int 0, .int 0, .int 0]))] (S := Nat × Nat × Nat × Nat × Nat) (fun v u => v = none) (fun u => [(h, .inr (4, [.ref u.1, .ref u.2.2.1, .ref u.2.2.2.1, .ref u.2.2.2.2, .int 0, .int 0, .int 0, .int 0, .int 0])), (u.1, .inr (0, [.ref u.2.1, .int 0])), (u.2.1, .inl (G.2.1, 4502, .inl (fun _ => 0))), (u.2.2.1, .inl (G.2.2.1, 1024, .inl (fun _ => 0))), (u.2.2.2.1, .inl (G.2.2.1, 4000, .inl (fun _ => 0))), (u.2.2.2.2, .inl (G.2.1, 0, .inl (fun _ => 0)))]) := by
  refine Cn.of hl (by decide +kernel) rfl (Nat.le_of_ble_eq_true rfl) (fun M hQ => ?_)
  refine pb_eq (pc' := 0) (lo' := [(0, .ref h)]) (rest' := []) (ws' := [(h, .inr (4, [.null, .null, .null, .null, .int 0, .int 0, .int 0, .int 0, .int 0]))]) ?_
  refine pb_aload_n (pc := 0) d_Presser_init_0 0 rfl rfl ?_
  refine pb_objInit (pc := 1) d_Presser_init_1 k_178 k_148 k_149 (by decide) (Nat.le_of_ble_eq_true rfl) ?_
  refine pb_aload_n (pc := 4) d_Presser_init_4 0 rfl rfl ?_
  refine pb_new (pc := 5) (ci := 0) (fs := [.null, .int 0]) d_Presser_init_5 t_Row t_Row_ok rfl in_Row k_179 k_151 k_119 (by decide) (by decide) (by decide) (fun q1 => ?_)
  refine pb_eq (pc' := 8) (lo' := [(0, .ref h)]) (rest' := [.ref q1, .ref h]) (ws' := [(h, .inr (4, [.null, .null, .null, .null, .int 0, .int 0, .int 0, .int 0, .int 0])), (q1, .inr (0, [.null, .int 0]))]) ?_
  refine pb_dup (pc := 8) d_Presser_init_8 rfl ?_
  refine pb_sipush (pc := 9) (v := 4502) d_Presser_init_9 (by decide) ?_
  refine pb_callI (pc := 12) (nA := 1) (rest := [.ref q1, .ref h]) (wr := [(h, .inr (4, [.null, .null, .null, .null, .int 0, .int 0, .int 0, .int 0, .int 0]))]) d_Presser_init_12 (c_Row_init hl G q1 4502 4502 (by decide) (by decide) (by decide)) [1] [0] (by decide) rfl rfl rfl (by decide) (by decide) k_154 rfl k_119 k_180 k_153 rfl (by decide +kernel) (by decide) rfl rfl (Nat.le_of_ble_eq_true rfl) (by decide) (fun v9 u3 h2 => ?_)
  obtain ⟨q_4, rfl⟩ : ∃ z9, z9 = u3 := ⟨_, rfl⟩
  have eh2 := h2
  have eh2 : v9 = none := eh2
  subst eh2
  refine pb_eq (pc' := 15) (lo' := [(0, .ref h)]) (rest' := [.ref q1, .ref h]) (ws' := [(h, .inr (4, [.null, .null, .null, .null, .int 0, .int 0, .int 0, .int 0, .int 0])), (q1, .inr (0, [.ref q_4, .int 0])), (q_4, .inl (G.2.1, 4502, .inl (fun _ => 0)))]) ?_
  refine pb_putF (pc := 15) (ty := (.object "PackageBook$Row")) (ws' := [(h, .inr (4, [.ref q1, .null, .null, .null, .int 0, .int 0, .int 0, .int 0, .int 0])), (q1, .inr (0, [.ref q_4, .int 0])), (q_4, .inl (G.2.1, 4502, .inl (fun _ => 0)))]) d_Presser_init_15 0 0 t_Presser t_Presser_ok n_Presser rfl rfl (by decide) in_Presser k_181 rfl rfl rfl (by decide +kernel) rfl rfl (Nat.le_of_ble_eq_true rfl) rfl ?_
  refine pb_aload_n (pc := 18) d_Presser_init_18 0 rfl rfl ?_
  refine pb_sipush (pc := 19) (v := 1024) d_Presser_init_19 (by decide) ?_
  refine pb_newi (pc := 22) (N := 1024) d_Presser_init_22 k_211 (by decide) (by decide) (by decide) (by decide) (by decide) (fun q5 => ?_)
  refine pb_eq (pc' := 24) (lo' := [(0, .ref h)]) (rest' := [.ref q5, .ref h]) (ws' := [(h, .inr (4, [.ref q1, .null, .null, .null, .int 0, .int 0, .int 0, .int 0, .int 0])), (q1, .inr (0, [.ref q_4, .int 0])), (q_4, .inl (G.2.1, 4502, .inl (fun _ => 0))), (q5, .inl (G.2.2.1, 1024, .inl (fun _ => 0)))]) ?_
  refine pb_putF (pc := 24) (ty := (.array .int)) (ws' := [(h, .inr (4, [.ref q1, .ref q5, .null, .null, .int 0, .int 0, .int 0, .int 0, .int 0])), (q1, .inr (0, [.ref q_4, .int 0])), (q_4, .inl (G.2.1, 4502, .inl (fun _ => 0))), (q5, .inl (G.2.2.1, 1024, .inl (fun _ => 0)))]) d_Presser_init_24 0 1 t_Presser t_Presser_ok n_Presser rfl rfl (by decide) in_Presser k_184 rfl rfl rfl (by decide +kernel) rfl rfl (Nat.le_of_ble_eq_true rfl) rfl ?_
  refine pb_aload_n (pc := 27) d_Presser_init_27 0 rfl rfl ?_
  refine pb_sipush (pc := 28) (v := 4000) d_Presser_init_28 (by decide) ?_
  refine pb_newi (pc := 31) (N := 4000) d_Presser_init_31 k_211 (by decide) (by decide) (by decide) (by decide) (by decide) (fun q6 => ?_)
  refine pb_eq (pc' := 33) (lo' := [(0, .ref h)]) (rest' := [.ref q6, .ref h]) (ws' := [(h, .inr (4, [.ref q1, .ref q5, .null, .null, .int 0, .int 0, .int 0, .int 0, .int 0])), (q1, .inr (0, [.ref q_4, .int 0])), (q_4, .inl (G.2.1, 4502, .inl (fun _ => 0))), (q5, .inl (G.2.2.1, 1024, .inl (fun _ => 0))), (q6, .inl (G.2.2.1, 4000, .inl (fun _ => 0)))]) ?_
  refine pb_putF (pc := 33) (ty := (.array .int)) (ws' := [(h, .inr (4, [.ref q1, .ref q5, .ref q6, .null, .int 0, .int 0, .int 0, .int 0, .int 0])), (q1, .inr (0, [.ref q_4, .int 0])), (q_4, .inl (G.2.1, 4502, .inl (fun _ => 0))), (q5, .inl (G.2.2.1, 1024, .inl (fun _ => 0))), (q6, .inl (G.2.2.1, 4000, .inl (fun _ => 0)))]) d_Presser_init_33 0 2 t_Presser t_Presser_ok n_Presser rfl rfl (by decide) in_Presser k_185 rfl rfl rfl (by decide +kernel) rfl rfl (Nat.le_of_ble_eq_true rfl) rfl ?_
  refine pb_aload_n (pc := 36) d_Presser_init_36 0 rfl rfl ?_
  refine pb_iconst (pc := 37) (v := 0) d_Presser_init_37 (by decide) ?_
  refine pb_newb (pc := 38) (N := 0) d_Presser_init_38 k_172 (by decide) (by decide) (by decide) (by decide) (by decide) (fun q7 => ?_)
  refine pb_eq (pc' := 40) (lo' := [(0, .ref h)]) (rest' := [.ref q7, .ref h]) (ws' := [(h, .inr (4, [.ref q1, .ref q5, .ref q6, .null, .int 0, .int 0, .int 0, .int 0, .int 0])), (q1, .inr (0, [.ref q_4, .int 0])), (q_4, .inl (G.2.1, 4502, .inl (fun _ => 0))), (q5, .inl (G.2.2.1, 1024, .inl (fun _ => 0))), (q6, .inl (G.2.2.1, 4000, .inl (fun _ => 0))), (q7, .inl (G.2.1, 0, .inl (fun _ => 0)))]) ?_
  refine pb_put (pc := 40) (ty := (.array .byte)) (ws' := [(h, .inr (4, [.ref q1, .ref q5, .ref q6, .ref q7, .int 0, .int 0, .int 0, .int 0, .int 0])), (q1, .inr (0, [.ref q_4, .int 0])), (q_4, .inl (G.2.1, 4502, .inl (fun _ => 0))), (q5, .inl (G.2.2.1, 1024, .inl (fun _ => 0))), (q6, .inl (G.2.2.1, 4000, .inl (fun _ => 0))), (q7, .inl (G.2.1, 0, .inl (fun _ => 0)))]) d_Presser_init_40 0 3 t_Presser t_Presser_ok n_Presser rfl rfl (by decide) in_Presser k_186 rfl (by decide +kernel) rfl rfl (Nat.le_of_ble_eq_true rfl) rfl ?_
  exact pb_vret (pc := 43) hQ d_Presser_init_43 rfl (q1, q_4, q5, q6, q7) rfl [0, 1, 2, 3, 4, 5] (by decide) rfl rfl (by decide) (by decide)

theorem d_Markup_init_0 : decode prog_7_method_1_code 0 = .ok (.aload_n 0, 1) := by decide +kernel
theorem d_Markup_init_1 : decode prog_7_method_1_code 1 = .ok (.invokespecial 3, 3) := by decide +kernel
theorem k_315 : (Jvm.Cond.methodLink "PackageBook$Markup" (3 : Nat) ({ cls := "java/lang/Object", name := "<init>", desc := "()V" } : Jvm.MethodName)) ∈ uW := uW_of 315 (by decide +kernel) (by decide +kernel)
theorem d_Markup_init_4 : decode prog_7_method_1_code 4 = .ok (.aload_n 0, 1) := by decide +kernel
theorem d_Markup_init_5 : decode prog_7_method_1_code 5 = .ok (.sipush 200, 3) := by decide +kernel
theorem d_Markup_init_8 : decode prog_7_method_1_code 8 = .ok (.newarray .long, 2) := by decide +kernel
theorem k_359 : (Jvm.Cond.arrayClass Jvm.ClassFile.FieldType.long) ∈ uW := uW_of 359 (by decide +kernel) (by decide +kernel)
theorem d_Markup_init_10 : decode prog_7_method_1_code 10 = .ok (.putfield 11, 3) := by decide +kernel
theorem k_316 : (Jvm.Cond.fieldLink "PackageBook$Markup" (11 : Nat) "PackageBook$Markup" "ids" "[J") ∈ uW := uW_of 316 (by decide +kernel) (by decide +kernel)
theorem d_Markup_init_13 : decode prog_7_method_1_code 13 = .ok (.aload_n 0, 1) := by decide +kernel
theorem d_Markup_init_14 : decode prog_7_method_1_code 14 = .ok (.sipush 200, 3) := by decide +kernel
theorem d_Markup_init_17 : decode prog_7_method_1_code 17 = .ok (.newarray .int, 2) := by decide +kernel
theorem d_Markup_init_19 : decode prog_7_method_1_code 19 = .ok (.putfield 15, 3) := by decide +kernel
theorem k_317 : (Jvm.Cond.fieldLink "PackageBook$Markup" (15 : Nat) "PackageBook$Markup" "goals" "[I") ∈ uW := uW_of 317 (by decide +kernel) (by decide +kernel)
theorem d_Markup_init_22 : decode prog_7_method_1_code 22 = .ok (.aload_n 0, 1) := by decide +kernel
theorem d_Markup_init_23 : decode prog_7_method_1_code 23 = .ok (.bipush 24, 2) := by decide +kernel
theorem d_Markup_init_25 : decode prog_7_method_1_code 25 = .ok (.newarray .byte, 2) := by decide +kernel
theorem d_Markup_init_27 : decode prog_7_method_1_code 27 = .ok (.putfield 19, 3) := by decide +kernel
theorem k_319 : (Jvm.Cond.fieldLink "PackageBook$Markup" (19 : Nat) "PackageBook$Markup" "value" "[B") ∈ uW := uW_of 319 (by decide +kernel) (by decide +kernel)
theorem d_Markup_init_30 : decode prog_7_method_1_code 30 = .ok (.aload_n 0, 1) := by decide +kernel
theorem d_Markup_init_31 : decode prog_7_method_1_code 31 = .ok (.iconst 0, 1) := by decide +kernel
theorem d_Markup_init_32 : decode prog_7_method_1_code 32 = .ok (.newarray .byte, 2) := by decide +kernel
theorem d_Markup_init_34 : decode prog_7_method_1_code 34 = .ok (.putfield 23, 3) := by decide +kernel
theorem k_320 : (Jvm.Cond.fieldLink "PackageBook$Markup" (23 : Nat) "PackageBook$Markup" "row" "[B") ∈ uW := uW_of 320 (by decide +kernel) (by decide +kernel)
theorem d_Markup_init_37 : decode prog_7_method_1_code 37 = .ok (.aload_n 0, 1) := by decide +kernel
theorem d_Markup_init_38 : decode prog_7_method_1_code 38 = .ok (.iconst (-1), 1) := by decide +kernel
theorem d_Markup_init_39 : decode prog_7_method_1_code 39 = .ok (.putfield 26, 3) := by decide +kernel
theorem k_323 : (Jvm.Cond.fieldLink "PackageBook$Markup" (26 : Nat) "PackageBook$Markup" "fault" "I") ∈ uW := uW_of 323 (by decide +kernel) (by decide +kernel)
theorem d_Markup_init_42 : decode prog_7_method_1_code 42 = .ok (.return_, 1) := by decide +kernel
abbrev y_Markup_init : MethodName := ⟨"PackageBook$Markup", "<init>", "()V"⟩
abbrev i_Markup_init : pb_I := (y_Markup_init, prog_7_method_1_code, 1, (Option.none : Option Jvm.ClassFile.FieldType), [], { frames := 1, cells := 4, slots := 424, locals := 20 })
set_option maxRecDepth 100000 in
set_option maxHeartbeats 4000000 in
theorem c_Markup_init {l : Launch} (hl : l.stackTraces = false) (G : pb_G) (h : Nat) : Cn l G i_Markup_init [.ref h] [(h, .inr (8, [.null, .null, .null, .null, .int 0, .int 0, .int 0, .int 0, .int 0, .int 0, .int 0, .int 0, .int 0]))] (S := Nat × Nat × Nat × Nat) (fun v u => v = none) (fun u => [(h, .inr (8, [.ref u.1, .ref u.2.1, .ref u.2.2.1, .ref u.2.2.2, .int 0, .int (-1), .int 0, .int 0, .int 0, .int 0, .int 0, .int 0, .int 0])), (u.1, .inl (G.2.2.2.1, 200, .inr (.inl (fun _ => 0)))), (u.2.1, .inl (G.2.2.1, 200, .inl (fun _ => 0))), (u.2.2.1, .inl (G.2.1, 24, .inl (fun _ => 0))), (u.2.2.2, .inl (G.2.1, 0, .inl (fun _ => 0)))]) := by
  refine Cn.of hl (by decide +kernel) rfl (Nat.le_of_ble_eq_true rfl) (fun M hQ => ?_)
  refine pb_eq (pc' := 0) (lo' := [(0, .ref h)]) (rest' := []) (ws' := [(h, .inr (8, [.null, .null, .null, .null, .int 0, .int 0, .int 0, .int 0, .int 0, .int 0, .int 0, .int 0, .int 0]))]) ?_
  refine pb_aload_n (pc := 0) d_Markup_init_0 0 rfl rfl ?_
  refine pb_objInit (pc := 1) d_Markup_init_1 k_315 k_148 k_149 (by decide) (Nat.le_of_ble_eq_true rfl) ?_
  refine pb_aload_n (pc := 4) d_Markup_init_4 0 rfl rfl ?_
  refine pb_sipush (pc := 5) (v := 200) d_Markup_init_5 (by decide) ?_
  refine pb_newl (pc := 8) (N := 200) d_Markup_init_8 k_359 (by decide) (by decide) (by decide) (by decide) (by decide) (fun q1 => ?_)
  refine pb_eq (pc' := 10) (lo' := [(0, .ref h)]) (rest' := [.ref q1, .ref h]) (ws' := [(h, .inr (8, [.null, .null, .null, .null, .int 0, .int 0, .int 0, .int 0, .int 0, .int 0, .int 0, .int 0, .int 0])), (q1, .inl (G.2.2.2.1, 200, .inr (.inl (fun _ => 0))))]) ?_
  refine pb_putF (pc := 10) (ty := (.array .long)) (ws' := [(h, .inr (8, [.ref q1, .null, .null, .null, .int 0, .int 0, .int 0, .int 0, .int 0, .int 0, .int 0, .int 0, .int 0])), (q1, .inl (G.2.2.2.1, 200, .inr (.inl (fun _ => 0))))]) d_Markup_init_10 0 0 t_Markup t_Markup_ok n_Markup rfl rfl (by decide) in_Markup k_316 rfl rfl rfl (by decide +kernel) rfl rfl (Nat.le_of_ble_eq_true rfl) rfl ?_
  refine pb_aload_n (pc := 13) d_Markup_init_13 0 rfl rfl ?_
  refine pb_sipush (pc := 14) (v := 200) d_Markup_init_14 (by decide) ?_
  refine pb_newi (pc := 17) (N := 200) d_Markup_init_17 k_211 (by decide) (by decide) (by decide) (by decide) (by decide) (fun q2 => ?_)
  refine pb_eq (pc' := 19) (lo' := [(0, .ref h)]) (rest' := [.ref q2, .ref h]) (ws' := [(h, .inr (8, [.ref q1, .null, .null, .null, .int 0, .int 0, .int 0, .int 0, .int 0, .int 0, .int 0, .int 0, .int 0])), (q1, .inl (G.2.2.2.1, 200, .inr (.inl (fun _ => 0)))), (q2, .inl (G.2.2.1, 200, .inl (fun _ => 0)))]) ?_
  refine pb_putF (pc := 19) (ty := (.array .int)) (ws' := [(h, .inr (8, [.ref q1, .ref q2, .null, .null, .int 0, .int 0, .int 0, .int 0, .int 0, .int 0, .int 0, .int 0, .int 0])), (q1, .inl (G.2.2.2.1, 200, .inr (.inl (fun _ => 0)))), (q2, .inl (G.2.2.1, 200, .inl (fun _ => 0)))]) d_Markup_init_19 0 1 t_Markup t_Markup_ok n_Markup rfl rfl (by decide) in_Markup k_317 rfl rfl rfl (by decide +kernel) rfl rfl (Nat.le_of_ble_eq_true rfl) rfl ?_
  refine pb_aload_n (pc := 22) d_Markup_init_22 0 rfl rfl ?_
  refine pb_bipush (pc := 23) (v := 24) d_Markup_init_23 (by decide) ?_
  refine pb_newb (pc := 25) (N := 24) d_Markup_init_25 k_172 (by decide) (by decide) (by decide) (by decide) (by decide) (fun q3 => ?_)
  refine pb_eq (pc' := 27) (lo' := [(0, .ref h)]) (rest' := [.ref q3, .ref h]) (ws' := [(h, .inr (8, [.ref q1, .ref q2, .null, .null, .int 0, .int 0, .int 0, .int 0, .int 0, .int 0, .int 0, .int 0, .int 0])), (q1, .inl (G.2.2.2.1, 200, .inr (.inl (fun _ => 0)))), (q2, .inl (G.2.2.1, 200, .inl (fun _ => 0))), (q3, .inl (G.2.1, 24, .inl (fun _ => 0)))]) ?_
  refine pb_putF (pc := 27) (ty := (.array .byte)) (ws' := [(h, .inr (8, [.ref q1, .ref q2, .ref q3, .null, .int 0, .int 0, .int 0, .int 0, .int 0, .int 0, .int 0, .int 0, .int 0])), (q1, .inl (G.2.2.2.1, 200, .inr (.inl (fun _ => 0)))), (q2, .inl (G.2.2.1, 200, .inl (fun _ => 0))), (q3, .inl (G.2.1, 24, .inl (fun _ => 0)))]) d_Markup_init_27 0 2 t_Markup t_Markup_ok n_Markup rfl rfl (by decide) in_Markup k_319 rfl rfl rfl (by decide +kernel) rfl rfl (Nat.le_of_ble_eq_true rfl) rfl ?_
  refine pb_aload_n (pc := 30) d_Markup_init_30 0 rfl rfl ?_
  refine pb_iconst (pc := 31) (v := 0) d_Markup_init_31 (by decide) ?_
  refine pb_newb (pc := 32) (N := 0) d_Markup_init_32 k_172 (by decide) (by decide) (by decide) (by decide) (by decide) (fun q4 => ?_)
  refine pb_eq (pc' := 34) (lo' := [(0, .ref h)]) (rest' := [.ref q4, .ref h]) (ws' := [(h, .inr (8, [.ref q1, .ref q2, .ref q3, .null, .int 0, .int 0, .int 0, .int 0, .int 0, .int 0, .int 0, .int 0, .int 0])), (q1, .inl (G.2.2.2.1, 200, .inr (.inl (fun _ => 0)))), (q2, .inl (G.2.2.1, 200, .inl (fun _ => 0))), (q3, .inl (G.2.1, 24, .inl (fun _ => 0))), (q4, .inl (G.2.1, 0, .inl (fun _ => 0)))]) ?_
  refine pb_put (pc := 34) (ty := (.array .byte)) (ws' := [(h, .inr (8, [.ref q1, .ref q2, .ref q3, .ref q4, .int 0, .int 0, .int 0, .int 0, .int 0, .int 0, .int 0, .int 0, .int 0])), (q1, .inl (G.2.2.2.1, 200, .inr (.inl (fun _ => 0)))), (q2, .inl (G.2.2.1, 200, .inl (fun _ => 0))), (q3, .inl (G.2.1, 24, .inl (fun _ => 0))), (q4, .inl (G.2.1, 0, .inl (fun _ => 0)))]) d_Markup_init_34 0 3 t_Markup t_Markup_ok n_Markup rfl rfl (by decide) in_Markup k_320 rfl (by decide +kernel) rfl rfl (Nat.le_of_ble_eq_true rfl) rfl ?_
  refine pb_aload_n (pc := 37) d_Markup_init_37 0 rfl rfl ?_
  refine pb_iconst (pc := 38) (v := (-1)) d_Markup_init_38 (by decide) ?_
  refine pb_put (pc := 39) (ty := .int) (ws' := [(h, .inr (8, [.ref q1, .ref q2, .ref q3, .ref q4, .int 0, .int (-1), .int 0, .int 0, .int 0, .int 0, .int 0, .int 0, .int 0])), (q1, .inl (G.2.2.2.1, 200, .inr (.inl (fun _ => 0)))), (q2, .inl (G.2.2.1, 200, .inl (fun _ => 0))), (q3, .inl (G.2.1, 24, .inl (fun _ => 0))), (q4, .inl (G.2.1, 0, .inl (fun _ => 0)))]) d_Markup_init_39 0 5 t_Markup t_Markup_ok n_Markup rfl rfl (by decide) in_Markup k_323 rfl (by decide +kernel) rfl rfl (Nat.le_of_ble_eq_true rfl) rfl ?_
  exact pb_vret (pc := 42) hQ d_Markup_init_42 rfl (q1, q2, q3, q4) rfl [0, 1, 2, 3, 4] (by decide) rfl rfl (by decide) (by decide)
end
section
theorem d_Expander_init_0 : decode prog_3_method_1_code 0 = .ok (.aload_n 0, 1) := by decide +kernel
theorem d_Expander_init_1 : decode prog_3_method_1_code 1 = .ok (.invokespecial 3, 3) := by decide +kernel
theorem k_217 : (Jvm.Cond.methodLink "PackageBook$Expander" (3 : Nat) ({ cls := "java/lang/Object", name := "<init>", desc := "()V" } : Jvm.MethodName)) ∈ uW := uW_of 217 (by decide +kernel) (by decide +kernel)
theorem d_Expander_init_4 : decode prog_3_method_1_code 4 = .ok (.aload_n 0, 1) := by decide +kernel
theorem d_Expander_init_5 : decode prog_3_method_1_code 5 = .ok (.new 9, 3) := by decide +kernel
theorem k_218 : (Jvm.Cond.classLink "PackageBook$Expander" (9 : Nat) "PackageBook$Row") ∈ uW := uW_of 218 (by decide +kernel) (by decide +kernel)
theorem d_Expander_init_8 : decode prog_3_method_1_code 8 = .ok (.dup, 1) := by decide +kernel
theorem d_Expander_init_9 : decode prog_3_method_1_code 9 = .ok (.sipush 4000, 3) := by decide +kernel
theorem d_Expander_init_12 : decode prog_3_method_1_code 12 = .ok (.invokespecial 11, 3) := by decide +kernel
theorem k_219 : (Jvm.Cond.methodLink "PackageBook$Expander" (11 : Nat) ({ cls := "PackageBook$Row", name := "<init>", desc := "(I)V" } : Jvm.MethodName)) ∈ uW := uW_of 219 (by decide +kernel) (by decide +kernel)
theorem d_Expander_init_15 : decode prog_3_method_1_code 15 = .ok (.putfield 14, 3) := by decide +kernel
theorem k_248 : (Jvm.Cond.fieldLink "PackageBook$Expander" (14 : Nat) "PackageBook$Expander" "expanded" "LPackageBook$Row;") ∈ uW := uW_of 248 (by decide +kernel) (by decide +kernel)
theorem d_Expander_init_18 : decode prog_3_method_1_code 18 = .ok (.aload_n 0, 1) := by decide +kernel
theorem d_Expander_init_19 : decode prog_3_method_1_code 19 = .ok (.sipush 316, 3) := by decide +kernel
theorem d_Expander_init_22 : decode prog_3_method_1_code 22 = .ok (.newarray .int, 2) := by decide +kernel
theorem d_Expander_init_24 : decode prog_3_method_1_code 24 = .ok (.putfield 20, 3) := by decide +kernel
theorem k_251 : (Jvm.Cond.fieldLink "PackageBook$Expander" (20 : Nat) "PackageBook$Expander" "told" "[I") ∈ uW := uW_of 251 (by decide +kernel) (by decide +kernel)
theorem d_Expander_init_27 : decode prog_3_method_1_code 27 = .ok (.aload_n 0, 1) := by decide +kernel
theorem d_Expander_init_28 : decode prog_3_method_1_code 28 = .ok (.new 24, 3) := by decide +kernel
theorem k_220 : (Jvm.Cond.classLink "PackageBook$Expander" (24 : Nat) "PackageBook$Code") ∈ uW := uW_of 220 (by decide +kernel) (by decide +kernel)
theorem k_221 : (Jvm.Cond.instantiable "PackageBook$Code" (3 : Nat)) ∈ uW := uW_of 221 (by decide +kernel) (by decide +kernel)
theorem k_122 : (Jvm.Cond.initialized "PackageBook$Code") ∈ uW := uW_of 122 (by decide +kernel) (by decide +kernel)
theorem d_Expander_init_31 : decode prog_3_method_1_code 31 = .ok (.dup, 1) := by decide +kernel
theorem d_Expander_init_32 : decode prog_3_method_1_code 32 = .ok (.sipush 288, 3) := by decide +kernel
theorem d_Expander_init_35 : decode prog_3_method_1_code 35 = .ok (.invokespecial 26, 3) := by decide +kernel
theorem k_222 : (Jvm.Cond.methodLink "PackageBook$Expander" (26 : Nat) ({ cls := "PackageBook$Code", name := "<init>", desc := "(I)V" } : Jvm.MethodName)) ∈ uW := uW_of 222 (by decide +kernel) (by decide +kernel)
theorem k_224 : (Jvm.Cond.code ({ cls := "PackageBook$Code", name := "<init>", desc := "(I)V" } : Jvm.MethodName) prog_2_method_1_code (2 : Nat) (Option.none : Option Jvm.ClassFile.FieldType)) ∈ uW := uW_of 224 (by decide +kernel) (by decide +kernel)
theorem k_223 : (Jvm.Cond.instanceMethod ({ cls := "PackageBook$Code", name := "<init>", desc := "(I)V" } : Jvm.MethodName)) ∈ uW := uW_of 223 (by decide +kernel) (by decide +kernel)
theorem d_Expander_init_38 : decode prog_3_method_1_code 38 = .ok (.putfield 27, 3) := by decide +kernel
theorem k_252 : (Jvm.Cond.fieldLink "PackageBook$Expander" (27 : Nat) "PackageBook$Expander" "fixedFirst" "LPackageBook$Code;") ∈ uW := uW_of 252 (by decide +kernel) (by decide +kernel)
theorem d_Expander_init_41 : decode prog_3_method_1_code 41 = .ok (.aload_n 0, 1) := by decide +kernel
theorem d_Expander_init_42 : decode prog_3_method_1_code 42 = .ok (.new 24, 3) := by decide +kernel
theorem d_Expander_init_45 : decode prog_3_method_1_code 45 = .ok (.dup, 1) := by decide +kernel
theorem d_Expander_init_46 : decode prog_3_method_1_code 46 = .ok (.bipush 32, 2) := by decide +kernel
theorem d_Expander_init_48 : decode prog_3_method_1_code 48 = .ok (.invokespecial 26, 3) := by decide +kernel
theorem d_Expander_init_51 : decode prog_3_method_1_code 51 = .ok (.putfield 31, 3) := by decide +kernel
theorem k_253 : (Jvm.Cond.fieldLink "PackageBook$Expander" (31 : Nat) "PackageBook$Expander" "fixedSecond" "LPackageBook$Code;") ∈ uW := uW_of 253 (by decide +kernel) (by decide +kernel)
theorem d_Expander_init_54 : decode prog_3_method_1_code 54 = .ok (.aload_n 0, 1) := by decide +kernel
theorem d_Expander_init_55 : decode prog_3_method_1_code 55 = .ok (.new 24, 3) := by decide +kernel
theorem d_Expander_init_58 : decode prog_3_method_1_code 58 = .ok (.dup, 1) := by decide +kernel
theorem d_Expander_init_59 : decode prog_3_method_1_code 59 = .ok (.sipush 286, 3) := by decide +kernel
theorem d_Expander_init_62 : decode prog_3_method_1_code 62 = .ok (.invokespecial 26, 3) := by decide +kernel
theorem d_Expander_init_65 : decode prog_3_method_1_code 65 = .ok (.putfield 34, 3) := by decide +kernel
theorem k_254 : (Jvm.Cond.fieldLink "PackageBook$Expander" (34 : Nat) "PackageBook$Expander" "first" "LPackageBook$Code;") ∈ uW := uW_of 254 (by decide +kernel) (by decide +kernel)
theorem d_Expander_init_68 : decode prog_3_method_1_code 68 = .ok (.aload_n 0, 1) := by decide +kernel
theorem d_Expander_init_69 : decode prog_3_method_1_code 69 = .ok (.new 24, 3) := by decide +kernel
theorem d_Expander_init_72 : decode prog_3_method_1_code 72 = .ok (.dup, 1) := by decide +kernel
theorem d_Expander_init_73 : decode prog_3_method_1_code 73 = .ok (.bipush 30, 2) := by decide +kernel
theorem d_Expander_init_75 : decode prog_3_method_1_code 75 = .ok (.invokespecial 26, 3) := by decide +kernel
theorem d_Expander_init_78 : decode prog_3_method_1_code 78 = .ok (.putfield 37, 3) := by decide +kernel
theorem k_255 : (Jvm.Cond.fieldLink "PackageBook$Expander" (37 : Nat) "PackageBook$Expander" "second" "LPackageBook$Code;") ∈ uW := uW_of 255 (by decide +kernel) (by decide +kernel)
theorem d_Expander_init_81 : decode prog_3_method_1_code 81 = .ok (.aload_n 0, 1) := by decide +kernel
theorem d_Expander_init_82 : decode prog_3_method_1_code 82 = .ok (.new 24, 3) := by decide +kernel
theorem d_Expander_init_85 : decode prog_3_method_1_code 85 = .ok (.dup, 1) := by decide +kernel
theorem d_Expander_init_86 : decode prog_3_method_1_code 86 = .ok (.getstatic 40, 3) := by decide +kernel
theorem k_239 : (Jvm.Cond.fieldLink "PackageBook$Expander" (40 : Nat) "PackageBook$Expander" "THIRD_ORDER" "[I") ∈ uW := uW_of 239 (by decide +kernel) (by decide +kernel)
theorem d_Expander_init_89 : decode prog_3_method_1_code 89 = .ok (.arraylength, 1) := by decide +kernel
theorem d_Expander_init_90 : decode prog_3_method_1_code 90 = .ok (.invokespecial 26, 3) := by decide +kernel
theorem d_Expander_init_93 : decode prog_3_method_1_code 93 = .ok (.putfield 43, 3) := by decide +kernel
theorem k_256 : (Jvm.Cond.fieldLink "PackageBook$Expander" (43 : Nat) "PackageBook$Expander" "third" "LPackageBook$Code;") ∈ uW := uW_of 256 (by decide +kernel) (by decide +kernel)
theorem d_Expander_init_96 : decode prog_3_method_1_code 96 = .ok (.aload_n 0, 1) := by decide +kernel
theorem d_Expander_init_97 : decode prog_3_method_1_code 97 = .ok (.iconst 0, 1) := by decide +kernel
theorem d_Expander_init_98 : decode prog_3_method_1_code 98 = .ok (.newarray .byte, 2) := by decide +kernel
theorem d_Expander_init_100 : decode prog_3_method_1_code 100 = .ok (.putfield 46, 3) := by decide +kernel
theorem k_257 : (Jvm.Cond.fieldLink "PackageBook$Expander" (46 : Nat) "PackageBook$Expander" "row" "[B") ∈ uW := uW_of 257 (by decide +kernel) (by decide +kernel)
theorem d_Expander_init_103 : decode prog_3_method_1_code 103 = .ok (.sipush 320, 3) := by decide +kernel
theorem d_Expander_init_106 : decode prog_3_method_1_code 106 = .ok (.newarray .int, 2) := by decide +kernel
theorem d_Expander_init_108 : decode prog_3_method_1_code 108 = .ok (.astore_n 1, 1) := by decide +kernel
theorem d_Expander_init_109 : decode prog_3_method_1_code 109 = .ok (.aload_n 1, 1) := by decide +kernel
theorem d_Expander_init_110 : decode prog_3_method_1_code 110 = .ok (.iconst 0, 1) := by decide +kernel
theorem d_Expander_init_111 : decode prog_3_method_1_code 111 = .ok (.sipush 144, 3) := by decide +kernel
theorem d_Expander_init_114 : decode prog_3_method_1_code 114 = .ok (.bipush 8, 2) := by decide +kernel
theorem d_Expander_init_116 : decode prog_3_method_1_code 116 = .ok (.invokestatic 50, 3) := by decide +kernel
theorem k_241 : (Jvm.Cond.methodLink "PackageBook$Expander" (50 : Nat) ({ cls := "PackageBook$Expander", name := "setAll", desc := "([IIII)V" } : Jvm.MethodName)) ∈ uW := uW_of 241 (by decide +kernel) (by decide +kernel)
theorem k_121 : (Jvm.Cond.initialized "PackageBook$Expander") ∈ uW := uW_of 121 (by decide +kernel) (by decide +kernel)
theorem k_243 : (Jvm.Cond.code ({ cls := "PackageBook$Expander", name := "setAll", desc := "([IIII)V" } : Jvm.MethodName) prog_3_method_2_code (5 : Nat) (Option.none : Option Jvm.ClassFile.FieldType)) ∈ uW := uW_of 243 (by decide +kernel) (by decide +kernel)
theorem k_242 : (Jvm.Cond.static ({ cls := "PackageBook$Expander", name := "setAll", desc := "([IIII)V" } : Jvm.MethodName)) ∈ uW := uW_of 242 (by decide +kernel) (by decide +kernel)
theorem d_Expander_init_119 : decode prog_3_method_1_code 119 = .ok (.aload_n 1, 1) := by decide +kernel
theorem d_Expander_init_120 : decode prog_3_method_1_code 120 = .ok (.sipush 144, 3) := by decide +kernel
theorem d_Expander_init_123 : decode prog_3_method_1_code 123 = .ok (.sipush 256, 3) := by decide +kernel
theorem d_Expander_init_126 : decode prog_3_method_1_code 126 = .ok (.bipush 9, 2) := by decide +kernel
theorem d_Expander_init_128 : decode prog_3_method_1_code 128 = .ok (.invokestatic 50, 3) := by decide +kernel
theorem d_Expander_init_131 : decode prog_3_method_1_code 131 = .ok (.aload_n 1, 1) := by decide +kernel
theorem d_Expander_init_132 : decode prog_3_method_1_code 132 = .ok (.sipush 256, 3) := by decide +kernel
theorem d_Expander_init_135 : decode prog_3_method_1_code 135 = .ok (.sipush 280, 3) := by decide +kernel
theorem d_Expander_init_138 : decode prog_3_method_1_code 138 = .ok (.bipush 7, 2) := by decide +kernel
theorem d_Expander_init_140 : decode prog_3_method_1_code 140 = .ok (.invokestatic 50, 3) := by decide +kernel
theorem d_Expander_init_143 : decode prog_3_method_1_code 143 = .ok (.aload_n 1, 1) := by decide +kernel
theorem d_Expander_init_144 : decode prog_3_method_1_code 144 = .ok (.sipush 280, 3) := by decide +kernel
theorem d_Expander_init_147 : decode prog_3_method_1_code 147 = .ok (.sipush 288, 3) := by decide +kernel
theorem d_Expander_init_150 : decode prog_3_method_1_code 150 = .ok (.bipush 8, 2) := by decide +kernel
theorem d_Expander_init_152 : decode prog_3_method_1_code 152 = .ok (.invokestatic 50, 3) := by decide +kernel
theorem d_Expander_init_155 : decode prog_3_method_1_code 155 = .ok (.aload_n 1, 1) := by decide +kernel
theorem d_Expander_init_156 : decode prog_3_method_1_code 156 = .ok (.sipush 288, 3) := by decide +kernel
theorem d_Expander_init_159 : decode prog_3_method_1_code 159 = .ok (.sipush 320, 3) := by decide +kernel
theorem d_Expander_init_162 : decode prog_3_method_1_code 162 = .ok (.iconst 5, 1) := by decide +kernel
theorem d_Expander_init_163 : decode prog_3_method_1_code 163 = .ok (.invokestatic 50, 3) := by decide +kernel
theorem d_Expander_init_166 : decode prog_3_method_1_code 166 = .ok (.aload_n 0, 1) := by decide +kernel
theorem d_Expander_init_167 : decode prog_3_method_1_code 167 = .ok (.getfield 27, 3) := by decide +kernel
theorem d_Expander_init_170 : decode prog_3_method_1_code 170 = .ok (.aload_n 1, 1) := by decide +kernel
theorem d_Expander_init_171 : decode prog_3_method_1_code 171 = .ok (.iconst 0, 1) := by decide +kernel
theorem d_Expander_init_172 : decode prog_3_method_1_code 172 = .ok (.sipush 288, 3) := by decide +kernel
theorem d_Expander_init_175 : decode prog_3_method_1_code 175 = .ok (.invokevirtual 54, 3) := by decide +kernel
theorem k_244 : (Jvm.Cond.methodLink "PackageBook$Expander" (54 : Nat) ({ cls := "PackageBook$Code", name := "tell", desc := "([III)V" } : Jvm.MethodName)) ∈ uW := uW_of 244 (by decide +kernel) (by decide +kernel)
theorem k_247 : (Jvm.Cond.code ({ cls := "PackageBook$Code", name := "tell", desc := "([III)V" } : Jvm.MethodName) prog_2_method_2_code (7 : Nat) (Option.none : Option Jvm.ClassFile.FieldType)) ∈ uW := uW_of 247 (by decide +kernel) (by decide +kernel)
theorem k_245 : (Jvm.Cond.instanceMethod ({ cls := "PackageBook$Code", name := "tell", desc := "([III)V" } : Jvm.MethodName)) ∈ uW := uW_of 245 (by decide +kernel) (by decide +kernel)
theorem k_246 : (Jvm.Cond.selects "PackageBook$Code" ({ cls := "PackageBook$Code", name := "tell", desc := "([III)V" } : Jvm.MethodName) ({ cls := "PackageBook$Code", name := "tell", desc := "([III)V" } : Jvm.MethodName)) ∈ uW := uW_of 246 (by decide +kernel) (by decide +kernel)
theorem d_Expander_init_178 : decode prog_3_method_1_code 178 = .ok (.aload_n 0, 1) := by decide +kernel
theorem d_Expander_init_179 : decode prog_3_method_1_code 179 = .ok (.getfield 31, 3) := by decide +kernel
theorem d_Expander_init_182 : decode prog_3_method_1_code 182 = .ok (.aload_n 1, 1) := by decide +kernel
theorem d_Expander_init_183 : decode prog_3_method_1_code 183 = .ok (.sipush 288, 3) := by decide +kernel
theorem d_Expander_init_186 : decode prog_3_method_1_code 186 = .ok (.bipush 32, 2) := by decide +kernel
theorem d_Expander_init_188 : decode prog_3_method_1_code 188 = .ok (.invokevirtual 54, 3) := by decide +kernel
theorem d_Expander_init_191 : decode prog_3_method_1_code 191 = .ok (.return_, 1) := by decide +kernel
abbrev y_Expander_init : MethodName := ⟨"PackageBook$Expander", "<init>", "()V"⟩
abbrev i_Expander_init : pb_I := (y_Expander_init, prog_3_method_1_code, 2, (Option.none : Option Jvm.ClassFile.FieldType), [], { frames := 2, cells := 20, slots := 17233, locals := 41 })
set_option maxRecDepth 100000 in
set_option maxHeartbeats 4000000 in
theorem c_Exp_init {l : Launch} (hl : l.stackTraces = false) (G : pb_G) (h : Nat) : Cn l G i_Expander_init [.ref h] [(h, .inr (5, [.null, .null, .null, .null, .null, .null, .null, .null, .int 0, .int 0, .int 0]))] (S := Nat × Nat × Nat × Nat × Nat × Nat × Nat × Nat × Nat × Nat × Nat × Nat × Nat × Nat × Nat × Nat × Nat × Nat × Nat × Int32 × Int32 × (Nat → Int32) × (Nat → Int32) × (Nat → Int32) × (Nat → Int32)) (fun v u => v = none) (fun u => [(h, .inr (5, [.ref u.1, .ref u.2.2.1, .ref u.2.2.2.1, .ref u.2.2.2.2.2.2.1, .ref u.2.2.2.2.2.2.2.2.2.1, .ref u.2.2.2.2.2.2.2.2.2.2.2.2.1, .ref u.2.2.2.2.2.2.2.2.2.2.2.2.2.2.2.1, .ref u.2.2.2.2.2.2.2.2.2.2.2.2.2.2.2.2.2.2.1, .int 0, .int 0, .int 0])), (u.1, .inr (0, [.ref u.2.1, .int 0])), (u.2.1, .inl (G.2.1, 4000, .inl (fun _ => 0))), (u.2.2.1, .inl (G.2.2.1, 316, .inl (fun _ => 0))), (u.2.2.2.1, .inr (1, [.ref u.2.2.2.2.1, .ref u.2.2.2.2.2.1, .int u.2.2.2.2.2.2.2.2.2.2.2.2.2.2.2.2.2.2.2.1])), (u.2.2.2.2.1, .inl (G.2.2.1, 16, .inl u.2.2.2.2.2.2.2.2.2.2.2.2.2.2.2.2.2.2.2.2.2.1)), (u.2.2.2.2.2.1, .inl (G.2.2.1, 288, .inl u.2.2.2.2.2.2.2.2.2.2.2.2.2.2.2.2.2.2.2.2.2.2.1)), (u.2.2.2.2.2.2.1, .inr (1, [.ref u.2.2.2.2.2.2.2.1, .ref u.2.2.2.2.2.2.2.2.1, .int u.2.2.2.2.2.2.2.2.2.2.2.2.2.2.2.2.2.2.2.2.1])), (u.2.2.2.2.2.2.2.1, .inl (G.2.2.1, 16, .inl u.2.2.2.2.2.2.2.2.2.2.2.2.2.2.2.2.2.2.2.2.2.2.2.1)), (u.2.2.2.2.2.2.2.2.1, .inl (G.2.2.1, 32, .inl u.2.2.2.2.2.2.2.2.2.2.2.2.2.2.2.2.2.2.2.2.2.2.2.2)), (u.2.2.2.2.2.2.2.2.2.1, .inr (1, [.ref u.2.2.2.2.2.2.2.2.2.2.1, .ref u.2.2.2.2.2.2.2.2.2.2.2.1, .int 0])), (u.2.2.2.2.2.2.2.2.2.2.1, .inl (G.2.2.1, 16, .inl (fun _ => 0))), (u.2.2.2.2.2.2.2.2.2.2.2.1, .inl (G.2.2.1, 286, .inl (fun _ => 0))), (u.2.2.2.2.2.2.2.2.2.2.2.2.1, .inr (1, [.ref u.2.2.2.2.2.2.2.2.2.2.2.2.2.1, .ref u.2.2.2.2.2.2.2.2.2.2.2.2.2.2.1, .int 0])), (u.2.2.2.2.2.2.2.2.2.2.2.2.2.1, .inl (G.2.2.1, 16, .inl (fun _ => 0))), (u.2.2.2.2.2.2.2.2.2.2.2.2.2.2.1, .inl (G.2.2.1, 30, .inl (fun _ => 0))), (u.2.2.2.2.2.2.2.2.2.2.2.2.2.2.2.1, .inr (1, [.ref u.2.2.2.2.2.2.2.2.2.2.2.2.2.2.2.2.1, .ref u.2.2.2.2.2.2.2.2.2.2.2.2.2.2.2.2.2.1, .int 0])), (u.2.2.2.2.2.2.2.2.2.2.2.2.2.2.2.2.1, .inl (G.2.2.1, 16, .inl (fun _ => 0))), (u.2.2.2.2.2.2.2.2.2.2.2.2.2.2.2.2.2.1, .inl (G.2.2.1, 19, .inl (fun _ => 0))), (u.2.2.2.2.2.2.2.2.2.2.2.2.2.2.2.2.2.2.1, .inl (G.2.1, 0, .inl (fun _ => 0)))]) := by
  refine Cn.of hl (by decide +kernel) rfl (Nat.le_of_ble_eq_true rfl) (fun M hQ => ?_)
  refine pb_eq (pc' := 0) (lo' := [(0, .ref h)]) (rest' := []) (ws' := [(h, .inr (5, [.null, .null, .null, .null, .null, .null, .null, .null, .int 0, .int 0, .int 0]))]) ?_
  refine pb_aload_n (pc := 0) d_Expander_init_0 0 rfl rfl ?_
  refine pb_objInit (pc := 1) d_Expander_init_1 k_217 k_148 k_149 (by decide) (Nat.le_of_ble_eq_true rfl) ?_
  refine pb_aload_n (pc := 4) d_Expander_init_4 0 rfl rfl ?_
  refine pb_new (pc := 5) (ci := 0) (fs := [.null, .int 0]) d_Expander_init_5 t_Row t_Row_ok rfl in_Row k_218 k_151 k_119 (by decide) (by decide) (by decide) (fun q1 => ?_)
  refine pb_eq (pc' := 8) (lo' := [(0, .ref h)]) (rest' := [.ref q1, .ref h]) (ws' := [(h, .inr (5, [.null, .null, .null, .null, .null, .null, .null, .null, .int 0, .int 0, .int 0])), (q1, .inr (0, [.null, .int 0]))]) ?_
  refine pb_dup (pc := 8) d_Expander_init_8 rfl ?_
  refine pb_sipush (pc := 9) (v := 4000) d_Expander_init_9 (by decide) ?_
  refine pb_callI (pc := 12) (nA := 1) (rest := [.ref q1, .ref h]) (wr := [(h, .inr (5, [.null, .null, .null, .null, .null, .null, .null, .null, .int 0, .int 0, .int 0]))]) d_Expander_init_12 (c_Row_init hl G q1 4000 4000 (by decide) (by decide) (by decide)) [1] [0] (by decide) rfl rfl rfl (by decide) (by decide) k_154 rfl k_119 k_219 k_153 rfl (by decide +kernel) (by decide) rfl rfl (Nat.le_of_ble_eq_true rfl) (by decide) (fun v9 u3 h2 => ?_)
  obtain ⟨q_4, rfl⟩ : ∃ z9, z9 = u3 := ⟨_, rfl⟩
  have eh2 := h2
  have eh2 : v9 = none := eh2
  subst eh2
  refine pb_eq (pc' := 15) (lo' := [(0, .ref h)]) (rest' := [.ref q1, .ref h]) (ws' := [(h, .inr (5, [.null, .null, .null, .null, .null, .null, .null, .null, .int 0, .int 0, .int 0])), (q1, .inr (0, [.ref q_4, .int 0])), (q_4, .inl (G.2.1, 4000, .inl (fun _ => 0)))]) ?_
  refine pb_putF (pc := 15) (ty := (.object "PackageBook$Row")) (ws' := [(h, .inr (5, [.ref q1, .null, .null, .null, .null, .null, .null, .null, .int 0, .int 0, .int 0])), (q1, .inr (0, [.ref q_4, .int 0])), (q_4, .inl (G.2.1, 4000, .inl (fun _ => 0)))]) d_Expander_init_15 0 0 t_Expander t_Expander_ok n_Expander rfl rfl (by decide) in_Expander k_248 rfl rfl rfl (by decide +kernel) rfl rfl (Nat.le_of_ble_eq_true rfl) rfl ?_
  refine pb_aload_n (pc := 18) d_Expander_init_18 0 rfl rfl ?_
  refine pb_sipush (pc := 19) (v := 316) d_Expander_init_19 (by decide) ?_
  refine pb_newi (pc := 22) (N := 316) d_Expander_init_22 k_211 (by decide) (by decide) (by decide) (by decide) (by decide) (fun q5 => ?_)
  refine pb_eq (pc' := 24) (lo' := [(0, .ref h)]) (rest' := [.ref q5, .ref h]) (ws' := [(h, .inr (5, [.ref q1, .null, .null, .null, .null, .null, .null, .null, .int 0, .int 0, .int 0])), (q1, .inr (0, [.ref q_4, .int 0])), (q_4, .inl (G.2.1, 4000, .inl (fun _ => 0))), (q5, .inl (G.2.2.1, 316, .inl (fun _ => 0)))]) ?_
  refine pb_putF (pc := 24) (ty := (.array .int)) (ws' := [(h, .inr (5, [.ref q1, .ref q5, .null, .null, .null, .null, .null, .null, .int 0, .int 0, .int 0])), (q1, .inr (0, [.ref q_4, .int 0])), (q_4, .inl (G.2.1, 4000, .inl (fun _ => 0))), (q5, .inl (G.2.2.1, 316, .inl (fun _ => 0)))]) d_Expander_init_24 0 1 t_Expander t_Expander_ok n_Expander rfl rfl (by decide) in_Expander k_251 rfl rfl rfl (by decide +kernel) rfl rfl (Nat.le_of_ble_eq_true rfl) rfl ?_
  refine pb_aload_n (pc := 27) d_Expander_init_27 0 rfl rfl ?_
  refine pb_new (pc := 28) (ci := 1) (fs := [.null, .null, .int 0]) d_Expander_init_28 t_Code t_Code_ok rfl in_Code k_220 k_221 k_122 (by decide) (by decide) (by decide) (fun q6 => ?_)
  refine pb_eq (pc' := 31) (lo' := [(0, .ref h)]) (rest' := [.ref q6, .ref h]) (ws' := [(h, .inr (5, [.ref q1, .ref q5, .null, .null, .null, .null, .null, .null, .int 0, .int 0, .int 0])), (q1, .inr (0, [.ref q_4, .int 0])), (q_4, .inl (G.2.1, 4000, .inl (fun _ => 0))), (q5, .inl (G.2.2.1, 316, .inl (fun _ => 0))), (q6, .inr (1, [.null, .null, .int 0]))]) ?_
  refine pb_dup (pc := 31) d_Expander_init_31 rfl ?_
  refine pb_sipush (pc := 32) (v := 288) d_Expander_init_32 (by decide) ?_
  refine pb_callI (pc := 35) (nA := 1) (rest := [.ref q6, .ref h]) (wr := [(h, .inr (5, [.ref q1, .ref q5, .null, .null, .null, .null, .null, .null, .int 0, .int 0, .int 0])), (q1, .inr (0, [.ref q_4, .int 0])), (q_4, .inl (G.2.1, 4000, .inl (fun _ => 0))), (q5, .inl (G.2.2.1, 316, .inl (fun _ => 0)))]) d_Expander_init_35 (c_Code_init hl G q6 288 288 (by decide) (by decide) (by decide)) [4] [0, 1, 2, 3] (by decide) rfl rfl rfl (by decide) (by decide) k_224 rfl k_122 k_222 k_223 rfl (by decide +kernel) (by decide) rfl rfl (Nat.le_of_ble_eq_true rfl) (by decide) (fun v9 u8 h7 => ?_)
  obtain ⟨c_9, y_10⟩ := u8
  have eh7 := h7
  have eh7 : v9 = none := eh7
  subst eh7
  refine pb_eq (pc' := 38) (lo' := [(0, .ref h)]) (rest' := [.ref q6, .ref h]) (ws' := [(h, .inr (5, [.ref q1, .ref q5, .null, .null, .null, .null, .null, .null, .int 0, .int 0, .int 0])), (q1, .inr (0, [.ref q_4, .int 0])), (q_4, .inl (G.2.1, 4000, .inl (fun _ => 0))), (q5, .inl (G.2.2.1, 316, .inl (fun _ => 0))), (q6, .inr (1, [.ref c_9, .ref y_10, .int 0])), (c_9, .inl (G.2.2.1, 16, .inl (fun _ => 0))), (y_10, .inl (G.2.2.1, 288, .inl (fun _ => 0)))]) ?_
  refine pb_putF (pc := 38) (ty := (.object "PackageBook$Code")) (ws' := [(h, .inr (5, [.ref q1, .ref q5, .ref q6, .null, .null, .null, .null, .null, .int 0, .int 0, .int 0])), (q1, .inr (0, [.ref q_4, .int 0])), (q_4, .inl (G.2.1, 4000, .inl (fun _ => 0))), (q5, .inl (G.2.2.1, 316, .inl (fun _ => 0))), (q6, .inr (1, [.ref c_9, .ref y_10, .int 0])), (c_9, .inl (G.2.2.1, 16, .inl (fun _ => 0))), (y_10, .inl (G.2.2.1, 288, .inl (fun _ => 0)))]) d_Expander_init_38 0 2 t_Expander t_Expander_ok n_Expander rfl rfl (by decide) in_Expander k_252 rfl rfl rfl (by decide +kernel) rfl rfl (Nat.le_of_ble_eq_true rfl) rfl ?_
  refine pb_aload_n (pc := 41) d_Expander_init_41 0 rfl rfl ?_
  refine pb_new (pc := 42) (ci := 1) (fs := [.null, .null, .int 0]) d_Expander_init_42 t_Code t_Code_ok rfl in_Code k_220 k_221 k_122 (by decide) (by decide) (by decide) (fun q11 => ?_)
  refine pb_eq (pc' := 45) (lo' := [(0, .ref h)]) (rest' := [.ref q11, .ref h]) (ws' := [(h, .inr (5, [.ref q1, .ref q5, .ref q6, .null, .null, .null, .null, .null, .int 0, .int 0, .int 0])), (q1, .inr (0, [.ref q_4, .int 0])), (q_4, .inl (G.2.1, 4000, .inl (fun _ => 0))), (q5, .inl (G.2.2.1, 316, .inl (fun _ => 0))), (q6, .inr (1, [.ref c_9, .ref y_10, .int 0])), (c_9, .inl (G.2.2.1, 16, .inl (fun _ => 0))), (y_10, .inl (G.2.2.1, 288, .inl (fun _ => 0))), (q11, .inr (1, [.null, .null, .int 0]))]) ?_
  refine pb_dup (pc := 45) d_Expander_init_45 rfl ?_
  refine pb_bipush (pc := 46) (v := 32) d_Expander_init_46 (by decide) ?_
  refine pb_callI (pc := 48) (nA := 1) (rest := [.ref q11, .ref h]) (wr := [(h, .inr (5, [.ref q1, .ref q5, .ref q6, .null, .null, .null, .null, .null, .int 0, .int 0, .int 0])), (q1, .inr (0, [.ref q_4, .int 0])), (q_4, .inl (G.2.1, 4000, .inl (fun _ => 0))), (q5, .inl (G.2.2.1, 316, .inl (fun _ => 0))), (q6, .inr (1, [.ref c_9, .ref y_10, .int 0])), (c_9, .inl (G.2.2.1, 16, .inl (fun _ => 0))), (y_10, .inl (G.2.2.1, 288, .inl (fun _ => 0)))]) d_Expander_init_48 (c_Code_init hl G q11 32 32 (by decide) (by decide) (by decide)) [7] [0, 1, 2, 3, 4, 5, 6] (by decide) rfl rfl rfl (by decide) (by decide) k_224 rfl k_122 k_222 k_223 rfl (by decide +kernel) (by decide) rfl rfl (Nat.le_of_ble_eq_true rfl) (by decide) (fun v9 u13 h12 => ?_)
  obtain ⟨c_14, y_15⟩ := u13
  have eh12 := h12
  have eh12 : v9 = none := eh12
  subst eh12
  refine pb_eq (pc' := 51) (lo' := [(0, .ref h)]) (rest' := [.ref q11, .ref h]) (ws' := [(h, .inr (5, [.ref q1, .ref q5, .ref q6, .null, .null, .null, .null, .null, .int 0, .int 0, .int 0])), (q1, .inr (0, [.ref q_4, .int 0])), (q_4, .inl (G.2.1, 4000, .inl (fun _ => 0))), (q5, .inl (G.2.2.1, 316, .inl (fun _ => 0))), (q6, .inr (1, [.ref c_9, .ref y_10, .int 0])), (c_9, .inl (G.2.2.1, 16, .inl (fun _ => 0))), (y_10, .inl (G.2.2.1, 288, .inl (fun _ => 0))), (q11, .inr (1, [.ref c_14, .ref y_15, .int 0])), (c_14, .inl (G.2.2.1, 16, .inl (fun _ => 0))), (y_15, .inl (G.2.2.1, 32, .inl (fun _ => 0)))]) ?_
  refine pb_putF (pc := 51) (ty := (.object "PackageBook$Code")) (ws' := [(h, .inr (5, [.ref q1, .ref q5, .ref q6, .ref q11, .null, .null, .null, .null, .int 0, .int 0, .int 0])), (q1, .inr (0, [.ref q_4, .int 0])), (q_4, .inl (G.2.1, 4000, .inl (fun _ => 0))), (q5, .inl (G.2.2.1, 316, .inl (fun _ => 0))), (q6, .inr (1, [.ref c_9, .ref y_10, .int 0])), (c_9, .inl (G.2.2.1, 16, .inl (fun _ => 0))), (y_10, .inl (G.2.2.1, 288, .inl (fun _ => 0))), (q11, .inr (1, [.ref c_14, .ref y_15, .int 0])), (c_14, .inl (G.2.2.1, 16, .inl (fun _ => 0))), (y_15, .inl (G.2.2.1, 32, .inl (fun _ => 0)))]) d_Expander_init_51 0 3 t_Expander t_Expander_ok n_Expander rfl rfl (by decide) in_Expander k_253 rfl rfl rfl (by decide +kernel) rfl rfl (Nat.le_of_ble_eq_true rfl) rfl ?_
  refine pb_aload_n (pc := 54) d_Expander_init_54 0 rfl rfl ?_
  refine pb_new (pc := 55) (ci := 1) (fs := [.null, .null, .int 0]) d_Expander_init_55 t_Code t_Code_ok rfl in_Code k_220 k_221 k_122 (by decide) (by decide) (by decide) (fun q16 => ?_)
  refine pb_eq (pc' := 58) (lo' := [(0, .ref h)]) (rest' := [.ref q16, .ref h]) (ws' := [(h, .inr (5, [.ref q1, .ref q5, .ref q6, .ref q11, .null, .null, .null, .null, .int 0, .int 0, .int 0])), (q1, .inr (0, [.ref q_4, .int 0])), (q_4, .inl (G.2.1, 4000, .inl (fun _ => 0))), (q5, .inl (G.2.2.1, 316, .inl (fun _ => 0))), (q6, .inr (1, [.ref c_9, .ref y_10, .int 0])), (c_9, .inl (G.2.2.1, 16, .inl (fun _ => 0))), (y_10, .inl (G.2.2.1, 288, .inl (fun _ => 0))), (q11, .inr (1, [.ref c_14, .ref y_15, .int 0])), (c_14, .inl (G.2.2.1, 16, .inl (fun _ => 0))), (y_15, .inl (G.2.2.1, 32, .inl (fun _ => 0))), (q16, .inr (1, [.null, .null, .int 0]))]) ?_
  refine pb_dup (pc := 58) d_Expander_init_58 rfl ?_
  refine pb_sipush (pc := 59) (v := 286) d_Expander_init_59 (by decide) ?_
  refine pb_callI (pc := 62) (nA := 1) (rest := [.ref q16, .ref h]) (wr := [(h, .inr (5, [.ref q1, .ref q5, .ref q6, .ref q11, .null, .null, .null, .null, .int 0, .int 0, .int 0])), (q1, .inr (0, [.ref q_4, .int 0])), (q_4, .inl (G.2.1, 4000, .inl (fun _ => 0))), (q5, .inl (G.2.2.1, 316, .inl (fun _ => 0))), (q6, .inr (1, [.ref c_9, .ref y_10, .int 0])), (c_9, .inl (G.2.2.1, 16, .inl (fun _ => 0))), (y_10, .inl (G.2.2.1, 288, .inl (fun _ => 0))), (q11, .inr (1, [.ref c_14, .ref y_15, .int 0])), (c_14, .inl (G.2.2.1, 16, .inl (fun _ => 0))), (y_15, .inl (G.2.2.1, 32, .inl (fun _ => 0)))]) d_Expander_init_62 (c_Code_init hl G q16 286 286 (by decide) (by decide) (by decide)) [10] [0, 1, 2, 3, 4, 5, 6, 7, 8, 9] (by decide) rfl rfl rfl (by decide) (by decide) k_224 rfl k_122 k_222 k_223 rfl (by decide +kernel) (by decide) rfl rfl (Nat.le_of_ble_eq_true rfl) (by decide) (fun v9 u18 h17 => ?_)
  obtain ⟨c_19, y_20⟩ := u18
  have eh17 := h17
  have eh17 : v9 = none := eh17
  subst eh17
  refine pb_eq (pc' := 65) (lo' := [(0, .ref h)]) (rest' := [.ref q16, .ref h]) (ws' := [(h, .inr (5, [.ref q1, .ref q5, .ref q6, .ref q11, .null, .null, .null, .null, .int 0, .int 0, .int 0])), (q1, .inr (0, [.ref q_4, .int 0])), (q_4, .inl (G.2.1, 4000, .inl (fun _ => 0))), (q5, .inl (G.2.2.1, 316, .inl (fun _ => 0))), (q6, .inr (1, [.ref c_9, .ref y_10, .int 0])), (c_9, .inl (G.2.2.1, 16, .inl (fun _ => 0))), (y_10, .inl (G.2.2.1, 288, .inl (fun _ => 0))), (q11, .inr (1, [.ref c_14, .ref y_15, .int 0])), (c_14, .inl (G.2.2.1, 16, .inl (fun _ => 0))), (y_15, .inl (G.2.2.1, 32, .inl (fun _ => 0))), (q16, .inr (1, [.ref c_19, .ref y_20, .int 0])), (c_19, .inl (G.2.2.1, 16, .inl (fun _ => 0))), (y_20, .inl (G.2.2.1, 286, .inl (fun _ => 0)))]) ?_
  refine pb_putF (pc := 65) (ty := (.object "PackageBook$Code")) (ws' := [(h, .inr (5, [.ref q1, .ref q5, .ref q6, .ref q11, .ref q16, .null, .null, .null, .int 0, .int 0, .int 0])), (q1, .inr (0, [.ref q_4, .int 0])), (q_4, .inl (G.2.1, 4000, .inl (fun _ => 0))), (q5, .inl (G.2.2.1, 316, .inl (fun _ => 0))), (q6, .inr (1, [.ref c_9, .ref y_10, .int 0])), (c_9, .inl (G.2.2.1, 16, .inl (fun _ => 0))), (y_10, .inl (G.2.2.1, 288, .inl (fun _ => 0))), (q11, .inr (1, [.ref c_14, .ref y_15, .int 0])), (c_14, .inl (G.2.2.1, 16, .inl (fun _ => 0))), (y_15, .inl (G.2.2.1, 32, .inl (fun _ => 0))), (q16, .inr (1, [.ref c_19, .ref y_20, .int 0])), (c_19, .inl (G.2.2.1, 16, .inl (fun _ => 0))), (y_20, .inl (G.2.2.1, 286, .inl (fun _ => 0)))]) d_Expander_init_65 0 4 t_Expander t_Expander_ok n_Expander rfl rfl (by decide) in_Expander k_254 rfl rfl rfl (by decide +kernel) rfl rfl (Nat.le_of_ble_eq_true rfl) rfl ?_
  refine pb_aload_n (pc := 68) d_Expander_init_68 0 rfl rfl ?_
  refine pb_new (pc := 69) (ci := 1) (fs := [.null, .null, .int 0]) d_Expander_init_69 t_Code t_Code_ok rfl in_Code k_220 k_221 k_122 (by decide) (by decide) (by decide) (fun q21 => ?_)
  refine pb_eq (pc' := 72) (lo' := [(0, .ref h)]) (rest' := [.ref q21, .ref h]) (ws' := [(h, .inr (5, [.ref q1, .ref q5, .ref q6, .ref q11, .ref q16, .null, .null, .null, .int 0, .int 0, .int 0])), (q1, .inr (0, [.ref q_4, .int 0])), (q_4, .inl (G.2.1, 4000, .inl (fun _ => 0))), (q5, .inl (G.2.2.1, 316, .inl (fun _ => 0))), (q6, .inr (1, [.ref c_9, .ref y_10, .int 0])), (c_9, .inl (G.2.2.1, 16, .inl (fun _ => 0))), (y_10, .inl (G.2.2.1, 288, .inl (fun _ => 0))), (q11, .inr (1, [.ref c_14, .ref y_15, .int 0])), (c_14, .inl (G.2.2.1, 16, .inl (fun _ => 0))), (y_15, .inl (G.2.2.1, 32, .inl (fun _ => 0))), (q16, .inr (1, [.ref c_19, .ref y_20, .int 0])), (c_19, .inl (G.2.2.1, 16, .inl (fun _ => 0))), (y_20, .inl (G.2.2.1, 286, .inl (fun _ => 0))), (q21, .inr (1, [.null, .null, .int 0]))]) ?_
  refine pb_dup (pc := 72) d_Expander_init_72 rfl ?_
  refine pb_bipush (pc := 73) (v := 30) d_Expander_init_73 (by decide) ?_
  refine pb_callI (pc := 75) (nA := 1) (rest := [.ref q21, .ref h]) (wr := [(h, .inr (5, [.ref q1, .ref q5, .ref q6, .ref q11, .ref q16, .null, .null, .null, .int 0, .int 0, .int 0])), (q1, .inr (0, [.ref q_4, .int 0])), (q_4, .inl (G.2.1, 4000, .inl (fun _ => 0))), (q5, .inl (G.2.2.1, 316, .inl (fun _ => 0))), (q6, .inr (1, [.ref c_9, .ref y_10, .int 0])), (c_9, .inl (G.2.2.1, 16, .inl (fun _ => 0))), (y_10, .inl (G.2.2.1, 288, .inl (fun _ => 0))), (q11, .inr (1, [.ref c_14, .ref y_15, .int 0])), (c_14, .inl (G.2.2.1, 16, .inl (fun _ => 0))), (y_15, .inl (G.2.2.1, 32, .inl (fun _ => 0))), (q16, .inr (1, [.ref c_19, .ref y_20, .int 0])), (c_19, .inl (G.2.2.1, 16, .inl (fun _ => 0))), (y_20, .inl (G.2.2.1, 286, .inl (fun _ => 0)))]) d_Expander_init_75 (c_Code_init hl G q21 30 30 (by decide) (by decide) (by decide)) [13] [0, 1, 2, 3, 4, 5, 6, 7, 8, 9, 10, 11, 12] (by decide) rfl rfl rfl (by decide) (by decide) k_224 rfl k_122 k_222 k_223 rfl (by decide +kernel) (by decide) rfl rfl (Nat.le_of_ble_eq_true rfl) (by decide) (fun v9 u23 h22 => ?_)
  obtain ⟨c_24, y_25⟩ := u23
  have eh22 := h22
  have eh22 : v9 = none := eh22
  subst eh22
  refine pb_eq (pc' := 78) (lo' := [(0, .ref h)]) (rest' := [.ref q21, .ref h]) (ws' := [(h, .inr (5, [.ref q1, .ref q5, .ref q6, .ref q11, .ref q16, .null, .null, .null, .int 0, .int 0, .int 0])), (q1, .inr (0, [.ref q_4, .int 0])), (q_4, .inl (G.2.1, 4000, .inl (fun _ => 0))), (q5, .inl (G.2.2.1, 316, .inl (fun _ => 0))), (q6, .inr (1, [.ref c_9, .ref y_10, .int 0])), (c_9, .inl (G.2.2.1, 16, .inl (fun _ => 0))), (y_10, .inl (G.2.2.1, 288, .inl (fun _ => 0))), (q11, .inr (1, [.ref c_14, .ref y_15, .int 0])), (c_14, .inl (G.2.2.1, 16, .inl (fun _ => 0))), (y_15, .inl (G.2.2.1, 32, .inl (fun _ => 0))), (q16, .inr (1, [.ref c_19, .ref y_20, .int 0])), (c_19, .inl (G.2.2.1, 16, .inl (fun _ => 0))), (y_20, .inl (G.2.2.1, 286, .inl (fun _ => 0))), (q21, .inr (1, [.ref c_24, .ref y_25, .int 0])), (c_24, .inl (G.2.2.1, 16, .inl (fun _ => 0))), (y_25, .inl (G.2.2.1, 30, .inl (fun _ => 0)))]) ?_
  refine pb_putF (pc := 78) (ty := (.object "PackageBook$Code")) (ws' := [(h, .inr (5, [.ref q1, .ref q5, .ref q6, .ref q11, .ref q16, .ref q21, .null, .null, .int 0, .int 0, .int 0])), (q1, .inr (0, [.ref q_4, .int 0])), (q_4, .inl (G.2.1, 4000, .inl (fun _ => 0))), (q5, .inl (G.2.2.1, 316, .inl (fun _ => 0))), (q6, .inr (1, [.ref c_9, .ref y_10, .int 0])), (c_9, .inl (G.2.2.1, 16, .inl (fun _ => 0))), (y_10, .inl (G.2.2.1, 288, .inl (fun _ => 0))), (q11, .inr (1, [.ref c_14, .ref y_15, .int 0])), (c_14, .inl (G.2.2.1, 16, .inl (fun _ => 0))), (y_15, .inl (G.2.2.1, 32, .inl (fun _ => 0))), (q16, .inr (1, [.ref c_19, .ref y_20, .int 0])), (c_19, .inl (G.2.2.1, 16, .inl (fun _ => 0))), (y_20, .inl (G.2.2.1, 286, .inl (fun _ => 0))), (q21, .inr (1, [.ref c_24, .ref y_25, .int 0])), (c_24, .inl (G.2.2.1, 16, .inl (fun _ => 0))), (y_25, .inl (G.2.2.1, 30, .inl (fun _ => 0)))]) d_Expander_init_78 0 5 t_Expander t_Expander_ok n_Expander rfl rfl (by decide) in_Expander k_255 rfl rfl rfl (by decide +kernel) rfl rfl (Nat.le_of_ble_eq_true rfl) rfl ?_
  refine pb_aload_n (pc := 81) d_Expander_init_81 0 rfl rfl ?_
  refine pb_new (pc := 82) (ci := 1) (fs := [.null, .null, .int 0]) d_Expander_init_82 t_Code t_Code_ok rfl in_Code k_220 k_221 k_122 (by decide) (by decide) (by decide) (fun q26 => ?_)
  refine pb_eq (pc' := 85) (lo' := [(0, .ref h)]) (rest' := [.ref q26, .ref h]) (ws' := [(h, .inr (5, [.ref q1, .ref q5, .ref q6, .ref q11, .ref q16, .ref q21, .null, .null, .int 0, .int 0, .int 0])), (q1, .inr (0, [.ref q_4, .int 0])), (q_4, .inl (G.2.1, 4000, .inl (fun _ => 0))), (q5, .inl (G.2.2.1, 316, .inl (fun _ => 0))), (q6, .inr (1, [.ref c_9, .ref y_10, .int 0])), (c_9, .inl (G.2.2.1, 16, .inl (fun _ => 0))), (y_10, .inl (G.2.2.1, 288, .inl (fun _ => 0))), (q11, .inr (1, [.ref c_14, .ref y_15, .int 0])), (c_14, .inl (G.2.2.1, 16, .inl (fun _ => 0))), (y_15, .inl (G.2.2.1, 32, .inl (fun _ => 0))), (q16, .inr (1, [.ref c_19, .ref y_20, .int 0])), (c_19, .inl (G.2.2.1, 16, .inl (fun _ => 0))), (y_20, .inl (G.2.2.1, 286, .inl (fun _ => 0))), (q21, .inr (1, [.ref c_24, .ref y_25, .int 0])), (c_24, .inl (G.2.2.1, 16, .inl (fun _ => 0))), (y_25, .inl (G.2.2.1, 30, .inl (fun _ => 0))), (q26, .inr (1, [.null, .null, .int 0]))]) ?_
  refine pb_dup (pc := 85) d_Expander_init_85 rfl ?_
  refine pb_gets3 (pc := 86) d_Expander_init_86 k_239 (fun t27 ht27 => ?_)
  refine pb_tlen (pc := 89) (v := 19) ht27 (by decide) d_Expander_init_89 ?_
  refine pb_callI (pc := 90) (nA := 1) (rest := [.ref q26, .ref h]) (wr := [(h, .inr (5, [.ref q1, .ref q5, .ref q6, .ref q11, .ref q16, .ref q21, .null, .null, .int 0, .int 0, .int 0])), (q1, .inr (0, [.ref q_4, .int 0])), (q_4, .inl (G.2.1, 4000, .inl (fun _ => 0))), (q5, .inl (G.2.2.1, 316, .inl (fun _ => 0))), (q6, .inr (1, [.ref c_9, .ref y_10, .int 0])), (c_9, .inl (G.2.2.1, 16, .inl (fun _ => 0))), (y_10, .inl (G.2.2.1, 288, .inl (fun _ => 0))), (q11, .inr (1, [.ref c_14, .ref y_15, .int 0])), (c_14, .inl (G.2.2.1, 16, .inl (fun _ => 0))), (y_15, .inl (G.2.2.1, 32, .inl (fun _ => 0))), (q16, .inr (1, [.ref c_19, .ref y_20, .int 0])), (c_19, .inl (G.2.2.1, 16, .inl (fun _ => 0))), (y_20, .inl (G.2.2.1, 286, .inl (fun _ => 0))), (q21, .inr (1, [.ref c_24, .ref y_25, .int 0])), (c_24, .inl (G.2.2.1, 16, .inl (fun _ => 0))), (y_25, .inl (G.2.2.1, 30, .inl (fun _ => 0)))]) d_Expander_init_90 (c_Code_init hl G q26 19 19 (by decide) (by decide) (by decide)) [16] [0, 1, 2, 3, 4, 5, 6, 7, 8, 9, 10, 11, 12, 13, 14, 15] (by decide) rfl rfl rfl (by decide) (by decide) k_224 rfl k_122 k_222 k_223 rfl (by decide +kernel) (by decide) rfl rfl (Nat.le_of_ble_eq_true rfl) (by decide) (fun v9 u29 h28 => ?_)
  obtain ⟨c_30, y_31⟩ := u29
  have eh28 := h28
  have eh28 : v9 = none := eh28
  subst eh28
  refine pb_eq (pc' := 93) (lo' := [(0, .ref h)]) (rest' := [.ref q26, .ref h]) (ws' := [(h, .inr (5, [.ref q1, .ref q5, .ref q6, .ref q11, .ref q16, .ref q21, .null, .null, .int 0, .int 0, .int 0])), (q1, .inr (0, [.ref q_4, .int 0])), (q_4, .inl (G.2.1, 4000, .inl (fun _ => 0))), (q5, .inl (G.2.2.1, 316, .inl (fun _ => 0))), (q6, .inr (1, [.ref c_9, .ref y_10, .int 0])), (c_9, .inl (G.2.2.1, 16, .inl (fun _ => 0))), (y_10, .inl (G.2.2.1, 288, .inl (fun _ => 0))), (q11, .inr (1, [.ref c_14, .ref y_15, .int 0])), (c_14, .inl (G.2.2.1, 16, .inl (fun _ => 0))), (y_15, .inl (G.2.2.1, 32, .inl (fun _ => 0))), (q16, .inr (1, [.ref c_19, .ref y_20, .int 0])), (c_19, .inl (G.2.2.1, 16, .inl (fun _ => 0))), (y_20, .inl (G.2.2.1, 286, .inl (fun _ => 0))), (q21, .inr (1, [.ref c_24, .ref y_25, .int 0])), (c_24, .inl (G.2.2.1, 16, .inl (fun _ => 0))), (y_25, .inl (G.2.2.1, 30, .inl (fun _ => 0))), (q26, .inr (1, [.ref c_30, .ref y_31, .int 0])), (c_30, .inl (G.2.2.1, 16, .inl (fun _ => 0))), (y_31, .inl (G.2.2.1, 19, .inl (fun _ => 0)))]) ?_
  refine pb_putF (pc := 93) (ty := (.object "PackageBook$Code")) (ws' := [(h, .inr (5, [.ref q1, .ref q5, .ref q6, .ref q11, .ref q16, .ref q21, .ref q26, .null, .int 0, .int 0, .int 0])), (q1, .inr (0, [.ref q_4, .int 0])), (q_4, .inl (G.2.1, 4000, .inl (fun _ => 0))), (q5, .inl (G.2.2.1, 316, .inl (fun _ => 0))), (q6, .inr (1, [.ref c_9, .ref y_10, .int 0])), (c_9, .inl (G.2.2.1, 16, .inl (fun _ => 0))), (y_10, .inl (G.2.2.1, 288, .inl (fun _ => 0))), (q11, .inr (1, [.ref c_14, .ref y_15, .int 0])), (c_14, .inl (G.2.2.1, 16, .inl (fun _ => 0))), (y_15, .inl (G.2.2.1, 32, .inl (fun _ => 0))), (q16, .inr (1, [.ref c_19, .ref y_20, .int 0])), (c_19, .inl (G.2.2.1, 16, .inl (fun _ => 0))), (y_20, .inl (G.2.2.1, 286, .inl (fun _ => 0))), (q21, .inr (1, [.ref c_24, .ref y_25, .int 0])), (c_24, .inl (G.2.2.1, 16, .inl (fun _ => 0))), (y_25, .inl (G.2.2.1, 30, .inl (fun _ => 0))), (q26, .inr (1, [.ref c_30, .ref y_31, .int 0])), (c_30, .inl (G.2.2.1, 16, .inl (fun _ => 0))), (y_31, .inl (G.2.2.1, 19, .inl (fun _ => 0)))]) d_Expander_init_93 0 6 t_Expander t_Expander_ok n_Expander rfl rfl (by decide) in_Expander k_256 rfl rfl rfl (by decide +kernel) rfl rfl (Nat.le_of_ble_eq_true rfl) rfl ?_
  refine pb_aload_n (pc := 96) d_Expander_init_96 0 rfl rfl ?_
  refine pb_iconst (pc := 97) (v := 0) d_Expander_init_97 (by decide) ?_
  refine pb_newb (pc := 98) (N := 0) d_Expander_init_98 k_172 (by decide) (by decide) (by decide) (by decide) (by decide) (fun q32 => ?_)
  refine pb_eq (pc' := 100) (lo' := [(0, .ref h)]) (rest' := [.ref q32, .ref h]) (ws' := [(h, .inr (5, [.ref q1, .ref q5, .ref q6, .ref q11, .ref q16, .ref q21, .ref q26, .null, .int 0, .int 0, .int 0])), (q1, .inr (0, [.ref q_4, .int 0])), (q_4, .inl (G.2.1, 4000, .inl (fun _ => 0))), (q5, .inl (G.2.2.1, 316, .inl (fun _ => 0))), (q6, .inr (1, [.ref c_9, .ref y_10, .int 0])), (c_9, .inl (G.2.2.1, 16, .inl (fun _ => 0))), (y_10, .inl (G.2.2.1, 288, .inl (fun _ => 0))), (q11, .inr (1, [.ref c_14, .ref y_15, .int 0])), (c_14, .inl (G.2.2.1, 16, .inl (fun _ => 0))), (y_15, .inl (G.2.2.1, 32, .inl (fun _ => 0))), (q16, .inr (1, [.ref c_19, .ref y_20, .int 0])), (c_19, .inl (G.2.2.1, 16, .inl (fun _ => 0))), (y_20, .inl (G.2.2.1, 286, .inl (fun _ => 0))), (q21, .inr (1, [.ref c_24, .ref y_25, .int 0])), (c_24, .inl (G.2.2.1, 16, .inl (fun _ => 0))), (y_25, .inl (G.2.2.1, 30, .inl (fun _ => 0))), (q26, .inr (1, [.ref c_30, .ref y_31, .int 0])), (c_30, .inl (G.2.2.1, 16, .inl (fun _ => 0))), (y_31, .inl (G.2.2.1, 19, .inl (fun _ => 0))), (q32, .inl (G.2.1, 0, .inl (fun _ => 0)))]) ?_
  refine pb_put (pc := 100) (ty := (.array .byte)) (ws' := [(h, .inr (5, [.ref q1, .ref q5, .ref q6, .ref q11, .ref q16, .ref q21, .ref q26, .ref q32, .int 0, .int 0, .int 0])), (q1, .inr (0, [.ref q_4, .int 0])), (q_4, .inl (G.2.1, 4000, .inl (fun _ => 0))), (q5, .inl (G.2.2.1, 316, .inl (fun _ => 0))), (q6, .inr (1, [.ref c_9, .ref y_10, .int 0])), (c_9, .inl (G.2.2.1, 16, .inl (fun _ => 0))), (y_10, .inl (G.2.2.1, 288, .inl (fun _ => 0))), (q11, .inr (1, [.ref c_14, .ref y_15, .int 0])), (c_14, .inl (G.2.2.1, 16, .inl (fun _ => 0))), (y_15, .inl (G.2.2.1, 32, .inl (fun _ => 0))), (q16, .inr (1, [.ref c_19, .ref y_20, .int 0])), (c_19, .inl (G.2.2.1, 16, .inl (fun _ => 0))), (y_20, .inl (G.2.2.1, 286, .inl (fun _ => 0))), (q21, .inr (1, [.ref c_24, .ref y_25, .int 0])), (c_24, .inl (G.2.2.1, 16, .inl (fun _ => 0))), (y_25, .inl (G.2.2.1, 30, .inl (fun _ => 0))), (q26, .inr (1, [.ref c_30, .ref y_31, .int 0])), (c_30, .inl (G.2.2.1, 16, .inl (fun _ => 0))), (y_31, .inl (G.2.2.1, 19, .inl (fun _ => 0))), (q32, .inl (G.2.1, 0, .inl (fun _ => 0)))]) d_Expander_init_100 0 7 t_Expander t_Expander_ok n_Expander rfl rfl (by decide) in_Expander k_257 rfl (by decide +kernel) rfl rfl (Nat.le_of_ble_eq_true rfl) rfl ?_
  refine pb_sipush (pc := 103) (v := 320) d_Expander_init_103 (by decide) ?_
  refine pb_newi (pc := 106) (N := 320) d_Expander_init_106 k_211 (by decide) (by decide) (by decide) (by decide) (by decide) (fun q33 => ?_)
  refine pb_eq (pc' := 108) (lo' := [(0, .ref h)]) (rest' := [.ref q33]) (ws' := [(h, .inr (5, [.ref q1, .ref q5, .ref q6, .ref q11, .ref q16, .ref q21, .ref q26, .ref q32, .int 0, .int 0, .int 0])), (q1, .inr (0, [.ref q_4, .int 0])), (q_4, .inl (G.2.1, 4000, .inl (fun _ => 0))), (q5, .inl (G.2.2.1, 316, .inl (fun _ => 0))), (q6, .inr (1, [.ref c_9, .ref y_10, .int 0])), (c_9, .inl (G.2.2.1, 16, .inl (fun _ => 0))), (y_10, .inl (G.2.2.1, 288, .inl (fun _ => 0))), (q11, .inr (1, [.ref c_14, .ref y_15, .int 0])), (c_14, .inl (G.2.2.1, 16, .inl (fun _ => 0))), (y_15, .inl (G.2.2.1, 32, .inl (fun _ => 0))), (q16, .inr (1, [.ref c_19, .ref y_20, .int 0])), (c_19, .inl (G.2.2.1, 16, .inl (fun _ => 0))), (y_20, .inl (G.2.2.1, 286, .inl (fun _ => 0))), (q21, .inr (1, [.ref c_24, .ref y_25, .int 0])), (c_24, .inl (G.2.2.1, 16, .inl (fun _ => 0))), (y_25, .inl (G.2.2.1, 30, .inl (fun _ => 0))), (q26, .inr (1, [.ref c_30, .ref y_31, .int 0])), (c_30, .inl (G.2.2.1, 16, .inl (fun _ => 0))), (y_31, .inl (G.2.2.1, 19, .inl (fun _ => 0))), (q32, .inl (G.2.1, 0, .inl (fun _ => 0))), (q33, .inl (G.2.2.1, 320, .inl (fun _ => 0)))]) ?_
  refine pb_astore_n (pc := 108) (lo' := [(1, .ref q33), (0, .ref h)]) d_Expander_init_108 rfl (by decide) rfl ?_
  refine pb_aload_n (pc := 109) d_Expander_init_109 0 rfl rfl ?_
  refine pb_iconst (pc := 110) (v := 0) d_Expander_init_110 (by decide) ?_
  refine pb_sipush (pc := 111) (v := 144) d_Expander_init_111 (by decide) ?_
  refine pb_bipush (pc := 114) (v := 8) d_Expander_init_114 (by decide) ?_
  refine pb_callS (pc := 116) (nA := 4) (rest := []) (wr := [(h, .inr (5, [.ref q1, .ref q5, .ref q6, .ref q11, .ref q16, .ref q21, .ref q26, .ref q32, .int 0, .int 0, .int 0])), (q1, .inr (0, [.ref q_4, .int 0])), (q_4, .inl (G.2.1, 4000, .inl (fun _ => 0))), (q5, .inl (G.2.2.1, 316, .inl (fun _ => 0))), (q6, .inr (1, [.ref c_9, .ref y_10, .int 0])), (c_9, .inl (G.2.2.1, 16, .inl (fun _ => 0))), (y_10, .inl (G.2.2.1, 288, .inl (fun _ => 0))), (q11, .inr (1, [.ref c_14, .ref y_15, .int 0])), (c_14, .inl (G.2.2.1, 16, .inl (fun _ => 0))), (y_15, .inl (G.2.2.1, 32, .inl (fun _ => 0))), (q16, .inr (1, [.ref c_19, .ref y_20, .int 0])), (c_19, .inl (G.2.2.1, 16, .inl (fun _ => 0))), (y_20, .inl (G.2.2.1, 286, .inl (fun _ => 0))), (q21, .inr (1, [.ref c_24, .ref y_25, .int 0])), (c_24, .inl (G.2.2.1, 16, .inl (fun _ => 0))), (y_25, .inl (G.2.2.1, 30, .inl (fun _ => 0))), (q26, .inr (1, [.ref c_30, .ref y_31, .int 0])), (c_30, .inl (G.2.2.1, 16, .inl (fun _ => 0))), (y_31, .inl (G.2.2.1, 19, .inl (fun _ => 0))), (q32, .inl (G.2.1, 0, .inl (fun _ => 0)))]) d_Expander_init_116 (c_Exp_setAll hl G q33 320 (fun _ => 0) 0 144 8 (by decide) (by decide) (by decide)) [20] [0, 1, 2, 3, 4, 5, 6, 7, 8, 9, 10, 11, 12, 13, 14, 15, 16, 17, 18, 19] (by decide) rfl rfl rfl (by decide) (by decide) k_243 rfl k_121 k_241 k_242 (by decide +kernel) (by decide) rfl rfl (Nat.le_of_ble_eq_true rfl) (by decide) (fun v9 u35 h34 => ?_)
  obtain ⟨f_36, rfl⟩ : ∃ z9, z9 = u35 := ⟨_, rfl⟩
  have eh34 := h34
  have eh34 : v9 = none := eh34
  subst eh34
  refine pb_eq (pc' := 119) (lo' := [(1, .ref q33), (0, .ref h)]) (rest' := []) (ws' := [(h, .inr (5, [.ref q1, .ref q5, .ref q6, .ref q11, .ref q16, .ref q21, .ref q26, .ref q32, .int 0, .int 0, .int 0])), (q1, .inr (0, [.ref q_4, .int 0])), (q_4, .inl (G.2.1, 4000, .inl (fun _ => 0))), (q5, .inl (G.2.2.1, 316, .inl (fun _ => 0))), (q6, .inr (1, [.ref c_9, .ref y_10, .int 0])), (c_9, .inl (G.2.2.1, 16, .inl (fun _ => 0))), (y_10, .inl (G.2.2.1, 288, .inl (fun _ => 0))), (q11, .inr (1, [.ref c_14, .ref y_15, .int 0])), (c_14, .inl (G.2.2.1, 16, .inl (fun _ => 0))), (y_15, .inl (G.2.2.1, 32, .inl (fun _ => 0))), (q16, .inr (1, [.ref c_19, .ref y_20, .int 0])), (c_19, .inl (G.2.2.1, 16, .inl (fun _ => 0))), (y_20, .inl (G.2.2.1, 286, .inl (fun _ => 0))), (q21, .inr (1, [.ref c_24, .ref y_25, .int 0])), (c_24, .inl (G.2.2.1, 16, .inl (fun _ => 0))), (y_25, .inl (G.2.2.1, 30, .inl (fun _ => 0))), (q26, .inr (1, [.ref c_30, .ref y_31, .int 0])), (c_30, .inl (G.2.2.1, 16, .inl (fun _ => 0))), (y_31, .inl (G.2.2.1, 19, .inl (fun _ => 0))), (q32, .inl (G.2.1, 0, .inl (fun _ => 0))), (q33, .inl (G.2.2.1, 320, .inl f_36))]) ?_
  refine pb_aload_n (pc := 119) d_Expander_init_119 0 rfl rfl ?_
  refine pb_sipush (pc := 120) (v := 144) d_Expander_init_120 (by decide) ?_
  refine pb_sipush (pc := 123) (v := 256) d_Expander_init_123 (by decide) ?_
  refine pb_bipush (pc := 126) (v := 9) d_Expander_init_126 (by decide) ?_
  refine pb_callS (pc := 128) (nA := 4) (rest := []) (wr := [(h, .inr (5, [.ref q1, .ref q5, .ref q6, .ref q11, .ref q16, .ref q21, .ref q26, .ref q32, .int 0, .int 0, .int 0])), (q1, .inr (0, [.ref q_4, .int 0])), (q_4, .inl (G.2.1, 4000, .inl (fun _ => 0))), (q5, .inl (G.2.2.1, 316, .inl (fun _ => 0))), (q6, .inr (1, [.ref c_9, .ref y_10, .int 0])), (c_9, .inl (G.2.2.1, 16, .inl (fun _ => 0))), (y_10, .inl (G.2.2.1, 288, .inl (fun _ => 0))), (q11, .inr (1, [.ref c_14, .ref y_15, .int 0])), (c_14, .inl (G.2.2.1, 16, .inl (fun _ => 0))), (y_15, .inl (G.2.2.1, 32, .inl (fun _ => 0))), (q16, .inr (1, [.ref c_19, .ref y_20, .int 0])), (c_19, .inl (G.2.2.1, 16, .inl (fun _ => 0))), (y_20, .inl (G.2.2.1, 286, .inl (fun _ => 0))), (q21, .inr (1, [.ref c_24, .ref y_25, .int 0])), (c_24, .inl (G.2.2.1, 16, .inl (fun _ => 0))), (y_25, .inl (G.2.2.1, 30, .inl (fun _ => 0))), (q26, .inr (1, [.ref c_30, .ref y_31, .int 0])), (c_30, .inl (G.2.2.1, 16, .inl (fun _ => 0))), (y_31, .inl (G.2.2.1, 19, .inl (fun _ => 0))), (q32, .inl (G.2.1, 0, .inl (fun _ => 0)))]) d_Expander_init_128 (c_Exp_setAll hl G q33 320 f_36 144 256 9 (by decide) (by decide) (by decide)) [20] [0, 1, 2, 3, 4, 5, 6, 7, 8, 9, 10, 11, 12, 13, 14, 15, 16, 17, 18, 19] (by decide) rfl rfl rfl (by decide) (by decide) k_243 rfl k_121 k_241 k_242 (by decide +kernel) (by decide) rfl rfl (Nat.le_of_ble_eq_true rfl) (by decide) (fun v9 u38 h37 => ?_)
  obtain ⟨f_39, rfl⟩ : ∃ z9, z9 = u38 := ⟨_, rfl⟩
  have eh37 := h37
  have eh37 : v9 = none := eh37
  subst eh37
  refine pb_eq (pc' := 131) (lo' := [(1, .ref q33), (0, .ref h)]) (rest' := []) (ws' := [(h, .inr (5, [.ref q1, .ref q5, .ref q6, .ref q11, .ref q16, .ref q21, .ref q26, .ref q32, .int 0, .int 0, .int 0])), (q1, .inr (0, [.ref q_4, .int 0])), (q_4, .inl (G.2.1, 4000, .inl (fun _ => 0))), (q5, .inl (G.2.2.1, 316, .inl (fun _ => 0))), (q6, .inr (1, [.ref c_9, .ref y_10, .int 0])), (c_9, .inl (G.2.2.1, 16, .inl (fun _ => 0))), (y_10, .inl (G.2.2.1, 288, .inl (fun _ => 0))), (q11, .inr (1, [.ref c_14, .ref y_15, .int 0])), (c_14, .inl (G.2.2.1, 16, .inl (fun _ => 0))), (y_15, .inl (G.2.2.1, 32, .inl (fun _ => 0))), (q16, .inr (1, [.ref c_19, .ref y_20, .int 0])), (c_19, .inl (G.2.2.1, 16, .inl (fun _ => 0))), (y_20, .inl (G.2.2.1, 286, .inl (fun _ => 0))), (q21, .inr (1, [.ref c_24, .ref y_25, .int 0])), (c_24, .inl (G.2.2.1, 16, .inl (fun _ => 0))), (y_25, .inl (G.2.2.1, 30, .inl (fun _ => 0))), (q26, .inr (1, [.ref c_30, .ref y_31, .int 0])), (c_30, .inl (G.2.2.1, 16, .inl (fun _ => 0))), (y_31, .inl (G.2.2.1, 19, .inl (fun _ => 0))), (q32, .inl (G.2.1, 0, .inl (fun _ => 0))), (q33, .inl (G.2.2.1, 320, .inl f_39))]) ?_
  refine pb_aload_n (pc := 131) d_Expander_init_131 0 rfl rfl ?_
  refine pb_sipush (pc := 132) (v := 256) d_Expander_init_132 (by decide) ?_
  refine pb_sipush (pc := 135) (v := 280) d_Expander_init_135 (by decide) ?_
  refine pb_bipush (pc := 138) (v := 7) d_Expander_init_138 (by decide) ?_
  refine pb_callS (pc := 140) (nA := 4) (rest := []) (wr := [(h, .inr (5, [.ref q1, .ref q5, .ref q6, .ref q11, .ref q16, .ref q21, .ref q26, .ref q32, .int 0, .int 0, .int 0])), (q1, .inr (0, [.ref q_4, .int 0])), (q_4, .inl (G.2.1, 4000, .inl (fun _ => 0))), (q5, .inl (G.2.2.1, 316, .inl (fun _ => 0))), (q6, .inr (1, [.ref c_9, .ref y_10, .int 0])), (c_9, .inl (G.2.2.1, 16, .inl (fun _ => 0))), (y_10, .inl (G.2.2.1, 288, .inl (fun _ => 0))), (q11, .inr (1, [.ref c_14, .ref y_15, .int 0])), (c_14, .inl (G.2.2.1, 16, .inl (fun _ => 0))), (y_15, .inl (G.2.2.1, 32, .inl (fun _ => 0))), (q16, .inr (1, [.ref c_19, .ref y_20, .int 0])), (c_19, .inl (G.2.2.1, 16, .inl (fun _ => 0))), (y_20, .inl (G.2.2.1, 286, .inl (fun _ => 0))), (q21, .inr (1, [.ref c_24, .ref y_25, .int 0])), (c_24, .inl (G.2.2.1, 16, .inl (fun _ => 0))), (y_25, .inl (G.2.2.1, 30, .inl (fun _ => 0))), (q26, .inr (1, [.ref c_30, .ref y_31, .int 0])), (c_30, .inl (G.2.2.1, 16, .inl (fun _ => 0))), (y_31, .inl (G.2.2.1, 19, .inl (fun _ => 0))), (q32, .inl (G.2.1, 0, .inl (fun _ => 0)))]) d_Expander_init_140 (c_Exp_setAll hl G q33 320 f_39 256 280 7 (by decide) (by decide) (by decide)) [20] [0, 1, 2, 3, 4, 5, 6, 7, 8, 9, 10, 11, 12, 13, 14, 15, 16, 17, 18, 19] (by decide) rfl rfl rfl (by decide) (by decide) k_243 rfl k_121 k_241 k_242 (by decide +kernel) (by decide) rfl rfl (Nat.le_of_ble_eq_true rfl) (by decide) (fun v9 u41 h40 => ?_)
  obtain ⟨f_42, rfl⟩ : ∃ z9, z9 = u41 := ⟨_, rfl⟩
  have eh40 := h40
  have eh40 : v9 = none := eh40
  subst eh40
  refine pb_eq (pc' := 143) (lo' := [(1, .ref q33), (0, .ref h)]) (rest' := []) (ws' := [(h, .inr (5, [.ref q1, .ref q5, .ref q6, .ref q11, .ref q16, .ref q21, .ref q26, .ref q32, .int 0, .int 0, .int 0])), (q1, .inr (0, [.ref q_4, .int 0])), (q_4, .inl (G.2.1, 4000, .inl (fun _ => 0))), (q5, .inl (G.2.2.1, 316, .inl (fun _ => 0))), (q6, .inr (1, [.ref c_9, .ref y_10, .int 0])), (c_9, .inl (G.2.2.1, 16, .inl (fun _ => 0))), (y_10, .inl (G.2.2.1, 288, .inl (fun _ => 0))), (q11, .inr (1, [.ref c_14, .ref y_15, .int 0])), (c_14, .inl (G.2.2.1, 16, .inl (fun _ => 0))), (y_15, .inl (G.2.2.1, 32, .inl (fun _ => 0))), (q16, .inr (1, [.ref c_19, .ref y_20, .int 0])), (c_19, .inl (G.2.2.1, 16, .inl (fun _ => 0))), (y_20, .inl (G.2.2.1, 286, .inl (fun _ => 0))), (q21, .inr (1, [.ref c_24, .ref y_25, .int 0])), (c_24, .inl (G.2.2.1, 16, .inl (fun _ => 0))), (y_25, .inl (G.2.2.1, 30, .inl (fun _ => 0))), (q26, .inr (1, [.ref c_30, .ref y_31, .int 0])), (c_30, .inl (G.2.2.1, 16, .inl (fun _ => 0))), (y_31, .inl (G.2.2.1, 19, .inl (fun _ => 0))), (q32, .inl (G.2.1, 0, .inl (fun _ => 0))), (q33, .inl (G.2.2.1, 320, .inl f_42))]) ?_
  refine pb_aload_n (pc := 143) d_Expander_init_143 0 rfl rfl ?_
  refine pb_sipush (pc := 144) (v := 280) d_Expander_init_144 (by decide) ?_
  refine pb_sipush (pc := 147) (v := 288) d_Expander_init_147 (by decide) ?_
  refine pb_bipush (pc := 150) (v := 8) d_Expander_init_150 (by decide) ?_
  refine pb_callS (pc := 152) (nA := 4) (rest := []) (wr := [(h, .inr (5, [.ref q1, .ref q5, .ref q6, .ref q11, .ref q16, .ref q21, .ref q26, .ref q32, .int 0, .int 0, .int 0])), (q1, .inr (0, [.ref q_4, .int 0])), (q_4, .inl (G.2.1, 4000, .inl (fun _ => 0))), (q5, .inl (G.2.2.1, 316, .inl (fun _ => 0))), (q6, .inr (1, [.ref c_9, .ref y_10, .int 0])), (c_9, .inl (G.2.2.1, 16, .inl (fun _ => 0))), (y_10, .inl (G.2.2.1, 288, .inl (fun _ => 0))), (q11, .inr (1, [.ref c_14, .ref y_15, .int 0])), (c_14, .inl (G.2.2.1, 16, .inl (fun _ => 0))), (y_15, .inl (G.2.2.1, 32, .inl (fun _ => 0))), (q16, .inr (1, [.ref c_19, .ref y_20, .int 0])), (c_19, .inl (G.2.2.1, 16, .inl (fun _ => 0))), (y_20, .inl (G.2.2.1, 286, .inl (fun _ => 0))), (q21, .inr (1, [.ref c_24, .ref y_25, .int 0])), (c_24, .inl (G.2.2.1, 16, .inl (fun _ => 0))), (y_25, .inl (G.2.2.1, 30, .inl (fun _ => 0))), (q26, .inr (1, [.ref c_30, .ref y_31, .int 0])), (c_30, .inl (G.2.2.1, 16, .inl (fun _ => 0))), (y_31, .inl (G.2.2.1, 19, .inl (fun _ => 0))), (q32, .inl (G.2.1, 0, .inl (fun _ => 0)))]) d_Expander_init_152 (c_Exp_setAll hl G q33 320 f_42 280 288 8 (by decide) (by decide) (by decide)) [20] [0, 1, 2, 3, 4, 5, 6, 7, 8, 9, 10, 11, 12, 13, 14, 15, 16, 17, 18, 19] (by decide) rfl rfl rfl (by decide) (by decide) k_243 rfl k_121 k_241 k_242 (by decide +kernel) (by decide) rfl rfl (Nat.le_of_ble_eq_true rfl) (by decide) (fun v9 u44 h43 => ?_)
  obtain ⟨f_45, rfl⟩ : ∃ z9, z9 = u44 := ⟨_, rfl⟩
  have eh43 := h43
  have eh43 : v9 = none := eh43
  subst eh43
  refine pb_eq (pc' := 155) (lo' := [(1, .ref q33), (0, .ref h)]) (rest' := []) (ws' := [(h, .inr (5, [.ref q1, .ref q5, .ref q6, .ref q11, .ref q16, .ref q21, .ref q26, .ref q32, .int 0, .int 0, .int 0])), (q1, .inr (0, [.ref q_4, .int 0])), (q_4, .inl (G.2.1, 4000, .inl (fun _ => 0))), (q5, .inl (G.2.2.1, 316, .inl (fun _ => 0))), (q6, .inr (1, [.ref c_9, .ref y_10, .int 0])), (c_9, .inl (G.2.2.1, 16, .inl (fun _ => 0))), (y_10, .inl (G.2.2.1, 288, .inl (fun _ => 0))), (q11, .inr (1, [.ref c_14, .ref y_15, .int 0])), (c_14, .inl (G.2.2.1, 16, .inl (fun _ => 0))), (y_15, .inl (G.2.2.1, 32, .inl (fun _ => 0))), (q16, .inr (1, [.ref c_19, .ref y_20, .int 0])), (c_19, .inl (G.2.2.1, 16, .inl (fun _ => 0))), (y_20, .inl (G.2.2.1, 286, .inl (fun _ => 0))), (q21, .inr (1, [.ref c_24, .ref y_25, .int 0])), (c_24, .inl (G.2.2.1, 16, .inl (fun _ => 0))), (y_25, .inl (G.2.2.1, 30, .inl (fun _ => 0))), (q26, .inr (1, [.ref c_30, .ref y_31, .int 0])), (c_30, .inl (G.2.2.1, 16, .inl (fun _ => 0))), (y_31, .inl (G.2.2.1, 19, .inl (fun _ => 0))), (q32, .inl (G.2.1, 0, .inl (fun _ => 0))), (q33, .inl (G.2.2.1, 320, .inl f_45))]) ?_
  refine pb_aload_n (pc := 155) d_Expander_init_155 0 rfl rfl ?_
  refine pb_sipush (pc := 156) (v := 288) d_Expander_init_156 (by decide) ?_
  refine pb_sipush (pc := 159) (v := 320) d_Expander_init_159 (by decide) ?_
  refine pb_iconst (pc := 162) (v := 5) d_Expander_init_162 (by decide) ?_
  refine pb_callS (pc := 163) (nA := 4) (rest := []) (wr := [(h, .inr (5, [.ref q1, .ref q5, .ref q6, .ref q11, .ref q16, .ref q21, .ref q26, .ref q32, .int 0, .int 0, .int 0])), (q1, .inr (0, [.ref q_4, .int 0])), (q_4, .inl (G.2.1, 4000, .inl (fun _ => 0))), (q5, .inl (G.2.2.1, 316, .inl (fun _ => 0))), (q6, .inr (1, [.ref c_9, .ref y_10, .int 0])), (c_9, .inl (G.2.2.1, 16, .inl (fun _ => 0))), (y_10, .inl (G.2.2.1, 288, .inl (fun _ => 0))), (q11, .inr (1, [.ref c_14, .ref y_15, .int 0])), (c_14, .inl (G.2.2.1, 16, .inl (fun _ => 0))), (y_15, .inl (G.2.2.1, 32, .inl (fun _ => 0))), (q16, .inr (1, [.ref c_19, .ref y_20, .int 0])), (c_19, .inl (G.2.2.1, 16, .inl (fun _ => 0))), (y_20, .inl (G.2.2.1, 286, .inl (fun _ => 0))), (q21, .inr (1, [.ref c_24, .ref y_25, .int 0])), (c_24, .inl (G.2.2.1, 16, .inl (fun _ => 0))), (y_25, .inl (G.2.2.1, 30, .inl (fun _ => 0))), (q26, .inr (1, [.ref c_30, .ref y_31, .int 0])), (c_30, .inl (G.2.2.1, 16, .inl (fun _ => 0))), (y_31, .inl (G.2.2.1, 19, .inl (fun _ => 0))), (q32, .inl (G.2.1, 0, .inl (fun _ => 0)))]) d_Expander_init_163 (c_Exp_setAll hl G q33 320 f_45 288 320 5 (by decide) (by decide) (by decide)) [20] [0, 1, 2, 3, 4, 5, 6, 7, 8, 9, 10, 11, 12, 13, 14, 15, 16, 17, 18, 19] (by decide) rfl rfl rfl (by decide) (by decide) k_243 rfl k_121 k_241 k_242 (by decide +kernel) (by decide) rfl rfl (Nat.le_of_ble_eq_true rfl) (by decide) (fun v9 u47 h46 => ?_)
  obtain ⟨f_48, rfl⟩ : ∃ z9, z9 = u47 := ⟨_, rfl⟩
  have eh46 := h46
  have eh46 : v9 = none := eh46
  subst eh46
  refine pb_eq (pc' := 166) (lo' := [(1, .ref q33), (0, .ref h)]) (rest' := []) (ws' := [(h, .inr (5, [.ref q1, .ref q5, .ref q6, .ref q11, .ref q16, .ref q21, .ref q26, .ref q32, .int 0, .int 0, .int 0])), (q1, .inr (0, [.ref q_4, .int 0])), (q_4, .inl (G.2.1, 4000, .inl (fun _ => 0))), (q5, .inl (G.2.2.1, 316, .inl (fun _ => 0))), (q6, .inr (1, [.ref c_9, .ref y_10, .int 0])), (c_9, .inl (G.2.2.1, 16, .inl (fun _ => 0))), (y_10, .inl (G.2.2.1, 288, .inl (fun _ => 0))), (q11, .inr (1, [.ref c_14, .ref y_15, .int 0])), (c_14, .inl (G.2.2.1, 16, .inl (fun _ => 0))), (y_15, .inl (G.2.2.1, 32, .inl (fun _ => 0))), (q16, .inr (1, [.ref c_19, .ref y_20, .int 0])), (c_19, .inl (G.2.2.1, 16, .inl (fun _ => 0))), (y_20, .inl (G.2.2.1, 286, .inl (fun _ => 0))), (q21, .inr (1, [.ref c_24, .ref y_25, .int 0])), (c_24, .inl (G.2.2.1, 16, .inl (fun _ => 0))), (y_25, .inl (G.2.2.1, 30, .inl (fun _ => 0))), (q26, .inr (1, [.ref c_30, .ref y_31, .int 0])), (c_30, .inl (G.2.2.1, 16, .inl (fun _ => 0))), (y_31, .inl (G.2.2.1, 19, .inl (fun _ => 0))), (q32, .inl (G.2.1, 0, .inl (fun _ => 0))), (q33, .inl (G.2.2.1, 320, .inl f_48))]) ?_
  refine pb_aload_n (pc := 166) d_Expander_init_166 1 rfl rfl ?_
  refine pb_get (pc := 167) d_Expander_init_167 0 2 rfl rfl (by decide) in_Expander k_252 rfl ?_
  refine pb_aload_n (pc := 170) d_Expander_init_170 0 rfl rfl ?_
  refine pb_iconst (pc := 171) (v := 0) d_Expander_init_171 (by decide) ?_
  refine pb_sipush (pc := 172) (v := 288) d_Expander_init_172 (by decide) ?_
  refine pb_callV (pc := 175) (qb := 4) (ci := 1) (nA := 3) (rest := []) (wr := [(h, .inr (5, [.ref q1, .ref q5, .ref q6, .ref q11, .ref q16, .ref q21, .ref q26, .ref q32, .int 0, .int 0, .int 0])), (q1, .inr (0, [.ref q_4, .int 0])), (q_4, .inl (G.2.1, 4000, .inl (fun _ => 0))), (q5, .inl (G.2.2.1, 316, .inl (fun _ => 0))), (q11, .inr (1, [.ref c_14, .ref y_15, .int 0])), (c_14, .inl (G.2.2.1, 16, .inl (fun _ => 0))), (y_15, .inl (G.2.2.1, 32, .inl (fun _ => 0))), (q16, .inr (1, [.ref c_19, .ref y_20, .int 0])), (c_19, .inl (G.2.2.1, 16, .inl (fun _ => 0))), (y_20, .inl (G.2.2.1, 286, .inl (fun _ => 0))), (q21, .inr (1, [.ref c_24, .ref y_25, .int 0])), (c_24, .inl (G.2.2.1, 16, .inl (fun _ => 0))), (y_25, .inl (G.2.2.1, 30, .inl (fun _ => 0))), (q26, .inr (1, [.ref c_30, .ref y_31, .int 0])), (c_30, .inl (G.2.2.1, 16, .inl (fun _ => 0))), (y_31, .inl (G.2.2.1, 19, .inl (fun _ => 0))), (q32, .inl (G.2.1, 0, .inl (fun _ => 0)))]) d_Expander_init_175 (c_Code_tell hl G q6 c_9 y_10 q33 0 (fun _ => 0) (fun _ => 0) f_48 288 320 0 288 (by decide) (by decide) (by decide) (by decide) (by decide) (by decide)) rfl rfl [4, 5, 6, 20] [0, 1, 2, 3, 7, 8, 9, 10, 11, 12, 13, 14, 15, 16, 17, 18, 19] (by decide) rfl rfl rfl (by decide) (by decide) k_247 rfl k_122 k_244 k_245 k_246 (by decide +kernel) (by decide) rfl rfl (Nat.le_of_ble_eq_true rfl) (by decide) (fun v9 u50 h49 => ?_)
  obtain ⟨sz_51, fc_52, fy_53⟩ := u50
  have eh49 := h49
  have eh49 : v9 = none := eh49
  subst eh49
  refine pb_eq (pc' := 178) (lo' := [(1, .ref q33), (0, .ref h)]) (rest' := []) (ws' := [(h, .inr (5, [.ref q1, .ref q5, .ref q6, .ref q11, .ref q16, .ref q21, .ref q26, .ref q32, .int 0, .int 0, .int 0])), (q1, .inr (0, [.ref q_4, .int 0])), (q_4, .inl (G.2.1, 4000, .inl (fun _ => 0))), (q5, .inl (G.2.2.1, 316, .inl (fun _ => 0))), (q11, .inr (1, [.ref c_14, .ref y_15, .int 0])), (c_14, .inl (G.2.2.1, 16, .inl (fun _ => 0))), (y_15, .inl (G.2.2.1, 32, .inl (fun _ => 0))), (q16, .inr (1, [.ref c_19, .ref y_20, .int 0])), (c_19, .inl (G.2.2.1, 16, .inl (fun _ => 0))), (y_20, .inl (G.2.2.1, 286, .inl (fun _ => 0))), (q21, .inr (1, [.ref c_24, .ref y_25, .int 0])), (c_24, .inl (G.2.2.1, 16, .inl (fun _ => 0))), (y_25, .inl (G.2.2.1, 30, .inl (fun _ => 0))), (q26, .inr (1, [.ref c_30, .ref y_31, .int 0])), (c_30, .inl (G.2.2.1, 16, .inl (fun _ => 0))), (y_31, .inl (G.2.2.1, 19, .inl (fun _ => 0))), (q32, .inl (G.2.1, 0, .inl (fun _ => 0))), (q6, .inr (1, [.ref c_9, .ref y_10, .int sz_51])), (c_9, .inl (G.2.2.1, 16, .inl fc_52)), (y_10, .inl (G.2.2.1, 288, .inl fy_53)), (q33, .inl (G.2.2.1, 320, .inl f_48))]) ?_
  refine pb_aload_n (pc := 178) d_Expander_init_178 1 rfl rfl ?_
  refine pb_get (pc := 179) d_Expander_init_179 0 3 rfl rfl (by decide) in_Expander k_253 rfl ?_
  refine pb_aload_n (pc := 182) d_Expander_init_182 0 rfl rfl ?_
  refine pb_sipush (pc := 183) (v := 288) d_Expander_init_183 (by decide) ?_
  refine pb_bipush (pc := 186) (v := 32) d_Expander_init_186 (by decide) ?_
  refine pb_callV (pc := 188) (qb := 4) (ci := 1) (nA := 3) (rest := []) (wr := [(h, .inr (5, [.ref q1, .ref q5, .ref q6, .ref q11, .ref q16, .ref q21, .ref q26, .ref q32, .int 0, .int 0, .int 0])), (q1, .inr (0, [.ref q_4, .int 0])), (q_4, .inl (G.2.1, 4000, .inl (fun _ => 0))), (q5, .inl (G.2.2.1, 316, .inl (fun _ => 0))), (q16, .inr (1, [.ref c_19, .ref y_20, .int 0])), (c_19, .inl (G.2.2.1, 16, .inl (fun _ => 0))), (y_20, .inl (G.2.2.1, 286, .inl (fun _ => 0))), (q21, .inr (1, [.ref c_24, .ref y_25, .int 0])), (c_24, .inl (G.2.2.1, 16, .inl (fun _ => 0))), (y_25, .inl (G.2.2.1, 30, .inl (fun _ => 0))), (q26, .inr (1, [.ref c_30, .ref y_31, .int 0])), (c_30, .inl (G.2.2.1, 16, .inl (fun _ => 0))), (y_31, .inl (G.2.2.1, 19, .inl (fun _ => 0))), (q32, .inl (G.2.1, 0, .inl (fun _ => 0))), (q6, .inr (1, [.ref c_9, .ref y_10, .int sz_51])), (c_9, .inl (G.2.2.1, 16, .inl fc_52)), (y_10, .inl (G.2.2.1, 288, .inl fy_53))]) d_Expander_init_188 (c_Code_tell hl G q11 c_14 y_15 q33 0 (fun _ => 0) (fun _ => 0) f_48 32 320 288 32 (by decide) (by decide) (by decide) (by decide) (by decide) (by decide)) rfl rfl [4, 5, 6, 20] [0, 1, 2, 3, 7, 8, 9, 10, 11, 12, 13, 14, 15, 16, 17, 18, 19] (by decide) rfl rfl rfl (by decide) (by decide) k_247 rfl k_122 k_244 k_245 k_246 (by decide +kernel) (by decide) rfl rfl (Nat.le_of_ble_eq_true rfl) (by decide) (fun v9 u55 h54 => ?_)
  obtain ⟨sz_56, fc_57, fy_58⟩ := u55
  have eh54 := h54
  have eh54 : v9 = none := eh54
  subst eh54
  refine pb_eq (pc' := 191) (lo' := [(1, .ref q33), (0, .ref h)]) (rest' := []) (ws' := [(h, .inr (5, [.ref q1, .ref q5, .ref q6, .ref q11, .ref q16, .ref q21, .ref q26, .ref q32, .int 0, .int 0, .int 0])), (q1, .inr (0, [.ref q_4, .int 0])), (q_4, .inl (G.2.1, 4000, .inl (fun _ => 0))), (q5, .inl (G.2.2.1, 316, .inl (fun _ => 0))), (q16, .inr (1, [.ref c_19, .ref y_20, .int 0])), (c_19, .inl (G.2.2.1, 16, .inl (fun _ => 0))), (y_20, .inl (G.2.2.1, 286, .inl (fun _ => 0))), (q21, .inr (1, [.ref c_24, .ref y_25, .int 0])), (c_24, .inl (G.2.2.1, 16, .inl (fun _ => 0))), (y_25, .inl (G.2.2.1, 30, .inl (fun _ => 0))), (q26, .inr (1, [.ref c_30, .ref y_31, .int 0])), (c_30, .inl (G.2.2.1, 16, .inl (fun _ => 0))), (y_31, .inl (G.2.2.1, 19, .inl (fun _ => 0))), (q32, .inl (G.2.1, 0, .inl (fun _ => 0))), (q6, .inr (1, [.ref c_9, .ref y_10, .int sz_51])), (c_9, .inl (G.2.2.1, 16, .inl fc_52)), (y_10, .inl (G.2.2.1, 288, .inl fy_53)), (q11, .inr (1, [.ref c_14, .ref y_15, .int sz_56])), (c_14, .inl (G.2.2.1, 16, .inl fc_57)), (y_15, .inl (G.2.2.1, 32, .inl fy_58)), (q33, .inl (G.2.2.1, 320, .inl f_48))]) ?_
  exact pb_vret (pc := 191) hQ d_Expander_init_191 rfl (q1, q_4, q5, q6, c_9, y_10, q11, c_14, y_15, q16, c_19, y_20, q21, c_24, y_25, q26, c_30, y_31, q32, sz_51, sz_56, fc_52, fy_53, fc_57, fy_58) rfl [0, 1, 2, 3, 14, 15, 16, 17, 18, 19, 4, 5, 6, 7, 8, 9, 10, 11, 12, 13] (by decide) rfl rfl (by decide) (by decide)
end
section
theorem d_Book_init_0 : decode prog_1_method_1_code 0 = .ok (.aload_n 0, 1) := by decide +kernel
theorem d_Book_init_1 : decode prog_1_method_1_code 1 = .ok (.invokespecial 3, 3) := by decide +kernel
theorem k_147 : (Jvm.Cond.methodLink "PackageBook" (3 : Nat) ({ cls := "java/lang/Object", name := "<init>", desc := "()V" } : Jvm.MethodName)) ∈ uW := uW_of 147 (by decide +kernel) (by decide +kernel)
theorem d_Book_init_4 : decode prog_1_method_1_code 4 = .ok (.aload_n 0, 1) := by decide +kernel
theorem d_Book_init_5 : decode prog_1_method_1_code 5 = .ok (.new 9, 3) := by decide +kernel
theorem k_150 : (Jvm.Cond.classLink "PackageBook" (9 : Nat) "PackageBook$Row") ∈ uW := uW_of 150 (by decide +kernel) (by decide +kernel)
theorem d_Book_init_8 : decode prog_1_method_1_code 8 = .ok (.dup, 1) := by decide +kernel
theorem d_Book_init_9 : decode prog_1_method_1_code 9 = .ok (.sipush 8000, 3) := by decide +kernel
theorem d_Book_init_12 : decode prog_1_method_1_code 12 = .ok (.invokespecial 11, 3) := by decide +kernel
theorem k_152 : (Jvm.Cond.methodLink "PackageBook" (11 : Nat) ({ cls := "PackageBook$Row", name := "<init>", desc := "(I)V" } : Jvm.MethodName)) ∈ uW := uW_of 152 (by decide +kernel) (by decide +kernel)
theorem d_Book_init_15 : decode prog_1_method_1_code 15 = .ok (.putfield 14, 3) := by decide +kernel
theorem k_417 : (Jvm.Cond.fieldLink "PackageBook" (14 : Nat) "PackageBook" "tape" "LPackageBook$Row;") ∈ uW := uW_of 417 (by decide +kernel) (by decide +kernel)
theorem d_Book_init_18 : decode prog_1_method_1_code 18 = .ok (.aload_n 0, 1) := by decide +kernel
theorem d_Book_init_19 : decode prog_1_method_1_code 19 = .ok (.new 9, 3) := by decide +kernel
theorem d_Book_init_22 : decode prog_1_method_1_code 22 = .ok (.dup, 1) := by decide +kernel
theorem d_Book_init_23 : decode prog_1_method_1_code 23 = .ok (.sipush 4502, 3) := by decide +kernel
theorem d_Book_init_26 : decode prog_1_method_1_code 26 = .ok (.invokespecial 11, 3) := by decide +kernel
theorem d_Book_init_29 : decode prog_1_method_1_code 29 = .ok (.putfield 18, 3) := by decide +kernel
theorem k_418 : (Jvm.Cond.fieldLink "PackageBook" (18 : Nat) "PackageBook" "came" "LPackageBook$Row;") ∈ uW := uW_of 418 (by decide +kernel) (by decide +kernel)
theorem d_Book_init_32 : decode prog_1_method_1_code 32 = .ok (.aload_n 0, 1) := by decide +kernel
theorem d_Book_init_33 : decode prog_1_method_1_code 33 = .ok (.new 21, 3) := by decide +kernel
theorem k_173 : (Jvm.Cond.classLink "PackageBook" (21 : Nat) "PackageBook$Presser") ∈ uW := uW_of 173 (by decide +kernel) (by decide +kernel)
theorem k_174 : (Jvm.Cond.instantiable "PackageBook$Presser" (9 : Nat)) ∈ uW := uW_of 174 (by decide +kernel) (by decide +kernel)
theorem k_120 : (Jvm.Cond.initialized "PackageBook$Presser") ∈ uW := uW_of 120 (by decide +kernel) (by decide +kernel)
theorem d_Book_init_36 : decode prog_1_method_1_code 36 = .ok (.dup, 1) := by decide +kernel
theorem d_Book_init_37 : decode prog_1_method_1_code 37 = .ok (.invokespecial 23, 3) := by decide +kernel
theorem k_175 : (Jvm.Cond.methodLinkNest "PackageBook" (23 : Nat) ({ cls := "PackageBook$Presser", name := "<init>", desc := "()V" } : Jvm.MethodName) "PackageBook") ∈ uN := uN_of 175 (by decide +kernel) (by decide +kernel)
theorem k_177 : (Jvm.Cond.code ({ cls := "PackageBook$Presser", name := "<init>", desc := "()V" } : Jvm.MethodName) prog_8_method_1_code (1 : Nat) (Option.none : Option Jvm.ClassFile.FieldType)) ∈ uW := uW_of 177 (by decide +kernel) (by decide +kernel)
theorem k_176 : (Jvm.Cond.instanceMethod ({ cls := "PackageBook$Presser", name := "<init>", desc := "()V" } : Jvm.MethodName)) ∈ uW := uW_of 176 (by decide +kernel) (by decide +kernel)
theorem d_Book_init_40 : decode prog_1_method_1_code 40 = .ok (.putfield 24, 3) := by decide +kernel
theorem k_419 : (Jvm.Cond.fieldLink "PackageBook" (24 : Nat) "PackageBook" "presser" "LPackageBook$Presser;") ∈ uW := uW_of 419 (by decide +kernel) (by decide +kernel)
theorem d_Book_init_43 : decode prog_1_method_1_code 43 = .ok (.aload_n 0, 1) := by decide +kernel
theorem d_Book_init_44 : decode prog_1_method_1_code 44 = .ok (.new 28, 3) := by decide +kernel
theorem k_212 : (Jvm.Cond.classLink "PackageBook" (28 : Nat) "PackageBook$Expander") ∈ uW := uW_of 212 (by decide +kernel) (by decide +kernel)
theorem k_213 : (Jvm.Cond.instantiable "PackageBook$Expander" (11 : Nat)) ∈ uW := uW_of 213 (by decide +kernel) (by decide +kernel)
theorem d_Book_init_47 : decode prog_1_method_1_code 47 = .ok (.dup, 1) := by decide +kernel
theorem d_Book_init_48 : decode prog_1_method_1_code 48 = .ok (.invokespecial 30, 3) := by decide +kernel
theorem k_214 : (Jvm.Cond.methodLink "PackageBook" (30 : Nat) ({ cls := "PackageBook$Expander", name := "<init>", desc := "()V" } : Jvm.MethodName)) ∈ uW := uW_of 214 (by decide +kernel) (by decide +kernel)
theorem k_216 : (Jvm.Cond.code ({ cls := "PackageBook$Expander", name := "<init>", desc := "()V" } : Jvm.MethodName) prog_3_method_1_code (2 : Nat) (Option.none : Option Jvm.ClassFile.FieldType)) ∈ uW := uW_of 216 (by decide +kernel) (by decide +kernel)
theorem k_215 : (Jvm.Cond.instanceMethod ({ cls := "PackageBook$Expander", name := "<init>", desc := "()V" } : Jvm.MethodName)) ∈ uW := uW_of 215 (by decide +kernel) (by decide +kernel)
theorem d_Book_init_51 : decode prog_1_method_1_code 51 = .ok (.putfield 31, 3) := by decide +kernel
theorem k_420 : (Jvm.Cond.fieldLink "PackageBook" (31 : Nat) "PackageBook" "expander" "LPackageBook$Expander;") ∈ uW := uW_of 420 (by decide +kernel) (by decide +kernel)
theorem d_Book_init_54 : decode prog_1_method_1_code 54 = .ok (.aload_n 0, 1) := by decide +kernel
theorem d_Book_init_55 : decode prog_1_method_1_code 55 = .ok (.new 35, 3) := by decide +kernel
theorem k_284 : (Jvm.Cond.classLink "PackageBook" (35 : Nat) "PackageBook$FileMaker") ∈ uW := uW_of 284 (by decide +kernel) (by decide +kernel)
theorem k_285 : (Jvm.Cond.instantiable "PackageBook$FileMaker" (2 : Nat)) ∈ uW := uW_of 285 (by decide +kernel) (by decide +kernel)
theorem k_123 : (Jvm.Cond.initialized "PackageBook$FileMaker") ∈ uW := uW_of 123 (by decide +kernel) (by decide +kernel)
theorem d_Book_init_58 : decode prog_1_method_1_code 58 = .ok (.dup, 1) := by decide +kernel
theorem d_Book_init_59 : decode prog_1_method_1_code 59 = .ok (.invokespecial 37, 3) := by decide +kernel
theorem k_286 : (Jvm.Cond.methodLinkNest "PackageBook" (37 : Nat) ({ cls := "PackageBook$FileMaker", name := "<init>", desc := "()V" } : Jvm.MethodName) "PackageBook") ∈ uN := uN_of 286 (by decide +kernel) (by decide +kernel)
theorem k_288 : (Jvm.Cond.code ({ cls := "PackageBook$FileMaker", name := "<init>", desc := "()V" } : Jvm.MethodName) prog_4_method_1_code (1 : Nat) (Option.none : Option Jvm.ClassFile.FieldType)) ∈ uW := uW_of 288 (by decide +kernel) (by decide +kernel)
theorem k_287 : (Jvm.Cond.instanceMethod ({ cls := "PackageBook$FileMaker", name := "<init>", desc := "()V" } : Jvm.MethodName)) ∈ uW := uW_of 287 (by decide +kernel) (by decide +kernel)
theorem d_Book_init_62 : decode prog_1_method_1_code 62 = .ok (.putfield 38, 3) := by decide +kernel
theorem k_421 : (Jvm.Cond.fieldLink "PackageBook" (38 : Nat) "PackageBook" "maker" "LPackageBook$FileMaker;") ∈ uW := uW_of 421 (by decide +kernel) (by decide +kernel)
theorem d_Book_init_65 : decode prog_1_method_1_code 65 = .ok (.aload_n 0, 1) := by decide +kernel
theorem d_Book_init_66 : decode prog_1_method_1_code 66 = .ok (.new 42, 3) := by decide +kernel
theorem k_300 : (Jvm.Cond.classLink "PackageBook" (42 : Nat) "PackageBook$FileReader") ∈ uW := uW_of 300 (by decide +kernel) (by decide +kernel)
theorem k_301 : (Jvm.Cond.instantiable "PackageBook$FileReader" (1 : Nat)) ∈ uW := uW_of 301 (by decide +kernel) (by decide +kernel)
theorem k_124 : (Jvm.Cond.initialized "PackageBook$FileReader") ∈ uW := uW_of 124 (by decide +kernel) (by decide +kernel)
theorem d_Book_init_69 : decode prog_1_method_1_code 69 = .ok (.dup, 1) := by decide +kernel
theorem d_Book_init_70 : decode prog_1_method_1_code 70 = .ok (.invokespecial 44, 3) := by decide +kernel
theorem k_302 : (Jvm.Cond.methodLinkNest "PackageBook" (44 : Nat) ({ cls := "PackageBook$FileReader", name := "<init>", desc := "()V" } : Jvm.MethodName) "PackageBook") ∈ uN := uN_of 302 (by decide +kernel) (by decide +kernel)
theorem k_304 : (Jvm.Cond.code ({ cls := "PackageBook$FileReader", name := "<init>", desc := "()V" } : Jvm.MethodName) prog_5_method_1_code (1 : Nat) (Option.none : Option Jvm.ClassFile.FieldType)) ∈ uW := uW_of 304 (by decide +kernel) (by decide +kernel)
theorem k_303 : (Jvm.Cond.instanceMethod ({ cls := "PackageBook$FileReader", name := "<init>", desc := "()V" } : Jvm.MethodName)) ∈ uW := uW_of 303 (by decide +kernel) (by decide +kernel)
theorem d_Book_init_73 : decode prog_1_method_1_code 73 = .ok (.putfield 45, 3) := by decide +kernel
theorem k_422 : (Jvm.Cond.fieldLink "PackageBook" (45 : Nat) "PackageBook" "reader" "LPackageBook$FileReader;") ∈ uW := uW_of 422 (by decide +kernel) (by decide +kernel)
theorem d_Book_init_76 : decode prog_1_method_1_code 76 = .ok (.aload_n 0, 1) := by decide +kernel
theorem d_Book_init_77 : decode prog_1_method_1_code 77 = .ok (.new 49, 3) := by decide +kernel
theorem k_310 : (Jvm.Cond.classLink "PackageBook" (49 : Nat) "PackageBook$Markup") ∈ uW := uW_of 310 (by decide +kernel) (by decide +kernel)
theorem k_311 : (Jvm.Cond.instantiable "PackageBook$Markup" (13 : Nat)) ∈ uW := uW_of 311 (by decide +kernel) (by decide +kernel)
theorem k_125 : (Jvm.Cond.initialized "PackageBook$Markup") ∈ uW := uW_of 125 (by decide +kernel) (by decide +kernel)
theorem d_Book_init_80 : decode prog_1_method_1_code 80 = .ok (.dup, 1) := by decide +kernel
theorem d_Book_init_81 : decode prog_1_method_1_code 81 = .ok (.invokespecial 51, 3) := by decide +kernel
theorem k_312 : (Jvm.Cond.methodLinkNest "PackageBook" (51 : Nat) ({ cls := "PackageBook$Markup", name := "<init>", desc := "()V" } : Jvm.MethodName) "PackageBook") ∈ uN := uN_of 312 (by decide +kernel) (by decide +kernel)
theorem k_314 : (Jvm.Cond.code ({ cls := "PackageBook$Markup", name := "<init>", desc := "()V" } : Jvm.MethodName) prog_7_method_1_code (1 : Nat) (Option.none : Option Jvm.ClassFile.FieldType)) ∈ uW := uW_of 314 (by decide +kernel) (by decide +kernel)
theorem k_313 : (Jvm.Cond.instanceMethod ({ cls := "PackageBook$Markup", name := "<init>", desc := "()V" } : Jvm.MethodName)) ∈ uW := uW_of 313 (by decide +kernel) (by decide +kernel)
theorem d_Book_init_84 : decode prog_1_method_1_code 84 = .ok (.putfield 52, 3) := by decide +kernel
theorem k_423 : (Jvm.Cond.fieldLink "PackageBook" (52 : Nat) "PackageBook" "markup" "LPackageBook$Markup;") ∈ uW := uW_of 423 (by decide +kernel) (by decide +kernel)
theorem d_Book_init_87 : decode prog_1_method_1_code 87 = .ok (.aload_n 0, 1) := by decide +kernel
theorem d_Book_init_88 : decode prog_1_method_1_code 88 = .ok (.new 56, 3) := by decide +kernel
theorem k_360 : (Jvm.Cond.classLink "PackageBook" (56 : Nat) "PackageBook$Findings") ∈ uW := uW_of 360 (by decide +kernel) (by decide +kernel)
theorem k_361 : (Jvm.Cond.instantiable "PackageBook$Findings" (4 : Nat)) ∈ uW := uW_of 361 (by decide +kernel) (by decide +kernel)
theorem k_126 : (Jvm.Cond.initialized "PackageBook$Findings") ∈ uW := uW_of 126 (by decide +kernel) (by decide +kernel)
theorem d_Book_init_91 : decode prog_1_method_1_code 91 = .ok (.dup, 1) := by decide +kernel
theorem d_Book_init_92 : decode prog_1_method_1_code 92 = .ok (.invokespecial 58, 3) := by decide +kernel
theorem k_362 : (Jvm.Cond.methodLinkNest "PackageBook" (58 : Nat) ({ cls := "PackageBook$Findings", name := "<init>", desc := "()V" } : Jvm.MethodName) "PackageBook") ∈ uN := uN_of 362 (by decide +kernel) (by decide +kernel)
theorem k_364 : (Jvm.Cond.code ({ cls := "PackageBook$Findings", name := "<init>", desc := "()V" } : Jvm.MethodName) prog_6_method_1_code (1 : Nat) (Option.none : Option Jvm.ClassFile.FieldType)) ∈ uW := uW_of 364 (by decide +kernel) (by decide +kernel)
theorem k_363 : (Jvm.Cond.instanceMethod ({ cls := "PackageBook$Findings", name := "<init>", desc := "()V" } : Jvm.MethodName)) ∈ uW := uW_of 363 (by decide +kernel) (by decide +kernel)
theorem d_Book_init_95 : decode prog_1_method_1_code 95 = .ok (.putfield 59, 3) := by decide +kernel
theorem k_424 : (Jvm.Cond.fieldLink "PackageBook" (59 : Nat) "PackageBook" "findings" "LPackageBook$Findings;") ∈ uW := uW_of 424 (by decide +kernel) (by decide +kernel)
theorem d_Book_init_98 : decode prog_1_method_1_code 98 = .ok (.aload_n 0, 1) := by decide +kernel
theorem d_Book_init_99 : decode prog_1_method_1_code 99 = .ok (.bipush 16, 2) := by decide +kernel
theorem d_Book_init_101 : decode prog_1_method_1_code 101 = .ok (.newarray .int, 2) := by decide +kernel
theorem d_Book_init_103 : decode prog_1_method_1_code 103 = .ok (.putfield 63, 3) := by decide +kernel
theorem k_425 : (Jvm.Cond.fieldLink "PackageBook" (63 : Nat) "PackageBook" "goals" "[I") ∈ uW := uW_of 425 (by decide +kernel) (by decide +kernel)
theorem d_Book_init_106 : decode prog_1_method_1_code 106 = .ok (.aload_n 0, 1) := by decide +kernel
theorem d_Book_init_107 : decode prog_1_method_1_code 107 = .ok (.new 67, 3) := by decide +kernel
theorem k_383 : (Jvm.Cond.classLink "PackageBook" (67 : Nat) "PackageBook$Shelf") ∈ uW := uW_of 383 (by decide +kernel) (by decide +kernel)
theorem k_384 : (Jvm.Cond.instantiable "PackageBook$Shelf" (5 : Nat)) ∈ uW := uW_of 384 (by decide +kernel) (by decide +kernel)
theorem k_127 : (Jvm.Cond.initialized "PackageBook$Shelf") ∈ uW := uW_of 127 (by decide +kernel) (by decide +kernel)
theorem d_Book_init_110 : decode prog_1_method_1_code 110 = .ok (.dup, 1) := by decide +kernel
theorem d_Book_init_111 : decode prog_1_method_1_code 111 = .ok (.invokespecial 69, 3) := by decide +kernel
theorem k_385 : (Jvm.Cond.methodLinkNest "PackageBook" (69 : Nat) ({ cls := "PackageBook$Shelf", name := "<init>", desc := "()V" } : Jvm.MethodName) "PackageBook") ∈ uN := uN_of 385 (by decide +kernel) (by decide +kernel)
theorem k_387 : (Jvm.Cond.code ({ cls := "PackageBook$Shelf", name := "<init>", desc := "()V" } : Jvm.MethodName) prog_10_method_1_code (1 : Nat) (Option.none : Option Jvm.ClassFile.FieldType)) ∈ uW := uW_of 387 (by decide +kernel) (by decide +kernel)
theorem k_386 : (Jvm.Cond.instanceMethod ({ cls := "PackageBook$Shelf", name := "<init>", desc := "()V" } : Jvm.MethodName)) ∈ uW := uW_of 386 (by decide +kernel) (by decide +kernel)
theorem d_Book_init_114 : decode prog_1_method_1_code 114 = .ok (.putfield 70, 3) := by decide +kernel
theorem k_426 : (Jvm.Cond.fieldLink "PackageBook" (70 : Nat) "PackageBook" "parts" "LPackageBook$Shelf;") ∈ uW := uW_of 426 (by decide +kernel) (by decide +kernel)
theorem d_Book_init_117 : decode prog_1_method_1_code 117 = .ok (.aload_n 0, 1) := by decide +kernel
theorem d_Book_init_118 : decode prog_1_method_1_code 118 = .ok (.new 67, 3) := by decide +kernel
theorem d_Book_init_121 : decode prog_1_method_1_code 121 = .ok (.dup, 1) := by decide +kernel
theorem d_Book_init_122 : decode prog_1_method_1_code 122 = .ok (.invokespecial 69, 3) := by decide +kernel
theorem d_Book_init_125 : decode prog_1_method_1_code 125 = .ok (.putfield 74, 3) := by decide +kernel
theorem k_427 : (Jvm.Cond.fieldLink "PackageBook" (74 : Nat) "PackageBook" "spare" "LPackageBook$Shelf;") ∈ uW := uW_of 427 (by decide +kernel) (by decide +kernel)
theorem d_Book_init_128 : decode prog_1_method_1_code 128 = .ok (.return_, 1) := by decide +kernel
abbrev y_Book_init : MethodName := ⟨"PackageBook", "<init>", "()V"⟩
abbrev i_Book_init : pb_I := (y_Book_init, prog_1_method_1_code, 1, (Option.none : Option Jvm.ClassFile.FieldType), [], { frames := 3, cells := 57, slots := 111301, locals := 62 })
set_option maxRecDepth 100000 in
set_option maxHeartbeats 4000000 in
theorem c_Book_init {l : Launch} (hl : l.stackTraces = false) (G : pb_G) (h : Nat) : Cn l G i_Book_init [.ref h] [(h, .inr (9, [.null, .null, .null, .null, .null, .null, .null, .null, .null, .null, .null]))] (S := Nat × Nat × Nat × Nat × Nat × Nat × Nat × Nat × Nat × Nat × Nat × Nat × Nat × Nat × Nat × Nat × Nat × Nat × Nat × Nat × Nat × Nat × Nat × Nat × Nat × Nat × Nat × Nat × Nat × Nat × Nat × Nat × Nat × Nat × Nat × Nat × Nat × Nat × Nat × Nat × Nat × Nat × Nat × Nat × Nat × Nat × Nat × Nat × Nat × Nat × Nat × Nat × Nat × Nat × Nat × Nat × Int32 × Int32 × (Nat → Int32) × (Nat → Int32) × (Nat → Int32) × (Nat → Int32)) (fun v u => v = none) (fun u => [(h, .inr (9, [.ref u.1, .ref u.2.2.1, .ref u.2.2.2.2.1, .ref u.2.2.2.2.2.2.2.2.2.2.1, .ref u.2.2.2.2.2.2.2.2.2.2.2.2.2.2.2.2.2.2.2.2.2.2.2.2.2.2.2.2.2.2.1, .ref u.2.2.2.2.2.2.2.2.2.2.2.2.2.2.2.2.2.2.2.2.2.2.2.2.2.2.2.2.2.2.2.2.2.2.1, .ref u.2.2.2.2.2.2.2.2.2.2.2.2.2.2.2.2.2.2.2.2.2.2.2.2.2.2.2.2.2.2.2.2.2.2.2.2.1, .ref u.2.2.2.2.2.2.2.2.2.2.2.2.2.2.2.2.2.2.2.2.2.2.2.2.2.2.2.2.2.2.2.2.2.2.2.2.2.2.2.2.2.1, .ref u.2.2.2.2.2.2.2.2.2.2.2.2.2.2.2.2.2.2.2.2.2.2.2.2.2.2.2.2.2.2.2.2.2.2.2.2.2.2.2.2.2.2.2.2.2.1, .ref u.2.2.2.2.2.2.2.2.2.2.2.2.2.2.2.2.2.2.2.2.2.2.2.2.2.2.2.2.2.2.2.2.2.2.2.2.2.2.2.2.2.2.2.2.2.2.1, .ref u.2.2.2.2.2.2.2.2.2.2.2.2.2.2.2.2.2.2.2.2.2.2.2.2.2.2.2.2.2.2.2.2.2.2.2.2.2.2.2.2.2.2.2.2.2.2.2.2.2.2.2.1])), (u.1, .inr (0, [.ref u.2.1, .int 0])), (u.2.1, .inl (G.2.1, 8000, .inl (fun _ => 0))), (u.2.2.1, .inr (0, [.ref u.2.2.2.1, .int 0])), (u.2.2.2.1, .inl (G.2.1, 4502, .inl (fun _ => 0))), (u.2.2.2.2.1, .inr (4, [.ref u.2.2.2.2.2.1, .ref u.2.2.2.2.2.2.2.1, .ref u.2.2.2.2.2.2.2.2.1, .ref u.2.2.2.2.2.2.2.2.2.1, .int 0, .int 0, .int 0, .int 0, .int 0])), (u.2.2.2.2.2.1, .inr (0, [.ref u.2.2.2.2.2.2.1, .int 0])), (u.2.2.2.2.2.2.1, .inl (G.2.1, 4502, .inl (fun _ => 0))), (u.2.2.2.2.2.2.2.1, .inl (G.2.2.1, 1024, .inl (fun _ => 0))), (u.2.2.2.2.2.2.2.2.1, .inl (G.2.2.1, 4000, .inl (fun _ => 0))), (u.2.2.2.2.2.2.2.2.2.1, .inl (G.2.1, 0, .inl (fun _ => 0))), (u.2.2.2.2.2.2.2.2.2.2.1, .inr (5, [.ref u.2.2.2.2.2.2.2.2.2.2.2.1, .ref u.2.2.2.2.2.2.2.2.2.2.2.2.2.1, .ref u.2.2.2.2.2.2.2.2.2.2.2.2.2.2.1, .ref u.2.2.2.2.2.2.2.2.2.2.2.2.2.2.2.2.2.1, .ref u.2.2.2.2.2.2.2.2.2.2.2.2.2.2.2.2.2.2.2.2.1, .ref u.2.2.2.2.2.2.2.2.2.2.2.2.2.2.2.2.2.2.2.2.2.2.2.1, .ref u.2.2.2.2.2.2.2.2.2.2.2.2.2.2.2.2.2.2.2.2.2.2.2.2.2.2.1, .ref u.2.2.2.2.2.2.2.2.2.2.2.2.2.2.2.2.2.2.2.2.2.2.2.2.2.2.2.2.2.1, .int 0, .int 0, .int 0])), (u.2.2.2.2.2.2.2.2.2.2.2.1, .inr (0, [.ref u.2.2.2.2.2.2.2.2.2.2.2.2.1, .int 0])), (u.2.2.2.2.2.2.2.2.2.2.2.2.1, .inl (G.2.1, 4000, .inl (fun _ => 0))), (u.2.2.2.2.2.2.2.2.2.2.2.2.2.1, .inl (G.2.2.1, 316, .inl (fun _ => 0))), (u.2.2.2.2.2.2.2.2.2.2.2.2.2.2.1, .inr (1, [.ref u.2.2.2.2.2.2.2.2.2.2.2.2.2.2.2.1, .ref u.2.2.2.2.2.2.2.2.2.2.2.2.2.2.2.2.1, .int u.2.2.2.2.2.2.2.2.2.2.2.2.2.2.2.2.2.2.2.2.2.2.2.2.2.2.2.2.2.2.2.2.2.2.2.2.2.2.2.2.2.2.2.2.2.2.2.2.2.2.2.2.2.2.2.2.1])), (u.2.2.2.2.2.2.2.2.2.2.2.2.2.2.2.1, .inl (G.2.2.1, 16, .inl u.2.2.2.2.2.2.2.2.2.2.2.2.2.2.2.2.2.2.2.2.2.2.2.2.2.2.2.2.2.2.2.2.2.2.2.2.2.2.2.2.2.2.2.2.2.2.2.2.2.2.2.2.2.2.2.2.2.2.1)), (u.2.2.2.2.2.2.2.2.2.2.2.2.2.2.2.2.1, .inl (G.2.2.1, 288, .inl u.2.2.2.2.2.2.2.2.2.2.2.2.2.2.2.2.2.2.2.2.2.2.2.2.2.2.2.2.2.2.2.2.2.2.2.2.2.2.2.2.2.2.2.2.2.2.2.2.2.2.2.2.2.2.2.2.2.2.2.1)), (u.2.2.2.2.2.2.2.2.2.2.2.2.2.2.2.2.2.1, .inr (1, [.ref u.2.2.2.2.2.2.2.2.2.2.2.2.2.2.2.2.2.2.1, .ref u.2.2.2.2.2.2.2.2.2.2.2.2.2.2.2.2.2.2.2.1, .int u.2.2.2.2.2.2.2.2.2.2.2.2.2.2.2.2.2.2.2.2.2.2.2.2.2.2.2.2.2.2.2.2.2.2.2.2.2.2.2.2.2.2.2.2.2.2.2.2.2.2.2.2.2.2.2.2.2.1])), (u.2.2.2.2.2.2.2.2.2.2.2.2.2.2.2.2.2.2.1, .inl (G.2.2.1, 16, .inl u.2.2.2.2.2.2.2.2.2.2.2.2.2.2.2.2.2.2.2.2.2.2.2.2.2.2.2.2.2.2.2.2.2.2.2.2.2.2.2.2.2.2.2.2.2.2.2.2.2.2.2.2.2.2.2.2.2.2.2.2.1)), (u.2.2.2.2.2.2.2.2.2.2.2.2.2.2.2.2.2.2.2.1, .inl (G.2.2.1, 32, .inl u.2.2.2.2.2.2.2.2.2.2.2.2.2.2.2.2.2.2.2.2.2.2.2.2.2.2.2.2.2.2.2.2.2.2.2.2.2.2.2.2.2.2.2.2.2.2.2.2.2.2.2.2.2.2.2.2.2.2.2.2.2)), (u.2.2.2.2.2.2.2.2.2.2.2.2.2.2.2.2.2.2.2.2.1, .inr (1, [.ref u.2.2.2.2.2.2.2.2.2.2.2.2.2.2.2.2.2.2.2.2.2.1, .ref u.2.2.2.2.2.2.2.2.2.2.2.2.2.2.2.2.2.2.2.2.2.2.1, .int 0])), (u.2.2.2.2.2.2.2.2.2.2.2.2.2.2.2.2.2.2.2.2.2.1, .inl (G.2.2.1, 16, .inl (fun _ => 0))), (u.2.2.2.2.2.2.2.2.2.2.2.2.2.2.2.2.2.2.2.2.2.2.1, .inl (G.2.2.1, 286, .inl (fun _ => 0))), (u.2.2.2.2.2.2.2.2.2.2.2.2.2.2.2.2.2.2.2.2.2.2.2.1, .inr (1, [.ref u.2.2.2.2.2.2.2.2.2.2.2.2.2.2.2.2.2.2.2.2.2.2.2.2.1, .ref u.2.2.2.2.2.2.2.2.2.2.2.2.2.2.2.2.2.2.2.2.2.2.2.2.2.1, .int 0])), (u.2.2.2.2.2.2.2.2.2.2.2.2.2.2.2.2.2.2.2.2.2.2.2.2.1, .inl (G.2.2.1, 16, .inl (fun _ => 0))), (u.2.2.2.2.2.2.2.2.2.2.2.2.2.2.2.2.2.2.2.2.2.2.2.2.2.1, .inl (G.2.2.1, 30, .inl (fun _ => 0))), (u.2.2.2.2.2.2.2.2.2.2.2.2.2.2.2.2.2.2.2.2.2.2.2.2.2.2.1, .inr (1, [.ref u.2.2.2.2.2.2.2.2.2.2.2.2.2.2.2.2.2.2.2.2.2.2.2.2.2.2.2.1, .ref u.2.2.2.2.2.2.2.2.2.2.2.2.2.2.2.2.2.2.2.2.2.2.2.2.2.2.2.2.1, .int 0])), (u.2.2.2.2.2.2.2.2.2.2.2.2.2.2.2.2.2.2.2.2.2.2.2.2.2.2.2.1, .inl (G.2.2.1, 16, .inl (fun _ => 0))), (u.2.2.2.2.2.2.2.2.2.2.2.2.2.2.2.2.2.2.2.2.2.2.2.2.2.2.2.2.1, .inl (G.2.2.1, 19, .inl (fun _ => 0))), (u.2.2.2.2.2.2.2.2.2.2.2.2.2.2.2.2.2.2.2.2.2.2.2.2.2.2.2.2.2.1, .inl (G.2.1, 0, .inl (fun _ => 0))), (u.2.2.2.2.2.2.2.2.2.2.2.2.2.2.2.2.2.2.2.2.2.2.2.2.2.2.2.2.2.2.1, .inr (6, [.ref u.2.2.2.2.2.2.2.2.2.2.2.2.2.2.2.2.2.2.2.2.2.2.2.2.2.2.2.2.2.2.2.1, .ref u.2.2.2.2.2.2.2.2.2.2.2.2.2.2.2.2.2.2.2.2.2.2.2.2.2.2.2.2.2.2.2.2.2.1])), (u.2.2.2.2.2.2.2.2.2.2.2.2.2.2.2.2.2.2.2.2.2.2.2.2.2.2.2.2.2.2.2.1, .inr (0, [.ref u.2.2.2.2.2.2.2.2.2.2.2.2.2.2.2.2.2.2.2.2.2.2.2.2.2.2.2.2.2.2.2.2.1, .int 0])), (u.2.2.2.2.2.2.2.2.2.2.2.2.2.2.2.2.2.2.2.2.2.2.2.2.2.2.2.2.2.2.2.2.1, .inl (G.2.1, 14006, .inl (fun _ => 0))), (u.2.2.2.2.2.2.2.2.2.2.2.2.2.2.2.2.2.2.2.2.2.2.2.2.2.2.2.2.2.2.2.2.2.1, .inl (G.2.2.1, 16, .inl (fun _ => 0))), (u.2.2.2.2.2.2.2.2.2.2.2.2.2.2.2.2.2.2.2.2.2.2.2.2.2.2.2.2.2.2.2.2.2.2.1, .inr (7, [.ref u.2.2.2.2.2.2.2.2.2.2.2.2.2.2.2.2.2.2.2.2.2.2.2.2.2.2.2.2.2.2.2.2.2.2.2.1])), (u.2.2.2.2.2.2.2.2.2.2.2.2.2.2.2.2.2.2.2.2.2.2.2.2.2.2.2.2.2.2.2.2.2.2.2.1, .inl (G.2.1, 0, .inl (fun _ => 0))), (u.2.2.2.2.2.2.2.2.2.2.2.2.2.2.2.2.2.2.2.2.2.2.2.2.2.2.2.2.2.2.2.2.2.2.2.2.1, .inr (8, [.ref u.2.2.2.2.2.2.2.2.2.2.2.2.2.2.2.2.2.2.2.2.2.2.2.2.2.2.2.2.2.2.2.2.2.2.2.2.2.1, .ref u.2.2.2.2.2.2.2.2.2.2.2.2.2.2.2.2.2.2.2.2.2.2.2.2.2.2.2.2.2.2.2.2.2.2.2.2.2.2.1, .ref u.2.2.2.2.2.2.2.2.2.2.2.2.2.2.2.2.2.2.2.2.2.2.2.2.2.2.2.2.2.2.2.2.2.2.2.2.2.2.2.1, .ref u.2.2.2.2.2.2.2.2.2.2.2.2.2.2.2.2.2.2.2.2.2.2.2.2.2.2.2.2.2.2.2.2.2.2.2.2.2.2.2.2.1, .int 0, .int (-1), .int 0, .int 0, .int 0, .int 0, .int 0, .int 0, .int 0])), (u.2.2.2.2.2.2.2.2.2.2.2.2.2.2.2.2.2.2.2.2.2.2.2.2.2.2.2.2.2.2.2.2.2.2.2.2.2.1, .inl (G.2.2.2.1, 200, .inr (.inl (fun _ => 0)))), (u.2.2.2.2.2.2.2.2.2.2.2.2.2.2.2.2.2.2.2.2.2.2.2.2.2.2.2.2.2.2.2.2.2.2.2.2.2.2.1, .inl (G.2.2.1, 200, .inl (fun _ => 0))), (u.2.2.2.2.2.2.2.2.2.2.2.2.2.2.2.2.2.2.2.2.2.2.2.2.2.2.2.2.2.2.2.2.2.2.2.2.2.2.2.1, .inl (G.2.1, 24, .inl (fun _ => 0))), (u.2.2.2.2.2.2.2.2.2.2.2.2.2.2.2.2.2.2.2.2.2.2.2.2.2.2.2.2.2.2.2.2.2.2.2.2.2.2.2.2.1, .inl (G.2.1, 0, .inl (fun _ => 0))), (u.2.2.2.2.2.2.2.2.2.2.2.2.2.2.2.2.2.2.2.2.2.2.2.2.2.2.2.2.2.2.2.2.2.2.2.2.2.2.2.2.2.1, .inr (2, [.ref u.2.2.2.2.2.2.2.2.2.2.2.2.2.2.2.2.2.2.2.2.2.2.2.2.2.2.2.2.2.2.2.2.2.2.2.2.2.2.2.2.2.2.1, .ref u.2.2.2.2.2.2.2.2.2.2.2.2.2.2.2.2.2.2.2.2.2.2.2.2.2.2.2.2.2.2.2.2.2.2.2.2.2.2.2.2.2.2.2.1, .ref u.2.2.2.2.2.2.2.2.2.2.2.2.2.2.2.2.2.2.2.2.2.2.2.2.2.2.2.2.2.2.2.2.2.2.2.2.2.2.2.2.2.2.2.2.1, .int 0])), (u.2.2.2.2.2.2.2.2.2.2.2.2.2.2.2.2.2.2.2.2.2.2.2.2.2.2.2.2.2.2.2.2.2.2.2.2.2.2.2.2.2.2.1, .inl (G.2.2.1, 1232, .inl (fun _ => 0))), (u.2.2.2.2.2.2.2.2.2.2.2.2.2.2.2.2.2.2.2.2.2.2.2.2.2.2.2.2.2.2.2.2.2.2.2.2.2.2.2.2.2.2.2.1, .inl (G.2.2.1, 1232, .inl (fun _ => 0))), (u.2.2.2.2.2.2.2.2.2.2.2.2.2.2.2.2.2.2.2.2.2.2.2.2.2.2.2.2.2.2.2.2.2.2.2.2.2.2.2.2.2.2.2.2.1, .inl (G.2.2.1, 1232, .inl (fun _ => 0))), (u.2.2.2.2.2.2.2.2.2.2.2.2.2.2.2.2.2.2.2.2.2.2.2.2.2.2.2.2.2.2.2.2.2.2.2.2.2.2.2.2.2.2.2.2.2.1, .inl (G.2.2.1, 16, .inl (fun _ => 0))), (u.2.2.2.2.2.2.2.2.2.2.2.2.2.2.2.2.2.2.2.2.2.2.2.2.2.2.2.2.2.2.2.2.2.2.2.2.2.2.2.2.2.2.2.2.2.2.1, .inr (3, [.ref u.2.2.2.2.2.2.2.2.2.2.2.2.2.2.2.2.2.2.2.2.2.2.2.2.2.2.2.2.2.2.2.2.2.2.2.2.2.2.2.2.2.2.2.2.2.2.2.1, .ref u.2.2.2.2.2.2.2.2.2.2.2.2.2.2.2.2.2.2.2.2.2.2.2.2.2.2.2.2.2.2.2.2.2.2.2.2.2.2.2.2.2.2.2.2.2.2.2.2.1, .ref u.2.2.2.2.2.2.2.2.2.2.2.2.2.2.2.2.2.2.2.2.2.2.2.2.2.2.2.2.2.2.2.2.2.2.2.2.2.2.2.2.2.2.2.2.2.2.2.2.2.1, .ref u.2.2.2.2.2.2.2.2.2.2.2.2.2.2.2.2.2.2.2.2.2.2.2.2.2.2.2.2.2.2.2.2.2.2.2.2.2.2.2.2.2.2.2.2.2.2.2.2.2.2.1, .int 0])), (u.2.2.2.2.2.2.2.2.2.2.2.2.2.2.2.2.2.2.2.2.2.2.2.2.2.2.2.2.2.2.2.2.2.2.2.2.2.2.2.2.2.2.2.2.2.2.2.1, .inl (G.2.1, 384, .inl (fun _ => 0))), (u.2.2.2.2.2.2.2.2.2.2.2.2.2.2.2.2.2.2.2.2.2.2.2.2.2.2.2.2.2.2.2.2.2.2.2.2.2.2.2.2.2.2.2.2.2.2.2.2.1, .inl (G.2.2.1, 16, .inl (fun _ => 0))), (u.2.2.2.2.2.2.2.2.2.2.2.2.2.2.2.2.2.2.2.2.2.2.2.2.2.2.2.2.2.2.2.2.2.2.2.2.2.2.2.2.2.2.2.2.2.2.2.2.2.1, .inl (G.2.1, 12000, .inl (fun _ => 0))), (u.2.2.2.2.2.2.2.2.2.2.2.2.2.2.2.2.2.2.2.2.2.2.2.2.2.2.2.2.2.2.2.2.2.2.2.2.2.2.2.2.2.2.2.2.2.2.2.2.2.2.1, .inl (G.2.2.1, 17, .inl (fun _ => 0))), (u.2.2.2.2.2.2.2.2.2.2.2.2.2.2.2.2.2.2.2.2.2.2.2.2.2.2.2.2.2.2.2.2.2.2.2.2.2.2.2.2.2.2.2.2.2.2.2.2.2.2.2.1, .inr (3, [.ref u.2.2.2.2.2.2.2.2.2.2.2.2.2.2.2.2.2.2.2.2.2.2.2.2.2.2.2.2.2.2.2.2.2.2.2.2.2.2.2.2.2.2.2.2.2.2.2.2.2.2.2.2.1, .ref u.2.2.2.2.2.2.2.2.2.2.2.2.2.2.2.2.2.2.2.2.2.2.2.2.2.2.2.2.2.2.2.2.2.2.2.2.2.2.2.2.2.2.2.2.2.2.2.2.2.2.2.2.2.1, .ref u.2.2.2.2.2.2.2.2.2.2.2.2.2.2.2.2.2.2.2.2.2.2.2.2.2.2.2.2.2.2.2.2.2.2.2.2.2.2.2.2.2.2.2.2.2.2.2.2.2.2.2.2.2.2.1, .ref u.2.2.2.2.2.2.2.2.2.2.2.2.2.2.2.2.2.2.2.2.2.2.2.2.2.2.2.2.2.2.2.2.2.2.2.2.2.2.2.2.2.2.2.2.2.2.2.2.2.2.2.2.2.2.2.1, .int 0])), (u.2.2.2.2.2.2.2.2.2.2.2.2.2.2.2.2.2.2.2.2.2.2.2.2.2.2.2.2.2.2.2.2.2.2.2.2.2.2.2.2.2.2.2.2.2.2.2.2.2.2.2.2.1, .inl (G.2.1, 384, .inl (fun _ => 0))), (u.2.2.2.2.2.2.2.2.2.2.2.2.2.2.2.2.2.2.2.2.2.2.2.2.2.2.2.2.2.2.2.2.2.2.2.2.2.2.2.2.2.2.2.2.2.2.2.2.2.2.2.2.2.1, .inl (G.2.2.1, 16, .inl (fun _ => 0))), (u.2.2.2.2.2.2.2.2.2.2.2.2.2.2.2.2.2.2.2.2.2.2.2.2.2.2.2.2.2.2.2.2.2.2.2.2.2.2.2.2.2.2.2.2.2.2.2.2.2.2.2.2.2.2.1, .inl (G.2.1, 12000, .inl (fun _ => 0))), (u.2.2.2.2.2.2.2.2.2.2.2.2.2.2.2.2.2.2.2.2.2.2.2.2.2.2.2.2.2.2.2.2.2.2.2.2.2.2.2.2.2.2.2.2.2.2.2.2.2.2.2.2.2.2.2.1, .inl (G.2.2.1, 17, .inl (fun _ => 0)))]) := by
  refine Cn.of hl (by decide +kernel) rfl (Nat.le_of_ble_eq_true rfl) (fun M hQ => ?_)
  refine pb_eq (pc' := 0) (lo' := [(0, .ref h)]) (rest' := []) (ws' := [(h, .inr (9, [.null, .null, .null, .null, .null, .null, .null, .null, .null, .null, .null]))]) ?_
  refine pb_aload_n (pc := 0) d_Book_init_0 0 rfl rfl ?_
  refine pb_objInit (pc := 1) d_Book_init_1 k_147 k_148 k_149 (by decide) (Nat.le_of_ble_eq_true rfl) ?_
  refine pb_aload_n (pc := 4) d_Book_init_4 0 rfl rfl ?_
  refine pb_new (pc := 5) (ci := 0) (fs := [.null, .int 0]) d_Book_init_5 t_Row t_Row_ok rfl in_Row k_150 k_151 k_119 (by decide) (by decide) (by decide) (fun q1 => ?_)
  refine pb_eq (pc' := 8) (lo' := [(0, .ref h)]) (rest' := [.ref q1, .ref h]) (ws' := [(h, .inr (9, [.null, .null, .null, .null, .null, .null, .null, .null, .null, .null, .null])), (q1, .inr (0, [.null, .int 0]))]) ?_
  refine pb_dup (pc := 8) d_Book_init_8 rfl ?_
  refine pb_sipush (pc := 9) (v := 8000) d_Book_init_9 (by decide) ?_
  refine pb_callI (pc := 12) (nA := 1) (rest := [.ref q1, .ref h]) (wr := [(h, .inr (9, [.null, .null, .null, .null, .null, .null, .null, .null, .null, .null, .null]))]) d_Book_init_12 (c_Row_init hl G q1 8000 8000 (by decide) (by decide) (by decide)) [1] [0] (by decide) rfl rfl rfl (by decide) (by decide) k_154 rfl k_119 k_152 k_153 rfl (by decide +kernel) (by decide) rfl rfl (Nat.le_of_ble_eq_true rfl) (by decide) (fun v9 u3 h2 => ?_)
  obtain ⟨q_4, rfl⟩ : ∃ z9, z9 = u3 := ⟨_, rfl⟩
  have eh2 := h2
  have eh2 : v9 = none := eh2
  subst eh2
  refine pb_eq (pc' := 15) (lo' := [(0, .ref h)]) (rest' := [.ref q1, .ref h]) (ws' := [(h, .inr (9, [.null, .null, .null, .null, .null, .null, .null, .null, .null, .null, .null])), (q1, .inr (0, [.ref q_4, .int 0])), (q_4, .inl (G.2.1, 8000, .inl (fun _ => 0)))]) ?_
  refine pb_putF (pc := 15) (ty := (.object "PackageBook$Row")) (ws' := [(h, .inr (9, [.ref q1, .null, .null, .null, .null, .null, .null, .null, .null, .null, .null])), (q1, .inr (0, [.ref q_4, .int 0])), (q_4, .inl (G.2.1, 8000, .inl (fun _ => 0)))]) d_Book_init_15 0 0 t_Book t_Book_ok n_Book rfl rfl (by decide) in_Book k_417 rfl rfl rfl (by decide +kernel) rfl rfl (Nat.le_of_ble_eq_true rfl) rfl ?_
  refine pb_aload_n (pc := 18) d_Book_init_18 0 rfl rfl ?_
  refine pb_new (pc := 19) (ci := 0) (fs := [.null, .int 0]) d_Book_init_19 t_Row t_Row_ok rfl in_Row k_150 k_151 k_119 (by decide) (by decide) (by decide) (fun q5 => ?_)
  refine pb_eq (pc' := 22) (lo' := [(0, .ref h)]) (rest' := [.ref q5, .ref h]) (ws' := [(h, .inr (9, [.ref q1, .null, .null, .null, .null, .null, .null, .null, .null, .null, .null])), (q1, .inr (0, [.ref q_4, .int 0])), (q_4, .inl (G.2.1, 8000, .inl (fun _ => 0))), (q5, .inr (0, [.null, .int 0]))]) ?_
  refine pb_dup (pc := 22) d_Book_init_22 rfl ?_
  refine pb_sipush (pc := 23) (v := 4502) d_Book_init_23 (by decide) ?_
  refine pb_callI (pc := 26) (nA := 1) (rest := [.ref q5, .ref h]) (wr := [(h, .inr (9, [.ref q1, .null, .null, .null, .null, .null, .null, .null, .null, .null, .null])), (q1, .inr (0, [.ref q_4, .int 0])), (q_4, .inl (G.2.1, 8000, .inl (fun _ => 0)))]) d_Book_init_26 (c_Row_init hl G q5 4502 4502 (by decide) (by decide) (by decide)) [3] [0, 1, 2] (by decide) rfl rfl rfl (by decide) (by decide) k_154 rfl k_119 k_152 k_153 rfl (by decide +kernel) (by decide) rfl rfl (Nat.le_of_ble_eq_true rfl) (by decide) (fun v9 u7 h6 => ?_)
  obtain ⟨q_8, rfl⟩ : ∃ z9, z9 = u7 := ⟨_, rfl⟩
  have eh6 := h6
  have eh6 : v9 = none := eh6
  subst eh6
  refine pb_eq (pc' := 29) (lo' := [(0, .ref h)]) (rest' := [.ref q5, .ref h]) (ws' := [(h, .inr (9, [.ref q1, .null, .null, .null, .null, .null, .null, .null, .null, .null, .null])), (q1, .inr (0, [.ref q_4, .int 0])), (q_4, .inl (G.2.1, 8000, .inl (fun _ => 0))), (q5, .inr (0, [.ref q_8, .int 0])), (q_8, .inl (G.2.1, 4502, .inl (fun _ => 0)))]) ?_
  refine pb_putF (pc := 29) (ty := (.object "PackageBook$Row")) (ws' := [(h, .inr (9, [.ref q1, .ref q5, .null, .null, .null, .null, .null, .null, .null, .null, .null])), (q1, .inr (0, [.ref q_4, .int 0])), (q_4, .inl (G.2.1, 8000, .inl (fun _ => 0))), (q5, .inr (0, [.ref q_8, .int 0])), (q_8, .inl (G.2.1, 4502, .inl (fun _ => 0)))]) d_Book_init_29 0 1 t_Book t_Book_ok n_Book rfl rfl (by decide) in_Book k_418 rfl rfl rfl (by decide +kernel) rfl rfl (Nat.le_of_ble_eq_true rfl) rfl ?_
  refine pb_aload_n (pc := 32) d_Book_init_32 0 rfl rfl ?_
  refine pb_new (pc := 33) (ci := 4) (fs := [.null, .null, .null, .null, .int 0, .int 0, .int 0, .int 0, .int 0]) d_Book_init_33 t_Presser t_Presser_ok rfl in_Presser k_173 k_174 k_120 (by decide) (by decide) (by decide) (fun q9 => ?_)
  refine pb_eq (pc' := 36) (lo' := [(0, .ref h)]) (rest' := [.ref q9, .ref h]) (ws' := [(h, .inr (9, [.ref q1, .ref q5, .null, .null, .null, .null, .null, .null, .null, .null, .null])), (q1, .inr (0, [.ref q_4, .int 0])), (q_4, .inl (G.2.1, 8000, .inl (fun _ => 0))), (q5, .inr (0, [.ref q_8, .int 0])), (q_8, .inl (G.2.1, 4502, .inl (fun _ => 0))), (q9, .inr (4, [.null, .null, .null, .null, .int 0, .int 0, .int 0, .int 0, .int 0]))]) ?_
  refine pb_dup (pc := 36) d_Book_init_36 rfl ?_
  refine pb_callIN (pc := 37) (nA := 0) (rest := [.ref q9, .ref h]) (wr := [(h, .inr (9, [.ref q1, .ref q5, .null, .null, .null, .null, .null, .null, .null, .null, .null])), (q1, .inr (0, [.ref q_4, .int 0])), (q_4, .inl (G.2.1, 8000, .inl (fun _ => 0))), (q5, .inr (0, [.ref q_8, .int 0])), (q_8, .inl (G.2.1, 4502, .inl (fun _ => 0)))]) d_Book_init_37 (c_Presser_init hl G q9) [5] [0, 1, 2, 3, 4] (by decide) rfl rfl rfl (by decide) (by decide) k_177 rfl k_120 k_175 k_176 rfl (by decide +kernel) (by decide) rfl rfl (Nat.le_of_ble_eq_true rfl) (by decide) (fun v9 u11 h10 => ?_)
  obtain ⟨pp_12, pb_13, pl_14, pe_15, pr_16⟩ := u11
  have eh10 := h10
  have eh10 : v9 = none := eh10
  subst eh10
  refine pb_eq (pc' := 40) (lo' := [(0, .ref h)]) (rest' := [.ref q9, .ref h]) (ws' := [(h, .inr (9, [.ref q1, .ref q5, .null, .null, .null, .null, .null, .null, .null, .null, .null])), (q1, .inr (0, [.ref q_4, .int 0])), (q_4, .inl (G.2.1, 8000, .inl (fun _ => 0))), (q5, .inr (0, [.ref q_8, .int 0])), (q_8, .inl (G.2.1, 4502, .inl (fun _ => 0))), (q9, .inr (4, [.ref pp_12, .ref pl_14, .ref pe_15, .ref pr_16, .int 0, .int 0, .int 0, .int 0, .int 0])), (pp_12, .inr (0, [.ref pb_13, .int 0])), (pb_13, .inl (G.2.1, 4502, .inl (fun _ => 0))), (pl_14, .inl (G.2.2.1, 1024, .inl (fun _ => 0))), (pe_15, .inl (G.2.2.1, 4000, .inl (fun _ => 0))), (pr_16, .inl (G.2.1, 0, .inl (fun _ => 0)))]) ?_
  refine pb_putF (pc := 40) (ty := (.object "PackageBook$Presser")) (ws' := [(h, .inr (9, [.ref q1, .ref q5, .ref q9, .null, .null, .null, .null, .null, .null, .null, .null])), (q1, .inr (0, [.ref q_4, .int 0])), (q_4, .inl (G.2.1, 8000, .inl (fun _ => 0))), (q5, .inr (0, [.ref q_8, .int 0])), (q_8, .inl (G.2.1, 4502, .inl (fun _ => 0))), (q9, .inr (4, [.ref pp_12, .ref pl_14, .ref pe_15, .ref pr_16, .int 0, .int 0, .int 0, .int 0, .int 0])), (pp_12, .inr (0, [.ref pb_13, .int 0])), (pb_13, .inl (G.2.1, 4502, .inl (fun _ => 0))), (pl_14, .inl (G.2.2.1, 1024, .inl (fun _ => 0))), (pe_15, .inl (G.2.2.1, 4000, .inl (fun _ => 0))), (pr_16, .inl (G.2.1, 0, .inl (fun _ => 0)))]) d_Book_init_40 0 2 t_Book t_Book_ok n_Book rfl rfl (by decide) in_Book k_419 rfl rfl rfl (by decide +kernel) rfl rfl (Nat.le_of_ble_eq_true rfl) rfl ?_
  refine pb_aload_n (pc := 43) d_Book_init_43 0 rfl rfl ?_
  refine pb_new (pc := 44) (ci := 5) (fs := [.null, .null, .null, .null, .null, .null, .null, .null, .int 0, .int 0, .int 0]) d_Book_init_44 t_Expander t_Expander_ok rfl in_Expander k_212 k_213 k_121 (by decide) (by decide) (by decide) (fun q17 => ?_)
  refine pb_eq (pc' := 47) (lo' := [(0, .ref h)]) (rest' := [.ref q17, .ref h]) (ws' := [(h, .inr (9, [.ref q1, .ref q5, .ref q9, .null, .null, .null, .null, .null, .null, .null, .null])), (q1, .inr (0, [.ref q_4, .int 0])), (q_4, .inl (G.2.1, 8000, .inl (fun _ => 0))), (q5, .inr (0, [.ref q_8, .int 0])), (q_8, .inl (G.2.1, 4502, .inl (fun _ => 0))), (q9, .inr (4, [.ref pp_12, .ref pl_14, .ref pe_15, .ref pr_16, .int 0, .int 0, .int 0, .int 0, .int 0])), (pp_12, .inr (0, [.ref pb_13, .int 0])), (pb_13, .inl (G.2.1, 4502, .inl (fun _ => 0))), (pl_14, .inl (G.2.2.1, 1024, .inl (fun _ => 0))), (pe_15, .inl (G.2.2.1, 4000, .inl (fun _ => 0))), (pr_16, .inl (G.2.1, 0, .inl (fun _ => 0))), (q17, .inr (5, [.null, .null, .null, .null, .null, .null, .null, .null, .int 0, .int 0, .int 0]))]) ?_
  refine pb_dup (pc := 47) d_Book_init_47 rfl ?_
  refine pb_callI (pc := 48) (nA := 0) (rest := [.ref q17, .ref h]) (wr := [(h, .inr (9, [.ref q1, .ref q5, .ref q9, .null, .null, .null, .null, .null, .null, .null, .null])), (q1, .inr (0, [.ref q_4, .int 0])), (q_4, .inl (G.2.1, 8000, .inl (fun _ => 0))), (q5, .inr (0, [.ref q_8, .int 0])), (q_8, .inl (G.2.1, 4502, .inl (fun _ => 0))), (q9, .inr (4, [.ref pp_12, .ref pl_14, .ref pe_15, .ref pr_16, .int 0, .int 0, .int 0, .int 0, .int 0])), (pp_12, .inr (0, [.ref pb_13, .int 0])), (pb_13, .inl (G.2.1, 4502, .inl (fun _ => 0))), (pl_14, .inl (G.2.2.1, 1024, .inl (fun _ => 0))), (pe_15, .inl (G.2.2.1, 4000, .inl (fun _ => 0))), (pr_16, .inl (G.2.1, 0, .inl (fun _ => 0)))]) d_Book_init_48 (c_Exp_init hl G q17) [11] [0, 1, 2, 3, 4, 5, 6, 7, 8, 9, 10] (by decide) rfl rfl rfl (by decide) (by decide) k_216 rfl k_121 k_214 k_215 rfl (by decide +kernel) (by decide) rfl rfl (Nat.le_of_ble_eq_true rfl) (by decide) (fun v9 u19 h18 => ?_)
  obtain ⟨ex_20, ey_21, et_22, ea_23, ea_24, ea_25, eb_26, eb_27, eb_28, ec_29, ec_30, ec_31, ed_32, ed_33, ed_34, ef_35, ef_36, ef_37, er_38, as__39, bs__40, afc_41, afy_42, bfc_43, bfy_44⟩ := u19
  have eh18 := h18
  have eh18 : v9 = none := eh18
  subst eh18
  refine pb_eq (pc' := 51) (lo' := [(0, .ref h)]) (rest' := [.ref q17, .ref h]) (ws' := [(h, .inr (9, [.ref q1, .ref q5, .ref q9, .null, .null, .null, .null, .null, .null, .null, .null])), (q1, .inr (0, [.ref q_4, .int 0])), (q_4, .inl (G.2.1, 8000, .inl (fun _ => 0))), (q5, .inr (0, [.ref q_8, .int 0])), (q_8, .inl (G.2.1, 4502, .inl (fun _ => 0))), (q9, .inr (4, [.ref pp_12, .ref pl_14, .ref pe_15, .ref pr_16, .int 0, .int 0, .int 0, .int 0, .int 0])), (pp_12, .inr (0, [.ref pb_13, .int 0])), (pb_13, .inl (G.2.1, 4502, .inl (fun _ => 0))), (pl_14, .inl (G.2.2.1, 1024, .inl (fun _ => 0))), (pe_15, .inl (G.2.2.1, 4000, .inl (fun _ => 0))), (pr_16, .inl (G.2.1, 0, .inl (fun _ => 0))), (q17, .inr (5, [.ref ex_20, .ref et_22, .ref ea_23, .ref eb_26, .ref ec_29, .ref ed_32, .ref ef_35, .ref er_38, .int 0, .int 0, .int 0])), (ex_20, .inr (0, [.ref ey_21, .int 0])), (ey_21, .inl (G.2.1, 4000, .inl (fun _ => 0))), (et_22, .inl (G.2.2.1, 316, .inl (fun _ => 0))), (ea_23, .inr (1, [.ref ea_24, .ref ea_25, .int as__39])), (ea_24, .inl (G.2.2.1, 16, .inl afc_41)), (ea_25, .inl (G.2.2.1, 288, .inl afy_42)), (eb_26, .inr (1, [.ref eb_27, .ref eb_28, .int bs__40])), (eb_27, .inl (G.2.2.1, 16, .inl bfc_43)), (eb_28, .inl (G.2.2.1, 32, .inl bfy_44)), (ec_29, .inr (1, [.ref ec_30, .ref ec_31, .int 0])), (ec_30, .inl (G.2.2.1, 16, .inl (fun _ => 0))), (ec_31, .inl (G.2.2.1, 286, .inl (fun _ => 0))), (ed_32, .inr (1, [.ref ed_33, .ref ed_34, .int 0])), (ed_33, .inl (G.2.2.1, 16, .inl (fun _ => 0))), (ed_34, .inl (G.2.2.1, 30, .inl (fun _ => 0))), (ef_35, .inr (1, [.ref ef_36, .ref ef_37, .int 0])), (ef_36, .inl (G.2.2.1, 16, .inl (fun _ => 0))), (ef_37, .inl (G.2.2.1, 19, .inl (fun _ => 0))), (er_38, .inl (G.2.1, 0, .inl (fun _ => 0)))]) ?_
  refine pb_putF (pc := 51) (ty := (.object "PackageBook$Expander")) (ws' := [(h, .inr (9, [.ref q1, .ref q5, .ref q9, .ref q17, .null, .null, .null, .null, .null, .null, .null])), (q1, .inr (0, [.ref q_4, .int 0])), (q_4, .inl (G.2.1, 8000, .inl (fun _ => 0))), (q5, .inr (0, [.ref q_8, .int 0])), (q_8, .inl (G.2.1, 4502, .inl (fun _ => 0))), (q9, .inr (4, [.ref pp_12, .ref pl_14, .ref pe_15, .ref pr_16, .int 0, .int 0, .int 0, .int 0, .int 0])), (pp_12, .inr (0, [.ref pb_13, .int 0])), (pb_13, .inl (G.2.1, 4502, .inl (fun _ => 0))), (pl_14, .inl (G.2.2.1, 1024, .inl (fun _ => 0))), (pe_15, .inl (G.2.2.1, 4000, .inl (fun _ => 0))), (pr_16, .inl (G.2.1, 0, .inl (fun _ => 0))), (q17, .inr (5, [.ref ex_20, .ref et_22, .ref ea_23, .ref eb_26, .ref ec_29, .ref ed_32, .ref ef_35, .ref er_38, .int 0, .int 0, .int 0])), (ex_20, .inr (0, [.ref ey_21, .int 0])), (ey_21, .inl (G.2.1, 4000, .inl (fun _ => 0))), (et_22, .inl (G.2.2.1, 316, .inl (fun _ => 0))), (ea_23, .inr (1, [.ref ea_24, .ref ea_25, .int as__39])), (ea_24, .inl (G.2.2.1, 16, .inl afc_41)), (ea_25, .inl (G.2.2.1, 288, .inl afy_42)), (eb_26, .inr (1, [.ref eb_27, .ref eb_28, .int bs__40])), (eb_27, .inl (G.2.2.1, 16, .inl bfc_43)), (eb_28, .inl (G.2.2.1, 32, .inl bfy_44)), (ec_29, .inr (1, [.ref ec_30, .ref ec_31, .int 0])), (ec_30, .inl (G.2.2.1, 16, .inl (fun _ => 0))), (ec_31, .inl (G.2.2.1, 286, .inl (fun _ => 0))), (ed_32, .inr (1, [.ref ed_33, .ref ed_34, .int 0])), (ed_33, .inl (G.2.2.1, 16, .inl (fun _ => 0))), (ed_34, .inl (G.2.2.1, 30, .inl (fun _ => 0))), (ef_35, .inr (1, [.ref ef_36, .ref ef_37, .int 0])), (ef_36, .inl (G.2.2.1, 16, .inl (fun _ => 0))), (ef_37, .inl (G.2.2.1, 19, .inl (fun _ => 0))), (er_38, .inl (G.2.1, 0, .inl (fun _ => 0)))]) d_Book_init_51 0 3 t_Book t_Book_ok n_Book rfl rfl (by decide) in_Book k_420 rfl rfl rfl (by decide +kernel) rfl rfl (Nat.le_of_ble_eq_true rfl) rfl ?_
  refine pb_aload_n (pc := 54) d_Book_init_54 0 rfl rfl ?_
  refine pb_new (pc := 55) (ci := 6) (fs := [.null, .null]) d_Book_init_55 t_FileMaker t_FileMaker_ok rfl in_FileMaker k_284 k_285 k_123 (by decide) (by decide) (by decide) (fun q45 => ?_)
  refine pb_eq (pc' := 58) (lo' := [(0, .ref h)]) (rest' := [.ref q45, .ref h]) (ws' := [(h, .inr (9, [.ref q1, .ref q5, .ref q9, .ref q17, .null, .null, .null, .null, .null, .null, .null])), (q1, .inr (0, [.ref q_4, .int 0])), (q_4, .inl (G.2.1, 8000, .inl (fun _ => 0))), (q5, .inr (0, [.ref q_8, .int 0])), (q_8, .inl (G.2.1, 4502, .inl (fun _ => 0))), (q9, .inr (4, [.ref pp_12, .ref pl_14, .ref pe_15, .ref pr_16, .int 0, .int 0, .int 0, .int 0, .int 0])), (pp_12, .inr (0, [.ref pb_13, .int 0])), (pb_13, .inl (G.2.1, 4502, .inl (fun _ => 0))), (pl_14, .inl (G.2.2.1, 1024, .inl (fun _ => 0))), (pe_15, .inl (G.2.2.1, 4000, .inl (fun _ => 0))), (pr_16, .inl (G.2.1, 0, .inl (fun _ => 0))), (q17, .inr (5, [.ref ex_20, .ref et_22, .ref ea_23, .ref eb_26, .ref ec_29, .ref ed_32, .ref ef_35, .ref er_38, .int 0, .int 0, .int 0])), (ex_20, .inr (0, [.ref ey_21, .int 0])), (ey_21, .inl (G.2.1, 4000, .inl (fun _ => 0))), (et_22, .inl (G.2.2.1, 316, .inl (fun _ => 0))), (ea_23, .inr (1, [.ref ea_24, .ref ea_25, .int as__39])), (ea_24, .inl (G.2.2.1, 16, .inl afc_41)), (ea_25, .inl (G.2.2.1, 288, .inl afy_42)), (eb_26, .inr (1, [.ref eb_27, .ref eb_28, .int bs__40])), (eb_27, .inl (G.2.2.1, 16, .inl bfc_43)), (eb_28, .inl (G.2.2.1, 32, .inl bfy_44)), (ec_29, .inr (1, [.ref ec_30, .ref ec_31, .int 0])), (ec_30, .inl (G.2.2.1, 16, .inl (fun _ => 0))), (ec_31, .inl (G.2.2.1, 286, .inl (fun _ => 0))), (ed_32, .inr (1, [.ref ed_33, .ref ed_34, .int 0])), (ed_33, .inl (G.2.2.1, 16, .inl (fun _ => 0))), (ed_34, .inl (G.2.2.1, 30, .inl (fun _ => 0))), (ef_35, .inr (1, [.ref ef_36, .ref ef_37, .int 0])), (ef_36, .inl (G.2.2.1, 16, .inl (fun _ => 0))), (ef_37, .inl (G.2.2.1, 19, .inl (fun _ => 0))), (er_38, .inl (G.2.1, 0, .inl (fun _ => 0))), (q45, .inr (6, [.null, .null]))]) ?_
  refine pb_dup (pc := 58) d_Book_init_58 rfl ?_
  refine pb_callIN (pc := 59) (nA := 0) (rest := [.ref q45, .ref h]) (wr := [(h, .inr (9, [.ref q1, .ref q5, .ref q9, .ref q17, .null, .null, .null, .null, .null, .null, .null])), (q1, .inr (0, [.ref q_4, .int 0])), (q_4, .inl (G.2.1, 8000, .inl (fun _ => 0))), (q5, .inr (0, [.ref q_8, .int 0])), (q_8, .inl (G.2.1, 4502, .inl (fun _ => 0))), (q9, .inr (4, [.ref pp_12, .ref pl_14, .ref pe_15, .ref pr_16, .int 0, .int 0, .int 0, .int 0, .int 0])), (pp_12, .inr (0, [.ref pb_13, .int 0])), (pb_13, .inl (G.2.1, 4502, .inl (fun _ => 0))), (pl_14, .inl (G.2.2.1, 1024, .inl (fun _ => 0))), (pe_15, .inl (G.2.2.1, 4000, .inl (fun _ => 0))), (pr_16, .inl (G.2.1, 0, .inl (fun _ => 0))), (q17, .inr (5, [.ref ex_20, .ref et_22, .ref ea_23, .ref eb_26, .ref ec_29, .ref ed_32, .ref ef_35, .ref er_38, .int 0, .int 0, .int 0])), (ex_20, .inr (0, [.ref ey_21, .int 0])), (ey_21, .inl (G.2.1, 4000, .inl (fun _ => 0))), (et_22, .inl (G.2.2.1, 316, .inl (fun _ => 0))), (ea_23, .inr (1, [.ref ea_24, .ref ea_25, .int as__39])), (ea_24, .inl (G.2.2.1, 16, .inl afc_41)), (ea_25, .inl (G.2.2.1, 288, .inl afy_42)), (eb_26, .inr (1, [.ref eb_27, .ref eb_28, .int bs__40])), (eb_27, .inl (G.2.2.1, 16, .inl bfc_43)), (eb_28, .inl (G.2.2.1, 32, .inl bfy_44)), (ec_29, .inr (1, [.ref ec_30, .ref ec_31, .int 0])), (ec_30, .inl (G.2.2.1, 16, .inl (fun _ => 0))), (ec_31, .inl (G.2.2.1, 286, .inl (fun _ => 0))), (ed_32, .inr (1, [.ref ed_33, .ref ed_34, .int 0])), (ed_33, .inl (G.2.2.1, 16, .inl (fun _ => 0))), (ed_34, .inl (G.2.2.1, 30, .inl (fun _ => 0))), (ef_35, .inr (1, [.ref ef_36, .ref ef_37, .int 0])), (ef_36, .inl (G.2.2.1, 16, .inl (fun _ => 0))), (ef_37, .inl (G.2.2.1, 19, .inl (fun _ => 0))), (er_38, .inl (G.2.1, 0, .inl (fun _ => 0)))]) d_Book_init_59 (c_FileMaker_init hl G q45) [31] [0, 1, 2, 3, 4, 5, 6, 7, 8, 9, 10, 11, 12, 13, 14, 15, 16, 17, 18, 19, 20, 21, 22, 23, 24, 25, 26, 27, 28, 29, 30] (by decide) rfl rfl rfl (by decide) (by decide) k_288 rfl k_123 k_286 k_287 rfl (by decide +kernel) (by decide) rfl rfl (Nat.le_of_ble_eq_true rfl) (by decide) (fun v9 u47 h46 => ?_)
  obtain ⟨mm_48, mb_49, mr_50⟩ := u47
  have eh46 := h46
  have eh46 : v9 = none := eh46
  subst eh46
  refine pb_eq (pc' := 62) (lo' := [(0, .ref h)]) (rest' := [.ref q45, .ref h]) (ws' := [(h, .inr (9, [.ref q1, .ref q5, .ref q9, .ref q17, .null, .null, .null, .null, .null, .null, .null])), (q1, .inr (0, [.ref q_4, .int 0])), (q_4, .inl (G.2.1, 8000, .inl (fun _ => 0))), (q5, .inr (0, [.ref q_8, .int 0])), (q_8, .inl (G.2.1, 4502, .inl (fun _ => 0))), (q9, .inr (4, [.ref pp_12, .ref pl_14, .ref pe_15, .ref pr_16, .int 0, .int 0, .int 0, .int 0, .int 0])), (pp_12, .inr (0, [.ref pb_13, .int 0])), (pb_13, .inl (G.2.1, 4502, .inl (fun _ => 0))), (pl_14, .inl (G.2.2.1, 1024, .inl (fun _ => 0))), (pe_15, .inl (G.2.2.1, 4000, .inl (fun _ => 0))), (pr_16, .inl (G.2.1, 0, .inl (fun _ => 0))), (q17, .inr (5, [.ref ex_20, .ref et_22, .ref ea_23, .ref eb_26, .ref ec_29, .ref ed_32, .ref ef_35, .ref er_38, .int 0, .int 0, .int 0])), (ex_20, .inr (0, [.ref ey_21, .int 0])), (ey_21, .inl (G.2.1, 4000, .inl (fun _ => 0))), (et_22, .inl (G.2.2.1, 316, .inl (fun _ => 0))), (ea_23, .inr (1, [.ref ea_24, .ref ea_25, .int as__39])), (ea_24, .inl (G.2.2.1, 16, .inl afc_41)), (ea_25, .inl (G.2.2.1, 288, .inl afy_42)), (eb_26, .inr (1, [.ref eb_27, .ref eb_28, .int bs__40])), (eb_27, .inl (G.2.2.1, 16, .inl bfc_43)), (eb_28, .inl (G.2.2.1, 32, .inl bfy_44)), (ec_29, .inr (1, [.ref ec_30, .ref ec_31, .int 0])), (ec_30, .inl (G.2.2.1, 16, .inl (fun _ => 0))), (ec_31, .inl (G.2.2.1, 286, .inl (fun _ => 0))), (ed_32, .inr (1, [.ref ed_33, .ref ed_34, .int 0])), (ed_33, .inl (G.2.2.1, 16, .inl (fun _ => 0))), (ed_34, .inl (G.2.2.1, 30, .inl (fun _ => 0))), (ef_35, .inr (1, [.ref ef_36, .ref ef_37, .int 0])), (ef_36, .inl (G.2.2.1, 16, .inl (fun _ => 0))), (ef_37, .inl (G.2.2.1, 19, .inl (fun _ => 0))), (er_38, .inl (G.2.1, 0, .inl (fun _ => 0))), (q45, .inr (6, [.ref mm_48, .ref mr_50])), (mm_48, .inr (0, [.ref mb_49, .int 0])), (mb_49, .inl (G.2.1, 14006, .inl (fun _ => 0))), (mr_50, .inl (G.2.2.1, 16, .inl (fun _ => 0)))]) ?_
  refine pb_putF (pc := 62) (ty := (.object "PackageBook$FileMaker")) (ws' := [(h, .inr (9, [.ref q1, .ref q5, .ref q9, .ref q17, .ref q45, .null, .null, .null, .null, .null, .null])), (q1, .inr (0, [.ref q_4, .int 0])), (q_4, .inl (G.2.1, 8000, .inl (fun _ => 0))), (q5, .inr (0, [.ref q_8, .int 0])), (q_8, .inl (G.2.1, 4502, .inl (fun _ => 0))), (q9, .inr (4, [.ref pp_12, .ref pl_14, .ref pe_15, .ref pr_16, .int 0, .int 0, .int 0, .int 0, .int 0])), (pp_12, .inr (0, [.ref pb_13, .int 0])), (pb_13, .inl (G.2.1, 4502, .inl (fun _ => 0))), (pl_14, .inl (G.2.2.1, 1024, .inl (fun _ => 0))), (pe_15, .inl (G.2.2.1, 4000, .inl (fun _ => 0))), (pr_16, .inl (G.2.1, 0, .inl (fun _ => 0))), (q17, .inr (5, [.ref ex_20, .ref et_22, .ref ea_23, .ref eb_26, .ref ec_29, .ref ed_32, .ref ef_35, .ref er_38, .int 0, .int 0, .int 0])), (ex_20, .inr (0, [.ref ey_21, .int 0])), (ey_21, .inl (G.2.1, 4000, .inl (fun _ => 0))), (et_22, .inl (G.2.2.1, 316, .inl (fun _ => 0))), (ea_23, .inr (1, [.ref ea_24, .ref ea_25, .int as__39])), (ea_24, .inl (G.2.2.1, 16, .inl afc_41)), (ea_25, .inl (G.2.2.1, 288, .inl afy_42)), (eb_26, .inr (1, [.ref eb_27, .ref eb_28, .int bs__40])), (eb_27, .inl (G.2.2.1, 16, .inl bfc_43)), (eb_28, .inl (G.2.2.1, 32, .inl bfy_44)), (ec_29, .inr (1, [.ref ec_30, .ref ec_31, .int 0])), (ec_30, .inl (G.2.2.1, 16, .inl (fun _ => 0))), (ec_31, .inl (G.2.2.1, 286, .inl (fun _ => 0))), (ed_32, .inr (1, [.ref ed_33, .ref ed_34, .int 0])), (ed_33, .inl (G.2.2.1, 16, .inl (fun _ => 0))), (ed_34, .inl (G.2.2.1, 30, .inl (fun _ => 0))), (ef_35, .inr (1, [.ref ef_36, .ref ef_37, .int 0])), (ef_36, .inl (G.2.2.1, 16, .inl (fun _ => 0))), (ef_37, .inl (G.2.2.1, 19, .inl (fun _ => 0))), (er_38, .inl (G.2.1, 0, .inl (fun _ => 0))), (q45, .inr (6, [.ref mm_48, .ref mr_50])), (mm_48, .inr (0, [.ref mb_49, .int 0])), (mb_49, .inl (G.2.1, 14006, .inl (fun _ => 0))), (mr_50, .inl (G.2.2.1, 16, .inl (fun _ => 0)))]) d_Book_init_62 0 4 t_Book t_Book_ok n_Book rfl rfl (by decide) in_Book k_421 rfl rfl rfl (by decide +kernel) rfl rfl (Nat.le_of_ble_eq_true rfl) rfl ?_
  refine pb_aload_n (pc := 65) d_Book_init_65 0 rfl rfl ?_
  refine pb_new (pc := 66) (ci := 7) (fs := [.null]) d_Book_init_66 t_FileReader t_FileReader_ok rfl in_FileReader k_300 k_301 k_124 (by decide) (by decide) (by decide) (fun q51 => ?_)
  refine pb_eq (pc' := 69) (lo' := [(0, .ref h)]) (rest' := [.ref q51, .ref h]) (ws' := [(h, .inr (9, [.ref q1, .ref q5, .ref q9, .ref q17, .ref q45, .null, .null, .null, .null, .null, .null])), (q1, .inr (0, [.ref q_4, .int 0])), (q_4, .inl (G.2.1, 8000, .inl (fun _ => 0))), (q5, .inr (0, [.ref q_8, .int 0])), (q_8, .inl (G.2.1, 4502, .inl (fun _ => 0))), (q9, .inr (4, [.ref pp_12, .ref pl_14, .ref pe_15, .ref pr_16, .int 0, .int 0, .int 0, .int 0, .int 0])), (pp_12, .inr (0, [.ref pb_13, .int 0])), (pb_13, .inl (G.2.1, 4502, .inl (fun _ => 0))), (pl_14, .inl (G.2.2.1, 1024, .inl (fun _ => 0))), (pe_15, .inl (G.2.2.1, 4000, .inl (fun _ => 0))), (pr_16, .inl (G.2.1, 0, .inl (fun _ => 0))), (q17, .inr (5, [.ref ex_20, .ref et_22, .ref ea_23, .ref eb_26, .ref ec_29, .ref ed_32, .ref ef_35, .ref er_38, .int 0, .int 0, .int 0])), (ex_20, .inr (0, [.ref ey_21, .int 0])), (ey_21, .inl (G.2.1, 4000, .inl (fun _ => 0))), (et_22, .inl (G.2.2.1, 316, .inl (fun _ => 0))), (ea_23, .inr (1, [.ref ea_24, .ref ea_25, .int as__39])), (ea_24, .inl (G.2.2.1, 16, .inl afc_41)), (ea_25, .inl (G.2.2.1, 288, .inl afy_42)), (eb_26, .inr (1, [.ref eb_27, .ref eb_28, .int bs__40])), (eb_27, .inl (G.2.2.1, 16, .inl bfc_43)), (eb_28, .inl (G.2.2.1, 32, .inl bfy_44)), (ec_29, .inr (1, [.ref ec_30, .ref ec_31, .int 0])), (ec_30, .inl (G.2.2.1, 16, .inl (fun _ => 0))), (ec_31, .inl (G.2.2.1, 286, .inl (fun _ => 0))), (ed_32, .inr (1, [.ref ed_33, .ref ed_34, .int 0])), (ed_33, .inl (G.2.2.1, 16, .inl (fun _ => 0))), (ed_34, .inl (G.2.2.1, 30, .inl (fun _ => 0))), (ef_35, .inr (1, [.ref ef_36, .ref ef_37, .int 0])), (ef_36, .inl (G.2.2.1, 16, .inl (fun _ => 0))), (ef_37, .inl (G.2.2.1, 19, .inl (fun _ => 0))), (er_38, .inl (G.2.1, 0, .inl (fun _ => 0))), (q45, .inr (6, [.ref mm_48, .ref mr_50])), (mm_48, .inr (0, [.ref mb_49, .int 0])), (mb_49, .inl (G.2.1, 14006, .inl (fun _ => 0))), (mr_50, .inl (G.2.2.1, 16, .inl (fun _ => 0))), (q51, .inr (7, [.null]))]) ?_
  refine pb_dup (pc := 69) d_Book_init_69 rfl ?_
  refine pb_callIN (pc := 70) (nA := 0) (rest := [.ref q51, .ref h]) (wr := [(h, .inr (9, [.ref q1, .ref q5, .ref q9, .ref q17, .ref q45, .null, .null, .null, .null, .null, .null])), (q1, .inr (0, [.ref q_4, .int 0])), (q_4, .inl (G.2.1, 8000, .inl (fun _ => 0))), (q5, .inr (0, [.ref q_8, .int 0])), (q_8, .inl (G.2.1, 4502, .inl (fun _ => 0))), (q9, .inr (4, [.ref pp_12, .ref pl_14, .ref pe_15, .ref pr_16, .int 0, .int 0, .int 0, .int 0, .int 0])), (pp_12, .inr (0, [.ref pb_13, .int 0])), (pb_13, .inl (G.2.1, 4502, .inl (fun _ => 0))), (pl_14, .inl (G.2.2.1, 1024, .inl (fun _ => 0))), (pe_15, .inl (G.2.2.1, 4000, .inl (fun _ => 0))), (pr_16, .inl (G.2.1, 0, .inl (fun _ => 0))), (q17, .inr (5, [.ref ex_20, .ref et_22, .ref ea_23, .ref eb_26, .ref ec_29, .ref ed_32, .ref ef_35, .ref er_38, .int 0, .int 0, .int 0])), (ex_20, .inr (0, [.ref ey_21, .int 0])), (ey_21, .inl (G.2.1, 4000, .inl (fun _ => 0))), (et_22, .inl (G.2.2.1, 316, .inl (fun _ => 0))), (ea_23, .inr (1, [.ref ea_24, .ref ea_25, .int as__39])), (ea_24, .inl (G.2.2.1, 16, .inl afc_41)), (ea_25, .inl (G.2.2.1, 288, .inl afy_42)), (eb_26, .inr (1, [.ref eb_27, .ref eb_28, .int bs__40])), (eb_27, .inl (G.2.2.1, 16, .inl bfc_43)), (eb_28, .inl (G.2.2.1, 32, .inl bfy_44)), (ec_29, .inr (1, [.ref ec_30, .ref ec_31, .int 0])), (ec_30, .inl (G.2.2.1, 16, .inl (fun _ => 0))), (ec_31, .inl (G.2.2.1, 286, .inl (fun _ => 0))), (ed_32, .inr (1, [.ref ed_33, .ref ed_34, .int 0])), (ed_33, .inl (G.2.2.1, 16, .inl (fun _ => 0))), (ed_34, .inl (G.2.2.1, 30, .inl (fun _ => 0))), (ef_35, .inr (1, [.ref ef_36, .ref ef_37, .int 0])), (ef_36, .inl (G.2.2.1, 16, .inl (fun _ => 0))), (ef_37, .inl (G.2.2.1, 19, .inl (fun _ => 0))), (er_38, .inl (G.2.1, 0, .inl (fun _ => 0))), (q45, .inr (6, [.ref mm_48, .ref mr_50])), (mm_48, .inr (0, [.ref mb_49, .int 0])), (mb_49, .inl (G.2.1, 14006, .inl (fun _ => 0))), (mr_50, .inl (G.2.2.1, 16, .inl (fun _ => 0)))]) d_Book_init_70 (c_FileReader_init hl G q51) [35] [0, 1, 2, 3, 4, 5, 6, 7, 8, 9, 10, 11, 12, 13, 14, 15, 16, 17, 18, 19, 20, 21, 22, 23, 24, 25, 26, 27, 28, 29, 30, 31, 32, 33, 34] (by decide) rfl rfl rfl (by decide) (by decide) k_304 rfl k_124 k_302 k_303 rfl (by decide +kernel) (by decide) rfl rfl (Nat.le_of_ble_eq_true rfl) (by decide) (fun v9 u53 h52 => ?_)
  obtain ⟨rr_54, rfl⟩ : ∃ z9, z9 = u53 := ⟨_, rfl⟩
  have eh52 := h52
  have eh52 : v9 = none := eh52
  subst eh52
  refine pb_eq (pc' := 73) (lo' := [(0, .ref h)]) (rest' := [.ref q51, .ref h]) (ws' := [(h, .inr (9, [.ref q1, .ref q5, .ref q9, .ref q17, .ref q45, .null, .null, .null, .null, .null, .null])), (q1, .inr (0, [.ref q_4, .int 0])), (q_4, .inl (G.2.1, 8000, .inl (fun _ => 0))), (q5, .inr (0, [.ref q_8, .int 0])), (q_8, .inl (G.2.1, 4502, .inl (fun _ => 0))), (q9, .inr (4, [.ref pp_12, .ref pl_14, .ref pe_15, .ref pr_16, .int 0, .int 0, .int 0, .int 0, .int 0])), (pp_12, .inr (0, [.ref pb_13, .int 0])), (pb_13, .inl (G.2.1, 4502, .inl (fun _ => 0))), (pl_14, .inl (G.2.2.1, 1024, .inl (fun _ => 0))), (pe_15, .inl (G.2.2.1, 4000, .inl (fun _ => 0))), (pr_16, .inl (G.2.1, 0, .inl (fun _ => 0))), (q17, .inr (5, [.ref ex_20, .ref et_22, .ref ea_23, .ref eb_26, .ref ec_29, .ref ed_32, .ref ef_35, .ref er_38, .int 0, .int 0, .int 0])), (ex_20, .inr (0, [.ref ey_21, .int 0])), (ey_21, .inl (G.2.1, 4000, .inl (fun _ => 0))), (et_22, .inl (G.2.2.1, 316, .inl (fun _ => 0))), (ea_23, .inr (1, [.ref ea_24, .ref ea_25, .int as__39])), (ea_24, .inl (G.2.2.1, 16, .inl afc_41)), (ea_25, .inl (G.2.2.1, 288, .inl afy_42)), (eb_26, .inr (1, [.ref eb_27, .ref eb_28, .int bs__40])), (eb_27, .inl (G.2.2.1, 16, .inl bfc_43)), (eb_28, .inl (G.2.2.1, 32, .inl bfy_44)), (ec_29, .inr (1, [.ref ec_30, .ref ec_31, .int 0])), (ec_30, .inl (G.2.2.1, 16, .inl (fun _ => 0))), (ec_31, .inl (G.2.2.1, 286, .inl (fun _ => 0))), (ed_32, .inr (1, [.ref ed_33, .ref ed_34, .int 0])), (ed_33, .inl (G.2.2.1, 16, .inl (fun _ => 0))), (ed_34, .inl (G.2.2.1, 30, .inl (fun _ => 0))), (ef_35, .inr (1, [.ref ef_36, .ref ef_37, .int 0])), (ef_36, .inl (G.2.2.1, 16, .inl (fun _ => 0))), (ef_37, .inl (G.2.2.1, 19, .inl (fun _ => 0))), (er_38, .inl (G.2.1, 0, .inl (fun _ => 0))), (q45, .inr (6, [.ref mm_48, .ref mr_50])), (mm_48, .inr (0, [.ref mb_49, .int 0])), (mb_49, .inl (G.2.1, 14006, .inl (fun _ => 0))), (mr_50, .inl (G.2.2.1, 16, .inl (fun _ => 0))), (q51, .inr (7, [.ref rr_54])), (rr_54, .inl (G.2.1, 0, .inl (fun _ => 0)))]) ?_
  refine pb_putF (pc := 73) (ty := (.object "PackageBook$FileReader")) (ws' := [(h, .inr (9, [.ref q1, .ref q5, .ref q9, .ref q17, .ref q45, .ref q51, .null, .null, .null, .null, .null])), (q1, .inr (0, [.ref q_4, .int 0])), (q_4, .inl (G.2.1, 8000, .inl (fun _ => 0))), (q5, .inr (0, [.ref q_8, .int 0])), (q_8, .inl (G.2.1, 4502, .inl (fun _ => 0))), (q9, .inr (4, [.ref pp_12, .ref pl_14, .ref pe_15, .ref pr_16, .int 0, .int 0, .int 0, .int 0, .int 0])), (pp_12, .inr (0, [.ref pb_13, .int 0])), (pb_13, .inl (G.2.1, 4502, .inl (fun _ => 0))), (pl_14, .inl (G.2.2.1, 1024, .inl (fun _ => 0))), (pe_15, .inl (G.2.2.1, 4000, .inl (fun _ => 0))), (pr_16, .inl (G.2.1, 0, .inl (fun _ => 0))), (q17, .inr (5, [.ref ex_20, .ref et_22, .ref ea_23, .ref eb_26, .ref ec_29, .ref ed_32, .ref ef_35, .ref er_38, .int 0, .int 0, .int 0])), (ex_20, .inr (0, [.ref ey_21, .int 0])), (ey_21, .inl (G.2.1, 4000, .inl (fun _ => 0))), (et_22, .inl (G.2.2.1, 316, .inl (fun _ => 0))), (ea_23, .inr (1, [.ref ea_24, .ref ea_25, .int as__39])), (ea_24, .inl (G.2.2.1, 16, .inl afc_41)), (ea_25, .inl (G.2.2.1, 288, .inl afy_42)), (eb_26, .inr (1, [.ref eb_27, .ref eb_28, .int bs__40])), (eb_27, .inl (G.2.2.1, 16, .inl bfc_43)), (eb_28, .inl (G.2.2.1, 32, .inl bfy_44)), (ec_29, .inr (1, [.ref ec_30, .ref ec_31, .int 0])), (ec_30, .inl (G.2.2.1, 16, .inl (fun _ => 0))), (ec_31, .inl (G.2.2.1, 286, .inl (fun _ => 0))), (ed_32, .inr (1, [.ref ed_33, .ref ed_34, .int 0])), (ed_33, .inl (G.2.2.1, 16, .inl (fun _ => 0))), (ed_34, .inl (G.2.2.1, 30, .inl (fun _ => 0))), (ef_35, .inr (1, [.ref ef_36, .ref ef_37, .int 0])), (ef_36, .inl (G.2.2.1, 16, .inl (fun _ => 0))), (ef_37, .inl (G.2.2.1, 19, .inl (fun _ => 0))), (er_38, .inl (G.2.1, 0, .inl (fun _ => 0))), (q45, .inr (6, [.ref mm_48, .ref mr_50])), (mm_48, .inr (0, [.ref mb_49, .int 0])), (mb_49, .inl (G.2.1, 14006, .inl (fun _ => 0))), (mr_50, .inl (G.2.2.1, 16, .inl (fun _ => 0))), (q51, .inr (7, [.ref rr_54])), (rr_54, .inl (G.2.1, 0, .inl (fun _ => 0)))]) d_Book_init_73 0 5 t_Book t_Book_ok n_Book rfl rfl (by decide) in_Book k_422 rfl rfl rfl (by decide +kernel) rfl rfl (Nat.le_of_ble_eq_true rfl) rfl ?_
  refine pb_aload_n (pc := 76) d_Book_init_76 0 rfl rfl ?_
  refine pb_new (pc := 77) (ci := 8) (fs := [.null, .null, .null, .null, .int 0, .int 0, .int 0, .int 0, .int 0, .int 0, .int 0, .int 0, .int 0]) d_Book_init_77 t_Markup t_Markup_ok rfl in_Markup k_310 k_311 k_125 (by decide) (by decide) (by decide) (fun q55 => ?_)
  refine pb_eq (pc' := 80) (lo' := [(0, .ref h)]) (rest' := [.ref q55, .ref h]) (ws' := [(h, .inr (9, [.ref q1, .ref q5, .ref q9, .ref q17, .ref q45, .ref q51, .null, .null, .null, .null, .null])), (q1, .inr (0, [.ref q_4, .int 0])), (q_4, .inl (G.2.1, 8000, .inl (fun _ => 0))), (q5, .inr (0, [.ref q_8, .int 0])), (q_8, .inl (G.2.1, 4502, .inl (fun _ => 0))), (q9, .inr (4, [.ref pp_12, .ref pl_14, .ref pe_15, .ref pr_16, .int 0, .int 0, .int 0, .int 0, .int 0])), (pp_12, .inr (0, [.ref pb_13, .int 0])), (pb_13, .inl (G.2.1, 4502, .inl (fun _ => 0))), (pl_14, .inl (G.2.2.1, 1024, .inl (fun _ => 0))), (pe_15, .inl (G.2.2.1, 4000, .inl (fun _ => 0))), (pr_16, .inl (G.2.1, 0, .inl (fun _ => 0))), (q17, .inr (5, [.ref ex_20, .ref et_22, .ref ea_23, .ref eb_26, .ref ec_29, .ref ed_32, .ref ef_35, .ref er_38, .int 0, .int 0, .int 0])), (ex_20, .inr (0, [.ref ey_21, .int 0])), (ey_21, .inl (G.2.1, 4000, .inl (fun _ => 0))), (et_22, .inl (G.2.2.1, 316, .inl (fun _ => 0))), (ea_23, .inr (1, [.ref ea_24, .ref ea_25, .int as__39])), (ea_24, .inl (G.2.2.1, 16, .inl afc_41)), (ea_25, .inl (G.2.2.1, 288, .inl afy_42)), (eb_26, .inr (1, [.ref eb_27, .ref eb_28, .int bs__40])), (eb_27, .inl (G.2.2.1, 16, .inl bfc_43)), (eb_28, .inl (G.2.2.1, 32, .inl bfy_44)), (ec_29, .inr (1, [.ref ec_30, .ref ec_31, .int 0])), (ec_30, .inl (G.2.2.1, 16, .inl (fun _ => 0))), (ec_31, .inl (G.2.2.1, 286, .inl (fun _ => 0))), (ed_32, .inr (1, [.ref ed_33, .ref ed_34, .int 0])), (ed_33, .inl (G.2.2.1, 16, .inl (fun _ => 0))), (ed_34, .inl (G.2.2.1, 30, .inl (fun _ => 0))), (ef_35, .inr (1, [.ref ef_36, .ref ef_37, .int 0])), (ef_36, .inl (G.2.2.1, 16, .inl (fun _ => 0))), (ef_37, .inl (G.2.2.1, 19, .inl (fun _ => 0))), (er_38, .inl (G.2.1, 0, .inl (fun _ => 0))), (q45, .inr (6, [.ref mm_48, .ref mr_50])), (mm_48, .inr (0, [.ref mb_49, .int 0])), (mb_49, .inl (G.2.1, 14006, .inl (fun _ => 0))), (mr_50, .inl (G.2.2.1, 16, .inl (fun _ => 0))), (q51, .inr (7, [.ref rr_54])), (rr_54, .inl (G.2.1, 0, .inl (fun _ => 0))), (q55, .inr (8, [.null, .null, .null, .null, .int 0, .int 0, .int 0, .int 0, .int 0, .int 0, .int 0, .int 0, .int 0]))]) ?_
  refine pb_dup (pc := 80) d_Book_init_80 rfl ?_
  refine pb_callIN (pc := 81) (nA := 0) (rest := [.ref q55, .ref h]) (wr := [(h, .inr (9, [.ref q1, .ref q5, .ref q9, .ref q17, .ref q45, .ref q51, .null, .null, .null, .null, .null])), (q1, .inr (0, [.ref q_4, .int 0])), (q_4, .inl (G.2.1, 8000, .inl (fun _ => 0))), (q5, .inr (0, [.ref q_8, .int 0])), (q_8, .inl (G.2.1, 4502, .inl (fun _ => 0))), (q9, .inr (4, [.ref pp_12, .ref pl_14, .ref pe_15, .ref pr_16, .int 0, .int 0, .int 0, .int 0, .int 0])), (pp_12, .inr (0, [.ref pb_13, .int 0])), (pb_13, .inl (G.2.1, 4502, .inl (fun _ => 0))), (pl_14, .inl (G.2.2.1, 1024, .inl (fun _ => 0))), (pe_15, .inl (G.2.2.1, 4000, .inl (fun _ => 0))), (pr_16, .inl (G.2.1, 0, .inl (fun _ => 0))), (q17, .inr (5, [.ref ex_20, .ref et_22, .ref ea_23, .ref eb_26, .ref ec_29, .ref ed_32, .ref ef_35, .ref er_38, .int 0, .int 0, .int 0])), (ex_20, .inr (0, [.ref ey_21, .int 0])), (ey_21, .inl (G.2.1, 4000, .inl (fun _ => 0))), (et_22, .inl (G.2.2.1, 316, .inl (fun _ => 0))), (ea_23, .inr (1, [.ref ea_24, .ref ea_25, .int as__39])), (ea_24, .inl (G.2.2.1, 16, .inl afc_41)), (ea_25, .inl (G.2.2.1, 288, .inl afy_42)), (eb_26, .inr (1, [.ref eb_27, .ref eb_28, .int bs__40])), (eb_27, .inl (G.2.2.1, 16, .inl bfc_43)), (eb_28, .inl (G.2.2.1, 32, .inl bfy_44)), (ec_29, .inr (1, [.ref ec_30, .ref ec_31, .int 0])), (ec_30, .inl (G.2.2.1, 16, .inl (fun _ => 0))), (ec_31, .inl (G.2.2.1, 286, .inl (fun _ => 0))), (ed_32, .inr (1, [.ref ed_33, .ref ed_34, .int 0])), (ed_33, .inl (G.2.2.1, 16, .inl (fun _ => 0))), (ed_34, .inl (G.2.2.1, 30, .inl (fun _ => 0))), (ef_35, .inr (1, [.ref ef_36, .ref ef_37, .int 0])), (ef_36, .inl (G.2.2.1, 16, .inl (fun _ => 0))), (ef_37, .inl (G.2.2.1, 19, .inl (fun _ => 0))), (er_38, .inl (G.2.1, 0, .inl (fun _ => 0))), (q45, .inr (6, [.ref mm_48, .ref mr_50])), (mm_48, .inr (0, [.ref mb_49, .int 0])), (mb_49, .inl (G.2.1, 14006, .inl (fun _ => 0))), (mr_50, .inl (G.2.2.1, 16, .inl (fun _ => 0))), (q51, .inr (7, [.ref rr_54])), (rr_54, .inl (G.2.1, 0, .inl (fun _ => 0)))]) d_Book_init_81 (c_Markup_init hl G q55) [37] [0, 1, 2, 3, 4, 5, 6, 7, 8, 9, 10, 11, 12, 13, 14, 15, 16, 17, 18, 19, 20, 21, 22, 23, 24, 25, 26, 27, 28, 29, 30, 31, 32, 33, 34, 35, 36] (by decide) rfl rfl rfl (by decide) (by decide) k_314 rfl k_125 k_312 k_313 rfl (by decide +kernel) (by decide) rfl rfl (Nat.le_of_ble_eq_true rfl) (by decide) (fun v9 u57 h56 => ?_)
  obtain ⟨ui_58, ug_59, uv_60, ur_61⟩ := u57
  have eh56 := h56
  have eh56 : v9 = none := eh56
  subst eh56
  refine pb_eq (pc' := 84) (lo' := [(0, .ref h)]) (rest' := [.ref q55, .ref h]) (ws' := [(h, .inr (9, [.ref q1, .ref q5, .ref q9, .ref q17, .ref q45, .ref q51, .null, .null, .null, .null, .null])), (q1, .inr (0, [.ref q_4, .int 0])), (q_4, .inl (G.2.1, 8000, .inl (fun _ => 0))), (q5, .inr (0, [.ref q_8, .int 0])), (q_8, .inl (G.2.1, 4502, .inl (fun _ => 0))), (q9, .inr (4, [.ref pp_12, .ref pl_14, .ref pe_15, .ref pr_16, .int 0, .int 0, .int 0, .int 0, .int 0])), (pp_12, .inr (0, [.ref pb_13, .int 0])), (pb_13, .inl (G.2.1, 4502, .inl (fun _ => 0))), (pl_14, .inl (G.2.2.1, 1024, .inl (fun _ => 0))), (pe_15, .inl (G.2.2.1, 4000, .inl (fun _ => 0))), (pr_16, .inl (G.2.1, 0, .inl (fun _ => 0))), (q17, .inr (5, [.ref ex_20, .ref et_22, .ref ea_23, .ref eb_26, .ref ec_29, .ref ed_32, .ref ef_35, .ref er_38, .int 0, .int 0, .int 0])), (ex_20, .inr (0, [.ref ey_21, .int 0])), (ey_21, .inl (G.2.1, 4000, .inl (fun _ => 0))), (et_22, .inl (G.2.2.1, 316, .inl (fun _ => 0))), (ea_23, .inr (1, [.ref ea_24, .ref ea_25, .int as__39])), (ea_24, .inl (G.2.2.1, 16, .inl afc_41)), (ea_25, .inl (G.2.2.1, 288, .inl afy_42)), (eb_26, .inr (1, [.ref eb_27, .ref eb_28, .int bs__40])), (eb_27, .inl (G.2.2.1, 16, .inl bfc_43)), (eb_28, .inl (G.2.2.1, 32, .inl bfy_44)), (ec_29, .inr (1, [.ref ec_30, .ref ec_31, .int 0])), (ec_30, .inl (G.2.2.1, 16, .inl (fun _ => 0))), (ec_31, .inl (G.2.2.1, 286, .inl (fun _ => 0))), (ed_32, .inr (1, [.ref ed_33, .ref ed_34, .int 0])), (ed_33, .inl (G.2.2.1, 16, .inl (fun _ => 0))), (ed_34, .inl (G.2.2.1, 30, .inl (fun _ => 0))), (ef_35, .inr (1, [.ref ef_36, .ref ef_37, .int 0])), (ef_36, .inl (G.2.2.1, 16, .inl (fun _ => 0))), (ef_37, .inl (G.2.2.1, 19, .inl (fun _ => 0))), (er_38, .inl (G.2.1, 0, .inl (fun _ => 0))), (q45, .inr (6, [.ref mm_48, .ref mr_50])), (mm_48, .inr (0, [.ref mb_49, .int 0])), (mb_49, .inl (G.2.1, 14006, .inl (fun _ => 0))), (mr_50, .inl (G.2.2.1, 16, .inl (fun _ => 0))), (q51, .inr (7, [.ref rr_54])), (rr_54, .inl (G.2.1, 0, .inl (fun _ => 0))), (q55, .inr (8, [.ref ui_58, .ref ug_59, .ref uv_60, .ref ur_61, .int 0, .int (-1), .int 0, .int 0, .int 0, .int 0, .int 0, .int 0, .int 0])), (ui_58, .inl (G.2.2.2.1, 200, .inr (.inl (fun _ => 0)))), (ug_59, .inl (G.2.2.1, 200, .inl (fun _ => 0))), (uv_60, .inl (G.2.1, 24, .inl (fun _ => 0))), (ur_61, .inl (G.2.1, 0, .inl (fun _ => 0)))]) ?_
  refine pb_putF (pc := 84) (ty := (.object "PackageBook$Markup")) (ws' := [(h, .inr (9, [.ref q1, .ref q5, .ref q9, .ref q17, .ref q45, .ref q51, .ref q55, .null, .null, .null, .null])), (q1, .inr (0, [.ref q_4, .int 0])), (q_4, .inl (G.2.1, 8000, .inl (fun _ => 0))), (q5, .inr (0, [.ref q_8, .int 0])), (q_8, .inl (G.2.1, 4502, .inl (fun _ => 0))), (q9, .inr (4, [.ref pp_12, .ref pl_14, .ref pe_15, .ref pr_16, .int 0, .int 0, .int 0, .int 0, .int 0])), (pp_12, .inr (0, [.ref pb_13, .int 0])), (pb_13, .inl (G.2.1, 4502, .inl (fun _ => 0))), (pl_14, .inl (G.2.2.1, 1024, .inl (fun _ => 0))), (pe_15, .inl (G.2.2.1, 4000, .inl (fun _ => 0))), (pr_16, .inl (G.2.1, 0, .inl (fun _ => 0))), (q17, .inr (5, [.ref ex_20, .ref et_22, .ref ea_23, .ref eb_26, .ref ec_29, .ref ed_32, .ref ef_35, .ref er_38, .int 0, .int 0, .int 0])), (ex_20, .inr (0, [.ref ey_21, .int 0])), (ey_21, .inl (G.2.1, 4000, .inl (fun _ => 0))), (et_22, .inl (G.2.2.1, 316, .inl (fun _ => 0))), (ea_23, .inr (1, [.ref ea_24, .ref ea_25, .int as__39])), (ea_24, .inl (G.2.2.1, 16, .inl afc_41)), (ea_25, .inl (G.2.2.1, 288, .inl afy_42)), (eb_26, .inr (1, [.ref eb_27, .ref eb_28, .int bs__40])), (eb_27, .inl (G.2.2.1, 16, .inl bfc_43)), (eb_28, .inl (G.2.2.1, 32, .inl bfy_44)), (ec_29, .inr (1, [.ref ec_30, .ref ec_31, .int 0])), (ec_30, .inl (G.2.2.1, 16, .inl (fun _ => 0))), (ec_31, .inl (G.2.2.1, 286, .inl (fun _ => 0))), (ed_32, .inr (1, [.ref ed_33, .ref ed_34, .int 0])), (ed_33, .inl (G.2.2.1, 16, .inl (fun _ => 0))), (ed_34, .inl (G.2.2.1, 30, .inl (fun _ => 0))), (ef_35, .inr (1, [.ref ef_36, .ref ef_37, .int 0])), (ef_36, .inl (G.2.2.1, 16, .inl (fun _ => 0))), (ef_37, .inl (G.2.2.1, 19, .inl (fun _ => 0))), (er_38, .inl (G.2.1, 0, .inl (fun _ => 0))), (q45, .inr (6, [.ref mm_48, .ref mr_50])), (mm_48, .inr (0, [.ref mb_49, .int 0])), (mb_49, .inl (G.2.1, 14006, .inl (fun _ => 0))), (mr_50, .inl (G.2.2.1, 16, .inl (fun _ => 0))), (q51, .inr (7, [.ref rr_54])), (rr_54, .inl (G.2.1, 0, .inl (fun _ => 0))), (q55, .inr (8, [.ref ui_58, .ref ug_59, .ref uv_60, .ref ur_61, .int 0, .int (-1), .int 0, .int 0, .int 0, .int 0, .int 0, .int 0, .int 0])), (ui_58, .inl (G.2.2.2.1, 200, .inr (.inl (fun _ => 0)))), (ug_59, .inl (G.2.2.1, 200, .inl (fun _ => 0))), (uv_60, .inl (G.2.1, 24, .inl (fun _ => 0))), (ur_61, .inl (G.2.1, 0, .inl (fun _ => 0)))]) d_Book_init_84 0 6 t_Book t_Book_ok n_Book rfl rfl (by decide) in_Book k_423 rfl rfl rfl (by decide +kernel) rfl rfl (Nat.le_of_ble_eq_true rfl) rfl ?_
  refine pb_aload_n (pc := 87) d_Book_init_87 0 rfl rfl ?_
  refine pb_new (pc := 88) (ci := 2) (fs := [.null, .null, .null, .int 0]) d_Book_init_88 t_Findings t_Findings_ok rfl in_Findings k_360 k_361 k_126 (by decide) (by decide) (by decide) (fun q62 => ?_)
  refine pb_eq (pc' := 91) (lo' := [(0, .ref h)]) (rest' := [.ref q62, .ref h]) (ws' := [(h, .inr (9, [.ref q1, .ref q5, .ref q9, .ref q17, .ref q45, .ref q51, .ref q55, .null, .null, .null, .null])), (q1, .inr (0, [.ref q_4, .int 0])), (q_4, .inl (G.2.1, 8000, .inl (fun _ => 0))), (q5, .inr (0, [.ref q_8, .int 0])), (q_8, .inl (G.2.1, 4502, .inl (fun _ => 0))), (q9, .inr (4, [.ref pp_12, .ref pl_14, .ref pe_15, .ref pr_16, .int 0, .int 0, .int 0, .int 0, .int 0])), (pp_12, .inr (0, [.ref pb_13, .int 0])), (pb_13, .inl (G.2.1, 4502, .inl (fun _ => 0))), (pl_14, .inl (G.2.2.1, 1024, .inl (fun _ => 0))), (pe_15, .inl (G.2.2.1, 4000, .inl (fun _ => 0))), (pr_16, .inl (G.2.1, 0, .inl (fun _ => 0))), (q17, .inr (5, [.ref ex_20, .ref et_22, .ref ea_23, .ref eb_26, .ref ec_29, .ref ed_32, .ref ef_35, .ref er_38, .int 0, .int 0, .int 0])), (ex_20, .inr (0, [.ref ey_21, .int 0])), (ey_21, .inl (G.2.1, 4000, .inl (fun _ => 0))), (et_22, .inl (G.2.2.1, 316, .inl (fun _ => 0))), (ea_23, .inr (1, [.ref ea_24, .ref ea_25, .int as__39])), (ea_24, .inl (G.2.2.1, 16, .inl afc_41)), (ea_25, .inl (G.2.2.1, 288, .inl afy_42)), (eb_26, .inr (1, [.ref eb_27, .ref eb_28, .int bs__40])), (eb_27, .inl (G.2.2.1, 16, .inl bfc_43)), (eb_28, .inl (G.2.2.1, 32, .inl bfy_44)), (ec_29, .inr (1, [.ref ec_30, .ref ec_31, .int 0])), (ec_30, .inl (G.2.2.1, 16, .inl (fun _ => 0))), (ec_31, .inl (G.2.2.1, 286, .inl (fun _ => 0))), (ed_32, .inr (1, [.ref ed_33, .ref ed_34, .int 0])), (ed_33, .inl (G.2.2.1, 16, .inl (fun _ => 0))), (ed_34, .inl (G.2.2.1, 30, .inl (fun _ => 0))), (ef_35, .inr (1, [.ref ef_36, .ref ef_37, .int 0])), (ef_36, .inl (G.2.2.1, 16, .inl (fun _ => 0))), (ef_37, .inl (G.2.2.1, 19, .inl (fun _ => 0))), (er_38, .inl (G.2.1, 0, .inl (fun _ => 0))), (q45, .inr (6, [.ref mm_48, .ref mr_50])), (mm_48, .inr (0, [.ref mb_49, .int 0])), (mb_49, .inl (G.2.1, 14006, .inl (fun _ => 0))), (mr_50, .inl (G.2.2.1, 16, .inl (fun _ => 0))), (q51, .inr (7, [.ref rr_54])), (rr_54, .inl (G.2.1, 0, .inl (fun _ => 0))), (q55, .inr (8, [.ref ui_58, .ref ug_59, .ref uv_60, .ref ur_61, .int 0, .int (-1), .int 0, .int 0, .int 0, .int 0, .int 0, .int 0, .int 0])), (ui_58, .inl (G.2.2.2.1, 200, .inr (.inl (fun _ => 0)))), (ug_59, .inl (G.2.2.1, 200, .inl (fun _ => 0))), (uv_60, .inl (G.2.1, 24, .inl (fun _ => 0))), (ur_61, .inl (G.2.1, 0, .inl (fun _ => 0))), (q62, .inr (2, [.null, .null, .null, .int 0]))]) ?_
  refine pb_dup (pc := 91) d_Book_init_91 rfl ?_
  refine pb_callIN (pc := 92) (nA := 0) (rest := [.ref q62, .ref h]) (wr := [(h, .inr (9, [.ref q1, .ref q5, .ref q9, .ref q17, .ref q45, .ref q51, .ref q55, .null, .null, .null, .null])), (q1, .inr (0, [.ref q_4, .int 0])), (q_4, .inl (G.2.1, 8000, .inl (fun _ => 0))), (q5, .inr (0, [.ref q_8, .int 0])), (q_8, .inl (G.2.1, 4502, .inl (fun _ => 0))), (q9, .inr (4, [.ref pp_12, .ref pl_14, .ref pe_15, .ref pr_16, .int 0, .int 0, .int 0, .int 0, .int 0])), (pp_12, .inr (0, [.ref pb_13, .int 0])), (pb_13, .inl (G.2.1, 4502, .inl (fun _ => 0))), (pl_14, .inl (G.2.2.1, 1024, .inl (fun _ => 0))), (pe_15, .inl (G.2.2.1, 4000, .inl (fun _ => 0))), (pr_16, .inl (G.2.1, 0, .inl (fun _ => 0))), (q17, .inr (5, [.ref ex_20, .ref et_22, .ref ea_23, .ref eb_26, .ref ec_29, .ref ed_32, .ref ef_35, .ref er_38, .int 0, .int 0, .int 0])), (ex_20, .inr (0, [.ref ey_21, .int 0])), (ey_21, .inl (G.2.1, 4000, .inl (fun _ => 0))), (et_22, .inl (G.2.2.1, 316, .inl (fun _ => 0))), (ea_23, .inr (1, [.ref ea_24, .ref ea_25, .int as__39])), (ea_24, .inl (G.2.2.1, 16, .inl afc_41)), (ea_25, .inl (G.2.2.1, 288, .inl afy_42)), (eb_26, .inr (1, [.ref eb_27, .ref eb_28, .int bs__40])), (eb_27, .inl (G.2.2.1, 16, .inl bfc_43)), (eb_28, .inl (G.2.2.1, 32, .inl bfy_44)), (ec_29, .inr (1, [.ref ec_30, .ref ec_31, .int 0])), (ec_30, .inl (G.2.2.1, 16, .inl (fun _ => 0))), (ec_31, .inl (G.2.2.1, 286, .inl (fun _ => 0))), (ed_32, .inr (1, [.ref ed_33, .ref ed_34, .int 0])), (ed_33, .inl (G.2.2.1, 16, .inl (fun _ => 0))), (ed_34, .inl (G.2.2.1, 30, .inl (fun _ => 0))), (ef_35, .inr (1, [.ref ef_36, .ref ef_37, .int 0])), (ef_36, .inl (G.2.2.1, 16, .inl (fun _ => 0))), (ef_37, .inl (G.2.2.1, 19, .inl (fun _ => 0))), (er_38, .inl (G.2.1, 0, .inl (fun _ => 0))), (q45, .inr (6, [.ref mm_48, .ref mr_50])), (mm_48, .inr (0, [.ref mb_49, .int 0])), (mb_49, .inl (G.2.1, 14006, .inl (fun _ => 0))), (mr_50, .inl (G.2.2.1, 16, .inl (fun _ => 0))), (q51, .inr (7, [.ref rr_54])), (rr_54, .inl (G.2.1, 0, .inl (fun _ => 0))), (q55, .inr (8, [.ref ui_58, .ref ug_59, .ref uv_60, .ref ur_61, .int 0, .int (-1), .int 0, .int 0, .int 0, .int 0, .int 0, .int 0, .int 0])), (ui_58, .inl (G.2.2.2.1, 200, .inr (.inl (fun _ => 0)))), (ug_59, .inl (G.2.2.1, 200, .inl (fun _ => 0))), (uv_60, .inl (G.2.1, 24, .inl (fun _ => 0))), (ur_61, .inl (G.2.1, 0, .inl (fun _ => 0)))]) d_Book_init_92 (c_Findings_init hl G q62) [42] [0, 1, 2, 3, 4, 5, 6, 7, 8, 9, 10, 11, 12, 13, 14, 15, 16, 17, 18, 19, 20, 21, 22, 23, 24, 25, 26, 27, 28, 29, 30, 31, 32, 33, 34, 35, 36, 37, 38, 39, 40, 41] (by decide) rfl rfl rfl (by decide) (by decide) k_364 rfl k_126 k_362 k_363 rfl (by decide +kernel) (by decide) rfl rfl (Nat.le_of_ble_eq_true rfl) (by decide) (fun v9 u64 h63 => ?_)
  obtain ⟨fk_65, fo_66, fp_67⟩ := u64
  have eh63 := h63
  have eh63 : v9 = none := eh63
  subst eh63
  refine pb_eq (pc' := 95) (lo' := [(0, .ref h)]) (rest' := [.ref q62, .ref h]) (ws' := [(h, .inr (9, [.ref q1, .ref q5, .ref q9, .ref q17, .ref q45, .ref q51, .ref q55, .null, .null, .null, .null])), (q1, .inr (0, [.ref q_4, .int 0])), (q_4, .inl (G.2.1, 8000, .inl (fun _ => 0))), (q5, .inr (0, [.ref q_8, .int 0])), (q_8, .inl (G.2.1, 4502, .inl (fun _ => 0))), (q9, .inr (4, [.ref pp_12, .ref pl_14, .ref pe_15, .ref pr_16, .int 0, .int 0, .int 0, .int 0, .int 0])), (pp_12, .inr (0, [.ref pb_13, .int 0])), (pb_13, .inl (G.2.1, 4502, .inl (fun _ => 0))), (pl_14, .inl (G.2.2.1, 1024, .inl (fun _ => 0))), (pe_15, .inl (G.2.2.1, 4000, .inl (fun _ => 0))), (pr_16, .inl (G.2.1, 0, .inl (fun _ => 0))), (q17, .inr (5, [.ref ex_20, .ref et_22, .ref ea_23, .ref eb_26, .ref ec_29, .ref ed_32, .ref ef_35, .ref er_38, .int 0, .int 0, .int 0])), (ex_20, .inr (0, [.ref ey_21, .int 0])), (ey_21, .inl (G.2.1, 4000, .inl (fun _ => 0))), (et_22, .inl (G.2.2.1, 316, .inl (fun _ => 0))), (ea_23, .inr (1, [.ref ea_24, .ref ea_25, .int as__39])), (ea_24, .inl (G.2.2.1, 16, .inl afc_41)), (ea_25, .inl (G.2.2.1, 288, .inl afy_42)), (eb_26, .inr (1, [.ref eb_27, .ref eb_28, .int bs__40])), (eb_27, .inl (G.2.2.1, 16, .inl bfc_43)), (eb_28, .inl (G.2.2.1, 32, .inl bfy_44)), (ec_29, .inr (1, [.ref ec_30, .ref ec_31, .int 0])), (ec_30, .inl (G.2.2.1, 16, .inl (fun _ => 0))), (ec_31, .inl (G.2.2.1, 286, .inl (fun _ => 0))), (ed_32, .inr (1, [.ref ed_33, .ref ed_34, .int 0])), (ed_33, .inl (G.2.2.1, 16, .inl (fun _ => 0))), (ed_34, .inl (G.2.2.1, 30, .inl (fun _ => 0))), (ef_35, .inr (1, [.ref ef_36, .ref ef_37, .int 0])), (ef_36, .inl (G.2.2.1, 16, .inl (fun _ => 0))), (ef_37, .inl (G.2.2.1, 19, .inl (fun _ => 0))), (er_38, .inl (G.2.1, 0, .inl (fun _ => 0))), (q45, .inr (6, [.ref mm_48, .ref mr_50])), (mm_48, .inr (0, [.ref mb_49, .int 0])), (mb_49, .inl (G.2.1, 14006, .inl (fun _ => 0))), (mr_50, .inl (G.2.2.1, 16, .inl (fun _ => 0))), (q51, .inr (7, [.ref rr_54])), (rr_54, .inl (G.2.1, 0, .inl (fun _ => 0))), (q55, .inr (8, [.ref ui_58, .ref ug_59, .ref uv_60, .ref ur_61, .int 0, .int (-1), .int 0, .int 0, .int 0, .int 0, .int 0, .int 0, .int 0])), (ui_58, .inl (G.2.2.2.1, 200, .inr (.inl (fun _ => 0)))), (ug_59, .inl (G.2.2.1, 200, .inl (fun _ => 0))), (uv_60, .inl (G.2.1, 24, .inl (fun _ => 0))), (ur_61, .inl (G.2.1, 0, .inl (fun _ => 0))), (q62, .inr (2, [.ref fk_65, .ref fo_66, .ref fp_67, .int 0])), (fk_65, .inl (G.2.2.1, 1232, .inl (fun _ => 0))), (fo_66, .inl (G.2.2.1, 1232, .inl (fun _ => 0))), (fp_67, .inl (G.2.2.1, 1232, .inl (fun _ => 0)))]) ?_
  refine pb_putF (pc := 95) (ty := (.object "PackageBook$Findings")) (ws' := [(h, .inr (9, [.ref q1, .ref q5, .ref q9, .ref q17, .ref q45, .ref q51, .ref q55, .ref q62, .null, .null, .null])), (q1, .inr (0, [.ref q_4, .int 0])), (q_4, .inl (G.2.1, 8000, .inl (fun _ => 0))), (q5, .inr (0, [.ref q_8, .int 0])), (q_8, .inl (G.2.1, 4502, .inl (fun _ => 0))), (q9, .inr (4, [.ref pp_12, .ref pl_14, .ref pe_15, .ref pr_16, .int 0, .int 0, .int 0, .int 0, .int 0])), (pp_12, .inr (0, [.ref pb_13, .int 0])), (pb_13, .inl (G.2.1, 4502, .inl (fun _ => 0))), (pl_14, .inl (G.2.2.1, 1024, .inl (fun _ => 0))), (pe_15, .inl (G.2.2.1, 4000, .inl (fun _ => 0))), (pr_16, .inl (G.2.1, 0, .inl (fun _ => 0))), (q17, .inr (5, [.ref ex_20, .ref et_22, .ref ea_23, .ref eb_26, .ref ec_29, .ref ed_32, .ref ef_35, .ref er_38, .int 0, .int 0, .int 0])), (ex_20, .inr (0, [.ref ey_21, .int 0])), (ey_21, .inl (G.2.1, 4000, .inl (fun _ => 0))), (et_22, .inl (G.2.2.1, 316, .inl (fun _ => 0))), (ea_23, .inr (1, [.ref ea_24, .ref ea_25, .int as__39])), (ea_24, .inl (G.2.2.1, 16, .inl afc_41)), (ea_25, .inl (G.2.2.1, 288, .inl afy_42)), (eb_26, .inr (1, [.ref eb_27, .ref eb_28, .int bs__40])), (eb_27, .inl (G.2.2.1, 16, .inl bfc_43)), (eb_28, .inl (G.2.2.1, 32, .inl bfy_44)), (ec_29, .inr (1, [.ref ec_30, .ref ec_31, .int 0])), (ec_30, .inl (G.2.2.1, 16, .inl (fun _ => 0))), (ec_31, .inl (G.2.2.1, 286, .inl (fun _ => 0))), (ed_32, .inr (1, [.ref ed_33, .ref ed_34, .int 0])), (ed_33, .inl (G.2.2.1, 16, .inl (fun _ => 0))), (ed_34, .inl (G.2.2.1, 30, .inl (fun _ => 0))), (ef_35, .inr (1, [.ref ef_36, .ref ef_37, .int 0])), (ef_36, .inl (G.2.2.1, 16, .inl (fun _ => 0))), (ef_37, .inl (G.2.2.1, 19, .inl (fun _ => 0))), (er_38, .inl (G.2.1, 0, .inl (fun _ => 0))), (q45, .inr (6, [.ref mm_48, .ref mr_50])), (mm_48, .inr (0, [.ref mb_49, .int 0])), (mb_49, .inl (G.2.1, 14006, .inl (fun _ => 0))), (mr_50, .inl (G.2.2.1, 16, .inl (fun _ => 0))), (q51, .inr (7, [.ref rr_54])), (rr_54, .inl (G.2.1, 0, .inl (fun _ => 0))), (q55, .inr (8, [.ref ui_58, .ref ug_59, .ref uv_60, .ref ur_61, .int 0, .int (-1), .int 0, .int 0, .int 0, .int 0, .int 0, .int 0, .int 0])), (ui_58, .inl (G.2.2.2.1, 200, .inr (.inl (fun _ => 0)))), (ug_59, .inl (G.2.2.1, 200, .inl (fun _ => 0))), (uv_60, .inl (G.2.1, 24, .inl (fun _ => 0))), (ur_61, .inl (G.2.1, 0, .inl (fun _ => 0))), (q62, .inr (2, [.ref fk_65, .ref fo_66, .ref fp_67, .int 0])), (fk_65, .inl (G.2.2.1, 1232, .inl (fun _ => 0))), (fo_66, .inl (G.2.2.1, 1232, .inl (fun _ => 0))), (fp_67, .inl (G.2.2.1, 1232, .inl (fun _ => 0)))]) d_Book_init_95 0 7 t_Book t_Book_ok n_Book rfl rfl (by decide) in_Book k_424 rfl rfl rfl (by decide +kernel) rfl rfl (Nat.le_of_ble_eq_true rfl) rfl ?_
  refine pb_aload_n (pc := 98) d_Book_init_98 0 rfl rfl ?_
  refine pb_bipush (pc := 99) (v := 16) d_Book_init_99 (by decide) ?_
  refine pb_newi (pc := 101) (N := 16) d_Book_init_101 k_211 (by decide) (by decide) (by decide) (by decide) (by decide) (fun q68 => ?_)
  refine pb_eq (pc' := 103) (lo' := [(0, .ref h)]) (rest' := [.ref q68, .ref h]) (ws' := [(h, .inr (9, [.ref q1, .ref q5, .ref q9, .ref q17, .ref q45, .ref q51, .ref q55, .ref q62, .null, .null, .null])), (q1, .inr (0, [.ref q_4, .int 0])), (q_4, .inl (G.2.1, 8000, .inl (fun _ => 0))), (q5, .inr (0, [.ref q_8, .int 0])), (q_8, .inl (G.2.1, 4502, .inl (fun _ => 0))), (q9, .inr (4, [.ref pp_12, .ref pl_14, .ref pe_15, .ref pr_16, .int 0, .int 0, .int 0, .int 0, .int 0])), (pp_12, .inr (0, [.ref pb_13, .int 0])), (pb_13, .inl (G.2.1, 4502, .inl (fun _ => 0))), (pl_14, .inl (G.2.2.1, 1024, .inl (fun _ => 0))), (pe_15, .inl (G.2.2.1, 4000, .inl (fun _ => 0))), (pr_16, .inl (G.2.1, 0, .inl (fun _ => 0))), (q17, .inr (5, [.ref ex_20, .ref et_22, .ref ea_23, .ref eb_26, .ref ec_29, .ref ed_32, .ref ef_35, .ref er_38, .int 0, .int 0, .int 0])), (ex_20, .inr (0, [.ref ey_21, .int 0])), (ey_21, .inl (G.2.1, 4000, .inl (fun _ => 0))), (et_22, .inl (G.2.2.1, 316, .inl (fun _ => 0))), (ea_23, .inr (1, [.ref ea_24, .ref ea_25, .int as__39])), (ea_24, .inl (G.2.2.1, 16, .inl afc_41)), (ea_25, .inl (G.2.2.1, 288, .inl afy_42)), (eb_26, .inr (1, [.ref eb_27, .ref eb_28, .int bs__40])), (eb_27, .inl (G.2.2.1, 16, .inl bfc_43)), (eb_28, .inl (G.2.2.1, 32, .inl bfy_44)), (ec_29, .inr (1, [.ref ec_30, .ref ec_31, .int 0])), (ec_30, .inl (G.2.2.1, 16, .inl (fun _ => 0))), (ec_31, .inl (G.2.2.1, 286, .inl (fun _ => 0))), (ed_32, .inr (1, [.ref ed_33, .ref ed_34, .int 0])), (ed_33, .inl (G.2.2.1, 16, .inl (fun _ => 0))), (ed_34, .inl (G.2.2.1, 30, .inl (fun _ => 0))), (ef_35, .inr (1, [.ref ef_36, .ref ef_37, .int 0])), (ef_36, .inl (G.2.2.1, 16, .inl (fun _ => 0))), (ef_37, .inl (G.2.2.1, 19, .inl (fun _ => 0))), (er_38, .inl (G.2.1, 0, .inl (fun _ => 0))), (q45, .inr (6, [.ref mm_48, .ref mr_50])), (mm_48, .inr (0, [.ref mb_49, .int 0])), (mb_49, .inl (G.2.1, 14006, .inl (fun _ => 0))), (mr_50, .inl (G.2.2.1, 16, .inl (fun _ => 0))), (q51, .inr (7, [.ref rr_54])), (rr_54, .inl (G.2.1, 0, .inl (fun _ => 0))), (q55, .inr (8, [.ref ui_58, .ref ug_59, .ref uv_60, .ref ur_61, .int 0, .int (-1), .int 0, .int 0, .int 0, .int 0, .int 0, .int 0, .int 0])), (ui_58, .inl (G.2.2.2.1, 200, .inr (.inl (fun _ => 0)))), (ug_59, .inl (G.2.2.1, 200, .inl (fun _ => 0))), (uv_60, .inl (G.2.1, 24, .inl (fun _ => 0))), (ur_61, .inl (G.2.1, 0, .inl (fun _ => 0))), (q62, .inr (2, [.ref fk_65, .ref fo_66, .ref fp_67, .int 0])), (fk_65, .inl (G.2.2.1, 1232, .inl (fun _ => 0))), (fo_66, .inl (G.2.2.1, 1232, .inl (fun _ => 0))), (fp_67, .inl (G.2.2.1, 1232, .inl (fun _ => 0))), (q68, .inl (G.2.2.1, 16, .inl (fun _ => 0)))]) ?_
  refine pb_putF (pc := 103) (ty := (.array .int)) (ws' := [(h, .inr (9, [.ref q1, .ref q5, .ref q9, .ref q17, .ref q45, .ref q51, .ref q55, .ref q62, .ref q68, .null, .null])), (q1, .inr (0, [.ref q_4, .int 0])), (q_4, .inl (G.2.1, 8000, .inl (fun _ => 0))), (q5, .inr (0, [.ref q_8, .int 0])), (q_8, .inl (G.2.1, 4502, .inl (fun _ => 0))), (q9, .inr (4, [.ref pp_12, .ref pl_14, .ref pe_15, .ref pr_16, .int 0, .int 0, .int 0, .int 0, .int 0])), (pp_12, .inr (0, [.ref pb_13, .int 0])), (pb_13, .inl (G.2.1, 4502, .inl (fun _ => 0))), (pl_14, .inl (G.2.2.1, 1024, .inl (fun _ => 0))), (pe_15, .inl (G.2.2.1, 4000, .inl (fun _ => 0))), (pr_16, .inl (G.2.1, 0, .inl (fun _ => 0))), (q17, .inr (5, [.ref ex_20, .ref et_22, .ref ea_23, .ref eb_26, .ref ec_29, .ref ed_32, .ref ef_35, .ref er_38, .int 0, .int 0, .int 0])), (ex_20, .inr (0, [.ref ey_21, .int 0])), (ey_21, .inl (G.2.1, 4000, .inl (fun _ => 0))), (et_22, .inl (G.2.2.1, 316, .inl (fun _ => 0))), (ea_23, .inr (1, [.ref ea_24, .ref ea_25, .int as__39])), (ea_24, .inl (G.2.2.1, 16, .inl afc_41)), (ea_25, .inl (G.2.2.1, 288, .inl afy_42)), (eb_26, .inr (1, [.ref eb_27, .ref eb_28, .int bs__40])), (eb_27, .inl (G.2.2.1, 16, .inl bfc_43)), (eb_28, .inl (G.2.2.1, 32, .inl bfy_44)), (ec_29, .inr (1, [.ref ec_30, .ref ec_31, .int 0])), (ec_30, .inl (G.2.2.1, 16, .inl (fun _ => 0))), (ec_31, .inl (G.2.2.1, 286, .inl (fun _ => 0))), (ed_32, .inr (1, [.ref ed_33, .ref ed_34, .int 0])), (ed_33, .inl (G.2.2.1, 16, .inl (fun _ => 0))), (ed_34, .inl (G.2.2.1, 30, .inl (fun _ => 0))), (ef_35, .inr (1, [.ref ef_36, .ref ef_37, .int 0])), (ef_36, .inl (G.2.2.1, 16, .inl (fun _ => 0))), (ef_37, .inl (G.2.2.1, 19, .inl (fun _ => 0))), (er_38, .inl (G.2.1, 0, .inl (fun _ => 0))), (q45, .inr (6, [.ref mm_48, .ref mr_50])), (mm_48, .inr (0, [.ref mb_49, .int 0])), (mb_49, .inl (G.2.1, 14006, .inl (fun _ => 0))), (mr_50, .inl (G.2.2.1, 16, .inl (fun _ => 0))), (q51, .inr (7, [.ref rr_54])), (rr_54, .inl (G.2.1, 0, .inl (fun _ => 0))), (q55, .inr (8, [.ref ui_58, .ref ug_59, .ref uv_60, .ref ur_61, .int 0, .int (-1), .int 0, .int 0, .int 0, .int 0, .int 0, .int 0, .int 0])), (ui_58, .inl (G.2.2.2.1, 200, .inr (.inl (fun _ => 0)))), (ug_59, .inl (G.2.2.1, 200, .inl (fun _ => 0))), (uv_60, .inl (G.2.1, 24, .inl (fun _ => 0))), (ur_61, .inl (G.2.1, 0, .inl (fun _ => 0))), (q62, .inr (2, [.ref fk_65, .ref fo_66, .ref fp_67, .int 0])), (fk_65, .inl (G.2.2.1, 1232, .inl (fun _ => 0))), (fo_66, .inl (G.2.2.1, 1232, .inl (fun _ => 0))), (fp_67, .inl (G.2.2.1, 1232, .inl (fun _ => 0))), (q68, .inl (G.2.2.1, 16, .inl (fun _ => 0)))]) d_Book_init_103 0 8 t_Book t_Book_ok n_Book rfl rfl (by decide) in_Book k_425 rfl rfl rfl (by decide +kernel) rfl rfl (Nat.le_of_ble_eq_true rfl) rfl ?_
  refine pb_aload_n (pc := 106) d_Book_init_106 0 rfl rfl ?_
  refine pb_new (pc := 107) (ci := 3) (fs := [.null, .null, .null, .null, .int 0]) d_Book_init_107 t_Shelf t_Shelf_ok rfl in_Shelf k_383 k_384 k_127 (by decide) (by decide) (by decide) (fun q69 => ?_)
  refine pb_eq (pc' := 110) (lo' := [(0, .ref h)]) (rest' := [.ref q69, .ref h]) (ws' := [(h, .inr (9, [.ref q1, .ref q5, .ref q9, .ref q17, .ref q45, .ref q51, .ref q55, .ref q62, .ref q68, .null, .null])), (q1, .inr (0, [.ref q_4, .int 0])), (q_4, .inl (G.2.1, 8000, .inl (fun _ => 0))), (q5, .inr (0, [.ref q_8, .int 0])), (q_8, .inl (G.2.1, 4502, .inl (fun _ => 0))), (q9, .inr (4, [.ref pp_12, .ref pl_14, .ref pe_15, .ref pr_16, .int 0, .int 0, .int 0, .int 0, .int 0])), (pp_12, .inr (0, [.ref pb_13, .int 0])), (pb_13, .inl (G.2.1, 4502, .inl (fun _ => 0))), (pl_14, .inl (G.2.2.1, 1024, .inl (fun _ => 0))), (pe_15, .inl (G.2.2.1, 4000, .inl (fun _ => 0))), (pr_16, .inl (G.2.1, 0, .inl (fun _ => 0))), (q17, .inr (5, [.ref ex_20, .ref et_22, .ref ea_23, .ref eb_26, .ref ec_29, .ref ed_32, .ref ef_35, .ref er_38, .int 0, .int 0, .int 0])), (ex_20, .inr (0, [.ref ey_21, .int 0])), (ey_21, .inl (G.2.1, 4000, .inl (fun _ => 0))), (et_22, .inl (G.2.2.1, 316, .inl (fun _ => 0))), (ea_23, .inr (1, [.ref ea_24, .ref ea_25, .int as__39])), (ea_24, .inl (G.2.2.1, 16, .inl afc_41)), (ea_25, .inl (G.2.2.1, 288, .inl afy_42)), (eb_26, .inr (1, [.ref eb_27, .ref eb_28, .int bs__40])), (eb_27, .inl (G.2.2.1, 16, .inl bfc_43)), (eb_28, .inl (G.2.2.1, 32, .inl bfy_44)), (ec_29, .inr (1, [.ref ec_30, .ref ec_31, .int 0])), (ec_30, .inl (G.2.2.1, 16, .inl (fun _ => 0))), (ec_31, .inl (G.2.2.1, 286, .inl (fun _ => 0))), (ed_32, .inr (1, [.ref ed_33, .ref ed_34, .int 0])), (ed_33, .inl (G.2.2.1, 16, .inl (fun _ => 0))), (ed_34, .inl (G.2.2.1, 30, .inl (fun _ => 0))), (ef_35, .inr (1, [.ref ef_36, .ref ef_37, .int 0])), (ef_36, .inl (G.2.2.1, 16, .inl (fun _ => 0))), (ef_37, .inl (G.2.2.1, 19, .inl (fun _ => 0))), (er_38, .inl (G.2.1, 0, .inl (fun _ => 0))), (q45, .inr (6, [.ref mm_48, .ref mr_50])), (mm_48, .inr (0, [.ref mb_49, .int 0])), (mb_49, .inl (G.2.1, 14006, .inl (fun _ => 0))), (mr_50, .inl (G.2.2.1, 16, .inl (fun _ => 0))), (q51, .inr (7, [.ref rr_54])), (rr_54, .inl (G.2.1, 0, .inl (fun _ => 0))), (q55, .inr (8, [.ref ui_58, .ref ug_59, .ref uv_60, .ref ur_61, .int 0, .int (-1), .int 0, .int 0, .int 0, .int 0, .int 0, .int 0, .int 0])), (ui_58, .inl (G.2.2.2.1, 200, .inr (.inl (fun _ => 0)))), (ug_59, .inl (G.2.2.1, 200, .inl (fun _ => 0))), (uv_60, .inl (G.2.1, 24, .inl (fun _ => 0))), (ur_61, .inl (G.2.1, 0, .inl (fun _ => 0))), (q62, .inr (2, [.ref fk_65, .ref fo_66, .ref fp_67, .int 0])), (fk_65, .inl (G.2.2.1, 1232, .inl (fun _ => 0))), (fo_66, .inl (G.2.2.1, 1232, .inl (fun _ => 0))), (fp_67, .inl (G.2.2.1, 1232, .inl (fun _ => 0))), (q68, .inl (G.2.2.1, 16, .inl (fun _ => 0))), (q69, .inr (3, [.null, .null, .null, .null, .int 0]))]) ?_
  refine pb_dup (pc := 110) d_Book_init_110 rfl ?_
  refine pb_callIN (pc := 111) (nA := 0) (rest := [.ref q69, .ref h]) (wr := [(h, .inr (9, [.ref q1, .ref q5, .ref q9, .ref q17, .ref q45, .ref q51, .ref q55, .ref q62, .ref q68, .null, .null])), (q1, .inr (0, [.ref q_4, .int 0])), (q_4, .inl (G.2.1, 8000, .inl (fun _ => 0))), (q5, .inr (0, [.ref q_8, .int 0])), (q_8, .inl (G.2.1, 4502, .inl (fun _ => 0))), (q9, .inr (4, [.ref pp_12, .ref pl_14, .ref pe_15, .ref pr_16, .int 0, .int 0, .int 0, .int 0, .int 0])), (pp_12, .inr (0, [.ref pb_13, .int 0])), (pb_13, .inl (G.2.1, 4502, .inl (fun _ => 0))), (pl_14, .inl (G.2.2.1, 1024, .inl (fun _ => 0))), (pe_15, .inl (G.2.2.1, 4000, .inl (fun _ => 0))), (pr_16, .inl (G.2.1, 0, .inl (fun _ => 0))), (q17, .inr (5, [.ref ex_20, .ref et_22, .ref ea_23, .ref eb_26, .ref ec_29, .ref ed_32, .ref ef_35, .ref er_38, .int 0, .int 0, .int 0])), (ex_20, .inr (0, [.ref ey_21, .int 0])), (ey_21, .inl (G.2.1, 4000, .inl (fun _ => 0))), (et_22, .inl (G.2.2.1, 316, .inl (fun _ => 0))), (ea_23, .inr (1, [.ref ea_24, .ref ea_25, .int as__39])), (ea_24, .inl (G.2.2.1, 16, .inl afc_41)), (ea_25, .inl (G.2.2.1, 288, .inl afy_42)), (eb_26, .inr (1, [.ref eb_27, .ref eb_28, .int bs__40])), (eb_27, .inl (G.2.2.1, 16, .inl bfc_43)), (eb_28, .inl (G.2.2.1, 32, .inl bfy_44)), (ec_29, .inr (1, [.ref ec_30, .ref ec_31, .int 0])), (ec_30, .inl (G.2.2.1, 16, .inl (fun _ => 0))), (ec_31, .inl (G.2.2.1, 286, .inl (fun _ => 0))), (ed_32, .inr (1, [.ref ed_33, .ref ed_34, .int 0])), (ed_33, .inl (G.2.2.1, 16, .inl (fun _ => 0))), (ed_34, .inl (G.2.2.1, 30, .inl (fun _ => 0))), (ef_35, .inr (1, [.ref ef_36, .ref ef_37, .int 0])), (ef_36, .inl (G.2.2.1, 16, .inl (fun _ => 0))), (ef_37, .inl (G.2.2.1, 19, .inl (fun _ => 0))), (er_38, .inl (G.2.1, 0, .inl (fun _ => 0))), (q45, .inr (6, [.ref mm_48, .ref mr_50])), (mm_48, .inr (0, [.ref mb_49, .int 0])), (mb_49, .inl (G.2.1, 14006, .inl (fun _ => 0))), (mr_50, .inl (G.2.2.1, 16, .inl (fun _ => 0))), (q51, .inr (7, [.ref rr_54])), (rr_54, .inl (G.2.1, 0, .inl (fun _ => 0))), (q55, .inr (8, [.ref ui_58, .ref ug_59, .ref uv_60, .ref ur_61, .int 0, .int (-1), .int 0, .int 0, .int 0, .int 0, .int 0, .int 0, .int 0])), (ui_58, .inl (G.2.2.2.1, 200, .inr (.inl (fun _ => 0)))), (ug_59, .inl (G.2.2.1, 200, .inl (fun _ => 0))), (uv_60, .inl (G.2.1, 24, .inl (fun _ => 0))), (ur_61, .inl (G.2.1, 0, .inl (fun _ => 0))), (q62, .inr (2, [.ref fk_65, .ref fo_66, .ref fp_67, .int 0])), (fk_65, .inl (G.2.2.1, 1232, .inl (fun _ => 0))), (fo_66, .inl (G.2.2.1, 1232, .inl (fun _ => 0))), (fp_67, .inl (G.2.2.1, 1232, .inl (fun _ => 0))), (q68, .inl (G.2.2.1, 16, .inl (fun _ => 0)))]) d_Book_init_111 (c_Shelf_init hl G q69) [47] [0, 1, 2, 3, 4, 5, 6, 7, 8, 9, 10, 11, 12, 13, 14, 15, 16, 17, 18, 19, 20, 21, 22, 23, 24, 25, 26, 27, 28, 29, 30, 31, 32, 33, 34, 35, 36, 37, 38, 39, 40, 41, 42, 43, 44, 45, 46] (by decide) rfl rfl rfl (by decide) (by decide) k_387 rfl k_127 k_385 k_386 rfl (by decide +kernel) (by decide) rfl rfl (Nat.le_of_ble_eq_true rfl) (by decide) (fun v9 u71 h70 => ?_)
  obtain ⟨sn_72, sz_73, sb_74, sg_75⟩ := u71
  have eh70 := h70
  have eh70 : v9 = none := eh70
  subst eh70
  refine pb_eq (pc' := 114) (lo' := [(0, .ref h)]) (rest' := [.ref q69, .ref h]) (ws' := [(h, .inr (9, [.ref q1, .ref q5, .ref q9, .ref q17, .ref q45, .ref q51, .ref q55, .ref q62, .ref q68, .null, .null])), (q1, .inr (0, [.ref q_4, .int 0])), (q_4, .inl (G.2.1, 8000, .inl (fun _ => 0))), (q5, .inr (0, [.ref q_8, .int 0])), (q_8, .inl (G.2.1, 4502, .inl (fun _ => 0))), (q9, .inr (4, [.ref pp_12, .ref pl_14, .ref pe_15, .ref pr_16, .int 0, .int 0, .int 0, .int 0, .int 0])), (pp_12, .inr (0, [.ref pb_13, .int 0])), (pb_13, .inl (G.2.1, 4502, .inl (fun _ => 0))), (pl_14, .inl (G.2.2.1, 1024, .inl (fun _ => 0))), (pe_15, .inl (G.2.2.1, 4000, .inl (fun _ => 0))), (pr_16, .inl (G.2.1, 0, .inl (fun _ => 0))), (q17, .inr (5, [.ref ex_20, .ref et_22, .ref ea_23, .ref eb_26, .ref ec_29, .ref ed_32, .ref ef_35, .ref er_38, .int 0, .int 0, .int 0])), (ex_20, .inr (0, [.ref ey_21, .int 0])), (ey_21, .inl (G.2.1, 4000, .inl (fun _ => 0))), (et_22, .inl (G.2.2.1, 316, .inl (fun _ => 0))), (ea_23, .inr (1, [.ref ea_24, .ref ea_25, .int as__39])), (ea_24, .inl (G.2.2.1, 16, .inl afc_41)), (ea_25, .inl (G.2.2.1, 288, .inl afy_42)), (eb_26, .inr (1, [.ref eb_27, .ref eb_28, .int bs__40])), (eb_27, .inl (G.2.2.1, 16, .inl bfc_43)), (eb_28, .inl (G.2.2.1, 32, .inl bfy_44)), (ec_29, .inr (1, [.ref ec_30, .ref ec_31, .int 0])), (ec_30, .inl (G.2.2.1, 16, .inl (fun _ => 0))), (ec_31, .inl (G.2.2.1, 286, .inl (fun _ => 0))), (ed_32, .inr (1, [.ref ed_33, .ref ed_34, .int 0])), (ed_33, .inl (G.2.2.1, 16, .inl (fun _ => 0))), (ed_34, .inl (G.2.2.1, 30, .inl (fun _ => 0))), (ef_35, .inr (1, [.ref ef_36, .ref ef_37, .int 0])), (ef_36, .inl (G.2.2.1, 16, .inl (fun _ => 0))), (ef_37, .inl (G.2.2.1, 19, .inl (fun _ => 0))), (er_38, .inl (G.2.1, 0, .inl (fun _ => 0))), (q45, .inr (6, [.ref mm_48, .ref mr_50])), (mm_48, .inr (0, [.ref mb_49, .int 0])), (mb_49, .inl (G.2.1, 14006, .inl (fun _ => 0))), (mr_50, .inl (G.2.2.1, 16, .inl (fun _ => 0))), (q51, .inr (7, [.ref rr_54])), (rr_54, .inl (G.2.1, 0, .inl (fun _ => 0))), (q55, .inr (8, [.ref ui_58, .ref ug_59, .ref uv_60, .ref ur_61, .int 0, .int (-1), .int 0, .int 0, .int 0, .int 0, .int 0, .int 0, .int 0])), (ui_58, .inl (G.2.2.2.1, 200, .inr (.inl (fun _ => 0)))), (ug_59, .inl (G.2.2.1, 200, .inl (fun _ => 0))), (uv_60, .inl (G.2.1, 24, .inl (fun _ => 0))), (ur_61, .inl (G.2.1, 0, .inl (fun _ => 0))), (q62, .inr (2, [.ref fk_65, .ref fo_66, .ref fp_67, .int 0])), (fk_65, .inl (G.2.2.1, 1232, .inl (fun _ => 0))), (fo_66, .inl (G.2.2.1, 1232, .inl (fun _ => 0))), (fp_67, .inl (G.2.2.1, 1232, .inl (fun _ => 0))), (q68, .inl (G.2.2.1, 16, .inl (fun _ => 0))), (q69, .inr (3, [.ref sn_72, .ref sz_73, .ref sb_74, .ref sg_75, .int 0])), (sn_72, .inl (G.2.1, 384, .inl (fun _ => 0))), (sz_73, .inl (G.2.2.1, 16, .inl (fun _ => 0))), (sb_74, .inl (G.2.1, 12000, .inl (fun _ => 0))), (sg_75, .inl (G.2.2.1, 17, .inl (fun _ => 0)))]) ?_
  refine pb_put (pc := 114) (ty := (.object "PackageBook$Shelf")) (ws' := [(h, .inr (9, [.ref q1, .ref q5, .ref q9, .ref q17, .ref q45, .ref q51, .ref q55, .ref q62, .ref q68, .ref q69, .null])), (q1, .inr (0, [.ref q_4, .int 0])), (q_4, .inl (G.2.1, 8000, .inl (fun _ => 0))), (q5, .inr (0, [.ref q_8, .int 0])), (q_8, .inl (G.2.1, 4502, .inl (fun _ => 0))), (q9, .inr (4, [.ref pp_12, .ref pl_14, .ref pe_15, .ref pr_16, .int 0, .int 0, .int 0, .int 0, .int 0])), (pp_12, .inr (0, [.ref pb_13, .int 0])), (pb_13, .inl (G.2.1, 4502, .inl (fun _ => 0))), (pl_14, .inl (G.2.2.1, 1024, .inl (fun _ => 0))), (pe_15, .inl (G.2.2.1, 4000, .inl (fun _ => 0))), (pr_16, .inl (G.2.1, 0, .inl (fun _ => 0))), (q17, .inr (5, [.ref ex_20, .ref et_22, .ref ea_23, .ref eb_26, .ref ec_29, .ref ed_32, .ref ef_35, .ref er_38, .int 0, .int 0, .int 0])), (ex_20, .inr (0, [.ref ey_21, .int 0])), (ey_21, .inl (G.2.1, 4000, .inl (fun _ => 0))), (et_22, .inl (G.2.2.1, 316, .inl (fun _ => 0))), (ea_23, .inr (1, [.ref ea_24, .ref ea_25, .int as__39])), (ea_24, .inl (G.2.2.1, 16, .inl afc_41)), (ea_25, .inl (G.2.2.1, 288, .inl afy_42)), (eb_26, .inr (1, [.ref eb_27, .ref eb_28, .int bs__40])), (eb_27, .inl (G.2.2.1, 16, .inl bfc_43)), (eb_28, .inl (G.2.2.1, 32, .inl bfy_44)), (ec_29, .inr (1, [.ref ec_30, .ref ec_31, .int 0])), (ec_30, .inl (G.2.2.1, 16, .inl (fun _ => 0))), (ec_31, .inl (G.2.2.1, 286, .inl (fun _ => 0))), (ed_32, .inr (1, [.ref ed_33, .ref ed_34, .int 0])), (ed_33, .inl (G.2.2.1, 16, .inl (fun _ => 0))), (ed_34, .inl (G.2.2.1, 30, .inl (fun _ => 0))), (ef_35, .inr (1, [.ref ef_36, .ref ef_37, .int 0])), (ef_36, .inl (G.2.2.1, 16, .inl (fun _ => 0))), (ef_37, .inl (G.2.2.1, 19, .inl (fun _ => 0))), (er_38, .inl (G.2.1, 0, .inl (fun _ => 0))), (q45, .inr (6, [.ref mm_48, .ref mr_50])), (mm_48, .inr (0, [.ref mb_49, .int 0])), (mb_49, .inl (G.2.1, 14006, .inl (fun _ => 0))), (mr_50, .inl (G.2.2.1, 16, .inl (fun _ => 0))), (q51, .inr (7, [.ref rr_54])), (rr_54, .inl (G.2.1, 0, .inl (fun _ => 0))), (q55, .inr (8, [.ref ui_58, .ref ug_59, .ref uv_60, .ref ur_61, .int 0, .int (-1), .int 0, .int 0, .int 0, .int 0, .int 0, .int 0, .int 0])), (ui_58, .inl (G.2.2.2.1, 200, .inr (.inl (fun _ => 0)))), (ug_59, .inl (G.2.2.1, 200, .inl (fun _ => 0))), (uv_60, .inl (G.2.1, 24, .inl (fun _ => 0))), (ur_61, .inl (G.2.1, 0, .inl (fun _ => 0))), (q62, .inr (2, [.ref fk_65, .ref fo_66, .ref fp_67, .int 0])), (fk_65, .inl (G.2.2.1, 1232, .inl (fun _ => 0))), (fo_66, .inl (G.2.2.1, 1232, .inl (fun _ => 0))), (fp_67, .inl (G.2.2.1, 1232, .inl (fun _ => 0))), (q68, .inl (G.2.2.1, 16, .inl (fun _ => 0))), (q69, .inr (3, [.ref sn_72, .ref sz_73, .ref sb_74, .ref sg_75, .int 0])), (sn_72, .inl (G.2.1, 384, .inl (fun _ => 0))), (sz_73, .inl (G.2.2.1, 16, .inl (fun _ => 0))), (sb_74, .inl (G.2.1, 12000, .inl (fun _ => 0))), (sg_75, .inl (G.2.2.1, 17, .inl (fun _ => 0)))]) d_Book_init_114 0 9 t_Book t_Book_ok n_Book rfl rfl (by decide) in_Book k_426 rfl (by decide +kernel) rfl rfl (Nat.le_of_ble_eq_true rfl) rfl ?_
  refine pb_aload_n (pc := 117) d_Book_init_117 0 rfl rfl ?_
  refine pb_new (pc := 118) (ci := 3) (fs := [.null, .null, .null, .null, .int 0]) d_Book_init_118 t_Shelf t_Shelf_ok rfl in_Shelf k_383 k_384 k_127 (by decide) (by decide) (by decide) (fun q76 => ?_)
  refine pb_eq (pc' := 121) (lo' := [(0, .ref h)]) (rest' := [.ref q76, .ref h]) (ws' := [(h, .inr (9, [.ref q1, .ref q5, .ref q9, .ref q17, .ref q45, .ref q51, .ref q55, .ref q62, .ref q68, .ref q69, .null])), (q1, .inr (0, [.ref q_4, .int 0])), (q_4, .inl (G.2.1, 8000, .inl (fun _ => 0))), (q5, .inr (0, [.ref q_8, .int 0])), (q_8, .inl (G.2.1, 4502, .inl (fun _ => 0))), (q9, .inr (4, [.ref pp_12, .ref pl_14, .ref pe_15, .ref pr_16, .int 0, .int 0, .int 0, .int 0, .int 0])), (pp_12, .inr (0, [.ref pb_13, .int 0])), (pb_13, .inl (G.2.1, 4502, .inl (fun _ => 0))), (pl_14, .inl (G.2.2.1, 1024, .inl (fun _ => 0))), (pe_15, .inl (G.2.2.1, 4000, .inl (fun _ => 0))), (pr_16, .inl (G.2.1, 0, .inl (fun _ => 0))), (q17, .inr (5, [.ref ex_20, .ref et_22, .ref ea_23, .ref eb_26, .ref ec_29, .ref ed_32, .ref ef_35, .ref er_38, .int 0, .int 0, .int 0])), (ex_20, .inr (0, [.ref ey_21, .int 0])), (ey_21, .inl (G.2.1, 4000, .inl (fun _ => 0))), (et_22, .inl (G.2.2.1, 316, .inl (fun _ => 0))), (ea_23, .inr (1, [.ref ea_24, .ref ea_25, .int as__39])), (ea_24, .inl (G.2.2.1, 16, .inl afc_41)), (ea_25, .inl (G.2.2.1, 288, .inl afy_42)), (eb_26, .inr (1, [.ref eb_27, .ref eb_28, .int bs__40])), (eb_27, .inl (G.2.2.1, 16, .inl bfc_43)), (eb_28, .inl (G.2.2.1, 32, .inl bfy_44)), (ec_29, .inr (1, [.ref ec_30, .ref ec_31, .int 0])), (ec_30, .inl (G.2.2.1, 16, .inl (fun _ => 0))), (ec_31, .inl (G.2.2.1, 286, .inl (fun _ => 0))), (ed_32, .inr (1, [.ref ed_33, .ref ed_34, .int 0])), (ed_33, .inl (G.2.2.1, 16, .inl (fun _ => 0))), (ed_34, .inl (G.2.2.1, 30, .inl (fun _ => 0))), (ef_35, .inr (1, [.ref ef_36, .ref ef_37, .int 0])), (ef_36, .inl (G.2.2.1, 16, .inl (fun _ => 0))), (ef_37, .inl (G.2.2.1, 19, .inl (fun _ => 0))), (er_38, .inl (G.2.1, 0, .inl (fun _ => 0))), (q45, .inr (6, [.ref mm_48, .ref mr_50])), (mm_48, .inr (0, [.ref mb_49, .int 0])), (mb_49, .inl (G.2.1, 14006, .inl (fun _ => 0))), (mr_50, .inl (G.2.2.1, 16, .inl (fun _ => 0))), (q51, .inr (7, [.ref rr_54])), (rr_54, .inl (G.2.1, 0, .inl (fun _ => 0))), (q55, .inr (8, [.ref ui_58, .ref ug_59, .ref uv_60, .ref ur_61, .int 0, .int (-1), .int 0, .int 0, .int 0, .int 0, .int 0, .int 0, .int 0])), (ui_58, .inl (G.2.2.2.1, 200, .inr (.inl (fun _ => 0)))), (ug_59, .inl (G.2.2.1, 200, .inl (fun _ => 0))), (uv_60, .inl (G.2.1, 24, .inl (fun _ => 0))), (ur_61, .inl (G.2.1, 0, .inl (fun _ => 0))), (q62, .inr (2, [.ref fk_65, .ref fo_66, .ref fp_67, .int 0])), (fk_65, .inl (G.2.2.1, 1232, .inl (fun _ => 0))), (fo_66, .inl (G.2.2.1, 1232, .inl (fun _ => 0))), (fp_67, .inl (G.2.2.1, 1232, .inl (fun _ => 0))), (q68, .inl (G.2.2.1, 16, .inl (fun _ => 0))), (q69, .inr (3, [.ref sn_72, .ref sz_73, .ref sb_74, .ref sg_75, .int 0])), (sn_72, .inl (G.2.1, 384, .inl (fun _ => 0))), (sz_73, .inl (G.2.2.1, 16, .inl (fun _ => 0))), (sb_74, .inl (G.2.1, 12000, .inl (fun _ => 0))), (sg_75, .inl (G.2.2.1, 17, .inl (fun _ => 0))), (q76, .inr (3, [.null, .null, .null, .null, .int 0]))]) ?_
  refine pb_dup (pc := 121) d_Book_init_121 rfl ?_
  refine pb_callIN (pc := 122) (nA := 0) (rest := [.ref q76, .ref h]) (wr := [(h, .inr (9, [.ref q1, .ref q5, .ref q9, .ref q17, .ref q45, .ref q51, .ref q55, .ref q62, .ref q68, .ref q69, .null])), (q1, .inr (0, [.ref q_4, .int 0])), (q_4, .inl (G.2.1, 8000, .inl (fun _ => 0))), (q5, .inr (0, [.ref q_8, .int 0])), (q_8, .inl (G.2.1, 4502, .inl (fun _ => 0))), (q9, .inr (4, [.ref pp_12, .ref pl_14, .ref pe_15, .ref pr_16, .int 0, .int 0, .int 0, .int 0, .int 0])), (pp_12, .inr (0, [.ref pb_13, .int 0])), (pb_13, .inl (G.2.1, 4502, .inl (fun _ => 0))), (pl_14, .inl (G.2.2.1, 1024, .inl (fun _ => 0))), (pe_15, .inl (G.2.2.1, 4000, .inl (fun _ => 0))), (pr_16, .inl (G.2.1, 0, .inl (fun _ => 0))), (q17, .inr (5, [.ref ex_20, .ref et_22, .ref ea_23, .ref eb_26, .ref ec_29, .ref ed_32, .ref ef_35, .ref er_38, .int 0, .int 0, .int 0])), (ex_20, .inr (0, [.ref ey_21, .int 0])), (ey_21, .inl (G.2.1, 4000, .inl (fun _ => 0))), (et_22, .inl (G.2.2.1, 316, .inl (fun _ => 0))), (ea_23, .inr (1, [.ref ea_24, .ref ea_25, .int as__39])), (ea_24, .inl (G.2.2.1, 16, .inl afc_41)), (ea_25, .inl (G.2.2.1, 288, .inl afy_42)), (eb_26, .inr (1, [.ref eb_27, .ref eb_28, .int bs__40])), (eb_27, .inl (G.2.2.1, 16, .inl bfc_43)), (eb_28, .inl (G.2.2.1, 32, .inl bfy_44)), (ec_29, .inr (1, [.ref ec_30, .ref ec_31, .int 0])), (ec_30, .inl (G.2.2.1, 16, .inl (fun _ => 0))), (ec_31, .inl (G.2.2.1, 286, .inl (fun _ => 0))), (ed_32, .inr (1, [.ref ed_33, .ref ed_34, .int 0])), (ed_33, .inl (G.2.2.1, 16, .inl (fun _ => 0))), (ed_34, .inl (G.2.2.1, 30, .inl (fun _ => 0))), (ef_35, .inr (1, [.ref ef_36, .ref ef_37, .int 0])), (ef_36, .inl (G.2.2.1, 16, .inl (fun _ => 0))), (ef_37, .inl (G.2.2.1, 19, .inl (fun _ => 0))), (er_38, .inl (G.2.1, 0, .inl (fun _ => 0))), (q45, .inr (6, [.ref mm_48, .ref mr_50])), (mm_48, .inr (0, [.ref mb_49, .int 0])), (mb_49, .inl (G.2.1, 14006, .inl (fun _ => 0))), (mr_50, .inl (G.2.2.1, 16, .inl (fun _ => 0))), (q51, .inr (7, [.ref rr_54])), (rr_54, .inl (G.2.1, 0, .inl (fun _ => 0))), (q55, .inr (8, [.ref ui_58, .ref ug_59, .ref uv_60, .ref ur_61, .int 0, .int (-1), .int 0, .int 0, .int 0, .int 0, .int 0, .int 0, .int 0])), (ui_58, .inl (G.2.2.2.1, 200, .inr (.inl (fun _ => 0)))), (ug_59, .inl (G.2.2.1, 200, .inl (fun _ => 0))), (uv_60, .inl (G.2.1, 24, .inl (fun _ => 0))), (ur_61, .inl (G.2.1, 0, .inl (fun _ => 0))), (q62, .inr (2, [.ref fk_65, .ref fo_66, .ref fp_67, .int 0])), (fk_65, .inl (G.2.2.1, 1232, .inl (fun _ => 0))), (fo_66, .inl (G.2.2.1, 1232, .inl (fun _ => 0))), (fp_67, .inl (G.2.2.1, 1232, .inl (fun _ => 0))), (q68, .inl (G.2.2.1, 16, .inl (fun _ => 0))), (q69, .inr (3, [.ref sn_72, .ref sz_73, .ref sb_74, .ref sg_75, .int 0])), (sn_72, .inl (G.2.1, 384, .inl (fun _ => 0))), (sz_73, .inl (G.2.2.1, 16, .inl (fun _ => 0))), (sb_74, .inl (G.2.1, 12000, .inl (fun _ => 0))), (sg_75, .inl (G.2.2.1, 17, .inl (fun _ => 0)))]) d_Book_init_122 (c_Shelf_init hl G q76) [52] [0, 1, 2, 3, 4, 5, 6, 7, 8, 9, 10, 11, 12, 13, 14, 15, 16, 17, 18, 19, 20, 21, 22, 23, 24, 25, 26, 27, 28, 29, 30, 31, 32, 33, 34, 35, 36, 37, 38, 39, 40, 41, 42, 43, 44, 45, 46, 47, 48, 49, 50, 51] (by decide) rfl rfl rfl (by decide) (by decide) k_387 rfl k_127 k_385 k_386 rfl (by decide +kernel) (by decide) rfl rfl (Nat.le_of_ble_eq_true rfl) (by decide) (fun v9 u78 h77 => ?_)
  obtain ⟨sn_79, sz_80, sb_81, sg_82⟩ := u78
  have eh77 := h77
  have eh77 : v9 = none := eh77
  subst eh77
  refine pb_eq (pc' := 125) (lo' := [(0, .ref h)]) (rest' := [.ref q76, .ref h]) (ws' := [(h, .inr (9, [.ref q1, .ref q5, .ref q9, .ref q17, .ref q45, .ref q51, .ref q55, .ref q62, .ref q68, .ref q69, .null])), (q1, .inr (0, [.ref q_4, .int 0])), (q_4, .inl (G.2.1, 8000, .inl (fun _ => 0))), (q5, .inr (0, [.ref q_8, .int 0])), (q_8, .inl (G.2.1, 4502, .inl (fun _ => 0))), (q9, .inr (4, [.ref pp_12, .ref pl_14, .ref pe_15, .ref pr_16, .int 0, .int 0, .int 0, .int 0, .int 0])), (pp_12, .inr (0, [.ref pb_13, .int 0])), (pb_13, .inl (G.2.1, 4502, .inl (fun _ => 0))), (pl_14, .inl (G.2.2.1, 1024, .inl (fun _ => 0))), (pe_15, .inl (G.2.2.1, 4000, .inl (fun _ => 0))), (pr_16, .inl (G.2.1, 0, .inl (fun _ => 0))), (q17, .inr (5, [.ref ex_20, .ref et_22, .ref ea_23, .ref eb_26, .ref ec_29, .ref ed_32, .ref ef_35, .ref er_38, .int 0, .int 0, .int 0])), (ex_20, .inr (0, [.ref ey_21, .int 0])), (ey_21, .inl (G.2.1, 4000, .inl (fun _ => 0))), (et_22, .inl (G.2.2.1, 316, .inl (fun _ => 0))), (ea_23, .inr (1, [.ref ea_24, .ref ea_25, .int as__39])), (ea_24, .inl (G.2.2.1, 16, .inl afc_41)), (ea_25, .inl (G.2.2.1, 288, .inl afy_42)), (eb_26, .inr (1, [.ref eb_27, .ref eb_28, .int bs__40])), (eb_27, .inl (G.2.2.1, 16, .inl bfc_43)), (eb_28, .inl (G.2.2.1, 32, .inl bfy_44)), (ec_29, .inr (1, [.ref ec_30, .ref ec_31, .int 0])), (ec_30, .inl (G.2.2.1, 16, .inl (fun _ => 0))), (ec_31, .inl (G.2.2.1, 286, .inl (fun _ => 0))), (ed_32, .inr (1, [.ref ed_33, .ref ed_34, .int 0])), (ed_33, .inl (G.2.2.1, 16, .inl (fun _ => 0))), (ed_34, .inl (G.2.2.1, 30, .inl (fun _ => 0))), (ef_35, .inr (1, [.ref ef_36, .ref ef_37, .int 0])), (ef_36, .inl (G.2.2.1, 16, .inl (fun _ => 0))), (ef_37, .inl (G.2.2.1, 19, .inl (fun _ => 0))), (er_38, .inl (G.2.1, 0, .inl (fun _ => 0))), (q45, .inr (6, [.ref mm_48, .ref mr_50])), (mm_48, .inr (0, [.ref mb_49, .int 0])), (mb_49, .inl (G.2.1, 14006, .inl (fun _ => 0))), (mr_50, .inl (G.2.2.1, 16, .inl (fun _ => 0))), (q51, .inr (7, [.ref rr_54])), (rr_54, .inl (G.2.1, 0, .inl (fun _ => 0))), (q55, .inr (8, [.ref ui_58, .ref ug_59, .ref uv_60, .ref ur_61, .int 0, .int (-1), .int 0, .int 0, .int 0, .int 0, .int 0, .int 0, .int 0])), (ui_58, .inl (G.2.2.2.1, 200, .inr (.inl (fun _ => 0)))), (ug_59, .inl (G.2.2.1, 200, .inl (fun _ => 0))), (uv_60, .inl (G.2.1, 24, .inl (fun _ => 0))), (ur_61, .inl (G.2.1, 0, .inl (fun _ => 0))), (q62, .inr (2, [.ref fk_65, .ref fo_66, .ref fp_67, .int 0])), (fk_65, .inl (G.2.2.1, 1232, .inl (fun _ => 0))), (fo_66, .inl (G.2.2.1, 1232, .inl (fun _ => 0))), (fp_67, .inl (G.2.2.1, 1232, .inl (fun _ => 0))), (q68, .inl (G.2.2.1, 16, .inl (fun _ => 0))), (q69, .inr (3, [.ref sn_72, .ref sz_73, .ref sb_74, .ref sg_75, .int 0])), (sn_72, .inl (G.2.1, 384, .inl (fun _ => 0))), (sz_73, .inl (G.2.2.1, 16, .inl (fun _ => 0))), (sb_74, .inl (G.2.1, 12000, .inl (fun _ => 0))), (sg_75, .inl (G.2.2.1, 17, .inl (fun _ => 0))), (q76, .inr (3, [.ref sn_79, .ref sz_80, .ref sb_81, .ref sg_82, .int 0])), (sn_79, .inl (G.2.1, 384, .inl (fun _ => 0))), (sz_80, .inl (G.2.2.1, 16, .inl (fun _ => 0))), (sb_81, .inl (G.2.1, 12000, .inl (fun _ => 0))), (sg_82, .inl (G.2.2.1, 17, .inl (fun _ => 0)))]) ?_
  refine pb_put (pc := 125) (ty := (.object "PackageBook$Shelf")) (ws' := [(h, .inr (9, [.ref q1, .ref q5, .ref q9, .ref q17, .ref q45, .ref q51, .ref q55, .ref q62, .ref q68, .ref q69, .ref q76])), (q1, .inr (0, [.ref q_4, .int 0])), (q_4, .inl (G.2.1, 8000, .inl (fun _ => 0))), (q5, .inr (0, [.ref q_8, .int 0])), (q_8, .inl (G.2.1, 4502, .inl (fun _ => 0))), (q9, .inr (4, [.ref pp_12, .ref pl_14, .ref pe_15, .ref pr_16, .int 0, .int 0, .int 0, .int 0, .int 0])), (pp_12, .inr (0, [.ref pb_13, .int 0])), (pb_13, .inl (G.2.1, 4502, .inl (fun _ => 0))), (pl_14, .inl (G.2.2.1, 1024, .inl (fun _ => 0))), (pe_15, .inl (G.2.2.1, 4000, .inl (fun _ => 0))), (pr_16, .inl (G.2.1, 0, .inl (fun _ => 0))), (q17, .inr (5, [.ref ex_20, .ref et_22, .ref ea_23, .ref eb_26, .ref ec_29, .ref ed_32, .ref ef_35, .ref er_38, .int 0, .int 0, .int 0])), (ex_20, .inr (0, [.ref ey_21, .int 0])), (ey_21, .inl (G.2.1, 4000, .inl (fun _ => 0))), (et_22, .inl (G.2.2.1, 316, .inl (fun _ => 0))), (ea_23, .inr (1, [.ref ea_24, .ref ea_25, .int as__39])), (ea_24, .inl (G.2.2.1, 16, .inl afc_41)), (ea_25, .inl (G.2.2.1, 288, .inl afy_42)), (eb_26, .inr (1, [.ref eb_27, .ref eb_28, .int bs__40])), (eb_27, .inl (G.2.2.1, 16, .inl bfc_43)), (eb_28, .inl (G.2.2.1, 32, .inl bfy_44)), (ec_29, .inr (1, [.ref ec_30, .ref ec_31, .int 0])), (ec_30, .inl (G.2.2.1, 16, .inl (fun _ => 0))), (ec_31, .inl (G.2.2.1, 286, .inl (fun _ => 0))), (ed_32, .inr (1, [.ref ed_33, .ref ed_34, .int 0])), (ed_33, .inl (G.2.2.1, 16, .inl (fun _ => 0))), (ed_34, .inl (G.2.2.1, 30, .inl (fun _ => 0))), (ef_35, .inr (1, [.ref ef_36, .ref ef_37, .int 0])), (ef_36, .inl (G.2.2.1, 16, .inl (fun _ => 0))), (ef_37, .inl (G.2.2.1, 19, .inl (fun _ => 0))), (er_38, .inl (G.2.1, 0, .inl (fun _ => 0))), (q45, .inr (6, [.ref mm_48, .ref mr_50])), (mm_48, .inr (0, [.ref mb_49, .int 0])), (mb_49, .inl (G.2.1, 14006, .inl (fun _ => 0))), (mr_50, .inl (G.2.2.1, 16, .inl (fun _ => 0))), (q51, .inr (7, [.ref rr_54])), (rr_54, .inl (G.2.1, 0, .inl (fun _ => 0))), (q55, .inr (8, [.ref ui_58, .ref ug_59, .ref uv_60, .ref ur_61, .int 0, .int (-1), .int 0, .int 0, .int 0, .int 0, .int 0, .int 0, .int 0])), (ui_58, .inl (G.2.2.2.1, 200, .inr (.inl (fun _ => 0)))), (ug_59, .inl (G.2.2.1, 200, .inl (fun _ => 0))), (uv_60, .inl (G.2.1, 24, .inl (fun _ => 0))), (ur_61, .inl (G.2.1, 0, .inl (fun _ => 0))), (q62, .inr (2, [.ref fk_65, .ref fo_66, .ref fp_67, .int 0])), (fk_65, .inl (G.2.2.1, 1232, .inl (fun _ => 0))), (fo_66, .inl (G.2.2.1, 1232, .inl (fun _ => 0))), (fp_67, .inl (G.2.2.1, 1232, .inl (fun _ => 0))), (q68, .inl (G.2.2.1, 16, .inl (fun _ => 0))), (q69, .inr (3, [.ref sn_72, .ref sz_73, .ref sb_74, .ref sg_75, .int 0])), (sn_72, .inl (G.2.1, 384, .inl (fun _ => 0))), (sz_73, .inl (G.2.2.1, 16, .inl (fun _ => 0))), (sb_74, .inl (G.2.1, 12000, .inl (fun _ => 0))), (sg_75, .inl (G.2.2.1, 17, .inl (fun _ => 0))), (q76, .inr (3, [.ref sn_79, .ref sz_80, .ref sb_81, .ref sg_82, .int 0])), (sn_79, .inl (G.2.1, 384, .inl (fun _ => 0))), (sz_80, .inl (G.2.2.1, 16, .inl (fun _ => 0))), (sb_81, .inl (G.2.1, 12000, .inl (fun _ => 0))), (sg_82, .inl (G.2.2.1, 17, .inl (fun _ => 0)))]) d_Book_init_125 0 10 t_Book t_Book_ok n_Book rfl rfl (by decide) in_Book k_427 rfl (by decide +kernel) rfl rfl (Nat.le_of_ble_eq_true rfl) rfl ?_
  exact pb_vret (pc := 128) hQ d_Book_init_128 rfl (q1, q_4, q5, q_8, q9, pp_12, pb_13, pl_14, pe_15, pr_16, q17, ex_20, ey_21, et_22, ea_23, ea_24, ea_25, eb_26, eb_27, eb_28, ec_29, ec_30, ec_31, ed_32, ed_33, ed_34, ef_35, ef_36, ef_37, er_38, q45, mm_48, mb_49, mr_50, q51, rr_54, q55, ui_58, ug_59, uv_60, ur_61, q62, fk_65, fo_66, fp_67, q68, q69, sn_72, sz_73, sb_74, sg_75, q76, sn_79, sz_80, sb_81, sg_82, as__39, bs__40, afc_41, afy_42, bfc_43, bfy_44) rfl [0, 1, 2, 3, 4, 5, 6, 7, 8, 9, 10, 11, 12, 13, 14, 15, 16, 17, 18, 19, 20, 21, 22, 23, 24, 25, 26, 27, 28, 29, 30, 31, 32, 33, 34, 35, 36, 37, 38, 39, 40, 41, 42, 43, 44, 45, 46, 47, 48, 49, 50, 51, 52, 53, 54, 55, 56] (by decide) rfl rfl (by decide) (by decide)
end
