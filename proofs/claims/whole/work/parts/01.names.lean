-- ===== PART A: goes FIRST, ahead of the names: the tables' words, and 'selects' of the private methods out of them =====
/-- a private method of a class that the tables say can be made, by its rows of tables_1 -/
def lw_okq (q : MethodName × Nat) : Prop := (q.1.cls ≠ "java/lang/invoke/MethodHandle" ∧ q.1.cls ≠ "java/lang/invoke/VarHandle") ∧ Cond.instantiable q.1.cls q.2 ∈ tables_1 ∧ Cond.privateMethod q.1 ∈ tables_1 ∧ Cond.instanceMethod q.1 ∈ tables_1
theorem lw_p0 : lw_okq (⟨"TextMarks", "shows", "(I)Z"⟩, 4) := ⟨⟨by decide +kernel, by decide +kernel⟩, List.mem_of_getElem? (i := 8) (by decide +kernel), List.mem_of_getElem? (i := 114) (by decide +kernel), List.mem_of_getElem? (i := 115) (by decide +kernel)⟩
theorem lw_p1 : lw_okq (⟨"TextMarks", "nodeOf", "(I)LTextMarks$Node;"⟩, 4) := ⟨⟨by decide +kernel, by decide +kernel⟩, List.mem_of_getElem? (i := 8) (by decide +kernel), List.mem_of_getElem? (i := 118) (by decide +kernel), List.mem_of_getElem? (i := 119) (by decide +kernel)⟩
theorem lw_p2 : lw_okq (⟨"TextMarks$View", "markGoodAndSeen", "(LTextMarks$Rows;LTextMarks$Node;)V"⟩, 8) := ⟨⟨by decide +kernel, by decide +kernel⟩, List.mem_of_getElem? (i := 60) (by decide +kernel), List.mem_of_getElem? (i := 126) (by decide +kernel), List.mem_of_getElem? (i := 127) (by decide +kernel)⟩
theorem lw_p3 : lw_okq (⟨"TextMarks$View", "hide", "(I)V"⟩, 8) := ⟨⟨by decide +kernel, by decide +kernel⟩, List.mem_of_getElem? (i := 60) (by decide +kernel), List.mem_of_getElem? (i := 150) (by decide +kernel), List.mem_of_getElem? (i := 151) (by decide +kernel)⟩
theorem lw_p4 : lw_okq (⟨"TextMarks", "write", "(IIIIII)I"⟩, 4) := ⟨⟨by decide +kernel, by decide +kernel⟩, List.mem_of_getElem? (i := 8) (by decide +kernel), List.mem_of_getElem? (i := 174) (by decide +kernel), List.mem_of_getElem? (i := 175) (by decide +kernel)⟩
theorem lw_p5 : lw_okq (⟨"TextMarks$Rows", "fileInOrder", "(I)V"⟩, 6) := ⟨⟨by decide +kernel, by decide +kernel⟩, List.mem_of_getElem? (i := 16) (by decide +kernel), List.mem_of_getElem? (i := 186) (by decide +kernel), List.mem_of_getElem? (i := 187) (by decide +kernel)⟩
theorem lw_p6 : lw_okq (⟨"TextMarks$Rows", "isLater", "(II)Z"⟩, 6) := ⟨⟨by decide +kernel, by decide +kernel⟩, List.mem_of_getElem? (i := 16) (by decide +kernel), List.mem_of_getElem? (i := 190) (by decide +kernel), List.mem_of_getElem? (i := 191) (by decide +kernel)⟩
theorem lw_p7 : lw_okq (⟨"TextMarks$Rows", "fileInPlaces", "(II)V"⟩, 6) := ⟨⟨by decide +kernel, by decide +kernel⟩, List.mem_of_getElem? (i := 16) (by decide +kernel), List.mem_of_getElem? (i := 195) (by decide +kernel), List.mem_of_getElem? (i := 196) (by decide +kernel)⟩
theorem lw_p8 : lw_okq (⟨"TextMarks$Rows", "firstPlaceBehind", "(I)I"⟩, 6) := ⟨⟨by decide +kernel, by decide +kernel⟩, List.mem_of_getElem? (i := 16) (by decide +kernel), List.mem_of_getElem? (i := 199) (by decide +kernel), List.mem_of_getElem? (i := 200) (by decide +kernel)⟩
theorem lw_p9 : lw_okq (⟨"TextMarks", "knowsNeeds", "(LTextMarks$Node;I)Z"⟩, 4) := ⟨⟨by decide +kernel, by decide +kernel⟩, List.mem_of_getElem? (i := 8) (by decide +kernel), List.mem_of_getElem? (i := 253) (by decide +kernel), List.mem_of_getElem? (i := 254) (by decide +kernel)⟩
theorem lw_p10 : lw_okq (⟨"TextMarks$View", "paintOne", "(LTextMarks$Rows;I)V"⟩, 8) := ⟨⟨by decide +kernel, by decide +kernel⟩, List.mem_of_getElem? (i := 60) (by decide +kernel), List.mem_of_getElem? (i := 307) (by decide +kernel), List.mem_of_getElem? (i := 308) (by decide +kernel)⟩
theorem lw_p11 : lw_okq (⟨"TextMarks$View", "endOf", "(II)I"⟩, 8) := ⟨⟨by decide +kernel, by decide +kernel⟩, List.mem_of_getElem? (i := 60) (by decide +kernel), List.mem_of_getElem? (i := 311) (by decide +kernel), List.mem_of_getElem? (i := 312) (by decide +kernel)⟩
theorem lw_p12 : lw_okq (⟨"TextMarks$View", "startsRun", "(I)Z"⟩, 8) := ⟨⟨by decide +kernel, by decide +kernel⟩, List.mem_of_getElem? (i := 60) (by decide +kernel), List.mem_of_getElem? (i := 336) (by decide +kernel), List.mem_of_getElem? (i := 337) (by decide +kernel)⟩
theorem lw_p13 : lw_okq (⟨"TextMarks", "commentFrom", "(LTextMarks$View;I)I"⟩, 4) := ⟨⟨by decide +kernel, by decide +kernel⟩, List.mem_of_getElem? (i := 8) (by decide +kernel), List.mem_of_getElem? (i := 349) (by decide +kernel), List.mem_of_getElem? (i := 350) (by decide +kernel)⟩
theorem lw_p14 : lw_okq (⟨"TextMarks", "commentTo", "(LTextMarks$View;I)I"⟩, 4) := ⟨⟨by decide +kernel, by decide +kernel⟩, List.mem_of_getElem? (i := 8) (by decide +kernel), List.mem_of_getElem? (i := 354) (by decide +kernel), List.mem_of_getElem? (i := 355) (by decide +kernel)⟩
theorem lw_p15 : lw_okq (⟨"TextMarks$View", "keepKind", "(II)V"⟩, 8) := ⟨⟨by decide +kernel, by decide +kernel⟩, List.mem_of_getElem? (i := 60) (by decide +kernel), List.mem_of_getElem? (i := 372) (by decide +kernel), List.mem_of_getElem? (i := 373) (by decide +kernel)⟩
def lw_privs_1 : List (MethodName × Nat) := [(⟨"TextMarks", "shows", "(I)Z"⟩, 4), (⟨"TextMarks", "nodeOf", "(I)LTextMarks$Node;"⟩, 4), (⟨"TextMarks$View", "markGoodAndSeen", "(LTextMarks$Rows;LTextMarks$Node;)V"⟩, 8), (⟨"TextMarks$View", "hide", "(I)V"⟩, 8), (⟨"TextMarks", "write", "(IIIIII)I"⟩, 4), (⟨"TextMarks$Rows", "fileInOrder", "(I)V"⟩, 6), (⟨"TextMarks$Rows", "isLater", "(II)Z"⟩, 6), (⟨"TextMarks$Rows", "fileInPlaces", "(II)V"⟩, 6), (⟨"TextMarks$Rows", "firstPlaceBehind", "(I)I"⟩, 6), (⟨"TextMarks", "knowsNeeds", "(LTextMarks$Node;I)Z"⟩, 4), (⟨"TextMarks$View", "paintOne", "(LTextMarks$Rows;I)V"⟩, 8), (⟨"TextMarks$View", "endOf", "(II)I"⟩, 8), (⟨"TextMarks$View", "startsRun", "(I)Z"⟩, 8), (⟨"TextMarks", "commentFrom", "(LTextMarks$View;I)I"⟩, 4), (⟨"TextMarks", "commentTo", "(LTextMarks$View;I)I"⟩, 4), (⟨"TextMarks$View", "keepKind", "(II)V"⟩, 8)]
theorem lw_r1 : ∀ q ∈ lw_privs_1, lw_okq q := List.forall_mem_cons.mpr ⟨lw_p0, List.forall_mem_cons.mpr ⟨lw_p1, List.forall_mem_cons.mpr ⟨lw_p2, List.forall_mem_cons.mpr ⟨lw_p3, List.forall_mem_cons.mpr ⟨lw_p4, List.forall_mem_cons.mpr ⟨lw_p5, List.forall_mem_cons.mpr ⟨lw_p6, List.forall_mem_cons.mpr ⟨lw_p7, List.forall_mem_cons.mpr ⟨lw_p8, List.forall_mem_cons.mpr ⟨lw_p9, List.forall_mem_cons.mpr ⟨lw_p10, List.forall_mem_cons.mpr ⟨lw_p11, List.forall_mem_cons.mpr ⟨lw_p12, List.forall_mem_cons.mpr ⟨lw_p13, List.forall_mem_cons.mpr ⟨lw_p14, List.forall_mem_cons.mpr ⟨lw_p15, fun _ h => absurd h List.not_mem_nil⟩⟩⟩⟩⟩⟩⟩⟩⟩⟩⟩⟩⟩⟩⟩⟩
theorem lw_p16 : lw_okq (⟨"TextMarks", "showAll", "(LTextMarks$View;LTextMarks$Node;)V"⟩, 4) := ⟨⟨by decide +kernel, by decide +kernel⟩, List.mem_of_getElem? (i := 8) (by decide +kernel), List.mem_of_getElem? (i := 389) (by decide +kernel), List.mem_of_getElem? (i := 390) (by decide +kernel)⟩
theorem lw_p17 : lw_okq (⟨"TextMarks", "haveSameComments", "()Z"⟩, 4) := ⟨⟨by decide +kernel, by decide +kernel⟩, List.mem_of_getElem? (i := 8) (by decide +kernel), List.mem_of_getElem? (i := 402) (by decide +kernel), List.mem_of_getElem? (i := 403) (by decide +kernel)⟩
theorem lw_p18 : lw_okq (⟨"TextMarks", "isSameComment", "(I)Z"⟩, 4) := ⟨⟨by decide +kernel, by decide +kernel⟩, List.mem_of_getElem? (i := 8) (by decide +kernel), List.mem_of_getElem? (i := 406) (by decide +kernel), List.mem_of_getElem? (i := 407) (by decide +kernel)⟩
theorem lw_p19 : lw_okq (⟨"TextMarks", "placesOf", "(LTextMarks$Node;)I"⟩, 4) := ⟨⟨by decide +kernel, by decide +kernel⟩, List.mem_of_getElem? (i := 8) (by decide +kernel), List.mem_of_getElem? (i := 426) (by decide +kernel), List.mem_of_getElem? (i := 427) (by decide +kernel)⟩
theorem lw_p20 : lw_okq (⟨"TextMarksModel", "look", "(I)V"⟩, 31) := ⟨⟨by decide +kernel, by decide +kernel⟩, List.mem_of_getElem? (i := 436) (by decide +kernel), List.mem_of_getElem? (i := 552) (by decide +kernel), List.mem_of_getElem? (i := 553) (by decide +kernel)⟩
theorem lw_p21 : lw_okq (⟨"TextMarksModel", "judge", "(I)V"⟩, 31) := ⟨⟨by decide +kernel, by decide +kernel⟩, List.mem_of_getElem? (i := 436) (by decide +kernel), List.mem_of_getElem? (i := 556) (by decide +kernel), List.mem_of_getElem? (i := 557) (by decide +kernel)⟩
theorem lw_p22 : lw_okq (⟨"TextMarksModel", "knowsRow", "(II)Z"⟩, 31) := ⟨⟨by decide +kernel, by decide +kernel⟩, List.mem_of_getElem? (i := 436) (by decide +kernel), List.mem_of_getElem? (i := 560) (by decide +kernel), List.mem_of_getElem? (i := 561) (by decide +kernel)⟩
theorem lw_p23 : lw_okq (⟨"TextMarksModel", "findPlaces", "(I)V"⟩, 31) := ⟨⟨by decide +kernel, by decide +kernel⟩, List.mem_of_getElem? (i := 436) (by decide +kernel), List.mem_of_getElem? (i := 564) (by decide +kernel), List.mem_of_getElem? (i := 565) (by decide +kernel)⟩
theorem lw_p24 : lw_okq (⟨"TextMarksModel", "findOrder", "(II)V"⟩, 31) := ⟨⟨by decide +kernel, by decide +kernel⟩, List.mem_of_getElem? (i := 436) (by decide +kernel), List.mem_of_getElem? (i := 568) (by decide +kernel), List.mem_of_getElem? (i := 569) (by decide +kernel)⟩
theorem lw_p25 : lw_okq (⟨"TextMarksModel", "isBefore", "(II)Z"⟩, 31) := ⟨⟨by decide +kernel, by decide +kernel⟩, List.mem_of_getElem? (i := 436) (by decide +kernel), List.mem_of_getElem? (i := 572) (by decide +kernel), List.mem_of_getElem? (i := 573) (by decide +kernel)⟩
theorem lw_p26 : lw_okq (⟨"TextMarksModel", "isDeleted", "(I)Z"⟩, 31) := ⟨⟨by decide +kernel, by decide +kernel⟩, List.mem_of_getElem? (i := 436) (by decide +kernel), List.mem_of_getElem? (i := 576) (by decide +kernel), List.mem_of_getElem? (i := 577) (by decide +kernel)⟩
theorem lw_p27 : lw_okq (⟨"TextMarksModel", "findStyles", "(I)V"⟩, 31) := ⟨⟨by decide +kernel, by decide +kernel⟩, List.mem_of_getElem? (i := 436) (by decide +kernel), List.mem_of_getElem? (i := 580) (by decide +kernel), List.mem_of_getElem? (i := 581) (by decide +kernel)⟩
theorem lw_p28 : lw_okq (⟨"TextMarksModel", "covers", "(II)Z"⟩, 31) := ⟨⟨by decide +kernel, by decide +kernel⟩, List.mem_of_getElem? (i := 436) (by decide +kernel), List.mem_of_getElem? (i := 584) (by decide +kernel), List.mem_of_getElem? (i := 585) (by decide +kernel)⟩
theorem lw_p29 : lw_okq (⟨"TextMarksModel", "add", "(IIIIII)I"⟩, 31) := ⟨⟨by decide +kernel, by decide +kernel⟩, List.mem_of_getElem? (i := 436) (by decide +kernel), List.mem_of_getElem? (i := 588) (by decide +kernel), List.mem_of_getElem? (i := 589) (by decide +kernel)⟩
theorem lw_p30 : lw_okq (⟨"TextMarksModel", "startOf", "(I)I"⟩, 31) := ⟨⟨by decide +kernel, by decide +kernel⟩, List.mem_of_getElem? (i := 436) (by decide +kernel), List.mem_of_getElem? (i := 608) (by decide +kernel), List.mem_of_getElem? (i := 609) (by decide +kernel)⟩
theorem lw_p31 : lw_okq (⟨"TextMarksModel", "learn", "(II)V"⟩, 31) := ⟨⟨by decide +kernel, by decide +kernel⟩, List.mem_of_getElem? (i := 436) (by decide +kernel), List.mem_of_getElem? (i := 620) (by decide +kernel), List.mem_of_getElem? (i := 621) (by decide +kernel)⟩
def lw_privs_2 : List (MethodName × Nat) := [(⟨"TextMarks", "showAll", "(LTextMarks$View;LTextMarks$Node;)V"⟩, 4), (⟨"TextMarks", "haveSameComments", "()Z"⟩, 4), (⟨"TextMarks", "isSameComment", "(I)Z"⟩, 4), (⟨"TextMarks", "placesOf", "(LTextMarks$Node;)I"⟩, 4), (⟨"TextMarksModel", "look", "(I)V"⟩, 31), (⟨"TextMarksModel", "judge", "(I)V"⟩, 31), (⟨"TextMarksModel", "knowsRow", "(II)Z"⟩, 31), (⟨"TextMarksModel", "findPlaces", "(I)V"⟩, 31), (⟨"TextMarksModel", "findOrder", "(II)V"⟩, 31), (⟨"TextMarksModel", "isBefore", "(II)Z"⟩, 31), (⟨"TextMarksModel", "isDeleted", "(I)Z"⟩, 31), (⟨"TextMarksModel", "findStyles", "(I)V"⟩, 31), (⟨"TextMarksModel", "covers", "(II)Z"⟩, 31), (⟨"TextMarksModel", "add", "(IIIIII)I"⟩, 31), (⟨"TextMarksModel", "startOf", "(I)I"⟩, 31), (⟨"TextMarksModel", "learn", "(II)V"⟩, 31)]
theorem lw_r2 : ∀ q ∈ lw_privs_2, lw_okq q := List.forall_mem_cons.mpr ⟨lw_p16, List.forall_mem_cons.mpr ⟨lw_p17, List.forall_mem_cons.mpr ⟨lw_p18, List.forall_mem_cons.mpr ⟨lw_p19, List.forall_mem_cons.mpr ⟨lw_p20, List.forall_mem_cons.mpr ⟨lw_p21, List.forall_mem_cons.mpr ⟨lw_p22, List.forall_mem_cons.mpr ⟨lw_p23, List.forall_mem_cons.mpr ⟨lw_p24, List.forall_mem_cons.mpr ⟨lw_p25, List.forall_mem_cons.mpr ⟨lw_p26, List.forall_mem_cons.mpr ⟨lw_p27, List.forall_mem_cons.mpr ⟨lw_p28, List.forall_mem_cons.mpr ⟨lw_p29, List.forall_mem_cons.mpr ⟨lw_p30, List.forall_mem_cons.mpr ⟨lw_p31, fun _ h => absurd h List.not_mem_nil⟩⟩⟩⟩⟩⟩⟩⟩⟩⟩⟩⟩⟩⟩⟩⟩
theorem lw_p32 : lw_okq (⟨"TextMarksModel", "isSeen", "(II)Z"⟩, 31) := ⟨⟨by decide +kernel, by decide +kernel⟩, List.mem_of_getElem? (i := 436) (by decide +kernel), List.mem_of_getElem? (i := 632) (by decide +kernel), List.mem_of_getElem? (i := 633) (by decide +kernel)⟩
theorem lw_p33 : lw_okq (⟨"TextMarksModel", "runs", "()I"⟩, 31) := ⟨⟨by decide +kernel, by decide +kernel⟩, List.mem_of_getElem? (i := 436) (by decide +kernel), List.mem_of_getElem? (i := 656) (by decide +kernel), List.mem_of_getElem? (i := 657) (by decide +kernel)⟩
theorem lw_p34 : lw_okq (⟨"TextMarksModel", "findRun", "(I)I"⟩, 31) := ⟨⟨by decide +kernel, by decide +kernel⟩, List.mem_of_getElem? (i := 436) (by decide +kernel), List.mem_of_getElem? (i := 660) (by decide +kernel), List.mem_of_getElem? (i := 661) (by decide +kernel)⟩
theorem lw_p35 : lw_okq (⟨"TextMarksModel", "areAlike", "(II)Z"⟩, 31) := ⟨⟨by decide +kernel, by decide +kernel⟩, List.mem_of_getElem? (i := 436) (by decide +kernel), List.mem_of_getElem? (i := 664) (by decide +kernel), List.mem_of_getElem? (i := 665) (by decide +kernel)⟩
theorem lw_p36 : lw_okq (⟨"TextMarksModel", "lying", "(II)I"⟩, 31) := ⟨⟨by decide +kernel, by decide +kernel⟩, List.mem_of_getElem? (i := 436) (by decide +kernel), List.mem_of_getElem? (i := 672) (by decide +kernel), List.mem_of_getElem? (i := 673) (by decide +kernel)⟩
theorem lw_p37 : lw_okq (⟨"TextMarksModel", "kindOf", "(II)I"⟩, 31) := ⟨⟨by decide +kernel, by decide +kernel⟩, List.mem_of_getElem? (i := 436) (by decide +kernel), List.mem_of_getElem? (i := 680) (by decide +kernel), List.mem_of_getElem? (i := 681) (by decide +kernel)⟩
theorem lw_p38 : lw_okq (⟨"TextMarksModel", "keep", "(I)V"⟩, 31) := ⟨⟨by decide +kernel, by decide +kernel⟩, List.mem_of_getElem? (i := 436) (by decide +kernel), List.mem_of_getElem? (i := 692) (by decide +kernel), List.mem_of_getElem? (i := 693) (by decide +kernel)⟩
theorem lw_p39 : lw_okq (⟨"TextMarksModel", "paragraphs", "()I"⟩, 31) := ⟨⟨by decide +kernel, by decide +kernel⟩, List.mem_of_getElem? (i := 436) (by decide +kernel), List.mem_of_getElem? (i := 696) (by decide +kernel), List.mem_of_getElem? (i := 697) (by decide +kernel)⟩
theorem lw_p40 : lw_okq (⟨"TextMarksModel", "kindAt", "(II)I"⟩, 31) := ⟨⟨by decide +kernel, by decide +kernel⟩, List.mem_of_getElem? (i := 436) (by decide +kernel), List.mem_of_getElem? (i := 700) (by decide +kernel), List.mem_of_getElem? (i := 701) (by decide +kernel)⟩
theorem lw_p41 : lw_okq (⟨"TextMarksModel", "units", "()I"⟩, 31) := ⟨⟨by decide +kernel, by decide +kernel⟩, List.mem_of_getElem? (i := 436) (by decide +kernel), List.mem_of_getElem? (i := 708) (by decide +kernel), List.mem_of_getElem? (i := 709) (by decide +kernel)⟩
theorem lw_p42 : lw_okq (⟨"TextMarksModel", "knownRows", "(I)I"⟩, 31) := ⟨⟨by decide +kernel, by decide +kernel⟩, List.mem_of_getElem? (i := 436) (by decide +kernel), List.mem_of_getElem? (i := 712) (by decide +kernel), List.mem_of_getElem? (i := 713) (by decide +kernel)⟩
def lw_privs_3 : List (MethodName × Nat) := [(⟨"TextMarksModel", "isSeen", "(II)Z"⟩, 31), (⟨"TextMarksModel", "runs", "()I"⟩, 31), (⟨"TextMarksModel", "findRun", "(I)I"⟩, 31), (⟨"TextMarksModel", "areAlike", "(II)Z"⟩, 31), (⟨"TextMarksModel", "lying", "(II)I"⟩, 31), (⟨"TextMarksModel", "kindOf", "(II)I"⟩, 31), (⟨"TextMarksModel", "keep", "(I)V"⟩, 31), (⟨"TextMarksModel", "paragraphs", "()I"⟩, 31), (⟨"TextMarksModel", "kindAt", "(II)I"⟩, 31), (⟨"TextMarksModel", "units", "()I"⟩, 31), (⟨"TextMarksModel", "knownRows", "(I)I"⟩, 31)]
theorem lw_r3 : ∀ q ∈ lw_privs_3, lw_okq q := List.forall_mem_cons.mpr ⟨lw_p32, List.forall_mem_cons.mpr ⟨lw_p33, List.forall_mem_cons.mpr ⟨lw_p34, List.forall_mem_cons.mpr ⟨lw_p35, List.forall_mem_cons.mpr ⟨lw_p36, List.forall_mem_cons.mpr ⟨lw_p37, List.forall_mem_cons.mpr ⟨lw_p38, List.forall_mem_cons.mpr ⟨lw_p39, List.forall_mem_cons.mpr ⟨lw_p40, List.forall_mem_cons.mpr ⟨lw_p41, List.forall_mem_cons.mpr ⟨lw_p42, fun _ h => absurd h List.not_mem_nil⟩⟩⟩⟩⟩⟩⟩⟩⟩⟩⟩
def lw_privs : List (MethodName × Nat) := lw_privs_1 ++ (lw_privs_2 ++ (lw_privs_3))
def lw_tbl : List Cond := k2_sels lw_privs ++ tables_1
theorem lw_privs_ok : ∀ q ∈ lw_privs, lw_okq q := by
  show ∀ q ∈ lw_privs_1 ++ (lw_privs_2 ++ (lw_privs_3)), lw_okq q
  exact List.forall_mem_append.mpr ⟨lw_r1, List.forall_mem_append.mpr ⟨lw_r2, lw_r3⟩⟩
-- ===== end of PART A =====
def tm_C0 : String := "TextMarks$Node"
def tm_T0 : u_T := fun k => match k with
  | 0 => ("TextMarks$Node", "knowing", "[Z", true)
  | 1 => ("TextMarks$Node", "known", "I", false)
  | _ => ("TextMarks$Node", "time", "I", false)
def tm_D0 : Nat → FieldType := fun k => match k with
  | 0 => .array .boolean
  | 1 => .int
  | _ => .int
theorem tm_nm0 : ∀ a, a < 3 → ∀ b, b < 3 → a ≠ b → (tm_T0 a).2.1 ≠ (tm_T0 b).2.1 := by decide +kernel
theorem tm_ty0 : ∀ k, k < 3 → parseFieldDescriptor (tm_T0 k).2.2.1 = some (tm_D0 k) := by decide +kernel
def tm_C1 : String := "TextMarks$Rows"
def tm_T1 : u_T := fun k => match k with
  | 0 => ("TextMarks$Rows", "count", "I", false)
  | 1 => ("TextMarks$Rows", "cells", "[I", true)
  | 2 => ("TextMarks$Rows", "undos", "[I", true)
  | 3 => ("TextMarks$Rows", "inOrder", "[I", true)
  | 4 => ("TextMarks$Rows", "places", "[I", true)
  | _ => ("TextMarks$Rows", "placeCount", "I", false)
def tm_D1 : Nat → FieldType := fun k => match k with
  | 0 => .int
  | 1 => .array .int
  | 2 => .array .int
  | 3 => .array .int
  | 4 => .array .int
  | _ => .int
theorem tm_nm1 : ∀ a, a < 6 → ∀ b, b < 6 → a ≠ b → (tm_T1 a).2.1 ≠ (tm_T1 b).2.1 := by decide +kernel
theorem tm_ty1 : ∀ k, k < 6 → parseFieldDescriptor (tm_T1 k).2.2.1 = some (tm_D1 k) := by decide +kernel
def tm_C2 : String := "TextMarks$View"
def tm_T2 : u_T := fun k => match k with
  | 0 => ("TextMarks$View", "size", "I", false)
  | 1 => ("TextMarks$View", "inserts", "[I", true)
  | 2 => ("TextMarks$View", "signs", "[I", true)
  | 3 => ("TextMarks$View", "looks", "[I", true)
  | 4 => ("TextMarks$View", "good", "[Z", true)
  | 5 => ("TextMarks$View", "seen", "[Z", true)
  | 6 => ("TextMarks$View", "ahead", "[I", true)
  | _ => ("TextMarks$View", "kinds", "[I", true)
def tm_D2 : Nat → FieldType := fun k => match k with
  | 0 => .int
  | 1 => .array .int
  | 2 => .array .int
  | 3 => .array .int
  | 4 => .array .boolean
  | 5 => .array .boolean
  | 6 => .array .int
  | _ => .array .int
theorem tm_nm2 : ∀ a, a < 8 → ∀ b, b < 8 → a ≠ b → (tm_T2 a).2.1 ≠ (tm_T2 b).2.1 := by decide +kernel
theorem tm_ty2 : ∀ k, k < 8 → parseFieldDescriptor (tm_T2 k).2.2.1 = some (tm_D2 k) := by decide +kernel
def tm_C3 : String := "TextMarks"
def tm_T3 : u_T := fun k => match k with
  | 0 => ("TextMarks", "rows", "LTextMarks$Rows;", true)
  | 1 => ("TextMarks", "nodes", "[LTextMarks$Node;", true)
  | 2 => ("TextMarks", "view", "LTextMarks$View;", true)
  | _ => ("TextMarks", "otherView", "LTextMarks$View;", true)
def tm_D3 : Nat → FieldType := fun k => match k with
  | 0 => .object "TextMarks$Rows"
  | 1 => .array (.object "TextMarks$Node")
  | 2 => .object "TextMarks$View"
  | _ => .object "TextMarks$View"
theorem tm_nm3 : ∀ a, a < 4 → ∀ b, b < 4 → a ≠ b → (tm_T3 a).2.1 ≠ (tm_T3 b).2.1 := by decide +kernel
theorem tm_ty3 : ∀ k, k < 4 → parseFieldDescriptor (tm_T3 k).2.2.1 = some (tm_D3 k) := by decide +kernel
def tm_C4 : String := "TextMarksModel"
def tm_T4 : u_T := fun k => match k with
  | 0 => ("TextMarksModel", "thrown", "I", false)
  | 1 => ("TextMarksModel", "rows", "I", false)
  | 2 => ("TextMarksModel", "sort", "[I", true)
  | 3 => ("TextMarksModel", "who", "[I", true)
  | 4 => ("TextMarksModel", "time", "[I", true)
  | 5 => ("TextMarksModel", "what", "[I", true)
  | 6 => ("TextMarksModel", "value", "[I", true)
  | 7 => ("TextMarksModel", "first", "[I", true)
  | 8 => ("TextMarksModel", "second", "[I", true)
  | 9 => ("TextMarksModel", "knows", "[Z", true)
  | 10 => ("TextMarksModel", "clock", "[I", true)
  | 11 => ("TextMarksModel", "seenBy", "I", false)
  | 12 => ("TextMarksModel", "good", "[Z", true)
  | 13 => ("TextMarksModel", "places", "I", false)
  | 14 => ("TextMarksModel", "place", "[I", true)
  | 15 => ("TextMarksModel", "where", "[I", true)
  | 16 => ("TextMarksModel", "ahead", "[I", true)
  | 17 => ("TextMarksModel", "seen", "I", false)
  | 18 => ("TextMarksModel", "at", "[I", true)
  | 19 => ("TextMarksModel", "styled", "[I", true)
  | 20 => ("TextMarksModel", "orders", "I", false)
  | 21 => ("TextMarksModel", "order", "[I", true)
  | 22 => ("TextMarksModel", "runFrom", "I", false)
  | 23 => ("TextMarksModel", "runTo", "I", false)
  | 24 => ("TextMarksModel", "oldSeen", "I", false)
  | 25 => ("TextMarksModel", "oldSign", "[I", true)
  | 26 => ("TextMarksModel", "oldStyle", "[I", true)
  | 27 => ("TextMarksModel", "oldFrom", "[I", true)
  | 28 => ("TextMarksModel", "oldTo", "[I", true)
  | 29 => ("TextMarksModel", "oldParagraphs", "I", false)
  | _ => ("TextMarksModel", "oldKind", "[I", true)
def tm_D4 : Nat → FieldType := fun k => match k with
  | 0 => .int
  | 1 => .int
  | 2 => .array .int
  | 3 => .array .int
  | 4 => .array .int
  | 5 => .array .int
  | 6 => .array .int
  | 7 => .array .int
  | 8 => .array .int
  | 9 => .array .boolean
  | 10 => .array .int
  | 11 => .int
  | 12 => .array .boolean
  | 13 => .int
  | 14 => .array .int
  | 15 => .array .int
  | 16 => .array .int
  | 17 => .int
  | 18 => .array .int
  | 19 => .array .int
  | 20 => .int
  | 21 => .array .int
  | 22 => .int
  | 23 => .int
  | 24 => .int
  | 25 => .array .int
  | 26 => .array .int
  | 27 => .array .int
  | 28 => .array .int
  | 29 => .int
  | _ => .array .int
theorem tm_nm4 : ∀ a, a < 31 → ∀ b, b < 31 → a ≠ b → (tm_T4 a).2.1 ≠ (tm_T4 b).2.1 := by decide +kernel
theorem tm_ty4 : ∀ k, k < 31 → parseFieldDescriptor (tm_T4 k).2.2.1 = some (tm_D4 k) := by decide +kernel
abbrev vwCl : List vw_C := [(tm_C0, tm_T0, 3), (tm_C1, tm_T1, 6), (tm_C2, tm_T2, 8), (tm_C3, tm_T3, 4), (tm_C4, tm_T4, 31)]
def tm_Fl : List (List Bool) := [[true, false, false], [false, true, true, true, true, false], [false, true, true, true, true, true, true, true], [true, true, true, true], [false, false, true, true, true, true, true, true, true, true, true, false, true, false, true, true, true, false, true, true, false, true, false, false, false, true, true, true, true, false, true]]
def tm_F (c : Nat) : List Bool := tm_Fl.getD c []
def tm_T : List (Nat × FieldType) := [(1, .int), (2, .boolean), (3, .object "TextMarks$Node")]
def tm_law : Nat := 0
def tm_yl : List MethodName := [⟨"TextMarksLaw", "law", "([I)Z"⟩, ⟨"TextMarks", "<init>", "()V"⟩, ⟨"TextMarks", "insert", "(III)I"⟩, ⟨"TextMarks", "delete", "(II)I"⟩, ⟨"TextMarks", "style", "(IIIII)I"⟩, ⟨"TextMarks", "comment", "(III)I"⟩, ⟨"TextMarks", "block", "(III)I"⟩, ⟨"TextMarks", "undo", "(II)I"⟩, ⟨"TextMarks", "see", "(II)Z"⟩, ⟨"TextMarks", "meet", "(II)I"⟩, ⟨"TextMarks", "sign", "(II)I"⟩, ⟨"TextMarks", "id", "(II)I"⟩, ⟨"TextMarks", "unit", "(II)I"⟩, ⟨"TextMarks", "styled", "(III)I"⟩, ⟨"TextMarks", "run", "(III)I"⟩, ⟨"TextMarks", "lies", "(III)I"⟩, ⟨"TextMarks", "paragraph", "(III)I"⟩, ⟨"TextMarks", "row", "(II)I"⟩, ⟨"TextMarks", "alike", "(II)Z"⟩, ⟨"TextMarks", "total", "(II)I"⟩, ⟨"TextMarks", "nodeOf", "(I)LTextMarks$Node;"⟩, ⟨"TextMarks", "isSign", "(I)Z"⟩, ⟨"TextMarks", "isKey", "(I)Z"⟩, ⟨"TextMarks", "grows", "(I)Z"⟩, ⟨"TextMarks", "shows", "(I)Z"⟩, ⟨"TextMarks", "write", "(IIIIII)I"⟩, ⟨"TextMarks", "knowsNeeds", "(LTextMarks$Node;I)Z"⟩, ⟨"TextMarks", "placesOf", "(LTextMarks$Node;)I"⟩, ⟨"TextMarks", "commentFrom", "(LTextMarks$View;I)I"⟩, ⟨"TextMarks", "commentTo", "(LTextMarks$View;I)I"⟩, ⟨"TextMarks", "showAll", "(LTextMarks$View;LTextMarks$Node;)V"⟩, ⟨"TextMarks", "haveSameComments", "()Z"⟩, ⟨"TextMarks", "isSameComment", "(I)Z"⟩, ⟨"TextMarksModel", "<init>", "()V"⟩, ⟨"TextMarksModel", "within", "(III)Z"⟩, ⟨"TextMarksModel", "knowsRow", "(II)Z"⟩, ⟨"TextMarksModel", "isBefore", "(II)Z"⟩, ⟨"TextMarksModel", "judge", "(I)V"⟩, ⟨"TextMarksModel", "findOrder", "(II)V"⟩, ⟨"TextMarksModel", "findPlaces", "(I)V"⟩, ⟨"TextMarksModel", "isDeleted", "(I)Z"⟩, ⟨"TextMarksModel", "covers", "(II)Z"⟩, ⟨"TextMarksModel", "findStyles", "(I)V"⟩, ⟨"TextMarksModel", "look", "(I)V"⟩, ⟨"TextMarksModel", "isNode", "(I)Z"⟩, ⟨"TextMarksModel", "add", "(IIIIII)I"⟩, ⟨"TextMarksModel", "isSign", "(I)Z"⟩, ⟨"TextMarksModel", "insert", "(III)I"⟩, ⟨"TextMarksModel", "delete", "(II)I"⟩, ⟨"TextMarksModel", "style", "(IIIII)I"⟩, ⟨"TextMarksModel", "comment", "(III)I"⟩, ⟨"TextMarksModel", "startOf", "(I)I"⟩, ⟨"TextMarksModel", "block", "(III)I"⟩, ⟨"TextMarksModel", "undo", "(II)I"⟩, ⟨"TextMarksModel", "learn", "(II)V"⟩, ⟨"TextMarksModel", "see", "(II)Z"⟩, ⟨"TextMarksModel", "meet", "(II)I"⟩, ⟨"TextMarksModel", "isSeen", "(II)Z"⟩, ⟨"TextMarksModel", "sign", "(II)I"⟩, ⟨"TextMarksModel", "id", "(II)I"⟩, ⟨"TextMarksModel", "unit", "(II)I"⟩, ⟨"TextMarksModel", "styled", "(III)I"⟩, ⟨"TextMarksModel", "areAlike", "(II)Z"⟩, ⟨"TextMarksModel", "findRun", "(I)I"⟩, ⟨"TextMarksModel", "run", "(III)I"⟩, ⟨"TextMarksModel", "runs", "()I"⟩, ⟨"TextMarksModel", "lies", "(III)I"⟩, ⟨"TextMarksModel", "lying", "(II)I"⟩, ⟨"TextMarksModel", "kindOf", "(II)I"⟩, ⟨"TextMarksModel", "paragraph", "(III)I"⟩, ⟨"TextMarksModel", "row", "(II)I"⟩, ⟨"TextMarksModel", "paragraphs", "()I"⟩, ⟨"TextMarksModel", "kindAt", "(II)I"⟩, ⟨"TextMarksModel", "keep", "(I)V"⟩, ⟨"TextMarksModel", "alike", "(II)Z"⟩, ⟨"TextMarksModel", "units", "()I"⟩, ⟨"TextMarksModel", "knownRows", "(I)I"⟩, ⟨"TextMarksModel", "total", "(II)I"⟩, ⟨"TextMarks$Node", "<init>", "()V"⟩, ⟨"TextMarks$Node", "known", "()I"⟩, ⟨"TextMarks$Node", "time", "()I"⟩, ⟨"TextMarks$Node", "knows", "(I)Z"⟩, ⟨"TextMarks$Node", "learn", "(II)V"⟩, ⟨"TextMarks$Rows", "<init>", "()V"⟩, ⟨"TextMarks$Rows", "count", "()I"⟩, ⟨"TextMarks$Rows", "has", "(I)Z"⟩, ⟨"TextMarks$Rows", "cell", "(II)I"⟩, ⟨"TextMarks$Rows", "undoOf", "(I)I"⟩, ⟨"TextMarks$Rows", "inOrderAt", "(I)I"⟩, ⟨"TextMarks$Rows", "placeCount", "()I"⟩, ⟨"TextMarks$Rows", "placeAt", "(I)I"⟩, ⟨"TextMarks$Rows", "add", "(IIIIIII)I"⟩, ⟨"TextMarks$Rows", "isLater", "(II)Z"⟩, ⟨"TextMarks$Rows", "fileInOrder", "(I)V"⟩, ⟨"TextMarks$Rows", "fileInPlaces", "(II)V"⟩, ⟨"TextMarks$Rows", "firstPlaceBehind", "(I)I"⟩, ⟨"TextMarks$View", "<init>", "()V"⟩, ⟨"TextMarks$View", "show", "(LTextMarks$Rows;LTextMarks$Node;)V"⟩, ⟨"TextMarks$View", "markGoodAndSeen", "(LTextMarks$Rows;LTextMarks$Node;)V"⟩, ⟨"TextMarks$View", "hide", "(I)V"⟩, ⟨"TextMarks$View", "size", "()I"⟩, ⟨"TextMarks$View", "isGood", "(I)Z"⟩, ⟨"TextMarks$View", "hasPlace", "(I)Z"⟩, ⟨"TextMarks$View", "hasRange", "(II)Z"⟩, ⟨"TextMarks$View", "insertAt", "(I)I"⟩, ⟨"TextMarks$View", "signAt", "(I)I"⟩, ⟨"TextMarks$View", "aheadOf", "(I)I"⟩, ⟨"TextMarks$View", "aheadBehind", "(I)I"⟩, ⟨"TextMarks$View", "unitCount", "()I"⟩, ⟨"TextMarks$View", "unitAt", "(I)I"⟩, ⟨"TextMarks$View", "widthOf", "(I)I"⟩, ⟨"TextMarks$View", "partOf", "(II)I"⟩, ⟨"TextMarks$View", "paint", "(LTextMarks$Rows;)V"⟩, ⟨"TextMarks$View", "paintOne", "(LTextMarks$Rows;I)V"⟩, ⟨"TextMarks$View", "endOf", "(II)I"⟩, ⟨"TextMarks$View", "valueAt", "(II)I"⟩, ⟨"TextMarks$View", "startsRun", "(I)Z"⟩, ⟨"TextMarks$View", "runCount", "()I"⟩, ⟨"TextMarks$View", "runStart", "(I)I"⟩, ⟨"TextMarks$View", "runEnd", "(I)I"⟩, ⟨"TextMarks$View", "paragraphCount", "()I"⟩, ⟨"TextMarks$View", "paragraphStart", "(I)I"⟩, ⟨"TextMarks$View", "paragraphEnd", "(I)I"⟩, ⟨"TextMarks$View", "tellKinds", "(LTextMarks$Rows;)V"⟩, ⟨"TextMarks$View", "keepKind", "(II)V"⟩, ⟨"TextMarks$View", "kindFrom", "(I)I"⟩, ⟨"TextMarks$View", "hasSameText", "(LTextMarks$View;)Z"⟩, ⟨"TextMarks$View", "hasSameKinds", "(LTextMarks$View;)Z"⟩]
def tm_y (j : Nat) : MethodName := tm_yl.getD j ⟨"", "", ""⟩
def tm_cl : List ByteArray := [code, prog_1_method_1_code, prog_1_method_2_code, prog_1_method_3_code, prog_1_method_4_code, prog_1_method_5_code, prog_1_method_6_code, prog_1_method_7_code, prog_1_method_8_code, prog_1_method_9_code, prog_1_method_10_code, prog_1_method_11_code, prog_1_method_12_code, prog_1_method_13_code, prog_1_method_14_code, prog_1_method_15_code, prog_1_method_16_code, prog_1_method_17_code, prog_1_method_18_code, prog_1_method_19_code, prog_1_method_20_code, prog_1_method_21_code, prog_1_method_22_code, prog_1_method_23_code, prog_1_method_24_code, prog_1_method_25_code, prog_1_method_26_code, prog_1_method_27_code, prog_1_method_28_code, prog_1_method_29_code, prog_1_method_30_code, prog_1_method_31_code, prog_1_method_32_code, prog_6_method_1_code, prog_6_method_3_code, prog_6_method_4_code, prog_6_method_5_code, prog_6_method_6_code, prog_6_method_7_code, prog_6_method_8_code, prog_6_method_9_code, prog_6_method_10_code, prog_6_method_11_code, prog_6_method_12_code, prog_6_method_13_code, prog_6_method_14_code, prog_6_method_15_code, prog_6_method_16_code, prog_6_method_17_code, prog_6_method_18_code, prog_6_method_19_code, prog_6_method_20_code, prog_6_method_21_code, prog_6_method_22_code, prog_6_method_23_code, prog_6_method_24_code, prog_6_method_25_code, prog_6_method_26_code, prog_6_method_27_code, prog_6_method_28_code, prog_6_method_29_code, prog_6_method_30_code, prog_6_method_31_code, prog_6_method_32_code, prog_6_method_33_code, prog_6_method_34_code, prog_6_method_35_code, prog_6_method_36_code, prog_6_method_37_code, prog_6_method_38_code, prog_6_method_39_code, prog_6_method_40_code, prog_6_method_41_code, prog_6_method_42_code, prog_6_method_43_code, prog_6_method_44_code, prog_6_method_45_code, prog_6_method_46_code, prog_2_method_1_code, prog_2_method_2_code, prog_2_method_3_code, prog_2_method_4_code, prog_2_method_5_code, prog_3_method_1_code, prog_3_method_2_code, prog_3_method_3_code, prog_3_method_4_code, prog_3_method_5_code, prog_3_method_6_code, prog_3_method_7_code, prog_3_method_8_code, prog_3_method_9_code, prog_3_method_10_code, prog_3_method_11_code, prog_3_method_12_code, prog_3_method_13_code, prog_4_method_1_code, prog_4_method_2_code, prog_4_method_3_code, prog_4_method_4_code, prog_4_method_5_code, prog_4_method_6_code, prog_4_method_7_code, prog_4_method_8_code, prog_4_method_9_code, prog_4_method_10_code, prog_4_method_11_code, prog_4_method_12_code, prog_4_method_13_code, prog_4_method_14_code, prog_4_method_15_code, prog_4_method_16_code, prog_4_method_17_code, prog_4_method_18_code, prog_4_method_19_code, prog_4_method_20_code, prog_4_method_21_code, prog_4_method_22_code, prog_4_method_23_code, prog_4_method_24_code, prog_4_method_25_code, prog_4_method_26_code, prog_4_method_27_code, prog_4_method_28_code, prog_4_method_29_code, prog_4_method_30_code, prog_4_method_31_code, prog_4_method_32_code]
def tm_c (j : Nat) : ByteArray := tm_cl.getD j ⟨#[]⟩
def tm_ll : List Nat := [4, 2, 4, 3, 7, 4, 5, 3, 4, 7, 3, 3, 3, 4, 5, 4, 5, 3, 5, 4, 2, 1, 1, 1, 3, 10, 5, 4, 3, 3, 3, 2, 2, 1, 3, 3, 3, 3, 5, 6, 3, 6, 5, 4, 1, 7, 1, 4, 3, 7, 4, 4, 5, 3, 3, 3, 5, 3, 3, 3, 7, 4, 4, 3, 4, 1, 4, 5, 5, 6, 3, 3, 4, 4, 5, 3, 4, 3, 1, 1, 1, 2, 3, 1, 1, 2, 3, 2, 2, 1, 2, 9, 5, 3, 5, 3, 1, 5, 5, 2, 1, 2, 2, 3, 2, 2, 2, 3, 3, 5, 1, 3, 4, 9, 3, 3, 2, 3, 4, 3, 3, 4, 3, 4, 3, 3, 3, 3]
def tm_l (j : Nat) : Nat := tm_ll.getD j 0
def tm_rl : List (Option FieldType) := [some .boolean, none, some .int, some .int, some .int, some .int, some .int, some .int, some .boolean, some .int, some .int, some .int, some .int, some .int, some .int, some .int, some .int, some .int, some .boolean, some .int, some (.object "TextMarks$Node"), some .boolean, some .boolean, some .boolean, some .boolean, some .int, some .boolean, some .int, some .int, some .int, none, some .boolean, some .boolean, none, some .boolean, some .boolean, some .boolean, none, none, none, some .boolean, some .boolean, none, none, some .boolean, some .int, some .boolean, some .int, some .int, some .int, some .int, some .int, some .int, some .int, none, some .boolean, some .int, some .boolean, some .int, some .int, some .int, some .int, some .boolean, some .int, some .int, some .int, some .int, some .int, some .int, some .int, some .int, some .int, some .int, none, some .boolean, some .int, some .int, some .int, none, some .int, some .int, some .boolean, none, none, some .int, some .boolean, some .int, some .int, some .int, some .int, some .int, some .int, some .boolean, none, none, some .int, none, none, none, none, some .int, some .boolean, some .boolean, some .boolean, some .int, some .int, some .int, some .int, some .int, some .int, some .int, some .int, none, none, some .int, some .int, some .boolean, some .int, some .int, some .int, some .int, some .int, some .int, none, none, some .int, some .boolean, some .boolean]
def tm_r (j : Nat) : Option FieldType := tm_rl.getD j none
def tm_fl : List Nat := [7, 2, 6, 6, 6, 6, 6, 6, 3, 2, 5, 5, 5, 5, 5, 5, 5, 2, 6, 5, 0, 0, 0, 0, 4, 5, 2, 1, 2, 3, 5, 5, 4, 1, 0, 0, 0, 1, 1, 2, 0, 0, 2, 3, 1, 0, 1, 4, 4, 4, 4, 0, 4, 4, 0, 2, 2, 4, 5, 5, 4, 5, 0, 1, 4, 2, 4, 0, 1, 4, 1, 0, 2, 4, 5, 0, 1, 4, 1, 0, 0, 0, 1, 1, 0, 0, 1, 1, 0, 0, 0, 4, 2, 3, 3, 0, 1, 3, 2, 0, 0, 0, 0, 0, 1, 1, 0, 1, 1, 1, 0, 0, 4, 3, 2, 1, 0, 1, 1, 1, 0, 0, 0, 2, 0, 2, 0, 3]
def tm_f (j : Nat) : Nat := tm_fl.getD j 0
def tm_ol : List Nat := [174, 41, 148, 148, 148, 148, 148, 148, 67, 43, 113, 113, 113, 116, 116, 113, 113, 43, 138, 116, 0, 0, 0, 0, 91, 119, 43, 21, 43, 65, 116, 108, 87, 21, 0, 0, 0, 22, 22, 46, 0, 0, 46, 71, 22, 0, 22, 94, 94, 94, 94, 0, 94, 94, 0, 42, 42, 94, 116, 116, 94, 116, 0, 23, 94, 45, 94, 0, 22, 94, 22, 0, 46, 94, 117, 0, 22, 94, 21, 0, 0, 0, 21, 21, 0, 0, 21, 21, 0, 0, 0, 91, 43, 67, 67, 0, 21, 67, 43, 0, 0, 0, 0, 0, 21, 21, 0, 21, 20, 22, 0, 0, 93, 65, 43, 21, 0, 21, 21, 21, 0, 0, 0, 43, 0, 42, 0, 64]
def tm_o (j : Nat) : Nat := tm_ol.getD j 0
