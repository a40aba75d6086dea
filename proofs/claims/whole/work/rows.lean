section
-- ===== PART A: goes FIRST, ahead of the names: the tables' words, and 'selects' of the private methods out of them =====
/-- a private method of a class that the tables say can be made, by its rows of tables_1 -/
def lw_okq (q : MethodName × Nat) : Prop := (q.1.cls ≠ "java/lang/invoke/MethodHandle" ∧ q.1.cls ≠ "java/lang/invoke/VarHandle") ∧ Cond.instantiable q.1.cls q.2 ∈ tables_1 ∧ Cond.privateMethod q.1 ∈ tables_1 ∧ Cond.instanceMethod q.1 ∈ tables_1
theorem lw_p0 : lw_okq (⟨"TextMarks", "shows", "(I)Z"⟩, 4) := ⟨⟨by decide +kernel, by decide +kernel⟩, List.mem_of_getElem? (i := 8) (by decide +kernel), List.mem_of_getElem? (i := 114) (by decide +kernel), List.mem_of_getElem? (i := 115) (by decide +kernel)⟩
theorem lw_p1 : lw_okq (⟨"TextMarks", "nodeOf", "(I)LTextMarks$Node;"⟩, 4) := ⟨⟨by decide +kernel, by decide +kernel⟩, List.mem_of_getElem? (i := 8) (by decide +kernel), List.mem_of_getElem? (i := 118) (by decide +kernel), List.mem_of_getElem? (i := 119) (by decide +kernel)⟩
theorem lw_p2 : lw_okq (⟨"TextMarks$View", "markGoodAndSeen", "(LTextMarks$Rows;LTextMarks$Node;)V"⟩, 8) := ⟨⟨by decide +kernel, by decide +kernel⟩, List.mem_of_getElem? (i := 60) (by decide +kernel), List.mem_of_getElem? (i := 126) (by decide +kernel), List.mem_of_getElem? (i := 127) (by decide +kernel)⟩
theorem lw_p3 : lw_okq (⟨"TextMarks$View", "hide", "(I)V"⟩, 8) := ⟨⟨by decide +kernel, by decide +kernel⟩, List.mem_of_getElem? (i := 60) (by decide +kernel), List.mem_of_getElem? (i := 150) (by decide +kernel), List.mem_of_getElem? (i := 151) (by decide +kernel)⟩
theorem lw_p4 : lw_okq (⟨"TextMarks", "write", "(IIIIII)I"⟩, 4) := ⟨⟨by decide +kernel, by decide +kernel⟩, List.mem_of_getElem? (i := 8) (by decide +kernel), List.mem_of_getElem? (i := 174) (by decide +kernel), List.mem_of_getElem? (i := 175) (by decide +kernel)⟩
theorem lw_p5 : lw_okq (⟨"TextMarks$Rows", "fileInOrder", "(I)V"⟩, 6) := ⟨⟨by decide +kernel, by decide +kernel⟩, List.mem_of_getElem? (i := 16) (by decide +kernel), List.mem_of_getElem? (i := 186) (by decide +kernel), List.mem_of_getElem? (i := 187) (by decide +kernel)⟩
theorem lw_p6 : lw_okq (⟨"TextMarks$Rows", "isLater", "(II)Z"⟩, 6) := ⟨⟨by decide +kernel, by decide +kernel⟩, List.mem_of_getElem? (i := 16) (by decide +kernel), List.mem_of_getElem? (i := 190) (by decide +kernel), List.mem_of_getElem? (i := 191) (by decide +kernel)⟩
theorem lw_p7 : lw_okq (⟨"TextMarks$Rows", "fileInPlaces", "(II)V"⟩, 6) := ⟨⟨by decide +kernel, by decide +kernel⟩, List.mem_of_getElem? (i := 16) (by decide +kernel), List.mem_of_getElem? (i := 195) (by decide +kernel), List.mem_of_getElem? (i := 196) (by decide +kernel)⟩
theorem lw_p8 : lw_okq (⟨"TextMarks$Rows", "firstPlaceBehind", "(I)I"⟩, 6) := ⟨⟨by decide +kernel, by decide +kernel⟩, List.mem_of_getElem? (i := 16) (by decide +kernel), List.mem_of_getElem? (i := 199) (by decide +kernel), List.mem_of_getElem? (i := 200) (by decide +kernel)⟩
theorem lw_p9 : lw_okq (⟨"TextMarks", "knowsNeeds", "(LTextMarks$Node;I)Z"⟩, 4) := ⟨⟨by decide +kernel, by decide +kernel⟩, List.mem_of_getElem? (i := 8) (by decide +kernel), List.mem_of_getElem? (i := 253) (by decide +kernel), List.mem_of_getElem? (i := 254) (by decide +kernel)⟩
theorem lw_p10 : lw_okq (⟨"TextMarks$View", "paintOne", "(LTextMarks$Rows;I)V"⟩, 8) := ⟨⟨by decide +kernel, by decide +kernel⟩, List.mem_of_getElem? (i := 60) (by decide +kernel), List.mem_of_getElem? (i := 307) (by decide +kernel), List.mem_of_getElem? (i := 308) (by decide +kernel)⟩
theorem lw_p11 : lw_okq (⟨"TextMarks$View", "endOf", "(II)I"⟩, 8) := ⟨⟨by decide +kernel, by decide +kernel⟩, List.mem_of_getElem? (i := 60) (by decide +kernel), List.mem_of_getElem? (i := 311) (by decide +kernel), List.mem_of_getElem? (i := 312) (by decide +kernel)⟩
theorem lw_p12 : lw_okq (⟨"TextMarks$View", "startsRun", "(I)Z"⟩, 8) := ⟨⟨by decide +kernel, by decide +kernel⟩, List.mem_of_getElem? (i := 60) (by decide +kernel), List.mem_of_getElem? (i := 336) (by decide +kernel), List.mem_of_getElem? (i := 337) (by decide +kernel)⟩
theorem lw_p13 : lw_okq (⟨"TextMarks", "commentFrom", "(LTextMarks$View;I)I"⟩, 4) := ⟨⟨by decide +kernel, by decide +kernel⟩, List.mem_of_getElem? (i := 8) (by decide +kernel), List.mem_of_getElem? (i := 349) (by decide +kernel), List.mem_of_getElem? (i := 350) (by decide +kernel)⟩
theorem lw_p14 : lw_okq (⟨"TextMarks", "commentTo", "(LTextMarks$View;I)I"⟩, 4) := ⟨⟨by decide +kernel, by decide +kernel⟩, List.mem_of_getElem? (i := 8) (by decide +kernel), List.mem_of_getElem? (i := 354) (by decide +kernel), List.mem_of_getElem? (i := 355) (by decide +kernel)⟩
theorem lw_p15 : lw_okq (⟨"TextMarks$View", "keepKind", "(II)V"⟩, 8) := ⟨⟨by decide +kernel, by decide +kernel⟩, List.mem_of_getElem? (i := 60) (by decide +kernel), List.mem_of_getElem? (i := 372) (by decide +kernel), List.mem_of_getElem? (i := 373) (by decide +kernel)⟩
def lw_privs_1 : List (MethodName × Nat) := [(⟨"TextMarks", "shows", "(I)Z"⟩, 4), (⟨"TextMarks", "nodeOf", "(I)LTextMarks$Node;"⟩, 4), (⟨"TextMarks$View", "markGoodAndSeen", "(LTextMarks$Rows;LTextMarks$Node;)V"⟩, 8), (⟨"TextMarks$View", "hide", "(I)V"⟩, 8), (⟨"TextMarks", "write", "(IIIIII)I"⟩, 4), (⟨"TextMarks$Rows", "fileInOrder", "(I)V"⟩, 6), (⟨"TextMarks$Rows", "isLater", "(II)Z"⟩, 6), (⟨"TextMarks$Rows", "fileInPlaces", "(II)V"⟩, 6), (⟨"TextMarks$Rows", "firstPlaceBehind", "(I)I"⟩, 6), (⟨"TextMarks", "knowsNeeds", "(LTextMarks$Node;I)Z"⟩, 4), (⟨"TextMarks$View", "paintOne", "(LTextMarks$Rows;I)V"⟩, 8), (⟨"TextMarks$View", "endOf", "(II)I"⟩, 8), (⟨"TextMarks$View", "startsRun", "(I)Z"⟩, 8), (⟨"TextMarks", "commentFrom", "(LTextMarks$View;I)I"⟩, 4), (⟨"TextMarks", "commentTo", "(LTextMarks$View;I)I"⟩, 4), (⟨"TextMarks$View", "keepKind", "(II)V"⟩, 8)]
theorem lw_r1 : ∀ q ∈ lw_privs_1, lw_okq q := List.forall_mem_cons.mpr ⟨lw_p0, List.forall_mem_cons.mpr ⟨lw_p1, List.forall_mem_cons.mpr ⟨lw_p2, List.forall_mem_cons.mpr ⟨lw_p3, List.forall_mem_cons.mpr ⟨lw_p4, List.forall_mem_cons.mpr ⟨lw_p5, List.forall_mem_cons.mpr ⟨lw_p6, List.forall_mem_cons.mpr ⟨lw_p7, List.forall_mem_cons.mpr ⟨lw_p8, List.forall_mem_cons.mpr ⟨lw_p9, List.forall_mem_cons.mpr ⟨lw_p10, List.forall_mem_cons.mpr ⟨lw_p11, List.forall_mem_cons.mpr ⟨lw_p12, List.forall_mem_cons.mpr ⟨lw_p13, List.forall_mem_cons.mpr ⟨lw_p14, List.forall_mem_cons.mpr ⟨lw_p15, fun _ h => absurd h List.not_mem_nil⟩⟩⟩⟩⟩⟩⟩⟩⟩⟩⟩⟩⟩⟩⟩⟩
theorem lw_p16 : lw_okq (⟨"TextMarks", "showAll", "(LTextMarks$View;LTextMarks$Node;)V"⟩, 4) := ⟨⟨by decide +kernel, by decide +kernel⟩, List.mem_of_getElem? (i := 8) (by decide +kernel), List.mem_of_getElem? (i := 389) (by decide +kernel), List.mem_of_getElem? (i := 390) (by decide +kernel)⟩
theorem lw_p17 : lw_okq (⟨"TextMarks", "haveSameComments", "()Z"⟩, 4) := ⟨⟨by decide +kernel, by decide +kernel⟩, List.mem_of_getElem? (i := 8) (by decide +kernel), List.mem_of_getElem? (i := 402) (by decide +kernel), List.mem_of_getElem? (i := 403) (by decide +kernel)⟩
theorem lw_p18 : lw_okq (⟨"TextMarks", "isSameComment", "(I)Z"⟩, 4) := ⟨⟨by decide +kernel, by decide +kernel⟩, List.mem_of_getElem? (i := 8) (by decide +kernel), List.mem_of_getElem? (i := 406) (by decide +kernel), List.mem_of_getElem? (i := 407) (by decide +kernel)⟩
theorem lw_p19 : lw_okq (⟨"TextMarks", "placesOf", "(LTextMarks$Node;)I"⟩, 4) := ⟨⟨by decide +kernel, by decide +kernel⟩, List.mem_of_getElem? (i := 8) (by decide +kernel), List.mem_of_getElem? (i := 426) (by decide +kernel), List.mem_of_getElem? (i := 427) (by decide +kernel)⟩
theorem lw_p20 : lw_okq (⟨"TextMarksModel", "look", "(I)V"⟩, 31) := ⟨⟨by decide +kernel, by decide +kernel⟩, List.mem_of_getElem? (i := 436) (by decide +kernel), List.mem_of_getElem? (i := 552) (by decide +kernel), List.mem_of_getElem? (i := 553) (by decide +kernel)⟩
theorem lw_p21 : lw_okq (⟨"TextMarksModel", "judge", "(I)V"⟩, 31) := ⟨⟨by decide +kernel, by decide +kernel⟩, List.mem_of_getElem? (i := 436) (by decide +kernel), List.mem_of_getElem? (i := 556) (by decide +kernel), List.mem_of_getElem? (i := 557) (by decide +kernel)⟩
theorem lw_p22 : lw_okq (⟨"TextMarksModel", "knowsRow", "(II)Z"⟩, 31) := ⟨⟨by decide +kernel, by decide +kernel⟩, List.mem_of_getElem? (i := 436) (by decide +kernel), List.mem_of_getElem? (i := 560) (by decide +kernel), List.mem_of_getElem? (i := 561) (by decide +kernel)⟩
theorem lw_p23 : lw_okq (⟨"TextMarksModel", "findPlaces", "(I)V"⟩, 31) := ⟨⟨by decide +kernel, by decide +kernel⟩, List.mem_of_getElem? (i := 436) (by decide +kernel), List.mem_of_getElem? (i := 564) (by decide +kernel), List.mem_of_getElem? (i := 565) (by decide +kernel)⟩
theorem lw_p24 : lw_okq (⟨"TextMarksModel", "findOrder", "(II)V"⟩, 31) := ⟨⟨by decide +kernel, by decide +kernel⟩, List.mem_of_getElem? (i := 436) (by decide +kernel), List.mem_of_getElem? (i := 568) (by decide +kernel), List.mem_of_getElem? (i := 569) (by decide +kernel)⟩
theorem lw_p25 : lw_okq (⟨"TextMarksModel", "isBefore", "(II)Z"⟩, 31) := ⟨⟨by decide +kernel, by decide +kernel⟩, List.mem_of_getElem? (i := 436) (by decide +kernel), List.mem_of_getElem? (i := 572) (by decide +kernel), List.mem_of_getElem? (i := 573) (by decide +kernel)⟩
theorem lw_p26 : lw_okq (⟨"TextMarksModel", "isDeleted", "(I)Z"⟩, 31) := ⟨⟨by decide +kernel, by decide +kernel⟩, List.mem_of_getElem? (i := 436) (by decide +kernel), List.mem_of_getElem? (i := 576) (by decide +kernel), List.mem_of_getElem? (i := 577) (by decide +kernel)⟩
theorem lw_p27 : lw_okq (⟨"TextMarksModel", "findStyles", "(I)V"⟩, 31) := ⟨⟨by decide +kernel, by decide +kernel⟩, List.mem_of_getElem? (i := 436) (by decide +kernel), List.mem_of_getElem? (i := 580) (by decide +kernel), List.mem_of_getElem? (i := 581) (by decide +kernel)⟩
theorem lw_p28 : lw_okq (⟨"TextMarksModel", "covers", "(II)Z"⟩, 31) := ⟨⟨by decide +kernel, by decide +kernel⟩, List.mem_of_getElem? (i := 436) (by decide +kernel), List.mem_of_getElem? (i := 584) (by decide +kernel), List.mem_of_getElem? (i := 585) (by decide +kernel)⟩
theorem lw_p29 : lw_okq (⟨"TextMarksModel", "add", "(IIIIII)I"⟩, 31) := ⟨⟨by decide +kernel, by decide +kernel⟩, List.mem_of_getElem? (i := 436) (by decide +kernel), List.mem_of_getElem? (i := 588) (by decide +kernel), List.mem_of_getElem? (i := 589) (by decide +kernel)⟩
theorem lw_p30 : lw_okq (⟨"TextMarksModel", "startOf", "(I)I"⟩, 31) := ⟨⟨by decide +kernel, by decide +kernel⟩, List.mem_of_getElem? (i := 436) (by decide +kernel), List.mem_of_getElem? (i := 608) (by decide +kernel), List.mem_of_getElem? (i := 609) (by decide +kernel)⟩
theorem lw_p31 : lw_okq (⟨"TextMarksModel", "learn", "(II)V"⟩, 31) := ⟨⟨by decide +kernel, by decide +kernel⟩, List.mem_of_getElem? (i := 436) (by decide +kernel), List.mem_of_getElem? (i := 620) (by decide +kernel), List.mem_of_getElem? (i := 621) (by decide +kernel)⟩
def lw_privs_2 : List (MethodName × Nat) := [(⟨"TextMarks", "showAll", "(LTextMarks$View;LTextMarks$Node;)V"⟩, 4), (⟨"TextMarks", "haveSameComments", "()Z"⟩, 4), (⟨"TextMarks", "isSameComment", "(I)Z"⟩, 4), (⟨"TextMarks", "placesOf", "(LTextMarks$Node;)I"⟩, 4), (⟨"TextMarksModel", "look", "(I)V"⟩, 31), (⟨"TextMarksModel", "judge", "(I)V"⟩, 31), (⟨"TextMarksModel", "knowsRow", "(II)Z"⟩, 31), (⟨"TextMarksModel", "findPlaces", "(I)V"⟩, 31), (⟨"TextMarksModel", "findOrder", "(II)V"⟩, 31), (⟨"TextMarksModel", "isBefore", "(II)Z"⟩, 31), (⟨"TextMarksModel", "isDeleted", "(I)Z"⟩, 31), (⟨"TextMarksModel", "findStyles", "(I)V"⟩, 31), (⟨"TextMarksModel", "covers", "(II)Z"⟩, 31), (⟨"TextMarksModel", "add", "(IIIIII)I"⟩, 31), (⟨"TextMarksModel", "startOf", "(I)I"⟩, 31), (⟨"TextMarksModel", "learn", "(II)V"⟩, 31)]
theorem lw_r2 : ∀ q ∈ lw_privs_2, lw_okq q := List.forall_mem_cons.mpr ⟨lw_p16, List.forall_mem_cons.mpr ⟨lw_p17, List.forall_mem_cons.mpr ⟨lw_p18, List.forall_mem_cons.mpr ⟨lw_p19, List.forall_mem_cons.mpr ⟨lw_p20, List.forall_mem_cons.mpr ⟨lw_p21, List.forall_mem_cons.mpr ⟨lw_p22, List.forall_mem_cons.mpr ⟨lw_p23, List.forall_mem_cons.mpr ⟨lw_p24, List.forall_mem_cons.mpr ⟨lw_p25, List.forall_mem_cons.mpr ⟨lw_p26, List.forall_mem_cons.mpr ⟨lw_p27, List.forall_mem_cons.mpr ⟨lw_p28, List.forall_mem_cons.mpr ⟨lw_p29, List.forall_mem_cons.mpr ⟨lw_p30, List.forall_mem_cons.mpr ⟨lw_p31, fun _ h => absurd h List.not_mem_nil⟩⟩⟩⟩⟩⟩⟩⟩⟩⟩⟩⟩⟩⟩⟩⟩
theorem lw_p32 : lw_okq (⟨"TextMarksModel", "isSeen", "(II)Z"⟩, 31) := ⟨⟨by decide +kernel, by decide +kernel⟩, List.mem_of_getElem? (i := 436) (by decide +kernel), List.mem_of_getElem? (i := 632) (by decide +kernel), List.mem_of_getElem? (i := 633) (by decide +kernel)⟩
theorem lw_p33 : lw_okq (⟨"TextMarksModel", "runs", "()I"⟩, 31) := ⟨⟨by decide +kernel, by decide +kernel⟩, List.mem_of_getElem? (i := 436) (by decide +kernel), List.mem_of_getElem? (i := 656) (by decide +kernel), List.mem_of_getElem? (i := 657) (by decide +kernel)⟩
theorem lw_p34 : lw_okq (⟨"TextMarksModel", "findRun", "(I)I"⟩, 31) := ⟨⟨by decide +kernel, by decide +kernel⟩, List.mem_of_getElem? (i := 436) (by decide +kernel), List.mem_of_getElem? (i := 660) (by decide +kernel), List.mem_of_getElem? (i := 661) (by decide +kernel)⟩
theorem lw_p35 : lw_okq (⟨"TextMarksModel", "areAlike", "(II)Z"⟩, 31) := ⟨⟨by decide +kernel, by decide +kernel⟩, List.mem_of_getElem? (i := 436) (by decide +kernel), List.mem_of_getElem? (i := 664) (by decide +kernel), List.mem_of_getElem? (i := 665) (by decide +kernel)⟩
theorem lw_p36 : lw_okq (⟨"TextMarksModel", "lying", "(II)I"⟩, 31) := ⟨⟨by decide +kernel, by decide +kernel⟩, List.mem_of_getElem? (i := 436) (by decide +kernel), List.mem_of_getElem? (i := 672) (by decide +kernel), List.mem_of_getElem? (i := 673) (by decide +kernel)⟩
theorem lw_p37 : lw_okq (⟨"TextMarksModel", "kindOf", "(II)I"⟩, 31) := ⟨⟨by decide +kernel, by decide +kernel⟩, List.mem_of_getElem? (i := 436) (by decide +kernel), List.mem_of_getElem? (i := 680) (by decide +kernel), List.mem_of_getElem? (i := 681) (by decide +kernel)⟩
theorem lw_p38 : lw_okq (⟨"TextMarksModel", "keep", "(I)V"⟩, 31) := ⟨⟨by decide +kernel, by decide +kernel⟩, List.mem_of_getElem? (i := 436) (by decide +kernel), List.mem_of_getElem? (i := 692) (by decide +kernel), List.mem_of_getElem? (i := 693) (by decide +kernel)⟩
theorem lw_p39 : lw_okq (⟨"TextMarksModel", "paragraphs", "()I"⟩, 31) := ⟨⟨by decide +kernel, by decide +kernel⟩, List.mem_of_getElem? (i := 436) (by decide +kernel), List.mem_of_getElem? (i := 696) (by decide +kernel), List.mem_of_getElem? (i := 697) (by decide +kernel)⟩
theorem lw_p40 : lw_okq (⟨"TextMarksModel", "kindAt", "(II)I"⟩, 31) := ⟨⟨by decide +kernel, by decide +kernel⟩, List.mem_of_getElem? (i := 436) (by decide +kernel), List.mem_of_getElem? (i := 700) (by decide +kernel), List.mem_of_getElem? (i := 701) (by decide +kernel)⟩
theorem lw_p41 : lw_okq (⟨"TextMarksModel", "units", "()I"⟩, 31) := ⟨⟨by decide +kernel, by decide +kernel⟩, List.mem_of_getElem? (i := 436) (by decide +kernel), List.mem_of_getElem? (i := 708) (by decide +kernel), List.mem_of_getElem? (i := 709) (by decide +kernel)⟩
theorem lw_p42 : lw_okq (⟨"TextMarksModel", "knownRows", "(I)I"⟩, 31) := ⟨⟨by decide +kernel, by decide +kernel⟩, List.mem_of_getElem? (i := 436) (by decide +kernel), List.mem_of_getElem? (i := 712) (by decide +kernel), List.mem_of_getElem? (i := 713) (by decide +kernel)⟩
def lw_privs_3 : List (MethodName × Nat) := [(⟨"TextMarksModel", "isSeen", "(II)Z"⟩, 31), (⟨"TextMarksModel", "runs", "()I"⟩, 31), (⟨"TextMarksModel", "findRun", "(I)I"⟩, 31), (⟨"TextMarksModel", "areAlike", "(II)Z"⟩, 31), (⟨"TextMarksModel", "lying", "(II)I"⟩, 31), (⟨"TextMarksModel", "kindOf", "(II)I"⟩, 31), (⟨"TextMarksModel", "keep", "(I)V"⟩, 31), (⟨"TextMarksModel", "paragraphs", "()I"⟩, 31), (⟨"TextMarksModel", "kindAt", "(II)I"⟩, 31), (⟨"TextMarksModel", "units", "()I"⟩, 31), (⟨"TextMarksModel", "knownRows", "(I)I"⟩, 31)]
theorem lw_r3 : ∀ q ∈ lw_privs_3, lw_okq q := List.forall_mem_cons.mpr ⟨lw_p32, List.forall_mem_cons.mpr ⟨lw_p33, List.forall_mem_cons.mpr ⟨lw_p34, List.forall_mem_cons.mpr ⟨lw_p35, List.forall_mem_cons.mpr ⟨lw_p36, List.forall_mem_cons.mpr ⟨lw_p37, List.forall_mem_cons.mpr ⟨lw_p38, List.forall_mem_cons.mpr ⟨lw_p39, List.forall_mem_cons.mpr ⟨lw_p40, List.forall_mem_cons.mpr ⟨lw_p41, List.forall_mem_cons.mpr ⟨lw_p42, fun _ h => absurd h List.not_mem_nil⟩⟩⟩⟩⟩⟩⟩⟩⟩⟩⟩
def lw_privs : List (MethodName × Nat) := lw_privs_1 ++ (lw_privs_2 ++ (lw_privs_3))
def lw_tbl : List Cond := k2_sels lw_privs ++ tables_1
theorem lw_privs_ok : ∀ q ∈ lw_privs, lw_okq q := by
  show ∀ q ∈ lw_privs_1 ++ (lw_privs_2 ++ (lw_privs_3)), lw_okq q
  exact List.forall_mem_append.mpr ⟨lw_r1, List.forall_mem_append.mpr ⟨lw_r2, lw_r3⟩⟩
-- ===== end of PART A =====
def tm_C0 : String := "TextMarks$Node"
def tm_T0 : u_T := fun k => match k with
  | 0 => ("TextMarks$Node", "knowing", "[Z", true)
  | 1 => ("TextMarks$Node", "known", "I", false)
  | _ => ("TextMarks$Node", "time", "I", false)
def tm_D0 : Nat → FieldType := fun k => match k with
  | 0 => .array .boolean
  | 1 => .int
  | _ => .int
theorem tm_nm0 : ∀ a, a < 3 → ∀ b, b < 3 → a ≠ b → (tm_T0 a).2.1 ≠ (tm_T0 b).2.1 := by decide +kernel
theorem tm_ty0 : ∀ k, k < 3 → parseFieldDescriptor (tm_T0 k).2.2.1 = some (tm_D0 k) := by decide +kernel
def tm_C1 : String := "TextMarks$Rows"
def tm_T1 : u_T := fun k => match k with
  | 0 => ("TextMarks$Rows", "count", "I", false)
  | 1 => ("TextMarks$Rows", "cells", "[I", true)
  | 2 => ("TextMarks$Rows", "undos", "[I", true)
  | 3 => ("TextMarks$Rows", "inOrder", "[I", true)
  | 4 => ("TextMarks$Rows", "places", "[I", true)
  | _ => ("TextMarks$Rows", "placeCount", "I", false)
def tm_D1 : Nat → FieldType := fun k => match k with
  | 0 => .int
  | 1 => .array .int
  | 2 => .array .int
  | 3 => .array .int
  | 4 => .array .int
  | _ => .int
theorem tm_nm1 : ∀ a, a < 6 → ∀ b, b < 6 → a ≠ b → (tm_T1 a).2.1 ≠ (tm_T1 b).2.1 := by decide +kernel
theorem tm_ty1 : ∀ k, k < 6 → parseFieldDescriptor (tm_T1 k).2.2.1 = some (tm_D1 k) := by decide +kernel
def tm_C2 : String := "TextMarks$View"
def tm_T2 : u_T := fun k => match k with
  | 0 => ("TextMarks$View", "size", "I", false)
  | 1 => ("TextMarks$View", "inserts", "[I", true)
  | 2 => ("TextMarks$View", "signs", "[I", true)
  | 3 => ("TextMarks$View", "looks", "[I", true)
  | 4 => ("TextMarks$View", "good", "[Z", true)
  | 5 => ("TextMarks$View", "seen", "[Z", true)
  | 6 => ("TextMarks$View", "ahead", "[I", true)
  | _ => ("TextMarks$View", "kinds", "[I", true)
def tm_D2 : Nat → FieldType := fun k => match k with
  | 0 => .int
  | 1 => .array .int
  | 2 => .array .int
  | 3 => .array .int
  | 4 => .array .boolean
  | 5 => .array .boolean
  | 6 => .array .int
  | _ => .array .int
theorem tm_nm2 : ∀ a, a < 8 → ∀ b, b < 8 → a ≠ b → (tm_T2 a).2.1 ≠ (tm_T2 b).2.1 := by decide +kernel
theorem tm_ty2 : ∀ k, k < 8 → parseFieldDescriptor (tm_T2 k).2.2.1 = some (tm_D2 k) := by decide +kernel
def tm_C3 : String := "TextMarks"
def tm_T3 : u_T := fun k => match k with
  | 0 => ("TextMarks", "rows", "LTextMarks$Rows;", true)
  | 1 => ("TextMarks", "nodes", "[LTextMarks$Node;", true)
  | 2 => ("TextMarks", "view", "LTextMarks$View;", true)
  | _ => ("TextMarks", "otherView", "LTextMarks$View;", true)
def tm_D3 : Nat → FieldType := fun k => match k with
  | 0 => .object "TextMarks$Rows"
  | 1 => .array (.object "TextMarks$Node")
  | 2 => .object "TextMarks$View"
  | _ => .object "TextMarks$View"
theorem tm_nm3 : ∀ a, a < 4 → ∀ b, b < 4 → a ≠ b → (tm_T3 a).2.1 ≠ (tm_T3 b).2.1 := by decide +kernel
theorem tm_ty3 : ∀ k, k < 4 → parseFieldDescriptor (tm_T3 k).2.2.1 = some (tm_D3 k) := by decide +kernel
def tm_C4 : String := "TextMarksModel"
def tm_T4 : u_T := fun k => match k with
  | 0 => ("TextMarksModel", "thrown", "I", false)
  | 1 => ("TextMarksModel", "rows", "I", false)
  | 2 => ("TextMarksModel", "sort", "[I", true)
  | 3 => ("TextMarksModel", "who", "[I", true)
  | 4 => ("TextMarksModel", "time", "[I", true)
  | 5 => ("TextMarksModel", "what", "[I", true)
  | 6 => ("TextMarksModel", "value", "[I", true)
  | 7 => ("TextMarksModel", "first", "[I", true)
  | 8 => ("TextMarksModel", "second", "[I", true)
  | 9 => ("TextMarksModel", "knows", "[Z", true)
  | 10 => ("TextMarksModel", "clock", "[I", true)
  | 11 => ("TextMarksModel", "seenBy", "I", false)
  | 12 => ("TextMarksModel", "good", "[Z", true)
  | 13 => ("TextMarksModel", "places", "I", false)
  | 14 => ("TextMarksModel", "place", "[I", true)
  | 15 => ("TextMarksModel", "where", "[I", true)
  | 16 => ("TextMarksModel", "ahead", "[I", true)
  | 17 => ("TextMarksModel", "seen", "I", false)
  | 18 => ("TextMarksModel", "at", "[I", true)
  | 19 => ("TextMarksModel", "styled", "[I", true)
  | 20 => ("TextMarksModel", "orders", "I", false)
  | 21 => ("TextMarksModel", "order", "[I", true)
  | 22 => ("TextMarksModel", "runFrom", "I", false)
  | 23 => ("TextMarksModel", "runTo", "I", false)
  | 24 => ("TextMarksModel", "oldSeen", "I", false)
  | 25 => ("TextMarksModel", "oldSign", "[I", true)
  | 26 => ("TextMarksModel", "oldStyle", "[I", true)
  | 27 => ("TextMarksModel", "oldFrom", "[I", true)
  | 28 => ("TextMarksModel", "oldTo", "[I", true)
  | 29 => ("TextMarksModel", "oldParagraphs", "I", false)
  | _ => ("TextMarksModel", "oldKind", "[I", true)
def tm_D4 : Nat → FieldType := fun k => match k with
  | 0 => .int
  | 1 => .int
  | 2 => .array .int
  | 3 => .array .int
  | 4 => .array .int
  | 5 => .array .int
  | 6 => .array .int
  | 7 => .array .int
  | 8 => .array .int
  | 9 => .array .boolean
  | 10 => .array .int
  | 11 => .int
  | 12 => .array .boolean
  | 13 => .int
  | 14 => .array .int
  | 15 => .array .int
  | 16 => .array .int
  | 17 => .int
  | 18 => .array .int
  | 19 => .array .int
  | 20 => .int
  | 21 => .array .int
  | 22 => .int
  | 23 => .int
  | 24 => .int
  | 25 => .array .int
  | 26 => .array .int
  | 27 => .array .int
  | 28 => .array .int
  | 29 => .int
  | _ => .array .int
theorem tm_nm4 : ∀ a, a < 31 → ∀ b, b < 31 → a ≠ b → (tm_T4 a).2.1 ≠ (tm_T4 b).2.1 := by decide +kernel
theorem tm_ty4 : ∀ k, k < 31 → parseFieldDescriptor (tm_T4 k).2.2.1 = some (tm_D4 k) := by decide +kernel
abbrev vwCl : List vw_C := [(tm_C0, tm_T0, 3), (tm_C1, tm_T1, 6), (tm_C2, tm_T2, 8), (tm_C3, tm_T3, 4), (tm_C4, tm_T4, 31)]
def tm_Fl : List (List Bool) := [[true, false, false], [false, true, true, true, true, false], [false, true, true, true, true, true, true, true], [true, true, true, true], [false, false, true, true, true, true, true, true, true, true, true, false, true, false, true, true, true, false, true, true, false, true, false, false, false, true, true, true, true, false, true]]
def tm_F (c : Nat) : List Bool := tm_Fl.getD c []
def tm_T : List (Nat × FieldType) := [(1, .int), (2, .boolean), (3, .object "TextMarks$Node")]
def tm_law : Nat := 0
def tm_yl : List MethodName := [⟨"TextMarksLaw", "law", "([I)Z"⟩, ⟨"TextMarks", "<init>", "()V"⟩, ⟨"TextMarks", "insert", "(III)I"⟩, ⟨"TextMarks", "delete", "(II)I"⟩, ⟨"TextMarks", "style", "(IIIII)I"⟩, ⟨"TextMarks", "comment", "(III)I"⟩, ⟨"TextMarks", "block", "(III)I"⟩, ⟨"TextMarks", "undo", "(II)I"⟩, ⟨"TextMarks", "see", "(II)Z"⟩, ⟨"TextMarks", "meet", "(II)I"⟩, ⟨"TextMarks", "sign", "(II)I"⟩, ⟨"TextMarks", "id", "(II)I"⟩, ⟨"TextMarks", "unit", "(II)I"⟩, ⟨"TextMarks", "styled", "(III)I"⟩, ⟨"TextMarks", "run", "(III)I"⟩, ⟨"TextMarks", "lies", "(III)I"⟩, ⟨"TextMarks", "paragraph", "(III)I"⟩, ⟨"TextMarks", "row", "(II)I"⟩, ⟨"TextMarks", "alike", "(II)Z"⟩, ⟨"TextMarks", "total", "(II)I"⟩, ⟨"TextMarks", "nodeOf", "(I)LTextMarks$Node;"⟩, ⟨"TextMarks", "isSign", "(I)Z"⟩, ⟨"TextMarks", "isKey", "(I)Z"⟩, ⟨"TextMarks", "grows", "(I)Z"⟩, ⟨"TextMarks", "shows", "(I)Z"⟩, ⟨"TextMarks", "write", "(IIIIII)I"⟩, ⟨"TextMarks", "knowsNeeds", "(LTextMarks$Node;I)Z"⟩, ⟨"TextMarks", "placesOf", "(LTextMarks$Node;)I"⟩, ⟨"TextMarks", "commentFrom", "(LTextMarks$View;I)I"⟩, ⟨"TextMarks", "commentTo", "(LTextMarks$View;I)I"⟩, ⟨"TextMarks", "showAll", "(LTextMarks$View;LTextMarks$Node;)V"⟩, ⟨"TextMarks", "haveSameComments", "()Z"⟩, ⟨"TextMarks", "isSameComment", "(I)Z"⟩, ⟨"TextMarksModel", "<init>", "()V"⟩, ⟨"TextMarksModel", "within", "(III)Z"⟩, ⟨"TextMarksModel", "knowsRow", "(II)Z"⟩, ⟨"TextMarksModel", "isBefore", "(II)Z"⟩, ⟨"TextMarksModel", "judge", "(I)V"⟩, ⟨"TextMarksModel", "findOrder", "(II)V"⟩, ⟨"TextMarksModel", "findPlaces", "(I)V"⟩, ⟨"TextMarksModel", "isDeleted", "(I)Z"⟩, ⟨"TextMarksModel", "covers", "(II)Z"⟩, ⟨"TextMarksModel", "findStyles", "(I)V"⟩, ⟨"TextMarksModel", "look", "(I)V"⟩, ⟨"TextMarksModel", "isNode", "(I)Z"⟩, ⟨"TextMarksModel", "add", "(IIIIII)I"⟩, ⟨"TextMarksModel", "isSign", "(I)Z"⟩, ⟨"TextMarksModel", "insert", "(III)I"⟩, ⟨"TextMarksModel", "delete", "(II)I"⟩, ⟨"TextMarksModel", "style", "(IIIII)I"⟩, ⟨"TextMarksModel", "comment", "(III)I"⟩, ⟨"TextMarksModel", "startOf", "(I)I"⟩, ⟨"TextMarksModel", "block", "(III)I"⟩, ⟨"TextMarksModel", "undo", "(II)I"⟩, ⟨"TextMarksModel", "learn", "(II)V"⟩, ⟨"TextMarksModel", "see", "(II)Z"⟩, ⟨"TextMarksModel", "meet", "(II)I"⟩, ⟨"TextMarksModel", "isSeen", "(II)Z"⟩, ⟨"TextMarksModel", "sign", "(II)I"⟩, ⟨"TextMarksModel", "id", "(II)I"⟩, ⟨"TextMarksModel", "unit", "(II)I"⟩, ⟨"TextMarksModel", "styled", "(III)I"⟩, ⟨"TextMarksModel", "areAlike", "(II)Z"⟩, ⟨"TextMarksModel", "findRun", "(I)I"⟩, ⟨"TextMarksModel", "run", "(III)I"⟩, ⟨"TextMarksModel", "runs", "()I"⟩, ⟨"TextMarksModel", "lies", "(III)I"⟩, ⟨"TextMarksModel", "lying", "(II)I"⟩, ⟨"TextMarksModel", "kindOf", "(II)I"⟩, ⟨"TextMarksModel", "paragraph", "(III)I"⟩, ⟨"TextMarksModel", "row", "(II)I"⟩, ⟨"TextMarksModel", "paragraphs", "()I"⟩, ⟨"TextMarksModel", "kindAt", "(II)I"⟩, ⟨"TextMarksModel", "keep", "(I)V"⟩, ⟨"TextMarksModel", "alike", "(II)Z"⟩, ⟨"TextMarksModel", "units", "()I"⟩, ⟨"TextMarksModel", "knownRows", "(I)I"⟩, ⟨"TextMarksModel", "total", "(II)I"⟩, ⟨"TextMarks$Node", "<init>", "()V"⟩, ⟨"TextMarks$Node", "known", "()I"⟩, ⟨"TextMarks$Node", "time", "()I"⟩, ⟨"TextMarks$Node", "knows", "(I)Z"⟩, ⟨"TextMarks$Node", "learn", "(II)V"⟩, ⟨"TextMarks$Rows", "<init>", "()V"⟩, ⟨"TextMarks$Rows", "count", "()I"⟩, ⟨"TextMarks$Rows", "has", "(I)Z"⟩, ⟨"TextMarks$Rows", "cell", "(II)I"⟩, ⟨"TextMarks$Rows", "undoOf", "(I)I"⟩, ⟨"TextMarks$Rows", "inOrderAt", "(I)I"⟩, ⟨"TextMarks$Rows", "placeCount", "()I"⟩, ⟨"TextMarks$Rows", "placeAt", "(I)I"⟩, ⟨"TextMarks$Rows", "add", "(IIIIIII)I"⟩, ⟨"TextMarks$Rows", "isLater", "(II)Z"⟩, ⟨"TextMarks$Rows", "fileInOrder", "(I)V"⟩, ⟨"TextMarks$Rows", "fileInPlaces", "(II)V"⟩, ⟨"TextMarks$Rows", "firstPlaceBehind", "(I)I"⟩, ⟨"TextMarks$View", "<init>", "()V"⟩, ⟨"TextMarks$View", "show", "(LTextMarks$Rows;LTextMarks$Node;)V"⟩, ⟨"TextMarks$View", "markGoodAndSeen", "(LTextMarks$Rows;LTextMarks$Node;)V"⟩, ⟨"TextMarks$View", "hide", "(I)V"⟩, ⟨"TextMarks$View", "size", "()I"⟩, ⟨"TextMarks$View", "isGood", "(I)Z"⟩, ⟨"TextMarks$View", "hasPlace", "(I)Z"⟩, ⟨"TextMarks$View", "hasRange", "(II)Z"⟩, ⟨"TextMarks$View", "insertAt", "(I)I"⟩, ⟨"TextMarks$View", "signAt", "(I)I"⟩, ⟨"TextMarks$View", "aheadOf", "(I)I"⟩, ⟨"TextMarks$View", "aheadBehind", "(I)I"⟩, ⟨"TextMarks$View", "unitCount", "()I"⟩, ⟨"TextMarks$View", "unitAt", "(I)I"⟩, ⟨"TextMarks$View", "widthOf", "(I)I"⟩, ⟨"TextMarks$View", "partOf", "(II)I"⟩, ⟨"TextMarks$View", "paint", "(LTextMarks$Rows;)V"⟩, ⟨"TextMarks$View", "paintOne", "(LTextMarks$Rows;I)V"⟩, ⟨"TextMarks$View", "endOf", "(II)I"⟩, ⟨"TextMarks$View", "valueAt", "(II)I"⟩, ⟨"TextMarks$View", "startsRun", "(I)Z"⟩, ⟨"TextMarks$View", "runCount", "()I"⟩, ⟨"TextMarks$View", "runStart", "(I)I"⟩, ⟨"TextMarks$View", "runEnd", "(I)I"⟩, ⟨"TextMarks$View", "paragraphCount", "()I"⟩, ⟨"TextMarks$View", "paragraphStart", "(I)I"⟩, ⟨"TextMarks$View", "paragraphEnd", "(I)I"⟩, ⟨"TextMarks$View", "tellKinds", "(LTextMarks$Rows;)V"⟩, ⟨"TextMarks$View", "keepKind", "(II)V"⟩, ⟨"TextMarks$View", "kindFrom", "(I)I"⟩, ⟨"TextMarks$View", "hasSameText", "(LTextMarks$View;)Z"⟩, ⟨"TextMarks$View", "hasSameKinds", "(LTextMarks$View;)Z"⟩]
def tm_y (j : Nat) : MethodName := tm_yl.getD j ⟨"", "", ""⟩
def tm_cl : List ByteArray := [code, prog_1_method_1_code, prog_1_method_2_code, prog_1_method_3_code, prog_1_method_4_code, prog_1_method_5_code, prog_1_method_6_code, prog_1_method_7_code, prog_1_method_8_code, prog_1_method_9_code, prog_1_method_10_code, prog_1_method_11_code, prog_1_method_12_code, prog_1_method_13_code, prog_1_method_14_code, prog_1_method_15_code, prog_1_method_16_code, prog_1_method_17_code, prog_1_method_18_code, prog_1_method_19_code, prog_1_method_20_code, prog_1_method_21_code, prog_1_method_22_code, prog_1_method_23_code, prog_1_method_24_code, prog_1_method_25_code, prog_1_method_26_code, prog_1_method_27_code, prog_1_method_28_code, prog_1_method_29_code, prog_1_method_30_code, prog_1_method_31_code, prog_1_method_32_code, prog_6_method_1_code, prog_6_method_3_code, prog_6_method_4_code, prog_6_method_5_code, prog_6_method_6_code, prog_6_method_7_code, prog_6_method_8_code, prog_6_method_9_code, prog_6_method_10_code, prog_6_method_11_code, prog_6_method_12_code, prog_6_method_13_code, prog_6_method_14_code, prog_6_method_15_code, prog_6_method_16_code, prog_6_method_17_code, prog_6_method_18_code, prog_6_method_19_code, prog_6_method_20_code, prog_6_method_21_code, prog_6_method_22_code, prog_6_method_23_code, prog_6_method_24_code, prog_6_method_25_code, prog_6_method_26_code, prog_6_method_27_code, prog_6_method_28_code, prog_6_method_29_code, prog_6_method_30_code, prog_6_method_31_code, prog_6_method_32_code, prog_6_method_33_code, prog_6_method_34_code, prog_6_method_35_code, prog_6_method_36_code, prog_6_method_37_code, prog_6_method_38_code, prog_6_method_39_code, prog_6_method_40_code, prog_6_method_41_code, prog_6_method_42_code, prog_6_method_43_code, prog_6_method_44_code, prog_6_method_45_code, prog_6_method_46_code, prog_2_method_1_code, prog_2_method_2_code, prog_2_method_3_code, prog_2_method_4_code, prog_2_method_5_code, prog_3_method_1_code, prog_3_method_2_code, prog_3_method_3_code, prog_3_method_4_code, prog_3_method_5_code, prog_3_method_6_code, prog_3_method_7_code, prog_3_method_8_code, prog_3_method_9_code, prog_3_method_10_code, prog_3_method_11_code, prog_3_method_12_code, prog_3_method_13_code, prog_4_method_1_code, prog_4_method_2_code, prog_4_method_3_code, prog_4_method_4_code, prog_4_method_5_code, prog_4_method_6_code, prog_4_method_7_code, prog_4_method_8_code, prog_4_method_9_code, prog_4_method_10_code, prog_4_method_11_code, prog_4_method_12_code, prog_4_method_13_code, prog_4_method_14_code, prog_4_method_15_code, prog_4_method_16_code, prog_4_method_17_code, prog_4_method_18_code, prog_4_method_19_code, prog_4_method_20_code, prog_4_method_21_code, prog_4_method_22_code, prog_4_method_23_code, prog_4_method_24_code, prog_4_method_25_code, prog_4_method_26_code, prog_4_method_27_code, prog_4_method_28_code, prog_4_method_29_code, prog_4_method_30_code, prog_4_method_31_code, prog_4_method_32_code]
def tm_c (j : Nat) : ByteArray := tm_cl.getD j ⟨#[]⟩
def tm_ll : List Nat := [4, 2, 4, 3, 7, 4, 5, 3, 4, 7, 3, 3, 3, 4, 5, 4, 5, 3, 5, 4, 2, 1, 1, 1, 3, 10, 5, 4, 3, 3, 3, 2, 2, 1, 3, 3, 3, 3, 5, 6, 3, 6, 5, 4, 1, 7, 1, 4, 3, 7, 4, 4, 5, 3, 3, 3, 5, 3, 3, 3, 7, 4, 4, 3, 4, 1, 4, 5, 5, 6, 3, 3, 4, 4, 5, 3, 4, 3, 1, 1, 1, 2, 3, 1, 1, 2, 3, 2, 2, 1, 2, 9, 5, 3, 5, 3, 1, 5, 5, 2, 1, 2, 2, 3, 2, 2, 2, 3, 3, 5, 1, 3, 4, 9, 3, 3, 2, 3, 4, 3, 3, 4, 3, 4, 3, 3, 3, 3]
def tm_l (j : Nat) : Nat := tm_ll.getD j 0
def tm_rl : List (Option FieldType) := [some .boolean, none, some .int, some .int, some .int, some .int, some .int, some .int, some .boolean, some .int, some .int, some .int, some .int, some .int, some .int, some .int, some .int, some .int, some .boolean, some .int, some (.object "TextMarks$Node"), some .boolean, some .boolean, some .boolean, some .boolean, some .int, some .boolean, some .int, some .int, some .int, none, some .boolean, some .boolean, none, some .boolean, some .boolean, some .boolean, none, none, none, some .boolean, some .boolean, none, none, some .boolean, some .int, some .boolean, some .int, some .int, some .int, some .int, some .int, some .int, some .int, none, some .boolean, some .int, some .boolean, some .int, some .int, some .int, some .int, some .boolean, some .int, some .int, some .int, some .int, some .int, some .int, some .int, some .int, some .int, some .int, none, some .boolean, some .int, some .int, some .int, none, some .int, some .int, some .boolean, none, none, some .int, some .boolean, some .int, some .int, some .int, some .int, some .int, some .int, some .boolean, none, none, some .int, none, none, none, none, some .int, some .boolean, some .boolean, some .boolean, some .int, some .int, some .int, some .int, some .int, some .int, some .int, some .int, none, none, some .int, some .int, some .boolean, some .int, some .int, some .int, some .int, some .int, some .int, none, none, some .int, some .boolean, some .boolean]
def tm_r (j : Nat) : Option FieldType := tm_rl.getD j none
def tm_fl : List Nat := [7, 2, 6, 6, 6, 6, 6, 6, 3, 2, 5, 5, 5, 5, 5, 5, 5, 2, 6, 5, 0, 0, 0, 0, 4, 5, 2, 1, 2, 3, 5, 5, 4, 1, 0, 0, 0, 1, 1, 2, 0, 0, 2, 3, 1, 0, 1, 4, 4, 4, 4, 0, 4, 4, 0, 2, 2, 4, 5, 5, 4, 5, 0, 1, 4, 2, 4, 0, 1, 4, 1, 0, 2, 4, 5, 0, 1, 4, 1, 0, 0, 0, 1, 1, 0, 0, 1, 1, 0, 0, 0, 4, 2, 3, 3, 0, 1, 3, 2, 0, 0, 0, 0, 0, 1, 1, 0, 1, 1, 1, 0, 0, 4, 3, 2, 1, 0, 1, 1, 1, 0, 0, 0, 2, 0, 2, 0, 3]
def tm_f (j : Nat) : Nat := tm_fl.getD j 0
def tm_ol : List Nat := [174, 41, 148, 148, 148, 148, 148, 148, 67, 43, 113, 113, 113, 116, 116, 113, 113, 43, 138, 116, 0, 0, 0, 0, 91, 119, 43, 21, 43, 65, 116, 108, 87, 21, 0, 0, 0, 22, 22, 46, 0, 0, 46, 71, 22, 0, 22, 94, 94, 94, 94, 0, 94, 94, 0, 42, 42, 94, 116, 116, 94, 116, 0, 23, 94, 45, 94, 0, 22, 94, 22, 0, 46, 94, 117, 0, 22, 94, 21, 0, 0, 0, 21, 21, 0, 0, 21, 21, 0, 0, 0, 91, 43, 67, 67, 0, 21, 67, 43, 0, 0, 0, 0, 0, 21, 21, 0, 21, 20, 22, 0, 0, 93, 65, 43, 21, 0, 21, 21, 21, 0, 0, 0, 43, 0, 42, 0, 64]
def tm_o (j : Nat) : Nat := tm_ol.getD j 0
end
section
/-! THE SMALL MACHINE. A value is a number, a cell's place (or none), or unset. Cells are numbered 0, 1, ..; cell 0 is the law's script.
    g = (kind and length of each cell, the references that cells hold), m = the numbers that cells hold.
    kinds: 1 int[], 2 boolean[], 3.. arrays of references, 9 the script, 10 + c an object of class c -/
abbrev jV : Type := Int ⊕ Option Nat ⊕ Unit
def jI (x : Int) : jV := Sum.inl x
def jO (o : Option Nat) : jV := Sum.inr (Sum.inl o)
def jU : jV := Sum.inr (Sum.inr ())
abbrev jG : Type := List (Nat × Nat) × (Nat → Int → Option Nat)
abbrev jM : Type := Nat → Int → Int
abbrev jS : Type := Nat × List jV × List jV × jG × jM
abbrev jR : Type := jV × jG × jM
/-- a call: the pc behind it, the method, how many arguments, how many locals, the receiver's kind (0: none), whether it answers nothing -/
abbrev jC : Type := Nat × Nat × Nat × Nat × Nat × Bool
abbrev jOp : Type := (List jV → List jV → jG → jM → Option jS) ⊕ (List jV → jG → jM → Option jR) ⊕ jC
abbrev jK : Type := Nat → Nat → List jV → List jV → jG → jM → Option jR
def jwr (z : Int) : Int := (z + 2147483648) % 4294967296 - 2147483648
def jrg (z : Int) : Prop := -2147483648 ≤ z ∧ z < 2147483648
def jup (m : jM) (a : Nat) (i v : Int) : jM := fun b j => if b = a ∧ j = i then v else m b j
def jur (m : Nat → Int → Option Nat) (a : Nat) (i : Int) (v : Option Nat) : Nat → Int → Option Nat := fun b j => if b = a ∧ j = i then v else m b j
def jsh (g : jG) (a : Nat) : Nat × Nat := g.1.getD a (0, 0)
def jpop : Nat → List jV → List jV → Option (List jV × List jV)
  | 0, acc, st => some (acc, st)
  | n + 1, acc, v :: st => jpop n (v :: acc) st
  | _ + 1, _, [] => none
/-- the receiver is there, and of its class -/
def jrc (rc : Nat) (g : jG) (as : List jV) : Bool := match as with
  | Sum.inr (Sum.inl (some a)) :: _ => rc == 0 || (jsh g a).1 == rc
  | _ => rc == 0
def jstep (o : jOp) (k : jK) (j : Nat) (ls st : List jV) (g : jG) (m : jM) : Option jR := match o with
  | Sum.inl s => (s ls st g m).bind fun q => k j q.1 q.2.1 q.2.2.1 q.2.2.2.1 q.2.2.2.2
  | Sum.inr (Sum.inl f) => f st g m
  | Sum.inr (Sum.inr c) => (jpop c.2.2.1 [] st).bind fun q => if jrc c.2.2.2.2.1 g q.1 = true ∧ q.2.length ≤ 8 then
      (k c.2.1 0 (q.1 ++ List.replicate (c.2.2.2.1 - c.2.2.1) jU) [] g m).bind fun r => k j c.1 ls (if c.2.2.2.2.2 = true then q.2 else r.1 :: q.2) r.2.1 r.2.2 else none
def jrun (P : Nat → Nat → jOp) : Nat → jK
  | 0 => fun _ _ _ _ _ _ => none
  | n + 1 => fun j pc ls st g m => jstep (P j pc) (jrun P n) j ls st g m
theorem jrun_0 (P : Nat → Nat → jOp) (j pc : Nat) (ls st : List jV) (g : jG) (m : jM) : jrun P 0 j pc ls st g m = none := rfl
theorem jrun_s (P : Nat → Nat → jOp) (n j pc : Nat) (ls st : List jV) (g : jG) (m : jM) : jrun P (n + 1) j pc ls st g m = jstep (P j pc) (jrun P n) j ls st g m := rfl
theorem jstep_mono {k k' : jK} (h : ∀ j pc ls st g m r, k j pc ls st g m = some r → k' j pc ls st g m = some r) (o : jOp) (j : Nat) (ls st : List jV) (g : jG) (m : jM) (r : jR) (e : jstep o k j ls st g m = some r) : jstep o k' j ls st g m = some r := by
  rcases o with s | f | c
  · obtain ⟨q, h1, h2⟩ := Option.bind_eq_some_iff.mp e
    exact Option.bind_eq_some_iff.mpr ⟨q, h1, h _ _ _ _ _ _ _ h2⟩
  · exact e
  · obtain ⟨q, h1, h2⟩ := Option.bind_eq_some_iff.mp e
    refine Option.bind_eq_some_iff.mpr ⟨q, h1, ?_⟩
    by_cases hc : jrc c.2.2.2.2.1 g q.1 = true ∧ q.2.length ≤ 8
    · rw [if_pos hc] at h2 ⊢
      obtain ⟨r1, h3, h4⟩ := Option.bind_eq_some_iff.mp h2
      exact Option.bind_eq_some_iff.mpr ⟨r1, h _ _ _ _ _ _ _ h3, h _ _ _ _ _ _ _ h4⟩
    · rw [if_neg hc] at h2
      cases h2
theorem jrun_mono1 (P : Nat → Nat → jOp) : ∀ (n j pc : Nat) (ls st : List jV) (g : jG) (m : jM) (r : jR), jrun P n j pc ls st g m = some r → jrun P (n + 1) j pc ls st g m = some r
  | 0, _, _, _, _, _, _, _, e => by rw [jrun_0] at e; cases e
  | n + 1, j, pc, ls, st, g, m, r, e => by
    rw [jrun_s] at e ⊢
    exact jstep_mono (jrun_mono1 P n) _ _ _ _ _ _ _ e
theorem jrun_mono (P : Nat → Nat → jOp) {n k : Nat} (h : n ≤ k) {j pc : Nat} {ls st : List jV} {g : jG} {m : jM} {r : jR} (e : jrun P n j pc ls st g m = some r) : jrun P k j pc ls st g m = some r := by
  induction h with
  | refl => exact e
  | step _ ih => exact jrun_mono1 P _ _ _ _ _ _ _ _ ih
/-- from here the method comes to its end, with Q of its answer and of what the cells then hold -/
def jwp (P : Nat → Nat → jOp) (j pc : Nat) (ls st : List jV) (g : jG) (m : jM) (Q : jV → jG → jM → Prop) : Prop := ∃ (n : Nat) (r : jR), jrun P n j pc ls st g m = some r ∧ Q r.1 r.2.1 r.2.2
section JW
variable {P : Nat → Nat → jOp} {j pc : Nat} {ls st : List jV} {g : jG} {m : jM} {Q : jV → jG → jM → Prop}
theorem jwp_mono {Q' : jV → jG → jM → Prop} (h : jwp P j pc ls st g m Q) (hq : ∀ r g' m', Q r g' m' → Q' r g' m') : jwp P j pc ls st g m Q' := by
  obtain ⟨n, r, e, q⟩ := h
  exact ⟨n, r, e, hq _ _ _ q⟩
theorem jwp_of {s : List jV → List jV → jG → jM → Option jS} (h : P j pc = Sum.inl s) : jwp P j pc ls st g m Q = ∃ q, s ls st g m = some q ∧ jwp P j q.1 q.2.1 q.2.2.1 q.2.2.2.1 q.2.2.2.2 Q := by
  refine propext ⟨fun ⟨n, r, e, q⟩ => ?_, fun ⟨q, hs, n, r, e, q2⟩ => ⟨n + 1, r, ?_, q2⟩⟩
  · cases n with
    | zero => rw [jrun_0] at e; cases e
    | succ n =>
      rw [jrun_s, h] at e
      obtain ⟨q1, h1, h2⟩ := Option.bind_eq_some_iff.mp e
      exact ⟨q1, h1, n, r, h2, q⟩
  · rw [jrun_s, h]
    exact Option.bind_eq_some_iff.mpr ⟨q, hs, e⟩
theorem jwp_step {s : List jV → List jV → jG → jM → Option jS} {pc' : Nat} {ls' st' : List jV} {g' : jG} {m' : jM} (h : P j pc = Sum.inl s) (hs : s ls st g m = some (pc', ls', st', g', m')) : jwp P j pc ls st g m Q = jwp P j pc' ls' st' g' m' Q := by
  rw [jwp_of h, hs]
  exact propext ⟨fun ⟨q, e, w⟩ => by cases e; exact w, fun w => ⟨_, rfl, w⟩⟩
theorem jwp_if {c : Prop} [Decidable c] {s : List jV → List jV → jG → jM → Option jS} {q1 q2 : jS} (h : P j pc = Sum.inl s) (hs : s ls st g m = if c then some q1 else some q2) :
    jwp P j pc ls st g m Q = if c then jwp P j q1.1 q1.2.1 q1.2.2.1 q1.2.2.2.1 q1.2.2.2.2 Q else jwp P j q2.1 q2.2.1 q2.2.2.1 q2.2.2.2.1 q2.2.2.2.2 Q := by
  by_cases hc : c
  · rw [if_pos hc] at hs ⊢
    exact jwp_step h hs
  · rw [if_neg hc] at hs ⊢
    exact jwp_step h hs
theorem jwp_chk {c : Prop} [Decidable c] {s : List jV → List jV → jG → jM → Option jS} {q1 : jS} (h : P j pc = Sum.inl s) (hs : s ls st g m = if c then some q1 else none) :
    jwp P j pc ls st g m Q = (c ∧ jwp P j q1.1 q1.2.1 q1.2.2.1 q1.2.2.2.1 q1.2.2.2.2 Q) := by
  by_cases hc : c
  · rw [if_pos hc] at hs
    rw [jwp_step h hs]
    exact propext ⟨fun w => ⟨hc, w⟩, fun w => w.2⟩
  · rw [if_neg hc] at hs
    rw [jwp_of h, hs]
    exact propext ⟨fun ⟨q, e, w⟩ => (by cases e), fun w => absurd w.1 hc⟩
theorem jwp_ret {f : List jV → jG → jM → Option jR} {r : jV} {g' : jG} {m' : jM} (h : P j pc = Sum.inr (Sum.inl f)) (hs : f st g m = some (r, g', m')) : jwp P j pc ls st g m Q = Q r g' m' := by
  refine propext ⟨fun ⟨n, r, e, q⟩ => ?_, fun q => ⟨1, _, by rw [jrun_s, h]; exact hs, q⟩⟩
  cases n with
  | zero => rw [jrun_0] at e; cases e
  | succ n =>
    rw [jrun_s, h] at e
    have e2 := hs.symm.trans e
    cases e2
    exact q
theorem jwp_retc {c : Prop} [Decidable c] {f : List jV → jG → jM → Option jR} {r : jV} {g' : jG} {m' : jM} (h : P j pc = Sum.inr (Sum.inl f)) (hs : f st g m = if c then some (r, g', m') else none) : jwp P j pc ls st g m Q = (c ∧ Q r g' m') := by
  by_cases hc : c
  · rw [if_pos hc] at hs
    rw [jwp_ret h hs]
    exact propext ⟨fun w => ⟨hc, w⟩, fun w => w.2⟩
  · rw [if_neg hc] at hs
    refine propext ⟨fun ⟨n, r, e, q⟩ => ?_, fun w => absurd w.1 hc⟩
    cases n with
    | zero => rw [jrun_0] at e; cases e
    | succ n =>
      rw [jrun_s, h] at e
      exact absurd (hs.symm.trans e) (by simp)
theorem jwp_call {nx j' n mL rc : Nat} {vd : Bool} {as rest : List jV} (h : P j pc = Sum.inr (Sum.inr (nx, j', n, mL, rc, vd))) (hp : jpop n [] st = some (as, rest)) (hl : rest.length ≤ 8) :
    jwp P j pc ls st g m Q = (jrc rc g as = true ∧ jwp P j' 0 (as ++ List.replicate (mL - n) jU) [] g m (fun r g' m' => jwp P j nx ls (if vd = true then rest else r :: rest) g' m' Q)) := by
  refine propext ⟨fun ⟨k, r, e, q⟩ => ?_, fun ⟨hc, k1, r1, e1, k2, r2, e2, q⟩ => ⟨max k1 k2 + 1, r2, ?_, q⟩⟩
  · cases k with
    | zero => rw [jrun_0] at e; cases e
    | succ k =>
      rw [jrun_s, h] at e
      obtain ⟨q1, h1, h2⟩ := Option.bind_eq_some_iff.mp e
      have h1 : jpop n [] st = some q1 := h1
      rw [hp] at h1
      cases h1
      by_cases hc : jrc rc g as = true ∧ rest.length ≤ 8
      · have h2 := (if_pos hc).symm.trans h2
        obtain ⟨r1, h3, h4⟩ := Option.bind_eq_some_iff.mp h2
        exact ⟨hc.1, k, r1, h3, k, r, h4, q⟩
      · have h2 := (if_neg hc).symm.trans h2
        cases h2
  · rw [jrun_s, h]
    refine Option.bind_eq_some_iff.mpr ⟨(as, rest), hp, (if_pos ⟨hc, hl⟩).trans ?_⟩
    exact Option.bind_eq_some_iff.mpr ⟨r1, jrun_mono P (Nat.le_max_left _ _) e1, jrun_mono P (Nat.le_max_right _ _) e2⟩
theorem jwp_callV {nx j' n mL rc : Nat} {vd : Bool} {a : Nat} {as rest : List jV} (h : P j pc = Sum.inr (Sum.inr (nx, j', n, mL, rc, vd))) (h0 : (rc == 0) = false) (hp : jpop n [] st = some (jO (some a) :: as, rest)) (hl : rest.length ≤ 8) :
    jwp P j pc ls st g m Q = ((jsh g a).1 = rc ∧ jwp P j' 0 ((jO (some a) :: as) ++ List.replicate (mL - n) jU) [] g m (fun r g' m' => jwp P j nx ls (if vd = true then rest else r :: rest) g' m' Q)) := by
  rw [jwp_call h hp hl]
  refine propext ⟨fun w => ⟨?_, w.2⟩, fun w => ⟨?_, w.2⟩⟩
  · have := w.1
    simpa [jrc, jO, h0] using this
  · simp [jrc, jO, h0, w.1]
theorem jwp_callS {nx j' n mL : Nat} {vd : Bool} {as rest : List jV} (h : P j pc = Sum.inr (Sum.inr (nx, j', n, mL, 0, vd))) (hp : jpop n [] st = some (as, rest)) (hl : rest.length ≤ 8) :
    jwp P j pc ls st g m Q = jwp P j' 0 (as ++ List.replicate (mL - n) jU) [] g m (fun r g' m' => jwp P j nx ls (if vd = true then rest else r :: rest) g' m' Q) := by
  rw [jwp_call h hp hl]
  refine propext ⟨fun w => w.2, fun w => ⟨?_, w⟩⟩
  unfold jrc
  split <;> rfl
theorem jwp_sw {c : Prop} [Decidable c] {a b : Nat} : jwp P j (if c then a else b) ls st g m Q = if c then jwp P j a ls st g m Q else jwp P j b ls st g m Q := by
  by_cases h : c
  · rw [if_pos h, if_pos h]
  · rw [if_neg h, if_neg h]
end JW
-- ===== the instructions =====
def jbad : jOp := Sum.inl fun _ _ _ _ => none
def o_push (nx : Nat) (z : Int) : jOp := Sum.inl fun ls st g m => some (nx, ls, jI z :: st, g, m)
def o_null (nx : Nat) : jOp := Sum.inl fun ls st g m => some (nx, ls, jO none :: st, g, m)
def o_iload (nx i : Nat) : jOp := Sum.inl fun ls st g m => match ls[i]? with
  | some (Sum.inl x) => some (nx, ls, jI x :: st, g, m)
  | _ => none
def o_aload (nx i : Nat) : jOp := Sum.inl fun ls st g m => match ls[i]? with
  | some (Sum.inr (Sum.inl o)) => some (nx, ls, jO o :: st, g, m)
  | _ => none
def o_istore (nx i : Nat) : jOp := Sum.inl fun ls st g m => match st with
  | Sum.inl x :: st => some (nx, ls.set i (jI x), st, g, m)
  | _ => none
def o_astore (nx i : Nat) : jOp := Sum.inl fun ls st g m => match st with
  | Sum.inr (Sum.inl o) :: st => some (nx, ls.set i (jO o), st, g, m)
  | _ => none
def o_iinc (nx i : Nat) (z : Int) : jOp := Sum.inl fun ls st g m => match ls[i]? with
  | some (Sum.inl x) => some (nx, ls.set i (jI (jwr (x + z))), st, g, m)
  | _ => none
def o_bin (nx : Nat) (f : Int → Int → Int) : jOp := Sum.inl fun ls st g m => match st with
  | Sum.inl y :: Sum.inl x :: st => some (nx, ls, jI (f x y) :: st, g, m)
  | _ => none
def f_add (x y : Int) : Int := jwr (x + y)
def f_sub (x y : Int) : Int := jwr (x - y)
def f_mul (x y : Int) : Int := jwr (x * y)
def f_and (x y : Int) : Int := (Int32.ofInt x &&& Int32.ofInt y).toInt
def f_or (x y : Int) : Int := (Int32.ofInt x ||| Int32.ofInt y).toInt
def f_xor (x y : Int) : Int := (Int32.ofInt x ^^^ Int32.ofInt y).toInt
def f_shl (x y : Int) : Int := (Int32.ofInt x <<< (Int32.ofInt y &&& 31)).toInt
def f_shr (x y : Int) : Int := (Int32.ofInt x >>> (Int32.ofInt y &&& 31)).toInt
def f_max (x y : Int) : Int := if x < y then y else x
def f_min (x y : Int) : Int := if y < x then y else x
def f_div (x y : Int) : Int := (Int32.ofInt x / Int32.ofInt y).toInt
def f_rem (x y : Int) : Int := (Int32.ofInt x - Int32.ofInt x / Int32.ofInt y * Int32.ofInt y).toInt
def o_mm (nx : Nat) (f : Int → Int → Int) : jOp := Sum.inl fun ls st g m => match st with
  | Sum.inl y :: Sum.inl x :: st => if st.length ≤ 8 then some (nx, ls, jI (f x y) :: st, g, m) else none
  | _ => none
def o_dv (nx : Nat) (f : Int → Int → Int) : jOp := Sum.inl fun ls st g m => match st with
  | Sum.inl y :: Sum.inl x :: st => if y ≠ 0 then some (nx, ls, jI (f x y) :: st, g, m) else none
  | _ => none
def o_if_eq (nx tg : Nat) : jOp := Sum.inl fun ls st g m => match st with
  | Sum.inl x :: st => if x = 0 then some (tg, ls, st, g, m) else some (nx, ls, st, g, m)
  | _ => none
def o_if_ne (nx tg : Nat) : jOp := Sum.inl fun ls st g m => match st with
  | Sum.inl x :: st => if x ≠ 0 then some (tg, ls, st, g, m) else some (nx, ls, st, g, m)
  | _ => none
def o_if_lt (nx tg : Nat) : jOp := Sum.inl fun ls st g m => match st with
  | Sum.inl x :: st => if x < 0 then some (tg, ls, st, g, m) else some (nx, ls, st, g, m)
  | _ => none
def o_if_ge (nx tg : Nat) : jOp := Sum.inl fun ls st g m => match st with
  | Sum.inl x :: st => if 0 ≤ x then some (tg, ls, st, g, m) else some (nx, ls, st, g, m)
  | _ => none
def o_if_gt (nx tg : Nat) : jOp := Sum.inl fun ls st g m => match st with
  | Sum.inl x :: st => if 0 < x then some (tg, ls, st, g, m) else some (nx, ls, st, g, m)
  | _ => none
def o_if_le (nx tg : Nat) : jOp := Sum.inl fun ls st g m => match st with
  | Sum.inl x :: st => if x ≤ 0 then some (tg, ls, st, g, m) else some (nx, ls, st, g, m)
  | _ => none
def o_ic_eq (nx tg : Nat) : jOp := Sum.inl fun ls st g m => match st with
  | Sum.inl y :: Sum.inl x :: st => if x = y then some (tg, ls, st, g, m) else some (nx, ls, st, g, m)
  | _ => none
def o_ic_ne (nx tg : Nat) : jOp := Sum.inl fun ls st g m => match st with
  | Sum.inl y :: Sum.inl x :: st => if x ≠ y then some (tg, ls, st, g, m) else some (nx, ls, st, g, m)
  | _ => none
def o_ic_lt (nx tg : Nat) : jOp := Sum.inl fun ls st g m => match st with
  | Sum.inl y :: Sum.inl x :: st => if x < y then some (tg, ls, st, g, m) else some (nx, ls, st, g, m)
  | _ => none
def o_ic_ge (nx tg : Nat) : jOp := Sum.inl fun ls st g m => match st with
  | Sum.inl y :: Sum.inl x :: st => if y ≤ x then some (tg, ls, st, g, m) else some (nx, ls, st, g, m)
  | _ => none
def o_ic_gt (nx tg : Nat) : jOp := Sum.inl fun ls st g m => match st with
  | Sum.inl y :: Sum.inl x :: st => if y < x then some (tg, ls, st, g, m) else some (nx, ls, st, g, m)
  | _ => none
def o_ic_le (nx tg : Nat) : jOp := Sum.inl fun ls st g m => match st with
  | Sum.inl y :: Sum.inl x :: st => if x ≤ y then some (tg, ls, st, g, m) else some (nx, ls, st, g, m)
  | _ => none
def o_goto (tg : Nat) : jOp := Sum.inl fun ls st g m => some (tg, ls, st, g, m)
def o_ifnull (nx tg : Nat) : jOp := Sum.inl fun ls st g m => match st with
  | Sum.inr (Sum.inl none) :: st => some (tg, ls, st, g, m)
  | Sum.inr (Sum.inl (some _)) :: st => some (nx, ls, st, g, m)
  | _ => none
def o_ifnonnull (nx tg : Nat) : jOp := Sum.inl fun ls st g m => match st with
  | Sum.inr (Sum.inl none) :: st => some (nx, ls, st, g, m)
  | Sum.inr (Sum.inl (some _)) :: st => some (tg, ls, st, g, m)
  | _ => none
def jsw (x : Int) (d : Nat) : List (Int × Nat) → Nat
  | [] => d
  | q :: r => if x = q.1 then q.2 else jsw x d r
def o_switch (d : Nat) (t : List (Int × Nat)) : jOp := Sum.inl fun ls st g m => match st with
  | Sum.inl x :: st => some (jsw x d t, ls, st, g, m)
  | _ => none
def o_getI (nx c : Nat) (f : Int) : jOp := Sum.inl fun ls st g m => match st with
  | Sum.inr (Sum.inl (some a)) :: st => if (jsh g a).1 = c then some (nx, ls, jI (m a f) :: st, g, m) else none
  | _ => none
def o_getR (nx c : Nat) (f : Int) : jOp := Sum.inl fun ls st g m => match st with
  | Sum.inr (Sum.inl (some a)) :: st => if (jsh g a).1 = c then some (nx, ls, jO (g.2 a f) :: st, g, m) else none
  | _ => none
def o_putI (nx c : Nat) (f : Int) : jOp := Sum.inl fun ls st g m => match st with
  | Sum.inl x :: Sum.inr (Sum.inl (some a)) :: st => if (jsh g a).1 = c then some (nx, ls, st, g, jup m a f x) else none
  | _ => none
def o_putR (nx c : Nat) (f : Int) : jOp := Sum.inl fun ls st g m => match st with
  | Sum.inr (Sum.inl o) :: Sum.inr (Sum.inl (some a)) :: st => if (jsh g a).1 = c then some (nx, ls, st, (g.1, jur g.2 a f o), m) else none
  | _ => none
def o_nald (nx kd : Nat) : jOp := Sum.inl fun ls st g m => match st with
  | Sum.inl i :: Sum.inr (Sum.inl (some a)) :: st => if (jsh g a).1 = kd ∧ 0 ≤ i ∧ i < (jsh g a).2 then some (nx, ls, jI (m a i) :: st, g, m) else none
  | _ => none
def o_aald (nx kd : Nat) : jOp := Sum.inl fun ls st g m => match st with
  | Sum.inl i :: Sum.inr (Sum.inl (some a)) :: st => if (jsh g a).1 = kd ∧ 0 ≤ i ∧ i < (jsh g a).2 then some (nx, ls, jO (g.2 a i) :: st, g, m) else none
  | _ => none
def o_iast (nx : Nat) : jOp := Sum.inl fun ls st g m => match st with
  | Sum.inl x :: Sum.inl i :: Sum.inr (Sum.inl (some a)) :: st => if (jsh g a).1 = 1 ∧ 0 ≤ i ∧ i < (jsh g a).2 then some (nx, ls, st, g, jup m a i x) else none
  | _ => none
def o_zast (nx : Nat) : jOp := Sum.inl fun ls st g m => match st with
  | Sum.inl x :: Sum.inl i :: Sum.inr (Sum.inl (some a)) :: st => if ((jsh g a).1 = 2 ∧ 0 ≤ i ∧ i < (jsh g a).2) ∧ (x = 0 ∨ x = 1) then some (nx, ls, st, g, jup m a i x) else none
  | _ => none
def o_aast (nx kd c : Nat) : jOp := Sum.inl fun ls st g m => match st with
  | Sum.inr (Sum.inl (some b)) :: Sum.inl i :: Sum.inr (Sum.inl (some a)) :: st => if ((jsh g a).1 = kd ∧ 0 ≤ i ∧ i < (jsh g a).2) ∧ (jsh g b).1 = c then some (nx, ls, st, (g.1, jur g.2 a i (some b)), m) else none
  | _ => none
def o_alen (nx kd : Nat) : jOp := Sum.inl fun ls st g m => match st with
  | Sum.inr (Sum.inl (some a)) :: st => if (jsh g a).1 = kd ∧ (jsh g a).2 ≤ 100000 then some (nx, ls, jI (jsh g a).2 :: st, g, m) else none
  | _ => none
def o_sald (nx : Nat) : jOp := Sum.inl fun ls st g m => match st with
  | Sum.inl i :: Sum.inr (Sum.inl (some 0)) :: st => if 0 ≤ i ∧ i < (jsh g 0).2 then some (nx, ls, jI (m 0 i) :: st, g, m) else none
  | _ => none
def o_slen (nx : Nat) : jOp := Sum.inl fun ls st g m => match st with
  | Sum.inr (Sum.inl (some 0)) :: st => if (jsh g 0).2 ≤ 100000 then some (nx, ls, jI (jsh g 0).2 :: st, g, m) else none
  | _ => none
def o_newa (nx kd : Nat) : jOp := Sum.inl fun ls st g m => match st with
  | Sum.inl n :: st => if 0 ≤ n ∧ n ≤ 100000 then some (nx, ls, jO (some g.1.length) :: st, (g.1 ++ [(kd, n.toNat)], g.2), m) else none
  | _ => none
def o_new (nx c n : Nat) : jOp := Sum.inl fun ls st g m => some (nx, ls, jO (some g.1.length) :: st, (g.1 ++ [(c, n)], g.2), m)
def o_dup (nx : Nat) : jOp := Sum.inl fun ls st g m => match st with
  | v :: st => some (nx, ls, v :: v :: st, g, m)
  | _ => none
def o_dup2 (nx : Nat) : jOp := Sum.inl fun ls st g m => match st with
  | v :: w :: st => some (nx, ls, v :: w :: v :: w :: st, g, m)
  | _ => none
def o_dupx1 (nx : Nat) : jOp := Sum.inl fun ls st g m => match st with
  | v :: w :: st => some (nx, ls, v :: w :: v :: st, g, m)
  | _ => none
def o_dupx2 (nx : Nat) : jOp := Sum.inl fun ls st g m => match st with
  | v :: w :: u :: st => some (nx, ls, v :: w :: u :: v :: st, g, m)
  | _ => none
def o_pop (nx : Nat) : jOp := Sum.inl fun ls st g m => match st with
  | _ :: st => some (nx, ls, st, g, m)
  | _ => none
def o_objinit (nx : Nat) : jOp := Sum.inl fun ls st g m => match st with
  | Sum.inr (Sum.inl (some _)) :: st => if st.length ≤ 8 then some (nx, ls, st, g, m) else none
  | _ => none
def o_iret : jOp := Sum.inr (Sum.inl fun st g m => match st with
  | [Sum.inl x] => some (jI x, g, m)
  | _ => none)
def o_zret : jOp := Sum.inr (Sum.inl fun st g m => match st with
  | [Sum.inl x] => if x = 0 ∨ x = 1 then some (jI x, g, m) else none
  | _ => none)
def o_aret : jOp := Sum.inr (Sum.inl fun st g m => match st with
  | [Sum.inr (Sum.inl o)] => some (jO o, g, m)
  | _ => none)
def o_vret : jOp := Sum.inr (Sum.inl fun st g m => match st with
  | [] => some (jU, g, m)
  | _ => none)
def o_call (nx j n mL rc : Nat) (vd : Bool) : jOp := Sum.inr (Sum.inr (nx, j, n, mL, rc, vd))
end
section
/-! THE SMALL MACHINE AND THE KIT'S: what a run of the small machine says of the machine -/
theorem jrg_wr (z : Int) : jrg (jwr z) := by unfold jrg jwr; omega
theorem jwr_id {z : Int} (h : jrg z) : jwr z = z := by unfold jrg at h; unfold jwr; omega
theorem jti {z : Int} (h : jrg z) : (Int32.ofInt z).toInt = z := by
  unfold jrg at h
  exact Int32.toInt_ofInt_of_le (by omega) (by omega)
theorem jrg_t (x : Int32) : jrg x.toInt := ⟨by have := x.le_toInt; omega, by have := x.toInt_lt; omega⟩
theorem jof_wr (z : Int) : Int32.ofInt (jwr z) = Int32.ofInt z := by
  apply Int32.toInt_inj.mp
  rw [jti (jrg_wr z), Int32.toInt_ofInt]
  unfold jwr
  show _ = Int.bmod z 4294967296
  rw [Int.bmod_def]
  split <;> omega
theorem jlt {x y : Int} (hx : jrg x) (hy : jrg y) : Int32.ofInt x < Int32.ofInt y ↔ x < y := by rw [Int32.lt_iff_toInt_lt, jti hx, jti hy]
theorem jle {x y : Int} (hx : jrg x) (hy : jrg y) : Int32.ofInt x ≤ Int32.ofInt y ↔ x ≤ y := by rw [Int32.le_iff_toInt_le, jti hx, jti hy]
theorem jeq {x y : Int} (hx : jrg x) (hy : jrg y) : Int32.ofInt x = Int32.ofInt y ↔ x = y := by rw [← Int32.toInt_inj, jti hx, jti hy]
theorem jz0 : (0 : Int32) = Int32.ofInt 0 := by decide
theorem jrg0 : jrg 0 := by unfold jrg; omega
theorem jin {i : Int} {n : Nat} (hi : jrg i) (h0 : 0 ≤ i) (h : i < n) : vp_in (Int32.ofInt i) n := by rw [vp_in_iff, jti hi]; exact ⟨h0, h⟩
theorem jcl_of {i : Int} (hi : jrg i) : (Int32.ofInt i).toNatClampNeg = i.toNat := by
  unfold jrg at hi
  exact Int32.toNatClampNeg_ofInt_of_le (by omega) (by omega)
def jcv (ad : Nat → Nat) (v : jV) : Value := match v with
  | Sum.inl x => .int (Int32.ofInt x)
  | Sum.inr (Sum.inl o) => va_rf (o.map ad)
  | Sum.inr (Sum.inr _) => .null
theorem jcv_cat (ad : Nat → Nat) (v : jV) : (jcv ad v).category = 1 := by
  rcases v with x | (_ | a) | u <;> rfl
def jok (N : Nat) (v : jV) : Prop := match v with
  | Sum.inl x => jrg x
  | Sum.inr (Sum.inl (some a)) => a < N
  | _ => True
theorem jok_mono {N N' : Nat} {v : jV} (h : jok N v) (hn : N ≤ N') : jok N' v := by
  rcases v with x | (_ | a) | u
  · exact h
  · trivial
  · exact Nat.lt_of_lt_of_le h hn
  · trivial
theorem jcv_ag {N : Nat} {ad ad' : Nat → Nat} (h : ∀ a, a < N → ad' a = ad a) {v : jV} (hv : jok N v) : jcv ad' v = jcv ad v := by
  rcases v with x | (_ | a) | u
  · rfl
  · rfl
  · show va_rf (some (ad' a)) = va_rf (some (ad a))
    rw [h a hv]
  · rfl
-- the locals
def jlp (ad : Nat → Nat) (i : Nat) (v : jV) : Option (Nat × Value) := match v with
  | Sum.inr (Sum.inr _) => none
  | v => some (i, jcv ad v)
theorem jlp_some {ad : Nat → Nat} {i : Nat} {v : jV} (h : v ≠ jU) : jlp ad i v = some (i, jcv ad v) := by
  rcases v with x | o | u
  · rfl
  · rfl
  · exact absurd rfl h
theorem jlp_of {ad : Nat → Nat} {i : Nat} {v : jV} {q : Nat × Value} (h : jlp ad i v = some q) : v ≠ jU ∧ q = (i, jcv ad v) := by
  rcases v with x | o | u
  · cases h; exact ⟨fun h => (by cases h), rfl⟩
  · cases h; exact ⟨fun h => (by cases h), rfl⟩
  · cases h
def jlv (ad : Nat → Nat) (ls : List jV) : List (Nat × Value) := (List.range ls.length).filterMap fun i => (ls[i]?).bind fun v => jlp ad i v
def jL (ad : Nat → Nat) (ls : List jV) (lsA : Array Slot) : Prop := lv_has lsA ls.length (jlv ad ls)
theorem jlv_mem {ad : Nat → Nat} {ls : List jV} {i : Nat} {v : jV} (h : ls[i]? = some v) (hv : v ≠ jU) : (i, jcv ad v) ∈ jlv ad ls := by
  refine List.mem_filterMap.mpr ⟨i, List.mem_range.mpr (List.getElem?_eq_some_iff.mp h).1, ?_⟩
  rw [h]
  exact jlp_some hv
theorem jlv_of {ad : Nat → Nat} {ls : List jV} {q : Nat × Value} (h : q ∈ jlv ad ls) : ∃ v, ls[q.1]? = some v ∧ v ≠ jU ∧ q.2 = jcv ad v := by
  obtain ⟨i, -, h2⟩ := List.mem_filterMap.mp h
  obtain ⟨v, h3, h4⟩ := Option.bind_eq_some_iff.mp h2
  obtain ⟨h5, h6⟩ := jlp_of h4
  subst h6
  exact ⟨v, h3, h5, rfl⟩
theorem jL_get {ad : Nat → Nat} {ls : List jV} {lsA : Array Slot} (h : jL ad ls lsA) {i : Nat} {v : jV} (hi : ls[i]? = some v) (hv : v ≠ jU) : lsA[i]? = some (.val (jcv ad v)) := h.2.2 (i, jcv ad v) (jlv_mem hi hv)
theorem jL_set {ad : Nat → Nat} {ls : List jV} {lsA : Array Slot} {i : Nat} {v : jV} {V : Value} (hV : jcv ad v = V) (h : lv_has lsA ls.length ((i, V) :: (jlv ad ls).filter (fun q => !(q.1 == i) && !(q.1 + 1 == i && q.2.category == 2)))) : jL ad (ls.set i v) lsA := by
  subst hV
  refine ⟨by rw [List.length_set]; exact h.1, h.2.1, fun q hq => ?_⟩
  obtain ⟨w, h1, h2, h3⟩ := jlv_of hq
  obtain ⟨k, V⟩ := q
  simp only at h1 h3
  subst h3
  by_cases hk : k = i
  · subst hk
    have hl : k < ls.length := by
      have := (List.getElem?_eq_some_iff.mp h1).1
      rwa [List.length_set] at this
    rw [List.getElem?_set_self hl] at h1
    cases h1
    exact h.2.2 _ List.mem_cons_self
  · rw [List.getElem?_set_ne (Ne.symm hk)] at h1
    refine h.2.2 (k, jcv ad w) (List.mem_cons_of_mem _ (List.mem_filter.mpr ⟨jlv_mem h1 h2, ?_⟩))
    simp [hk, jcv_cat]
theorem jL_ag {N : Nat} {ad ad' : Nat → Nat} (h : ∀ a, a < N → ad' a = ad a) {ls : List jV} {lsA : Array Slot} (hok : ∀ v ∈ ls, jok N v) (hl : jL ad ls lsA) : jL ad' ls lsA := by
  refine ⟨hl.1, hl.2.1, fun q hq => ?_⟩
  obtain ⟨w, h1, h2, h3⟩ := jlv_of hq
  obtain ⟨k, V⟩ := q
  simp only at h1 h3
  subst h3
  show lsA[k]? = _
  rw [jcv_ag h (hok w (List.mem_of_getElem? h1))]
  exact jL_get hl h1 h2
theorem jmap_ag {N : Nat} {ad ad' : Nat → Nat} (h : ∀ a, a < N → ad' a = ad a) {st : List jV} (hok : ∀ v ∈ st, jok N v) : st.map (jcv ad') = st.map (jcv ad) := List.map_congr_left fun v hv => jcv_ag h (hok v hv)
-- the cells
def jfv (ad : Nat → Nat) (g : jG) (m : jM) (k f : Nat) (b : Bool) : Value := if b = true then va_rf ((g.2 k f).map ad) else .int (Int32.ofInt (m k f))
def jfs (ad : Nat → Nat) (g : jG) (m : jM) (k : Nat) (bs : List Bool) : List Value := (List.range bs.length).map fun f => jfv ad g m k f (bs.getD f false)
def jce (tc : Nat → ClassId) (ad : Nat → Nat) (g : jG) (m : jM) (k : Nat) : va_E :=
  if (jsh g k).1 < 10 then
    if (jsh g k).1 ≤ 2 then .inl (tc (jsh g k).1, (jsh g k).2, .inl fun i => Int32.ofInt (m k i))
    else .inl (tc (jsh g k).1, (jsh g k).2, .inr (.inr (.inr (.inr fun i => (g.2 k i).map ad))))
  else .inr ((jsh g k).1 - 10, jfs ad g m k (tm_F ((jsh g k).1 - 10)))
def jcw (tc : Nat → ClassId) (ad : Nat → Nat) (g : jG) (m : jM) : va_W := (List.range (g.1.length - 1)).map fun k => (ad (k + 1), jce tc ad g m (k + 1))
theorem jcw_len (tc : Nat → ClassId) (ad : Nat → Nat) (g : jG) (m : jM) : (jcw tc ad g m).length = g.1.length - 1 := by simp [jcw]
theorem jcw_get {tc : Nat → ClassId} {ad : Nat → Nat} {g : jG} {m : jM} {k : Nat} (h0 : 0 < k) (hk : k < g.1.length) : (jcw tc ad g m)[k - 1]? = some (ad k, jce tc ad g m k) := by
  unfold jcw
  rw [List.getElem?_map, List.getElem?_range (by omega)]
  show some (ad (k - 1 + 1), jce tc ad g m (k - 1 + 1)) = _
  rw [show k - 1 + 1 = k by omega]
theorem jcw_at {tc : Nat → ClassId} {ad : Nat → Nat} {g : jG} {m : jM} {i : Nat} {q : Nat × va_E} (h : (jcw tc ad g m)[i]? = some q) : i + 1 < g.1.length ∧ q = (ad (i + 1), jce tc ad g m (i + 1)) := by
  have hl := (List.getElem?_eq_some_iff.mp h).1
  rw [jcw_len] at hl
  have h2 := jcw_get (tc := tc) (ad := ad) (g := g) (m := m) (k := i + 1) (by omega) (by omega)
  rw [Nat.add_sub_cancel] at h2
  exact ⟨by omega, Option.some.inj (h.symm.trans h2)⟩
theorem jsh_lt {g : jG} {a : Nat} (h : (jsh g a).1 ≠ 0) : a < g.1.length := by
  rcases Nat.lt_or_ge a g.1.length with q | q
  · exact q
  · exfalso
    apply h
    unfold jsh
    rw [List.getD_eq_getElem?_getD, List.getElem?_eq_none q]
    rfl
theorem jce_m {tc : Nat → ClassId} {ad : Nat → Nat} {g : jG} {m : jM} {a k : Nat} {i v : Int} (h : k ≠ a) : jce tc ad g (jup m a i v) k = jce tc ad g m k := by
  have e : ∀ j, jup m a i v k j = m k j := fun j => by unfold jup; rw [if_neg (fun q => h q.1)]
  unfold jce jfs jfv
  simp only [e]
theorem jce_r {tc : Nat → ClassId} {ad : Nat → Nat} {g : jG} {m : jM} {a k : Nat} {i : Int} {v : Option Nat} (h : k ≠ a) : jce tc ad (g.1, jur g.2 a i v) m k = jce tc ad g m k := by
  have e : ∀ j, jur g.2 a i v k j = g.2 k j := fun j => by unfold jur; rw [if_neg (fun q => h q.1)]
  unfold jce jfs jfv jsh
  simp only [e]
theorem jcw_set {tc : Nat → ClassId} {ad : Nat → Nat} {g g' : jG} {m m' : jM} {a : Nat} (h0 : 0 < a) (hl : g'.1.length = g.1.length) (h : ∀ k, k ≠ a → jce tc ad g' m' k = jce tc ad g m k) : jcw tc ad g' m' = (jcw tc ad g m).set (a - 1) (ad a, jce tc ad g' m' a) := by
  apply List.ext_getElem?
  intro i
  by_cases hi : i + 1 < g.1.length
  · have h1 := jcw_get (tc := tc) (ad := ad) (g := g') (m := m') (k := i + 1) (by omega) (by omega)
    have h2 := jcw_get (tc := tc) (ad := ad) (g := g) (m := m) (k := i + 1) (by omega) (by omega)
    rw [Nat.add_sub_cancel] at h1 h2
    rw [h1]
    by_cases ha : i + 1 = a
    · subst ha
      rw [Nat.add_sub_cancel, List.getElem?_set_self (by rw [jcw_len]; omega)]
    · rw [List.getElem?_set_ne (by omega), h2, h _ ha]
  · rw [List.getElem?_eq_none (by rw [jcw_len]; omega), List.getElem?_eq_none (by rw [List.length_set, jcw_len]; omega)]
theorem jce_ag {tc : Nat → ClassId} {ad ad' : Nat → Nat} {g g' : jG} {m : jM} {k N : Nat} (h : ∀ a, a < N → ad' a = ad a) (hr : ∀ i b, g.2 k i = some b → b < N) (hs : jsh g' k = jsh g k) (h2 : g'.2 = g.2) : jce tc ad' g' m k = jce tc ad g m k := by
  have e : ∀ i, (g'.2 k i).map ad' = (g.2 k i).map ad := by
    intro i
    rw [h2]
    cases hi : g.2 k i with
    | none => rfl
    | some b => show some (ad' b) = some (ad b); rw [h b (hr i b hi)]
  unfold jce jfs jfv
  simp only [e, hs]
theorem jcw_push {tc : Nat → ClassId} {ad ad' : Nat → Nat} {g : jG} {m : jM} {q : Nat × Nat} (h : ∀ a, a < g.1.length → ad' a = ad a) (hr : ∀ a i b, g.2 a i = some b → b < g.1.length) (h0 : 0 < g.1.length) :
    jcw tc ad' (g.1 ++ [q], g.2) m = jcw tc ad g m ++ [(ad' g.1.length, jce tc ad' (g.1 ++ [q], g.2) m g.1.length)] := by
  apply List.ext_getElem?
  intro i
  by_cases hi : i + 1 < g.1.length
  · have h1 := jcw_get (tc := tc) (ad := ad') (g := (g.1 ++ [q], g.2)) (m := m) (k := i + 1) (by omega) (by simp; omega)
    have h2 := jcw_get (tc := tc) (ad := ad) (g := g) (m := m) (k := i + 1) (by omega) (by omega)
    rw [Nat.add_sub_cancel] at h1 h2
    rw [h1, List.getElem?_append_left (by rw [jcw_len]; omega), h2, h _ hi, jce_ag (g := g) (g' := (g.1 ++ [q], g.2)) h (hr (i + 1)) ?_ rfl]
    unfold jsh
    simp only [List.getD_eq_getElem?_getD]
    rw [List.getElem?_append_left hi]
  · by_cases he : i + 1 = g.1.length
    · have h1 := jcw_get (tc := tc) (ad := ad') (g := (g.1 ++ [q], g.2)) (m := m) (k := i + 1) (by omega) (by simp; omega)
      rw [Nat.add_sub_cancel] at h1
      rw [h1, List.getElem?_append_right (by rw [jcw_len]; omega), jcw_len, show i - (g.1.length - 1) = 0 by omega, he]
      rfl
    · rw [List.getElem?_eq_none (by rw [jcw_len]; simp; omega), List.getElem?_eq_none (by simp [jcw_len]; omega)]
/-- what holds of the numbers and the references at every time -/
def jom (g : jG) (m : jM) : Prop := (∀ a i, jrg (m a i)) ∧ (∀ a i b, g.2 a i = some b → b < g.1.length) ∧ (∀ a, g.1.length ≤ a → ∀ i, m a i = 0 ∧ g.2 a i = none) ∧ (jsh g 0).1 = 9
theorem jom_up {g : jG} {m : jM} (h : jom g m) {a : Nat} {i v : Int} (ha : a < g.1.length) (hv : jrg v) : jom g (jup m a i v) := by
  obtain ⟨h1, h2, h3, h4⟩ := h
  refine ⟨fun b j => ?_, h2, fun b hb j => ⟨?_, (h3 b hb j).2⟩, h4⟩
  · unfold jup
    split
    · exact hv
    · exact h1 b j
  · unfold jup
    rw [if_neg (fun q => by omega)]
    exact (h3 b hb j).1
theorem jom_ur {g : jG} {m : jM} (h : jom g m) {a : Nat} {i : Int} {o : Option Nat} (ha : a < g.1.length) (hv : ∀ b, o = some b → b < g.1.length) : jom (g.1, jur g.2 a i o) m := by
  obtain ⟨h1, h2, h3, h4⟩ := h
  refine ⟨h1, fun b j x => ?_, fun b hb j => ⟨(h3 b hb j).1, ?_⟩, h4⟩
  · show jur g.2 a i o b j = some x → x < g.1.length
    unfold jur
    split
    · exact hv x
    · exact h2 b j x
  · show jur g.2 a i o b j = none
    have hb : g.1.length ≤ b := hb
    unfold jur
    rw [if_neg (fun q => by omega)]
    exact (h3 b hb j).2
theorem jsh_push {g : jG} {q : Nat × Nat} {r : Nat → Int → Option Nat} {a : Nat} (h : a < g.1.length) : jsh (g.1 ++ [q], r) a = jsh g a := by
  unfold jsh
  simp only [List.getD_eq_getElem?_getD]
  rw [List.getElem?_append_left h]
theorem jsh_last {g : jG} {q : Nat × Nat} {r : Nat → Int → Option Nat} : jsh (g.1 ++ [q], r) g.1.length = q := by
  unfold jsh
  simp [List.getD_eq_getElem?_getD]
theorem jom_push {g : jG} {m : jM} (h : jom g m) (q : Nat × Nat) : jom (g.1 ++ [q], g.2) m := by
  obtain ⟨h1, h2, h3, h4⟩ := h
  have h0 : 0 < g.1.length := jsh_lt (a := 0) (by rw [h4]; decide)
  refine ⟨h1, fun a i b hb => ?_, fun a ha i => h3 a ?_ i, by rw [jsh_push h0]; exact h4⟩
  · have := h2 a i b hb
    simp
    omega
  · simp at ha
    omega
end
section
/-! what stands at a point of a method's walk -/
def jtys (tc : Nat → ClassId) : List (ClassId × FieldType) := tm_T.map fun q => (tc q.1, q.2)
def jgw : List Cond := lw_tbl.filter goodWord
def jnest : Cond → Bool
  | .fieldLinkNest .. => true
  | .methodLinkNest .. => true
  | _ => false
def jNs (U : State) : Prop := (∀ w ∈ lw_tbl, jnest w = true → va_Nw w U) ∧ ∀ C, Cond.arrayOver (.object C) ∈ lw_tbl → va_AO C U
theorem jnest_tab {w : Cond} (h : jnest w = true) : w.onTables = true := by
  cases w <;> first | rfl | (cases h; done)
theorem jNs_warm {s U : State} (hW : s.WarmedH U.vm) (h : jNs s) : jNs U := by
  refine ⟨fun w hw hn => ?_, fun C hC => (h.2 C hC).moved hW.alike⟩
  have h1 := h.1 w hw hn
  cases w <;> first | (cases hn; done) | exact va_Nw.warmF hW h1 | exact va_Nw.warmM hW h1
theorem jNs_vm {s U : State} (hv : s.vm = U.vm) (hA : s.vm.Alike U.vm) (h : jNs s) : jNs U := ⟨fun w hw hn => va_Nw.same (jnest_tab hn) hv (h.1 w hw hn), fun C hC => (h.2 C hC).moved hA⟩
def jCx (j : Nat) (p : Program) (R : Room) (s : State) (mth : MethodId) (args : Array Value) (meth : Method) (c : Code) (D : va_G) (tc : Nat → ClassId) : Prop :=
  p.tables.exec = Jvm.exec ∧ c.code = tm_c j ∧ meth.sig.returnType = tm_r j ∧ c.maxLocals = tm_l j ∧ s.vm.findClass (tm_y j).cls = some mth.cls ∧ (∀ w ∈ jgw, w.before args s = true) ∧ meth.locks = false ∧ meth.name = (tm_y j).name ∧ tm_f j ≤ R.frames ∧ tm_o j ≤ R.locals ∧ va_K D vwCl (jtys tc) s ∧ jNs s
def jRep (D : va_G) (tc : Nat → ClassId) (A : Nat → Prop) (H0 : Heap) (ad : Nat → Nat) (g : jG) (m : jM) (H : Heap) (locs : List Loc) : Prop := va_P D vwCl (jcw tc ad g m) H ∧ va_D A (jcw tc ad g m) ∧ va_S A H0 H locs ∧ jom g m
def jScr (j : Nat) (A : Nat → Prop) (ad : Nat → Nat) (g : jG) (m : jM) (s : State) : Prop := j = tm_law → ∃ (b L : Nat) (xs : Nat → Int32), ad 0 = b ∧ va_X b L xs s s.heap ∧ b < s.heap.size ∧ ¬ A b ∧ jsh g 0 = (9, L) ∧ (∀ i : Nat, i < L → m 0 i = (xs i).toInt) ∧ L < 2147483648
def jAt (j : Nat) (p : Program) (R : Room) (s : State) (mth : MethodId) (args : Array Value) (meth : Method) (c : Code) (D : va_G) (tc : Nat → ClassId) (A : Nat → Prop) (ad : Nat → Nat) (ls st : List jV) (g : jG) (m : jM) (H : Heap) (locs : List Loc) (lsA : Array Slot) : Prop :=
  jCx j p R s mth args meth c D tc ∧ (∀ q, s.heap.size ≤ q → A q) ∧ jRep D tc A s.heap ad g m H locs ∧ jL ad ls lsA ∧ (∀ v ∈ ls, jok g.1.length v) ∧ (∀ v ∈ st, jok g.1.length v) ∧ ls.length = tm_l j ∧ jScr j A ad g m s
def jExt (g : jG) (m : jM) (g' : jG) (m' : jM) : Prop := (∃ t, g'.1 = g.1 ++ t) ∧ ∀ i, m' 0 i = m 0 i
def jcl (g g' : jG) : Nat := g'.1.length - g.1.length
def jsz (g : jG) : Nat := (g.1.map Prod.snd).sum
def jsl (g g' : jG) : Nat := jsz g' - jsz g
theorem jExt.rf {g : jG} {m : jM} : jExt g m g m := ⟨⟨[], by simp⟩, fun _ => rfl⟩
theorem jExt.trans {g g1 g2 : jG} {m m1 m2 : jM} (h : jExt g m g1 m1) (h' : jExt g1 m1 g2 m2) : jExt g m g2 m2 := by
  obtain ⟨⟨t, e⟩, k⟩ := h
  obtain ⟨⟨t', e'⟩, k'⟩ := h'
  exact ⟨⟨t ++ t', by rw [e', e, List.append_assoc]⟩, fun i => (k' i).trans (k i)⟩
theorem jExt.len {g g1 : jG} {m m1 : jM} (h : jExt g m g1 m1) : g.1.length ≤ g1.1.length := by
  obtain ⟨⟨t, e⟩, -⟩ := h
  rw [e, List.length_append]
  omega
theorem jExt.sz {g g1 : jG} {m m1 : jM} (h : jExt g m g1 m1) : jsz g ≤ jsz g1 := by
  obtain ⟨⟨t, e⟩, -⟩ := h
  unfold jsz
  rw [e, List.map_append, List.sum_append]
  omega
theorem jExt.sh {g g1 : jG} {m m1 : jM} (h : jExt g m g1 m1) {a : Nat} (ha : a < g.1.length) : jsh g1 a = jsh g a := by
  obtain ⟨⟨t, e⟩, -⟩ := h
  unfold jsh
  simp only [List.getD_eq_getElem?_getD]
  rw [e, List.getElem?_append_left ha]
theorem jScr.ext {j : Nat} {A : Nat → Prop} {ad ad' : Nat → Nat} {g g1 : jG} {m m1 : jM} {s : State} (h : jScr j A ad g m s) (hx : jExt g m g1 m1) (h9 : (jsh g 0).1 = 9) (ha : ∀ a, a < g.1.length → ad' a = ad a) : jScr j A ad' g1 m1 s := by
  intro hj
  have h0 : 0 < g.1.length := jsh_lt (a := 0) (by rw [h9]; decide)
  obtain ⟨b, L, xs, q1, q2, q3, q4, q5, q6, q7⟩ := h hj
  exact ⟨b, L, xs, (ha 0 h0).trans q1, q2, q3, q4, (hx.sh h0).trans q5, fun i hi => (hx.2 i).trans (q6 i hi), q7⟩
/-- the stack with which a method ends -/
def jst (ad : Nat → Nat) (r : jV) : List Value := match r with
  | Sum.inr (Sum.inr _) => []
  | v => [jcv ad v]
def jRet (j pc : Nat) (r : jV) : Prop := match r with
  | Sum.inl x => decode (tm_c j) pc = .ok (.ireturn, 1) ∧ (tm_r j = some .int ∨ (tm_r j = some .boolean ∧ (x = 0 ∨ x = 1)))
  | Sum.inr (Sum.inl _) => decode (tm_c j) pc = .ok (.areturn, 1) ∧ ∃ n, tm_r j = some (.object n)
  | Sum.inr (Sum.inr _) => decode (tm_c j) pc = .ok (.return_, 1) ∧ tm_r j = none
def jWs (l : Launch) (j pc : Nat) (ls st : List jV) (g : jG) (m : jM) (res : jR) : Prop := (jsh g 0).1 = 9 → jExt g m res.2.1 res.2.2 ∧
  ∀ (p : Program) (e : Env) (R : Room) (s : State) (mth : MethodId) (args : Array Value) (below : List Frame) (meth : Method) (c : Code) (D : va_G) (tc : Nat → ClassId) (A : Nat → Prop) (ad : Nat → Nat) (H : Heap) (locs : List Loc) (cells slots : Nat) (Q : State → Prop) (lsA : Array Slot),
    jAt j p R s mth args meth c D tc A ad ls st g m H locs lsA → cells + jcl g res.2.1 ≤ R.cells → slots + jsl g res.2.1 ≤ R.slots →
    (∀ (ad' : Nat → Nat) (H' : Heap) (locs' : List Loc) (lsA' : Array Slot) (pc' : Nat), (∀ a, a < g.1.length → ad' a = ad a) → jRep D tc A s.heap ad' res.2.1 res.2.2 H' locs' → jok res.2.1.1.length res.1 → jRet j pc' res.1 →
      W p l e R s mth args below meth c H' locs' (cells + jcl g res.2.1) (slots + jsl g res.2.1) Q (F0 mth pc' lsA' (jst ad' res.1))) →
    W p l e R s mth args below meth c H locs cells slots Q (F0 mth pc lsA (st.map (jcv ad)))
def jSnd (j pc : Nat) (o : jOp) : Prop := ∀ (l : Launch) (k : jK), (∀ j pc ls st g m res, k j pc ls st g m = some res → jWs l j pc ls st g m res) → ∀ ls st g m res, jstep o k j ls st g m = some res → jWs l j pc ls st g m res
theorem jAdq {P : Nat → Nat → jOp} (hP : ∀ j pc, jSnd j pc (P j pc)) (l : Launch) : ∀ (n j pc : Nat) (ls st : List jV) (g : jG) (m : jM) (res : jR), jrun P n j pc ls st g m = some res → jWs l j pc ls st g m res
  | 0, _, _, _, _, _, _, _, e => by rw [jrun_0] at e; cases e
  | n + 1, j, pc, ls, st, g, m, res, e => by
    rw [jrun_s] at e
    exact hP j pc l (jrun P n) (jAdq hP l n) ls st g m res e
def jSim (l : Launch) (j pc : Nat) (ls st : List jV) (g : jG) (m : jM) (q : jS) : Prop := (jsh g 0).1 = 9 → jExt g m q.2.2.2.1 q.2.2.2.2 ∧
  ∀ (p : Program) (e : Env) (R : Room) (s : State) (mth : MethodId) (args : Array Value) (below : List Frame) (meth : Method) (c : Code) (D : va_G) (tc : Nat → ClassId) (A : Nat → Prop) (ad : Nat → Nat) (H : Heap) (locs : List Loc) (cells slots : Nat) (Q : State → Prop) (lsA : Array Slot),
    jAt j p R s mth args meth c D tc A ad ls st g m H locs lsA → cells + jcl g q.2.2.2.1 ≤ R.cells → slots + jsl g q.2.2.2.1 ≤ R.slots →
    (∀ (ad' : Nat → Nat) (H' : Heap) (locs' : List Loc) (lsA' : Array Slot), (∀ a, a < g.1.length → ad' a = ad a) → jAt j p R s mth args meth c D tc A ad' q.2.1 q.2.2.1 q.2.2.2.1 q.2.2.2.2 H' locs' lsA' →
      W p l e R s mth args below meth c H' locs' (cells + jcl g q.2.2.2.1) (slots + jsl g q.2.2.2.1) Q (F0 mth q.1 lsA' (q.2.2.1.map (jcv ad')))) →
    W p l e R s mth args below meth c H locs cells slots Q (F0 mth pc lsA (st.map (jcv ad)))
theorem jSim_then {l : Launch} {j pc : Nat} {ls st : List jV} {g : jG} {m : jM} {q : jS} {res : jR} (h : jSim l j pc ls st g m q) (w : jWs l j q.1 q.2.1 q.2.2.1 q.2.2.2.1 q.2.2.2.2 res) : jWs l j pc ls st g m res := by
  intro h9
  obtain ⟨x1, w1⟩ := h h9
  have h0 : 0 < g.1.length := jsh_lt (a := 0) (by rw [h9]; decide)
  obtain ⟨x2, w2⟩ := w (by rw [x1.sh h0]; exact h9)
  have l1 := x1.len
  have l2 := x2.len
  have z1 := x1.sz
  have z2 := x2.sz
  refine ⟨x1.trans x2, fun p e R s mth args below meth c D tc A ad H locs cells slots Q lsA hAt hc hs fin => ?_⟩
  unfold jcl jsl at *
  refine w1 p e R s mth args below meth c D tc A ad H locs cells slots Q lsA hAt (by omega) (by omega) fun ad1 H1 locs1 lsA1 ag1 hAt1 => ?_
  refine w2 p e R s mth args below meth c D tc A ad1 H1 locs1 _ _ Q lsA1 hAt1 (by omega) (by omega) fun ad2 H2 locs2 lsA2 pc2 ag2 hR hk hr => ?_
  have k := fin ad2 H2 locs2 lsA2 pc2 (fun a ha => (ag2 a (by omega)).trans (ag1 a ha)) hR hk hr
  rw [show cells + (q.2.2.2.1.1.length - g.1.length) + (res.2.1.1.length - q.2.2.2.1.1.length) = cells + (res.2.1.1.length - g.1.length) by omega,
    show slots + (jsz q.2.2.2.1 - jsz g) + (jsz res.2.1 - jsz q.2.2.2.1) = slots + (jsz res.2.1 - jsz g) by omega]
  exact k
theorem jSnd_step {j pc : Nat} {s : List jV → List jV → jG → jM → Option jS} (h : ∀ (l : Launch) (ls st : List jV) (g : jG) (m : jM) (q : jS), s ls st g m = some q → jSim l j pc ls st g m q) : jSnd j pc (Sum.inl s) := by
  intro l k hk ls st g m res e
  obtain ⟨q, h1, h2⟩ := Option.bind_eq_some_iff.mp e
  exact jSim_then (h l ls st g m q h1) (hk _ _ _ _ _ _ _ h2)
theorem jcl_rf (g : jG) : jcl g g = 0 := Nat.sub_self _
theorem jsl_rf (g : jG) : jsl g g = 0 := Nat.sub_self _
theorem jSim_pure {l : Launch} {j pc pc' : Nat} {ls st ls' st' : List jV} {g : jG} {m : jM} (hl : ls'.length = ls.length) (hok : jom g m → (∀ v ∈ ls, jok g.1.length v) → (∀ v ∈ st, jok g.1.length v) → (∀ v ∈ ls', jok g.1.length v) ∧ (∀ v ∈ st', jok g.1.length v))
    (hw : ∀ (p : Program) (e : Env) (R : Room) (s : State) (mth : MethodId) (args : Array Value) (below : List Frame) (meth : Method) (c : Code) (D : va_G) (tc : Nat → ClassId) (A : Nat → Prop) (ad : Nat → Nat) (H : Heap) (locs : List Loc) (cells slots : Nat) (Q : State → Prop) (lsA : Array Slot), jAt j p R s mth args meth c D tc A ad ls st g m H locs lsA → cells ≤ R.cells → slots ≤ R.slots →
      (∀ lsA' : Array Slot, jL ad ls' lsA' → W p l e R s mth args below meth c H locs cells slots Q (F0 mth pc' lsA' (st'.map (jcv ad)))) → W p l e R s mth args below meth c H locs cells slots Q (F0 mth pc lsA (st.map (jcv ad)))) : jSim l j pc ls st g m (pc', ls', st', g, m) := by
  intro h9
  refine ⟨jExt.rf, fun p e R s mth args below meth c D tc A ad H locs cells slots Q lsA hAt hc hs kk => ?_⟩
  have kk := fun ad' H' locs' lsA' h1 h2 => kk ad' H' locs' lsA' h1 h2
  simp only [jcl_rf, jsl_rf, Nat.add_zero] at hc hs kk
  refine hw p e R s mth args below meth c D tc A ad H locs cells slots Q lsA hAt hc hs fun lsA' hL => ?_
  obtain ⟨hC, hAA, hR, hl0, k1, k2, hn, hX⟩ := hAt
  obtain ⟨o1, o2⟩ := hok hR.2.2.2 k1 k2
  exact kk ad H locs lsA' (fun _ _ => rfl) ⟨hC, hAA, hR, hL, o1, o2, hl.trans hn, hX⟩
theorem jok_cons {N : Nat} {v : jV} {st : List jV} (h : jok N v) (hs : ∀ v ∈ st, jok N v) : ∀ w ∈ v :: st, jok N w := by
  intro w hw
  rcases List.mem_cons.mp hw with rfl | hw
  · exact h
  · exact hs w hw
theorem jok_t {N : Nat} {v : jV} {st : List jV} (hs : ∀ w ∈ v :: st, jok N w) : ∀ w ∈ st, jok N w := fun w hw => hs w (List.mem_cons_of_mem _ hw)
theorem jok_h {N : Nat} {v : jV} {st : List jV} (hs : ∀ w ∈ v :: st, jok N w) : jok N v := hs v List.mem_cons_self
theorem jok_set {N i : Nat} {v : jV} {ls : List jV} (h : jok N v) (hs : ∀ v ∈ ls, jok N v) : ∀ w ∈ ls.set i v, jok N w := by
  intro w hw
  rcases List.mem_or_eq_of_mem_set hw with q | q
  · exact hs w q
  · rw [q]; exact h
theorem jnU_I {x : Int} : (Sum.inl x : jV) ≠ jU := fun h => by cases h
theorem jnU_O {o : Option Nat} : (Sum.inr (Sum.inl o) : jV) ≠ jU := fun h => by cases h
theorem snd_bad (j pc : Nat) : jSnd j pc jbad := jSnd_step fun l ls st g m q h => by cases h
theorem snd_iconst {j pc : Nat} {n z : Int} (hd : decode (tm_c j) pc = .ok (.iconst n, 1)) (hn : Int32.ofInt n = Int32.ofInt z) (hz : jrg z) : jSnd j pc (o_push (pc + 1) z) := by
  refine jSnd_step fun l ls st g m q h => ?_
  obtain rfl := Option.some.inj h
  refine jSim_pure rfl (fun _ h1 h2 => ⟨h1, jok_cons hz h2⟩) fun p e R s mth args below meth c D tc A ad H locs cells slots Q lsA hA hce hsl kk => ?_
  exact lv_iconst hA.1.1 hA.1.2.1 hd hn (kk lsA hA.2.2.2.1)
theorem snd_bipush {j pc : Nat} {n z : Int} (hd : decode (tm_c j) pc = .ok (.bipush n, 2)) (hn : (Int8.ofInt n).toInt32 = Int32.ofInt z) (hz : jrg z) : jSnd j pc (o_push (pc + 2) z) := by
  refine jSnd_step fun l ls st g m q h => ?_
  obtain rfl := Option.some.inj h
  refine jSim_pure rfl (fun _ h1 h2 => ⟨h1, jok_cons hz h2⟩) fun p e R s mth args below meth c D tc A ad H locs cells slots Q lsA hA hce hsl kk => ?_
  exact lv_bipush hA.1.1 hA.1.2.1 hd hn (kk lsA hA.2.2.2.1)
theorem snd_sipush {j pc : Nat} {n z : Int} (hd : decode (tm_c j) pc = .ok (.sipush n, 3)) (hn : (Int16.ofInt n).toInt32 = Int32.ofInt z) (hz : jrg z) : jSnd j pc (o_push (pc + 3) z) := by
  refine jSnd_step fun l ls st g m q h => ?_
  obtain rfl := Option.some.inj h
  refine jSim_pure rfl (fun _ h1 h2 => ⟨h1, jok_cons hz h2⟩) fun p e R s mth args below meth c D tc A ad H locs cells slots Q lsA hA hce hsl kk => ?_
  exact lv_sipush hA.1.1 hA.1.2.1 hd hn (kk lsA hA.2.2.2.1)
theorem snd_ldc {j pc i : Nat} {z : Int} (hd : decode (tm_c j) pc = .ok (.ldc i, 2)) (hw : Cond.constant (tm_y j).cls i (Int32.ofInt z) ∈ jgw) (hz : jrg z) : jSnd j pc (o_push (pc + 2) z) := by
  refine jSnd_step fun l ls st g m q h => ?_
  obtain rfl := Option.some.inj h
  refine jSim_pure rfl (fun _ h1 h2 => ⟨h1, jok_cons hz h2⟩) fun p e R s mth args below meth c D tc A ad H locs cells slots Q lsA hA hce hsl kk => ?_
  exact lv_ldc hA.1.1 hA.1.2.1 hA.1.2.2.2.2.1 (hA.1.2.2.2.2.2.1 _ hw) hd (kk lsA hA.2.2.2.1)
theorem snd_null {j pc : Nat} (hd : decode (tm_c j) pc = .ok (.aconst_null, 1)) : jSnd j pc (o_null (pc + 1)) := by
  refine jSnd_step fun l ls st g m q h => ?_
  obtain rfl := Option.some.inj h
  refine jSim_pure rfl (fun _ h1 h2 => ⟨h1, jok_cons trivial h2⟩) fun p e R s mth args below meth c D tc A ad H locs cells slots Q lsA hA hce hsl kk => ?_
  exact lv_null hA.1.1 hA.1.2.1 hd (kk lsA hA.2.2.2.1)
theorem snd_iload {j pc i : Nat} (hd : decode (tm_c j) pc = .ok (.iload i, 2)) : jSnd j pc (o_iload (pc + 2) i) := by
  refine jSnd_step fun l ls st g m q h => ?_
  split at h
  · rename_i x hx
    obtain rfl := Option.some.inj h
    refine jSim_pure rfl (fun _ h1 h2 => ⟨h1, jok_cons (h1 _ (List.mem_of_getElem? hx)) h2⟩) fun p e R s mth args below meth c D tc A ad H locs cells slots Q lsA hA hce hsl kk => ?_
    exact lv_iload hA.1.1 hA.1.2.1 hd (jL_get hA.2.2.2.1 hx jnU_I) (kk lsA hA.2.2.2.1)
  · cases h
theorem snd_iload_n {j pc i : Nat} {k : Fin 4} (hd : decode (tm_c j) pc = .ok (.iload_n k, 1)) (hk : (k : Nat) = i) : jSnd j pc (o_iload (pc + 1) i) := by
  refine jSnd_step fun l ls st g m q h => ?_
  split at h
  · rename_i x hx
    obtain rfl := Option.some.inj h
    refine jSim_pure rfl (fun _ h1 h2 => ⟨h1, jok_cons (h1 _ (List.mem_of_getElem? hx)) h2⟩) fun p e R s mth args below meth c D tc A ad H locs cells slots Q lsA hA hce hsl kk => ?_
    exact lv_iload_n hA.1.1 hA.1.2.1 hd hk (jL_get hA.2.2.2.1 hx jnU_I) (kk lsA hA.2.2.2.1)
  · cases h
theorem snd_aload {j pc i : Nat} (hd : decode (tm_c j) pc = .ok (.aload i, 2)) : jSnd j pc (o_aload (pc + 2) i) := by
  refine jSnd_step fun l ls st g m q h => ?_
  split at h
  · rename_i o hx
    obtain rfl := Option.some.inj h
    refine jSim_pure rfl (fun _ h1 h2 => ⟨h1, jok_cons (h1 _ (List.mem_of_getElem? hx)) h2⟩) fun p e R s mth args below meth c D tc A ad H locs cells slots Q lsA hA hce hsl kk => ?_
    cases o with
    | none => exact lv_aloadN hA.1.1 hA.1.2.1 hd (jL_get hA.2.2.2.1 hx jnU_O) (kk lsA hA.2.2.2.1)
    | some a => exact lv_aload hA.1.1 hA.1.2.1 hd (jL_get hA.2.2.2.1 hx jnU_O) (kk lsA hA.2.2.2.1)
  · cases h
theorem snd_aload_n {j pc i : Nat} {k : Fin 4} (hd : decode (tm_c j) pc = .ok (.aload_n k, 1)) (hk : (k : Nat) = i) : jSnd j pc (o_aload (pc + 1) i) := by
  refine jSnd_step fun l ls st g m q h => ?_
  split at h
  · rename_i o hx
    obtain rfl := Option.some.inj h
    refine jSim_pure rfl (fun _ h1 h2 => ⟨h1, jok_cons (h1 _ (List.mem_of_getElem? hx)) h2⟩) fun p e R s mth args below meth c D tc A ad H locs cells slots Q lsA hA hce hsl kk => ?_
    cases o with
    | none => exact lv_aload_nN hA.1.1 hA.1.2.1 hd hk (jL_get hA.2.2.2.1 hx jnU_O) (kk lsA hA.2.2.2.1)
    | some a => exact lv_aload_n hA.1.1 hA.1.2.1 hd hk (jL_get hA.2.2.2.1 hx jnU_O) (kk lsA hA.2.2.2.1)
  · cases h
theorem snd_istore {j pc i : Nat} (hd : decode (tm_c j) pc = .ok (.istore i, 2)) (hi : i < tm_l j) : jSnd j pc (o_istore (pc + 2) i) := by
  refine jSnd_step fun l ls st g m q h => ?_
  split at h
  · rename_i x st'
    obtain rfl := Option.some.inj h
    refine jSim_pure (by simp) (fun _ h1 h2 => ⟨jok_set (jok_h h2) h1, jok_t h2⟩) fun p e R s mth args below meth c D tc A ad H locs cells slots Q lsA hA hce hsl kk => ?_
    exact lv_istore hA.1.1 hA.1.2.1 hd hA.2.2.2.1 (by rw [hA.2.2.2.2.2.2.1]; exact hi) rfl (fun ls' hl => kk ls' (jL_set rfl hl))
  · cases h
theorem snd_istore_n {j pc i : Nat} {k : Fin 4} (hd : decode (tm_c j) pc = .ok (.istore_n k, 1)) (hk : (k : Nat) = i) (hi : i < tm_l j) : jSnd j pc (o_istore (pc + 1) i) := by
  refine jSnd_step fun l ls st g m q h => ?_
  split at h
  · rename_i x st'
    obtain rfl := Option.some.inj h
    refine jSim_pure (by simp) (fun _ h1 h2 => ⟨jok_set (jok_h h2) h1, jok_t h2⟩) fun p e R s mth args below meth c D tc A ad H locs cells slots Q lsA hA hce hsl kk => ?_
    exact lv_istore_n hA.1.1 hA.1.2.1 hd hk hA.2.2.2.1 (by rw [hA.2.2.2.2.2.2.1]; exact hi) rfl (fun ls' hl => kk ls' (jL_set rfl hl))
  · cases h
theorem snd_astore {j pc i : Nat} (hd : decode (tm_c j) pc = .ok (.astore i, 2)) (hi : i < tm_l j) : jSnd j pc (o_astore (pc + 2) i) := by
  refine jSnd_step fun l ls st g m q h => ?_
  split at h
  · rename_i o st'
    obtain rfl := Option.some.inj h
    refine jSim_pure (by simp) (fun _ h1 h2 => ⟨jok_set (jok_h h2) h1, jok_t h2⟩) fun p e R s mth args below meth c D tc A ad H locs cells slots Q lsA hA hce hsl kk => ?_
    cases o with
    | none => exact lv_astoreN hA.1.1 hA.1.2.1 hd hA.2.2.2.1 (by rw [hA.2.2.2.2.2.2.1]; exact hi) rfl (fun ls' hl => kk ls' (jL_set rfl hl))
    | some a => exact lv_astore hA.1.1 hA.1.2.1 hd hA.2.2.2.1 (by rw [hA.2.2.2.2.2.2.1]; exact hi) rfl (fun ls' hl => kk ls' (jL_set rfl hl))
  · cases h
theorem snd_astore_n {j pc i : Nat} {k : Fin 4} (hd : decode (tm_c j) pc = .ok (.astore_n k, 1)) (hk : (k : Nat) = i) (hi : i < tm_l j) : jSnd j pc (o_astore (pc + 1) i) := by
  refine jSnd_step fun l ls st g m q h => ?_
  split at h
  · rename_i o st'
    obtain rfl := Option.some.inj h
    refine jSim_pure (by simp) (fun _ h1 h2 => ⟨jok_set (jok_h h2) h1, jok_t h2⟩) fun p e R s mth args below meth c D tc A ad H locs cells slots Q lsA hA hce hsl kk => ?_
    cases o with
    | none => exact lv_astore_nN hA.1.1 hA.1.2.1 hd hk hA.2.2.2.1 (by rw [hA.2.2.2.2.2.2.1]; exact hi) rfl (fun ls' hl => kk ls' (jL_set rfl hl))
    | some a => exact lv_astore_n hA.1.1 hA.1.2.1 hd hk hA.2.2.2.1 (by rw [hA.2.2.2.2.2.2.1]; exact hi) rfl (fun ls' hl => kk ls' (jL_set rfl hl))
  · cases h
theorem snd_iinc {j pc i : Nat} {z : Int} (hd : decode (tm_c j) pc = .ok (.iinc i z, 3)) (hi : i < tm_l j) : jSnd j pc (o_iinc (pc + 3) i z) := by
  refine jSnd_step fun l ls st g m q h => ?_
  split at h
  · rename_i x hx
    obtain rfl := Option.some.inj h
    refine jSim_pure (by simp) (fun _ h1 h2 => ⟨jok_set (jrg_wr _) h1, h2⟩) fun p e R s mth args below meth c D tc A ad H locs cells slots Q lsA hA hce hsl kk => ?_
    obtain ⟨k, hk⟩ := List.getElem?_of_mem (jlv_mem (ad := ad) hx jnU_I)
    exact lv_iinc hA.1.1 hA.1.2.1 hd hA.2.2.2.1 hk (v := Int32.ofInt (jwr (x + z))) (by rw [jof_wr, Int32.ofInt_add]) (by rw [hA.2.2.2.2.2.2.1]; exact hi) rfl (fun ls' hl => kk ls' (jL_set rfl hl))
  · cases h
theorem jf_add {x y : Int} : Int32.ofInt (f_add x y) = Int32.ofInt x + Int32.ofInt y := by unfold f_add; rw [jof_wr, Int32.ofInt_add]
theorem jf_sub {x y : Int} : Int32.ofInt (f_sub x y) = Int32.ofInt x - Int32.ofInt y := by unfold f_sub; rw [jof_wr, Int32.ofInt_sub]
theorem jf_mul {x y : Int} : Int32.ofInt (f_mul x y) = Int32.ofInt x * Int32.ofInt y := by unfold f_mul; rw [jof_wr, Int32.ofInt_mul]
theorem jf_and {x y : Int} : Int32.ofInt (f_and x y) = Int32.ofInt x &&& Int32.ofInt y := Int32.ofInt_toInt _
theorem jf_or {x y : Int} : Int32.ofInt (f_or x y) = Int32.ofInt x ||| Int32.ofInt y := Int32.ofInt_toInt _
theorem jf_xor {x y : Int} : Int32.ofInt (f_xor x y) = Int32.ofInt x ^^^ Int32.ofInt y := Int32.ofInt_toInt _
theorem jf_shl {x y : Int} : Int32.ofInt (f_shl x y) = Int32.ofInt x <<< (Int32.ofInt y &&& 31) := Int32.ofInt_toInt _
theorem jf_shr {x y : Int} : Int32.ofInt (f_shr x y) = Int32.ofInt x >>> (Int32.ofInt y &&& 31) := Int32.ofInt_toInt _
theorem jf_div {x y : Int} : Int32.ofInt (f_div x y) = Int32.ofInt x / Int32.ofInt y := Int32.ofInt_toInt _
theorem jf_rem {x y : Int} : Int32.ofInt (f_rem x y) = Int32.ofInt x - Int32.ofInt x / Int32.ofInt y * Int32.ofInt y := Int32.ofInt_toInt _
theorem snd_iadd {j pc : Nat} (hd : decode (tm_c j) pc = .ok (.iadd, 1)) : jSnd j pc (o_bin (pc + 1) f_add) := by
  refine jSnd_step fun l ls st g m q h => ?_
  split at h
  · rename_i y x st'
    obtain rfl := Option.some.inj h
    refine jSim_pure rfl (fun _ h1 h2 => ⟨h1, jok_cons (show jrg (f_add x y) from jrg_wr _) (jok_t (jok_t h2))⟩) fun p e R s mth args below meth c D tc A ad H locs cells slots Q lsA hA hce hsl kk => ?_
    refine lv_iadd (x := Int32.ofInt x) (y := Int32.ofInt y) hA.1.1 hA.1.2.1 hd ?_
    rw [← jf_add]
    exact kk lsA hA.2.2.2.1
  · cases h
theorem snd_isub {j pc : Nat} (hd : decode (tm_c j) pc = .ok (.isub, 1)) : jSnd j pc (o_bin (pc + 1) f_sub) := by
  refine jSnd_step fun l ls st g m q h => ?_
  split at h
  · rename_i y x st'
    obtain rfl := Option.some.inj h
    refine jSim_pure rfl (fun _ h1 h2 => ⟨h1, jok_cons (show jrg (f_sub x y) from jrg_wr _) (jok_t (jok_t h2))⟩) fun p e R s mth args below meth c D tc A ad H locs cells slots Q lsA hA hce hsl kk => ?_
    refine lv_isub (x := Int32.ofInt x) (y := Int32.ofInt y) hA.1.1 hA.1.2.1 hd ?_
    rw [← jf_sub]
    exact kk lsA hA.2.2.2.1
  · cases h
theorem snd_imul {j pc : Nat} (hd : decode (tm_c j) pc = .ok (.imul, 1)) : jSnd j pc (o_bin (pc + 1) f_mul) := by
  refine jSnd_step fun l ls st g m q h => ?_
  split at h
  · rename_i y x st'
    obtain rfl := Option.some.inj h
    refine jSim_pure rfl (fun _ h1 h2 => ⟨h1, jok_cons (show jrg (f_mul x y) from jrg_wr _) (jok_t (jok_t h2))⟩) fun p e R s mth args below meth c D tc A ad H locs cells slots Q lsA hA hce hsl kk => ?_
    refine lv_imul (x := Int32.ofInt x) (y := Int32.ofInt y) hA.1.1 hA.1.2.1 hd ?_
    rw [← jf_mul]
    exact kk lsA hA.2.2.2.1
  · cases h
theorem snd_iand {j pc : Nat} (hd : decode (tm_c j) pc = .ok (.iand, 1)) : jSnd j pc (o_bin (pc + 1) f_and) := by
  refine jSnd_step fun l ls st g m q h => ?_
  split at h
  · rename_i y x st'
    obtain rfl := Option.some.inj h
    refine jSim_pure rfl (fun _ h1 h2 => ⟨h1, jok_cons (show jrg (f_and x y) from jrg_t _) (jok_t (jok_t h2))⟩) fun p e R s mth args below meth c D tc A ad H locs cells slots Q lsA hA hce hsl kk => ?_
    refine lv_iand (x := Int32.ofInt x) (y := Int32.ofInt y) hA.1.1 hA.1.2.1 hd ?_
    rw [← jf_and]
    exact kk lsA hA.2.2.2.1
  · cases h
theorem snd_ior {j pc : Nat} (hd : decode (tm_c j) pc = .ok (.ior, 1)) : jSnd j pc (o_bin (pc + 1) f_or) := by
  refine jSnd_step fun l ls st g m q h => ?_
  split at h
  · rename_i y x st'
    obtain rfl := Option.some.inj h
    refine jSim_pure rfl (fun _ h1 h2 => ⟨h1, jok_cons (show jrg (f_or x y) from jrg_t _) (jok_t (jok_t h2))⟩) fun p e R s mth args below meth c D tc A ad H locs cells slots Q lsA hA hce hsl kk => ?_
    refine lv_ior (x := Int32.ofInt x) (y := Int32.ofInt y) hA.1.1 hA.1.2.1 hd ?_
    rw [← jf_or]
    exact kk lsA hA.2.2.2.1
  · cases h
theorem snd_ixor {j pc : Nat} (hd : decode (tm_c j) pc = .ok (.ixor, 1)) : jSnd j pc (o_bin (pc + 1) f_xor) := by
  refine jSnd_step fun l ls st g m q h => ?_
  split at h
  · rename_i y x st'
    obtain rfl := Option.some.inj h
    refine jSim_pure rfl (fun _ h1 h2 => ⟨h1, jok_cons (show jrg (f_xor x y) from jrg_t _) (jok_t (jok_t h2))⟩) fun p e R s mth args below meth c D tc A ad H locs cells slots Q lsA hA hce hsl kk => ?_
    refine lv_ixor (x := Int32.ofInt x) (y := Int32.ofInt y) hA.1.1 hA.1.2.1 hd ?_
    rw [← jf_xor]
    exact kk lsA hA.2.2.2.1
  · cases h
theorem snd_ishl {j pc : Nat} (hd : decode (tm_c j) pc = .ok (.ishl, 1)) : jSnd j pc (o_bin (pc + 1) f_shl) := by
  refine jSnd_step fun l ls st g m q h => ?_
  split at h
  · rename_i y x st'
    obtain rfl := Option.some.inj h
    refine jSim_pure rfl (fun _ h1 h2 => ⟨h1, jok_cons (show jrg (f_shl x y) from jrg_t _) (jok_t (jok_t h2))⟩) fun p e R s mth args below meth c D tc A ad H locs cells slots Q lsA hA hce hsl kk => ?_
    refine lv_ishl (x := Int32.ofInt x) (y := Int32.ofInt y) hA.1.1 hA.1.2.1 hd ?_
    rw [← jf_shl]
    exact kk lsA hA.2.2.2.1
  · cases h
theorem snd_ishr {j pc : Nat} (hd : decode (tm_c j) pc = .ok (.ishr, 1)) : jSnd j pc (o_bin (pc + 1) f_shr) := by
  refine jSnd_step fun l ls st g m q h => ?_
  split at h
  · rename_i y x st'
    obtain rfl := Option.some.inj h
    refine jSim_pure rfl (fun _ h1 h2 => ⟨h1, jok_cons (show jrg (f_shr x y) from jrg_t _) (jok_t (jok_t h2))⟩) fun p e R s mth args below meth c D tc A ad H locs cells slots Q lsA hA hce hsl kk => ?_
    refine lv_ishr (x := Int32.ofInt x) (y := Int32.ofInt y) hA.1.1 hA.1.2.1 hd ?_
    rw [← jf_shr]
    exact kk lsA hA.2.2.2.1
  · cases h
theorem snd_idiv {j pc : Nat} (hd : decode (tm_c j) pc = .ok (.idiv, 1)) : jSnd j pc (o_dv (pc + 1) f_div) := by
  refine jSnd_step fun l ls st g m q h => ?_
  split at h
  · rename_i y x st'
    by_cases hy : y ≠ 0
    · rw [if_pos hy] at h
      obtain rfl := Option.some.inj h
      refine jSim_pure rfl (fun _ h1 h2 => ⟨h1, jok_cons (show jrg (f_div x y) from jrg_t _) (jok_t (jok_t h2))⟩) fun p e R s mth args below meth c D tc A ad H locs cells slots Q lsA hA hce hsl kk => ?_
      have hry : jrg y := jok_h hA.2.2.2.2.2.1
      refine lv_idiv (x := Int32.ofInt x) (y := Int32.ofInt y) hA.1.1 hA.1.2.1 hd (fun hz => hy ?_) ?_
      · rw [jz0] at hz
        exact (jeq hry jrg0).mp hz
      · rw [← jf_div]
        exact kk lsA hA.2.2.2.1
    · rw [if_neg hy] at h
      cases h
  · cases h
theorem snd_irem {j pc : Nat} (hd : decode (tm_c j) pc = .ok (.irem, 1)) : jSnd j pc (o_dv (pc + 1) f_rem) := by
  refine jSnd_step fun l ls st g m q h => ?_
  split at h
  · rename_i y x st'
    by_cases hy : y ≠ 0
    · rw [if_pos hy] at h
      obtain rfl := Option.some.inj h
      refine jSim_pure rfl (fun _ h1 h2 => ⟨h1, jok_cons (show jrg (f_rem x y) from jrg_t _) (jok_t (jok_t h2))⟩) fun p e R s mth args below meth c D tc A ad H locs cells slots Q lsA hA hce hsl kk => ?_
      have hry : jrg y := jok_h hA.2.2.2.2.2.1
      refine lv_irem (x := Int32.ofInt x) (y := Int32.ofInt y) hA.1.1 hA.1.2.1 hd (fun hz => hy ?_) ?_
      · rw [jz0] at hz
        exact (jeq hry jrg0).mp hz
      · rw [← jf_rem]
        exact kk lsA hA.2.2.2.1
    · rw [if_neg hy] at h
      cases h
  · cases h
theorem snd_if_eq {j pc tg : Nat} {off : Int} (hd : decode (tm_c j) pc = .ok (.ifCond .eq off, 3)) (ht : (pc : Int) + off = (tg : Int)) : jSnd j pc (o_if_eq (pc + 3) tg) := by
  refine jSnd_step fun l ls st g m q h => ?_
  split at h
  · rename_i x st'
    by_cases hc : x = 0
    · rw [if_pos hc] at h
      obtain rfl := Option.some.inj h
      refine jSim_pure rfl (fun _ h1 h2 => ⟨h1, jok_t h2⟩) fun p e R s mth args below meth c D tc A ad H locs cells slots Q lsA hA hce hsl kk => ?_
      have hx : jrg x := jok_h hA.2.2.2.2.2.1
      exact lv_if_eq (x := Int32.ofInt x) hA.1.1 hA.1.2.1 hd ht (fun _ => kk lsA hA.2.2.2.1) (fun q => absurd (by rw [jz0]; exact (jeq hx jrg0).mpr hc) q)
    · rw [if_neg hc] at h
      obtain rfl := Option.some.inj h
      refine jSim_pure rfl (fun _ h1 h2 => ⟨h1, jok_t h2⟩) fun p e R s mth args below meth c D tc A ad H locs cells slots Q lsA hA hce hsl kk => ?_
      have hx : jrg x := jok_h hA.2.2.2.2.2.1
      exact lv_if_eq (x := Int32.ofInt x) hA.1.1 hA.1.2.1 hd ht (fun q => absurd ((jeq hx jrg0).mp (by rw [← jz0]; exact q)) hc) (fun _ => kk lsA hA.2.2.2.1)
  · cases h
theorem snd_if_ne {j pc tg : Nat} {off : Int} (hd : decode (tm_c j) pc = .ok (.ifCond .ne off, 3)) (ht : (pc : Int) + off = (tg : Int)) : jSnd j pc (o_if_ne (pc + 3) tg) := by
  refine jSnd_step fun l ls st g m q h => ?_
  split at h
  · rename_i x st'
    by_cases hc : x ≠ 0
    · rw [if_pos hc] at h
      obtain rfl := Option.some.inj h
      refine jSim_pure rfl (fun _ h1 h2 => ⟨h1, jok_t h2⟩) fun p e R s mth args below meth c D tc A ad H locs cells slots Q lsA hA hce hsl kk => ?_
      have hx : jrg x := jok_h hA.2.2.2.2.2.1
      exact lv_if_ne (x := Int32.ofInt x) hA.1.1 hA.1.2.1 hd ht (fun _ => kk lsA hA.2.2.2.1) (fun q => absurd ((jeq hx jrg0).mp (by rw [← jz0]; exact q)) hc)
    · rw [if_neg hc] at h
      obtain rfl := Option.some.inj h
      refine jSim_pure rfl (fun _ h1 h2 => ⟨h1, jok_t h2⟩) fun p e R s mth args below meth c D tc A ad H locs cells slots Q lsA hA hce hsl kk => ?_
      have hx : jrg x := jok_h hA.2.2.2.2.2.1
      exact lv_if_ne (x := Int32.ofInt x) hA.1.1 hA.1.2.1 hd ht (fun q => absurd (by rw [jz0]; exact (jeq hx jrg0).mpr (Decidable.not_not.mp hc)) q) (fun _ => kk lsA hA.2.2.2.1)
  · cases h
theorem snd_if_lt {j pc tg : Nat} {off : Int} (hd : decode (tm_c j) pc = .ok (.ifCond .lt off, 3)) (ht : (pc : Int) + off = (tg : Int)) : jSnd j pc (o_if_lt (pc + 3) tg) := by
  refine jSnd_step fun l ls st g m q h => ?_
  split at h
  · rename_i x st'
    by_cases hc : x < 0
    · rw [if_pos hc] at h
      obtain rfl := Option.some.inj h
      refine jSim_pure rfl (fun _ h1 h2 => ⟨h1, jok_t h2⟩) fun p e R s mth args below meth c D tc A ad H locs cells slots Q lsA hA hce hsl kk => ?_
      have hx : jrg x := jok_h hA.2.2.2.2.2.1
      exact lv_if_lt (x := Int32.ofInt x) hA.1.1 hA.1.2.1 hd ht (fun _ => kk lsA hA.2.2.2.1) (fun q => absurd (by rw [jz0]; exact (jlt hx jrg0).mpr hc) q)
    · rw [if_neg hc] at h
      obtain rfl := Option.some.inj h
      refine jSim_pure rfl (fun _ h1 h2 => ⟨h1, jok_t h2⟩) fun p e R s mth args below meth c D tc A ad H locs cells slots Q lsA hA hce hsl kk => ?_
      have hx : jrg x := jok_h hA.2.2.2.2.2.1
      exact lv_if_lt (x := Int32.ofInt x) hA.1.1 hA.1.2.1 hd ht (fun q => absurd ((jlt hx jrg0).mp (by rw [← jz0]; exact q)) hc) (fun _ => kk lsA hA.2.2.2.1)
  · cases h
theorem snd_if_ge {j pc tg : Nat} {off : Int} (hd : decode (tm_c j) pc = .ok (.ifCond .ge off, 3)) (ht : (pc : Int) + off = (tg : Int)) : jSnd j pc (o_if_ge (pc + 3) tg) := by
  refine jSnd_step fun l ls st g m q h => ?_
  split at h
  · rename_i x st'
    by_cases hc : 0 ≤ x
    · rw [if_pos hc] at h
      obtain rfl := Option.some.inj h
      refine jSim_pure rfl (fun _ h1 h2 => ⟨h1, jok_t h2⟩) fun p e R s mth args below meth c D tc A ad H locs cells slots Q lsA hA hce hsl kk => ?_
      have hx : jrg x := jok_h hA.2.2.2.2.2.1
      exact lv_if_ge (x := Int32.ofInt x) hA.1.1 hA.1.2.1 hd ht (fun _ => kk lsA hA.2.2.2.1) (fun q => absurd (by rw [jz0]; exact (jle jrg0 hx).mpr hc) q)
    · rw [if_neg hc] at h
      obtain rfl := Option.some.inj h
      refine jSim_pure rfl (fun _ h1 h2 => ⟨h1, jok_t h2⟩) fun p e R s mth args below meth c D tc A ad H locs cells slots Q lsA hA hce hsl kk => ?_
      have hx : jrg x := jok_h hA.2.2.2.2.2.1
      exact lv_if_ge (x := Int32.ofInt x) hA.1.1 hA.1.2.1 hd ht (fun q => absurd ((jle jrg0 hx).mp (by rw [← jz0]; exact q)) hc) (fun _ => kk lsA hA.2.2.2.1)
  · cases h
theorem snd_if_gt {j pc tg : Nat} {off : Int} (hd : decode (tm_c j) pc = .ok (.ifCond .gt off, 3)) (ht : (pc : Int) + off = (tg : Int)) : jSnd j pc (o_if_gt (pc + 3) tg) := by
  refine jSnd_step fun l ls st g m q h => ?_
  split at h
  · rename_i x st'
    by_cases hc : 0 < x
    · rw [if_pos hc] at h
      obtain rfl := Option.some.inj h
      refine jSim_pure rfl (fun _ h1 h2 => ⟨h1, jok_t h2⟩) fun p e R s mth args below meth c D tc A ad H locs cells slots Q lsA hA hce hsl kk => ?_
      have hx : jrg x := jok_h hA.2.2.2.2.2.1
      exact lv_if_gt (x := Int32.ofInt x) hA.1.1 hA.1.2.1 hd ht (fun _ => kk lsA hA.2.2.2.1) (fun q => absurd (by rw [jz0]; exact (jlt jrg0 hx).mpr hc) q)
    · rw [if_neg hc] at h
      obtain rfl := Option.some.inj h
      refine jSim_pure rfl (fun _ h1 h2 => ⟨h1, jok_t h2⟩) fun p e R s mth args below meth c D tc A ad H locs cells slots Q lsA hA hce hsl kk => ?_
      have hx : jrg x := jok_h hA.2.2.2.2.2.1
      exact lv_if_gt (x := Int32.ofInt x) hA.1.1 hA.1.2.1 hd ht (fun q => absurd ((jlt jrg0 hx).mp (by rw [← jz0]; exact q)) hc) (fun _ => kk lsA hA.2.2.2.1)
  · cases h
theorem snd_if_le {j pc tg : Nat} {off : Int} (hd : decode (tm_c j) pc = .ok (.ifCond .le off, 3)) (ht : (pc : Int) + off = (tg : Int)) : jSnd j pc (o_if_le (pc + 3) tg) := by
  refine jSnd_step fun l ls st g m q h => ?_
  split at h
  · rename_i x st'
    by_cases hc : x ≤ 0
    · rw [if_pos hc] at h
      obtain rfl := Option.some.inj h
      refine jSim_pure rfl (fun _ h1 h2 => ⟨h1, jok_t h2⟩) fun p e R s mth args below meth c D tc A ad H locs cells slots Q lsA hA hce hsl kk => ?_
      have hx : jrg x := jok_h hA.2.2.2.2.2.1
      exact lv_if_le (x := Int32.ofInt x) hA.1.1 hA.1.2.1 hd ht (fun _ => kk lsA hA.2.2.2.1) (fun q => absurd (by rw [jz0]; exact (jle hx jrg0).mpr hc) q)
    · rw [if_neg hc] at h
      obtain rfl := Option.some.inj h
      refine jSim_pure rfl (fun _ h1 h2 => ⟨h1, jok_t h2⟩) fun p e R s mth args below meth c D tc A ad H locs cells slots Q lsA hA hce hsl kk => ?_
      have hx : jrg x := jok_h hA.2.2.2.2.2.1
      exact lv_if_le (x := Int32.ofInt x) hA.1.1 hA.1.2.1 hd ht (fun q => absurd ((jle hx jrg0).mp (by rw [← jz0]; exact q)) hc) (fun _ => kk lsA hA.2.2.2.1)
  · cases h
theorem snd_ic_eq {j pc tg : Nat} {off : Int} (hd : decode (tm_c j) pc = .ok (.if_icmp .eq off, 3)) (ht : (pc : Int) + off = (tg : Int)) : jSnd j pc (o_ic_eq (pc + 3) tg) := by
  refine jSnd_step fun l ls st g m q h => ?_
  split at h
  · rename_i y x st'
    by_cases hc : x = y
    · rw [if_pos hc] at h
      obtain rfl := Option.some.inj h
      refine jSim_pure rfl (fun _ h1 h2 => ⟨h1, jok_t (jok_t h2)⟩) fun p e R s mth args below meth c D tc A ad H locs cells slots Q lsA hA hce hsl kk => ?_
      have hy : jrg y := jok_h hA.2.2.2.2.2.1
      have hx : jrg x := jok_h (jok_t hA.2.2.2.2.2.1)
      exact lv_icmp_eq (x := Int32.ofInt x) (y := Int32.ofInt y) hA.1.1 hA.1.2.1 hd ht (fun _ => kk lsA hA.2.2.2.1) (fun q => absurd ((jeq hx hy).mpr hc) q)
    · rw [if_neg hc] at h
      obtain rfl := Option.some.inj h
      refine jSim_pure rfl (fun _ h1 h2 => ⟨h1, jok_t (jok_t h2)⟩) fun p e R s mth args below meth c D tc A ad H locs cells slots Q lsA hA hce hsl kk => ?_
      have hy : jrg y := jok_h hA.2.2.2.2.2.1
      have hx : jrg x := jok_h (jok_t hA.2.2.2.2.2.1)
      exact lv_icmp_eq (x := Int32.ofInt x) (y := Int32.ofInt y) hA.1.1 hA.1.2.1 hd ht (fun q => absurd ((jeq hx hy).mp q) hc) (fun _ => kk lsA hA.2.2.2.1)
  · cases h
theorem snd_ic_ne {j pc tg : Nat} {off : Int} (hd : decode (tm_c j) pc = .ok (.if_icmp .ne off, 3)) (ht : (pc : Int) + off = (tg : Int)) : jSnd j pc (o_ic_ne (pc + 3) tg) := by
  refine jSnd_step fun l ls st g m q h => ?_
  split at h
  · rename_i y x st'
    by_cases hc : x ≠ y
    · rw [if_pos hc] at h
      obtain rfl := Option.some.inj h
      refine jSim_pure rfl (fun _ h1 h2 => ⟨h1, jok_t (jok_t h2)⟩) fun p e R s mth args below meth c D tc A ad H locs cells slots Q lsA hA hce hsl kk => ?_
      have hy : jrg y := jok_h hA.2.2.2.2.2.1
      have hx : jrg x := jok_h (jok_t hA.2.2.2.2.2.1)
      exact lv_icmp_ne (x := Int32.ofInt x) (y := Int32.ofInt y) hA.1.1 hA.1.2.1 hd ht (fun _ => kk lsA hA.2.2.2.1) (fun q => absurd ((jeq hx hy).mp q) hc)
    · rw [if_neg hc] at h
      obtain rfl := Option.some.inj h
      refine jSim_pure rfl (fun _ h1 h2 => ⟨h1, jok_t (jok_t h2)⟩) fun p e R s mth args below meth c D tc A ad H locs cells slots Q lsA hA hce hsl kk => ?_
      have hy : jrg y := jok_h hA.2.2.2.2.2.1
      have hx : jrg x := jok_h (jok_t hA.2.2.2.2.2.1)
      exact lv_icmp_ne (x := Int32.ofInt x) (y := Int32.ofInt y) hA.1.1 hA.1.2.1 hd ht (fun q => absurd ((jeq hx hy).mpr (Decidable.not_not.mp hc)) q) (fun _ => kk lsA hA.2.2.2.1)
  · cases h
theorem snd_ic_lt {j pc tg : Nat} {off : Int} (hd : decode (tm_c j) pc = .ok (.if_icmp .lt off, 3)) (ht : (pc : Int) + off = (tg : Int)) : jSnd j pc (o_ic_lt (pc + 3) tg) := by
  refine jSnd_step fun l ls st g m q h => ?_
  split at h
  · rename_i y x st'
    by_cases hc : x < y
    · rw [if_pos hc] at h
      obtain rfl := Option.some.inj h
      refine jSim_pure rfl (fun _ h1 h2 => ⟨h1, jok_t (jok_t h2)⟩) fun p e R s mth args below meth c D tc A ad H locs cells slots Q lsA hA hce hsl kk => ?_
      have hy : jrg y := jok_h hA.2.2.2.2.2.1
      have hx : jrg x := jok_h (jok_t hA.2.2.2.2.2.1)
      exact lv_icmp_lt (x := Int32.ofInt x) (y := Int32.ofInt y) hA.1.1 hA.1.2.1 hd ht (fun _ => kk lsA hA.2.2.2.1) (fun q => absurd ((jlt hx hy).mpr hc) q)
    · rw [if_neg hc] at h
      obtain rfl := Option.some.inj h
      refine jSim_pure rfl (fun _ h1 h2 => ⟨h1, jok_t (jok_t h2)⟩) fun p e R s mth args below meth c D tc A ad H locs cells slots Q lsA hA hce hsl kk => ?_
      have hy : jrg y := jok_h hA.2.2.2.2.2.1
      have hx : jrg x := jok_h (jok_t hA.2.2.2.2.2.1)
      exact lv_icmp_lt (x := Int32.ofInt x) (y := Int32.ofInt y) hA.1.1 hA.1.2.1 hd ht (fun q => absurd ((jlt hx hy).mp q) hc) (fun _ => kk lsA hA.2.2.2.1)
  · cases h
theorem snd_ic_ge {j pc tg : Nat} {off : Int} (hd : decode (tm_c j) pc = .ok (.if_icmp .ge off, 3)) (ht : (pc : Int) + off = (tg : Int)) : jSnd j pc (o_ic_ge (pc + 3) tg) := by
  refine jSnd_step fun l ls st g m q h => ?_
  split at h
  · rename_i y x st'
    by_cases hc : y ≤ x
    · rw [if_pos hc] at h
      obtain rfl := Option.some.inj h
      refine jSim_pure rfl (fun _ h1 h2 => ⟨h1, jok_t (jok_t h2)⟩) fun p e R s mth args below meth c D tc A ad H locs cells slots Q lsA hA hce hsl kk => ?_
      have hy : jrg y := jok_h hA.2.2.2.2.2.1
      have hx : jrg x := jok_h (jok_t hA.2.2.2.2.2.1)
      exact lv_icmp_ge (x := Int32.ofInt x) (y := Int32.ofInt y) hA.1.1 hA.1.2.1 hd ht (fun _ => kk lsA hA.2.2.2.1) (fun q => absurd ((jle hy hx).mpr hc) q)
    · rw [if_neg hc] at h
      obtain rfl := Option.some.inj h
      refine jSim_pure rfl (fun _ h1 h2 => ⟨h1, jok_t (jok_t h2)⟩) fun p e R s mth args below meth c D tc A ad H locs cells slots Q lsA hA hce hsl kk => ?_
      have hy : jrg y := jok_h hA.2.2.2.2.2.1
      have hx : jrg x := jok_h (jok_t hA.2.2.2.2.2.1)
      exact lv_icmp_ge (x := Int32.ofInt x) (y := Int32.ofInt y) hA.1.1 hA.1.2.1 hd ht (fun q => absurd ((jle hy hx).mp q) hc) (fun _ => kk lsA hA.2.2.2.1)
  · cases h
theorem snd_ic_gt {j pc tg : Nat} {off : Int} (hd : decode (tm_c j) pc = .ok (.if_icmp .gt off, 3)) (ht : (pc : Int) + off = (tg : Int)) : jSnd j pc (o_ic_gt (pc + 3) tg) := by
  refine jSnd_step fun l ls st g m q h => ?_
  split at h
  · rename_i y x st'
    by_cases hc : y < x
    · rw [if_pos hc] at h
      obtain rfl := Option.some.inj h
      refine jSim_pure rfl (fun _ h1 h2 => ⟨h1, jok_t (jok_t h2)⟩) fun p e R s mth args below meth c D tc A ad H locs cells slots Q lsA hA hce hsl kk => ?_
      have hy : jrg y := jok_h hA.2.2.2.2.2.1
      have hx : jrg x := jok_h (jok_t hA.2.2.2.2.2.1)
      exact lv_icmp_gt (x := Int32.ofInt x) (y := Int32.ofInt y) hA.1.1 hA.1.2.1 hd ht (fun _ => kk lsA hA.2.2.2.1) (fun q => absurd ((jlt hy hx).mpr hc) q)
    · rw [if_neg hc] at h
      obtain rfl := Option.some.inj h
      refine jSim_pure rfl (fun _ h1 h2 => ⟨h1, jok_t (jok_t h2)⟩) fun p e R s mth args below meth c D tc A ad H locs cells slots Q lsA hA hce hsl kk => ?_
      have hy : jrg y := jok_h hA.2.2.2.2.2.1
      have hx : jrg x := jok_h (jok_t hA.2.2.2.2.2.1)
      exact lv_icmp_gt (x := Int32.ofInt x) (y := Int32.ofInt y) hA.1.1 hA.1.2.1 hd ht (fun q => absurd ((jlt hy hx).mp q) hc) (fun _ => kk lsA hA.2.2.2.1)
  · cases h
theorem snd_ic_le {j pc tg : Nat} {off : Int} (hd : decode (tm_c j) pc = .ok (.if_icmp .le off, 3)) (ht : (pc : Int) + off = (tg : Int)) : jSnd j pc (o_ic_le (pc + 3) tg) := by
  refine jSnd_step fun l ls st g m q h => ?_
  split at h
  · rename_i y x st'
    by_cases hc : x ≤ y
    · rw [if_pos hc] at h
      obtain rfl := Option.some.inj h
      refine jSim_pure rfl (fun _ h1 h2 => ⟨h1, jok_t (jok_t h2)⟩) fun p e R s mth args below meth c D tc A ad H locs cells slots Q lsA hA hce hsl kk => ?_
      have hy : jrg y := jok_h hA.2.2.2.2.2.1
      have hx : jrg x := jok_h (jok_t hA.2.2.2.2.2.1)
      exact lv_icmp_le (x := Int32.ofInt x) (y := Int32.ofInt y) hA.1.1 hA.1.2.1 hd ht (fun _ => kk lsA hA.2.2.2.1) (fun q => absurd ((jle hx hy).mpr hc) q)
    · rw [if_neg hc] at h
      obtain rfl := Option.some.inj h
      refine jSim_pure rfl (fun _ h1 h2 => ⟨h1, jok_t (jok_t h2)⟩) fun p e R s mth args below meth c D tc A ad H locs cells slots Q lsA hA hce hsl kk => ?_
      have hy : jrg y := jok_h hA.2.2.2.2.2.1
      have hx : jrg x := jok_h (jok_t hA.2.2.2.2.2.1)
      exact lv_icmp_le (x := Int32.ofInt x) (y := Int32.ofInt y) hA.1.1 hA.1.2.1 hd ht (fun q => absurd ((jle hx hy).mp q) hc) (fun _ => kk lsA hA.2.2.2.1)
  · cases h
theorem snd_goto {j pc tg : Nat} {off : Int} (hd : decode (tm_c j) pc = .ok (.goto off, 3)) (ht : (pc : Int) + off = (tg : Int)) : jSnd j pc (o_goto tg) := by
  refine jSnd_step fun l ls st g m q h => ?_
  obtain rfl := Option.some.inj h
  refine jSim_pure rfl (fun _ h1 h2 => ⟨h1, h2⟩) fun p e R s mth args below meth c D tc A ad H locs cells slots Q lsA hA hce hsl kk => ?_
  exact lv_goto hA.1.1 hA.1.2.1 hd ht (kk lsA hA.2.2.2.1)
theorem snd_ifnull {j pc tg : Nat} {off : Int} (hd : decode (tm_c j) pc = .ok (.ifnull off, 3)) (ht : (pc : Int) + off = (tg : Int)) : jSnd j pc (o_ifnull (pc + 3) tg) := by
  refine jSnd_step fun l ls st g m q h => ?_
  split at h
  · obtain rfl := Option.some.inj h
    refine jSim_pure rfl (fun _ h1 h2 => ⟨h1, jok_t h2⟩) fun p e R s mth args below meth c D tc A ad H locs cells slots Q lsA hA hce hsl kk => ?_
    exact lv_ifnullN hA.1.1 hA.1.2.1 hd ht (kk lsA hA.2.2.2.1)
  · obtain rfl := Option.some.inj h
    refine jSim_pure rfl (fun _ h1 h2 => ⟨h1, jok_t h2⟩) fun p e R s mth args below meth c D tc A ad H locs cells slots Q lsA hA hce hsl kk => ?_
    exact lv_ifnull hA.1.1 hA.1.2.1 hd (kk lsA hA.2.2.2.1)
  · cases h
theorem snd_ifnonnull {j pc tg : Nat} {off : Int} (hd : decode (tm_c j) pc = .ok (.ifnonnull off, 3)) (ht : (pc : Int) + off = (tg : Int)) : jSnd j pc (o_ifnonnull (pc + 3) tg) := by
  refine jSnd_step fun l ls st g m q h => ?_
  split at h
  · obtain rfl := Option.some.inj h
    refine jSim_pure rfl (fun _ h1 h2 => ⟨h1, jok_t h2⟩) fun p e R s mth args below meth c D tc A ad H locs cells slots Q lsA hA hce hsl kk => ?_
    exact lv_ifnonnullN hA.1.1 hA.1.2.1 hd (kk lsA hA.2.2.2.1)
  · obtain rfl := Option.some.inj h
    refine jSim_pure rfl (fun _ h1 h2 => ⟨h1, jok_t h2⟩) fun p e R s mth args below meth c D tc A ad H locs cells slots Q lsA hA hce hsl kk => ?_
    exact lv_ifnonnull hA.1.1 hA.1.2.1 hd ht (kk lsA hA.2.2.2.1)
  · cases h
theorem snd_dup {j pc : Nat} (hd : decode (tm_c j) pc = .ok (.dup, 1)) : jSnd j pc (o_dup (pc + 1)) := by
  refine jSnd_step fun l ls st g m q h => ?_
  split at h
  · obtain rfl := Option.some.inj h
    refine jSim_pure rfl (fun _ h1 h2 => ⟨h1, jok_cons (jok_h h2) h2⟩) fun p e R s mth args below meth c D tc A ad H locs cells slots Q lsA hA hce hsl kk => ?_
    exact lv_dup hA.1.1 hA.1.2.1 hd (jcv_cat _ _) (kk lsA hA.2.2.2.1)
  · cases h
theorem snd_dup2 {j pc : Nat} (hd : decode (tm_c j) pc = .ok (.dup2, 1)) : jSnd j pc (o_dup2 (pc + 1)) := by
  refine jSnd_step fun l ls st g m q h => ?_
  split at h
  · obtain rfl := Option.some.inj h
    refine jSim_pure rfl (fun _ h1 h2 => ⟨h1, jok_cons (jok_h h2) (jok_cons (jok_h (jok_t h2)) h2)⟩) fun p e R s mth args below meth c D tc A ad H locs cells slots Q lsA hA hce hsl kk => ?_
    exact lv_dup2_11 hA.1.1 hA.1.2.1 hd (jcv_cat _ _) (jcv_cat _ _) (kk lsA hA.2.2.2.1)
  · cases h
theorem snd_dupx1 {j pc : Nat} (hd : decode (tm_c j) pc = .ok (.dup_x1, 1)) : jSnd j pc (o_dupx1 (pc + 1)) := by
  refine jSnd_step fun l ls st g m q h => ?_
  split at h
  · obtain rfl := Option.some.inj h
    refine jSim_pure rfl (fun _ h1 h2 => ⟨h1, jok_cons (jok_h h2) (jok_cons (jok_h (jok_t h2)) (jok_cons (jok_h h2) (jok_t (jok_t h2))))⟩) fun p e R s mth args below meth c D tc A ad H locs cells slots Q lsA hA hce hsl kk => ?_
    exact lv_dup_x1 hA.1.1 hA.1.2.1 hd (jcv_cat _ _) (jcv_cat _ _) (kk lsA hA.2.2.2.1)
  · cases h
theorem snd_dupx2 {j pc : Nat} (hd : decode (tm_c j) pc = .ok (.dup_x2, 1)) : jSnd j pc (o_dupx2 (pc + 1)) := by
  refine jSnd_step fun l ls st g m q h => ?_
  split at h
  · obtain rfl := Option.some.inj h
    refine jSim_pure rfl (fun _ h1 h2 => ⟨h1, jok_cons (jok_h h2) (jok_cons (jok_h (jok_t h2)) (jok_cons (jok_h (jok_t (jok_t h2))) (jok_cons (jok_h h2) (jok_t (jok_t (jok_t h2))))))⟩) fun p e R s mth args below meth c D tc A ad H locs cells slots Q lsA hA hce hsl kk => ?_
    exact lv_dup_x2 hA.1.1 hA.1.2.1 hd (jcv_cat _ _) (jcv_cat _ _) (jcv_cat _ _) (kk lsA hA.2.2.2.1)
  · cases h
theorem snd_pop {j pc : Nat} (hd : decode (tm_c j) pc = .ok (.pop, 1)) : jSnd j pc (o_pop (pc + 1)) := by
  refine jSnd_step fun l ls st g m q h => ?_
  split at h
  · obtain rfl := Option.some.inj h
    refine jSim_pure rfl (fun _ h1 h2 => ⟨h1, jok_t h2⟩) fun p e R s mth args below meth c D tc A ad H locs cells slots Q lsA hA hce hsl kk => ?_
    exact lv_pop hA.1.1 hA.1.2.1 hd (jcv_cat _ _) (kk lsA hA.2.2.2.1)
  · cases h
end
section
theorem jcw_pos {g : jG} {m : jM} (hm : jom g m) {a kd : Nat} (hs : (jsh g a).1 = kd) (h9 : kd ≠ 9) (h0 : kd ≠ 0) : 0 < a ∧ a < g.1.length := by
  refine ⟨?_, jsh_lt (by rw [hs]; exact h0)⟩
  rcases Nat.eq_zero_or_pos a with q | q
  · subst q
    exact absurd (hs.symm.trans hm.2.2.2) h9
  · exact q
theorem jcw_obj {tc : Nat → ClassId} {ad : Nat → Nat} {g : jG} {m : jM} (hm : jom g m) {a ci : Nat} (hs : (jsh g a).1 = 10 + ci) : (jcw tc ad g m)[a - 1]? = some (ad a, .inr (ci, jfs ad g m a (tm_F ci))) := by
  obtain ⟨h1, h2⟩ := jcw_pos hm hs (by omega) (by omega)
  rw [jcw_get h1 h2]
  unfold jce
  rw [if_neg (by rw [hs]; omega), hs, Nat.add_sub_cancel_left]
theorem jcw_num {tc : Nat → ClassId} {ad : Nat → Nat} {g : jG} {m : jM} (hm : jom g m) {a kd : Nat} (hs : (jsh g a).1 = kd) (h1 : 0 < kd) (h2 : kd ≤ 2) : (jcw tc ad g m)[a - 1]? = some (ad a, .inl (tc kd, (jsh g a).2, .inl fun i => Int32.ofInt (m a i))) := by
  obtain ⟨q1, q2⟩ := jcw_pos hm hs (by omega) (by omega)
  rw [jcw_get q1 q2]
  unfold jce
  rw [if_pos (by rw [hs]; omega), if_pos (by rw [hs]; exact h2), hs]
theorem jcw_ref {tc : Nat → ClassId} {ad : Nat → Nat} {g : jG} {m : jM} (hm : jom g m) {a kd : Nat} (hs : (jsh g a).1 = kd) (h1 : 2 < kd) (h2 : kd < 9) : (jcw tc ad g m)[a - 1]? = some (ad a, .inl (tc kd, (jsh g a).2, .inr (.inr (.inr (.inr fun i => (g.2 a i).map ad))))) := by
  obtain ⟨q1, q2⟩ := jcw_pos hm hs (by omega) (by omega)
  rw [jcw_get q1 q2]
  unfold jce
  rw [if_pos (by rw [hs]; omega), if_neg (by rw [hs]; omega), hs]
theorem jfs_get {ad : Nat → Nat} {g : jG} {m : jM} {a k : Nat} {bs : List Bool} {b : Bool} (h : bs[k]? = some b) : (jfs ad g m a bs)[k]? = some (jfv ad g m a k b) := by
  unfold jfs
  have hl := (List.getElem?_eq_some_iff.mp h).1
  rw [List.getElem?_map, List.getElem?_range hl]
  show some (jfv ad g m a k (bs.getD k false)) = _
  rw [List.getD_eq_getElem?_getD, h]
  rfl
theorem jfs_len {ad : Nat → Nat} {g : jG} {m : jM} {a : Nat} {bs : List Bool} : (jfs ad g m a bs).length = bs.length := by simp [jfs]
theorem jfs_at {ad : Nat → Nat} {g : jG} {m : jM} {a : Nat} {bs : List Bool} {i : Nat} (h : i < bs.length) : (jfs ad g m a bs)[i]? = some (jfv ad g m a i (bs.getD i false)) := by
  unfold jfs
  rw [List.getElem?_map, List.getElem?_range h]
  rfl
theorem jfs_up {ad : Nat → Nat} {g : jG} {m : jM} {a k : Nat} {x : Int} {bs : List Bool} (h : bs[k]? = some false) : jfs ad g (jup m a k x) a bs = (jfs ad g m a bs).set k (.int (Int32.ofInt x)) := by
  have hl := (List.getElem?_eq_some_iff.mp h).1
  apply List.ext_getElem?
  intro i
  by_cases hi : i < bs.length
  · rw [jfs_at hi]
    by_cases hk : i = k
    · subst hk
      rw [List.getElem?_set_self (by rw [jfs_len]; exact hl), List.getD_eq_getElem?_getD, h]
      show some (Value.int (Int32.ofInt (jup m a i x a i))) = _
      unfold jup
      rw [if_pos ⟨rfl, rfl⟩]
    · rw [List.getElem?_set_ne (Ne.symm hk), jfs_at hi]
      unfold jfv jup
      rw [if_neg (fun q : a = a ∧ (i : Int) = k => hk (by omega))]
  · rw [List.getElem?_eq_none (by rw [jfs_len]; omega), List.getElem?_eq_none (by rw [List.length_set, jfs_len]; omega)]
theorem jfs_ur {ad : Nat → Nat} {g : jG} {m : jM} {a k : Nat} {o : Option Nat} {bs : List Bool} (h : bs[k]? = some true) : jfs ad (g.1, jur g.2 a k o) m a bs = (jfs ad g m a bs).set k (va_rf (o.map ad)) := by
  have hl := (List.getElem?_eq_some_iff.mp h).1
  apply List.ext_getElem?
  intro i
  by_cases hi : i < bs.length
  · rw [jfs_at hi]
    by_cases hk : i = k
    · subst hk
      rw [List.getElem?_set_self (by rw [jfs_len]; exact hl), List.getD_eq_getElem?_getD, h]
      show some (va_rf ((jur g.2 a i o a i).map ad)) = _
      unfold jur
      rw [if_pos ⟨rfl, rfl⟩]
    · rw [List.getElem?_set_ne (Ne.symm hk), jfs_at hi]
      unfold jfv jur
      dsimp only
      rw [if_neg (fun q : a = a ∧ (i : Int) = k => hk (by omega))]
  · rw [List.getElem?_eq_none (by rw [jfs_len]; omega), List.getElem?_eq_none (by rw [List.length_set, jfs_len]; omega)]
theorem jcw_putI {tc : Nat → ClassId} {ad : Nat → Nat} {g : jG} {m : jM} (hm : jom g m) {a ci k : Nat} {x : Int} (hs : (jsh g a).1 = 10 + ci) (hf : (tm_F ci)[k]? = some false) : (jcw tc ad g m).set (a - 1) (ad a, .inr (ci, (jfs ad g m a (tm_F ci)).set k (.int (Int32.ofInt x)))) = jcw tc ad g (jup m a k x) := by
  obtain ⟨q1, q2⟩ := jcw_pos hm hs (by omega) (by omega)
  rw [jcw_set (g := g) (m := m) q1 rfl (fun i hi => jce_m hi)]
  congr 2
  unfold jce
  rw [if_neg (by rw [hs]; omega), hs, Nat.add_sub_cancel_left, jfs_up hf]
theorem jcw_putR {tc : Nat → ClassId} {ad : Nat → Nat} {g : jG} {m : jM} (hm : jom g m) {a ci k : Nat} {o : Option Nat} (hs : (jsh g a).1 = 10 + ci) (hf : (tm_F ci)[k]? = some true) : (jcw tc ad g m).set (a - 1) (ad a, .inr (ci, (jfs ad g m a (tm_F ci)).set k (va_rf (o.map ad)))) = jcw tc ad (g.1, jur g.2 a k o) m := by
  obtain ⟨q1, q2⟩ := jcw_pos hm hs (by omega) (by omega)
  rw [jcw_set (g := g) (m := m) (g' := (g.1, jur g.2 a k o)) q1 rfl (fun i hi => jce_r hi)]
  congr 2
  unfold jce
  have hs2 : jsh (g.1, jur g.2 a k o) a = jsh g a := rfl
  rw [hs2, if_neg (by rw [hs]; omega), hs, Nat.add_sub_cancel_left, jfs_ur hf]
theorem jcw_putA {tc : Nat → ClassId} {ad : Nat → Nat} {g : jG} {m : jM} (hm : jom g m) {a kd : Nat} {i x : Int} (hs : (jsh g a).1 = kd) (h1 : 0 < kd) (h2 : kd ≤ 2) (hi : 0 ≤ i) : (jcw tc ad g m).set (a - 1) (ad a, .inl (tc kd, (jsh g a).2, .inl (upd (fun i => Int32.ofInt (m a i)) i.toNat (Int32.ofInt x)))) = jcw tc ad g (jup m a i x) := by
  obtain ⟨q1, q2⟩ := jcw_pos hm hs (by omega) (by omega)
  rw [jcw_set (g := g) (m := m) q1 rfl (fun i hi => jce_m hi)]
  congr 2
  unfold jce
  rw [if_pos (by rw [hs]; omega), if_pos (by rw [hs]; exact h2), hs]
  congr 3
  congr 1
  funext k
  unfold upd jup
  by_cases hk : k = i.toNat
  · rw [if_pos hk, if_pos ⟨rfl, by omega⟩]
  · rw [if_neg hk, if_neg (fun q => hk (by omega))]
theorem jcw_putB {tc : Nat → ClassId} {ad : Nat → Nat} {g : jG} {m : jM} (hm : jom g m) {a b kd : Nat} {i : Int} (hs : (jsh g a).1 = kd) (h1 : 2 < kd) (h2 : kd < 9) (hi : 0 ≤ i) : (jcw tc ad g m).set (a - 1) (ad a, .inl (tc kd, (jsh g a).2, .inr (.inr (.inr (.inr (va_up (fun i => (g.2 a i).map ad) i.toNat (some (ad b)))))))) = jcw tc ad (g.1, jur g.2 a i (some b)) m := by
  obtain ⟨q1, q2⟩ := jcw_pos hm hs (by omega) (by omega)
  rw [jcw_set (g := g) (m := m) (g' := (g.1, jur g.2 a i (some b))) q1 rfl (fun i hi => jce_r hi)]
  congr 2
  unfold jce
  have hs2 : jsh (g.1, jur g.2 a i (some b)) a = jsh g a := rfl
  rw [hs2, if_pos (by rw [hs]; omega), if_neg (by rw [hs]; omega), hs]
  suffices e : (va_up (fun i => (g.2 a i).map ad) i.toNat (some (ad b))) = fun (k : Nat) => (jur g.2 a i (some b) a k).map ad by
    rw [e]
  funext k
  unfold va_up jur
  by_cases hk : k = i.toNat
  · rw [if_pos hk, if_pos ⟨rfl, by omega⟩]
    rfl
  · rw [if_neg hk, if_neg (fun q => hk (by omega))]
theorem jsh0 {g : jG} {m : jM} {a : Nat} {i x : Int} (ha : 0 < a) : jExt g m g (jup m a i x) := ⟨⟨[], by simp⟩, fun k => by unfold jup; rw [if_neg (fun q => by omega)]⟩
theorem jshr {g : jG} {m : jM} {r : Nat → Int → Option Nat} : jExt g m (g.1, r) m := ⟨⟨[], by simp⟩, fun k => rfl⟩
theorem snd_getI {j pc ci k idx : Nat} {C : String} {T : u_T} {N : Nat} (hd : decode (tm_c j) pc = .ok (.getfield idx, 3)) (hc : vwCl[ci]? = some (C, T, N)) (hin : ∀ w ∈ u_ws C T N, w ∈ jgw) (hk : k < N) (hlink : Cond.fieldLink (tm_y j).cls idx (T k).1 (T k).2.1 (T k).2.2.1 ∈ jgw) (hf : (tm_F ci)[k]? = some false) : jSnd j pc (o_getI (pc + 3) (10 + ci) k) := by
  refine jSnd_step fun l ls st g m q h => ?_
  split at h
  · rename_i a st'
    by_cases hs : (jsh g a).1 = 10 + ci
    · rw [if_pos hs] at h
      obtain rfl := Option.some.inj h
      refine jSim_pure rfl (fun hm h1 h2 => ⟨h1, jok_cons (hm.1 a k) (jok_t h2)⟩) fun p e R s mth args below meth c D tc A ad H locs cells slots Q lsA hA hce hsl kk => ?_
      exact va_get hA.1.1 hA.1.2.1 hA.1.2.2.2.2.2.1 hin hA.1.2.2.2.2.1 hA.1.2.2.2.2.2.2.2.2.2.2.1 hA.2.2.1.1 (a - 1) (jcw_obj hA.2.2.1.2.2.2 hs) hc k hk (hA.1.2.2.2.2.2.1 _ hlink) (fun _ h9 => h9) (jfs_get hf) hd (kk lsA hA.2.2.2.1)
    · rw [if_neg hs] at h
      cases h
  · cases h
theorem snd_getR {j pc ci k idx : Nat} {C : String} {T : u_T} {N : Nat} (hd : decode (tm_c j) pc = .ok (.getfield idx, 3)) (hc : vwCl[ci]? = some (C, T, N)) (hin : ∀ w ∈ u_ws C T N, w ∈ jgw) (hk : k < N) (hlink : Cond.fieldLink (tm_y j).cls idx (T k).1 (T k).2.1 (T k).2.2.1 ∈ jgw) (hf : (tm_F ci)[k]? = some true) : jSnd j pc (o_getR (pc + 3) (10 + ci) k) := by
  refine jSnd_step fun l ls st g m q h => ?_
  split at h
  · rename_i a st'
    by_cases hs : (jsh g a).1 = 10 + ci
    · rw [if_pos hs] at h
      obtain rfl := Option.some.inj h
      refine jSim_pure rfl (fun hm h1 h2 => ⟨h1, jok_cons ?_ (jok_t h2)⟩) fun p e R s mth args below meth c D tc A ad H locs cells slots Q lsA hA hce hsl kk => ?_
      · show jok _ (Sum.inr (Sum.inl (g.2 a k)))
        cases hq : g.2 a k with
        | none => trivial
        | some b => exact hm.2.1 a k b hq
      · exact va_get hA.1.1 hA.1.2.1 hA.1.2.2.2.2.2.1 hin hA.1.2.2.2.2.1 hA.1.2.2.2.2.2.2.2.2.2.2.1 hA.2.2.1.1 (a - 1) (jcw_obj hA.2.2.1.2.2.2 hs) hc k hk (hA.1.2.2.2.2.2.1 _ hlink) (fun _ h9 => h9) (jfs_get hf) hd (kk lsA hA.2.2.2.1)
    · rw [if_neg hs] at h
      cases h
  · cases h
/-- behind a write: all stands as before, but for what was written -/
theorem jAt_wr {j : Nat} {p : Program} {R : Room} {s : State} {mth : MethodId} {args : Array Value} {meth : Method} {c : Code} {D : va_G} {tc : Nat → ClassId} {A : Nat → Prop} {ad : Nat → Nat} {ls st st' : List jV} {g g' : jG} {m m' : jM} {H H' : Heap} {locs locs' : List Loc} {lsA : Array Slot}
    (h : jAt j p R s mth args meth c D tc A ad ls st g m H locs lsA) (hl : g'.1 = g.1) (hx : jExt g m g' m') (hP : va_P D vwCl (jcw tc ad g' m') H') (hD : va_D A (jcw tc ad g' m')) (hS : va_S A s.heap H' locs') (hm : jom g' m') (hst : ∀ v ∈ st', jok g.1.length v) : jAt j p R s mth args meth c D tc A ad ls st' g' m' H' locs' lsA := by
  obtain ⟨h1, h2, h3, h4, h5, h6, h7, h8⟩ := h
  exact ⟨h1, h2, ⟨hP, hD, hS, hm⟩, h4, by rw [hl]; exact h5, by rw [hl]; exact hst, h7, h8.ext hx h3.2.2.2.2.2.2 (fun _ _ => rfl)⟩
theorem jcl_eq {g g' : jG} (h : g'.1 = g.1) : jcl g g' = 0 ∧ jsl g g' = 0 := by
  unfold jcl jsl jsz
  rw [h]
  exact ⟨Nat.sub_self _, Nat.sub_self _⟩
theorem snd_putI {j pc ci k idx : Nat} {C : String} {T : u_T} {N : Nat} (hd : decode (tm_c j) pc = .ok (.putfield idx, 3)) (hc : vwCl[ci]? = some (C, T, N)) (hin : ∀ w ∈ u_ws C T N, w ∈ jgw) (ty0 : Nat → FieldType) (hty : ∀ k, k < N → parseFieldDescriptor (T k).2.2.1 = some (ty0 k)) (hnm : ∀ a, a < N → ∀ b, b < N → a ≠ b → (T a).2.1 ≠ (T b).2.1) (hk : k < N) (hlink : Cond.fieldLink (tm_y j).cls idx (T k).1 (T k).2.1 (T k).2.2.1 ∈ jgw) (hfin : (T k).2.2.2 = false) (hty1 : ty0 k = .int) (hf : (tm_F ci)[k]? = some false) : jSnd j pc (o_putI (pc + 3) (10 + ci) k) := by
  refine jSnd_step fun l ls st g m q h => ?_
  split at h
  · rename_i x a st'
    by_cases hs : (jsh g a).1 = 10 + ci
    · rw [if_pos hs] at h
      obtain rfl := Option.some.inj h
      intro h9
      have ha : 0 < a := by
        rcases Nat.eq_zero_or_pos a with z | z
        · subst z; omega
        · exact z
      refine ⟨jsh0 ha, fun p e R s mth args below meth c D tc A ad H locs cells slots Q lsA hA hce hsl kk => ?_⟩
      simp only [jcl_rf, jsl_rf, Nat.add_zero] at hce hsl kk
      have hm := hA.2.2.1.2.2.2
      have hx : jrg x := jok_h hA.2.2.2.2.2.1
      refine va_put (ty := .int) (v := .int (Int32.ofInt x)) hA.1.1 hA.1.2.1 hA.1.2.2.2.2.2.1 hin ty0 hty hnm hA.1.2.2.2.2.1 hA.1.2.2.2.2.2.2.2.2.2.2.1 hA.2.2.1.1 hA.2.2.1.2.1 hA.2.2.1.2.2.1 (a - 1) (jcw_obj hm hs) hc k hk (hA.1.2.2.2.2.2.1 _ hlink) (fun _ h9 => h9) hfin ((hty k hk).trans (by rw [hty1])) rfl rfl (by rw [jfs_len]; exact (List.getElem?_eq_some_iff.mp hf).1) hd (fun H1 locs1 hP1 hD1 hS1 => ?_)
      rw [jcw_putI hm hs hf] at hP1 hD1
      exact kk ad H1 locs1 lsA (fun _ _ => rfl) (jAt_wr hA rfl (jsh0 ha) hP1 hD1 hS1 (jom_up hm (jcw_pos hm hs (by omega) (by omega)).2 hx) (jok_t (jok_t hA.2.2.2.2.2.1)))
    · rw [if_neg hs] at h
      cases h
  · cases h
theorem snd_putR {j pc ci k idx : Nat} {C : String} {T : u_T} {N : Nat} (hd : decode (tm_c j) pc = .ok (.putfield idx, 3)) (hc : vwCl[ci]? = some (C, T, N)) (hin : ∀ w ∈ u_ws C T N, w ∈ jgw) (ty0 : Nat → FieldType) (hty : ∀ k, k < N → parseFieldDescriptor (T k).2.2.1 = some (ty0 k)) (hnm : ∀ a, a < N → ∀ b, b < N → a ≠ b → (T a).2.1 ≠ (T b).2.1) (hk : k < N) (hlink : Cond.fieldLink (tm_y j).cls idx (T k).1 (T k).2.1 (T k).2.2.1 ∈ jgw) (hfin : (T k).2.2.2 = false) (hnf : ∀ o : Option Nat, narrow (ty0 k) (va_rf o) = va_rf o ∧ fits (ty0 k) (va_rf o) = true) (hf : (tm_F ci)[k]? = some true) : jSnd j pc (o_putR (pc + 3) (10 + ci) k) := by
  refine jSnd_step fun l ls st g m q h => ?_
  split at h
  · rename_i o a st'
    by_cases hs : (jsh g a).1 = 10 + ci
    · rw [if_pos hs] at h
      obtain rfl := Option.some.inj h
      intro h9
      refine ⟨jshr, fun p e R s mth args below meth c D tc A ad H locs cells slots Q lsA hA hce hsl kk => ?_⟩
      obtain ⟨ec, es⟩ := jcl_eq (g := g) (g' := (g.1, jur g.2 a k o)) rfl
      dsimp only at hce hsl kk
      simp only [ec, es, Nat.add_zero] at hce hsl kk
      have hm := hA.2.2.1.2.2.2
      have ho : ∀ b, o = some b → b < g.1.length := fun b hb => by
        have h8 := jok_h hA.2.2.2.2.2.1
        subst hb
        exact h8
      refine va_put (ty := ty0 k) (v := va_rf (o.map ad)) hA.1.1 hA.1.2.1 hA.1.2.2.2.2.2.1 hin ty0 hty hnm hA.1.2.2.2.2.1 hA.1.2.2.2.2.2.2.2.2.2.2.1 hA.2.2.1.1 hA.2.2.1.2.1 hA.2.2.1.2.2.1 (a - 1) (jcw_obj hm hs) hc k hk (hA.1.2.2.2.2.2.1 _ hlink) (fun _ h9 => h9) hfin (hty k hk) (hnf _).1 (hnf _).2 (by rw [jfs_len]; exact (List.getElem?_eq_some_iff.mp hf).1) hd (fun H1 locs1 hP1 hD1 hS1 => ?_)
      rw [jcw_putR hm hs hf] at hP1 hD1
      exact kk ad H1 locs1 lsA (fun _ _ => rfl) (jAt_wr hA rfl jshr hP1 hD1 hS1 (jom_ur hm (jcw_pos hm hs (by omega) (by omega)).2 ho) (jok_t (jok_t hA.2.2.2.2.2.1)))
    · rw [if_neg hs] at h
      cases h
  · cases h
theorem snd_putRF {j pc ci k idx : Nat} {C : String} {T : u_T} {N : Nat} (hd : decode (tm_c j) pc = .ok (.putfield idx, 3)) (hc : vwCl[ci]? = some (C, T, N)) (hin : ∀ w ∈ u_ws C T N, w ∈ jgw) (ty0 : Nat → FieldType) (hty : ∀ k, k < N → parseFieldDescriptor (T k).2.2.1 = some (ty0 k)) (hnm : ∀ a, a < N → ∀ b, b < N → a ≠ b → (T a).2.1 ≠ (T b).2.1) (hk : k < N) (hlink : Cond.fieldLink (tm_y j).cls idx (T k).1 (T k).2.1 (T k).2.2.1 ∈ jgw) (hfin : (T k).2.2.2 = true) (hin2 : (tm_y j).name = "<init>") (hdecl : (T k).1 = (tm_y j).cls) (hnf : ∀ o : Option Nat, narrow (ty0 k) (va_rf o) = va_rf o ∧ fits (ty0 k) (va_rf o) = true) (hf : (tm_F ci)[k]? = some true) : jSnd j pc (o_putR (pc + 3) (10 + ci) k) := by
  refine jSnd_step fun l ls st g m q h => ?_
  split at h
  · rename_i o a st'
    by_cases hs : (jsh g a).1 = 10 + ci
    · rw [if_pos hs] at h
      obtain rfl := Option.some.inj h
      intro h9
      refine ⟨jshr, fun p e R s mth args below meth c D tc A ad H locs cells slots Q lsA hA hce hsl kk => ?_⟩
      obtain ⟨ec, es⟩ := jcl_eq (g := g) (g' := (g.1, jur g.2 a k o)) rfl
      dsimp only at hce hsl kk
      simp only [ec, es, Nat.add_zero] at hce hsl kk
      have hm := hA.2.2.1.2.2.2
      have ho : ∀ b, o = some b → b < g.1.length := fun b hb => by
        have h8 := jok_h hA.2.2.2.2.2.1
        subst hb
        exact h8
      refine va_putF (ty := ty0 k) (v := va_rf (o.map ad)) hA.1.1 hA.1.2.1 hA.1.2.2.2.2.2.1 hin ty0 hty hnm hA.1.2.2.2.2.1 hA.1.2.2.2.2.2.2.2.2.2.2.1 hA.2.2.1.1 hA.2.2.1.2.1 hA.2.2.1.2.2.1 (a - 1) (jcw_obj hm hs) hc k hk (hA.1.2.2.2.2.2.1 _ hlink) (fun _ h9 => h9) hfin (hA.1.2.2.2.2.2.2.2.1.trans hin2) hdecl (hty k hk) (hnf _).1 (hnf _).2 (by rw [jfs_len]; exact (List.getElem?_eq_some_iff.mp hf).1) hd (fun H1 locs1 hP1 hD1 hS1 => ?_)
      rw [jcw_putR hm hs hf] at hP1 hD1
      exact kk ad H1 locs1 lsA (fun _ _ => rfl) (jAt_wr hA rfl jshr hP1 hD1 hS1 (jom_ur hm (jcw_pos hm hs (by omega) (by omega)).2 ho) (jok_t (jok_t hA.2.2.2.2.2.1)))
    · rw [if_neg hs] at h
      cases h
  · cases h
theorem snd_iald {j pc : Nat} (hd : decode (tm_c j) pc = .ok (.iaload, 1)) : jSnd j pc (o_nald (pc + 1) 1) := by
  refine jSnd_step fun l ls st g m q h => ?_
  split at h
  · rename_i i a st'
    by_cases hs : (jsh g a).1 = 1 ∧ 0 ≤ i ∧ i < (jsh g a).2
    · rw [if_pos hs] at h
      obtain rfl := Option.some.inj h
      refine jSim_pure rfl (fun hm h1 h2 => ⟨h1, jok_cons (hm.1 a i) (jok_t (jok_t h2))⟩) fun p e R s mth args below meth c D tc A ad H locs cells slots Q lsA hA hce hsl kk => ?_
      have hi : jrg i := jok_h hA.2.2.2.2.2.1
      refine va_iald hA.1.1 hA.1.2.1 hA.1.2.2.2.2.2.2.2.2.2.2.1 hA.2.2.1.1 (a - 1) 0 (jcw_num hA.2.2.1.2.2.2 hs.1 (by decide) (by decide)) rfl (jin hi hs.2.1 hs.2.2) hd ?_
      rw [jcl_of hi, Int.toNat_of_nonneg hs.2.1]
      exact kk lsA hA.2.2.2.1
    · rw [if_neg hs] at h
      cases h
  · cases h
theorem snd_zald {j pc : Nat} (hd : decode (tm_c j) pc = .ok (.baload, 1)) : jSnd j pc (o_nald (pc + 1) 2) := by
  refine jSnd_step fun l ls st g m q h => ?_
  split at h
  · rename_i i a st'
    by_cases hs : (jsh g a).1 = 2 ∧ 0 ≤ i ∧ i < (jsh g a).2
    · rw [if_pos hs] at h
      obtain rfl := Option.some.inj h
      refine jSim_pure rfl (fun hm h1 h2 => ⟨h1, jok_cons (hm.1 a i) (jok_t (jok_t h2))⟩) fun p e R s mth args below meth c D tc A ad H locs cells slots Q lsA hA hce hsl kk => ?_
      have hi : jrg i := jok_h hA.2.2.2.2.2.1
      refine va_zald hA.1.1 hA.1.2.1 hA.1.2.2.2.2.2.2.2.2.2.2.1 hA.2.2.1.1 (a - 1) 1 (jcw_num hA.2.2.1.2.2.2 hs.1 (by decide) (by decide)) rfl (jin hi hs.2.1 hs.2.2) hd ?_
      rw [jcl_of hi, Int.toNat_of_nonneg hs.2.1]
      exact kk lsA hA.2.2.2.1
    · rw [if_neg hs] at h
      cases h
  · cases h
theorem snd_aald {j pc kd t0 : Nat} {C : String} (hd : decode (tm_c j) pc = .ok (.aaload, 1)) (h1 : 2 < kd) (h2 : kd < 9) (ht : tm_T[t0]? = some (kd, .object C)) : jSnd j pc (o_aald (pc + 1) kd) := by
  refine jSnd_step fun l ls st g m q h => ?_
  split at h
  · rename_i i a st'
    by_cases hs : (jsh g a).1 = kd ∧ 0 ≤ i ∧ i < (jsh g a).2
    · rw [if_pos hs] at h
      obtain rfl := Option.some.inj h
      refine jSim_pure rfl (fun hm k1 k2 => ⟨k1, jok_cons ?_ (jok_t (jok_t k2))⟩) fun p e R s mth args below meth c D tc A ad H locs cells slots Q lsA hA hce hsl kk => ?_
      · show jok _ (Sum.inr (Sum.inl (g.2 a i)))
        cases hq : g.2 a i with
        | none => trivial
        | some b => exact hm.2.1 a i b hq
      · have hi : jrg i := jok_h hA.2.2.2.2.2.1
        refine va_aldq (C := C) hA.1.1 hA.1.2.1 hA.1.2.2.2.2.2.2.2.2.2.2.1 hA.2.2.1.1 (a - 1) t0 (jcw_ref hA.2.2.1.2.2.2 hs.1 h1 h2) (by unfold jtys; rw [List.getElem?_map, ht]; rfl) (jin hi hs.2.1 hs.2.2) hd ?_
        rw [jcl_of hi, Int.toNat_of_nonneg hs.2.1]
        exact kk lsA hA.2.2.2.1
    · rw [if_neg hs] at h
      cases h
  · cases h
theorem snd_iast {j pc : Nat} (hd : decode (tm_c j) pc = .ok (.iastore, 1)) : jSnd j pc (o_iast (pc + 1)) := by
  refine jSnd_step fun l ls st g m q h => ?_
  split at h
  · rename_i x i a st'
    by_cases hs : (jsh g a).1 = 1 ∧ 0 ≤ i ∧ i < (jsh g a).2
    · rw [if_pos hs] at h
      obtain rfl := Option.some.inj h
      intro h9
      have ha : 0 < a := by
        rcases Nat.eq_zero_or_pos a with z | z
        · subst z; omega
        · exact z
      refine ⟨jsh0 ha, fun p e R s mth args below meth c D tc A ad H locs cells slots Q lsA hA hce hsl kk => ?_⟩
      simp only [jcl_rf, jsl_rf, Nat.add_zero] at hce hsl kk
      have hm := hA.2.2.1.2.2.2
      have hx : jrg x := jok_h hA.2.2.2.2.2.1
      have hi : jrg i := jok_h (jok_t hA.2.2.2.2.2.1)
      refine va_iast (x := Int32.ofInt x) hA.1.1 hA.1.2.1 hA.1.2.2.2.2.2.2.2.2.2.2.1 hA.2.2.1.1 hA.2.2.1.2.1 hA.2.2.1.2.2.1 (a - 1) 0 (jcw_num hm hs.1 (by decide) (by decide)) rfl (jin hi hs.2.1 hs.2.2) hd (fun H1 locs1 hP1 hD1 hS1 => ?_)
      rw [jcl_of hi, jcw_putA hm hs.1 (by decide) (by decide) hs.2.1] at hP1 hD1
      exact kk ad H1 locs1 lsA (fun _ _ => rfl) (jAt_wr hA rfl (jsh0 ha) hP1 hD1 hS1 (jom_up hm (jcw_pos hm hs.1 (by omega) (by omega)).2 hx) (jok_t (jok_t (jok_t hA.2.2.2.2.2.1))))
    · rw [if_neg hs] at h
      cases h
  · cases h
theorem snd_zast {j pc : Nat} (hd : decode (tm_c j) pc = .ok (.bastore, 1)) : jSnd j pc (o_zast (pc + 1)) := by
  refine jSnd_step fun l ls st g m q h => ?_
  split at h
  · rename_i x i a st'
    by_cases hs : ((jsh g a).1 = 2 ∧ 0 ≤ i ∧ i < (jsh g a).2) ∧ (x = 0 ∨ x = 1)
    · rw [if_pos hs] at h
      obtain rfl := Option.some.inj h
      obtain ⟨hs, hx01⟩ := hs
      have hz : vp_nar .boolean (Int32.ofInt x) = Int32.ofInt x := by rcases hx01 with rfl | rfl <;> decide
      intro h9
      have ha : 0 < a := by
        rcases Nat.eq_zero_or_pos a with z | z
        · subst z; omega
        · exact z
      refine ⟨jsh0 ha, fun p e R s mth args below meth c D tc A ad H locs cells slots Q lsA hA hce hsl kk => ?_⟩
      simp only [jcl_rf, jsl_rf, Nat.add_zero] at hce hsl kk
      have hm := hA.2.2.1.2.2.2
      have hx : jrg x := jok_h hA.2.2.2.2.2.1
      have hi : jrg i := jok_h (jok_t hA.2.2.2.2.2.1)
      refine va_zast (x := Int32.ofInt x) hA.1.1 hA.1.2.1 hA.1.2.2.2.2.2.2.2.2.2.2.1 hA.2.2.1.1 hA.2.2.1.2.1 hA.2.2.1.2.2.1 (a - 1) 1 (jcw_num hm hs.1 (by decide) (by decide)) rfl (jin hi hs.2.1 hs.2.2) hd (fun H1 locs1 hP1 hD1 hS1 => ?_)
      rw [hz] at hP1 hD1
      rw [jcl_of hi, jcw_putA hm hs.1 (by decide) (by decide) hs.2.1] at hP1 hD1
      exact kk ad H1 locs1 lsA (fun _ _ => rfl) (jAt_wr hA rfl (jsh0 ha) hP1 hD1 hS1 (jom_up hm (jcw_pos hm hs.1 (by omega) (by omega)).2 hx) (jok_t (jok_t (jok_t hA.2.2.2.2.2.1))))
    · rw [if_neg hs] at h
      cases h
  · cases h
theorem snd_aast {j pc kd t0 ci : Nat} {C : String} {T : u_T} {N : Nat} (hd : decode (tm_c j) pc = .ok (.aastore, 1)) (h1 : 2 < kd) (h2 : kd < 9) (ht : tm_T[t0]? = some (kd, .object C)) (hc : vwCl[ci]? = some (C, T, N)) : jSnd j pc (o_aast (pc + 1) kd (10 + ci)) := by
  refine jSnd_step fun l ls st g m q h => ?_
  split at h
  · rename_i b i a st'
    by_cases hs : ((jsh g a).1 = kd ∧ 0 ≤ i ∧ i < (jsh g a).2) ∧ (jsh g b).1 = 10 + ci
    · rw [if_pos hs] at h
      obtain rfl := Option.some.inj h
      obtain ⟨hs, hsb⟩ := hs
      intro h9
      refine ⟨jshr, fun p e R s mth args below meth c D tc A ad H locs cells slots Q lsA hA hce hsl kk => ?_⟩
      obtain ⟨ec, es⟩ := jcl_eq (g := g) (g' := (g.1, jur g.2 a i (some b))) rfl
      dsimp only at hce hsl kk
      simp only [ec, es, Nat.add_zero] at hce hsl kk
      have hm := hA.2.2.1.2.2.2
      have hi : jrg i := jok_h (jok_t hA.2.2.2.2.2.1)
      have hb : b < g.1.length := jok_h hA.2.2.2.2.2.1
      refine va_astq hA.1.1 hA.1.2.1 hA.1.2.2.2.2.2.2.2.2.2.2.1 hA.2.2.1.1 hA.2.2.1.2.1 hA.2.2.1.2.2.1 (a - 1) t0 (b - 1) ci (jcw_ref hm hs.1 h1 h2) (by unfold jtys; rw [List.getElem?_map, ht]; rfl) (jcw_obj hm hsb) hc (jin hi hs.2.1 hs.2.2) hd (fun H1 locs1 hP1 hD1 hS1 => ?_)
      rw [jcl_of hi, jcw_putB hm hs.1 h1 h2 hs.2.1] at hP1 hD1
      exact kk ad H1 locs1 lsA (fun _ _ => rfl) (jAt_wr hA rfl jshr hP1 hD1 hS1 (jom_ur hm (jcw_pos hm hs.1 (by omega) (by omega)).2 (fun x hx => by cases hx; exact hb)) (jok_t (jok_t (jok_t hA.2.2.2.2.2.1))))
    · rw [if_neg hs] at h
      cases h
  · cases h
theorem snd_alen {j pc kd t0 : Nat} {ty : FieldType} (hd : decode (tm_c j) pc = .ok (.arraylength, 1)) (h0 : 0 < kd) (h1 : kd < 9) (ht : tm_T[t0]? = some (kd, ty)) : jSnd j pc (o_alen (pc + 1) kd) := by
  refine jSnd_step fun l ls st g m q h => ?_
  split at h
  · rename_i a st'
    by_cases hs : (jsh g a).1 = kd ∧ (jsh g a).2 ≤ 100000
    · rw [if_pos hs] at h
      obtain rfl := Option.some.inj h
      refine jSim_pure rfl (fun hm k1 k2 => ⟨k1, jok_cons (show jrg _ from ⟨by omega, by omega⟩) (jok_t k2)⟩) fun p e R s mth args below meth c D tc A ad H locs cells slots Q lsA hA hce hsl kk => ?_
      have hm := hA.2.2.1.2.2.2
      have ht2 : (jtys tc)[t0]? = some (tc kd, ty) := by unfold jtys; rw [List.getElem?_map, ht]; rfl
      by_cases hk : kd ≤ 2
      · exact va_alen (v := Int32.ofInt (jsh g a).2) hA.1.1 hA.1.2.1 hA.1.2.2.2.2.2.2.2.2.2.2.1 hA.2.2.1.1 (a - 1) t0 (jcw_num hm hs.1 h0 hk) ht2 Int32.ofInt_eq_ofNat.symm hd (kk lsA hA.2.2.2.1)
      · exact va_alen (v := Int32.ofInt (jsh g a).2) hA.1.1 hA.1.2.1 hA.1.2.2.2.2.2.2.2.2.2.2.1 hA.2.2.1.1 (a - 1) t0 (jcw_ref hm hs.1 (by omega) h1) ht2 Int32.ofInt_eq_ofNat.symm hd (kk lsA hA.2.2.2.1)
    · rw [if_neg hs] at h
      cases h
  · cases h
theorem snd_sald {pc : Nat} (hd : decode (tm_c tm_law) pc = .ok (.iaload, 1)) : jSnd tm_law pc (o_sald (pc + 1)) := by
  refine jSnd_step fun l ls st g m q h => ?_
  split at h
  · rename_i i st'
    by_cases hs : 0 ≤ i ∧ i < (jsh g 0).2
    · rw [if_pos hs] at h
      obtain rfl := Option.some.inj h
      refine jSim_pure rfl (fun hm h1 h2 => ⟨h1, jok_cons (hm.1 0 i) (jok_t (jok_t h2))⟩) fun p e R s mth args below meth c D tc A ad H locs cells slots Q lsA hA hce hsl kk => ?_
      have hi : jrg i := jok_h hA.2.2.2.2.2.1
      obtain ⟨b, L, xs, q1, q2, q3, q4, q5, q6, q7⟩ := hA.2.2.2.2.2.2.2 rfl
      rw [q5] at hs
      have hs2 : i < (L : Int) := hs.2
      have hv : Int32.ofInt (m 0 i) = xs i.toNat := by
        have h8 := q6 i.toNat (by omega)
        rw [Int.toNat_of_nonneg hs.1] at h8
        rw [h8, Int32.ofInt_toInt]
      have k2 := kk lsA hA.2.2.2.1
      have e2 : ((jI (m 0 i) :: st').map (jcv ad)) = .int (xs i.toNat) :: st'.map (jcv ad) := by rw [← hv]; rfl
      rw [e2] at k2
      have e3 : ((Sum.inl i :: Sum.inr (Sum.inl (some 0)) :: st' : List jV).map (jcv ad)) = .int (Int32.ofInt i) :: .ref b :: st'.map (jcv ad) := by rw [← q1]; rfl
      rw [e3]
      refine va_sld hA.1.1 hA.1.2.1 q2 q3 q4 hA.2.2.1.2.2.1 (jin hi hs.1 hs2) hd ?_
      rw [jcl_of hi]
      exact k2
    · rw [if_neg hs] at h
      cases h
  · cases h
theorem snd_slen {pc : Nat} (hd : decode (tm_c tm_law) pc = .ok (.arraylength, 1)) : jSnd tm_law pc (o_slen (pc + 1)) := by
  refine jSnd_step fun l ls st g m q h => ?_
  split at h
  · rename_i st'
    by_cases hs : (jsh g 0).2 ≤ 100000
    · rw [if_pos hs] at h
      obtain rfl := Option.some.inj h
      refine jSim_pure rfl (fun hm h1 h2 => ⟨h1, jok_cons (show jrg _ from ⟨by omega, by omega⟩) (jok_t h2)⟩) fun p e R s mth args below meth c D tc A ad H locs cells slots Q lsA hA hce hsl kk => ?_
      obtain ⟨b, L, xs, q1, q2, q3, q4, q5, q6, q7⟩ := hA.2.2.2.2.2.2.2 rfl
      have k2 := kk lsA hA.2.2.2.1
      have e2 : ((jI (jsh g 0).2 :: st').map (jcv ad)) = .int (Int32.ofNat L) :: st'.map (jcv ad) := by
        rw [q5]
        show Value.int (Int32.ofInt (L : Int)) :: _ = _
        rw [Int32.ofInt_eq_ofNat]
      rw [e2] at k2
      have e3 : ((Sum.inr (Sum.inl (some 0)) :: st' : List jV).map (jcv ad)) = .ref b :: st'.map (jcv ad) := by rw [← q1]; rfl
      rw [e3]
      exact va_slen hA.1.1 hA.1.2.1 q2 q3 q4 hA.2.2.1.2.2.1 hd k2
    · rw [if_neg hs] at h
      cases h
  · cases h
end
