section
-- ===== PART A: goes FIRST, ahead of the names: the tables' words, and 'selects' of the private methods out of them =====
/-- a private method of a class that the tables say can be made, by its rows of tables_1 -/
def lw_okq (q : MethodName × Nat) : Prop := (q.1.cls ≠ "java/lang/invoke/MethodHandle" ∧ q.1.cls ≠ "java/lang/invoke/VarHandle") ∧ Cond.instantiable q.1.cls q.2 ∈ tables_1 ∧ Cond.privateMethod q.1 ∈ tables_1 ∧ Cond.instanceMethod q.1 ∈ tables_1
theorem lw_p0 : lw_okq (⟨"TextMarks", "shows", "(I)Z"⟩, 4) := ⟨⟨by decide +kernel, by decide +kernel⟩, List.mem_of_getElem? (i := 8) (by decide +kernel), List.mem_of_getElem? (i := 114) (by decide +kernel), List.mem_of_getElem? (i := 115) (by decide +kernel)⟩
theorem lw_p1 : lw_okq (⟨"TextMarks", "nodeOf", "(I)LTextMarks$Node;"⟩, 4) := ⟨⟨by decide +kernel, by decide +kernel⟩, List.mem_of_getElem? (i := 8) (by decide +kernel), List.mem_of_getElem? (i := 118) (by decide +kernel), List.mem_of_getElem? (i := 119) (by decide +kernel)⟩
theorem lw_p2 : lw_okq (⟨"TextMarks$View", "markGoodAndSeen", "(LTextMarks$Rows;LTextMarks$Node;)V"⟩, 8) := ⟨⟨by decide +kernel, by decide +kernel⟩, List.mem_of_getElem? (i := 60) (by decide +kernel), List.mem_of_getElem? (i := 126) (by decide +kernel), List.mem_of_getElem? (i := 127) (by decide +kernel)⟩
theorem lw_p3 : lw_okq (⟨"TextMarks$View", "hide", "(I)V"⟩, 8) := ⟨⟨by decide +kernel, by decide +kernel⟩, List.mem_of_getElem? (i := 60) (by decide +kernel), List.mem_of_getElem? (i := 150) (by decide +kernel), List.mem_of_getElem? (i := 151) (by decide +kernel)⟩
theorem lw_p4 : lw_okq (⟨"TextMarks", "write", "(IIIIII)I"⟩, 4) := ⟨⟨by decide +kernel, by decide +kernel⟩, List.mem_of_getElem? (i := 8) (by decide +kernel), List.mem_of_getElem? (i := 174) (by decide +kernel), List.mem_of_getElem? (i := 175) (by decide +kernel)⟩
theorem lw_p5 : lw_okq (⟨"TextMarks$Rows", "fileInOrder", "(I)V"⟩, 6) := ⟨⟨by decide +kernel, by decide +kernel⟩, List.mem_of_getElem? (i := 16) (by decide +kernel), List.mem_of_getElem? (i := 186) (by decide +kernel), List.mem_of_getElem? (i := 187) (by decide +kernel)⟩
theorem lw_p6 : lw_okq (⟨"TextMarks$Rows", "isLater", "(II)Z"⟩, 6) := ⟨⟨by decide +kernel, by decide +kernel⟩, List.mem_of_getElem? (i := 16) (by decide +kernel), List.mem_of_getElem? (i := 190) (by decide +kernel), List.mem_of_getElem? (i := 191) (by decide +kernel)⟩
theorem lw_p7 : lw_okq (⟨"TextMarks$Rows", "fileInPlaces", "(II)V"⟩, 6) := ⟨⟨by decide +kernel, by decide +kernel⟩, List.mem_of_getElem? (i := 16) (by decide +kernel), List.mem_of_getElem? (i := 195) (by decide +kernel), List.mem_of_getElem? (i := 196) (by decide +kernel)⟩
theorem lw_p8 : lw_okq (⟨"TextMarks$Rows", "firstPlaceBehind", "(I)I"⟩, 6) := ⟨⟨by decide +kernel, by decide +kernel⟩, List.mem_of_getElem? (i := 16) (by decide +kernel), List.mem_of_getElem? (i := 199) (by decide +kernel), List.mem_of_getElem? (i := 200) (by decide +kernel)⟩
theorem lw_p9 : lw_okq (⟨"TextMarks", "knowsNeeds", "(LTextMarks$Node;I)Z"⟩, 4) := ⟨⟨by decide +kernel, by decide +kernel⟩, List.mem_of_getElem? (i := 8) (by decide +kernel), List.mem_of_getElem? (i := 253) (by decide +kernel), List.mem_of_getElem? (i := 254) (by decide +kernel)⟩
theorem lw_p10 : lw_okq (⟨"TextMarks$View", "paintOne", "(LTextMarks$Rows;I)V"⟩, 8) := ⟨⟨by decide +kernel, by decide +kernel⟩, List.mem_of_getElem? (i := 60) (by decide +kernel), List.mem_of_getElem? (i := 307) (by decide +kernel), List.mem_of_getElem? (i := 308) (by decide +kernel)⟩
theorem lw_p11 : lw_okq (⟨"TextMarks$View", "endOf", "(II)I"⟩, 8) := ⟨⟨by decide +kernel, by decide +kernel⟩, List.mem_of_getElem? (i := 60) (by decide +kernel), List.mem_of_getElem? (i := 311) (by decide +kernel), List.mem_of_getElem? (i := 312) (by decide +kernel)⟩
theorem lw_p12 : lw_okq (⟨"TextMarks$View", "startsRun", "(I)Z"⟩, 8) := ⟨⟨by decide +kernel, by decide +kernel⟩, List.mem_of_getElem? (i := 60) (by decide +kernel), List.mem_of_getElem? (i := 336) (by decide +kernel), List.mem_of_getElem? (i := 337) (by decide +kernel)⟩
theorem lw_p13 : lw_okq (⟨"TextMarks", "commentFrom", "(LTextMarks$View;I)I"⟩, 4) := ⟨⟨by decide +kernel, by decide +kernel⟩, List.mem_of_getElem? (i := 8) (by decide +kernel), List.mem_of_getElem? (i := 349) (by decide +kernel), List.mem_of_getElem? (i := 350) (by decide +kernel)⟩
theorem lw_p14 : lw_okq (⟨"TextMarks", "commentTo", "(LTextMarks$View;I)I"⟩, 4) := ⟨⟨by decide +kernel, by decide +kernel⟩, List.mem_of_getElem? (i := 8) (by decide +kernel), List.mem_of_getElem? (i := 354) (by decide +kernel), List.mem_of_getElem? (i := 355) (by decide +kernel)⟩
theorem lw_p15 : lw_okq (⟨"TextMarks$View", "keepKind", "(II)V"⟩, 8) := ⟨⟨by decide +kernel, by decide +kernel⟩, List.mem_of_getElem? (i := 60) (by decide +kernel), List.mem_of_getElem? (i := 372) (by decide +kernel), List.mem_of_getElem? (i := 373) (by decide +kernel)⟩
def lw_privs_1 : List (MethodName × Nat) := [(⟨"TextMarks", "shows", "(I)Z"⟩, 4), (⟨"TextMarks", "nodeOf", "(I)LTextMarks$Node;"⟩, 4), (⟨"TextMarks$View", "markGoodAndSeen", "(LTextMarks$Rows;LTextMarks$Node;)V"⟩, 8), (⟨"TextMarks$View", "hide", "(I)V"⟩, 8), (⟨"TextMarks", "write", "(IIIIII)I"⟩, 4), (⟨"TextMarks$Rows", "fileInOrder", "(I)V"⟩, 6), (⟨"TextMarks$Rows", "isLater", "(II)Z"⟩, 6), (⟨"TextMarks$Rows", "fileInPlaces", "(II)V"⟩, 6), (⟨"TextMarks$Rows", "firstPlaceBehind", "(I)I"⟩, 6), (⟨"TextMarks", "knowsNeeds", "(LTextMarks$Node;I)Z"⟩, 4), (⟨"TextMarks$View", "paintOne", "(LTextMarks$Rows;I)V"⟩, 8), (⟨"TextMarks$View", "endOf", "(II)I"⟩, 8), (⟨"TextMarks$View", "startsRun", "(I)Z"⟩, 8), (⟨"TextMarks", "commentFrom", "(LTextMarks$View;I)I"⟩, 4), (⟨"TextMarks", "commentTo", "(LTextMarks$View;I)I"⟩, 4), (⟨"TextMarks$View", "keepKind", "(II)V"⟩, 8)]
theorem lw_r1 : ∀ q ∈ lw_privs_1, lw_okq q := List.forall_mem_cons.mpr ⟨lw_p0, List.forall_mem_cons.mpr ⟨lw_p1, List.forall_mem_cons.mpr ⟨lw_p2, List.forall_mem_cons.mpr ⟨lw_p3, List.forall_mem_cons.mpr ⟨lw_p4, List.forall_mem_cons.mpr ⟨lw_p5, List.forall_mem_cons.mpr ⟨lw_p6, List.forall_mem_cons.mpr ⟨lw_p7, List.forall_mem_cons.mpr ⟨lw_p8, List.forall_mem_cons.mpr ⟨lw_p9, List.forall_mem_cons.mpr ⟨lw_p10, List.forall_mem_cons.mpr ⟨lw_p11, List.forall_mem_cons.mpr ⟨lw_p12, List.forall_mem_cons.mpr ⟨lw_p13, List.forall_mem_cons.mpr ⟨lw_p14, List.forall_mem_cons.mpr ⟨lw_p15, fun _ h => absurd h List.not_mem_nil⟩⟩⟩⟩⟩⟩⟩⟩⟩⟩⟩⟩⟩⟩⟩⟩
theorem lw_p16 : lw_okq (⟨"TextMarks", "showAll", "(LTextMarks$View;LTextMarks$Node;)V"⟩, 4) := ⟨⟨by decide +kernel, by decide +kernel⟩, List.mem_of_getElem? (i := 8) (by decide +kernel), List.mem_of_getElem? (i := 389) (by decide +kernel), List.mem_of_getElem? (i := 390) (by decide +kernel)⟩
theorem lw_p17 : lw_okq (⟨"TextMarks", "haveSameComments", "()Z"⟩, 4) := ⟨⟨by decide +kernel, by decide +kernel⟩, List.mem_of_getElem? (i := 8) (by decide +kernel), List.mem_of_getElem? (i := 402) (by decide +kernel), List.mem_of_getElem? (i := 403) (by decide +kernel)⟩
theorem lw_p18 : lw_okq (⟨"TextMarks", "isSameComment", "(I)Z"⟩, 4) := ⟨⟨by decide +kernel, by decide +kernel⟩, List.mem_of_getElem? (i := 8) (by decide +kernel), List.mem_of_getElem? (i := 406) (by decide +kernel), List.mem_of_getElem? (i := 407) (by decide +kernel)⟩
theorem lw_p19 : lw_okq (⟨"TextMarks", "placesOf", "(LTextMarks$Node;)I"⟩, 4) := ⟨⟨by decide +kernel, by decide +kernel⟩, List.mem_of_getElem? (i := 8) (by decide +kernel), List.mem_of_getElem? (i := 426) (by decide +kernel), List.mem_of_getElem? (i := 427) (by decide +kernel)⟩
theorem lw_p20 : lw_okq (⟨"TextMarksModel", "look", "(I)V"⟩, 31) := ⟨⟨by decide +kernel, by decide +kernel⟩, List.mem_of_getElem? (i := 436) (by decide +kernel), List.mem_of_getElem? (i := 552) (by decide +kernel), List.mem_of_getElem? (i := 553) (by decide +kernel)⟩
theorem lw_p21 : lw_okq (⟨"TextMarksModel", "judge", "(I)V"⟩, 31) := ⟨⟨by decide +kernel, by decide +kernel⟩, List.mem_of_getElem? (i := 436) (by decide +kernel), List.mem_of_getElem? (i := 556) (by decide +kernel), List.mem_of_getElem? (i := 557) (by decide +kernel)⟩
theorem lw_p22 : lw_okq (⟨"TextMarksModel", "knowsRow", "(II)Z"⟩, 31) := ⟨⟨by decide +kernel, by decide +kernel⟩, List.mem_of_getElem? (i := 436) (by decide +kernel), List.mem_of_getElem? (i := 560) (by decide +kernel), List.mem_of_getElem? (i := 561) (by decide +kernel)⟩
theorem lw_p23 : lw_okq (⟨"TextMarksModel", "findPlaces", "(I)V"⟩, 31) := ⟨⟨by decide +kernel, by decide +kernel⟩, List.mem_of_getElem? (i := 436) (by decide +kernel), List.mem_of_getElem? (i := 564) (by decide +kernel), List.mem_of_getElem? (i := 565) (by decide +kernel)⟩
theorem lw_p24 : lw_okq (⟨"TextMarksModel", "findOrder", "(II)V"⟩, 31) := ⟨⟨by decide +kernel, by decide +kernel⟩, List.mem_of_getElem? (i := 436) (by decide +kernel), List.mem_of_getElem? (i := 568) (by decide +kernel), List.mem_of_getElem? (i := 569) (by decide +kernel)⟩
theorem lw_p25 : lw_okq (⟨"TextMarksModel", "isBefore", "(II)Z"⟩, 31) := ⟨⟨by decide +kernel, by decide +kernel⟩, List.mem_of_getElem? (i := 436) (by decide +kernel), List.mem_of_getElem? (i := 572) (by decide +kernel), List.mem_of_getElem? (i := 573) (by decide +kernel)⟩
theorem lw_p26 : lw_okq (⟨"TextMarksModel", "isDeleted", "(I)Z"⟩, 31) := ⟨⟨by decide +kernel, by decide +kernel⟩, List.mem_of_getElem? (i := 436) (by decide +kernel), List.mem_of_getElem? (i := 576) (by decide +kernel), List.mem_of_getElem? (i := 577) (by decide +kernel)⟩
theorem lw_p27 : lw_okq (⟨"TextMarksModel", "findStyles", "(I)V"⟩, 31) := ⟨⟨by decide +kernel, by decide +kernel⟩, List.mem_of_getElem? (i := 436) (by decide +kernel), List.mem_of_getElem? (i := 580) (by decide +kernel), List.mem_of_getElem? (i := 581) (by decide +kernel)⟩
theorem lw_p28 : lw_okq (⟨"TextMarksModel", "covers", "(II)Z"⟩, 31) := ⟨⟨by decide +kernel, by decide +kernel⟩, List.mem_of_getElem? (i := 436) (by decide +kernel), List.mem_of_getElem? (i := 584) (by decide +kernel), List.mem_of_getElem? (i := 585) (by decide +kernel)⟩
theorem lw_p29 : lw_okq (⟨"TextMarksModel", "add", "(IIIIII)I"⟩, 31) := ⟨⟨by decide +kernel, by decide +kernel⟩, List.mem_of_getElem? (i := 436) (by decide +kernel), List.mem_of_getElem? (i := 588) (by decide +kernel), List.mem_of_getElem? (i := 589) (by decide +kernel)⟩
theorem lw_p30 : lw_okq (⟨"TextMarksModel", "startOf", "(I)I"⟩, 31) := ⟨⟨by decide +kernel, by decide +kernel⟩, List.mem_of_getElem? (i := 436) (by decide +kernel), List.mem_of_getElem? (i := 608) (by decide +kernel), List.mem_of_getElem? (i := 609) (by decide +kernel)⟩
theorem lw_p31 : lw_okq (⟨"TextMarksModel", "learn", "(II)V"⟩, 31) := ⟨⟨by decide +kernel, by decide +kernel⟩, List.mem_of_getElem? (i := 436) (by decide +kernel), List.mem_of_getElem? (i := 620) (by decide +kernel), List.mem_of_getElem? (i := 621) (by decide +kernel)⟩
def lw_privs_2 : List (MethodName × Nat) := [(⟨"TextMarks", "showAll", "(LTextMarks$View;LTextMarks$Node;)V"⟩, 4), (⟨"TextMarks", "haveSameComments", "()Z"⟩, 4), (⟨"TextMarks", "isSameComment", "(I)Z"⟩, 4), (⟨"TextMarks", "placesOf", "(LTextMarks$Node;)I"⟩, 4), (⟨"TextMarksModel", "look", "(I)V"⟩, 31), (⟨"TextMarksModel", "judge", "(I)V"⟩, 31), (⟨"TextMarksModel", "knowsRow", "(II)Z"⟩, 31), (⟨"TextMarksModel", "findPlaces", "(I)V"⟩, 31), (⟨"TextMarksModel", "findOrder", "(II)V"⟩, 31), (⟨"TextMarksModel", "isBefore", "(II)Z"⟩, 31), (⟨"TextMarksModel", "isDeleted", "(I)Z"⟩, 31), (⟨"TextMarksModel", "findStyles", "(I)V"⟩, 31), (⟨"TextMarksModel", "covers", "(II)Z"⟩, 31), (⟨"TextMarksModel", "add", "(IIIIII)I"⟩, 31), (⟨"TextMarksModel", "startOf", "(I)I"⟩, 31), (⟨"TextMarksModel", "learn", "(II)V"⟩, 31)]
theorem lw_r2 : ∀ q ∈ lw_privs_2, lw_okq q := List.forall_mem_cons.mpr ⟨lw_p16, List.forall_mem_cons.mpr ⟨lw_p17, List.forall_mem_cons.mpr ⟨lw_p18, List.forall_mem_cons.mpr ⟨lw_p19, List.forall_mem_cons.mpr ⟨lw_p20, List.forall_mem_cons.mpr ⟨lw_p21, List.forall_mem_cons.mpr ⟨lw_p22, List.forall_mem_cons.mpr ⟨lw_p23, List.forall_mem_cons.mpr ⟨lw_p24, List.forall_mem_cons.mpr ⟨lw_p25, List.forall_mem_cons.mpr ⟨lw_p26, List.forall_mem_cons.mpr ⟨lw_p27, List.forall_mem_cons.mpr ⟨lw_p28, List.forall_mem_cons.mpr ⟨lw_p29, List.forall_mem_cons.mpr ⟨lw_p30, List.forall_mem_cons.mpr ⟨lw_p31, fun _ h => absurd h List.not_mem_nil⟩⟩⟩⟩⟩⟩⟩⟩⟩⟩⟩⟩⟩⟩⟩⟩
theorem lw_p32 : lw_okq (⟨"TextMarksModel", "isSeen", "(II)Z"⟩, 31) := ⟨⟨by decide +kernel, by decide +kernel⟩, List.mem_of_getElem? (i := 436) (by decide +kernel), List.mem_of_getElem? (i := 632) (by decide +kernel), List.mem_of_getElem? (i := 633) (by decide +kernel)⟩
theorem lw_p33 : lw_okq (⟨"TextMarksModel", "runs", "()I"⟩, 31) := ⟨⟨by decide +kernel, by decide +kernel⟩, List.mem_of_getElem? (i := 436) (by decide +kernel), List.mem_of_getElem? (i := 656) (by decide +kernel), List.mem_of_getElem? (i := 657) (by decide +kernel)⟩
theorem lw_p34 : lw_okq (⟨"TextMarksModel", "findRun", "(I)I"⟩, 31) := ⟨⟨by decide +kernel, by decide +kernel⟩, List.mem_of_getElem? (i := 436) (by decide +kernel), List.mem_of_getElem? (i := 660) (by decide +kernel), List.mem_of_getElem? (i := 661) (by decide +kernel)⟩
theorem lw_p35 : lw_okq (⟨"TextMarksModel", "areAlike", "(II)Z"⟩, 31) := ⟨⟨by decide +kernel, by decide +kernel⟩, List.mem_of_getElem? (i := 436) (by decide +kernel), List.mem_of_getElem? (i := 664) (by decide +kernel), List.mem_of_getElem? (i := 665) (by decide +kernel)⟩
theorem lw_p36 : lw_okq (⟨"TextMarksModel", "lying", "(II)I"⟩, 31) := ⟨⟨by decide +kernel, by decide +kernel⟩, List.mem_of_getElem? (i := 436) (by decide +kernel), List.mem_of_getElem? (i := 672) (by decide +kernel), List.mem_of_getElem? (i := 673) (by decide +kernel)⟩
theorem lw_p37 : lw_okq (⟨"TextMarksModel", "kindOf", "(II)I"⟩, 31) := ⟨⟨by decide +kernel, by decide +kernel⟩, List.mem_of_getElem? (i := 436) (by decide +kernel), List.mem_of_getElem? (i := 680) (by decide +kernel), List.mem_of_getElem? (i := 681) (by decide +kernel)⟩
theorem lw_p38 : lw_okq (⟨"TextMarksModel", "keep", "(I)V"⟩, 31) := ⟨⟨by decide +kernel, by decide +kernel⟩, List.mem_of_getElem? (i := 436) (by decide +kernel), List.mem_of_getElem? (i := 692) (by decide +kernel), List.mem_of_getElem? (i := 693) (by decide +kernel)⟩
theorem lw_p39 : lw_okq (⟨"TextMarksModel", "paragraphs", "()I"⟩, 31) := ⟨⟨by decide +kernel, by decide +kernel⟩, List.mem_of_getElem? (i := 436) (by decide +kernel), List.mem_of_getElem? (i := 696) (by decide +kernel), List.mem_of_getElem? (i := 697) (by decide +kernel)⟩
theorem lw_p40 : lw_okq (⟨"TextMarksModel", "kindAt", "(II)I"⟩, 31) := ⟨⟨by decide +kernel, by decide +kernel⟩, List.mem_of_getElem? (i := 436) (by decide +kernel), List.mem_of_getElem? (i := 700) (by decide +kernel), List.mem_of_getElem? (i := 701) (by decide +kernel)⟩
theorem lw_p41 : lw_okq (⟨"TextMarksModel", "units", "()I"⟩, 31) := ⟨⟨by decide +kernel, by decide +kernel⟩, List.mem_of_getElem? (i := 436) (by decide +kernel), List.mem_of_getElem? (i := 708) (by decide +kernel), List.mem_of_getElem? (i := 709) (by decide +kernel)⟩
theorem lw_p42 : lw_okq (⟨"TextMarksModel", "knownRows", "(I)I"⟩, 31) := ⟨⟨by decide +kernel, by decide +kernel⟩, List.mem_of_getElem? (i := 436) (by decide +kernel), List.mem_of_getElem? (i := 712) (by decide +kernel), List.mem_of_getElem? (i := 713) (by decide +kernel)⟩
def lw_privs_3 : List (MethodName × Nat) := [(⟨"TextMarksModel", "isSeen", "(II)Z"⟩, 31), (⟨"TextMarksModel", "runs", "()I"⟩, 31), (⟨"TextMarksModel", "findRun", "(I)I"⟩, 31), (⟨"TextMarksModel", "areAlike", "(II)Z"⟩, 31), (⟨"TextMarksModel", "lying", "(II)I"⟩, 31), (⟨"TextMarksModel", "kindOf", "(II)I"⟩, 31), (⟨"TextMarksModel", "keep", "(I)V"⟩, 31), (⟨"TextMarksModel", "paragraphs", "()I"⟩, 31), (⟨"TextMarksModel", "kindAt", "(II)I"⟩, 31), (⟨"TextMarksModel", "units", "()I"⟩, 31), (⟨"TextMarksModel", "knownRows", "(I)I"⟩, 31)]
theorem lw_r3 : ∀ q ∈ lw_privs_3, lw_okq q := List.forall_mem_cons.mpr ⟨lw_p32, List.forall_mem_cons.mpr ⟨lw_p33, List.forall_mem_cons.mpr ⟨lw_p34, List.forall_mem_cons.mpr ⟨lw_p35, List.forall_mem_cons.mpr ⟨lw_p36, List.forall_mem_cons.mpr ⟨lw_p37, List.forall_mem_cons.mpr ⟨lw_p38, List.forall_mem_cons.mpr ⟨lw_p39, List.forall_mem_cons.mpr ⟨lw_p40, List.forall_mem_cons.mpr ⟨lw_p41, List.forall_mem_cons.mpr ⟨lw_p42, fun _ h => absurd h List.not_mem_nil⟩⟩⟩⟩⟩⟩⟩⟩⟩⟩⟩
def lw_privs : List (MethodName × Nat) := lw_privs_1 ++ (lw_privs_2 ++ (lw_privs_3))
def lw_tbl : List Cond := k2_sels lw_privs ++ tables_1
theorem lw_privs_ok : ∀ q ∈ lw_privs, lw_okq q := by
  show ∀ q ∈ lw_privs_1 ++ (lw_privs_2 ++ (lw_privs_3)), lw_okq q
  exact List.forall_mem_append.mpr ⟨lw_r1, List.forall_mem_append.mpr ⟨lw_r2, lw_r3⟩⟩
-- ===== end of PART A =====
def tm_C0 : String := "TextMarks$Node"
def tm_T0 : u_T := fun k => match k with
  | 0 => ("TextMarks$Node", "knowing", "[Z", true)
  | 1 => ("TextMarks$Node", "known", "I", false)
  | _ => ("TextMarks$Node", "time", "I", false)
def tm_D0 : Nat → FieldType := fun k => match k with
  | 0 => .array .boolean
  | 1 => .int
  | _ => .int
theorem tm_nm0 : ∀ a, a < 3 → ∀ b, b < 3 → a ≠ b → (tm_T0 a).2.1 ≠ (tm_T0 b).2.1 := by decide +kernel
theorem tm_ty0 : ∀ k, k < 3 → parseFieldDescriptor (tm_T0 k).2.2.1 = some (tm_D0 k) := by decide +kernel
def tm_C1 : String := "TextMarks$Rows"
def tm_T1 : u_T := fun k => match k with
  | 0 => ("TextMarks$Rows", "count", "I", false)
  | 1 => ("TextMarks$Rows", "cells", "[I", true)
  | 2 => ("TextMarks$Rows", "undos", "[I", true)
  | 3 => ("TextMarks$Rows", "inOrder", "[I", true)
  | 4 => ("TextMarks$Rows", "places", "[I", true)
  | _ => ("TextMarks$Rows", "placeCount", "I", false)
def tm_D1 : Nat → FieldType := fun k => match k with
  | 0 => .int
  | 1 => .array .int
  | 2 => .array .int
  | 3 => .array .int
  | 4 => .array .int
  | _ => .int
theorem tm_nm1 : ∀ a, a < 6 → ∀ b, b < 6 → a ≠ b → (tm_T1 a).2.1 ≠ (tm_T1 b).2.1 := by decide +kernel
theorem tm_ty1 : ∀ k, k < 6 → parseFieldDescriptor (tm_T1 k).2.2.1 = some (tm_D1 k) := by decide +kernel
def tm_C2 : String := "TextMarks$View"
def tm_T2 : u_T := fun k => match k with
  | 0 => ("TextMarks$View", "size", "I", false)
  | 1 => ("TextMarks$View", "inserts", "[I", true)
  | 2 => ("TextMarks$View", "signs", "[I", true)
  | 3 => ("TextMarks$View", "looks", "[I", true)
  | 4 => ("TextMarks$View", "good", "[Z", true)
  | 5 => ("TextMarks$View", "seen", "[Z", true)
  | 6 => ("TextMarks$View", "ahead", "[I", true)
  | _ => ("TextMarks$View", "kinds", "[I", true)
def tm_D2 : Nat → FieldType := fun k => match k with
  | 0 => .int
  | 1 => .array .int
  | 2 => .array .int
  | 3 => .array .int
  | 4 => .array .boolean
  | 5 => .array .boolean
  | 6 => .array .int
  | _ => .array .int
theorem tm_nm2 : ∀ a, a < 8 → ∀ b, b < 8 → a ≠ b → (tm_T2 a).2.1 ≠ (tm_T2 b).2.1 := by decide +kernel
theorem tm_ty2 : ∀ k, k < 8 → parseFieldDescriptor (tm_T2 k).2.2.1 = some (tm_D2 k) := by decide +kernel
def tm_C3 : String := "TextMarks"
def tm_T3 : u_T := fun k => match k with
  | 0 => ("TextMarks", "rows", "LTextMarks$Rows;", true)
  | 1 => ("TextMarks", "nodes", "[LTextMarks$Node;", true)
  | 2 => ("TextMarks", "view", "LTextMarks$View;", true)
  | _ => ("TextMarks", "otherView", "LTextMarks$View;", true)
def tm_D3 : Nat → FieldType := fun k => match k with
  | 0 => .object "TextMarks$Rows"
  | 1 => .array (.object "TextMarks$Node")
  | 2 => .object "TextMarks$View"
  | _ => .object "TextMarks$View"
theorem tm_nm3 : ∀ a, a < 4 → ∀ b, b < 4 → a ≠ b → (tm_T3 a).2.1 ≠ (tm_T3 b).2.1 := by decide +kernel
theorem tm_ty3 : ∀ k, k < 4 → parseFieldDescriptor (tm_T3 k).2.2.1 = some (tm_D3 k) := by decide +kernel
def tm_C4 : String := "TextMarksModel"
def tm_T4 : u_T := fun k => match k with
  | 0 => ("TextMarksModel", "thrown", "I", false)
  | 1 => ("TextMarksModel", "rows", "I", false)
  | 2 => ("TextMarksModel", "sort", "[I", true)
  | 3 => ("TextMarksModel", "who", "[I", true)
  | 4 => ("TextMarksModel", "time", "[I", true)
  | 5 => ("TextMarksModel", "what", "[I", true)
  | 6 => ("TextMarksModel", "value", "[I", true)
  | 7 => ("TextMarksModel", "first", "[I", true)
  | 8 => ("TextMarksModel", "second", "[I", true)
  | 9 => ("TextMarksModel", "knows", "[Z", true)
  | 10 => ("TextMarksModel", "clock", "[I", true)
  | 11 => ("TextMarksModel", "seenBy", "I", false)
  | 12 => ("TextMarksModel", "good", "[Z", true)
  | 13 => ("TextMarksModel", "places", "I", false)
  | 14 => ("TextMarksModel", "place", "[I", true)
  | 15 => ("TextMarksModel", "where", "[I", true)
  | 16 => ("TextMarksModel", "ahead", "[I", true)
  | 17 => ("TextMarksModel", "seen", "I", false)
  | 18 => ("TextMarksModel", "at", "[I", true)
  | 19 => ("TextMarksModel", "styled", "[I", true)
  | 20 => ("TextMarksModel", "orders", "I", false)
  | 21 => ("TextMarksModel", "order", "[I", true)
  | 22 => ("TextMarksModel", "runFrom", "I", false)
  | 23 => ("TextMarksModel", "runTo", "I", false)
  | 24 => ("TextMarksModel", "oldSeen", "I", false)
  | 25 => ("TextMarksModel", "oldSign", "[I", true)
  | 26 => ("TextMarksModel", "oldStyle", "[I", true)
  | 27 => ("TextMarksModel", "oldFrom", "[I", true)
  | 28 => ("TextMarksModel", "oldTo", "[I", true)
  | 29 => ("TextMarksModel", "oldParagraphs", "I", false)
  | _ => ("TextMarksModel", "oldKind", "[I", true)
def tm_D4 : Nat → FieldType := fun k => match k with
  | 0 => .int
  | 1 => .int
  | 2 => .array .int
  | 3 => .array .int
  | 4 => .array .int
  | 5 => .array .int
  | 6 => .array .int
  | 7 => .array .int
  | 8 => .array .int
  | 9 => .array .boolean
  | 10 => .array .int
  | 11 => .int
  | 12 => .array .boolean
  | 13 => .int
  | 14 => .array .int
  | 15 => .array .int
  | 16 => .array .int
  | 17 => .int
  | 18 => .array .int
  | 19 => .array .int
  | 20 => .int
  | 21 => .array .int
  | 22 => .int
  | 23 => .int
  | 24 => .int
  | 25 => .array .int
  | 26 => .array .int
  | 27 => .array .int
  | 28 => .array .int
  | 29 => .int
  | _ => .array .int
theorem tm_nm4 : ∀ a, a < 31 → ∀ b, b < 31 → a ≠ b → (tm_T4 a).2.1 ≠ (tm_T4 b).2.1 := by decide +kernel
theorem tm_ty4 : ∀ k, k < 31 → parseFieldDescriptor (tm_T4 k).2.2.1 = some (tm_D4 k) := by decide +kernel
abbrev vwCl : List vw_C := [(tm_C0, tm_T0, 3), (tm_C1, tm_T1, 6), (tm_C2, tm_T2, 8), (tm_C3, tm_T3, 4), (tm_C4, tm_T4, 31)]
def tm_Fl : List (List Bool) := [[true, false, false], [false, true, true, true, true, false], [false, true, true, true, true, true, true, true], [true, true, true, true], [false, false, true, true, true, true, true, true, true, true, true, false, true, false, true, true, true, false, true, true, false, true, false, false, false, true, true, true, true, false, true]]
def tm_F (c : Nat) : List Bool := tm_Fl.getD c []
def tm_T : List (Nat × FieldType) := [(1, .int), (2, .boolean), (3, .object "TextMarks$Node")]
def tm_law : Nat := 0
def tm_yl : List MethodName := [⟨"TextMarksLaw", "law", "([I)Z"⟩, ⟨"TextMarks", "<init>", "()V"⟩, ⟨"TextMarks", "insert", "(III)I"⟩, ⟨"TextMarks", "delete", "(II)I"⟩, ⟨"TextMarks", "style", "(IIIII)I"⟩, ⟨"TextMarks", "comment", "(III)I"⟩, ⟨"TextMarks", "block", "(III)I"⟩, ⟨"TextMarks", "undo", "(II)I"⟩, ⟨"TextMarks", "see", "(II)Z"⟩, ⟨"TextMarks", "meet", "(II)I"⟩, ⟨"TextMarks", "sign", "(II)I"⟩, ⟨"TextMarks", "id", "(II)I"⟩, ⟨"TextMarks", "unit", "(II)I"⟩, ⟨"TextMarks", "styled", "(III)I"⟩, ⟨"TextMarks", "run", "(III)I"⟩, ⟨"TextMarks", "lies", "(III)I"⟩, ⟨"TextMarks", "paragraph", "(III)I"⟩, ⟨"TextMarks", "row", "(II)I"⟩, ⟨"TextMarks", "alike", "(II)Z"⟩, ⟨"TextMarks", "total", "(II)I"⟩, ⟨"TextMarks", "nodeOf", "(I)LTextMarks$Node;"⟩, ⟨"TextMarks", "isSign", "(I)Z"⟩, ⟨"TextMarks", "isKey", "(I)Z"⟩, ⟨"TextMarks", "grows", "(I)Z"⟩, ⟨"TextMarks", "shows", "(I)Z"⟩, ⟨"TextMarks", "write", "(IIIIII)I"⟩, ⟨"TextMarks", "knowsNeeds", "(LTextMarks$Node;I)Z"⟩, ⟨"TextMarks", "placesOf", "(LTextMarks$Node;)I"⟩, ⟨"TextMarks", "commentFrom", "(LTextMarks$View;I)I"⟩, ⟨"TextMarks", "commentTo", "(LTextMarks$View;I)I"⟩, ⟨"TextMarks", "showAll", "(LTextMarks$View;LTextMarks$Node;)V"⟩, ⟨"TextMarks", "haveSameComments", "()Z"⟩, ⟨"TextMarks", "isSameComment", "(I)Z"⟩, ⟨"TextMarksModel", "<init>", "()V"⟩, ⟨"TextMarksModel", "within", "(III)Z"⟩, ⟨"TextMarksModel", "knowsRow", "(II)Z"⟩, ⟨"TextMarksModel", "isBefore", "(II)Z"⟩, ⟨"TextMarksModel", "judge", "(I)V"⟩, ⟨"TextMarksModel", "findOrder", "(II)V"⟩, ⟨"TextMarksModel", "findPlaces", "(I)V"⟩, ⟨"TextMarksModel", "isDeleted", "(I)Z"⟩, ⟨"TextMarksModel", "covers", "(II)Z"⟩, ⟨"TextMarksModel", "findStyles", "(I)V"⟩, ⟨"TextMarksModel", "look", "(I)V"⟩, ⟨"TextMarksModel", "isNode", "(I)Z"⟩, ⟨"TextMarksModel", "add", "(IIIIII)I"⟩, ⟨"TextMarksModel", "isSign", "(I)Z"⟩, ⟨"TextMarksModel", "insert", "(III)I"⟩, ⟨"TextMarksModel", "delete", "(II)I"⟩, ⟨"TextMarksModel", "style", "(IIIII)I"⟩, ⟨"TextMarksModel", "comment", "(III)I"⟩, ⟨"TextMarksModel", "startOf", "(I)I"⟩, ⟨"TextMarksModel", "block", "(III)I"⟩, ⟨"TextMarksModel", "undo", "(II)I"⟩, ⟨"TextMarksModel", "learn", "(II)V"⟩, ⟨"TextMarksModel", "see", "(II)Z"⟩, ⟨"TextMarksModel", "meet", "(II)I"⟩, ⟨"TextMarksModel", "isSeen", "(II)Z"⟩, ⟨"TextMarksModel", "sign", "(II)I"⟩, ⟨"TextMarksModel", "id", "(II)I"⟩, ⟨"TextMarksModel", "unit", "(II)I"⟩, ⟨"TextMarksModel", "styled", "(III)I"⟩, ⟨"TextMarksModel", "areAlike", "(II)Z"⟩, ⟨"TextMarksModel", "findRun", "(I)I"⟩, ⟨"TextMarksModel", "run", "(III)I"⟩, ⟨"TextMarksModel", "runs", "()I"⟩, ⟨"TextMarksModel", "lies", "(III)I"⟩, ⟨"TextMarksModel", "lying", "(II)I"⟩, ⟨"TextMarksModel", "kindOf", "(II)I"⟩, ⟨"TextMarksModel", "paragraph", "(III)I"⟩, ⟨"TextMarksModel", "row", "(II)I"⟩, ⟨"TextMarksModel", "paragraphs", "()I"⟩, ⟨"TextMarksModel", "kindAt", "(II)I"⟩, ⟨"TextMarksModel", "keep", "(I)V"⟩, ⟨"TextMarksModel", "alike", "(II)Z"⟩, ⟨"TextMarksModel", "units", "()I"⟩, ⟨"TextMarksModel", "knownRows", "(I)I"⟩, ⟨"TextMarksModel", "total", "(II)I"⟩, ⟨"TextMarks$Node", "<init>", "()V"⟩, ⟨"TextMarks$Node", "known", "()I"⟩, ⟨"TextMarks$Node", "time", "()I"⟩, ⟨"TextMarks$Node", "knows", "(I)Z"⟩, ⟨"TextMarks$Node", "learn", "(II)V"⟩, ⟨"TextMarks$Rows", "<init>", "()V"⟩, ⟨"TextMarks$Rows", "count", "()I"⟩, ⟨"TextMarks$Rows", "has", "(I)Z"⟩, ⟨"TextMarks$Rows", "cell", "(II)I"⟩, ⟨"TextMarks$Rows", "undoOf", "(I)I"⟩, ⟨"TextMarks$Rows", "inOrderAt", "(I)I"⟩, ⟨"TextMarks$Rows", "placeCount", "()I"⟩, ⟨"TextMarks$Rows", "placeAt", "(I)I"⟩, ⟨"TextMarks$Rows", "add", "(IIIIIII)I"⟩, ⟨"TextMarks$Rows", "isLater", "(II)Z"⟩, ⟨"TextMarks$Rows", "fileInOrder", "(I)V"⟩, ⟨"TextMarks$Rows", "fileInPlaces", "(II)V"⟩, ⟨"TextMarks$Rows", "firstPlaceBehind", "(I)I"⟩, ⟨"TextMarks$View", "<init>", "()V"⟩, ⟨"TextMarks$View", "show", "(LTextMarks$Rows;LTextMarks$Node;)V"⟩, ⟨"TextMarks$View", "markGoodAndSeen", "(LTextMarks$Rows;LTextMarks$Node;)V"⟩, ⟨"TextMarks$View", "hide", "(I)V"⟩, ⟨"TextMarks$View", "size", "()I"⟩, ⟨"TextMarks$View", "isGood", "(I)Z"⟩, ⟨"TextMarks$View", "hasPlace", "(I)Z"⟩, ⟨"TextMarks$View", "hasRange", "(II)Z"⟩, ⟨"TextMarks$View", "insertAt", "(I)I"⟩, ⟨"TextMarks$View", "signAt", "(I)I"⟩, ⟨"TextMarks$View", "aheadOf", "(I)I"⟩, ⟨"TextMarks$View", "aheadBehind", "(I)I"⟩, ⟨"TextMarks$View", "unitCount", "()I"⟩, ⟨"TextMarks$View", "unitAt", "(I)I"⟩, ⟨"TextMarks$View", "widthOf", "(I)I"⟩, ⟨"TextMarks$View", "partOf", "(II)I"⟩, ⟨"TextMarks$View", "paint", "(LTextMarks$Rows;)V"⟩, ⟨"TextMarks$View", "paintOne", "(LTextMarks$Rows;I)V"⟩, ⟨"TextMarks$View", "endOf", "(II)I"⟩, ⟨"TextMarks$View", "valueAt", "(II)I"⟩, ⟨"TextMarks$View", "startsRun", "(I)Z"⟩, ⟨"TextMarks$View", "runCount", "()I"⟩, ⟨"TextMarks$View", "runStart", "(I)I"⟩, ⟨"TextMarks$View", "runEnd", "(I)I"⟩, ⟨"TextMarks$View", "paragraphCount", "()I"⟩, ⟨"TextMarks$View", "paragraphStart", "(I)I"⟩, ⟨"TextMarks$View", "paragraphEnd", "(I)I"⟩, ⟨"TextMarks$View", "tellKinds", "(LTextMarks$Rows;)V"⟩, ⟨"TextMarks$View", "keepKind", "(II)V"⟩, ⟨"TextMarks$View", "kindFrom", "(I)I"⟩, ⟨"TextMarks$View", "hasSameText", "(LTextMarks$View;)Z"⟩, ⟨"TextMarks$View", "hasSameKinds", "(LTextMarks$View;)Z"⟩]
def tm_y (j : Nat) : MethodName := tm_yl.getD j ⟨"", "", ""⟩
def tm_cl : List ByteArray := [code, prog_1_method_1_code, prog_1_method_2_code, prog_1_method_3_code, prog_1_method_4_code, prog_1_method_5_code, prog_1_method_6_code, prog_1_method_7_code, prog_1_method_8_code, prog_1_method_9_code, prog_1_method_10_code, prog_1_method_11_code, prog_1_method_12_code, prog_1_method_13_code, prog_1_method_14_code, prog_1_method_15_code, prog_1_method_16_code, prog_1_method_17_code, prog_1_method_18_code, prog_1_method_19_code, prog_1_method_20_code, prog_1_method_21_code, prog_1_method_22_code, prog_1_method_23_code, prog_1_method_24_code, prog_1_method_25_code, prog_1_method_26_code, prog_1_method_27_code, prog_1_method_28_code, prog_1_method_29_code, prog_1_method_30_code, prog_1_method_31_code, prog_1_method_32_code, prog_6_method_1_code, prog_6_method_3_code, prog_6_method_4_code, prog_6_method_5_code, prog_6_method_6_code, prog_6_method_7_code, prog_6_method_8_code, prog_6_method_9_code, prog_6_method_10_code, prog_6_method_11_code, prog_6_method_12_code, prog_6_method_13_code, prog_6_method_14_code, prog_6_method_15_code, prog_6_method_16_code, prog_6_method_17_code, prog_6_method_18_code, prog_6_method_19_code, prog_6_method_20_code, prog_6_method_21_code, prog_6_method_22_code, prog_6_method_23_code, prog_6_method_24_code, prog_6_method_25_code, prog_6_method_26_code, prog_6_method_27_code, prog_6_method_28_code, prog_6_method_29_code, prog_6_method_30_code, prog_6_method_31_code, prog_6_method_32_code, prog_6_method_33_code, prog_6_method_34_code, prog_6_method_35_code, prog_6_method_36_code, prog_6_method_37_code, prog_6_method_38_code, prog_6_method_39_code, prog_6_method_40_code, prog_6_method_41_code, prog_6_method_42_code, prog_6_method_43_code, prog_6_method_44_code, prog_6_method_45_code, prog_6_method_46_code, prog_2_method_1_code, prog_2_method_2_code, prog_2_method_3_code, prog_2_method_4_code, prog_2_method_5_code, prog_3_method_1_code, prog_3_method_2_code, prog_3_method_3_code, prog_3_method_4_code, prog_3_method_5_code, prog_3_method_6_code, prog_3_method_7_code, prog_3_method_8_code, prog_3_method_9_code, prog_3_method_10_code, prog_3_method_11_code, prog_3_method_12_code, prog_3_method_13_code, prog_4_method_1_code, prog_4_method_2_code, prog_4_method_3_code, prog_4_method_4_code, prog_4_method_5_code, prog_4_method_6_code, prog_4_method_7_code, prog_4_method_8_code, prog_4_method_9_code, prog_4_method_10_code, prog_4_method_11_code, prog_4_method_12_code, prog_4_method_13_code, prog_4_method_14_code, prog_4_method_15_code, prog_4_method_16_code, prog_4_method_17_code, prog_4_method_18_code, prog_4_method_19_code, prog_4_method_20_code, prog_4_method_21_code, prog_4_method_22_code, prog_4_method_23_code, prog_4_method_24_code, prog_4_method_25_code, prog_4_method_26_code, prog_4_method_27_code, prog_4_method_28_code, prog_4_method_29_code, prog_4_method_30_code, prog_4_method_31_code, prog_4_method_32_code]
def tm_c (j : Nat) : ByteArray := tm_cl.getD j ⟨#[]⟩
def tm_ll : List Nat := [4, 2, 4, 3, 7, 4, 5, 3, 4, 7, 3, 3, 3, 4, 5, 4, 5, 3, 5, 4, 2, 1, 1, 1, 3, 10, 5, 4, 3, 3, 3, 2, 2, 1, 3, 3, 3, 3, 5, 6, 3, 6, 5, 4, 1, 7, 1, 4, 3, 7, 4, 4, 5, 3, 3, 3, 5, 3, 3, 3, 7, 4, 4, 3, 4, 1, 4, 5, 5, 6, 3, 3, 4, 4, 5, 3, 4, 3, 1, 1, 1, 2, 3, 1, 1, 2, 3, 2, 2, 1, 2, 9, 5, 3, 5, 3, 1, 5, 5, 2, 1, 2, 2, 3, 2, 2, 2, 3, 3, 5, 1, 3, 4, 9, 3, 3, 2, 3, 4, 3, 3, 4, 3, 4, 3, 3, 3, 3]
def tm_l (j : Nat) : Nat := tm_ll.getD j 0
def tm_rl : List (Option FieldType) := [some .boolean, none, some .int, some .int, some .int, some .int, some .int, some .int, some .boolean, some .int, some .int, some .int, some .int, some .int, some .int, some .int, some .int, some .int, some .boolean, some .int, some (.object "TextMarks$Node"), some .boolean, some .boolean, some .boolean, some .boolean, some .int, some .boolean, some .int, some .int, some .int, none, some .boolean, some .boolean, none, some .boolean, some .boolean, some .boolean, none, none, none, some .boolean, some .boolean, none, none, some .boolean, some .int, some .boolean, some .int, some .int, some .int, some .int, some .int, some .int, some .int, none, some .boolean, some .int, some .boolean, some .int, some .int, some .int, some .int, some .boolean, some .int, some .int, some .int, some .int, some .int, some .int, some .int, some .int, some .int, some .int, none, some .boolean, some .int, some .int, some .int, none, some .int, some .int, some .boolean, none, none, some .int, some .boolean, some .int, some .int, some .int, some .int, some .int, some .int, some .boolean, none, none, some .int, none, none, none, none, some .int, some .boolean, some .boolean, some .boolean, some .int, some .int, some .int, some .int, some .int, some .int, some .int, some .int, none, none, some .int, some .int, some .boolean, some .int, some .int, some .int, some .int, some .int, some .int, none, none, some .int, some .boolean, some .boolean]
def tm_r (j : Nat) : Option FieldType := tm_rl.getD j none
def tm_fl : List Nat := [7, 2, 6, 6, 6, 6, 6, 6, 3, 2, 5, 5, 5, 5, 5, 5, 5, 2, 6, 5, 0, 0, 0, 0, 4, 5, 2, 1, 2, 3, 5, 5, 4, 1, 0, 0, 0, 1, 1, 2, 0, 0, 2, 3, 1, 0, 1, 4, 4, 4, 4, 0, 4, 4, 0, 2, 2, 4, 5, 5, 4, 5, 0, 1, 4, 2, 4, 0, 1, 4, 1, 0, 2, 4, 5, 0, 1, 4, 1, 0, 0, 0, 1, 1, 0, 0, 1, 1, 0, 0, 0, 4, 2, 3, 3, 0, 1, 3, 2, 0, 0, 0, 0, 0, 1, 1, 0, 1, 1, 1, 0, 0, 4, 3, 2, 1, 0, 1, 1, 1, 0, 0, 0, 2, 0, 2, 0, 3]
def tm_f (j : Nat) : Nat := tm_fl.getD j 0
def tm_ol : List Nat := [174, 41, 148, 148, 148, 148, 148, 148, 67, 43, 113, 113, 113, 116, 116, 113, 113, 43, 138, 116, 0, 0, 0, 0, 91, 119, 43, 21, 43, 65, 116, 108, 87, 21, 0, 0, 0, 22, 22, 46, 0, 0, 46, 71, 22, 0, 22, 94, 94, 94, 94, 0, 94, 94, 0, 42, 42, 94, 116, 116, 94, 116, 0, 23, 94, 45, 94, 0, 22, 94, 22, 0, 46, 94, 117, 0, 22, 94, 21, 0, 0, 0, 21, 21, 0, 0, 21, 21, 0, 0, 0, 91, 43, 67, 67, 0, 21, 67, 43, 0, 0, 0, 0, 0, 21, 21, 0, 21, 20, 22, 0, 0, 93, 65, 43, 21, 0, 21, 21, 21, 0, 0, 0, 43, 0, 42, 0, 64]
def tm_o (j : Nat) : Nat := tm_ol.getD j 0
end
section
/-! THE SMALL MACHINE. A value is a number, a cell's place (or none), or unset. Cells are numbered 0, 1, ..; cell 0 is the law's script.
    g = (kind and length of each cell, the references that cells hold), m = the numbers that cells hold.
    kinds: 1 int[], 2 boolean[], 3.. arrays of references, 9 the script, 10 + c an object of class c -/
abbrev jV : Type := Int ⊕ Option Nat ⊕ Unit
def jI (x : Int) : jV := Sum.inl x
def jO (o : Option Nat) : jV := Sum.inr (Sum.inl o)
def jU : jV := Sum.inr (Sum.inr ())
abbrev jG : Type := List (Nat × Nat) × (Nat → Int → Option Nat)
abbrev jM : Type := Nat → Int → Int
abbrev jS : Type := Nat × List jV × List jV × jG × jM
abbrev jR : Type := jV × jG × jM
/-- a call: the pc behind it, the method, how many arguments, how many locals, the receiver's kind (0: none), whether it answers nothing -/
abbrev jC : Type := Nat × Nat × Nat × Nat × Nat × Bool
abbrev jOp : Type := (List jV → List jV → jG → jM → Option jS) ⊕ (List jV → jG → jM → Option jR) ⊕ jC
abbrev jK : Type := Nat → Nat → List jV → List jV → jG → jM → Option jR
def jwr (z : Int) : Int := (z + 2147483648) % 4294967296 - 2147483648
def jrg (z : Int) : Prop := -2147483648 ≤ z ∧ z < 2147483648
def jup (m : jM) (a : Nat) (i v : Int) : jM := fun b j => if b = a ∧ j = i then v else m b j
def jur (m : Nat → Int → Option Nat) (a : Nat) (i : Int) (v : Option Nat) : Nat → Int → Option Nat := fun b j => if b = a ∧ j = i then v else m b j
def jsh (g : jG) (a : Nat) : Nat × Nat := g.1.getD a (0, 0)
def jpop : Nat → List jV → List jV → Option (List jV × List jV)
  | 0, acc, st => some (acc, st)
  | n + 1, acc, v :: st => jpop n (v :: acc) st
  | _ + 1, _, [] => none
/-- the receiver is there, and of its class -/
def jrc (rc : Nat) (g : jG) (as : List jV) : Bool := match as with
  | Sum.inr (Sum.inl (some a)) :: _ => rc == 0 || (jsh g a).1 == rc
  | _ => rc == 0
def jstep (o : jOp) (k : jK) (j : Nat) (ls st : List jV) (g : jG) (m : jM) : Option jR := match o with
  | Sum.inl s => (s ls st g m).bind fun q => k j q.1 q.2.1 q.2.2.1 q.2.2.2.1 q.2.2.2.2
  | Sum.inr (Sum.inl f) => f st g m
  | Sum.inr (Sum.inr c) => (jpop c.2.2.1 [] st).bind fun q => if jrc c.2.2.2.2.1 g q.1 = true ∧ q.2.length ≤ 8 then
      (k c.2.1 0 (q.1 ++ List.replicate (c.2.2.2.1 - c.2.2.1) jU) [] g m).bind fun r => k j c.1 ls (if c.2.2.2.2.2 = true then q.2 else r.1 :: q.2) r.2.1 r.2.2 else none
def jrun (P : Nat → Nat → jOp) : Nat → jK
  | 0 => fun _ _ _ _ _ _ => none
  | n + 1 => fun j pc ls st g m => jstep (P j pc) (jrun P n) j ls st g m
theorem jrun_0 (P : Nat → Nat → jOp) (j pc : Nat) (ls st : List jV) (g : jG) (m : jM) : jrun P 0 j pc ls st g m = none := rfl
theorem jrun_s (P : Nat → Nat → jOp) (n j pc : Nat) (ls st : List jV) (g : jG) (m : jM) : jrun P (n + 1) j pc ls st g m = jstep (P j pc) (jrun P n) j ls st g m := rfl
theorem jstep_mono {k k' : jK} (h : ∀ j pc ls st g m r, k j pc ls st g m = some r → k' j pc ls st g m = some r) (o : jOp) (j : Nat) (ls st : List jV) (g : jG) (m : jM) (r : jR) (e : jstep o k j ls st g m = some r) : jstep o k' j ls st g m = some r := by
  rcases o with s | f | c
  · obtain ⟨q, h1, h2⟩ := Option.bind_eq_some_iff.mp e
    exact Option.bind_eq_some_iff.mpr ⟨q, h1, h _ _ _ _ _ _ _ h2⟩
  · exact e
  · obtain ⟨q, h1, h2⟩ := Option.bind_eq_some_iff.mp e
    refine Option.bind_eq_some_iff.mpr ⟨q, h1, ?_⟩
    by_cases hc : jrc c.2.2.2.2.1 g q.1 = true ∧ q.2.length ≤ 8
    · rw [if_pos hc] at h2 ⊢
      obtain ⟨r1, h3, h4⟩ := Option.bind_eq_some_iff.mp h2
      exact Option.bind_eq_some_iff.mpr ⟨r1, h _ _ _ _ _ _ _ h3, h _ _ _ _ _ _ _ h4⟩
    · rw [if_neg hc] at h2
      cases h2
theorem jrun_mono1 (P : Nat → Nat → jOp) : ∀ (n j pc : Nat) (ls st : List jV) (g : jG) (m : jM) (r : jR), jrun P n j pc ls st g m = some r → jrun P (n + 1) j pc ls st g m = some r
  | 0, _, _, _, _, _, _, _, e => by rw [jrun_0] at e; cases e
  | n + 1, j, pc, ls, st, g, m, r, e => by
    rw [jrun_s] at e ⊢
    exact jstep_mono (jrun_mono1 P n) _ _ _ _ _ _ _ e
theorem jrun_mono (P : Nat → Nat → jOp) {n k : Nat} (h : n ≤ k) {j pc : Nat} {ls st : List jV} {g : jG} {m : jM} {r : jR} (e : jrun P n j pc ls st g m = some r) : jrun P k j pc ls st g m = some r := by
  induction h with
  | refl => exact e
  | step _ ih => exact jrun_mono1 P _ _ _ _ _ _ _ _ ih
/-- from here the method comes to its end, with Q of its answer and of what the cells then hold -/
def jwp (P : Nat → Nat → jOp) (j pc : Nat) (ls st : List jV) (g : jG) (m : jM) (Q : jV → jG → jM → Prop) : Prop := ∃ (n : Nat) (r : jR), jrun P n j pc ls st g m = some r ∧ Q r.1 r.2.1 r.2.2
section JW
variable {P : Nat → Nat → jOp} {j pc : Nat} {ls st : List jV} {g : jG} {m : jM} {Q : jV → jG → jM → Prop}
theorem jwp_mono {Q' : jV → jG → jM → Prop} (h : jwp P j pc ls st g m Q) (hq : ∀ r g' m', Q r g' m' → Q' r g' m') : jwp P j pc ls st g m Q' := by
  obtain ⟨n, r, e, q⟩ := h
  exact ⟨n, r, e, hq _ _ _ q⟩
theorem jwp_of {s : List jV → List jV → jG → jM → Option jS} (h : P j pc = Sum.inl s) : jwp P j pc ls st g m Q = ∃ q, s ls st g m = some q ∧ jwp P j q.1 q.2.1 q.2.2.1 q.2.2.2.1 q.2.2.2.2 Q := by
  refine propext ⟨fun ⟨n, r, e, q⟩ => ?_, fun ⟨q, hs, n, r, e, q2⟩ => ⟨n + 1, r, ?_, q2⟩⟩
  · cases n with
    | zero => rw [jrun_0] at e; cases e
    | succ n =>
      rw [jrun_s, h] at e
      obtain ⟨q1, h1, h2⟩ := Option.bind_eq_some_iff.mp e
      exact ⟨q1, h1, n, r, h2, q⟩
  · rw [jrun_s, h]
    exact Option.bind_eq_some_iff.mpr ⟨q, hs, e⟩
theorem jwp_step {s : List jV → List jV → jG → jM → Option jS} {pc' : Nat} {ls' st' : List jV} {g' : jG} {m' : jM} (h : P j pc = Sum.inl s) (hs : s ls st g m = some (pc', ls', st', g', m')) : jwp P j pc ls st g m Q = jwp P j pc' ls' st' g' m' Q := by
  rw [jwp_of h, hs]
  exact propext ⟨fun ⟨q, e, w⟩ => by cases e; exact w, fun w => ⟨_, rfl, w⟩⟩
theorem jwp_if {c : Prop} [Decidable c] {s : List jV → List jV → jG → jM → Option jS} {q1 q2 : jS} (h : P j pc = Sum.inl s) (hs : s ls st g m = if c then some q1 else some q2) :
    jwp P j pc ls st g m Q = if c then jwp P j q1.1 q1.2.1 q1.2.2.1 q1.2.2.2.1 q1.2.2.2.2 Q else jwp P j q2.1 q2.2.1 q2.2.2.1 q2.2.2.2.1 q2.2.2.2.2 Q := by
  by_cases hc : c
  · rw [if_pos hc] at hs ⊢
    exact jwp_step h hs
  · rw [if_neg hc] at hs ⊢
    exact jwp_step h hs
theorem jwp_chk {c : Prop} [Decidable c] {s : List jV → List jV → jG → jM → Option jS} {q1 : jS} (h : P j pc = Sum.inl s) (hs : s ls st g m = if c then some q1 else none) :
    jwp P j pc ls st g m Q = (c ∧ jwp P j q1.1 q1.2.1 q1.2.2.1 q1.2.2.2.1 q1.2.2.2.2 Q) := by
  by_cases hc : c
  · rw [if_pos hc] at hs
    rw [jwp_step h hs]
    exact propext ⟨fun w => ⟨hc, w⟩, fun w => w.2⟩
  · rw [if_neg hc] at hs
    rw [jwp_of h, hs]
    exact propext ⟨fun ⟨q, e, w⟩ => (by cases e), fun w => absurd w.1 hc⟩
theorem jwp_ret {f : List jV → jG → jM → Option jR} {r : jV} {g' : jG} {m' : jM} (h : P j pc = Sum.inr (Sum.inl f)) (hs : f st g m = some (r, g', m')) : jwp P j pc ls st g m Q = Q r g' m' := by
  refine propext ⟨fun ⟨n, r, e, q⟩ => ?_, fun q => ⟨1, _, by rw [jrun_s, h]; exact hs, q⟩⟩
  cases n with
  | zero => rw [jrun_0] at e; cases e
  | succ n =>
    rw [jrun_s, h] at e
    have e2 := hs.symm.trans e
    cases e2
    exact q
theorem jwp_retc {c : Prop} [Decidable c] {f : List jV → jG → jM → Option jR} {r : jV} {g' : jG} {m' : jM} (h : P j pc = Sum.inr (Sum.inl f)) (hs : f st g m = if c then some (r, g', m') else none) : jwp P j pc ls st g m Q = (c ∧ Q r g' m') := by
  by_cases hc : c
  · rw [if_pos hc] at hs
    rw [jwp_ret h hs]
    exact propext ⟨fun w => ⟨hc, w⟩, fun w => w.2⟩
  · rw [if_neg hc] at hs
    refine propext ⟨fun ⟨n, r, e, q⟩ => ?_, fun w => absurd w.1 hc⟩
    cases n with
    | zero => rw [jrun_0] at e; cases e
    | succ n =>
      rw [jrun_s, h] at e
      exact absurd (hs.symm.trans e) (by simp)
theorem jwp_call {nx j' n mL rc : Nat} {vd : Bool} {as rest : List jV} (h : P j pc = Sum.inr (Sum.inr (nx, j', n, mL, rc, vd))) (hp : jpop n [] st = some (as, rest)) (hl : rest.length ≤ 8) :
    jwp P j pc ls st g m Q = (jrc rc g as = true ∧ jwp P j' 0 (as ++ List.replicate (mL - n) jU) [] g m (fun r g' m' => jwp P j nx ls (if vd = true then rest else r :: rest) g' m' Q)) := by
  refine propext ⟨fun ⟨k, r, e, q⟩ => ?_, fun ⟨hc, k1, r1, e1, k2, r2, e2, q⟩ => ⟨max k1 k2 + 1, r2, ?_, q⟩⟩
  · cases k with
    | zero => rw [jrun_0] at e; cases e
    | succ k =>
      rw [jrun_s, h] at e
      obtain ⟨q1, h1, h2⟩ := Option.bind_eq_some_iff.mp e
      have h1 : jpop n [] st = some q1 := h1
      rw [hp] at h1
      cases h1
      by_cases hc : jrc rc g as = true ∧ rest.length ≤ 8
      · have h2 := (if_pos hc).symm.trans h2
        obtain ⟨r1, h3, h4⟩ := Option.bind_eq_some_iff.mp h2
        exact ⟨hc.1, k, r1, h3, k, r, h4, q⟩
      · have h2 := (if_neg hc).symm.trans h2
        cases h2
  · rw [jrun_s, h]
    refine Option.bind_eq_some_iff.mpr ⟨(as, rest), hp, (if_pos ⟨hc, hl⟩).trans ?_⟩
    exact Option.bind_eq_some_iff.mpr ⟨r1, jrun_mono P (Nat.le_max_left _ _) e1, jrun_mono P (Nat.le_max_right _ _) e2⟩
theorem jwp_callV {nx j' n mL rc : Nat} {vd : Bool} {a : Nat} {as rest : List jV} (h : P j pc = Sum.inr (Sum.inr (nx, j', n, mL, rc, vd))) (h0 : (rc == 0) = false) (hp : jpop n [] st = some (jO (some a) :: as, rest)) (hl : rest.length ≤ 8) :
    jwp P j pc ls st g m Q = ((jsh g a).1 = rc ∧ jwp P j' 0 ((jO (some a) :: as) ++ List.replicate (mL - n) jU) [] g m (fun r g' m' => jwp P j nx ls (if vd = true then rest else r :: rest) g' m' Q)) := by
  rw [jwp_call h hp hl]
  refine propext ⟨fun w => ⟨?_, w.2⟩, fun w => ⟨?_, w.2⟩⟩
  · have := w.1
    simpa [jrc, jO, h0] using this
  · simp [jrc, jO, h0, w.1]
theorem jwp_callS {nx j' n mL : Nat} {vd : Bool} {as rest : List jV} (h : P j pc = Sum.inr (Sum.inr (nx, j', n, mL, 0, vd))) (hp : jpop n [] st = some (as, rest)) (hl : rest.length ≤ 8) :
    jwp P j pc ls st g m Q = jwp P j' 0 (as ++ List.replicate (mL - n) jU) [] g m (fun r g' m' => jwp P j nx ls (if vd = true then rest else r :: rest) g' m' Q) := by
  rw [jwp_call h hp hl]
  refine propext ⟨fun w => w.2, fun w => ⟨?_, w⟩⟩
  unfold jrc
  split <;> rfl
theorem jwp_sw {c : Prop} [Decidable c] {a b : Nat} : jwp P j (if c then a else b) ls st g m Q = if c then jwp P j a ls st g m Q else jwp P j b ls st g m Q := by
  by_cases h : c
  · rw [if_pos h, if_pos h]
  · rw [if_neg h, if_neg h]
end JW
-- ===== the instructions =====
def jbad : jOp := Sum.inl fun _ _ _ _ => none
def o_push (nx : Nat) (z : Int) : jOp := Sum.inl fun ls st g m => some (nx, ls, jI z :: st, g, m)
def o_null (nx : Nat) : jOp := Sum.inl fun ls st g m => some (nx, ls, jO none :: st, g, m)
def o_iload (nx i : Nat) : jOp := Sum.inl fun ls st g m => match ls[i]? with
  | some (Sum.inl x) => some (nx, ls, jI x :: st, g, m)
  | _ => none
def o_aload (nx i : Nat) : jOp := Sum.inl fun ls st g m => match ls[i]? with
  | some (Sum.inr (Sum.inl o)) => some (nx, ls, jO o :: st, g, m)
  | _ => none
def o_istore (nx i : Nat) : jOp := Sum.inl fun ls st g m => match st with
  | Sum.inl x :: st => some (nx, ls.set i (jI x), st, g, m)
  | _ => none
def o_astore (nx i : Nat) : jOp := Sum.inl fun ls st g m => match st with
  | Sum.inr (Sum.inl o) :: st => some (nx, ls.set i (jO o), st, g, m)
  | _ => none
def o_iinc (nx i : Nat) (z : Int) : jOp := Sum.inl fun ls st g m => match ls[i]? with
  | some (Sum.inl x) => some (nx, ls.set i (jI (jwr (x + z))), st, g, m)
  | _ => none
def o_bin (nx : Nat) (f : Int → Int → Int) : jOp := Sum.inl fun ls st g m => match st with
  | Sum.inl y :: Sum.inl x :: st => some (nx, ls, jI (f x y) :: st, g, m)
  | _ => none
def f_add (x y : Int) : Int := jwr (x + y)
def f_sub (x y : Int) : Int := jwr (x - y)
def f_mul (x y : Int) : Int := jwr (x * y)
def f_and (x y : Int) : Int := (Int32.ofInt x &&& Int32.ofInt y).toInt
def f_or (x y : Int) : Int := (Int32.ofInt x ||| Int32.ofInt y).toInt
def f_xor (x y : Int) : Int := (Int32.ofInt x ^^^ Int32.ofInt y).toInt
def f_shl (x y : Int) : Int := (Int32.ofInt x <<< (Int32.ofInt y &&& 31)).toInt
def f_shr (x y : Int) : Int := (Int32.ofInt x >>> (Int32.ofInt y &&& 31)).toInt
def f_max (x y : Int) : Int := if x < y then y else x
def f_min (x y : Int) : Int := if y < x then y else x
def f_div (x y : Int) : Int := (Int32.ofInt x / Int32.ofInt y).toInt
def f_rem (x y : Int) : Int := (Int32.ofInt x - Int32.ofInt x / Int32.ofInt y * Int32.ofInt y).toInt
def o_mm (nx : Nat) (f : Int → Int → Int) : jOp := Sum.inl fun ls st g m => match st with
  | Sum.inl y :: Sum.inl x :: st => if st.length ≤ 8 then some (nx, ls, jI (f x y) :: st, g, m) else none
  | _ => none
def o_dv (nx : Nat) (f : Int → Int → Int) : jOp := Sum.inl fun ls st g m => match st with
  | Sum.inl y :: Sum.inl x :: st => if y ≠ 0 then some (nx, ls, jI (f x y) :: st, g, m) else none
  | _ => none
def o_if_eq (nx tg : Nat) : jOp := Sum.inl fun ls st g m => match st with
  | Sum.inl x :: st => if x = 0 then some (tg, ls, st, g, m) else some (nx, ls, st, g, m)
  | _ => none
def o_if_ne (nx tg : Nat) : jOp := Sum.inl fun ls st g m => match st with
  | Sum.inl x :: st => if x ≠ 0 then some (tg, ls, st, g, m) else some (nx, ls, st, g, m)
  | _ => none
def o_if_lt (nx tg : Nat) : jOp := Sum.inl fun ls st g m => match st with
  | Sum.inl x :: st => if x < 0 then some (tg, ls, st, g, m) else some (nx, ls, st, g, m)
  | _ => none
def o_if_ge (nx tg : Nat) : jOp := Sum.inl fun ls st g m => match st with
  | Sum.inl x :: st => if 0 ≤ x then some (tg, ls, st, g, m) else some (nx, ls, st, g, m)
  | _ => none
def o_if_gt (nx tg : Nat) : jOp := Sum.inl fun ls st g m => match st with
  | Sum.inl x :: st => if 0 < x then some (tg, ls, st, g, m) else some (nx, ls, st, g, m)
  | _ => none
def o_if_le (nx tg : Nat) : jOp := Sum.inl fun ls st g m => match st with
  | Sum.inl x :: st => if x ≤ 0 then some (tg, ls, st, g, m) else some (nx, ls, st, g, m)
  | _ => none
def o_ic_eq (nx tg : Nat) : jOp := Sum.inl fun ls st g m => match st with
  | Sum.inl y :: Sum.inl x :: st => if x = y then some (tg, ls, st, g, m) else some (nx, ls, st, g, m)
  | _ => none
def o_ic_ne (nx tg : Nat) : jOp := Sum.inl fun ls st g m => match st with
  | Sum.inl y :: Sum.inl x :: st => if x ≠ y then some (tg, ls, st, g, m) else some (nx, ls, st, g, m)
  | _ => none
def o_ic_lt (nx tg : Nat) : jOp := Sum.inl fun ls st g m => match st with
  | Sum.inl y :: Sum.inl x :: st => if x < y then some (tg, ls, st, g, m) else some (nx, ls, st, g, m)
  | _ => none
def o_ic_ge (nx tg : Nat) : jOp := Sum.inl fun ls st g m => match st with
  | Sum.inl y :: Sum.inl x :: st => if y ≤ x then some (tg, ls, st, g, m) else some (nx, ls, st, g, m)
  | _ => none
def o_ic_gt (nx tg : Nat) : jOp := Sum.inl fun ls st g m => match st with
  | Sum.inl y :: Sum.inl x :: st => if y < x then some (tg, ls, st, g, m) else some (nx, ls, st, g, m)
  | _ => none
def o_ic_le (nx tg : Nat) : jOp := Sum.inl fun ls st g m => match st with
  | Sum.inl y :: Sum.inl x :: st => if x ≤ y then some (tg, ls, st, g, m) else some (nx, ls, st, g, m)
  | _ => none
def o_goto (tg : Nat) : jOp := Sum.inl fun ls st g m => some (tg, ls, st, g, m)
def o_ifnull (nx tg : Nat) : jOp := Sum.inl fun ls st g m => match st with
  | Sum.inr (Sum.inl none) :: st => some (tg, ls, st, g, m)
  | Sum.inr (Sum.inl (some _)) :: st => some (nx, ls, st, g, m)
  | _ => none
def o_ifnonnull (nx tg : Nat) : jOp := Sum.inl fun ls st g m => match st with
  | Sum.inr (Sum.inl none) :: st => some (nx, ls, st, g, m)
  | Sum.inr (Sum.inl (some _)) :: st => some (tg, ls, st, g, m)
  | _ => none
def jsw (x : Int) (d : Nat) : List (Int × Nat) → Nat
  | [] => d
  | q :: r => if x = q.1 then q.2 else jsw x d r
def o_switch (d : Nat) (t : List (Int × Nat)) : jOp := Sum.inl fun ls st g m => match st with
  | Sum.inl x :: st => some (jsw x d t, ls, st, g, m)
  | _ => none
def o_getI (nx c : Nat) (f : Int) : jOp := Sum.inl fun ls st g m => match st with
  | Sum.inr (Sum.inl (some a)) :: st => if (jsh g a).1 = c then some (nx, ls, jI (m a f) :: st, g, m) else none
  | _ => none
def o_getR (nx c : Nat) (f : Int) : jOp := Sum.inl fun ls st g m => match st with
  | Sum.inr (Sum.inl (some a)) :: st => if (jsh g a).1 = c then some (nx, ls, jO (g.2 a f) :: st, g, m) else none
  | _ => none
def o_putI (nx c : Nat) (f : Int) : jOp := Sum.inl fun ls st g m => match st with
  | Sum.inl x :: Sum.inr (Sum.inl (some a)) :: st => if (jsh g a).1 = c then some (nx, ls, st, g, jup m a f x) else none
  | _ => none
def o_putR (nx c : Nat) (f : Int) : jOp := Sum.inl fun ls st g m => match st with
  | Sum.inr (Sum.inl o) :: Sum.inr (Sum.inl (some a)) :: st => if (jsh g a).1 = c then some (nx, ls, st, (g.1, jur g.2 a f o), m) else none
  | _ => none
def o_nald (nx kd : Nat) : jOp := Sum.inl fun ls st g m => match st with
  | Sum.inl i :: Sum.inr (Sum.inl (some a)) :: st => if (jsh g a).1 = kd ∧ 0 ≤ i ∧ i < (jsh g a).2 then some (nx, ls, jI (m a i) :: st, g, m) else none
  | _ => none
def o_aald (nx kd : Nat) : jOp := Sum.inl fun ls st g m => match st with
  | Sum.inl i :: Sum.inr (Sum.inl (some a)) :: st => if (jsh g a).1 = kd ∧ 0 ≤ i ∧ i < (jsh g a).2 then some (nx, ls, jO (g.2 a i) :: st, g, m) else none
  | _ => none
def o_iast (nx : Nat) : jOp := Sum.inl fun ls st g m => match st with
  | Sum.inl x :: Sum.inl i :: Sum.inr (Sum.inl (some a)) :: st => if (jsh g a).1 = 1 ∧ 0 ≤ i ∧ i < (jsh g a).2 then some (nx, ls, st, g, jup m a i x) else none
  | _ => none
def o_zast (nx : Nat) : jOp := Sum.inl fun ls st g m => match st with
  | Sum.inl x :: Sum.inl i :: Sum.inr (Sum.inl (some a)) :: st => if ((jsh g a).1 = 2 ∧ 0 ≤ i ∧ i < (jsh g a).2) ∧ (x = 0 ∨ x = 1) then some (nx, ls, st, g, jup m a i x) else none
  | _ => none
def o_aast (nx kd c : Nat) : jOp := Sum.inl fun ls st g m => match st with
  | Sum.inr (Sum.inl (some b)) :: Sum.inl i :: Sum.inr (Sum.inl (some a)) :: st => if ((jsh g a).1 = kd ∧ 0 ≤ i ∧ i < (jsh g a).2) ∧ (jsh g b).1 = c then some (nx, ls, st, (g.1, jur g.2 a i (some b)), m) else none
  | _ => none
def o_alen (nx kd : Nat) : jOp := Sum.inl fun ls st g m => match st with
  | Sum.inr (Sum.inl (some a)) :: st => if (jsh g a).1 = kd ∧ (jsh g a).2 ≤ 100000 then some (nx, ls, jI (jsh g a).2 :: st, g, m) else none
  | _ => none
def o_sald (nx : Nat) : jOp := Sum.inl fun ls st g m => match st with
  | Sum.inl i :: Sum.inr (Sum.inl (some 0)) :: st => if 0 ≤ i ∧ i < (jsh g 0).2 then some (nx, ls, jI (m 0 i) :: st, g, m) else none
  | _ => none
def o_slen (nx : Nat) : jOp := Sum.inl fun ls st g m => match st with
  | Sum.inr (Sum.inl (some 0)) :: st => if (jsh g 0).2 ≤ 100000 then some (nx, ls, jI (jsh g 0).2 :: st, g, m) else none
  | _ => none
def o_newa (nx kd : Nat) : jOp := Sum.inl fun ls st g m => match st with
  | Sum.inl n :: st => if 0 ≤ n ∧ n ≤ 100000 then some (nx, ls, jO (some g.1.length) :: st, (g.1 ++ [(kd, n.toNat)], g.2), m) else none
  | _ => none
def o_new (nx c n : Nat) : jOp := Sum.inl fun ls st g m => some (nx, ls, jO (some g.1.length) :: st, (g.1 ++ [(c, n)], g.2), m)
def o_dup (nx : Nat) : jOp := Sum.inl fun ls st g m => match st with
  | v :: st => some (nx, ls, v :: v :: st, g, m)
  | _ => none
def o_dup2 (nx : Nat) : jOp := Sum.inl fun ls st g m => match st with
  | v :: w :: st => some (nx, ls, v :: w :: v :: w :: st, g, m)
  | _ => none
def o_dupx1 (nx : Nat) : jOp := Sum.inl fun ls st g m => match st with
  | v :: w :: st => some (nx, ls, v :: w :: v :: st, g, m)
  | _ => none
def o_dupx2 (nx : Nat) : jOp := Sum.inl fun ls st g m => match st with
  | v :: w :: u :: st => some (nx, ls, v :: w :: u :: v :: st, g, m)
  | _ => none
def o_pop (nx : Nat) : jOp := Sum.inl fun ls st g m => match st with
  | _ :: st => some (nx, ls, st, g, m)
  | _ => none
def o_objinit (nx : Nat) : jOp := Sum.inl fun ls st g m => match st with
  | Sum.inr (Sum.inl (some _)) :: st => if st.length ≤ 8 then some (nx, ls, st, g, m) else none
  | _ => none
def o_iret : jOp := Sum.inr (Sum.inl fun st g m => match st with
  | [Sum.inl x] => some (jI x, g, m)
  | _ => none)
def o_zret : jOp := Sum.inr (Sum.inl fun st g m => match st with
  | [Sum.inl x] => if x = 0 ∨ x = 1 then some (jI x, g, m) else none
  | _ => none)
def o_aret : jOp := Sum.inr (Sum.inl fun st g m => match st with
  | [Sum.inr (Sum.inl o)] => some (jO o, g, m)
  | _ => none)
def o_vret : jOp := Sum.inr (Sum.inl fun st g m => match st with
  | [] => some (jU, g, m)
  | _ => none)
def o_call (nx j n mL rc : Nat) (vd : Bool) : jOp := Sum.inr (Sum.inr (nx, j, n, mL, rc, vd))
end
section
/-! THE SMALL MACHINE AND THE KIT'S: what a run of the small machine says of the machine -/
theorem jrg_wr (z : Int) : jrg (jwr z) := by unfold jrg jwr; omega
theorem jwr_id {z : Int} (h : jrg z) : jwr z = z := by unfold jrg at h; unfold jwr; omega
theorem jti {z : Int} (h : jrg z) : (Int32.ofInt z).toInt = z := by
  unfold jrg at h
  exact Int32.toInt_ofInt_of_le (by omega) (by omega)
theorem jrg_t (x : Int32) : jrg x.toInt := ⟨by have := x.le_toInt; omega, by have := x.toInt_lt; omega⟩
theorem jof_wr (z : Int) : Int32.ofInt (jwr z) = Int32.ofInt z := by
  apply Int32.toInt_inj.mp
  rw [jti (jrg_wr z), Int32.toInt_ofInt]
  unfold jwr
  show _ = Int.bmod z 4294967296
  rw [Int.bmod_def]
  split <;> omega
theorem jlt {x y : Int} (hx : jrg x) (hy : jrg y) : Int32.ofInt x < Int32.ofInt y ↔ x < y := by rw [Int32.lt_iff_toInt_lt, jti hx, jti hy]
theorem jle {x y : Int} (hx : jrg x) (hy : jrg y) : Int32.ofInt x ≤ Int32.ofInt y ↔ x ≤ y := by rw [Int32.le_iff_toInt_le, jti hx, jti hy]
theorem jeq {x y : Int} (hx : jrg x) (hy : jrg y) : Int32.ofInt x = Int32.ofInt y ↔ x = y := by rw [← Int32.toInt_inj, jti hx, jti hy]
theorem jz0 : (0 : Int32) = Int32.ofInt 0 := by decide
theorem jrg0 : jrg 0 := by unfold jrg; omega
theorem jin {i : Int} {n : Nat} (hi : jrg i) (h0 : 0 ≤ i) (h : i < n) : vp_in (Int32.ofInt i) n := by rw [vp_in_iff, jti hi]; exact ⟨h0, h⟩
theorem jcl_of {i : Int} (hi : jrg i) : (Int32.ofInt i).toNatClampNeg = i.toNat := by
  unfold jrg at hi
  exact Int32.toNatClampNeg_ofInt_of_le (by omega) (by omega)
def jcv (ad : Nat → Nat) (v : jV) : Value := match v with
  | Sum.inl x => .int (Int32.ofInt x)
  | Sum.inr (Sum.inl o) => va_rf (o.map ad)
  | Sum.inr (Sum.inr _) => .null
theorem jcv_cat (ad : Nat → Nat) (v : jV) : (jcv ad v).category = 1 := by
  rcases v with x | (_ | a) | u <;> rfl
def jok (N : Nat) (v : jV) : Prop := match v with
  | Sum.inl x => jrg x
  | Sum.inr (Sum.inl (some a)) => a < N
  | _ => True
theorem jok_mono {N N' : Nat} {v : jV} (h : jok N v) (hn : N ≤ N') : jok N' v := by
  rcases v with x | (_ | a) | u
  · exact h
  · trivial
  · exact Nat.lt_of_lt_of_le h hn
  · trivial
theorem jcv_ag {N : Nat} {ad ad' : Nat → Nat} (h : ∀ a, a < N → ad' a = ad a) {v : jV} (hv : jok N v) : jcv ad' v = jcv ad v := by
  rcases v with x | (_ | a) | u
  · rfl
  · rfl
  · show va_rf (some (ad' a)) = va_rf (some (ad a))
    rw [h a hv]
  · rfl
-- the locals
def jlp (ad : Nat → Nat) (i : Nat) (v : jV) : Option (Nat × Value) := match v with
  | Sum.inr (Sum.inr _) => none
  | v => some (i, jcv ad v)
theorem jlp_some {ad : Nat → Nat} {i : Nat} {v : jV} (h : v ≠ jU) : jlp ad i v = some (i, jcv ad v) := by
  rcases v with x | o | u
  · rfl
  · rfl
  · exact absurd rfl h
theorem jlp_of {ad : Nat → Nat} {i : Nat} {v : jV} {q : Nat × Value} (h : jlp ad i v = some q) : v ≠ jU ∧ q = (i, jcv ad v) := by
  rcases v with x | o | u
  · cases h; exact ⟨fun h => (by cases h), rfl⟩
  · cases h; exact ⟨fun h => (by cases h), rfl⟩
  · cases h
def jlv (ad : Nat → Nat) (ls : List jV) : List (Nat × Value) := (List.range ls.length).filterMap fun i => (ls[i]?).bind fun v => jlp ad i v
def jL (ad : Nat → Nat) (ls : List jV) (lsA : Array Slot) : Prop := lv_has lsA ls.length (jlv ad ls)
theorem jlv_mem {ad : Nat → Nat} {ls : List jV} {i : Nat} {v : jV} (h : ls[i]? = some v) (hv : v ≠ jU) : (i, jcv ad v) ∈ jlv ad ls := by
  refine List.mem_filterMap.mpr ⟨i, List.mem_range.mpr (List.getElem?_eq_some_iff.mp h).1, ?_⟩
  rw [h]
  exact jlp_some hv
theorem jlv_of {ad : Nat → Nat} {ls : List jV} {q : Nat × Value} (h : q ∈ jlv ad ls) : ∃ v, ls[q.1]? = some v ∧ v ≠ jU ∧ q.2 = jcv ad v := by
  obtain ⟨i, -, h2⟩ := List.mem_filterMap.mp h
  obtain ⟨v, h3, h4⟩ := Option.bind_eq_some_iff.mp h2
  obtain ⟨h5, h6⟩ := jlp_of h4
  subst h6
  exact ⟨v, h3, h5, rfl⟩
theorem jL_get {ad : Nat → Nat} {ls : List jV} {lsA : Array Slot} (h : jL ad ls lsA) {i : Nat} {v : jV} (hi : ls[i]? = some v) (hv : v ≠ jU) : lsA[i]? = some (.val (jcv ad v)) := h.2.2 (i, jcv ad v) (jlv_mem hi hv)
theorem jL_set {ad : Nat → Nat} {ls : List jV} {lsA : Array Slot} {i : Nat} {v : jV} {V : Value} (hV : jcv ad v = V) (h : lv_has lsA ls.length ((i, V) :: (jlv ad ls).filter (fun q => !(q.1 == i) && !(q.1 + 1 == i && q.2.category == 2)))) : jL ad (ls.set i v) lsA := by
  subst hV
  refine ⟨by rw [List.length_set]; exact h.1, h.2.1, fun q hq => ?_⟩
  obtain ⟨w, h1, h2, h3⟩ := jlv_of hq
  obtain ⟨k, V⟩ := q
  simp only at h1 h3
  subst h3
  by_cases hk : k = i
  · subst hk
    have hl : k < ls.length := by
      have := (List.getElem?_eq_some_iff.mp h1).1
      rwa [List.length_set] at this
    rw [List.getElem?_set_self hl] at h1
    cases h1
    exact h.2.2 _ List.mem_cons_self
  · rw [List.getElem?_set_ne (Ne.symm hk)] at h1
    refine h.2.2 (k, jcv ad w) (List.mem_cons_of_mem _ (List.mem_filter.mpr ⟨jlv_mem h1 h2, ?_⟩))
    simp [hk, jcv_cat]
theorem jL_ag {N : Nat} {ad ad' : Nat → Nat} (h : ∀ a, a < N → ad' a = ad a) {ls : List jV} {lsA : Array Slot} (hok : ∀ v ∈ ls, jok N v) (hl : jL ad ls lsA) : jL ad' ls lsA := by
  refine ⟨hl.1, hl.2.1, fun q hq => ?_⟩
  obtain ⟨w, h1, h2, h3⟩ := jlv_of hq
  obtain ⟨k, V⟩ := q
  simp only at h1 h3
  subst h3
  show lsA[k]? = _
  rw [jcv_ag h (hok w (List.mem_of_getElem? h1))]
  exact jL_get hl h1 h2
theorem jmap_ag {N : Nat} {ad ad' : Nat → Nat} (h : ∀ a, a < N → ad' a = ad a) {st : List jV} (hok : ∀ v ∈ st, jok N v) : st.map (jcv ad') = st.map (jcv ad) := List.map_congr_left fun v hv => jcv_ag h (hok v hv)
-- the cells
def jfv (ad : Nat → Nat) (g : jG) (m : jM) (k f : Nat) (b : Bool) : Value := if b = true then va_rf ((g.2 k f).map ad) else .int (Int32.ofInt (m k f))
def jfs (ad : Nat → Nat) (g : jG) (m : jM) (k : Nat) (bs : List Bool) : List Value := (List.range bs.length).map fun f => jfv ad g m k f (bs.getD f false)
def jce (tc : Nat → ClassId) (ad : Nat → Nat) (g : jG) (m : jM) (k : Nat) : va_E :=
  if (jsh g k).1 < 10 then
    if (jsh g k).1 ≤ 2 then .inl (tc (jsh g k).1, (jsh g k).2, .inl fun i => Int32.ofInt (m k i))
    else .inl (tc (jsh g k).1, (jsh g k).2, .inr (.inr (.inr (.inr fun i => (g.2 k i).map ad))))
  else .inr ((jsh g k).1 - 10, jfs ad g m k (tm_F ((jsh g k).1 - 10)))
def jcw (tc : Nat → ClassId) (ad : Nat → Nat) (g : jG) (m : jM) : va_W := (List.range (g.1.length - 1)).map fun k => (ad (k + 1), jce tc ad g m (k + 1))
theorem jcw_len (tc : Nat → ClassId) (ad : Nat → Nat) (g : jG) (m : jM) : (jcw tc ad g m).length = g.1.length - 1 := by simp [jcw]
theorem jcw_get {tc : Nat → ClassId} {ad : Nat → Nat} {g : jG} {m : jM} {k : Nat} (h0 : 0 < k) (hk : k < g.1.length) : (jcw tc ad g m)[k - 1]? = some (ad k, jce tc ad g m k) := by
  unfold jcw
  rw [List.getElem?_map, List.getElem?_range (by omega)]
  show some (ad (k - 1 + 1), jce tc ad g m (k - 1 + 1)) = _
  rw [show k - 1 + 1 = k by omega]
theorem jcw_at {tc : Nat → ClassId} {ad : Nat → Nat} {g : jG} {m : jM} {i : Nat} {q : Nat × va_E} (h : (jcw tc ad g m)[i]? = some q) : i + 1 < g.1.length ∧ q = (ad (i + 1), jce tc ad g m (i + 1)) := by
  have hl := (List.getElem?_eq_some_iff.mp h).1
  rw [jcw_len] at hl
  have h2 := jcw_get (tc := tc) (ad := ad) (g := g) (m := m) (k := i + 1) (by omega) (by omega)
  rw [Nat.add_sub_cancel] at h2
  exact ⟨by omega, Option.some.inj (h.symm.trans h2)⟩
theorem jsh_lt {g : jG} {a : Nat} (h : (jsh g a).1 ≠ 0) : a < g.1.length := by
  rcases Nat.lt_or_ge a g.1.length with q | q
  · exact q
  · exfalso
    apply h
    unfold jsh
    rw [List.getD_eq_getElem?_getD, List.getElem?_eq_none q]
    rfl
theorem jce_m {tc : Nat → ClassId} {ad : Nat → Nat} {g : jG} {m : jM} {a k : Nat} {i v : Int} (h : k ≠ a) : jce tc ad g (jup m a i v) k = jce tc ad g m k := by
  have e : ∀ j, jup m a i v k j = m k j := fun j => by unfold jup; rw [if_neg (fun q => h q.1)]
  unfold jce jfs jfv
  simp only [e]
theorem jce_r {tc : Nat → ClassId} {ad : Nat → Nat} {g : jG} {m : jM} {a k : Nat} {i : Int} {v : Option Nat} (h : k ≠ a) : jce tc ad (g.1, jur g.2 a i v) m k = jce tc ad g m k := by
  have e : ∀ j, jur g.2 a i v k j = g.2 k j := fun j => by unfold jur; rw [if_neg (fun q => h q.1)]
  unfold jce jfs jfv jsh
  simp only [e]
theorem jcw_set {tc : Nat → ClassId} {ad : Nat → Nat} {g g' : jG} {m m' : jM} {a : Nat} (h0 : 0 < a) (hl : g'.1.length = g.1.length) (h : ∀ k, k ≠ a → jce tc ad g' m' k = jce tc ad g m k) : jcw tc ad g' m' = (jcw tc ad g m).set (a - 1) (ad a, jce tc ad g' m' a) := by
  apply List.ext_getElem?
  intro i
  by_cases hi : i + 1 < g.1.length
  · have h1 := jcw_get (tc := tc) (ad := ad) (g := g') (m := m') (k := i + 1) (by omega) (by omega)
    have h2 := jcw_get (tc := tc) (ad := ad) (g := g) (m := m) (k := i + 1) (by omega) (by omega)
    rw [Nat.add_sub_cancel] at h1 h2
    rw [h1]
    by_cases ha : i + 1 = a
    · subst ha
      rw [Nat.add_sub_cancel, List.getElem?_set_self (by rw [jcw_len]; omega)]
    · rw [List.getElem?_set_ne (by omega), h2, h _ ha]
  · rw [List.getElem?_eq_none (by rw [jcw_len]; omega), List.getElem?_eq_none (by rw [List.length_set, jcw_len]; omega)]
theorem jce_ag {tc : Nat → ClassId} {ad ad' : Nat → Nat} {g g' : jG} {m : jM} {k N : Nat} (h : ∀ a, a < N → ad' a = ad a) (hr : ∀ i b, g.2 k i = some b → b < N) (hs : jsh g' k = jsh g k) (h2 : g'.2 = g.2) : jce tc ad' g' m k = jce tc ad g m k := by
  have e : ∀ i, (g'.2 k i).map ad' = (g.2 k i).map ad := by
    intro i
    rw [h2]
    cases hi : g.2 k i with
    | none => rfl
    | some b => show some (ad' b) = some (ad b); rw [h b (hr i b hi)]
  unfold jce jfs jfv
  simp only [e, hs]
theorem jcw_push {tc : Nat → ClassId} {ad ad' : Nat → Nat} {g : jG} {m : jM} {q : Nat × Nat} (h : ∀ a, a < g.1.length → ad' a = ad a) (hr : ∀ a i b, g.2 a i = some b → b < g.1.length) (h0 : 0 < g.1.length) :
    jcw tc ad' (g.1 ++ [q], g.2) m = jcw tc ad g m ++ [(ad' g.1.length, jce tc ad' (g.1 ++ [q], g.2) m g.1.length)] := by
  apply List.ext_getElem?
  intro i
  by_cases hi : i + 1 < g.1.length
  · have h1 := jcw_get (tc := tc) (ad := ad') (g := (g.1 ++ [q], g.2)) (m := m) (k := i + 1) (by omega) (by simp; omega)
    have h2 := jcw_get (tc := tc) (ad := ad) (g := g) (m := m) (k := i + 1) (by omega) (by omega)
    rw [Nat.add_sub_cancel] at h1 h2
    rw [h1, List.getElem?_append_left (by rw [jcw_len]; omega), h2, h _ hi, jce_ag (g := g) (g' := (g.1 ++ [q], g.2)) h (hr (i + 1)) ?_ rfl]
    unfold jsh
    simp only [List.getD_eq_getElem?_getD]
    rw [List.getElem?_append_left hi]
  · by_cases he : i + 1 = g.1.length
    · have h1 := jcw_get (tc := tc) (ad := ad') (g := (g.1 ++ [q], g.2)) (m := m) (k := i + 1) (by omega) (by simp; omega)
      rw [Nat.add_sub_cancel] at h1
      rw [h1, List.getElem?_append_right (by rw [jcw_len]; omega), jcw_len, show i - (g.1.length - 1) = 0 by omega, he]
      rfl
    · rw [List.getElem?_eq_none (by rw [jcw_len]; simp; omega), List.getElem?_eq_none (by simp [jcw_len]; omega)]
/-- what holds of the numbers and the references at every time -/
def jom (g : jG) (m : jM) : Prop := (∀ a i, jrg (m a i)) ∧ (∀ a i b, g.2 a i = some b → b < g.1.length) ∧ (∀ a, g.1.length ≤ a → ∀ i, m a i = 0 ∧ g.2 a i = none) ∧ (jsh g 0).1 = 9
theorem jom_up {g : jG} {m : jM} (h : jom g m) {a : Nat} {i v : Int} (ha : a < g.1.length) (hv : jrg v) : jom g (jup m a i v) := by
  obtain ⟨h1, h2, h3, h4⟩ := h
  refine ⟨fun b j => ?_, h2, fun b hb j => ⟨?_, (h3 b hb j).2⟩, h4⟩
  · unfold jup
    split
    · exact hv
    · exact h1 b j
  · unfold jup
    rw [if_neg (fun q => by omega)]
    exact (h3 b hb j).1
theorem jom_ur {g : jG} {m : jM} (h : jom g m) {a : Nat} {i : Int} {o : Option Nat} (ha : a < g.1.length) (hv : ∀ b, o = some b → b < g.1.length) : jom (g.1, jur g.2 a i o) m := by
  obtain ⟨h1, h2, h3, h4⟩ := h
  refine ⟨h1, fun b j x => ?_, fun b hb j => ⟨(h3 b hb j).1, ?_⟩, h4⟩
  · show jur g.2 a i o b j = some x → x < g.1.length
    unfold jur
    split
    · exact hv x
    · exact h2 b j x
  · show jur g.2 a i o b j = none
    have hb : g.1.length ≤ b := hb
    unfold jur
    rw [if_neg (fun q => by omega)]
    exact (h3 b hb j).2
theorem jsh_push {g : jG} {q : Nat × Nat} {r : Nat → Int → Option Nat} {a : Nat} (h : a < g.1.length) : jsh (g.1 ++ [q], r) a = jsh g a := by
  unfold jsh
  simp only [List.getD_eq_getElem?_getD]
  rw [List.getElem?_append_left h]
theorem jsh_last {g : jG} {q : Nat × Nat} {r : Nat → Int → Option Nat} : jsh (g.1 ++ [q], r) g.1.length = q := by
  unfold jsh
  simp [List.getD_eq_getElem?_getD]
theorem jom_push {g : jG} {m : jM} (h : jom g m) (q : Nat × Nat) : jom (g.1 ++ [q], g.2) m := by
  obtain ⟨h1, h2, h3, h4⟩ := h
  have h0 : 0 < g.1.length := jsh_lt (a := 0) (by rw [h4]; decide)
  refine ⟨h1, fun a i b hb => ?_, fun a ha i => h3 a ?_ i, by rw [jsh_push h0]; exact h4⟩
  · have := h2 a i b hb
    simp
    omega
  · simp at ha
    omega
end
section
/-! what stands at a point of a method's walk -/
def jtys (tc : Nat → ClassId) : List (ClassId × FieldType) := tm_T.map fun q => (tc q.1, q.2)
def jgw : List Cond := lw_tbl.filter goodWord
def jnest : Cond → Bool
  | .fieldLinkNest .. => true
  | .methodLinkNest .. => true
  | _ => false
def jNs (U : State) : Prop := (∀ w ∈ lw_tbl, jnest w = true → va_Nw w U) ∧ ∀ C, Cond.arrayOver (.object C) ∈ lw_tbl → va_AO C U
theorem jnest_tab {w : Cond} (h : jnest w = true) : w.onTables = true := by
  cases w <;> first | rfl | (cases h; done)
theorem jNs_warm {s U : State} (hW : s.WarmedH U.vm) (h : jNs s) : jNs U := by
  refine ⟨fun w hw hn => ?_, fun C hC => (h.2 C hC).moved hW.alike⟩
  have h1 := h.1 w hw hn
  cases w <;> first | (cases hn; done) | exact va_Nw.warmF hW h1 | exact va_Nw.warmM hW h1
theorem jNs_vm {s U : State} (hv : s.vm = U.vm) (hA : s.vm.Alike U.vm) (h : jNs s) : jNs U := ⟨fun w hw hn => va_Nw.same (jnest_tab hn) hv (h.1 w hw hn), fun C hC => (h.2 C hC).moved hA⟩
def jCx (j : Nat) (p : Program) (R : Room) (s : State) (mth : MethodId) (args : Array Value) (meth : Method) (c : Code) (D : va_G) (tc : Nat → ClassId) : Prop :=
  p.tables.exec = Jvm.exec ∧ c.code = tm_c j ∧ meth.sig.returnType = tm_r j ∧ c.maxLocals = tm_l j ∧ s.vm.findClass (tm_y j).cls = some mth.cls ∧ (∀ w ∈ jgw, w.before args s = true) ∧ meth.locks = false ∧ meth.name = (tm_y j).name ∧ tm_f j ≤ R.frames ∧ tm_o j ≤ R.locals ∧ va_K D vwCl (jtys tc) s ∧ jNs s
def jRep (D : va_G) (tc : Nat → ClassId) (A : Nat → Prop) (H0 : Heap) (ad : Nat → Nat) (g : jG) (m : jM) (H : Heap) (locs : List Loc) : Prop := va_P D vwCl (jcw tc ad g m) H ∧ va_D A (jcw tc ad g m) ∧ va_S A H0 H locs ∧ jom g m
def jScr (j : Nat) (A : Nat → Prop) (ad : Nat → Nat) (g : jG) (m : jM) (s : State) : Prop := j = tm_law → ∃ (b L : Nat) (xs : Nat → Int32), ad 0 = b ∧ va_X b L xs s s.heap ∧ b < s.heap.size ∧ ¬ A b ∧ jsh g 0 = (9, L) ∧ (∀ i : Nat, i < L → m 0 i = (xs i).toInt) ∧ L < 2147483648
def jAt (j : Nat) (p : Program) (R : Room) (s : State) (mth : MethodId) (args : Array Value) (meth : Method) (c : Code) (D : va_G) (tc : Nat → ClassId) (A : Nat → Prop) (ad : Nat → Nat) (ls st : List jV) (g : jG) (m : jM) (H : Heap) (locs : List Loc) (lsA : Array Slot) : Prop :=
  jCx j p R s mth args meth c D tc ∧ (∀ q, s.heap.size ≤ q → A q) ∧ jRep D tc A s.heap ad g m H locs ∧ jL ad ls lsA ∧ (∀ v ∈ ls, jok g.1.length v) ∧ (∀ v ∈ st, jok g.1.length v) ∧ ls.length = tm_l j ∧ jScr j A ad g m s
def jExt (g : jG) (m : jM) (g' : jG) (m' : jM) : Prop := (∃ t, g'.1 = g.1 ++ t) ∧ ∀ i, m' 0 i = m 0 i
def jcl (g g' : jG) : Nat := g'.1.length - g.1.length
def jsz (g : jG) : Nat := (g.1.map Prod.snd).sum
def jsl (g g' : jG) : Nat := jsz g' - jsz g
theorem jExt.rf {g : jG} {m : jM} : jExt g m g m := ⟨⟨[], by simp⟩, fun _ => rfl⟩
theorem jExt.trans {g g1 g2 : jG} {m m1 m2 : jM} (h : jExt g m g1 m1) (h' : jExt g1 m1 g2 m2) : jExt g m g2 m2 := by
  obtain ⟨⟨t, e⟩, k⟩ := h
  obtain ⟨⟨t', e'⟩, k'⟩ := h'
  exact ⟨⟨t ++ t', by rw [e', e, List.append_assoc]⟩, fun i => (k' i).trans (k i)⟩
theorem jExt.len {g g1 : jG} {m m1 : jM} (h : jExt g m g1 m1) : g.1.length ≤ g1.1.length := by
  obtain ⟨⟨t, e⟩, -⟩ := h
  rw [e, List.length_append]
  omega
theorem jExt.sz {g g1 : jG} {m m1 : jM} (h : jExt g m g1 m1) : jsz g ≤ jsz g1 := by
  obtain ⟨⟨t, e⟩, -⟩ := h
  unfold jsz
  rw [e, List.map_append, List.sum_append]
  omega
theorem jExt.sh {g g1 : jG} {m m1 : jM} (h : jExt g m g1 m1) {a : Nat} (ha : a < g.1.length) : jsh g1 a = jsh g a := by
  obtain ⟨⟨t, e⟩, -⟩ := h
  unfold jsh
  simp only [List.getD_eq_getElem?_getD]
  rw [e, List.getElem?_append_left ha]
theorem jScr.ext {j : Nat} {A : Nat → Prop} {ad ad' : Nat → Nat} {g g1 : jG} {m m1 : jM} {s : State} (h : jScr j A ad g m s) (hx : jExt g m g1 m1) (h9 : (jsh g 0).1 = 9) (ha : ∀ a, a < g.1.length → ad' a = ad a) : jScr j A ad' g1 m1 s := by
  intro hj
  have h0 : 0 < g.1.length := jsh_lt (a := 0) (by rw [h9]; decide)
  obtain ⟨b, L, xs, q1, q2, q3, q4, q5, q6, q7⟩ := h hj
  exact ⟨b, L, xs, (ha 0 h0).trans q1, q2, q3, q4, (hx.sh h0).trans q5, fun i hi => (hx.2 i).trans (q6 i hi), q7⟩
/-- the stack with which a method ends -/
def jst (ad : Nat → Nat) (r : jV) : List Value := match r with
  | Sum.inr (Sum.inr _) => []
  | v => [jcv ad v]
def jRet (j pc : Nat) (r : jV) : Prop := match r with
  | Sum.inl x => decode (tm_c j) pc = .ok (.ireturn, 1) ∧ (tm_r j = some .int ∨ (tm_r j = some .boolean ∧ (x = 0 ∨ x = 1)))
  | Sum.inr (Sum.inl _) => decode (tm_c j) pc = .ok (.areturn, 1) ∧ ∃ n, tm_r j = some (.object n)
  | Sum.inr (Sum.inr _) => decode (tm_c j) pc = .ok (.return_, 1) ∧ tm_r j = none
def jWs (l : Launch) (j pc : Nat) (ls st : List jV) (g : jG) (m : jM) (res : jR) : Prop := (jsh g 0).1 = 9 → jExt g m res.2.1 res.2.2 ∧
  ∀ (p : Program) (e : Env) (R : Room) (s : State) (mth : MethodId) (args : Array Value) (below : List Frame) (meth : Method) (c : Code) (D : va_G) (tc : Nat → ClassId) (A : Nat → Prop) (ad : Nat → Nat) (H : Heap) (locs : List Loc) (cells slots : Nat) (Q : State → Prop) (lsA : Array Slot),
    jAt j p R s mth args meth c D tc A ad ls st g m H locs lsA → cells + jcl g res.2.1 ≤ R.cells → slots + jsl g res.2.1 ≤ R.slots →
    (∀ (ad' : Nat → Nat) (H' : Heap) (locs' : List Loc) (lsA' : Array Slot) (pc' : Nat), (∀ a, a < g.1.length → ad' a = ad a) → jRep D tc A s.heap ad' res.2.1 res.2.2 H' locs' → jok res.2.1.1.length res.1 → jRet j pc' res.1 →
      W p l e R s mth args below meth c H' locs' (cells + jcl g res.2.1) (slots + jsl g res.2.1) Q (F0 mth pc' lsA' (jst ad' res.1))) →
    W p l e R s mth args below meth c H locs cells slots Q (F0 mth pc lsA (st.map (jcv ad)))
def jSnd (j pc : Nat) (o : jOp) : Prop := ∀ (l : Launch) (k : jK), (∀ j pc ls st g m res, k j pc ls st g m = some res → jWs l j pc ls st g m res) → ∀ ls st g m res, jstep o k j ls st g m = some res → jWs l j pc ls st g m res
theorem jAdq {P : Nat → Nat → jOp} (hP : ∀ j pc, jSnd j pc (P j pc)) (l : Launch) : ∀ (n j pc : Nat) (ls st : List jV) (g : jG) (m : jM) (res : jR), jrun P n j pc ls st g m = some res → jWs l j pc ls st g m res
  | 0, _, _, _, _, _, _, _, e => by rw [jrun_0] at e; cases e
  | n + 1, j, pc, ls, st, g, m, res, e => by
    rw [jrun_s] at e
    exact hP j pc l (jrun P n) (jAdq hP l n) ls st g m res e
def jSim (l : Launch) (j pc : Nat) (ls st : List jV) (g : jG) (m : jM) (q : jS) : Prop := (jsh g 0).1 = 9 → jExt g m q.2.2.2.1 q.2.2.2.2 ∧
  ∀ (p : Program) (e : Env) (R : Room) (s : State) (mth : MethodId) (args : Array Value) (below : List Frame) (meth : Method) (c : Code) (D : va_G) (tc : Nat → ClassId) (A : Nat → Prop) (ad : Nat → Nat) (H : Heap) (locs : List Loc) (cells slots : Nat) (Q : State → Prop) (lsA : Array Slot),
    jAt j p R s mth args meth c D tc A ad ls st g m H locs lsA → cells + jcl g q.2.2.2.1 ≤ R.cells → slots + jsl g q.2.2.2.1 ≤ R.slots →
    (∀ (ad' : Nat → Nat) (H' : Heap) (locs' : List Loc) (lsA' : Array Slot), (∀ a, a < g.1.length → ad' a = ad a) → jAt j p R s mth args meth c D tc A ad' q.2.1 q.2.2.1 q.2.2.2.1 q.2.2.2.2 H' locs' lsA' →
      W p l e R s mth args below meth c H' locs' (cells + jcl g q.2.2.2.1) (slots + jsl g q.2.2.2.1) Q (F0 mth q.1 lsA' (q.2.2.1.map (jcv ad')))) →
    W p l e R s mth args below meth c H locs cells slots Q (F0 mth pc lsA (st.map (jcv ad)))
theorem jSim_then {l : Launch} {j pc : Nat} {ls st : List jV} {g : jG} {m : jM} {q : jS} {res : jR} (h : jSim l j pc ls st g m q) (w : jWs l j q.1 q.2.1 q.2.2.1 q.2.2.2.1 q.2.2.2.2 res) : jWs l j pc ls st g m res := by
  intro h9
  obtain ⟨x1, w1⟩ := h h9
  have h0 : 0 < g.1.length := jsh_lt (a := 0) (by rw [h9]; decide)
  obtain ⟨x2, w2⟩ := w (by rw [x1.sh h0]; exact h9)
  have l1 := x1.len
  have l2 := x2.len
  have z1 := x1.sz
  have z2 := x2.sz
  refine ⟨x1.trans x2, fun p e R s mth args below meth c D tc A ad H locs cells slots Q lsA hAt hc hs fin => ?_⟩
  unfold jcl jsl at *
  refine w1 p e R s mth args below meth c D tc A ad H locs cells slots Q lsA hAt (by omega) (by omega) fun ad1 H1 locs1 lsA1 ag1 hAt1 => ?_
  refine w2 p e R s mth args below meth c D tc A ad1 H1 locs1 _ _ Q lsA1 hAt1 (by omega) (by omega) fun ad2 H2 locs2 lsA2 pc2 ag2 hR hk hr => ?_
  have k := fin ad2 H2 locs2 lsA2 pc2 (fun a ha => (ag2 a (by omega)).trans (ag1 a ha)) hR hk hr
  rw [show cells + (q.2.2.2.1.1.length - g.1.length) + (res.2.1.1.length - q.2.2.2.1.1.length) = cells + (res.2.1.1.length - g.1.length) by omega,
    show slots + (jsz q.2.2.2.1 - jsz g) + (jsz res.2.1 - jsz q.2.2.2.1) = slots + (jsz res.2.1 - jsz g) by omega]
  exact k
theorem jSnd_step {j pc : Nat} {s : List jV → List jV → jG → jM → Option jS} (h : ∀ (l : Launch) (ls st : List jV) (g : jG) (m : jM) (q : jS), s ls st g m = some q → jSim l j pc ls st g m q) : jSnd j pc (Sum.inl s) := by
  intro l k hk ls st g m res e
  obtain ⟨q, h1, h2⟩ := Option.bind_eq_some_iff.mp e
  exact jSim_then (h l ls st g m q h1) (hk _ _ _ _ _ _ _ h2)
theorem jcl_rf (g : jG) : jcl g g = 0 := Nat.sub_self _
theorem jsl_rf (g : jG) : jsl g g = 0 := Nat.sub_self _
theorem jSim_pure {l : Launch} {j pc pc' : Nat} {ls st ls' st' : List jV} {g : jG} {m : jM} (hl : ls'.length = ls.length) (hok : jom g m → (∀ v ∈ ls, jok g.1.length v) → (∀ v ∈ st, jok g.1.length v) → (∀ v ∈ ls', jok g.1.length v) ∧ (∀ v ∈ st', jok g.1.length v))
    (hw : ∀ (p : Program) (e : Env) (R : Room) (s : State) (mth : MethodId) (args : Array Value) (below : List Frame) (meth : Method) (c : Code) (D : va_G) (tc : Nat → ClassId) (A : Nat → Prop) (ad : Nat → Nat) (H : Heap) (locs : List Loc) (cells slots : Nat) (Q : State → Prop) (lsA : Array Slot), jAt j p R s mth args meth c D tc A ad ls st g m H locs lsA → cells ≤ R.cells → slots ≤ R.slots →
      (∀ lsA' : Array Slot, jL ad ls' lsA' → W p l e R s mth args below meth c H locs cells slots Q (F0 mth pc' lsA' (st'.map (jcv ad)))) → W p l e R s mth args below meth c H locs cells slots Q (F0 mth pc lsA (st.map (jcv ad)))) : jSim l j pc ls st g m (pc', ls', st', g, m) := by
  intro h9
  refine ⟨jExt.rf, fun p e R s mth args below meth c D tc A ad H locs cells slots Q lsA hAt hc hs kk => ?_⟩
  have kk := fun ad' H' locs' lsA' h1 h2 => kk ad' H' locs' lsA' h1 h2
  simp only [jcl_rf, jsl_rf, Nat.add_zero] at hc hs kk
  refine hw p e R s mth args below meth c D tc A ad H locs cells slots Q lsA hAt hc hs fun lsA' hL => ?_
  obtain ⟨hC, hAA, hR, hl0, k1, k2, hn, hX⟩ := hAt
  obtain ⟨o1, o2⟩ := hok hR.2.2.2 k1 k2
  exact kk ad H locs lsA' (fun _ _ => rfl) ⟨hC, hAA, hR, hL, o1, o2, hl.trans hn, hX⟩
theorem jok_cons {N : Nat} {v : jV} {st : List jV} (h : jok N v) (hs : ∀ v ∈ st, jok N v) : ∀ w ∈ v :: st, jok N w := by
  intro w hw
  rcases List.mem_cons.mp hw with rfl | hw
  · exact h
  · exact hs w hw
theorem jok_t {N : Nat} {v : jV} {st : List jV} (hs : ∀ w ∈ v :: st, jok N w) : ∀ w ∈ st, jok N w := fun w hw => hs w (List.mem_cons_of_mem _ hw)
theorem jok_h {N : Nat} {v : jV} {st : List jV} (hs : ∀ w ∈ v :: st, jok N w) : jok N v := hs v List.mem_cons_self
theorem jok_set {N i : Nat} {v : jV} {ls : List jV} (h : jok N v) (hs : ∀ v ∈ ls, jok N v) : ∀ w ∈ ls.set i v, jok N w := by
  intro w hw
  rcases List.mem_or_eq_of_mem_set hw with q | q
  · exact hs w q
  · rw [q]; exact h
theorem jnU_I {x : Int} : (Sum.inl x : jV) ≠ jU := fun h => by cases h
theorem jnU_O {o : Option Nat} : (Sum.inr (Sum.inl o) : jV) ≠ jU := fun h => by cases h
theorem snd_bad (j pc : Nat) : jSnd j pc jbad := jSnd_step fun l ls st g m q h => by cases h
theorem snd_iconst {j pc : Nat} {n z : Int} (hd : decode (tm_c j) pc = .ok (.iconst n, 1)) (hn : Int32.ofInt n = Int32.ofInt z) (hz : jrg z) : jSnd j pc (o_push (pc + 1) z) := by
  refine jSnd_step fun l ls st g m q h => ?_
  obtain rfl := Option.some.inj h
  refine jSim_pure rfl (fun _ h1 h2 => ⟨h1, jok_cons hz h2⟩) fun p e R s mth args below meth c D tc A ad H locs cells slots Q lsA hA hce hsl kk => ?_
  exact lv_iconst hA.1.1 hA.1.2.1 hd hn (kk lsA hA.2.2.2.1)
theorem snd_bipush {j pc : Nat} {n z : Int} (hd : decode (tm_c j) pc = .ok (.bipush n, 2)) (hn : (Int8.ofInt n).toInt32 = Int32.ofInt z) (hz : jrg z) : jSnd j pc (o_push (pc + 2) z) := by
  refine jSnd_step fun l ls st g m q h => ?_
  obtain rfl := Option.some.inj h
  refine jSim_pure rfl (fun _ h1 h2 => ⟨h1, jok_cons hz h2⟩) fun p e R s mth args below meth c D tc A ad H locs cells slots Q lsA hA hce hsl kk => ?_
  exact lv_bipush hA.1.1 hA.1.2.1 hd hn (kk lsA hA.2.2.2.1)
theorem snd_sipush {j pc : Nat} {n z : Int} (hd : decode (tm_c j) pc = .ok (.sipush n, 3)) (hn : (Int16.ofInt n).toInt32 = Int32.ofInt z) (hz : jrg z) : jSnd j pc (o_push (pc + 3) z) := by
  refine jSnd_step fun l ls st g m q h => ?_
  obtain rfl := Option.some.inj h
  refine jSim_pure rfl (fun _ h1 h2 => ⟨h1, jok_cons hz h2⟩) fun p e R s mth args below meth c D tc A ad H locs cells slots Q lsA hA hce hsl kk => ?_
  exact lv_sipush hA.1.1 hA.1.2.1 hd hn (kk lsA hA.2.2.2.1)
theorem snd_ldc {j pc i : Nat} {z : Int} (hd : decode (tm_c j) pc = .ok (.ldc i, 2)) (hw : Cond.constant (tm_y j).cls i (Int32.ofInt z) ∈ jgw) (hz : jrg z) : jSnd j pc (o_push (pc + 2) z) := by
  refine jSnd_step fun l ls st g m q h => ?_
  obtain rfl := Option.some.inj h
  refine jSim_pure rfl (fun _ h1 h2 => ⟨h1, jok_cons hz h2⟩) fun p e R s mth args below meth c D tc A ad H locs cells slots Q lsA hA hce hsl kk => ?_
  exact lv_ldc hA.1.1 hA.1.2.1 hA.1.2.2.2.2.1 (hA.1.2.2.2.2.2.1 _ hw) hd (kk lsA hA.2.2.2.1)
theorem snd_null {j pc : Nat} (hd : decode (tm_c j) pc = .ok (.aconst_null, 1)) : jSnd j pc (o_null (pc + 1)) := by
  refine jSnd_step fun l ls st g m q h => ?_
  obtain rfl := Option.some.inj h
  refine jSim_pure rfl (fun _ h1 h2 => ⟨h1, jok_cons trivial h2⟩) fun p e R s mth args below meth c D tc A ad H locs cells slots Q lsA hA hce hsl kk => ?_
  exact lv_null hA.1.1 hA.1.2.1 hd (kk lsA hA.2.2.2.1)
theorem snd_iload {j pc i : Nat} (hd : decode (tm_c j) pc = .ok (.iload i, 2)) : jSnd j pc (o_iload (pc + 2) i) := by
  refine jSnd_step fun l ls st g m q h => ?_
  split at h
  · rename_i x hx
    obtain rfl := Option.some.inj h
    refine jSim_pure rfl (fun _ h1 h2 => ⟨h1, jok_cons (h1 _ (List.mem_of_getElem? hx)) h2⟩) fun p e R s mth args below meth c D tc A ad H locs cells slots Q lsA hA hce hsl kk => ?_
    exact lv_iload hA.1.1 hA.1.2.1 hd (jL_get hA.2.2.2.1 hx jnU_I) (kk lsA hA.2.2.2.1)
  · cases h
theorem snd_iload_n {j pc i : Nat} {k : Fin 4} (hd : decode (tm_c j) pc = .ok (.iload_n k, 1)) (hk : (k : Nat) = i) : jSnd j pc (o_iload (pc + 1) i) := by
  refine jSnd_step fun l ls st g m q h => ?_
  split at h
  · rename_i x hx
    obtain rfl := Option.some.inj h
    refine jSim_pure rfl (fun _ h1 h2 => ⟨h1, jok_cons (h1 _ (List.mem_of_getElem? hx)) h2⟩) fun p e R s mth args below meth c D tc A ad H locs cells slots Q lsA hA hce hsl kk => ?_
    exact lv_iload_n hA.1.1 hA.1.2.1 hd hk (jL_get hA.2.2.2.1 hx jnU_I) (kk lsA hA.2.2.2.1)
  · cases h
theorem snd_aload {j pc i : Nat} (hd : decode (tm_c j) pc = .ok (.aload i, 2)) : jSnd j pc (o_aload (pc + 2) i) := by
  refine jSnd_step fun l ls st g m q h => ?_
  split at h
  · rename_i o hx
    obtain rfl := Option.some.inj h
    refine jSim_pure rfl (fun _ h1 h2 => ⟨h1, jok_cons (h1 _ (List.mem_of_getElem? hx)) h2⟩) fun p e R s mth args below meth c D tc A ad H locs cells slots Q lsA hA hce hsl kk => ?_
    cases o with
    | none => exact lv_aloadN hA.1.1 hA.1.2.1 hd (jL_get hA.2.2.2.1 hx jnU_O) (kk lsA hA.2.2.2.1)
    | some a => exact lv_aload hA.1.1 hA.1.2.1 hd (jL_get hA.2.2.2.1 hx jnU_O) (kk lsA hA.2.2.2.1)
  · cases h
theorem snd_aload_n {j pc i : Nat} {k : Fin 4} (hd : decode (tm_c j) pc = .ok (.aload_n k, 1)) (hk : (k : Nat) = i) : jSnd j pc (o_aload (pc + 1) i) := by
  refine jSnd_step fun l ls st g m q h => ?_
  split at h
  · rename_i o hx
    obtain rfl := Option.some.inj h
    refine jSim_pure rfl (fun _ h1 h2 => ⟨h1, jok_cons (h1 _ (List.mem_of_getElem? hx)) h2⟩) fun p e R s mth args below meth c D tc A ad H locs cells slots Q lsA hA hce hsl kk => ?_
    cases o with
    | none => exact lv_aload_nN hA.1.1 hA.1.2.1 hd hk (jL_get hA.2.2.2.1 hx jnU_O) (kk lsA hA.2.2.2.1)
    | some a => exact lv_aload_n hA.1.1 hA.1.2.1 hd hk (jL_get hA.2.2.2.1 hx jnU_O) (kk lsA hA.2.2.2.1)
  · cases h
theorem snd_istore {j pc i : Nat} (hd : decode (tm_c j) pc = .ok (.istore i, 2)) (hi : i < tm_l j) : jSnd j pc (o_istore (pc + 2) i) := by
  refine jSnd_step fun l ls st g m q h => ?_
  split at h
  · rename_i x st'
    obtain rfl := Option.some.inj h
    refine jSim_pure (by simp) (fun _ h1 h2 => ⟨jok_set (jok_h h2) h1, jok_t h2⟩) fun p e R s mth args below meth c D tc A ad H locs cells slots Q lsA hA hce hsl kk => ?_
    exact lv_istore hA.1.1 hA.1.2.1 hd hA.2.2.2.1 (by rw [hA.2.2.2.2.2.2.1]; exact hi) rfl (fun ls' hl => kk ls' (jL_set rfl hl))
  · cases h
theorem snd_istore_n {j pc i : Nat} {k : Fin 4} (hd : decode (tm_c j) pc = .ok (.istore_n k, 1)) (hk : (k : Nat) = i) (hi : i < tm_l j) : jSnd j pc (o_istore (pc + 1) i) := by
  refine jSnd_step fun l ls st g m q h => ?_
  split at h
  · rename_i x st'
    obtain rfl := Option.some.inj h
    refine jSim_pure (by simp) (fun _ h1 h2 => ⟨jok_set (jok_h h2) h1, jok_t h2⟩) fun p e R s mth args below meth c D tc A ad H locs cells slots Q lsA hA hce hsl kk => ?_
    exact lv_istore_n hA.1.1 hA.1.2.1 hd hk hA.2.2.2.1 (by rw [hA.2.2.2.2.2.2.1]; exact hi) rfl (fun ls' hl => kk ls' (jL_set rfl hl))
  · cases h
theorem snd_astore {j pc i : Nat} (hd : decode (tm_c j) pc = .ok (.astore i, 2)) (hi : i < tm_l j) : jSnd j pc (o_astore (pc + 2) i) := by
  refine jSnd_step fun l ls st g m q h => ?_
  split at h
  · rename_i o st'
    obtain rfl := Option.some.inj h
    refine jSim_pure (by simp) (fun _ h1 h2 => ⟨jok_set (jok_h h2) h1, jok_t h2⟩) fun p e R s mth args below meth c D tc A ad H locs cells slots Q lsA hA hce hsl kk => ?_
    cases o with
    | none => exact lv_astoreN hA.1.1 hA.1.2.1 hd hA.2.2.2.1 (by rw [hA.2.2.2.2.2.2.1]; exact hi) rfl (fun ls' hl => kk ls' (jL_set rfl hl))
    | some a => exact lv_astore hA.1.1 hA.1.2.1 hd hA.2.2.2.1 (by rw [hA.2.2.2.2.2.2.1]; exact hi) rfl (fun ls' hl => kk ls' (jL_set rfl hl))
  · cases h
theorem snd_astore_n {j pc i : Nat} {k : Fin 4} (hd : decode (tm_c j) pc = .ok (.astore_n k, 1)) (hk : (k : Nat) = i) (hi : i < tm_l j) : jSnd j pc (o_astore (pc + 1) i) := by
  refine jSnd_step fun l ls st g m q h => ?_
  split at h
  · rename_i o st'
    obtain rfl := Option.some.inj h
    refine jSim_pure (by simp) (fun _ h1 h2 => ⟨jok_set (jok_h h2) h1, jok_t h2⟩) fun p e R s mth args below meth c D tc A ad H locs cells slots Q lsA hA hce hsl kk => ?_
    cases o with
    | none => exact lv_astore_nN hA.1.1 hA.1.2.1 hd hk hA.2.2.2.1 (by rw [hA.2.2.2.2.2.2.1]; exact hi) rfl (fun ls' hl => kk ls' (jL_set rfl hl))
    | some a => exact lv_astore_n hA.1.1 hA.1.2.1 hd hk hA.2.2.2.1 (by rw [hA.2.2.2.2.2.2.1]; exact hi) rfl (fun ls' hl => kk ls' (jL_set rfl hl))
  · cases h
theorem snd_iinc {j pc i : Nat} {z : Int} (hd : decode (tm_c j) pc = .ok (.iinc i z, 3)) (hi : i < tm_l j) : jSnd j pc (o_iinc (pc + 3) i z) := by
  refine jSnd_step fun l ls st g m q h => ?_
  split at h
  · rename_i x hx
    obtain rfl := Option.some.inj h
    refine jSim_pure (by simp) (fun _ h1 h2 => ⟨jok_set (jrg_wr _) h1, h2⟩) fun p e R s mth args below meth c D tc A ad H locs cells slots Q lsA hA hce hsl kk => ?_
    obtain ⟨k, hk⟩ := List.getElem?_of_mem (jlv_mem (ad := ad) hx jnU_I)
    exact lv_iinc hA.1.1 hA.1.2.1 hd hA.2.2.2.1 hk (v := Int32.ofInt (jwr (x + z))) (by rw [jof_wr, Int32.ofInt_add]) (by rw [hA.2.2.2.2.2.2.1]; exact hi) rfl (fun ls' hl => kk ls' (jL_set rfl hl))
  · cases h
theorem jf_add {x y : Int} : Int32.ofInt (f_add x y) = Int32.ofInt x + Int32.ofInt y := by unfold f_add; rw [jof_wr, Int32.ofInt_add]
theorem jf_sub {x y : Int} : Int32.ofInt (f_sub x y) = Int32.ofInt x - Int32.ofInt y := by unfold f_sub; rw [jof_wr, Int32.ofInt_sub]
theorem jf_mul {x y : Int} : Int32.ofInt (f_mul x y) = Int32.ofInt x * Int32.ofInt y := by unfold f_mul; rw [jof_wr, Int32.ofInt_mul]
theorem jf_and {x y : Int} : Int32.ofInt (f_and x y) = Int32.ofInt x &&& Int32.ofInt y := Int32.ofInt_toInt _
theorem jf_or {x y : Int} : Int32.ofInt (f_or x y) = Int32.ofInt x ||| Int32.ofInt y := Int32.ofInt_toInt _
theorem jf_xor {x y : Int} : Int32.ofInt (f_xor x y) = Int32.ofInt x ^^^ Int32.ofInt y := Int32.ofInt_toInt _
theorem jf_shl {x y : Int} : Int32.ofInt (f_shl x y) = Int32.ofInt x <<< (Int32.ofInt y &&& 31) := Int32.ofInt_toInt _
theorem jf_shr {x y : Int} : Int32.ofInt (f_shr x y) = Int32.ofInt x >>> (Int32.ofInt y &&& 31) := Int32.ofInt_toInt _
theorem jf_div {x y : Int} : Int32.ofInt (f_div x y) = Int32.ofInt x / Int32.ofInt y := Int32.ofInt_toInt _
theorem jf_rem {x y : Int} : Int32.ofInt (f_rem x y) = Int32.ofInt x - Int32.ofInt x / Int32.ofInt y * Int32.ofInt y := Int32.ofInt_toInt _
theorem snd_iadd {j pc : Nat} (hd : decode (tm_c j) pc = .ok (.iadd, 1)) : jSnd j pc (o_bin (pc + 1) f_add) := by
  refine jSnd_step fun l ls st g m q h => ?_
  split at h
  · rename_i y x st'
    obtain rfl := Option.some.inj h
    refine jSim_pure rfl (fun _ h1 h2 => ⟨h1, jok_cons (show jrg (f_add x y) from jrg_wr _) (jok_t (jok_t h2))⟩) fun p e R s mth args below meth c D tc A ad H locs cells slots Q lsA hA hce hsl kk => ?_
    refine lv_iadd (x := Int32.ofInt x) (y := Int32.ofInt y) hA.1.1 hA.1.2.1 hd ?_
    rw [← jf_add]
    exact kk lsA hA.2.2.2.1
  · cases h
theorem snd_isub {j pc : Nat} (hd : decode (tm_c j) pc = .ok (.isub, 1)) : jSnd j pc (o_bin (pc + 1) f_sub) := by
  refine jSnd_step fun l ls st g m q h => ?_
  split at h
  · rename_i y x st'
    obtain rfl := Option.some.inj h
    refine jSim_pure rfl (fun _ h1 h2 => ⟨h1, jok_cons (show jrg (f_sub x y) from jrg_wr _) (jok_t (jok_t h2))⟩) fun p e R s mth args below meth c D tc A ad H locs cells slots Q lsA hA hce hsl kk => ?_
    refine lv_isub (x := Int32.ofInt x) (y := Int32.ofInt y) hA.1.1 hA.1.2.1 hd ?_
    rw [← jf_sub]
    exact kk lsA hA.2.2.2.1
  · cases h
theorem snd_imul {j pc : Nat} (hd : decode (tm_c j) pc = .ok (.imul, 1)) : jSnd j pc (o_bin (pc + 1) f_mul) := by
  refine jSnd_step fun l ls st g m q h => ?_
  split at h
  · rename_i y x st'
    obtain rfl := Option.some.inj h
    refine jSim_pure rfl (fun _ h1 h2 => ⟨h1, jok_cons (show jrg (f_mul x y) from jrg_wr _) (jok_t (jok_t h2))⟩) fun p e R s mth args below meth c D tc A ad H locs cells slots Q lsA hA hce hsl kk => ?_
    refine lv_imul (x := Int32.ofInt x) (y := Int32.ofInt y) hA.1.1 hA.1.2.1 hd ?_
    rw [← jf_mul]
    exact kk lsA hA.2.2.2.1
  · cases h
theorem snd_iand {j pc : Nat} (hd : decode (tm_c j) pc = .ok (.iand, 1)) : jSnd j pc (o_bin (pc + 1) f_and) := by
  refine jSnd_step fun l ls st g m q h => ?_
  split at h
  · rename_i y x st'
    obtain rfl := Option.some.inj h
    refine jSim_pure rfl (fun _ h1 h2 => ⟨h1, jok_cons (show jrg (f_and x y) from jrg_t _) (jok_t (jok_t h2))⟩) fun p e R s mth args below meth c D tc A ad H locs cells slots Q lsA hA hce hsl kk => ?_
    refine lv_iand (x := Int32.ofInt x) (y := Int32.ofInt y) hA.1.1 hA.1.2.1 hd ?_
    rw [← jf_and]
    exact kk lsA hA.2.2.2.1
  · cases h
theorem snd_ior {j pc : Nat} (hd : decode (tm_c j) pc = .ok (.ior, 1)) : jSnd j pc (o_bin (pc + 1) f_or) := by
  refine jSnd_step fun l ls st g m q h => ?_
  split at h
  · rename_i y x st'
    obtain rfl := Option.some.inj h
    refine jSim_pure rfl (fun _ h1 h2 => ⟨h1, jok_cons (show jrg (f_or x y) from jrg_t _) (jok_t (jok_t h2))⟩) fun p e R s mth args below meth c D tc A ad H locs cells slots Q lsA hA hce hsl kk => ?_
    refine lv_ior (x := Int32.ofInt x) (y := Int32.ofInt y) hA.1.1 hA.1.2.1 hd ?_
    rw [← jf_or]
    exact kk lsA hA.2.2.2.1
  · cases h
theorem snd_ixor {j pc : Nat} (hd : decode (tm_c j) pc = .ok (.ixor, 1)) : jSnd j pc (o_bin (pc + 1) f_xor) := by
  refine jSnd_step fun l ls st g m q h => ?_
  split at h
  · rename_i y x st'
    obtain rfl := Option.some.inj h
    refine jSim_pure rfl (fun _ h1 h2 => ⟨h1, jok_cons (show jrg (f_xor x y) from jrg_t _) (jok_t (jok_t h2))⟩) fun p e R s mth args below meth c D tc A ad H locs cells slots Q lsA hA hce hsl kk => ?_
    refine lv_ixor (x := Int32.ofInt x) (y := Int32.ofInt y) hA.1.1 hA.1.2.1 hd ?_
    rw [← jf_xor]
    exact kk lsA hA.2.2.2.1
  · cases h
theorem snd_ishl {j pc : Nat} (hd : decode (tm_c j) pc = .ok (.ishl, 1)) : jSnd j pc (o_bin (pc + 1) f_shl) := by
  refine jSnd_step fun l ls st g m q h => ?_
  split at h
  · rename_i y x st'
    obtain rfl := Option.some.inj h
    refine jSim_pure rfl (fun _ h1 h2 => ⟨h1, jok_cons (show jrg (f_shl x y) from jrg_t _) (jok_t (jok_t h2))⟩) fun p e R s mth args below meth c D tc A ad H locs cells slots Q lsA hA hce hsl kk => ?_
    refine lv_ishl (x := Int32.ofInt x) (y := Int32.ofInt y) hA.1.1 hA.1.2.1 hd ?_
    rw [← jf_shl]
    exact kk lsA hA.2.2.2.1
  · cases h
theorem snd_ishr {j pc : Nat} (hd : decode (tm_c j) pc = .ok (.ishr, 1)) : jSnd j pc (o_bin (pc + 1) f_shr) := by
  refine jSnd_step fun l ls st g m q h => ?_
  split at h
  · rename_i y x st'
    obtain rfl := Option.some.inj h
    refine jSim_pure rfl (fun _ h1 h2 => ⟨h1, jok_cons (show jrg (f_shr x y) from jrg_t _) (jok_t (jok_t h2))⟩) fun p e R s mth args below meth c D tc A ad H locs cells slots Q lsA hA hce hsl kk => ?_
    refine lv_ishr (x := Int32.ofInt x) (y := Int32.ofInt y) hA.1.1 hA.1.2.1 hd ?_
    rw [← jf_shr]
    exact kk lsA hA.2.2.2.1
  · cases h
theorem snd_idiv {j pc : Nat} (hd : decode (tm_c j) pc = .ok (.idiv, 1)) : jSnd j pc (o_dv (pc + 1) f_div) := by
  refine jSnd_step fun l ls st g m q h => ?_
  split at h
  · rename_i y x st'
    by_cases hy : y ≠ 0
    · rw [if_pos hy] at h
      obtain rfl := Option.some.inj h
      refine jSim_pure rfl (fun _ h1 h2 => ⟨h1, jok_cons (show jrg (f_div x y) from jrg_t _) (jok_t (jok_t h2))⟩) fun p e R s mth args below meth c D tc A ad H locs cells slots Q lsA hA hce hsl kk => ?_
      have hry : jrg y := jok_h hA.2.2.2.2.2.1
      refine lv_idiv (x := Int32.ofInt x) (y := Int32.ofInt y) hA.1.1 hA.1.2.1 hd (fun hz => hy ?_) ?_
      · rw [jz0] at hz
        exact (jeq hry jrg0).mp hz
      · rw [← jf_div]
        exact kk lsA hA.2.2.2.1
    · rw [if_neg hy] at h
      cases h
  · cases h
theorem snd_irem {j pc : Nat} (hd : decode (tm_c j) pc = .ok (.irem, 1)) : jSnd j pc (o_dv (pc + 1) f_rem) := by
  refine jSnd_step fun l ls st g m q h => ?_
  split at h
  · rename_i y x st'
    by_cases hy : y ≠ 0
    · rw [if_pos hy] at h
      obtain rfl := Option.some.inj h
      refine jSim_pure rfl (fun _ h1 h2 => ⟨h1, jok_cons (show jrg (f_rem x y) from jrg_t _) (jok_t (jok_t h2))⟩) fun p e R s mth args below meth c D tc A ad H locs cells slots Q lsA hA hce hsl kk => ?_
      have hry : jrg y := jok_h hA.2.2.2.2.2.1
      refine lv_irem (x := Int32.ofInt x) (y := Int32.ofInt y) hA.1.1 hA.1.2.1 hd (fun hz => hy ?_) ?_
      · rw [jz0] at hz
        exact (jeq hry jrg0).mp hz
      · rw [← jf_rem]
        exact kk lsA hA.2.2.2.1
    · rw [if_neg hy] at h
      cases h
  · cases h
theorem snd_if_eq {j pc tg : Nat} {off : Int} (hd : decode (tm_c j) pc = .ok (.ifCond .eq off, 3)) (ht : (pc : Int) + off = (tg : Int)) : jSnd j pc (o_if_eq (pc + 3) tg) := by
  refine jSnd_step fun l ls st g m q h => ?_
  split at h
  · rename_i x st'
    by_cases hc : x = 0
    · rw [if_pos hc] at h
      obtain rfl := Option.some.inj h
      refine jSim_pure rfl (fun _ h1 h2 => ⟨h1, jok_t h2⟩) fun p e R s mth args below meth c D tc A ad H locs cells slots Q lsA hA hce hsl kk => ?_
      have hx : jrg x := jok_h hA.2.2.2.2.2.1
      exact lv_if_eq (x := Int32.ofInt x) hA.1.1 hA.1.2.1 hd ht (fun _ => kk lsA hA.2.2.2.1) (fun q => absurd (by rw [jz0]; exact (jeq hx jrg0).mpr hc) q)
    · rw [if_neg hc] at h
      obtain rfl := Option.some.inj h
      refine jSim_pure rfl (fun _ h1 h2 => ⟨h1, jok_t h2⟩) fun p e R s mth args below meth c D tc A ad H locs cells slots Q lsA hA hce hsl kk => ?_
      have hx : jrg x := jok_h hA.2.2.2.2.2.1
      exact lv_if_eq (x := Int32.ofInt x) hA.1.1 hA.1.2.1 hd ht (fun q => absurd ((jeq hx jrg0).mp (by rw [← jz0]; exact q)) hc) (fun _ => kk lsA hA.2.2.2.1)
  · cases h
theorem snd_if_ne {j pc tg : Nat} {off : Int} (hd : decode (tm_c j) pc = .ok (.ifCond .ne off, 3)) (ht : (pc : Int) + off = (tg : Int)) : jSnd j pc (o_if_ne (pc + 3) tg) := by
  refine jSnd_step fun l ls st g m q h => ?_
  split at h
  · rename_i x st'
    by_cases hc : x ≠ 0
    · rw [if_pos hc] at h
      obtain rfl := Option.some.inj h
      refine jSim_pure rfl (fun _ h1 h2 => ⟨h1, jok_t h2⟩) fun p e R s mth args below meth c D tc A ad H locs cells slots Q lsA hA hce hsl kk => ?_
      have hx : jrg x := jok_h hA.2.2.2.2.2.1
      exact lv_if_ne (x := Int32.ofInt x) hA.1.1 hA.1.2.1 hd ht (fun _ => kk lsA hA.2.2.2.1) (fun q => absurd ((jeq hx jrg0).mp (by rw [← jz0]; exact q)) hc)
    · rw [if_neg hc] at h
      obtain rfl := Option.some.inj h
      refine jSim_pure rfl (fun _ h1 h2 => ⟨h1, jok_t h2⟩) fun p e R s mth args below meth c D tc A ad H locs cells slots Q lsA hA hce hsl kk => ?_
      have hx : jrg x := jok_h hA.2.2.2.2.2.1
      exact lv_if_ne (x := Int32.ofInt x) hA.1.1 hA.1.2.1 hd ht (fun q => absurd (by rw [jz0]; exact (jeq hx jrg0).mpr (Decidable.not_not.mp hc)) q) (fun _ => kk lsA hA.2.2.2.1)
  · cases h
theorem snd_if_lt {j pc tg : Nat} {off : Int} (hd : decode (tm_c j) pc = .ok (.ifCond .lt off, 3)) (ht : (pc : Int) + off = (tg : Int)) : jSnd j pc (o_if_lt (pc + 3) tg) := by
  refine jSnd_step fun l ls st g m q h => ?_
  split at h
  · rename_i x st'
    by_cases hc : x < 0
    · rw [if_pos hc] at h
      obtain rfl := Option.some.inj h
      refine jSim_pure rfl (fun _ h1 h2 => ⟨h1, jok_t h2⟩) fun p e R s mth args below meth c D tc A ad H locs cells slots Q lsA hA hce hsl kk => ?_
      have hx : jrg x := jok_h hA.2.2.2.2.2.1
      exact lv_if_lt (x := Int32.ofInt x) hA.1.1 hA.1.2.1 hd ht (fun _ => kk lsA hA.2.2.2.1) (fun q => absurd (by rw [jz0]; exact (jlt hx jrg0).mpr hc) q)
    · rw [if_neg hc] at h
      obtain rfl := Option.some.inj h
      refine jSim_pure rfl (fun _ h1 h2 => ⟨h1, jok_t h2⟩) fun p e R s mth args below meth c D tc A ad H locs cells slots Q lsA hA hce hsl kk => ?_
      have hx : jrg x := jok_h hA.2.2.2.2.2.1
      exact lv_if_lt (x := Int32.ofInt x) hA.1.1 hA.1.2.1 hd ht (fun q => absurd ((jlt hx jrg0).mp (by rw [← jz0]; exact q)) hc) (fun _ => kk lsA hA.2.2.2.1)
  · cases h
theorem snd_if_ge {j pc tg : Nat} {off : Int} (hd : decode (tm_c j) pc = .ok (.ifCond .ge off, 3)) (ht : (pc : Int) + off = (tg : Int)) : jSnd j pc (o_if_ge (pc + 3) tg) := by
  refine jSnd_step fun l ls st g m q h => ?_
  split at h
  · rename_i x st'
    by_cases hc : 0 ≤ x
    · rw [if_pos hc] at h
      obtain rfl := Option.some.inj h
      refine jSim_pure rfl (fun _ h1 h2 => ⟨h1, jok_t h2⟩) fun p e R s mth args below meth c D tc A ad H locs cells slots Q lsA hA hce hsl kk => ?_
      have hx : jrg x := jok_h hA.2.2.2.2.2.1
      exact lv_if_ge (x := Int32.ofInt x) hA.1.1 hA.1.2.1 hd ht (fun _ => kk lsA hA.2.2.2.1) (fun q => absurd (by rw [jz0]; exact (jle jrg0 hx).mpr hc) q)
    · rw [if_neg hc] at h
      obtain rfl := Option.some.inj h
      refine jSim_pure rfl (fun _ h1 h2 => ⟨h1, jok_t h2⟩) fun p e R s mth args below meth c D tc A ad H locs cells slots Q lsA hA hce hsl kk => ?_
      have hx : jrg x := jok_h hA.2.2.2.2.2.1
      exact lv_if_ge (x := Int32.ofInt x) hA.1.1 hA.1.2.1 hd ht (fun q => absurd ((jle jrg0 hx).mp (by rw [← jz0]; exact q)) hc) (fun _ => kk lsA hA.2.2.2.1)
  · cases h
theorem snd_if_gt {j pc tg : Nat} {off : Int} (hd : decode (tm_c j) pc = .ok (.ifCond .gt off, 3)) (ht : (pc : Int) + off = (tg : Int)) : jSnd j pc (o_if_gt (pc + 3) tg) := by
  refine jSnd_step fun l ls st g m q h => ?_
  split at h
  · rename_i x st'
    by_cases hc : 0 < x
    · rw [if_pos hc] at h
      obtain rfl := Option.some.inj h
      refine jSim_pure rfl (fun _ h1 h2 => ⟨h1, jok_t h2⟩) fun p e R s mth args below meth c D tc A ad H locs cells slots Q lsA hA hce hsl kk => ?_
      have hx : jrg x := jok_h hA.2.2.2.2.2.1
      exact lv_if_gt (x := Int32.ofInt x) hA.1.1 hA.1.2.1 hd ht (fun _ => kk lsA hA.2.2.2.1) (fun q => absurd (by rw [jz0]; exact (jlt jrg0 hx).mpr hc) q)
    · rw [if_neg hc] at h
      obtain rfl := Option.some.inj h
      refine jSim_pure rfl (fun _ h1 h2 => ⟨h1, jok_t h2⟩) fun p e R s mth args below meth c D tc A ad H locs cells slots Q lsA hA hce hsl kk => ?_
      have hx : jrg x := jok_h hA.2.2.2.2.2.1
      exact lv_if_gt (x := Int32.ofInt x) hA.1.1 hA.1.2.1 hd ht (fun q => absurd ((jlt jrg0 hx).mp (by rw [← jz0]; exact q)) hc) (fun _ => kk lsA hA.2.2.2.1)
  · cases h
theorem snd_if_le {j pc tg : Nat} {off : Int} (hd : decode (tm_c j) pc = .ok (.ifCond .le off, 3)) (ht : (pc : Int) + off = (tg : Int)) : jSnd j pc (o_if_le (pc + 3) tg) := by
  refine jSnd_step fun l ls st g m q h => ?_
  split at h
  · rename_i x st'
    by_cases hc : x ≤ 0
    · rw [if_pos hc] at h
      obtain rfl := Option.some.inj h
      refine jSim_pure rfl (fun _ h1 h2 => ⟨h1, jok_t h2⟩) fun p e R s mth args below meth c D tc A ad H locs cells slots Q lsA hA hce hsl kk => ?_
      have hx : jrg x := jok_h hA.2.2.2.2.2.1
      exact lv_if_le (x := Int32.ofInt x) hA.1.1 hA.1.2.1 hd ht (fun _ => kk lsA hA.2.2.2.1) (fun q => absurd (by rw [jz0]; exact (jle hx jrg0).mpr hc) q)
    · rw [if_neg hc] at h
      obtain rfl := Option.some.inj h
      refine jSim_pure rfl (fun _ h1 h2 => ⟨h1, jok_t h2⟩) fun p e R s mth args below meth c D tc A ad H locs cells slots Q lsA hA hce hsl kk => ?_
      have hx : jrg x := jok_h hA.2.2.2.2.2.1
      exact lv_if_le (x := Int32.ofInt x) hA.1.1 hA.1.2.1 hd ht (fun q => absurd ((jle hx jrg0).mp (by rw [← jz0]; exact q)) hc) (fun _ => kk lsA hA.2.2.2.1)
  · cases h
theorem snd_ic_eq {j pc tg : Nat} {off : Int} (hd : decode (tm_c j) pc = .ok (.if_icmp .eq off, 3)) (ht : (pc : Int) + off = (tg : Int)) : jSnd j pc (o_ic_eq (pc + 3) tg) := by
  refine jSnd_step fun l ls st g m q h => ?_
  split at h
  · rename_i y x st'
    by_cases hc : x = y
    · rw [if_pos hc] at h
      obtain rfl := Option.some.inj h
      refine jSim_pure rfl (fun _ h1 h2 => ⟨h1, jok_t (jok_t h2)⟩) fun p e R s mth args below meth c D tc A ad H locs cells slots Q lsA hA hce hsl kk => ?_
      have hy : jrg y := jok_h hA.2.2.2.2.2.1
      have hx : jrg x := jok_h (jok_t hA.2.2.2.2.2.1)
      exact lv_icmp_eq (x := Int32.ofInt x) (y := Int32.ofInt y) hA.1.1 hA.1.2.1 hd ht (fun _ => kk lsA hA.2.2.2.1) (fun q => absurd ((jeq hx hy).mpr hc) q)
    · rw [if_neg hc] at h
      obtain rfl := Option.some.inj h
      refine jSim_pure rfl (fun _ h1 h2 => ⟨h1, jok_t (jok_t h2)⟩) fun p e R s mth args below meth c D tc A ad H locs cells slots Q lsA hA hce hsl kk => ?_
      have hy : jrg y := jok_h hA.2.2.2.2.2.1
      have hx : jrg x := jok_h (jok_t hA.2.2.2.2.2.1)
      exact lv_icmp_eq (x := Int32.ofInt x) (y := Int32.ofInt y) hA.1.1 hA.1.2.1 hd ht (fun q => absurd ((jeq hx hy).mp q) hc) (fun _ => kk lsA hA.2.2.2.1)
  · cases h
theorem snd_ic_ne {j pc tg : Nat} {off : Int} (hd : decode (tm_c j) pc = .ok (.if_icmp .ne off, 3)) (ht : (pc : Int) + off = (tg : Int)) : jSnd j pc (o_ic_ne (pc + 3) tg) := by
  refine jSnd_step fun l ls st g m q h => ?_
  split at h
  · rename_i y x st'
    by_cases hc : x ≠ y
    · rw [if_pos hc] at h
      obtain rfl := Option.some.inj h
      refine jSim_pure rfl (fun _ h1 h2 => ⟨h1, jok_t (jok_t h2)⟩) fun p e R s mth args below meth c D tc A ad H locs cells slots Q lsA hA hce hsl kk => ?_
      have hy : jrg y := jok_h hA.2.2.2.2.2.1
      have hx : jrg x := jok_h (jok_t hA.2.2.2.2.2.1)
      exact lv_icmp_ne (x := Int32.ofInt x) (y := Int32.ofInt y) hA.1.1 hA.1.2.1 hd ht (fun _ => kk lsA hA.2.2.2.1) (fun q => absurd ((jeq hx hy).mp q) hc)
    · rw [if_neg hc] at h
      obtain rfl := Option.some.inj h
      refine jSim_pure rfl (fun _ h1 h2 => ⟨h1, jok_t (jok_t h2)⟩) fun p e R s mth args below meth c D tc A ad H locs cells slots Q lsA hA hce hsl kk => ?_
      have hy : jrg y := jok_h hA.2.2.2.2.2.1
      have hx : jrg x := jok_h (jok_t hA.2.2.2.2.2.1)
      exact lv_icmp_ne (x := Int32.ofInt x) (y := Int32.ofInt y) hA.1.1 hA.1.2.1 hd ht (fun q => absurd ((jeq hx hy).mpr (Decidable.not_not.mp hc)) q) (fun _ => kk lsA hA.2.2.2.1)
  · cases h
theorem snd_ic_lt {j pc tg : Nat} {off : Int} (hd : decode (tm_c j) pc = .ok (.if_icmp .lt off, 3)) (ht : (pc : Int) + off = (tg : Int)) : jSnd j pc (o_ic_lt (pc + 3) tg) := by
  refine jSnd_step fun l ls st g m q h => ?_
  split at h
  · rename_i y x st'
    by_cases hc : x < y
    · rw [if_pos hc] at h
      obtain rfl := Option.some.inj h
      refine jSim_pure rfl (fun _ h1 h2 => ⟨h1, jok_t (jok_t h2)⟩) fun p e R s mth args below meth c D tc A ad H locs cells slots Q lsA hA hce hsl kk => ?_
      have hy : jrg y := jok_h hA.2.2.2.2.2.1
      have hx : jrg x := jok_h (jok_t hA.2.2.2.2.2.1)
      exact lv_icmp_lt (x := Int32.ofInt x) (y := Int32.ofInt y) hA.1.1 hA.1.2.1 hd ht (fun _ => kk lsA hA.2.2.2.1) (fun q => absurd ((jlt hx hy).mpr hc) q)
    · rw [if_neg hc] at h
      obtain rfl := Option.some.inj h
      refine jSim_pure rfl (fun _ h1 h2 => ⟨h1, jok_t (jok_t h2)⟩) fun p e R s mth args below meth c D tc A ad H locs cells slots Q lsA hA hce hsl kk => ?_
      have hy : jrg y := jok_h hA.2.2.2.2.2.1
      have hx : jrg x := jok_h (jok_t hA.2.2.2.2.2.1)
      exact lv_icmp_lt (x := Int32.ofInt x) (y := Int32.ofInt y) hA.1.1 hA.1.2.1 hd ht (fun q => absurd ((jlt hx hy).mp q) hc) (fun _ => kk lsA hA.2.2.2.1)
  · cases h
theorem snd_ic_ge {j pc tg : Nat} {off : Int} (hd : decode (tm_c j) pc = .ok (.if_icmp .ge off, 3)) (ht : (pc : Int) + off = (tg : Int)) : jSnd j pc (o_ic_ge (pc + 3) tg) := by
  refine jSnd_step fun l ls st g m q h => ?_
  split at h
  · rename_i y x st'
    by_cases hc : y ≤ x
    · rw [if_pos hc] at h
      obtain rfl := Option.some.inj h
      refine jSim_pure rfl (fun _ h1 h2 => ⟨h1, jok_t (jok_t h2)⟩) fun p e R s mth args below meth c D tc A ad H locs cells slots Q lsA hA hce hsl kk => ?_
      have hy : jrg y := jok_h hA.2.2.2.2.2.1
      have hx : jrg x := jok_h (jok_t hA.2.2.2.2.2.1)
      exact lv_icmp_ge (x := Int32.ofInt x) (y := Int32.ofInt y) hA.1.1 hA.1.2.1 hd ht (fun _ => kk lsA hA.2.2.2.1) (fun q => absurd ((jle hy hx).mpr hc) q)
    · rw [if_neg hc] at h
      obtain rfl := Option.some.inj h
      refine jSim_pure rfl (fun _ h1 h2 => ⟨h1, jok_t (jok_t h2)⟩) fun p e R s mth args below meth c D tc A ad H locs cells slots Q lsA hA hce hsl kk => ?_
      have hy : jrg y := jok_h hA.2.2.2.2.2.1
      have hx : jrg x := jok_h (jok_t hA.2.2.2.2.2.1)
      exact lv_icmp_ge (x := Int32.ofInt x) (y := Int32.ofInt y) hA.1.1 hA.1.2.1 hd ht (fun q => absurd ((jle hy hx).mp q) hc) (fun _ => kk lsA hA.2.2.2.1)
  · cases h
theorem snd_ic_gt {j pc tg : Nat} {off : Int} (hd : decode (tm_c j) pc = .ok (.if_icmp .gt off, 3)) (ht : (pc : Int) + off = (tg : Int)) : jSnd j pc (o_ic_gt (pc + 3) tg) := by
  refine jSnd_step fun l ls st g m q h => ?_
  split at h
  · rename_i y x st'
    by_cases hc : y < x
    · rw [if_pos hc] at h
      obtain rfl := Option.some.inj h
      refine jSim_pure rfl (fun _ h1 h2 => ⟨h1, jok_t (jok_t h2)⟩) fun p e R s mth args below meth c D tc A ad H locs cells slots Q lsA hA hce hsl kk => ?_
      have hy : jrg y := jok_h hA.2.2.2.2.2.1
      have hx : jrg x := jok_h (jok_t hA.2.2.2.2.2.1)
      exact lv_icmp_gt (x := Int32.ofInt x) (y := Int32.ofInt y) hA.1.1 hA.1.2.1 hd ht (fun _ => kk lsA hA.2.2.2.1) (fun q => absurd ((jlt hy hx).mpr hc) q)
    · rw [if_neg hc] at h
      obtain rfl := Option.some.inj h
      refine jSim_pure rfl (fun _ h1 h2 => ⟨h1, jok_t (jok_t h2)⟩) fun p e R s mth args below meth c D tc A ad H locs cells slots Q lsA hA hce hsl kk => ?_
      have hy : jrg y := jok_h hA.2.2.2.2.2.1
      have hx : jrg x := jok_h (jok_t hA.2.2.2.2.2.1)
      exact lv_icmp_gt (x := Int32.ofInt x) (y := Int32.ofInt y) hA.1.1 hA.1.2.1 hd ht (fun q => absurd ((jlt hy hx).mp q) hc) (fun _ => kk lsA hA.2.2.2.1)
  · cases h
theorem snd_ic_le {j pc tg : Nat} {off : Int} (hd : decode (tm_c j) pc = .ok (.if_icmp .le off, 3)) (ht : (pc : Int) + off = (tg : Int)) : jSnd j pc (o_ic_le (pc + 3) tg) := by
  refine jSnd_step fun l ls st g m q h => ?_
  split at h
  · rename_i y x st'
    by_cases hc : x ≤ y
    · rw [if_pos hc] at h
      obtain rfl := Option.some.inj h
      refine jSim_pure rfl (fun _ h1 h2 => ⟨h1, jok_t (jok_t h2)⟩) fun p e R s mth args below meth c D tc A ad H locs cells slots Q lsA hA hce hsl kk => ?_
      have hy : jrg y := jok_h hA.2.2.2.2.2.1
      have hx : jrg x := jok_h (jok_t hA.2.2.2.2.2.1)
      exact lv_icmp_le (x := Int32.ofInt x) (y := Int32.ofInt y) hA.1.1 hA.1.2.1 hd ht (fun _ => kk lsA hA.2.2.2.1) (fun q => absurd ((jle hx hy).mpr hc) q)
    · rw [if_neg hc] at h
      obtain rfl := Option.some.inj h
      refine jSim_pure rfl (fun _ h1 h2 => ⟨h1, jok_t (jok_t h2)⟩) fun p e R s mth args below meth c D tc A ad H locs cells slots Q lsA hA hce hsl kk => ?_
      have hy : jrg y := jok_h hA.2.2.2.2.2.1
      have hx : jrg x := jok_h (jok_t hA.2.2.2.2.2.1)
      exact lv_icmp_le (x := Int32.ofInt x) (y := Int32.ofInt y) hA.1.1 hA.1.2.1 hd ht (fun q => absurd ((jle hx hy).mp q) hc) (fun _ => kk lsA hA.2.2.2.1)
  · cases h
theorem snd_goto {j pc tg : Nat} {off : Int} (hd : decode (tm_c j) pc = .ok (.goto off, 3)) (ht : (pc : Int) + off = (tg : Int)) : jSnd j pc (o_goto tg) := by
  refine jSnd_step fun l ls st g m q h => ?_
  obtain rfl := Option.some.inj h
  refine jSim_pure rfl (fun _ h1 h2 => ⟨h1, h2⟩) fun p e R s mth args below meth c D tc A ad H locs cells slots Q lsA hA hce hsl kk => ?_
  exact lv_goto hA.1.1 hA.1.2.1 hd ht (kk lsA hA.2.2.2.1)
theorem snd_ifnull {j pc tg : Nat} {off : Int} (hd : decode (tm_c j) pc = .ok (.ifnull off, 3)) (ht : (pc : Int) + off = (tg : Int)) : jSnd j pc (o_ifnull (pc + 3) tg) := by
  refine jSnd_step fun l ls st g m q h => ?_
  split at h
  · obtain rfl := Option.some.inj h
    refine jSim_pure rfl (fun _ h1 h2 => ⟨h1, jok_t h2⟩) fun p e R s mth args below meth c D tc A ad H locs cells slots Q lsA hA hce hsl kk => ?_
    exact lv_ifnullN hA.1.1 hA.1.2.1 hd ht (kk lsA hA.2.2.2.1)
  · obtain rfl := Option.some.inj h
    refine jSim_pure rfl (fun _ h1 h2 => ⟨h1, jok_t h2⟩) fun p e R s mth args below meth c D tc A ad H locs cells slots Q lsA hA hce hsl kk => ?_
    exact lv_ifnull hA.1.1 hA.1.2.1 hd (kk lsA hA.2.2.2.1)
  · cases h
theorem snd_ifnonnull {j pc tg : Nat} {off : Int} (hd : decode (tm_c j) pc = .ok (.ifnonnull off, 3)) (ht : (pc : Int) + off = (tg : Int)) : jSnd j pc (o_ifnonnull (pc + 3) tg) := by
  refine jSnd_step fun l ls st g m q h => ?_
  split at h
  · obtain rfl := Option.some.inj h
    refine jSim_pure rfl (fun _ h1 h2 => ⟨h1, jok_t h2⟩) fun p e R s mth args below meth c D tc A ad H locs cells slots Q lsA hA hce hsl kk => ?_
    exact lv_ifnonnullN hA.1.1 hA.1.2.1 hd (kk lsA hA.2.2.2.1)
  · obtain rfl := Option.some.inj h
    refine jSim_pure rfl (fun _ h1 h2 => ⟨h1, jok_t h2⟩) fun p e R s mth args below meth c D tc A ad H locs cells slots Q lsA hA hce hsl kk => ?_
    exact lv_ifnonnull hA.1.1 hA.1.2.1 hd ht (kk lsA hA.2.2.2.1)
  · cases h
theorem snd_dup {j pc : Nat} (hd : decode (tm_c j) pc = .ok (.dup, 1)) : jSnd j pc (o_dup (pc + 1)) := by
  refine jSnd_step fun l ls st g m q h => ?_
  split at h
  · obtain rfl := Option.some.inj h
    refine jSim_pure rfl (fun _ h1 h2 => ⟨h1, jok_cons (jok_h h2) h2⟩) fun p e R s mth args below meth c D tc A ad H locs cells slots Q lsA hA hce hsl kk => ?_
    exact lv_dup hA.1.1 hA.1.2.1 hd (jcv_cat _ _) (kk lsA hA.2.2.2.1)
  · cases h
theorem snd_dup2 {j pc : Nat} (hd : decode (tm_c j) pc = .ok (.dup2, 1)) : jSnd j pc (o_dup2 (pc + 1)) := by
  refine jSnd_step fun l ls st g m q h => ?_
  split at h
  · obtain rfl := Option.some.inj h
    refine jSim_pure rfl (fun _ h1 h2 => ⟨h1, jok_cons (jok_h h2) (jok_cons (jok_h (jok_t h2)) h2)⟩) fun p e R s mth args below meth c D tc A ad H locs cells slots Q lsA hA hce hsl kk => ?_
    exact lv_dup2_11 hA.1.1 hA.1.2.1 hd (jcv_cat _ _) (jcv_cat _ _) (kk lsA hA.2.2.2.1)
  · cases h
theorem snd_dupx1 {j pc : Nat} (hd : decode (tm_c j) pc = .ok (.dup_x1, 1)) : jSnd j pc (o_dupx1 (pc + 1)) := by
  refine jSnd_step fun l ls st g m q h => ?_
  split at h
  · obtain rfl := Option.some.inj h
    refine jSim_pure rfl (fun _ h1 h2 => ⟨h1, jok_cons (jok_h h2) (jok_cons (jok_h (jok_t h2)) (jok_cons (jok_h h2) (jok_t (jok_t h2))))⟩) fun p e R s mth args below meth c D tc A ad H locs cells slots Q lsA hA hce hsl kk => ?_
    exact lv_dup_x1 hA.1.1 hA.1.2.1 hd (jcv_cat _ _) (jcv_cat _ _) (kk lsA hA.2.2.2.1)
  · cases h
theorem snd_dupx2 {j pc : Nat} (hd : decode (tm_c j) pc = .ok (.dup_x2, 1)) : jSnd j pc (o_dupx2 (pc + 1)) := by
  refine jSnd_step fun l ls st g m q h => ?_
  split at h
  · obtain rfl := Option.some.inj h
    refine jSim_pure rfl (fun _ h1 h2 => ⟨h1, jok_cons (jok_h h2) (jok_cons (jok_h (jok_t h2)) (jok_cons (jok_h (jok_t (jok_t h2))) (jok_cons (jok_h h2) (jok_t (jok_t (jok_t h2))))))⟩) fun p e R s mth args below meth c D tc A ad H locs cells slots Q lsA hA hce hsl kk => ?_
    exact lv_dup_x2 hA.1.1 hA.1.2.1 hd (jcv_cat _ _) (jcv_cat _ _) (jcv_cat _ _) (kk lsA hA.2.2.2.1)
  · cases h
theorem snd_pop {j pc : Nat} (hd : decode (tm_c j) pc = .ok (.pop, 1)) : jSnd j pc (o_pop (pc + 1)) := by
  refine jSnd_step fun l ls st g m q h => ?_
  split at h
  · obtain rfl := Option.some.inj h
    refine jSim_pure rfl (fun _ h1 h2 => ⟨h1, jok_t h2⟩) fun p e R s mth args below meth c D tc A ad H locs cells slots Q lsA hA hce hsl kk => ?_
    exact lv_pop hA.1.1 hA.1.2.1 hd (jcv_cat _ _) (kk lsA hA.2.2.2.1)
  · cases h
end
section
theorem jcw_pos {g : jG} {m : jM} (hm : jom g m) {a kd : Nat} (hs : (jsh g a).1 = kd) (h9 : kd ≠ 9) (h0 : kd ≠ 0) : 0 < a ∧ a < g.1.length := by
  refine ⟨?_, jsh_lt (by rw [hs]; exact h0)⟩
  rcases Nat.eq_zero_or_pos a with q | q
  · subst q
    exact absurd (hs.symm.trans hm.2.2.2) h9
  · exact q
theorem jcw_obj {tc : Nat → ClassId} {ad : Nat → Nat} {g : jG} {m : jM} (hm : jom g m) {a ci : Nat} (hs : (jsh g a).1 = 10 + ci) : (jcw tc ad g m)[a - 1]? = some (ad a, .inr (ci, jfs ad g m a (tm_F ci))) := by
  obtain ⟨h1, h2⟩ := jcw_pos hm hs (by omega) (by omega)
  rw [jcw_get h1 h2]
  unfold jce
  rw [if_neg (by rw [hs]; omega), hs, Nat.add_sub_cancel_left]
theorem jcw_num {tc : Nat → ClassId} {ad : Nat → Nat} {g : jG} {m : jM} (hm : jom g m) {a kd : Nat} (hs : (jsh g a).1 = kd) (h1 : 0 < kd) (h2 : kd ≤ 2) : (jcw tc ad g m)[a - 1]? = some (ad a, .inl (tc kd, (jsh g a).2, .inl fun i => Int32.ofInt (m a i))) := by
  obtain ⟨q1, q2⟩ := jcw_pos hm hs (by omega) (by omega)
  rw [jcw_get q1 q2]
  unfold jce
  rw [if_pos (by rw [hs]; omega), if_pos (by rw [hs]; exact h2), hs]
theorem jcw_ref {tc : Nat → ClassId} {ad : Nat → Nat} {g : jG} {m : jM} (hm : jom g m) {a kd : Nat} (hs : (jsh g a).1 = kd) (h1 : 2 < kd) (h2 : kd < 9) : (jcw tc ad g m)[a - 1]? = some (ad a, .inl (tc kd, (jsh g a).2, .inr (.inr (.inr (.inr fun i => (g.2 a i).map ad))))) := by
  obtain ⟨q1, q2⟩ := jcw_pos hm hs (by omega) (by omega)
  rw [jcw_get q1 q2]
  unfold jce
  rw [if_pos (by rw [hs]; omega), if_neg (by rw [hs]; omega), hs]
theorem jfs_get {ad : Nat → Nat} {g : jG} {m : jM} {a k : Nat} {bs : List Bool} {b : Bool} (h : bs[k]? = some b) : (jfs ad g m a bs)[k]? = some (jfv ad g m a k b) := by
  unfold jfs
  have hl := (List.getElem?_eq_some_iff.mp h).1
  rw [List.getElem?_map, List.getElem?_range hl]
  show some (jfv ad g m a k (bs.getD k false)) = _
  rw [List.getD_eq_getElem?_getD, h]
  rfl
theorem jfs_len {ad : Nat → Nat} {g : jG} {m : jM} {a : Nat} {bs : List Bool} : (jfs ad g m a bs).length = bs.length := by simp [jfs]
theorem jfs_at {ad : Nat → Nat} {g : jG} {m : jM} {a : Nat} {bs : List Bool} {i : Nat} (h : i < bs.length) : (jfs ad g m a bs)[i]? = some (jfv ad g m a i (bs.getD i false)) := by
  unfold jfs
  rw [List.getElem?_map, List.getElem?_range h]
  rfl
theorem jfs_up {ad : Nat → Nat} {g : jG} {m : jM} {a k : Nat} {x : Int} {bs : List Bool} (h : bs[k]? = some false) : jfs ad g (jup m a k x) a bs = (jfs ad g m a bs).set k (.int (Int32.ofInt x)) := by
  have hl := (List.getElem?_eq_some_iff.mp h).1
  apply List.ext_getElem?
  intro i
  by_cases hi : i < bs.length
  · rw [jfs_at hi]
    by_cases hk : i = k
    · subst hk
      rw [List.getElem?_set_self (by rw [jfs_len]; exact hl), List.getD_eq_getElem?_getD, h]
      show some (Value.int (Int32.ofInt (jup m a i x a i))) = _
      unfold jup
      rw [if_pos ⟨rfl, rfl⟩]
    · rw [List.getElem?_set_ne (Ne.symm hk), jfs_at hi]
      unfold jfv jup
      rw [if_neg (fun q : a = a ∧ (i : Int) = k => hk (by omega))]
  · rw [List.getElem?_eq_none (by rw [jfs_len]; omega), List.getElem?_eq_none (by rw [List.length_set, jfs_len]; omega)]
theorem jfs_ur {ad : Nat → Nat} {g : jG} {m : jM} {a k : Nat} {o : Option Nat} {bs : List Bool} (h : bs[k]? = some true) : jfs ad (g.1, jur g.2 a k o) m a bs = (jfs ad g m a bs).set k (va_rf (o.map ad)) := by
  have hl := (List.getElem?_eq_some_iff.mp h).1
  apply List.ext_getElem?
  intro i
  by_cases hi : i < bs.length
  · rw [jfs_at hi]
    by_cases hk : i = k
    · subst hk
      rw [List.getElem?_set_self (by rw [jfs_len]; exact hl), List.getD_eq_getElem?_getD, h]
      show some (va_rf ((jur g.2 a i o a i).map ad)) = _
      unfold jur
      rw [if_pos ⟨rfl, rfl⟩]
    · rw [List.getElem?_set_ne (Ne.symm hk), jfs_at hi]
      unfold jfv jur
      dsimp only
      rw [if_neg (fun q : a = a ∧ (i : Int) = k => hk (by omega))]
  · rw [List.getElem?_eq_none (by rw [jfs_len]; omega), List.getElem?_eq_none (by rw [List.length_set, jfs_len]; omega)]
theorem jcw_putI {tc : Nat → ClassId} {ad : Nat → Nat} {g : jG} {m : jM} (hm : jom g m) {a ci k : Nat} {x : Int} (hs : (jsh g a).1 = 10 + ci) (hf : (tm_F ci)[k]? = some false) : (jcw tc ad g m).set (a - 1) (ad a, .inr (ci, (jfs ad g m a (tm_F ci)).set k (.int (Int32.ofInt x)))) = jcw tc ad g (jup m a k x) := by
  obtain ⟨q1, q2⟩ := jcw_pos hm hs (by omega) (by omega)
  rw [jcw_set (g := g) (m := m) q1 rfl (fun i hi => jce_m hi)]
  congr 2
  unfold jce
  rw [if_neg (by rw [hs]; omega), hs, Nat.add_sub_cancel_left, jfs_up hf]
theorem jcw_putR {tc : Nat → ClassId} {ad : Nat → Nat} {g : jG} {m : jM} (hm : jom g m) {a ci k : Nat} {o : Option Nat} (hs : (jsh g a).1 = 10 + ci) (hf : (tm_F ci)[k]? = some true) : (jcw tc ad g m).set (a - 1) (ad a, .inr (ci, (jfs ad g m a (tm_F ci)).set k (va_rf (o.map ad)))) = jcw tc ad (g.1, jur g.2 a k o) m := by
  obtain ⟨q1, q2⟩ := jcw_pos hm hs (by omega) (by omega)
  rw [jcw_set (g := g) (m := m) (g' := (g.1, jur g.2 a k o)) q1 rfl (fun i hi => jce_r hi)]
  congr 2
  unfold jce
  have hs2 : jsh (g.1, jur g.2 a k o) a = jsh g a := rfl
  rw [hs2, if_neg (by rw [hs]; omega), hs, Nat.add_sub_cancel_left, jfs_ur hf]
theorem jcw_putA {tc : Nat → ClassId} {ad : Nat → Nat} {g : jG} {m : jM} (hm : jom g m) {a kd : Nat} {i x : Int} (hs : (jsh g a).1 = kd) (h1 : 0 < kd) (h2 : kd ≤ 2) (hi : 0 ≤ i) : (jcw tc ad g m).set (a - 1) (ad a, .inl (tc kd, (jsh g a).2, .inl (upd (fun i => Int32.ofInt (m a i)) i.toNat (Int32.ofInt x)))) = jcw tc ad g (jup m a i x) := by
  obtain ⟨q1, q2⟩ := jcw_pos hm hs (by omega) (by omega)
  rw [jcw_set (g := g) (m := m) q1 rfl (fun i hi => jce_m hi)]
  congr 2
  unfold jce
  rw [if_pos (by rw [hs]; omega), if_pos (by rw [hs]; exact h2), hs]
  congr 3
  congr 1
  funext k
  unfold upd jup
  by_cases hk : k = i.toNat
  · rw [if_pos hk, if_pos ⟨rfl, by omega⟩]
  · rw [if_neg hk, if_neg (fun q => hk (by omega))]
theorem jcw_putB {tc : Nat → ClassId} {ad : Nat → Nat} {g : jG} {m : jM} (hm : jom g m) {a b kd : Nat} {i : Int} (hs : (jsh g a).1 = kd) (h1 : 2 < kd) (h2 : kd < 9) (hi : 0 ≤ i) : (jcw tc ad g m).set (a - 1) (ad a, .inl (tc kd, (jsh g a).2, .inr (.inr (.inr (.inr (va_up (fun i => (g.2 a i).map ad) i.toNat (some (ad b)))))))) = jcw tc ad (g.1, jur g.2 a i (some b)) m := by
  obtain ⟨q1, q2⟩ := jcw_pos hm hs (by omega) (by omega)
  rw [jcw_set (g := g) (m := m) (g' := (g.1, jur g.2 a i (some b))) q1 rfl (fun i hi => jce_r hi)]
  congr 2
  unfold jce
  have hs2 : jsh (g.1, jur g.2 a i (some b)) a = jsh g a := rfl
  rw [hs2, if_pos (by rw [hs]; omega), if_neg (by rw [hs]; omega), hs]
  suffices e : (va_up (fun i => (g.2 a i).map ad) i.toNat (some (ad b))) = fun (k : Nat) => (jur g.2 a i (some b) a k).map ad by
    rw [e]
  funext k
  unfold va_up jur
  by_cases hk : k = i.toNat
  · rw [if_pos hk, if_pos ⟨rfl, by omega⟩]
    rfl
  · rw [if_neg hk, if_neg (fun q => hk (by omega))]
theorem jsh0 {g : jG} {m : jM} {a : Nat} {i x : Int} (ha : 0 < a) : jExt g m g (jup m a i x) := ⟨⟨[], by simp⟩, fun k => by unfold jup; rw [if_neg (fun q => by omega)]⟩
theorem jshr {g : jG} {m : jM} {r : Nat → Int → Option Nat} : jExt g m (g.1, r) m := ⟨⟨[], by simp⟩, fun k => rfl⟩
theorem snd_getI {j pc ci k idx : Nat} {C : String} {T : u_T} {N : Nat} (hd : decode (tm_c j) pc = .ok (.getfield idx, 3)) (hc : vwCl[ci]? = some (C, T, N)) (hin : ∀ w ∈ u_ws C T N, w ∈ jgw) (hk : k < N) (hlink : Cond.fieldLink (tm_y j).cls idx (T k).1 (T k).2.1 (T k).2.2.1 ∈ jgw) (hf : (tm_F ci)[k]? = some false) : jSnd j pc (o_getI (pc + 3) (10 + ci) k) := by
  refine jSnd_step fun l ls st g m q h => ?_
  split at h
  · rename_i a st'
    by_cases hs : (jsh g a).1 = 10 + ci
    · rw [if_pos hs] at h
      obtain rfl := Option.some.inj h
      refine jSim_pure rfl (fun hm h1 h2 => ⟨h1, jok_cons (hm.1 a k) (jok_t h2)⟩) fun p e R s mth args below meth c D tc A ad H locs cells slots Q lsA hA hce hsl kk => ?_
      exact va_get hA.1.1 hA.1.2.1 hA.1.2.2.2.2.2.1 hin hA.1.2.2.2.2.1 hA.1.2.2.2.2.2.2.2.2.2.2.1 hA.2.2.1.1 (a - 1) (jcw_obj hA.2.2.1.2.2.2 hs) hc k hk (hA.1.2.2.2.2.2.1 _ hlink) (fun _ h9 => h9) (jfs_get hf) hd (kk lsA hA.2.2.2.1)
    · rw [if_neg hs] at h
      cases h
  · cases h
theorem snd_getR {j pc ci k idx : Nat} {C : String} {T : u_T} {N : Nat} (hd : decode (tm_c j) pc = .ok (.getfield idx, 3)) (hc : vwCl[ci]? = some (C, T, N)) (hin : ∀ w ∈ u_ws C T N, w ∈ jgw) (hk : k < N) (hlink : Cond.fieldLink (tm_y j).cls idx (T k).1 (T k).2.1 (T k).2.2.1 ∈ jgw) (hf : (tm_F ci)[k]? = some true) : jSnd j pc (o_getR (pc + 3) (10 + ci) k) := by
  refine jSnd_step fun l ls st g m q h => ?_
  split at h
  · rename_i a st'
    by_cases hs : (jsh g a).1 = 10 + ci
    · rw [if_pos hs] at h
      obtain rfl := Option.some.inj h
      refine jSim_pure rfl (fun hm h1 h2 => ⟨h1, jok_cons ?_ (jok_t h2)⟩) fun p e R s mth args below meth c D tc A ad H locs cells slots Q lsA hA hce hsl kk => ?_
      · show jok _ (Sum.inr (Sum.inl (g.2 a k)))
        cases hq : g.2 a k with
        | none => trivial
        | some b => exact hm.2.1 a k b hq
      · exact va_get hA.1.1 hA.1.2.1 hA.1.2.2.2.2.2.1 hin hA.1.2.2.2.2.1 hA.1.2.2.2.2.2.2.2.2.2.2.1 hA.2.2.1.1 (a - 1) (jcw_obj hA.2.2.1.2.2.2 hs) hc k hk (hA.1.2.2.2.2.2.1 _ hlink) (fun _ h9 => h9) (jfs_get hf) hd (kk lsA hA.2.2.2.1)
    · rw [if_neg hs] at h
      cases h
  · cases h
/-- behind a write: all stands as before, but for what was written -/
theorem jAt_wr {j : Nat} {p : Program} {R : Room} {s : State} {mth : MethodId} {args : Array Value} {meth : Method} {c : Code} {D : va_G} {tc : Nat → ClassId} {A : Nat → Prop} {ad : Nat → Nat} {ls st st' : List jV} {g g' : jG} {m m' : jM} {H H' : Heap} {locs locs' : List Loc} {lsA : Array Slot}
    (h : jAt j p R s mth args meth c D tc A ad ls st g m H locs lsA) (hl : g'.1 = g.1) (hx : jExt g m g' m') (hP : va_P D vwCl (jcw tc ad g' m') H') (hD : va_D A (jcw tc ad g' m')) (hS : va_S A s.heap H' locs') (hm : jom g' m') (hst : ∀ v ∈ st', jok g.1.length v) : jAt j p R s mth args meth c D tc A ad ls st' g' m' H' locs' lsA := by
  obtain ⟨h1, h2, h3, h4, h5, h6, h7, h8⟩ := h
  exact ⟨h1, h2, ⟨hP, hD, hS, hm⟩, h4, by rw [hl]; exact h5, by rw [hl]; exact hst, h7, h8.ext hx h3.2.2.2.2.2.2 (fun _ _ => rfl)⟩
theorem jcl_eq {g g' : jG} (h : g'.1 = g.1) : jcl g g' = 0 ∧ jsl g g' = 0 := by
  unfold jcl jsl jsz
  rw [h]
  exact ⟨Nat.sub_self _, Nat.sub_self _⟩
theorem snd_putI {j pc ci k idx : Nat} {C : String} {T : u_T} {N : Nat} (hd : decode (tm_c j) pc = .ok (.putfield idx, 3)) (hc : vwCl[ci]? = some (C, T, N)) (hin : ∀ w ∈ u_ws C T N, w ∈ jgw) (ty0 : Nat → FieldType) (hty : ∀ k, k < N → parseFieldDescriptor (T k).2.2.1 = some (ty0 k)) (hnm : ∀ a, a < N → ∀ b, b < N → a ≠ b → (T a).2.1 ≠ (T b).2.1) (hk : k < N) (hlink : Cond.fieldLink (tm_y j).cls idx (T k).1 (T k).2.1 (T k).2.2.1 ∈ jgw) (hfin : (T k).2.2.2 = false) (hty1 : ty0 k = .int) (hf : (tm_F ci)[k]? = some false) : jSnd j pc (o_putI (pc + 3) (10 + ci) k) := by
  refine jSnd_step fun l ls st g m q h => ?_
  split at h
  · rename_i x a st'
    by_cases hs : (jsh g a).1 = 10 + ci
    · rw [if_pos hs] at h
      obtain rfl := Option.some.inj h
      intro h9
      have ha : 0 < a := by
        rcases Nat.eq_zero_or_pos a with z | z
        · subst z; omega
        · exact z
      refine ⟨jsh0 ha, fun p e R s mth args below meth c D tc A ad H locs cells slots Q lsA hA hce hsl kk => ?_⟩
      simp only [jcl_rf, jsl_rf, Nat.add_zero] at hce hsl kk
      have hm := hA.2.2.1.2.2.2
      have hx : jrg x := jok_h hA.2.2.2.2.2.1
      refine va_put (ty := .int) (v := .int (Int32.ofInt x)) hA.1.1 hA.1.2.1 hA.1.2.2.2.2.2.1 hin ty0 hty hnm hA.1.2.2.2.2.1 hA.1.2.2.2.2.2.2.2.2.2.2.1 hA.2.2.1.1 hA.2.2.1.2.1 hA.2.2.1.2.2.1 (a - 1) (jcw_obj hm hs) hc k hk (hA.1.2.2.2.2.2.1 _ hlink) (fun _ h9 => h9) hfin ((hty k hk).trans (by rw [hty1])) rfl rfl (by rw [jfs_len]; exact (List.getElem?_eq_some_iff.mp hf).1) hd (fun H1 locs1 hP1 hD1 hS1 => ?_)
      rw [jcw_putI hm hs hf] at hP1 hD1
      exact kk ad H1 locs1 lsA (fun _ _ => rfl) (jAt_wr hA rfl (jsh0 ha) hP1 hD1 hS1 (jom_up hm (jcw_pos hm hs (by omega) (by omega)).2 hx) (jok_t (jok_t hA.2.2.2.2.2.1)))
    · rw [if_neg hs] at h
      cases h
  · cases h
theorem snd_putR {j pc ci k idx : Nat} {C : String} {T : u_T} {N : Nat} (hd : decode (tm_c j) pc = .ok (.putfield idx, 3)) (hc : vwCl[ci]? = some (C, T, N)) (hin : ∀ w ∈ u_ws C T N, w ∈ jgw) (ty0 : Nat → FieldType) (hty : ∀ k, k < N → parseFieldDescriptor (T k).2.2.1 = some (ty0 k)) (hnm : ∀ a, a < N → ∀ b, b < N → a ≠ b → (T a).2.1 ≠ (T b).2.1) (hk : k < N) (hlink : Cond.fieldLink (tm_y j).cls idx (T k).1 (T k).2.1 (T k).2.2.1 ∈ jgw) (hfin : (T k).2.2.2 = false) (hnf : ∀ o : Option Nat, narrow (ty0 k) (va_rf o) = va_rf o ∧ fits (ty0 k) (va_rf o) = true) (hf : (tm_F ci)[k]? = some true) : jSnd j pc (o_putR (pc + 3) (10 + ci) k) := by
  refine jSnd_step fun l ls st g m q h => ?_
  split at h
  · rename_i o a st'
    by_cases hs : (jsh g a).1 = 10 + ci
    · rw [if_pos hs] at h
      obtain rfl := Option.some.inj h
      intro h9
      refine ⟨jshr, fun p e R s mth args below meth c D tc A ad H locs cells slots Q lsA hA hce hsl kk => ?_⟩
      obtain ⟨ec, es⟩ := jcl_eq (g := g) (g' := (g.1, jur g.2 a k o)) rfl
      dsimp only at hce hsl kk
      simp only [ec, es, Nat.add_zero] at hce hsl kk
      have hm := hA.2.2.1.2.2.2
      have ho : ∀ b, o = some b → b < g.1.length := fun b hb => by
        have h8 := jok_h hA.2.2.2.2.2.1
        subst hb
        exact h8
      refine va_put (ty := ty0 k) (v := va_rf (o.map ad)) hA.1.1 hA.1.2.1 hA.1.2.2.2.2.2.1 hin ty0 hty hnm hA.1.2.2.2.2.1 hA.1.2.2.2.2.2.2.2.2.2.2.1 hA.2.2.1.1 hA.2.2.1.2.1 hA.2.2.1.2.2.1 (a - 1) (jcw_obj hm hs) hc k hk (hA.1.2.2.2.2.2.1 _ hlink) (fun _ h9 => h9) hfin (hty k hk) (hnf _).1 (hnf _).2 (by rw [jfs_len]; exact (List.getElem?_eq_some_iff.mp hf).1) hd (fun H1 locs1 hP1 hD1 hS1 => ?_)
      rw [jcw_putR hm hs hf] at hP1 hD1
      exact kk ad H1 locs1 lsA (fun _ _ => rfl) (jAt_wr hA rfl jshr hP1 hD1 hS1 (jom_ur hm (jcw_pos hm hs (by omega) (by omega)).2 ho) (jok_t (jok_t hA.2.2.2.2.2.1)))
    · rw [if_neg hs] at h
      cases h
  · cases h
theorem snd_putRF {j pc ci k idx : Nat} {C : String} {T : u_T} {N : Nat} (hd : decode (tm_c j) pc = .ok (.putfield idx, 3)) (hc : vwCl[ci]? = some (C, T, N)) (hin : ∀ w ∈ u_ws C T N, w ∈ jgw) (ty0 : Nat → FieldType) (hty : ∀ k, k < N → parseFieldDescriptor (T k).2.2.1 = some (ty0 k)) (hnm : ∀ a, a < N → ∀ b, b < N → a ≠ b → (T a).2.1 ≠ (T b).2.1) (hk : k < N) (hlink : Cond.fieldLink (tm_y j).cls idx (T k).1 (T k).2.1 (T k).2.2.1 ∈ jgw) (hfin : (T k).2.2.2 = true) (hin2 : (tm_y j).name = "<init>") (hdecl : (T k).1 = (tm_y j).cls) (hnf : ∀ o : Option Nat, narrow (ty0 k) (va_rf o) = va_rf o ∧ fits (ty0 k) (va_rf o) = true) (hf : (tm_F ci)[k]? = some true) : jSnd j pc (o_putR (pc + 3) (10 + ci) k) := by
  refine jSnd_step fun l ls st g m q h => ?_
  split at h
  · rename_i o a st'
    by_cases hs : (jsh g a).1 = 10 + ci
    · rw [if_pos hs] at h
      obtain rfl := Option.some.inj h
      intro h9
      refine ⟨jshr, fun p e R s mth args below meth c D tc A ad H locs cells slots Q lsA hA hce hsl kk => ?_⟩
      obtain ⟨ec, es⟩ := jcl_eq (g := g) (g' := (g.1, jur g.2 a k o)) rfl
      dsimp only at hce hsl kk
      simp only [ec, es, Nat.add_zero] at hce hsl kk
      have hm := hA.2.2.1.2.2.2
      have ho : ∀ b, o = some b → b < g.1.length := fun b hb => by
        have h8 := jok_h hA.2.2.2.2.2.1
        subst hb
        exact h8
      refine va_putF (ty := ty0 k) (v := va_rf (o.map ad)) hA.1.1 hA.1.2.1 hA.1.2.2.2.2.2.1 hin ty0 hty hnm hA.1.2.2.2.2.1 hA.1.2.2.2.2.2.2.2.2.2.2.1 hA.2.2.1.1 hA.2.2.1.2.1 hA.2.2.1.2.2.1 (a - 1) (jcw_obj hm hs) hc k hk (hA.1.2.2.2.2.2.1 _ hlink) (fun _ h9 => h9) hfin (hA.1.2.2.2.2.2.2.2.1.trans hin2) hdecl (hty k hk) (hnf _).1 (hnf _).2 (by rw [jfs_len]; exact (List.getElem?_eq_some_iff.mp hf).1) hd (fun H1 locs1 hP1 hD1 hS1 => ?_)
      rw [jcw_putR hm hs hf] at hP1 hD1
      exact kk ad H1 locs1 lsA (fun _ _ => rfl) (jAt_wr hA rfl jshr hP1 hD1 hS1 (jom_ur hm (jcw_pos hm hs (by omega) (by omega)).2 ho) (jok_t (jok_t hA.2.2.2.2.2.1)))
    · rw [if_neg hs] at h
      cases h
  · cases h
theorem snd_iald {j pc : Nat} (hd : decode (tm_c j) pc = .ok (.iaload, 1)) : jSnd j pc (o_nald (pc + 1) 1) := by
  refine jSnd_step fun l ls st g m q h => ?_
  split at h
  · rename_i i a st'
    by_cases hs : (jsh g a).1 = 1 ∧ 0 ≤ i ∧ i < (jsh g a).2
    · rw [if_pos hs] at h
      obtain rfl := Option.some.inj h
      refine jSim_pure rfl (fun hm h1 h2 => ⟨h1, jok_cons (hm.1 a i) (jok_t (jok_t h2))⟩) fun p e R s mth args below meth c D tc A ad H locs cells slots Q lsA hA hce hsl kk => ?_
      have hi : jrg i := jok_h hA.2.2.2.2.2.1
      refine va_iald hA.1.1 hA.1.2.1 hA.1.2.2.2.2.2.2.2.2.2.2.1 hA.2.2.1.1 (a - 1) 0 (jcw_num hA.2.2.1.2.2.2 hs.1 (by decide) (by decide)) rfl (jin hi hs.2.1 hs.2.2) hd ?_
      rw [jcl_of hi, Int.toNat_of_nonneg hs.2.1]
      exact kk lsA hA.2.2.2.1
    · rw [if_neg hs] at h
      cases h
  · cases h
theorem snd_zald {j pc : Nat} (hd : decode (tm_c j) pc = .ok (.baload, 1)) : jSnd j pc (o_nald (pc + 1) 2) := by
  refine jSnd_step fun l ls st g m q h => ?_
  split at h
  · rename_i i a st'
    by_cases hs : (jsh g a).1 = 2 ∧ 0 ≤ i ∧ i < (jsh g a).2
    · rw [if_pos hs] at h
      obtain rfl := Option.some.inj h
      refine jSim_pure rfl (fun hm h1 h2 => ⟨h1, jok_cons (hm.1 a i) (jok_t (jok_t h2))⟩) fun p e R s mth args below meth c D tc A ad H locs cells slots Q lsA hA hce hsl kk => ?_
      have hi : jrg i := jok_h hA.2.2.2.2.2.1
      refine va_zald hA.1.1 hA.1.2.1 hA.1.2.2.2.2.2.2.2.2.2.2.1 hA.2.2.1.1 (a - 1) 1 (jcw_num hA.2.2.1.2.2.2 hs.1 (by decide) (by decide)) rfl (jin hi hs.2.1 hs.2.2) hd ?_
      rw [jcl_of hi, Int.toNat_of_nonneg hs.2.1]
      exact kk lsA hA.2.2.2.1
    · rw [if_neg hs] at h
      cases h
  · cases h
theorem snd_aald {j pc kd t0 : Nat} {C : String} (hd : decode (tm_c j) pc = .ok (.aaload, 1)) (h1 : 2 < kd) (h2 : kd < 9) (ht : tm_T[t0]? = some (kd, .object C)) : jSnd j pc (o_aald (pc + 1) kd) := by
  refine jSnd_step fun l ls st g m q h => ?_
  split at h
  · rename_i i a st'
    by_cases hs : (jsh g a).1 = kd ∧ 0 ≤ i ∧ i < (jsh g a).2
    · rw [if_pos hs] at h
      obtain rfl := Option.some.inj h
      refine jSim_pure rfl (fun hm k1 k2 => ⟨k1, jok_cons ?_ (jok_t (jok_t k2))⟩) fun p e R s mth args below meth c D tc A ad H locs cells slots Q lsA hA hce hsl kk => ?_
      · show jok _ (Sum.inr (Sum.inl (g.2 a i)))
        cases hq : g.2 a i with
        | none => trivial
        | some b => exact hm.2.1 a i b hq
      · have hi : jrg i := jok_h hA.2.2.2.2.2.1
        refine va_aldq (C := C) hA.1.1 hA.1.2.1 hA.1.2.2.2.2.2.2.2.2.2.2.1 hA.2.2.1.1 (a - 1) t0 (jcw_ref hA.2.2.1.2.2.2 hs.1 h1 h2) (by unfold jtys; rw [List.getElem?_map, ht]; rfl) (jin hi hs.2.1 hs.2.2) hd ?_
        rw [jcl_of hi, Int.toNat_of_nonneg hs.2.1]
        exact kk lsA hA.2.2.2.1
    · rw [if_neg hs] at h
      cases h
  · cases h
theorem snd_iast {j pc : Nat} (hd : decode (tm_c j) pc = .ok (.iastore, 1)) : jSnd j pc (o_iast (pc + 1)) := by
  refine jSnd_step fun l ls st g m q h => ?_
  split at h
  · rename_i x i a st'
    by_cases hs : (jsh g a).1 = 1 ∧ 0 ≤ i ∧ i < (jsh g a).2
    · rw [if_pos hs] at h
      obtain rfl := Option.some.inj h
      intro h9
      have ha : 0 < a := by
        rcases Nat.eq_zero_or_pos a with z | z
        · subst z; omega
        · exact z
      refine ⟨jsh0 ha, fun p e R s mth args below meth c D tc A ad H locs cells slots Q lsA hA hce hsl kk => ?_⟩
      simp only [jcl_rf, jsl_rf, Nat.add_zero] at hce hsl kk
      have hm := hA.2.2.1.2.2.2
      have hx : jrg x := jok_h hA.2.2.2.2.2.1
      have hi : jrg i := jok_h (jok_t hA.2.2.2.2.2.1)
      refine va_iast (x := Int32.ofInt x) hA.1.1 hA.1.2.1 hA.1.2.2.2.2.2.2.2.2.2.2.1 hA.2.2.1.1 hA.2.2.1.2.1 hA.2.2.1.2.2.1 (a - 1) 0 (jcw_num hm hs.1 (by decide) (by decide)) rfl (jin hi hs.2.1 hs.2.2) hd (fun H1 locs1 hP1 hD1 hS1 => ?_)
      rw [jcl_of hi, jcw_putA hm hs.1 (by decide) (by decide) hs.2.1] at hP1 hD1
      exact kk ad H1 locs1 lsA (fun _ _ => rfl) (jAt_wr hA rfl (jsh0 ha) hP1 hD1 hS1 (jom_up hm (jcw_pos hm hs.1 (by omega) (by omega)).2 hx) (jok_t (jok_t (jok_t hA.2.2.2.2.2.1))))
    · rw [if_neg hs] at h
      cases h
  · cases h
theorem snd_zast {j pc : Nat} (hd : decode (tm_c j) pc = .ok (.bastore, 1)) : jSnd j pc (o_zast (pc + 1)) := by
  refine jSnd_step fun l ls st g m q h => ?_
  split at h
  · rename_i x i a st'
    by_cases hs : ((jsh g a).1 = 2 ∧ 0 ≤ i ∧ i < (jsh g a).2) ∧ (x = 0 ∨ x = 1)
    · rw [if_pos hs] at h
      obtain rfl := Option.some.inj h
      obtain ⟨hs, hx01⟩ := hs
      have hz : vp_nar .boolean (Int32.ofInt x) = Int32.ofInt x := by rcases hx01 with rfl | rfl <;> decide
      intro h9
      have ha : 0 < a := by
        rcases Nat.eq_zero_or_pos a with z | z
        · subst z; omega
        · exact z
      refine ⟨jsh0 ha, fun p e R s mth args below meth c D tc A ad H locs cells slots Q lsA hA hce hsl kk => ?_⟩
      simp only [jcl_rf, jsl_rf, Nat.add_zero] at hce hsl kk
      have hm := hA.2.2.1.2.2.2
      have hx : jrg x := jok_h hA.2.2.2.2.2.1
      have hi : jrg i := jok_h (jok_t hA.2.2.2.2.2.1)
      refine va_zast (x := Int32.ofInt x) hA.1.1 hA.1.2.1 hA.1.2.2.2.2.2.2.2.2.2.2.1 hA.2.2.1.1 hA.2.2.1.2.1 hA.2.2.1.2.2.1 (a - 1) 1 (jcw_num hm hs.1 (by decide) (by decide)) rfl (jin hi hs.2.1 hs.2.2) hd (fun H1 locs1 hP1 hD1 hS1 => ?_)
      rw [hz] at hP1 hD1
      rw [jcl_of hi, jcw_putA hm hs.1 (by decide) (by decide) hs.2.1] at hP1 hD1
      exact kk ad H1 locs1 lsA (fun _ _ => rfl) (jAt_wr hA rfl (jsh0 ha) hP1 hD1 hS1 (jom_up hm (jcw_pos hm hs.1 (by omega) (by omega)).2 hx) (jok_t (jok_t (jok_t hA.2.2.2.2.2.1))))
    · rw [if_neg hs] at h
      cases h
  · cases h
theorem snd_aast {j pc kd t0 ci : Nat} {C : String} {T : u_T} {N : Nat} (hd : decode (tm_c j) pc = .ok (.aastore, 1)) (h1 : 2 < kd) (h2 : kd < 9) (ht : tm_T[t0]? = some (kd, .object C)) (hc : vwCl[ci]? = some (C, T, N)) : jSnd j pc (o_aast (pc + 1) kd (10 + ci)) := by
  refine jSnd_step fun l ls st g m q h => ?_
  split at h
  · rename_i b i a st'
    by_cases hs : ((jsh g a).1 = kd ∧ 0 ≤ i ∧ i < (jsh g a).2) ∧ (jsh g b).1 = 10 + ci
    · rw [if_pos hs] at h
      obtain rfl := Option.some.inj h
      obtain ⟨hs, hsb⟩ := hs
      intro h9
      refine ⟨jshr, fun p e R s mth args below meth c D tc A ad H locs cells slots Q lsA hA hce hsl kk => ?_⟩
      obtain ⟨ec, es⟩ := jcl_eq (g := g) (g' := (g.1, jur g.2 a i (some b))) rfl
      dsimp only at hce hsl kk
      simp only [ec, es, Nat.add_zero] at hce hsl kk
      have hm := hA.2.2.1.2.2.2
      have hi : jrg i := jok_h (jok_t hA.2.2.2.2.2.1)
      have hb : b < g.1.length := jok_h hA.2.2.2.2.2.1
      refine va_astq hA.1.1 hA.1.2.1 hA.1.2.2.2.2.2.2.2.2.2.2.1 hA.2.2.1.1 hA.2.2.1.2.1 hA.2.2.1.2.2.1 (a - 1) t0 (b - 1) ci (jcw_ref hm hs.1 h1 h2) (by unfold jtys; rw [List.getElem?_map, ht]; rfl) (jcw_obj hm hsb) hc (jin hi hs.2.1 hs.2.2) hd (fun H1 locs1 hP1 hD1 hS1 => ?_)
      rw [jcl_of hi, jcw_putB hm hs.1 h1 h2 hs.2.1] at hP1 hD1
      exact kk ad H1 locs1 lsA (fun _ _ => rfl) (jAt_wr hA rfl jshr hP1 hD1 hS1 (jom_ur hm (jcw_pos hm hs.1 (by omega) (by omega)).2 (fun x hx => by cases hx; exact hb)) (jok_t (jok_t (jok_t hA.2.2.2.2.2.1))))
    · rw [if_neg hs] at h
      cases h
  · cases h
theorem snd_alen {j pc kd t0 : Nat} {ty : FieldType} (hd : decode (tm_c j) pc = .ok (.arraylength, 1)) (h0 : 0 < kd) (h1 : kd < 9) (ht : tm_T[t0]? = some (kd, ty)) : jSnd j pc (o_alen (pc + 1) kd) := by
  refine jSnd_step fun l ls st g m q h => ?_
  split at h
  · rename_i a st'
    by_cases hs : (jsh g a).1 = kd ∧ (jsh g a).2 ≤ 100000
    · rw [if_pos hs] at h
      obtain rfl := Option.some.inj h
      refine jSim_pure rfl (fun hm k1 k2 => ⟨k1, jok_cons (show jrg _ from ⟨by omega, by omega⟩) (jok_t k2)⟩) fun p e R s mth args below meth c D tc A ad H locs cells slots Q lsA hA hce hsl kk => ?_
      have hm := hA.2.2.1.2.2.2
      have ht2 : (jtys tc)[t0]? = some (tc kd, ty) := by unfold jtys; rw [List.getElem?_map, ht]; rfl
      by_cases hk : kd ≤ 2
      · exact va_alen (v := Int32.ofInt (jsh g a).2) hA.1.1 hA.1.2.1 hA.1.2.2.2.2.2.2.2.2.2.2.1 hA.2.2.1.1 (a - 1) t0 (jcw_num hm hs.1 h0 hk) ht2 Int32.ofInt_eq_ofNat.symm hd (kk lsA hA.2.2.2.1)
      · exact va_alen (v := Int32.ofInt (jsh g a).2) hA.1.1 hA.1.2.1 hA.1.2.2.2.2.2.2.2.2.2.2.1 hA.2.2.1.1 (a - 1) t0 (jcw_ref hm hs.1 (by omega) h1) ht2 Int32.ofInt_eq_ofNat.symm hd (kk lsA hA.2.2.2.1)
    · rw [if_neg hs] at h
      cases h
  · cases h
theorem snd_sald {pc : Nat} (hd : decode (tm_c tm_law) pc = .ok (.iaload, 1)) : jSnd tm_law pc (o_sald (pc + 1)) := by
  refine jSnd_step fun l ls st g m q h => ?_
  split at h
  · rename_i i st'
    by_cases hs : 0 ≤ i ∧ i < (jsh g 0).2
    · rw [if_pos hs] at h
      obtain rfl := Option.some.inj h
      refine jSim_pure rfl (fun hm h1 h2 => ⟨h1, jok_cons (hm.1 0 i) (jok_t (jok_t h2))⟩) fun p e R s mth args below meth c D tc A ad H locs cells slots Q lsA hA hce hsl kk => ?_
      have hi : jrg i := jok_h hA.2.2.2.2.2.1
      obtain ⟨b, L, xs, q1, q2, q3, q4, q5, q6, q7⟩ := hA.2.2.2.2.2.2.2 rfl
      rw [q5] at hs
      have hs2 : i < (L : Int) := hs.2
      have hv : Int32.ofInt (m 0 i) = xs i.toNat := by
        have h8 := q6 i.toNat (by omega)
        rw [Int.toNat_of_nonneg hs.1] at h8
        rw [h8, Int32.ofInt_toInt]
      have k2 := kk lsA hA.2.2.2.1
      have e2 : ((jI (m 0 i) :: st').map (jcv ad)) = .int (xs i.toNat) :: st'.map (jcv ad) := by rw [← hv]; rfl
      rw [e2] at k2
      have e3 : ((Sum.inl i :: Sum.inr (Sum.inl (some 0)) :: st' : List jV).map (jcv ad)) = .int (Int32.ofInt i) :: .ref b :: st'.map (jcv ad) := by rw [← q1]; rfl
      rw [e3]
      refine va_sld hA.1.1 hA.1.2.1 q2 q3 q4 hA.2.2.1.2.2.1 (jin hi hs.1 hs2) hd ?_
      rw [jcl_of hi]
      exact k2
    · rw [if_neg hs] at h
      cases h
  · cases h
theorem snd_slen {pc : Nat} (hd : decode (tm_c tm_law) pc = .ok (.arraylength, 1)) : jSnd tm_law pc (o_slen (pc + 1)) := by
  refine jSnd_step fun l ls st g m q h => ?_
  split at h
  · rename_i st'
    by_cases hs : (jsh g 0).2 ≤ 100000
    · rw [if_pos hs] at h
      obtain rfl := Option.some.inj h
      refine jSim_pure rfl (fun hm h1 h2 => ⟨h1, jok_cons (show jrg _ from ⟨by omega, by omega⟩) (jok_t h2)⟩) fun p e R s mth args below meth c D tc A ad H locs cells slots Q lsA hA hce hsl kk => ?_
      obtain ⟨b, L, xs, q1, q2, q3, q4, q5, q6, q7⟩ := hA.2.2.2.2.2.2.2 rfl
      have k2 := kk lsA hA.2.2.2.1
      have e2 : ((jI (jsh g 0).2 :: st').map (jcv ad)) = .int (Int32.ofNat L) :: st'.map (jcv ad) := by
        rw [q5]
        show Value.int (Int32.ofInt (L : Int)) :: _ = _
        rw [Int32.ofInt_eq_ofNat]
      rw [e2] at k2
      have e3 : ((Sum.inr (Sum.inl (some 0)) :: st' : List jV).map (jcv ad)) = .ref b :: st'.map (jcv ad) := by rw [← q1]; rfl
      rw [e3]
      exact va_slen hA.1.1 hA.1.2.1 q2 q3 q4 hA.2.2.1.2.2.1 hd k2
    · rw [if_neg hs] at h
      cases h
  · cases h
end
section
theorem jcat_sum (ad : Nat → Nat) : ∀ st : List jV, ((st.map (jcv ad)).map fun v => v.category).sum = st.length
  | [] => rfl
  | v :: st => by
    rw [List.map_cons, List.map_cons, List.sum_cons, jcv_cat, jcat_sum ad st, List.length_cons]
    omega
theorem snd_mm {j pc idx : Nat} (hd : decode (tm_c j) pc = .ok (.invokestatic idx, 3)) (w1 : Cond.methodLink (tm_y j).cls idx Lib.Math.max.name ∈ jgw) (w2 : Cond.static Lib.Math.max.name ∈ jgw) (w3 : Cond.initialized "java/lang/Math" ∈ jgw) (w4 : Cond.code Lib.Math.max.name Lib.Math.max.code 2 (some .int) ∈ jgw) (hf : 1 ≤ tm_f j) (ho : 21 ≤ tm_o j) : jSnd j pc (o_mm (pc + 3) f_max) := by
  refine jSnd_step fun l ls st g m q h => ?_
  split at h
  · rename_i y x st'
    by_cases hs : st'.length ≤ 8
    · rw [if_pos hs] at h
      obtain rfl := Option.some.inj h
      refine jSim_pure rfl (fun hm h1 h2 => ⟨h1, jok_cons ?_ (jok_t (jok_t h2))⟩) fun p e R s mth args below meth c D tc A ad H locs cells slots Q lsA hA hce hsl kk => ?_
      · show jrg (f_max x y)
        unfold f_max
        split
        · exact jok_h h2
        · exact jok_h (jok_t h2)
      · have hy : jrg y := jok_h hA.2.2.2.2.2.1
        have hx : jrg x := jok_h (jok_t hA.2.2.2.2.2.1)
        have hts := hA.1.2.2.2.2.2.1
        refine va_mmax (x := Int32.ofInt x) (y := Int32.ofInt y) hA.1.1 hA.1.2.1 (hA.1.2.2.2.1.trans (hA.2.2.2.2.2.2.1.symm.trans hA.2.2.2.1.1.symm)) hA.1.2.2.2.2.1 (hts _ w1) (hts _ w2) (hts _ w3) (hts _ w4) (Nat.le_trans hf hA.1.2.2.2.2.2.2.2.2.1) (by rw [jcat_sum]; have := hA.1.2.2.2.2.2.2.2.2.2.1; omega) hce hsl hd ?_
        have e1 : (if Int32.ofInt x < Int32.ofInt y then Int32.ofInt y else Int32.ofInt x) = Int32.ofInt (f_max x y) := by
          unfold f_max
          by_cases hc : x < y
          · rw [if_pos hc, if_pos ((jlt hx hy).mpr hc)]
          · rw [if_neg hc, if_neg (fun q => hc ((jlt hx hy).mp q))]
        rw [e1]
        exact kk lsA hA.2.2.2.1
    · rw [if_neg hs] at h
      cases h
  · cases h
theorem snd_table {j pc d len : Nat} {dflt lo hi : Int} {offs : Array Int} {t : List (Int × Nat)} (hd : decode (tm_c j) pc = .ok (.tableswitch dflt lo hi offs, len)) (htd : (pc : Int) + dflt = (d : Int)) (hall : ∀ x : Int, ¬ x < lo → ¬ hi < x → ∃ off, offs[(x - lo).toNat]? = some off ∧ (pc : Int) + off = ((jsw x d t : Nat) : Int)) (hout : ∀ x : Int, (x < lo ∨ hi < x) → jsw x d t = d) : jSnd j pc (o_switch d t) := by
  refine jSnd_step fun l ls st g m q h => ?_
  split at h
  · rename_i x st'
    obtain rfl := Option.some.inj h
    refine jSim_pure rfl (fun hm h1 h2 => ⟨h1, jok_t h2⟩) fun p e R s mth args below meth c D tc A ad H locs cells slots Q lsA hA hce hsl kk => ?_
    have hx : jrg x := jok_h hA.2.2.2.2.2.1
    by_cases hc : x < lo ∨ hi < x
    · refine lv_tableOut (x := Int32.ofInt x) (tgt := d) hA.1.1 hA.1.2.1 hd (by rw [jti hx]; exact hc) htd ?_
      have k2 := kk lsA hA.2.2.2.1
      rw [hout x hc] at k2
      exact k2
    · obtain ⟨off, e1, e2⟩ := hall x (fun q => hc (Or.inl q)) (fun q => hc (Or.inr q))
      exact lv_tableIn (x := Int32.ofInt x) hA.1.1 hA.1.2.1 hd (by rw [jti hx]; exact fun q => hc (Or.inl q)) (by rw [jti hx]; exact fun q => hc (Or.inr q)) (by rw [jti hx]; exact e1) e2 (kk lsA hA.2.2.2.1)
  · cases h
theorem snd_lookup {j pc d len : Nat} {dflt : Int} {ps : Array (Int × Int)} {t : List (Int × Nat)} (hd : decode (tm_c j) pc = .ok (.lookupswitch dflt ps, len)) (hp : (ps.toList.zip (ps.toList.drop 1)).all (fun (a, next) => a.1 < next.1) = true) (ho : ∀ x : Int, (pc : Int) + Op.lookupswitch.offset ps.toList dflt x = ((jsw x d t : Nat) : Int)) : jSnd j pc (o_switch d t) := by
  refine jSnd_step fun l ls st g m q h => ?_
  split at h
  · rename_i x st'
    obtain rfl := Option.some.inj h
    refine jSim_pure rfl (fun hm h1 h2 => ⟨h1, jok_t h2⟩) fun p e R s mth args below meth c D tc A ad H locs cells slots Q lsA hA hce hsl kk => ?_
    have hx : jrg x := jok_h hA.2.2.2.2.2.1
    exact lv_lookup (x := Int32.ofInt x) hA.1.1 hA.1.2.1 hd hp (by rw [jti hx]) (ho x) (kk lsA hA.2.2.2.1)
  · cases h
theorem snd_objinit {j pc idx : Nat} (hd : decode (tm_c j) pc = .ok (.invokespecial idx, 3)) (w1 : Cond.methodLink (tm_y j).cls idx objectInit ∈ jgw) (w2 : Cond.instanceMethod objectInit ∈ jgw) (w3 : Cond.code objectInit ⟨#[0xb1]⟩ 1 none ∈ jgw) (hf : 1 ≤ tm_f j) (ho : 21 ≤ tm_o j) : jSnd j pc (o_objinit (pc + 3)) := by
  refine jSnd_step fun l ls st g m q h => ?_
  split at h
  · rename_i a st'
    by_cases hs : st'.length ≤ 8
    · rw [if_pos hs] at h
      obtain rfl := Option.some.inj h
      refine jSim_pure rfl (fun hm h1 h2 => ⟨h1, jok_t h2⟩) fun p e R s mth args below meth c D tc A ad H locs cells slots Q lsA hA hce hsl kk => ?_
      have hts := hA.1.2.2.2.2.2.1
      exact W.objInit hA.1.1 hA.1.2.1 hA.1.2.2.2.2.1 (hts _ w1) (hts _ w2) (hts _ w3) rfl (hA.2.2.2.1.1.trans (hA.2.2.2.2.2.2.1.trans hA.1.2.2.2.1.symm)) rfl hd (Nat.le_trans hf hA.1.2.2.2.2.2.2.2.2.1) (by show 2 * 0 + _ + 12 ≤ _; rw [jcat_sum]; have := hA.1.2.2.2.2.2.2.2.2.2.1; omega) (kk lsA hA.2.2.2.1)
    · rw [if_neg hs] at h
      cases h
  · cases h
-- new cells
def jadd (ad : Nat → Nat) (k q : Nat) : Nat → Nat := fun a => if a = k then q else ad a
theorem jadd_ag {ad : Nat → Nat} {k q : Nat} : ∀ a, a < k → jadd ad k q a = ad a := fun a ha => by unfold jadd; rw [if_neg (by omega)]
theorem jpush_ext {g : jG} {m : jM} {q : Nat × Nat} : jExt g m (g.1 ++ [q], g.2) m := ⟨⟨[q], rfl⟩, fun _ => rfl⟩
theorem jpush_cl {g : jG} {q : Nat × Nat} : jcl g (g.1 ++ [q], g.2) = 1 ∧ jsl g (g.1 ++ [q], g.2) = q.2 := by
  unfold jcl jsl jsz
  constructor
  · simp
  · simp
theorem jAt_push {j : Nat} {p : Program} {R : Room} {s : State} {mth : MethodId} {args : Array Value} {meth : Method} {c : Code} {D : va_G} {tc : Nat → ClassId} {A : Nat → Prop} {ad : Nat → Nat} {ls st st' : List jV} {g : jG} {m : jM} {H H' : Heap} {locs locs' : List Loc} {lsA : Array Slot} {q : Nat × Nat} {x : Nat} {E : va_E}
    (h : jAt j p R s mth args meth c D tc A ad ls st g m H locs lsA) (hE : jce tc (jadd ad g.1.length x) (g.1 ++ [q], g.2) m g.1.length = E) (hP : va_P D vwCl (jcw tc ad g m ++ [(x, E)]) H') (hD : va_D A (jcw tc ad g m ++ [(x, E)])) (hS : va_S A s.heap H' locs') (hst : ∀ v ∈ st', jok g.1.length v) : jAt j p R s mth args meth c D tc A (jadd ad g.1.length x) ls (jO (some g.1.length) :: st') (g.1 ++ [q], g.2) m H' locs' lsA := by
  obtain ⟨h1, h2, h3, h4, h5, h6, h7, h8⟩ := h
  have hm := h3.2.2.2
  have h0 : 0 < g.1.length := jsh_lt (a := 0) (by rw [hm.2.2.2]; decide)
  have e : jcw tc (jadd ad g.1.length x) (g.1 ++ [q], g.2) m = jcw tc ad g m ++ [(x, E)] := by
    rw [jcw_push jadd_ag hm.2.1 h0, hE]
    unfold jadd
    rw [if_pos rfl]
  have hl : (g.1 ++ [q]).length = g.1.length + 1 := by simp
  refine ⟨h1, h2, ⟨by rw [e]; exact hP, by rw [e]; exact hD, hS, jom_push hm q⟩, jL_ag jadd_ag h5 h4, fun v hv => ?_, jok_cons ?_ (fun v hv => ?_), h7, h8.ext jpush_ext hm.2.2.2 jadd_ag⟩
  · exact jok_mono (h5 v hv) (by show _ ≤ (g.1 ++ [q]).length; omega)
  · show g.1.length < (g.1 ++ [q]).length
    omega
  · exact jok_mono (hst v hv) (by show _ ≤ (g.1 ++ [q]).length; omega)
theorem jmap_push {g : jG} {ad : Nat → Nat} {x : Nat} {st : List jV} (h : ∀ v ∈ st, jok g.1.length v) : (jO (some g.1.length) :: st).map (jcv (jadd ad g.1.length x)) = .ref x :: st.map (jcv ad) := by
  show va_rf (some (jadd ad g.1.length x g.1.length)) :: st.map _ = _
  rw [jmap_ag jadd_ag h]
  unfold jadd
  rw [if_pos rfl]
  rfl
theorem snd_newI {j pc : Nat} (hd : decode (tm_c j) pc = .ok (.newarray .int, 2)) (w1 : Cond.arrayClass .int ∈ jgw) : jSnd j pc (o_newa (pc + 2) 1) := by
  refine jSnd_step fun l ls st g m q h => ?_
  split at h
  · rename_i n st'
    by_cases hs : 0 ≤ n ∧ n ≤ 100000
    · rw [if_pos hs] at h
      obtain rfl := Option.some.inj h
      intro h9
      refine ⟨jpush_ext, fun p e R s mth args below meth c D tc A ad H locs cells slots Q lsA hA hce hsl kk => ?_⟩
      dsimp only at hce hsl kk
      rw [jpush_cl.1] at hce
      rw [jpush_cl.2] at hsl
      simp only [jpush_cl.1, jpush_cl.2] at kk
      have hm := hA.2.2.1.2.2.2
      have hn : jrg n := jok_h hA.2.2.2.2.2.1
      have hts := hA.1.2.2.2.2.2.1
      have hK := hA.1.2.2.2.2.2.2.2.2.2.2.1
      refine va_newa (atype := .int) (ty := .int) (N' := n.toNat) (a0 := (n.toNat, .inl fun _ => 0)) hA.1.1 hA.1.2.1 (hts _ w1) rfl hK hA.2.2.1.1 hA.2.2.1.2.1 hA.2.2.1.2.2.1 hA.2.1 (fun _ => rfl) (fun q => by rw [jz0] at q; have := (jlt hn jrg0).mp q; omega) (jcl_of hn) (by show n.toNat * 4 ≤ 536870912; omega) hce hsl hd (fun x cA H1 hK1 hP1 hD1 hS1 => ?_)
      have hcA : cA = tc 1 := by
        have e1 : s.vm.findClass ("[" ++ (.int : FieldType).toString) = some cA := (hK1.2 (jtys tc).length (cA, .int) (by simp)).2
        have e2 : s.vm.findClass ("[" ++ (.int : FieldType).toString) = some (tc 1) := (hK.2 0 (tc 1, .int) rfl).2
        exact Option.some.inj (e1.symm.trans e2)
      subst hcA
      have k2 := kk (jadd ad g.1.length x) H1 locs lsA jadd_ag (jAt_push hA (E := .inl (tc 1, n.toNat, .inl fun _ => 0)) (by
        unfold jce
        rw [jsh_last]
        show Sum.inl _ = _
        congr 3
        congr 1
        funext i
        rw [(hm.2.2.1 g.1.length (Nat.le_refl _) i).1]
        rfl) hP1 hD1 hS1 (jok_t hA.2.2.2.2.2.1))
      rw [jmap_push (jok_t hA.2.2.2.2.2.1)] at k2
      exact k2
    · rw [if_neg hs] at h
      cases h
  · cases h
theorem snd_newZ {j pc : Nat} (hd : decode (tm_c j) pc = .ok (.newarray .boolean, 2)) (w1 : Cond.arrayClass .boolean ∈ jgw) : jSnd j pc (o_newa (pc + 2) 2) := by
  refine jSnd_step fun l ls st g m q h => ?_
  split at h
  · rename_i n st'
    by_cases hs : 0 ≤ n ∧ n ≤ 100000
    · rw [if_pos hs] at h
      obtain rfl := Option.some.inj h
      intro h9
      refine ⟨jpush_ext, fun p e R s mth args below meth c D tc A ad H locs cells slots Q lsA hA hce hsl kk => ?_⟩
      dsimp only at hce hsl kk
      rw [jpush_cl.1] at hce
      rw [jpush_cl.2] at hsl
      simp only [jpush_cl.1, jpush_cl.2] at kk
      have hm := hA.2.2.1.2.2.2
      have hn : jrg n := jok_h hA.2.2.2.2.2.1
      have hts := hA.1.2.2.2.2.2.1
      have hK := hA.1.2.2.2.2.2.2.2.2.2.2.1
      refine va_newa (atype := .boolean) (ty := .boolean) (N' := n.toNat) (a0 := (n.toNat, .inl fun _ => 0)) hA.1.1 hA.1.2.1 (hts _ w1) rfl hK hA.2.2.1.1 hA.2.2.1.2.1 hA.2.2.1.2.2.1 hA.2.1 (fun _ => rfl) (fun q => by rw [jz0] at q; have := (jlt hn jrg0).mp q; omega) (jcl_of hn) (by show n.toNat * 1 ≤ 536870912; omega) hce hsl hd (fun x cA H1 hK1 hP1 hD1 hS1 => ?_)
      have hcA : cA = tc 2 := by
        have e1 : s.vm.findClass ("[" ++ (.boolean : FieldType).toString) = some cA := (hK1.2 (jtys tc).length (cA, .boolean) (by simp)).2
        have e2 : s.vm.findClass ("[" ++ (.boolean : FieldType).toString) = some (tc 2) := (hK.2 1 (tc 2, .boolean) rfl).2
        exact Option.some.inj (e1.symm.trans e2)
      subst hcA
      have k2 := kk (jadd ad g.1.length x) H1 locs lsA jadd_ag (jAt_push hA (E := .inl (tc 2, n.toNat, .inl fun _ => 0)) (by
        unfold jce
        rw [jsh_last]
        show Sum.inl _ = _
        congr 3
        congr 1
        funext i
        rw [(hm.2.2.1 g.1.length (Nat.le_refl _) i).1]
        rfl) hP1 hD1 hS1 (jok_t hA.2.2.2.2.2.1))
      rw [jmap_push (jok_t hA.2.2.2.2.2.1)] at k2
      exact k2
    · rw [if_neg hs] at h
      cases h
  · cases h
theorem snd_newQ {j pc idx kd t0 : Nat} {C : String} (hd : decode (tm_c j) pc = .ok (.anewarray idx, 3)) (w1 : Cond.classLink (tm_y j).cls idx C ∈ jgw) (w2 : Cond.arrayOver (.object C) ∈ lw_tbl) (h1 : 2 < kd) (h2 : kd < 9) (ht : tm_T[t0]? = some (kd, .object C)) : jSnd j pc (o_newa (pc + 3) kd) := by
  refine jSnd_step fun l ls st g m q h => ?_
  split at h
  · rename_i n st'
    by_cases hs : 0 ≤ n ∧ n ≤ 100000
    · rw [if_pos hs] at h
      obtain rfl := Option.some.inj h
      intro h9
      refine ⟨jpush_ext, fun p e R s mth args below meth c D tc A ad H locs cells slots Q lsA hA hce hsl kk => ?_⟩
      dsimp only at hce hsl kk
      rw [jpush_cl.1] at hce
      rw [jpush_cl.2] at hsl
      simp only [jpush_cl.1, jpush_cl.2] at kk
      have hm := hA.2.2.1.2.2.2
      have hn : jrg n := jok_h hA.2.2.2.2.2.1
      have hts := hA.1.2.2.2.2.2.1
      have hK := hA.1.2.2.2.2.2.2.2.2.2.2.1
      have hN := hA.1.2.2.2.2.2.2.2.2.2.2.2
      refine va_newq (C := C) (N' := n.toNat) hA.1.1 hA.1.2.1 hA.1.2.2.2.2.1 (hts _ w1) (hN.2 C w2) hK hA.2.2.1.1 hA.2.2.1.2.1 hA.2.2.1.2.2.1 hA.2.1 (fun q => by rw [jz0] at q; have := (jlt hn jrg0).mp q; omega) (jcl_of hn) (by omega) hce hsl hd (fun x cA H1 hK1 hP1 hD1 hS1 => ?_)
      have hcA : cA = tc kd := by
        obtain ⟨kA, comp, -, -, -, e1⟩ := (hK1.2 (jtys tc).length (cA, .object C) (by simp)).2
        obtain ⟨kA2, comp2, -, -, -, e2⟩ := (hK.2 t0 (tc kd, .object C) (by unfold jtys; rw [List.getElem?_map, ht]; rfl)).2
        exact Option.some.inj (e1.symm.trans e2)
      subst hcA
      have k2 := kk (jadd ad g.1.length x) H1 locs lsA jadd_ag (jAt_push hA (E := .inl (tc kd, n.toNat, .inr (.inr (.inr (.inr fun _ => none))))) (by
        unfold jce
        rw [jsh_last]
        show (if kd < 10 then (if kd ≤ 2 then _ else _) else _) = _
        rw [if_pos (by omega), if_neg (by omega)]
        suffices e : (fun (i : Nat) => (g.2 g.1.length i).map (jadd ad g.1.length x)) = fun _ => none by
          show Sum.inl (tc kd, n.toNat, Sum.inr (Sum.inr (Sum.inr (Sum.inr (fun (i : Nat) => (g.2 g.1.length i).map (jadd ad g.1.length x)))))) = _
          rw [e]
        funext i
        rw [(hm.2.2.1 g.1.length (Nat.le_refl _) i).2]
        rfl) hP1 hD1 hS1 (jok_t hA.2.2.2.2.2.1))
      rw [jmap_push (jok_t hA.2.2.2.2.2.1)] at k2
      exact k2
    · rw [if_neg hs] at h
      cases h
  · cases h
theorem snd_new {j pc idx ci N : Nat} {C : String} {T : u_T} (hd : decode (tm_c j) pc = .ok (.new idx, 3)) (hc : vwCl[ci]? = some (C, T, N)) (hin : ∀ w ∈ u_ws C T N, w ∈ jgw) (ty0 : Nat → FieldType) (hty : ∀ k, k < N → parseFieldDescriptor (T k).2.2.1 = some (ty0 k)) (w1 : Cond.classLink (tm_y j).cls idx C ∈ jgw) (w2 : Cond.instantiable C N ∈ jgw) (w3 : Cond.initialized C ∈ jgw)
    (hF : (tm_F ci).length = N) (hdf : ∀ k, k < N → defaultValue (ty0 k) = if (tm_F ci).getD k false = true then .null else .int 0) : jSnd j pc (o_new (pc + 3) (10 + ci) N) := by
  refine jSnd_step fun l ls st g m q h => ?_
  obtain rfl := Option.some.inj h
  intro h9
  refine ⟨jpush_ext, fun p e R s mth args below meth c D tc A ad H locs cells slots Q lsA hA hce hsl kk => ?_⟩
  dsimp only at hce hsl kk
  rw [jpush_cl.1] at hce
  rw [jpush_cl.2] at hsl
  simp only [jpush_cl.1, jpush_cl.2] at kk
  have hm := hA.2.2.1.2.2.2
  have hts := hA.1.2.2.2.2.2.1
  have hK := hA.1.2.2.2.2.2.2.2.2.2.2.1
  refine va_new (fs := jfs ad g m g.1.length (tm_F ci)) hA.1.1 hA.1.2.1 hts hin ty0 hty hA.1.2.2.2.2.1 (hts _ w1) (hts _ w2) (hts _ w3) hK hA.2.2.1.1 hA.2.2.1.2.1 hA.2.2.1.2.2.1 hA.2.1 hc (fun k hk => ?_) hce hsl hd (fun x H1 hP1 hD1 hS1 => ?_)
  · rw [hdf k hk]
    unfold vp_V
    rw [List.getD_eq_getElem?_getD (l := jfs ad g m g.1.length (tm_F ci)), jfs_at (by omega)]
    show _ = jfv ad g m g.1.length k ((tm_F ci).getD k false)
    unfold jfv
    rw [(hm.2.2.1 g.1.length (Nat.le_refl _) k).1, (hm.2.2.1 g.1.length (Nat.le_refl _) k).2]
    split <;> rfl
  · have k2 := kk (jadd ad g.1.length x) H1 locs lsA jadd_ag (jAt_push hA (E := .inr (ci, jfs ad g m g.1.length (tm_F ci))) (by
      unfold jce
      rw [jsh_last]
      show (if 10 + ci < 10 then _ else Sum.inr (10 + ci - 10, _)) = _
      rw [if_neg (by omega), Nat.add_sub_cancel_left]
      congr 2
      unfold jfs jfv
      apply List.map_congr_left
      intro f _
      rw [(hm.2.2.1 g.1.length (Nat.le_refl _) f).2]
      rfl) hP1 hD1 hS1 hA.2.2.2.2.2.1)
    rw [jmap_push hA.2.2.2.2.2.1] at k2
    exact k2
-- ends
theorem snd_iret {j pc : Nat} (hd : decode (tm_c j) pc = .ok (.ireturn, 1)) (hr : tm_r j = some .int) : jSnd j pc o_iret := by
  intro l k hk ls st g m res e
  unfold jstep o_iret at e
  dsimp only at e
  split at e
  · obtain rfl := Option.some.inj e
    intro h9
    refine ⟨jExt.rf, fun p e R s mth args below meth c D tc A ad H locs cells slots Q lsA hA hce hsl fin => ?_⟩
    have k2 := fin ad H locs lsA pc (fun _ _ => rfl) hA.2.2.1 (jok_h hA.2.2.2.2.2.1) ⟨hd, Or.inl hr⟩
    simp only [jcl_rf, jsl_rf, Nat.add_zero] at k2
    exact k2
  · cases e
theorem snd_zret {j pc : Nat} (hd : decode (tm_c j) pc = .ok (.ireturn, 1)) (hr : tm_r j = some .boolean) : jSnd j pc o_zret := by
  intro l k hk ls st g m res e
  unfold jstep o_zret at e
  dsimp only at e
  split at e
  · rename_i x
    by_cases hx : x = 0 ∨ x = 1
    · rw [if_pos hx] at e
      obtain rfl := Option.some.inj e
      intro h9
      refine ⟨jExt.rf, fun p e R s mth args below meth c D tc A ad H locs cells slots Q lsA hA hce hsl fin => ?_⟩
      have k2 := fin ad H locs lsA pc (fun _ _ => rfl) hA.2.2.1 (jok_h hA.2.2.2.2.2.1) ⟨hd, Or.inr ⟨hr, hx⟩⟩
      simp only [jcl_rf, jsl_rf, Nat.add_zero] at k2
      exact k2
    · rw [if_neg hx] at e
      cases e
  · cases e
theorem snd_aret {j pc : Nat} {n : String} (hd : decode (tm_c j) pc = .ok (.areturn, 1)) (hr : tm_r j = some (.object n)) : jSnd j pc o_aret := by
  intro l k hk ls st g m res e
  unfold jstep o_aret at e
  dsimp only at e
  split at e
  · obtain rfl := Option.some.inj e
    intro h9
    refine ⟨jExt.rf, fun p e R s mth args below meth c D tc A ad H locs cells slots Q lsA hA hce hsl fin => ?_⟩
    have k2 := fin ad H locs lsA pc (fun _ _ => rfl) hA.2.2.1 (jok_h hA.2.2.2.2.2.1) ⟨hd, n, hr⟩
    simp only [jcl_rf, jsl_rf, Nat.add_zero] at k2
    exact k2
  · cases e
theorem snd_vret {j pc : Nat} (hd : decode (tm_c j) pc = .ok (.return_, 1)) (hr : tm_r j = none) : jSnd j pc o_vret := by
  intro l k hk ls st g m res e
  unfold jstep o_vret at e
  dsimp only at e
  split at e
  · obtain rfl := Option.some.inj e
    intro h9
    refine ⟨jExt.rf, fun p e R s mth args below meth c D tc A ad H locs cells slots Q lsA hA hce hsl fin => ?_⟩
    have k2 := fin ad H locs lsA pc (fun _ _ => rfl) hA.2.2.1 trivial ⟨hd, hr⟩
    simp only [jcl_rf, jsl_rf, Nat.add_zero] at k2
    exact k2
  · cases e
end
section
theorem jpop_spec : ∀ (n : Nat) (acc st as rest : List jV), jpop n acc st = some (as, rest) → ∃ ys, st = ys ++ rest ∧ as = ys.reverse ++ acc ∧ ys.length = n
  | 0, acc, st, as, rest, h => by
    cases h
    exact ⟨[], rfl, rfl, rfl⟩
  | n + 1, acc, [], as, rest, h => by cases h
  | n + 1, acc, v :: st, as, rest, h => by
    obtain ⟨ys, e1, e2, e3⟩ := jpop_spec n (v :: acc) st as rest h
    exact ⟨v :: ys, by rw [e1]; rfl, by rw [e2]; simp, by simp [e3]⟩
theorem jlv_args (ad : Nat → Nat) : ∀ (vs : List jV) (i k : Nat) (v : jV), vs[k]? = some v → (i + k, jcv ad v) ∈ lv_args i (vs.map (jcv ad))
  | [], i, k, v, h => by simp at h
  | w :: vs, i, 0, v, h => by
    cases h
    exact List.mem_cons_self
  | w :: vs, i, k + 1, v, h => by
    have h2 := jlv_args ad vs (i + 1) k v (by simpa using h)
    show _ ∈ (i, jcv ad w) :: lv_args (if (jcv ad w).category = 2 then i + 2 else i + 1) (vs.map (jcv ad))
    rw [jcv_cat, if_neg (by decide)]
    rw [show i + (k + 1) = i + 1 + k by omega]
    exact List.mem_cons_of_mem _ h2
theorem jlg_len (ad : Nat → Nat) : ∀ vs : List jV, (lg_sl (vs.map (jcv ad))).length = vs.length
  | [] => rfl
  | v :: vs => by
    have h := jlg_len ad vs
    unfold lg_sl at h ⊢
    rw [List.map_cons, List.flatMap_cons, List.length_append, h, jcv_cat, if_neg (by decide), List.length_cons, List.length_cons, List.length_nil]
    omega
def jrv (ad : Nat → Nat) (r : jV) : Option Value := match r with
  | Sum.inr (Sum.inr _) => none
  | v => some (jcv ad v)
def jws (j : Nat) : List Cond := Cond.code (tm_y j) (tm_c j) (tm_l j) (tm_r j) :: jgw
def jrm (j : Nat) (g : jG) (res : jR) : Room := { frames := tm_f j, cells := jcl g res.2.1, slots := jsl g res.2.1, locals := tm_o j }
def jPre (D : va_G) (tc : Nat → ClassId) (ad : Nat → Nat) (g : jG) (m : jM) (sz : Nat) (U : State) : Prop := U.heap.size = sz ∧ va_P D vwCl (jcw tc ad g m) U.heap ∧ va_K D vwCl (jtys tc) U ∧ va_D (fun _ => True) (jcw tc ad g m) ∧ jNs U
def jQc (j : Nat) (D : va_G) (tc : Nat → ClassId) (ad : Nat → Nat) (g : jG) (m : jM) (sz : Nat) (res : jR) : Array Value → State → Outcome → State → Prop := fun _ st o t =>
  (∃ ad' : Nat → Nat, (∀ a, a < g.1.length → ad' a = ad a) ∧ o = .returned (jrv ad' res.1) ∧ va_P D vwCl (jcw tc ad' res.2.1 res.2.2) t.heap ∧ va_D (va_A (jcw tc ad g m) sz) (jcw tc ad' res.2.1 res.2.2) ∧ jom res.2.1 res.2.2 ∧ jok res.2.1.1.length res.1 ∧ (res.1 = jU ↔ tm_r j = none)) ∧ va_F (va_A (jcw tc ad g m) sz) st t
set_option maxHeartbeats 1000000 in
/-- a run of the small machine is a contract -/
theorem jMet {l : Launch} {j : Nat} {vs : List jV} {g : jG} {m : jM} {res : jR} {D : va_G} {tc : Nat → ClassId} {ad : Nat → Nat} {sz : Nat} (h : jWs l j 0 (vs ++ List.replicate (tm_l j - vs.length) jU) [] g m res) (hj : j ≠ tm_law) (hy : plainName (tm_y j).cls = true) (hvs : ∀ v ∈ vs, jok g.1.length v) (hlen : vs.length ≤ tm_l j) (hm : jom g m) :
    Met l (tm_y j) (jws j) (jrm j g res) (va_Pc (vs.map (jcv ad)) (jPre D tc ad g m sz)) (jQc j D tc ad g m sz res) (jcl g res.2.1) (jsl g res.2.1) (va_A (jcw tc ad g m) sz) := by
  refine Met.ofW (cc := tm_c j) (maxL := tm_l j) (ret := tm_r j) hy rfl ?_
  intro p e s mth args below meth c s₁ B hml hv
  obtain ⟨rfl, hsz, hP, hK, hD0, hN⟩ := hv
  subst hsz
  have hts := atoms_spec (ws := jws j) B.pre
  have hown : s.vm.findClass (tm_y j).cls = some mth.cls := findClass_of_methodNamed B.named
  have hCx : jCx j p (headSpec (jws j) (jrm j g res)).room s mth (vs.map (jcv ad)).toArray meth c D tc := ⟨B.exec, B.bytes, B.returns, hml, hown, fun w hw => hts w (List.mem_cons_of_mem _ hw), B.notSynchronized, (name_of_methodNamed B.named B.method).1, Nat.le_refl _, Nat.le_refl _, hK, hN⟩
  have hl := lv_entry (vs.map (jcv ad)) (n := tm_l j) (by rw [jlg_len]; exact hlen)
  rw [lg_entry_eq]
  generalize (lg_sl (vs.map (jcv ad)) ++ List.replicate (tm_l j - (lg_sl (vs.map (jcv ad))).length) Slot.unset).toArray = lsA at hl ⊢
  have hll : (vs ++ List.replicate (tm_l j - vs.length) jU).length = tm_l j := by simp; omega
  have hL : jL ad (vs ++ List.replicate (tm_l j - vs.length) jU) lsA := by
    refine ⟨hl.1.trans hll.symm, hl.2.1, fun q hq => ?_⟩
    obtain ⟨v, h1, h2, h3⟩ := jlv_of hq
    obtain ⟨k, V⟩ := q
    simp only at h1 h3
    subst h3
    by_cases hk : k < vs.length
    · rw [List.getElem?_append_left hk] at h1
      have h4 := jlv_args ad vs 0 k v h1
      rw [Nat.zero_add] at h4
      exact hl.2.2 _ h4
    · rw [List.getElem?_append_right (by omega)] at h1
      exact absurd (List.eq_of_mem_replicate (List.mem_of_getElem? h1)) h2
  have hok : ∀ v ∈ vs ++ List.replicate (tm_l j - vs.length) jU, jok g.1.length v := by
    intro v hv
    rcases List.mem_append.mp hv with q | q
    · exact hvs v q
    · rw [List.eq_of_mem_replicate q]; trivial
  obtain ⟨hx, hw⟩ := h hm.2.2.2
  refine hw p e _ s mth _ below meth c D tc (va_A (jcw tc ad g m) s.heap.size) ad s.heap [] 0 0 _ lsA ⟨hCx, fun q hq => Or.inr hq, ⟨hP, hD0.self, va_S.rf, hm⟩, hL, hok, fun v hv => by simp at hv, hll, fun hj' => absurd hj' hj⟩ (by rw [Nat.zero_add]; exact Nat.le_refl _) (by rw [Nat.zero_add]; exact Nat.le_refl _) fun ad' H' locs' lsA' pc' ag hR hk hr => ?_
  rw [Nat.zero_add, Nat.zero_add]
  obtain ⟨r, g', m'⟩ := res
  have hq : ∀ (v : Option Value) (t : State), v = jrv ad' r → (r = jU ↔ tm_r j = none) → t.heap = H' → jQc j D tc ad g m s.heap.size (r, g', m') (vs.map (jcv ad)).toArray s (.returned v) t := fun v t hv hu ht =>
    ⟨⟨ad', ag, by rw [hv], by rw [ht]; exact hR.1, hR.2.1, hR.2.2.2, hk, hu⟩, hR.2.2.1.F ht⟩
  rcases r with x | o | u
  · obtain ⟨hd, hr | ⟨hr, hx01⟩⟩ := hr
    · exact W.iret B.exec B.bytes (B.returns.trans hr) (fun t ht _ => hq _ t rfl ⟨fun q => (by cases q), fun q => (by rw [hr] at q; cases q)⟩ ht) hR.2.2.1.2.2 hd (hlocks := B.notSynchronized)
    · exact W.zret (ty := .boolean) B.exec B.bytes (B.returns.trans hr) (by rcases hx01 with rfl | rfl <;> decide) (fun t ht _ => hq _ t rfl ⟨fun q => (by cases q), fun q => (by rw [hr] at q; cases q)⟩ ht) hR.2.2.1.2.2 hd (hlocks := B.notSynchronized)
  · obtain ⟨hd, n, hr⟩ := hr
    exact W.aret B.exec B.bytes (B.returns.trans hr) (Or.inl ⟨n, rfl⟩) (by cases o with
      | none => exact Or.inl rfl
      | some a => exact Or.inr ⟨_, rfl⟩) (fun t ht _ => hq _ t rfl ⟨fun q => (by cases q), fun q => (by rw [hr] at q; cases q)⟩ ht) hR.2.2.1.2.2 hd (hlocks := B.notSynchronized)
  · obtain ⟨hd, hr⟩ := hr
    exact W.vret B.exec B.bytes (B.returns.trans hr) (fun t ht _ => hq _ t rfl ⟨fun _ => hr, fun _ => rfl⟩ ht) hR.2.2.1.2.2 hd (hlocks := B.notSynchronized)
theorem jgood {l : List Cond} (h : ∀ w ∈ l, w ∈ jgw) : GoodIn jgw l := fun w hw => ⟨h w hw, good_of_word (List.mem_filter.mp (h w hw)).2⟩
theorem jgood_ws {j : Nat} (hcw : Cond.code (tm_y j) (tm_c j) (tm_l j) (tm_r j) ∈ jgw) : GoodIn jgw (jws j) := jgood fun w hw => by
  rcases List.mem_cons.mp hw with rfl | q
  · exact hcw
  · exact q
theorem jblind {D : va_G} {tc : Nat → ClassId} {ad : Nat → Nat} {g : jG} {m : jM} {sz : Nat} {vs : List Value} : FrameBlind (va_Pc vs (jPre D tc ad g m sz)) := by
  intro a U f mk q
  obtain ⟨q0, q1, qP, qK, qD, qN⟩ := q
  exact ⟨q0, q1, qP, va_K.moved (u := U) (U := U.calling f mk a) (Vm.Alike.refl U.vm) qK, qD, jNs_vm (s := U) (U := U.calling f mk a) rfl (Vm.Alike.refl U.vm) qN⟩
set_option maxHeartbeats 1000000 in
theorem snd_callG {j pc j' n rc : Nat} {vd : Bool} (hvd : vd = true ↔ tm_r j' = none)
    (HR : ∀ (l : Launch) (as rest : List jV) (g : jG) (m : jM) (res : jR), jWs l j' 0 (as ++ List.replicate (tm_l j' - n) jU) [] g m res → as.length = n → jrc rc g as = true → rest.length ≤ 8 →
      ∀ (p : Program) (e : Env) (R : Room) (s : State) (mth : MethodId) (args : Array Value) (below : List Frame) (meth : Method) (c : Code) (D : va_G) (tc : Nat → ClassId) (A : Nat → Prop) (ad : Nat → Nat) (H : Heap) (locs : List Loc) (cells slots : Nat) (lsA : Array Slot) (ls : List jV), jAt j p R s mth args meth c D tc A ad ls (as.reverse ++ rest) g m H locs lsA → cells + jcl g res.2.1 ≤ R.cells → slots + jsl g res.2.1 ≤ R.slots →
        va_Run p l e R s mth args below meth c H locs cells slots (jcl g res.2.1) (jsl g res.2.1) (F0 mth pc lsA ((as.reverse ++ rest).map (jcv ad))) (rest.map (jcv ad)) (jQc j' D tc ad g m H.size res #[]) (va_A (jcw tc ad g m) H.size)) : jSnd j pc (o_call (pc + 3) j' n (tm_l j') rc vd) := by
  intro l k hk ls st g m res e
  obtain ⟨⟨as, rest⟩, h1, h2⟩ := Option.bind_eq_some_iff.mp e
  by_cases hc : jrc rc g as = true ∧ rest.length ≤ 8
  · have h2 := (if_pos hc).symm.trans h2
    obtain ⟨r1, h3, h4⟩ := Option.bind_eq_some_iff.mp h2
    have w1 := hk _ _ _ _ _ _ _ h3
    have w2 := hk _ _ _ _ _ _ _ h4
    obtain ⟨ys, e1, e2, e3⟩ := jpop_spec _ _ _ _ _ h1
    have hst : st = as.reverse ++ rest := by rw [e1, e2]; simp
    have hnl : as.length = n := by rw [e2]; simpa using e3
    clear e h1 h2 e1 e2 e3
    subst hst
    intro h9
    have h0 : 0 < g.1.length := jsh_lt (a := 0) (by rw [h9]; decide)
    obtain ⟨x1, -⟩ := w1 h9
    obtain ⟨x2, v2⟩ := w2 (by rw [x1.sh h0]; exact h9)
    have l1 := x1.len
    have l2 := x2.len
    have z1 := x1.sz
    have z2 := x2.sz
    refine ⟨x1.trans x2, fun p e R s mth args below meth c D tc A ad H locs cells slots Q lsA hA hce hsl fin => ?_⟩
    have b1 : cells + jcl g r1.2.1 ≤ R.cells := by unfold jcl at *; omega
    have b2 : slots + jsl g r1.2.1 ≤ R.slots := by unfold jsl at *; omega
    have hrun := HR l as rest g m r1 w1 hnl hc.1 hc.2 p e R s mth args below meth c D tc A ad H locs cells slots lsA ls hA b1 b2
    obtain ⟨hC, hAA, hR, hL, k1, k2, hn, hX⟩ := hA
    intro T hT X
    obtain ⟨v, st₀, t, T', L, q0, X', hL', q1, q2, ⟨⟨ad1, ag, hv, hP1, hD1, hm1, hk1, hu1⟩, hz, hkk⟩, stp⟩ := hrun T hT X
    cases hv
    rw [q0] at hz hkk
    have hF : ∀ q, va_A (jcw tc ad g m) H.size q → A q := by
      intro q hq
      rcases hq with ⟨i, E, hq⟩ | hq
      · exact hR.2.1.2 i _ hq
      · exact hAA q (Nat.le_trans hR.2.2.1.1 hq)
    have hS1 : va_S A s.heap T'.heap (locs ++ L) := ⟨Nat.le_trans hR.2.2.1.1 (by rw [q1]; exact hz), fun q a1 a2 => by
      rw [q1, hkk q (Nat.lt_of_lt_of_le a1 hR.2.2.1.1) (fun z => a2 (hF q z))]
      exact hR.2.2.1.2.1 q a1 a2, fun q hq => by
      rcases List.mem_append.mp hq with a | a
      · exact hR.2.2.1.2.2 q a
      · exact hF _ (hL' q a)⟩
    have krest : ∀ w ∈ rest, jok g.1.length w := fun w hw => k2 w (List.mem_append_right _ hw)
    have hst1 : ∀ w ∈ (if vd = true then rest else r1.1 :: rest), jok r1.2.1.1.length w := by
      intro w hw
      split at hw
      · exact jok_mono (krest w hw) l1
      · rcases List.mem_cons.mp hw with rfl | hw
        · exact hk1
        · exact jok_mono (krest w hw) l1
    have hAt1 : jAt j p R s mth args meth c D tc A ad1 ls (if vd = true then rest else r1.1 :: rest) r1.2.1 r1.2.2 T'.heap (locs ++ L) lsA :=
      ⟨hC, hAA, ⟨by rw [q1]; exact hP1, hD1.weaken (fun i q _ hq => hF q.1 hq), hS1, hm1⟩, jL_ag ag k1 hL, fun w hw => jok_mono (k1 w hw) l1, hst1, hn, hX.ext x1 h9 ag⟩
    have hW := v2 p e R s mth args below meth c D tc A ad1 T'.heap (locs ++ L) (cells + jcl g r1.2.1) (slots + jsl g r1.2.1) Q lsA hAt1 (by unfold jcl at *; omega) (by unfold jsl at *; omega) (fun ad2 H2 locs2 lsA2 pc2 ag2 hR2 hk2 hr2 => by
      have kf := fin ad2 H2 locs2 lsA2 pc2 (fun a ha => (ag2 a (by omega)).trans (ag a ha)) hR2 hk2 hr2
      have c1 : cells + jcl g r1.2.1 + jcl r1.2.1 res.2.1 = cells + jcl g res.2.1 := by unfold jcl; omega
      have c2 : slots + jsl g r1.2.1 + jsl r1.2.1 res.2.1 = slots + jsl g res.2.1 := by unfold jsl; omega
      rw [c1, c2]
      exact kf)
    obtain ⟨t2, a1, a2⟩ := hW T' rfl X'
    refine ⟨t2, stp t2 ?_, a2⟩
    have es : (jrv ad1 r1.1).toList ++ rest.map (jcv ad) = (if vd = true then rest else r1.1 :: rest).map (jcv ad1) := by
      by_cases hvt : vd = true
      · rw [if_pos hvt, jmap_ag ag krest, hu1.mpr (hvd.mp hvt)]
        rfl
      · rw [if_neg hvt, List.map_cons, jmap_ag ag krest]
        have hne : r1.1 ≠ jU := fun q => hvt (hvd.mpr (hu1.mp q))
        have : jrv ad1 r1.1 = some (jcv ad1 r1.1) := by
          rcases hr : r1.1 with x | o | u
          · rfl
          · rfl
          · exact absurd hr hne
        rw [this]
        rfl
    show Steps p.tables e below (T'.setTop (F0 mth (pc + 3) lsA ((jrv ad1 r1.1).toList ++ rest.map (jcv ad)))) t2
    rw [es]
    exact a1
  · have h2 := (if_neg hc).symm.trans h2
    cases h2
theorem jrc_obj {rc : Nat} {g : jG} {as : List jV} (h0 : rc ≠ 0) (h : jrc rc g as = true) : ∃ a as', as = jO (some a) :: as' ∧ (jsh g a).1 = rc := by
  have hz : (rc == 0) = false := by simpa using h0
  rcases as with _ | ⟨v, as'⟩
  · simp [jrc, hz] at h
  · rcases v with x | (_ | a) | u
    · simp [jrc, hz] at h
    · simp [jrc, hz] at h
    · refine ⟨a, as', rfl, ?_⟩
      simpa [jrc, hz] using h
    · simp [jrc, hz] at h
theorem jpre_ok {j : Nat} {p : Program} {R : Room} {s : State} {mth : MethodId} {args : Array Value} {meth : Method} {c : Code} {D : va_G} {tc : Nat → ClassId} {A : Nat → Prop} {ad : Nat → Nat} {ls st : List jV} {g : jG} {m : jM} {H : Heap} {locs : List Loc} {lsA : Array Slot} (hA : jAt j p R s mth args meth c D tc A ad ls st g m H locs lsA) (U : State) (hU : U.heap = H) (hW : s.WarmedH U.vm) : jPre D tc ad g m H.size U := by
  have hK := hA.1.2.2.2.2.2.2.2.2.2.2.1
  exact ⟨by rw [hU], by rw [hU]; exact hA.2.2.1.1, va_K.moved hW.alike hK, hA.2.2.1.2.1.weaken (fun _ _ _ _ => trivial), jNs_warm hW hA.1.2.2.2.2.2.2.2.2.2.2.2⟩
set_option maxHeartbeats 1000000 in
theorem snd_callV {j pc j' n idx : Nat} {vd : Bool} {ci N : Nat} {T : u_T} (hc : vwCl[ci]? = some ((tm_y j').cls, T, N)) (hd : decode (tm_c j) pc = .ok (.invokevirtual idx, 3)) (hvd : vd = true ↔ tm_r j' = none) (hj : j' ≠ tm_law) (hy : plainName (tm_y j').cls = true) (hcw : Cond.code (tm_y j') (tm_c j') (tm_l j') (tm_r j') ∈ jgw) (w1 : Cond.methodLink (tm_y j).cls idx (tm_y j') ∈ jgw) (w2 : Cond.instanceMethod (tm_y j') ∈ jgw) (w3 : Cond.selects (tm_y j').cls (tm_y j') (tm_y j') ∈ jgw) (w4 : Cond.initialized (tm_y j').cls ∈ jgw) (hyd : (tm_y j').cls ≠ "java/lang/invoke/MethodHandle" ∧ (tm_y j').cls ≠ "java/lang/invoke/VarHandle" ∧ (parseMethodDescriptor (tm_y j').desc).map (fun d => d.parameters.length) = some n) (hnl : n + 1 ≤ tm_l j') (hR : tm_f j' + 1 ≤ tm_f j ∧ 8 + (tm_l j' + 11) + tm_o j' ≤ tm_o j) : jSnd j pc (o_call (pc + 3) j' (n + 1) (tm_l j') (10 + ci) vd) := by
  refine snd_callG hvd fun l as rest g m res hw hnn hrc hrest p e R s mth args below meth c D tc A ad H locs cells slots lsA ls hA hce hsl => ?_
  have hm := hA.2.2.1.2.2.2
  have hts := hA.1.2.2.2.2.2.1
  have hRR : (jrm j' g res).frames + 1 ≤ R.frames ∧ 8 + (tm_l j' + 11) + (jrm j' g res).locals ≤ R.locals := ⟨Nat.le_trans hR.1 hA.1.2.2.2.2.2.2.2.2.1, Nat.le_trans hR.2 hA.1.2.2.2.2.2.2.2.2.2.1⟩
  have hvs : ∀ v ∈ as, jok g.1.length v := fun v hv => hA.2.2.2.2.2.1 v (List.mem_append_left _ (List.mem_reverse.mpr hv))
  rw [← hnn] at hw
  have hM := jMet (D := D) (tc := tc) (ad := ad) (sz := H.size) hw hj hy hvs (by rw [hnn]; exact hnl) hm
  have hsz : (F0 mth pc lsA ((as.reverse ++ rest).map (jcv ad))).locals.size = tm_l j := hA.2.2.2.1.1.trans hA.2.2.2.2.2.2.1
  have hWr : 2 * (F0 mth pc lsA ((as.reverse ++ rest).map (jcv ad))).monitorRoom + ((rest.map (jcv ad)).map fun v => v.category).sum ≤ 8 := lv_room (by rw [jcat_sum]; exact hrest)
  obtain ⟨a, as', rfl, hs⟩ := jrc_obj (by omega) hrc
  have hst : ((jO (some a) :: as').reverse ++ rest).map (jcv ad) = (as'.map (jcv ad)).reverse ++ .ref (ad a) :: rest.map (jcv ad) := by
    simp [jcv, jO, va_rf]
  exact va_runV (As := (as'.map (jcv ad))) (rest := rest.map (jcv ad)) (C := (tm_y j').cls) (b := ad a) (g := F0 mth pc lsA _) ⟨hA.1.1, hA.1.2.1, hA.1.2.2.2.1, hA.1.2.2.2.2.1, hts⟩ hM ⟨callB_of n hts (jgood_ws hcw) rfl rfl rfl (hts _ w4) (hts _ w1) hyd hRR, hts _ w2, hts _ w3⟩ ⟨jblind, va_recv hA.1.2.2.2.2.2.2.2.2.2.2.1 hA.2.2.1.1 hc (jcw_obj hm hs), fun U hU hW => ⟨rfl, jpre_ok hA U hU hW⟩⟩ rfl (by simpa using hnn) hsz hst hWr hd ⟨hce, hsl⟩
set_option maxHeartbeats 1000000 in
theorem snd_callVN {j pc j' n idx : Nat} {vd : Bool} {host : String} {ci N : Nat} {T : u_T} (hc : vwCl[ci]? = some ((tm_y j').cls, T, N)) (hd : decode (tm_c j) pc = .ok (.invokevirtual idx, 3)) (hvd : vd = true ↔ tm_r j' = none) (hj : j' ≠ tm_law) (hy : plainName (tm_y j').cls = true) (hcw : Cond.code (tm_y j') (tm_c j') (tm_l j') (tm_r j') ∈ jgw) (w1 : Cond.methodLinkNest (tm_y j).cls idx (tm_y j') host ∈ lw_tbl) (w2 : Cond.instanceMethod (tm_y j') ∈ jgw) (w3 : Cond.selects (tm_y j').cls (tm_y j') (tm_y j') ∈ jgw) (w4 : Cond.initialized (tm_y j').cls ∈ jgw) (hyd : (tm_y j').cls ≠ "java/lang/invoke/MethodHandle" ∧ (tm_y j').cls ≠ "java/lang/invoke/VarHandle" ∧ (parseMethodDescriptor (tm_y j').desc).map (fun d => d.parameters.length) = some n) (hnl : n + 1 ≤ tm_l j') (hR : tm_f j' + 1 ≤ tm_f j ∧ 8 + (tm_l j' + 11) + tm_o j' ≤ tm_o j) : jSnd j pc (o_call (pc + 3) j' (n + 1) (tm_l j') (10 + ci) vd) := by
  refine snd_callG hvd fun l as rest g m res hw hnn hrc hrest p e R s mth args below meth c D tc A ad H locs cells slots lsA ls hA hce hsl => ?_
  have hm := hA.2.2.1.2.2.2
  have hts := hA.1.2.2.2.2.2.1
  have hRR : (jrm j' g res).frames + 1 ≤ R.frames ∧ 8 + (tm_l j' + 11) + (jrm j' g res).locals ≤ R.locals := ⟨Nat.le_trans hR.1 hA.1.2.2.2.2.2.2.2.2.1, Nat.le_trans hR.2 hA.1.2.2.2.2.2.2.2.2.2.1⟩
  have hvs : ∀ v ∈ as, jok g.1.length v := fun v hv => hA.2.2.2.2.2.1 v (List.mem_append_left _ (List.mem_reverse.mpr hv))
  rw [← hnn] at hw
  have hM := jMet (D := D) (tc := tc) (ad := ad) (sz := H.size) hw hj hy hvs (by rw [hnn]; exact hnl) hm
  have hsz : (F0 mth pc lsA ((as.reverse ++ rest).map (jcv ad))).locals.size = tm_l j := hA.2.2.2.1.1.trans hA.2.2.2.2.2.2.1
  have hWr : 2 * (F0 mth pc lsA ((as.reverse ++ rest).map (jcv ad))).monitorRoom + ((rest.map (jcv ad)).map fun v => v.category).sum ≤ 8 := lv_room (by rw [jcat_sum]; exact hrest)
  obtain ⟨a, as', rfl, hs⟩ := jrc_obj (by omega) hrc
  have hst : ((jO (some a) :: as').reverse ++ rest).map (jcv ad) = (as'.map (jcv ad)).reverse ++ .ref (ad a) :: rest.map (jcv ad) := by
    simp [jcv, jO, va_rf]
  exact va_runVN (As := (as'.map (jcv ad))) (rest := rest.map (jcv ad)) (C := (tm_y j').cls) (b := ad a) (g := F0 mth pc lsA _) ⟨hA.1.1, hA.1.2.1, hA.1.2.2.2.1, hA.1.2.2.2.2.1, hts⟩ hM ⟨va_cnB n hts (jgood_ws hcw) rfl rfl rfl (hA.1.2.2.2.2.2.2.2.2.2.2.2.1 _ w1 rfl) (hts _ w4) hyd hRR, hts _ w2, hts _ w3⟩ ⟨jblind, va_recv hA.1.2.2.2.2.2.2.2.2.2.2.1 hA.2.2.1.1 hc (jcw_obj hm hs), fun U hU hW => ⟨rfl, jpre_ok hA U hU hW⟩⟩ rfl (by simpa using hnn) hsz hst hWr hd ⟨hce, hsl⟩
set_option maxHeartbeats 1000000 in
theorem snd_callS {j pc j' n idx : Nat} {vd : Bool} (hd : decode (tm_c j) pc = .ok (.invokestatic idx, 3)) (hvd : vd = true ↔ tm_r j' = none) (hj : j' ≠ tm_law) (hy : plainName (tm_y j').cls = true) (hcw : Cond.code (tm_y j') (tm_c j') (tm_l j') (tm_r j') ∈ jgw) (w1 : Cond.methodLink (tm_y j).cls idx (tm_y j') ∈ jgw) (w2 : Cond.static (tm_y j') ∈ jgw) (w4 : Cond.initialized (tm_y j').cls ∈ jgw) (hyd : (tm_y j').cls ≠ "java/lang/invoke/MethodHandle" ∧ (tm_y j').cls ≠ "java/lang/invoke/VarHandle" ∧ (parseMethodDescriptor (tm_y j').desc).map (fun d => d.parameters.length) = some n) (hnl : n ≤ tm_l j') (hR : tm_f j' + 1 ≤ tm_f j ∧ 8 + (tm_l j' + 11) + tm_o j' ≤ tm_o j) : jSnd j pc (o_call (pc + 3) j' (n) (tm_l j') (0) vd) := by
  refine snd_callG hvd fun l as rest g m res hw hnn hrc hrest p e R s mth args below meth c D tc A ad H locs cells slots lsA ls hA hce hsl => ?_
  have hm := hA.2.2.1.2.2.2
  have hts := hA.1.2.2.2.2.2.1
  have hRR : (jrm j' g res).frames + 1 ≤ R.frames ∧ 8 + (tm_l j' + 11) + (jrm j' g res).locals ≤ R.locals := ⟨Nat.le_trans hR.1 hA.1.2.2.2.2.2.2.2.2.1, Nat.le_trans hR.2 hA.1.2.2.2.2.2.2.2.2.2.1⟩
  have hvs : ∀ v ∈ as, jok g.1.length v := fun v hv => hA.2.2.2.2.2.1 v (List.mem_append_left _ (List.mem_reverse.mpr hv))
  rw [← hnn] at hw
  have hM := jMet (D := D) (tc := tc) (ad := ad) (sz := H.size) hw hj hy hvs (by rw [hnn]; exact hnl) hm
  have hsz : (F0 mth pc lsA ((as.reverse ++ rest).map (jcv ad))).locals.size = tm_l j := hA.2.2.2.1.1.trans hA.2.2.2.2.2.2.1
  have hWr : 2 * (F0 mth pc lsA ((as.reverse ++ rest).map (jcv ad))).monitorRoom + ((rest.map (jcv ad)).map fun v => v.category).sum ≤ 8 := lv_room (by rw [jcat_sum]; exact hrest)
  have hst : (as.reverse ++ rest).map (jcv ad) = (as.map (jcv ad)).reverse ++ rest.map (jcv ad) := by simp
  exact va_runS (As := (as.map (jcv ad))) (rest := rest.map (jcv ad)) (g := F0 mth pc lsA _) ⟨hA.1.1, hA.1.2.1, hA.1.2.2.2.1, hA.1.2.2.2.2.1, hts⟩ hM ⟨callB_of n hts (jgood_ws hcw) rfl rfl rfl (hts _ w4) (hts _ w1) hyd hRR, hts _ w2⟩ ⟨jblind, fun U hU hW => ⟨rfl, jpre_ok hA U hU hW⟩⟩ rfl (by simpa using hnn) hsz hst hWr hd ⟨hce, hsl⟩
set_option maxHeartbeats 1000000 in
theorem snd_callSN {j pc j' n idx : Nat} {vd : Bool} {host : String} (hd : decode (tm_c j) pc = .ok (.invokestatic idx, 3)) (hvd : vd = true ↔ tm_r j' = none) (hj : j' ≠ tm_law) (hy : plainName (tm_y j').cls = true) (hcw : Cond.code (tm_y j') (tm_c j') (tm_l j') (tm_r j') ∈ jgw) (w1 : Cond.methodLinkNest (tm_y j).cls idx (tm_y j') host ∈ lw_tbl) (w2 : Cond.static (tm_y j') ∈ jgw) (w4 : Cond.initialized (tm_y j').cls ∈ jgw) (hyd : (tm_y j').cls ≠ "java/lang/invoke/MethodHandle" ∧ (tm_y j').cls ≠ "java/lang/invoke/VarHandle" ∧ (parseMethodDescriptor (tm_y j').desc).map (fun d => d.parameters.length) = some n) (hnl : n ≤ tm_l j') (hR : tm_f j' + 1 ≤ tm_f j ∧ 8 + (tm_l j' + 11) + tm_o j' ≤ tm_o j) : jSnd j pc (o_call (pc + 3) j' (n) (tm_l j') (0) vd) := by
  refine snd_callG hvd fun l as rest g m res hw hnn hrc hrest p e R s mth args below meth c D tc A ad H locs cells slots lsA ls hA hce hsl => ?_
  have hm := hA.2.2.1.2.2.2
  have hts := hA.1.2.2.2.2.2.1
  have hRR : (jrm j' g res).frames + 1 ≤ R.frames ∧ 8 + (tm_l j' + 11) + (jrm j' g res).locals ≤ R.locals := ⟨Nat.le_trans hR.1 hA.1.2.2.2.2.2.2.2.2.1, Nat.le_trans hR.2 hA.1.2.2.2.2.2.2.2.2.2.1⟩
  have hvs : ∀ v ∈ as, jok g.1.length v := fun v hv => hA.2.2.2.2.2.1 v (List.mem_append_left _ (List.mem_reverse.mpr hv))
  rw [← hnn] at hw
  have hM := jMet (D := D) (tc := tc) (ad := ad) (sz := H.size) hw hj hy hvs (by rw [hnn]; exact hnl) hm
  have hsz : (F0 mth pc lsA ((as.reverse ++ rest).map (jcv ad))).locals.size = tm_l j := hA.2.2.2.1.1.trans hA.2.2.2.2.2.2.1
  have hWr : 2 * (F0 mth pc lsA ((as.reverse ++ rest).map (jcv ad))).monitorRoom + ((rest.map (jcv ad)).map fun v => v.category).sum ≤ 8 := lv_room (by rw [jcat_sum]; exact hrest)
  have hst : (as.reverse ++ rest).map (jcv ad) = (as.map (jcv ad)).reverse ++ rest.map (jcv ad) := by simp
  exact va_runSN (As := (as.map (jcv ad))) (rest := rest.map (jcv ad)) (g := F0 mth pc lsA _) ⟨hA.1.1, hA.1.2.1, hA.1.2.2.2.1, hA.1.2.2.2.2.1, hts⟩ hM ⟨va_cnB n hts (jgood_ws hcw) rfl rfl rfl (hA.1.2.2.2.2.2.2.2.2.2.2.2.1 _ w1 rfl) (hts _ w4) hyd hRR, hts _ w2, trivial⟩ ⟨jblind, fun U hU hW => ⟨rfl, jpre_ok hA U hU hW⟩⟩ rfl (by simpa using hnn) hsz hst hWr hd ⟨hce, hsl⟩
set_option maxHeartbeats 1000000 in
theorem snd_callI {j pc j' n idx : Nat} {vd : Bool} {ci N : Nat} {T : u_T} (hc : vwCl[ci]? = some ((tm_y j').cls, T, N)) (hd : decode (tm_c j) pc = .ok (.invokespecial idx, 3)) (hvd : vd = true ↔ tm_r j' = none) (hj : j' ≠ tm_law) (hy : plainName (tm_y j').cls = true) (hcw : Cond.code (tm_y j') (tm_c j') (tm_l j') (tm_r j') ∈ jgw) (w1 : Cond.methodLink (tm_y j).cls idx (tm_y j') ∈ jgw) (w2 : Cond.instanceMethod (tm_y j') ∈ jgw) (w3 : (tm_y j').name = "<init>") (w5 : tm_r j' = none) (w4 : Cond.initialized (tm_y j').cls ∈ jgw) (hyd : (tm_y j').cls ≠ "java/lang/invoke/MethodHandle" ∧ (tm_y j').cls ≠ "java/lang/invoke/VarHandle" ∧ (parseMethodDescriptor (tm_y j').desc).map (fun d => d.parameters.length) = some n) (hnl : n + 1 ≤ tm_l j') (hR : tm_f j' + 1 ≤ tm_f j ∧ 8 + (tm_l j' + 11) + tm_o j' ≤ tm_o j) : jSnd j pc (o_call (pc + 3) j' (n + 1) (tm_l j') (10 + ci) vd) := by
  refine snd_callG hvd fun l as rest g m res hw hnn hrc hrest p e R s mth args below meth c D tc A ad H locs cells slots lsA ls hA hce hsl => ?_
  have hm := hA.2.2.1.2.2.2
  have hts := hA.1.2.2.2.2.2.1
  have hRR : (jrm j' g res).frames + 1 ≤ R.frames ∧ 8 + (tm_l j' + 11) + (jrm j' g res).locals ≤ R.locals := ⟨Nat.le_trans hR.1 hA.1.2.2.2.2.2.2.2.2.1, Nat.le_trans hR.2 hA.1.2.2.2.2.2.2.2.2.2.1⟩
  have hvs : ∀ v ∈ as, jok g.1.length v := fun v hv => hA.2.2.2.2.2.1 v (List.mem_append_left _ (List.mem_reverse.mpr hv))
  rw [← hnn] at hw
  have hM := jMet (D := D) (tc := tc) (ad := ad) (sz := H.size) hw hj hy hvs (by rw [hnn]; exact hnl) hm
  have hsz : (F0 mth pc lsA ((as.reverse ++ rest).map (jcv ad))).locals.size = tm_l j := hA.2.2.2.1.1.trans hA.2.2.2.2.2.2.1
  have hWr : 2 * (F0 mth pc lsA ((as.reverse ++ rest).map (jcv ad))).monitorRoom + ((rest.map (jcv ad)).map fun v => v.category).sum ≤ 8 := lv_room (by rw [jcat_sum]; exact hrest)
  obtain ⟨a, as', rfl, hs⟩ := jrc_obj (by omega) hrc
  have hst : ((jO (some a) :: as').reverse ++ rest).map (jcv ad) = (as'.map (jcv ad)).reverse ++ .ref (ad a) :: rest.map (jcv ad) := by
    simp [jcv, jO, va_rf]
  have hcw2 : jws j' = Cond.code (tm_y j') (tm_c j') (tm_l j') none :: jgw := by unfold jws; rw [w5]
  exact va_runI (As := (as'.map (jcv ad))) (rest := rest.map (jcv ad)) (b := ad a) (g := F0 mth pc lsA _) ⟨hA.1.1, hA.1.2.1, hA.1.2.2.2.1, hA.1.2.2.2.2.1, hts⟩ hM ⟨callB_of n hts (jgood_ws hcw) hcw2 rfl rfl (hts _ w4) (hts _ w1) hyd hRR, w3, hts _ w2⟩ ⟨jblind, fun U hU hW => ⟨rfl, jpre_ok hA U hU hW⟩⟩ rfl (by simpa using hnn) hsz hst hWr hd ⟨hce, hsl⟩
set_option maxHeartbeats 1000000 in
theorem snd_callIN {j pc j' n idx : Nat} {vd : Bool} {host : String} {ci N : Nat} {T : u_T} (hc : vwCl[ci]? = some ((tm_y j').cls, T, N)) (hd : decode (tm_c j) pc = .ok (.invokespecial idx, 3)) (hvd : vd = true ↔ tm_r j' = none) (hj : j' ≠ tm_law) (hy : plainName (tm_y j').cls = true) (hcw : Cond.code (tm_y j') (tm_c j') (tm_l j') (tm_r j') ∈ jgw) (w1 : Cond.methodLinkNest (tm_y j).cls idx (tm_y j') host ∈ lw_tbl) (w2 : Cond.instanceMethod (tm_y j') ∈ jgw) (w3 : (tm_y j').name = "<init>") (w5 : tm_r j' = none) (w4 : Cond.initialized (tm_y j').cls ∈ jgw) (hyd : (tm_y j').cls ≠ "java/lang/invoke/MethodHandle" ∧ (tm_y j').cls ≠ "java/lang/invoke/VarHandle" ∧ (parseMethodDescriptor (tm_y j').desc).map (fun d => d.parameters.length) = some n) (hnl : n + 1 ≤ tm_l j') (hR : tm_f j' + 1 ≤ tm_f j ∧ 8 + (tm_l j' + 11) + tm_o j' ≤ tm_o j) : jSnd j pc (o_call (pc + 3) j' (n + 1) (tm_l j') (10 + ci) vd) := by
  refine snd_callG hvd fun l as rest g m res hw hnn hrc hrest p e R s mth args below meth c D tc A ad H locs cells slots lsA ls hA hce hsl => ?_
  have hm := hA.2.2.1.2.2.2
  have hts := hA.1.2.2.2.2.2.1
  have hRR : (jrm j' g res).frames + 1 ≤ R.frames ∧ 8 + (tm_l j' + 11) + (jrm j' g res).locals ≤ R.locals := ⟨Nat.le_trans hR.1 hA.1.2.2.2.2.2.2.2.2.1, Nat.le_trans hR.2 hA.1.2.2.2.2.2.2.2.2.2.1⟩
  have hvs : ∀ v ∈ as, jok g.1.length v := fun v hv => hA.2.2.2.2.2.1 v (List.mem_append_left _ (List.mem_reverse.mpr hv))
  rw [← hnn] at hw
  have hM := jMet (D := D) (tc := tc) (ad := ad) (sz := H.size) hw hj hy hvs (by rw [hnn]; exact hnl) hm
  have hsz : (F0 mth pc lsA ((as.reverse ++ rest).map (jcv ad))).locals.size = tm_l j := hA.2.2.2.1.1.trans hA.2.2.2.2.2.2.1
  have hWr : 2 * (F0 mth pc lsA ((as.reverse ++ rest).map (jcv ad))).monitorRoom + ((rest.map (jcv ad)).map fun v => v.category).sum ≤ 8 := lv_room (by rw [jcat_sum]; exact hrest)
  obtain ⟨a, as', rfl, hs⟩ := jrc_obj (by omega) hrc
  have hst : ((jO (some a) :: as').reverse ++ rest).map (jcv ad) = (as'.map (jcv ad)).reverse ++ .ref (ad a) :: rest.map (jcv ad) := by
    simp [jcv, jO, va_rf]
  have hcw2 : jws j' = Cond.code (tm_y j') (tm_c j') (tm_l j') none :: jgw := by unfold jws; rw [w5]
  exact va_runIN (As := (as'.map (jcv ad))) (rest := rest.map (jcv ad)) (b := ad a) (g := F0 mth pc lsA _) ⟨hA.1.1, hA.1.2.1, hA.1.2.2.2.1, hA.1.2.2.2.2.1, hts⟩ hM ⟨va_cnB n hts (jgood_ws hcw) hcw2 rfl rfl (hA.1.2.2.2.2.2.2.2.2.2.2.2.1 _ w1 rfl) (hts _ w4) hyd hRR, w3, hts _ w2⟩ ⟨jblind, fun U hU hW => ⟨rfl, jpre_ok hA U hU hW⟩⟩ rfl (by simpa using hnn) hsz hst hWr hd ⟨hce, hsl⟩
def jAll (j : Nat) : Nat → List jOp → Prop
  | _, [] => True
  | k, o :: l => jSnd j k o ∧ jAll j (k + 1) l
end
section
def tmp_L_law : List jOp := [o_new 3 13 4, jbad, jbad, o_dup 4, o_call 7 1 1 2 13 true, jbad, jbad, o_astore 8 1, o_new 11 14 31, jbad, jbad, o_dup 12, o_call 15 33 1 1 14 true, jbad, jbad, o_astore 16 2, o_push 17 (0), o_istore 18 3, o_iload 19 3, o_aload 20 0, o_slen 21, o_push 23 (6), jbad, o_bin 24 f_sub, o_ic_gt 27 820, jbad, jbad, o_aload 28 0, o_iload 29 3, o_sald 30, o_push 32 (31), jbad, o_bin 33 f_and, o_switch 814 [(0, 120), (1, 163), (2, 196), (3, 259), (4, 302), (5, 345), (6, 378), (7, 411), (8, 444), (9, 477), (10, 510), (11, 543), (12, 586), (13, 629), (14, 672), (15, 715), (16, 748), (17, 781)], jbad, jbad, jbad, jbad, jbad, jbad, jbad, jbad, jbad, jbad, jbad, jbad, jbad, jbad, jbad, jbad, jbad, jbad, jbad, jbad, jbad, jbad, jbad, jbad, jbad, jbad, jbad, jbad, jbad, jbad, jbad, jbad, jbad, jbad, jbad, jbad, jbad, jbad, jbad, jbad, jbad, jbad, jbad, jbad, jbad, jbad, jbad, jbad, jbad, jbad, jbad, jbad, jbad, jbad, jbad, jbad, jbad, jbad, jbad, jbad, jbad, jbad, jbad, jbad, jbad, jbad, jbad, jbad, jbad, jbad, jbad, jbad, jbad, jbad, jbad, jbad, jbad, jbad, jbad, jbad, jbad, jbad, jbad, jbad, jbad, jbad, o_aload 121 1, o_aload 122 0, o_iload 123 3, o_push 124 (1), o_bin 125 f_add, o_sald 126, o_aload 127 0, o_iload 128 3, o_push 129 (2), o_bin 130 f_add, o_sald 131, o_aload 132 0, o_iload 133 3, o_push 134 (3), o_bin 135 f_add, o_sald 136, o_call 139 2 4 4 13 false, jbad, jbad, o_aload 140 2, o_aload 141 0, o_iload 142 3, o_push 143 (1), o_bin 144 f_add, o_sald 145, o_aload 146 0, o_iload 147 3, o_push 148 (2), o_bin 149 f_add, o_sald 150, o_aload 151 0, o_iload 152 3, o_push 153 (3), o_bin 154 f_add, o_sald 155, o_call 158 47 4 4 14 false, jbad, jbad, o_ic_eq 161 814, jbad, jbad, o_push 162 (0), o_zret, o_aload 164 1, o_aload 165 0, o_iload 166 3, o_push 167 (1), o_bin 168 f_add, o_sald 169, o_aload 170 0, o_iload 171 3, o_push 172 (2), o_bin 173 f_add, o_sald 174, o_call 177 3 3 3 13 false, jbad, jbad, o_aload 178 2, o_aload 179 0, o_iload 180 3, o_push 181 (1), o_bin 182 f_add, o_sald 183, o_aload 184 0, o_iload 185 3, o_push 186 (2), o_bin 187 f_add, o_sald 188, o_call 191 48 3 3 14 false, jbad, jbad, o_ic_eq 194 814, jbad, jbad, o_push 195 (0), o_zret, o_aload 197 1, o_aload 198 0, o_iload 199 3, o_push 200 (1), o_bin 201 f_add, o_sald 202, o_aload 203 0, o_iload 204 3, o_push 205 (2), o_bin 206 f_add, o_sald 207, o_aload 208 0, o_iload 209 3, o_push 210 (3), o_bin 211 f_add, o_sald 212, o_aload 213 0, o_iload 214 3, o_push 215 (4), o_bin 216 f_add, o_sald 217, o_aload 218 0, o_iload 219 3, o_push 220 (5), o_bin 221 f_add, o_sald 222, o_call 225 4 6 7 13 false, jbad, jbad, o_aload 226 2, o_aload 227 0, o_iload 228 3, o_push 229 (1), o_bin 230 f_add, o_sald 231, o_aload 232 0, o_iload 233 3, o_push 234 (2), o_bin 235 f_add, o_sald 236, o_aload 237 0, o_iload 238 3, o_push 239 (3), o_bin 240 f_add, o_sald 241, o_aload 242 0, o_iload 243 3, o_push 244 (4), o_bin 245 f_add, o_sald 246, o_aload 247 0, o_iload 248 3, o_push 249 (5), o_bin 250 f_add, o_sald 251, o_call 254 49 6 7 14 false, jbad, jbad, o_ic_eq 257 814, jbad, jbad, o_push 258 (0), o_zret, o_aload 260 1, o_aload 261 0, o_iload 262 3, o_push 263 (1), o_bin 264 f_add, o_sald 265, o_aload 266 0, o_iload 267 3, o_push 268 (2), o_bin 269 f_add, o_sald 270, o_aload 271 0, o_iload 272 3, o_push 273 (3), o_bin 274 f_add, o_sald 275, o_call 278 5 4 4 13 false, jbad, jbad, o_aload 279 2, o_aload 280 0, o_iload 281 3, o_push 282 (1), o_bin 283 f_add, o_sald 284, o_aload 285 0, o_iload 286 3, o_push 287 (2), o_bin 288 f_add, o_sald 289, o_aload 290 0, o_iload 291 3, o_push 292 (3), o_bin 293 f_add, o_sald 294, o_call 297 50 4 4 14 false, jbad, jbad, o_ic_eq 300 814, jbad, jbad, o_push 301 (0), o_zret, o_aload 303 1, o_aload 304 0, o_iload 305 3, o_push 306 (1), o_bin 307 f_add, o_sald 308, o_aload 309 0, o_iload 310 3, o_push 311 (2), o_bin 312 f_add, o_sald 313, o_aload 314 0, o_iload 315 3, o_push 316 (3), o_bin 317 f_add, o_sald 318, o_call 321 6 4 5 13 false, jbad, jbad, o_aload 322 2, o_aload 323 0, o_iload 324 3, o_push 325 (1), o_bin 326 f_add, o_sald 327, o_aload 328 0, o_iload 329 3, o_push 330 (2), o_bin 331 f_add, o_sald 332, o_aload 333 0, o_iload 334 3, o_push 335 (3), o_bin 336 f_add, o_sald 337, o_call 340 52 4 5 14 false, jbad, jbad, o_ic_eq 343 814, jbad, jbad, o_push 344 (0), o_zret, o_aload 346 1, o_aload 347 0, o_iload 348 3, o_push 349 (1), o_bin 350 f_add, o_sald 351, o_aload 352 0, o_iload 353 3, o_push 354 (2), o_bin 355 f_add, o_sald 356, o_call 359 7 3 3 13 false, jbad, jbad, o_aload 360 2, o_aload 361 0, o_iload 362 3, o_push 363 (1), o_bin 364 f_add, o_sald 365, o_aload 366 0, o_iload 367 3, o_push 368 (2), o_bin 369 f_add, o_sald 370, o_call 373 53 3 3 14 false, jbad, jbad, o_ic_eq 376 814, jbad, jbad, o_push 377 (0), o_zret, o_aload 379 1, o_aload 380 0, o_iload 381 3, o_push 382 (1), o_bin 383 f_add, o_sald 384, o_aload 385 0, o_iload 386 3, o_push 387 (2), o_bin 388 f_add, o_sald 389, o_call 392 8 3 4 13 false, jbad, jbad, o_aload 393 2, o_aload 394 0, o_iload 395 3, o_push 396 (1), o_bin 397 f_add, o_sald 398, o_aload 399 0, o_iload 400 3, o_push 401 (2), o_bin 402 f_add, o_sald 403, o_call 406 55 3 3 14 false, jbad, jbad, o_ic_eq 409 814, jbad, jbad, o_push 410 (0), o_zret, o_aload 412 1, o_aload 413 0, o_iload 414 3, o_push 415 (1), o_bin 416 f_add, o_sald 417, o_aload 418 0, o_iload 419 3, o_push 420 (2), o_bin 421 f_add, o_sald 422, o_call 425 9 3 7 13 false, jbad, jbad, o_aload 426 2, o_aload 427 0, o_iload 428 3, o_push 429 (1), o_bin 430 f_add, o_sald 431, o_aload 432 0, o_iload 433 3, o_push 434 (2), o_bin 435 f_add, o_sald 436, o_call 439 56 3 5 14 false, jbad, jbad, o_ic_eq 442 814, jbad, jbad, o_push 443 (0), o_zret, o_aload 445 1, o_aload 446 0, o_iload 447 3, o_push 448 (1), o_bin 449 f_add, o_sald 450, o_aload 451 0, o_iload 452 3, o_push 453 (2), o_bin 454 f_add, o_sald 455, o_call 458 10 3 3 13 false, jbad, jbad, o_aload 459 2, o_aload 460 0, o_iload 461 3, o_push 462 (1), o_bin 463 f_add, o_sald 464, o_aload 465 0, o_iload 466 3, o_push 467 (2), o_bin 468 f_add, o_sald 469, o_call 472 58 3 3 14 false, jbad, jbad, o_ic_eq 475 814, jbad, jbad, o_push 476 (0), o_zret, o_aload 478 1, o_aload 479 0, o_iload 480 3, o_push 481 (1), o_bin 482 f_add, o_sald 483, o_aload 484 0, o_iload 485 3, o_push 486 (2), o_bin 487 f_add, o_sald 488, o_call 491 11 3 3 13 false, jbad, jbad, o_aload 492 2, o_aload 493 0, o_iload 494 3, o_push 495 (1), o_bin 496 f_add, o_sald 497, o_aload 498 0, o_iload 499 3, o_push 500 (2), o_bin 501 f_add, o_sald 502, o_call 505 59 3 3 14 false, jbad, jbad, o_ic_eq 508 814, jbad, jbad, o_push 509 (0), o_zret, o_aload 511 1, o_aload 512 0, o_iload 513 3, o_push 514 (1), o_bin 515 f_add, o_sald 516, o_aload 517 0, o_iload 518 3, o_push 519 (2), o_bin 520 f_add, o_sald 521, o_call 524 12 3 3 13 false, jbad, jbad, o_aload 525 2, o_aload 526 0, o_iload 527 3, o_push 528 (1), o_bin 529 f_add, o_sald 530, o_aload 531 0, o_iload 532 3, o_push 533 (2), o_bin 534 f_add, o_sald 535, o_call 538 60 3 7 14 false, jbad, jbad, o_ic_eq 541 814, jbad, jbad, o_push 542 (0), o_zret, o_aload 544 1, o_aload 545 0, o_iload 546 3, o_push 547 (1), o_bin 548 f_add, o_sald 549, o_aload 550 0, o_iload 551 3, o_push 552 (2), o_bin 553 f_add, o_sald 554, o_aload 555 0, o_iload 556 3, o_push 557 (3), o_bin 558 f_add, o_sald 559, o_call 562 13 4 4 13 false, jbad, jbad, o_aload 563 2, o_aload 564 0, o_iload 565 3, o_push 566 (1), o_bin 567 f_add, o_sald 568, o_aload 569 0, o_iload 570 3, o_push 571 (2), o_bin 572 f_add, o_sald 573, o_aload 574 0, o_iload 575 3, o_push 576 (3), o_bin 577 f_add, o_sald 578, o_call 581 61 4 4 14 false, jbad, jbad, o_ic_eq 584 814, jbad, jbad, o_push 585 (0), o_zret, o_aload 587 1, o_aload 588 0, o_iload 589 3, o_push 590 (1), o_bin 591 f_add, o_sald 592, o_aload 593 0, o_iload 594 3, o_push 595 (2), o_bin 596 f_add, o_sald 597, o_aload 598 0, o_iload 599 3, o_push 600 (3), o_bin 601 f_add, o_sald 602, o_call 605 14 4 5 13 false, jbad, jbad, o_aload 606 2, o_aload 607 0, o_iload 608 3, o_push 609 (1), o_bin 610 f_add, o_sald 611, o_aload 612 0, o_iload 613 3, o_push 614 (2), o_bin 615 f_add, o_sald 616, o_aload 617 0, o_iload 618 3, o_push 619 (3), o_bin 620 f_add, o_sald 621, o_call 624 64 4 4 14 false, jbad, jbad, o_ic_eq 627 814, jbad, jbad, o_push 628 (0), o_zret, o_aload 630 1, o_aload 631 0, o_iload 632 3, o_push 633 (1), o_bin 634 f_add, o_sald 635, o_aload 636 0, o_iload 637 3, o_push 638 (2), o_bin 639 f_add, o_sald 640, o_aload 641 0, o_iload 642 3, o_push 643 (3), o_bin 644 f_add, o_sald 645, o_call 648 15 4 4 13 false, jbad, jbad, o_aload 649 2, o_aload 650 0, o_iload 651 3, o_push 652 (1), o_bin 653 f_add, o_sald 654, o_aload 655 0, o_iload 656 3, o_push 657 (2), o_bin 658 f_add, o_sald 659, o_aload 660 0, o_iload 661 3, o_push 662 (3), o_bin 663 f_add, o_sald 664, o_call 667 66 4 4 14 false, jbad, jbad, o_ic_eq 670 814, jbad, jbad, o_push 671 (0), o_zret, o_aload 673 1, o_aload 674 0, o_iload 675 3, o_push 676 (1), o_bin 677 f_add, o_sald 678, o_aload 679 0, o_iload 680 3, o_push 681 (2), o_bin 682 f_add, o_sald 683, o_aload 684 0, o_iload 685 3, o_push 686 (3), o_bin 687 f_add, o_sald 688, o_call 691 16 4 5 13 false, jbad, jbad, o_aload 692 2, o_aload 693 0, o_iload 694 3, o_push 695 (1), o_bin 696 f_add, o_sald 697, o_aload 698 0, o_iload 699 3, o_push 700 (2), o_bin 701 f_add, o_sald 702, o_aload 703 0, o_iload 704 3, o_push 705 (3), o_bin 706 f_add, o_sald 707, o_call 710 69 4 6 14 false, jbad, jbad, o_ic_eq 713 814, jbad, jbad, o_push 714 (0), o_zret, o_aload 716 1, o_aload 717 0, o_iload 718 3, o_push 719 (1), o_bin 720 f_add, o_sald 721, o_aload 722 0, o_iload 723 3, o_push 724 (2), o_bin 725 f_add, o_sald 726, o_call 729 17 3 3 13 false, jbad, jbad, o_aload 730 2, o_aload 731 0, o_iload 732 3, o_push 733 (1), o_bin 734 f_add, o_sald 735, o_aload 736 0, o_iload 737 3, o_push 738 (2), o_bin 739 f_add, o_sald 740, o_call 743 70 3 3 14 false, jbad, jbad, o_ic_eq 746 814, jbad, jbad, o_push 747 (0), o_zret, o_aload 749 1, o_aload 750 0, o_iload 751 3, o_push 752 (1), o_bin 753 f_add, o_sald 754, o_aload 755 0, o_iload 756 3, o_push 757 (2), o_bin 758 f_add, o_sald 759, o_call 762 18 3 5 13 false, jbad, jbad, o_aload 763 2, o_aload 764 0, o_iload 765 3, o_push 766 (1), o_bin 767 f_add, o_sald 768, o_aload 769 0, o_iload 770 3, o_push 771 (2), o_bin 772 f_add, o_sald 773, o_call 776 74 3 5 14 false, jbad, jbad, o_ic_eq 779 814, jbad, jbad, o_push 780 (0), o_zret, o_aload 782 1, o_aload 783 0, o_iload 784 3, o_push 785 (1), o_bin 786 f_add, o_sald 787, o_aload 788 0, o_iload 789 3, o_push 790 (2), o_bin 791 f_add, o_sald 792, o_call 795 19 3 4 13 false, jbad, jbad, o_aload 796 2, o_aload 797 0, o_iload 798 3, o_push 799 (1), o_bin 800 f_add, o_sald 801, o_aload 802 0, o_iload 803 3, o_push 804 (2), o_bin 805 f_add, o_sald 806, o_call 809 77 3 3 14 false, jbad, jbad, o_ic_eq 812 814, jbad, jbad, o_push 813 (0), o_zret, o_iinc 817 3 (6), jbad, jbad, o_goto 18, jbad, jbad, o_push 821 (1), o_zret]
def tmp_T_init : List jOp := [o_aload 1 0, o_objinit 4, jbad, jbad, o_aload 5 0, o_new 8 11 6, jbad, jbad, o_dup 9, o_call 12 83 1 1 11 true, jbad, jbad, o_putR 15 13 (0), jbad, jbad, o_aload 16 0, o_push 17 (4), o_newa 20 3, jbad, jbad, o_putR 23 13 (1), jbad, jbad, o_push 24 (0), o_istore 25 1, o_iload 26 1, o_push 27 (4), o_ic_ge 30 49, jbad, jbad, o_aload 31 0, o_getR 34 13 (1), jbad, jbad, o_iload 35 1, o_new 38 10 3, jbad, jbad, o_dup 39, o_call 42 78 1 1 10 true, jbad, jbad, o_aast 43 3 10, o_iinc 46 1 (1), jbad, jbad, o_goto 25, jbad, jbad, o_aload 50 0, o_new 53 12 8, jbad, jbad, o_dup 54, o_call 57 96 1 1 12 true, jbad, jbad, o_putR 60 13 (2), jbad, jbad, o_aload 61 0, o_new 64 12 8, jbad, jbad, o_dup 65, o_call 68 96 1 1 12 true, jbad, jbad, o_putR 71 13 (3), jbad, jbad, o_vret]
def tmp_T_insert : List jOp := [o_iload 1 3, o_call 4 21 1 1 0 false, jbad, jbad, o_if_eq 7 30, jbad, jbad, o_aload 8 0, o_iload 9 1, o_call 12 24 2 3 13 false, jbad, jbad, o_if_eq 15 30, jbad, jbad, o_iload 16 2, o_if_lt 19 30, jbad, jbad, o_iload 20 2, o_aload 21 0, o_getR 24 13 (2), jbad, jbad, o_call 27 100 1 1 12 false, jbad, jbad, o_ic_le 30 32, jbad, jbad, o_push 31 (-1), o_iret, o_aload 33 0, o_iload 34 1, o_push 35 (0), o_iload 36 3, o_push 37 (0), o_aload 38 0, o_getR 41 13 (2), jbad, jbad, o_iload 42 2, o_push 43 (1), o_bin 44 f_sub, o_call 47 104 2 2 12 false, jbad, jbad, o_push 48 (0), o_call 51 25 7 10 13 false, jbad, jbad, o_iret]
def tmp_T_delete : List jOp := [o_aload 1 0, o_iload 2 1, o_call 5 24 2 3 13 false, jbad, jbad, o_if_eq 8 19, jbad, jbad, o_aload 9 0, o_getR 12 13 (2), jbad, jbad, o_iload 13 2, o_call 16 102 2 2 12 false, jbad, jbad, o_if_ne 19 21, jbad, jbad, o_push 20 (-1), o_iret, o_aload 22 0, o_iload 23 1, o_push 24 (1), o_push 25 (0), o_push 26 (0), o_aload 27 0, o_getR 30 13 (2), jbad, jbad, o_iload 31 2, o_call 34 104 2 2 12 false, jbad, jbad, o_push 35 (0), o_call 38 25 7 10 13 false, jbad, jbad, o_iret]
def tmp_T_style : List jOp := [o_iload 2 4, jbad, o_call 5 22 1 1 0 false, jbad, jbad, o_if_eq 8 20, jbad, jbad, o_iload 10 5, jbad, o_if_lt 13 20, jbad, jbad, o_iload 15 5, jbad, o_push 17 (9), jbad, o_ic_le 20 22, jbad, jbad, o_push 21 (-1), o_iret, o_aload 23 0, o_iload 24 1, o_call 27 24 2 3 13 false, jbad, jbad, o_if_eq 30 42, jbad, jbad, o_aload 31 0, o_getR 34 13 (2), jbad, jbad, o_iload 35 2, o_iload 36 3, o_call 39 103 3 3 12 false, jbad, jbad, o_if_ne 42 44, jbad, jbad, o_push 43 (-1), o_iret, o_iload 46 4, jbad, o_call 49 23 1 1 0 false, jbad, jbad, o_if_eq 52 63, jbad, jbad, o_aload 53 0, o_getR 56 13 (2), jbad, jbad, o_iload 57 3, o_call 60 104 2 2 12 false, jbad, jbad, o_goto 73, jbad, jbad, o_aload 64 0, o_getR 67 13 (2), jbad, jbad, o_iload 68 3, o_push 69 (1), o_bin 70 f_sub, o_call 73 104 2 2 12 false, jbad, jbad, o_istore 75 6, jbad, o_aload 76 0, o_iload 77 1, o_push 78 (2), o_iload 80 4, jbad, o_iload 82 5, jbad, o_aload 83 0, o_getR 86 13 (2), jbad, jbad, o_iload 87 2, o_call 90 104 2 2 12 false, jbad, jbad, o_iload 92 6, jbad, o_call 95 25 7 10 13 false, jbad, jbad, o_iret]
def tmp_T_comment : List jOp := [o_aload 1 0, o_iload 2 1, o_call 5 24 2 3 13 false, jbad, jbad, o_if_eq 8 20, jbad, jbad, o_aload 9 0, o_getR 12 13 (2), jbad, jbad, o_iload 13 2, o_iload 14 3, o_call 17 103 3 3 12 false, jbad, jbad, o_if_ne 20 22, jbad, jbad, o_push 21 (-1), o_iret, o_aload 23 0, o_iload 24 1, o_push 25 (3), o_push 26 (0), o_push 27 (0), o_aload 28 0, o_getR 31 13 (2), jbad, jbad, o_iload 32 2, o_call 35 104 2 2 12 false, jbad, jbad, o_aload 36 0, o_getR 39 13 (2), jbad, jbad, o_iload 40 3, o_push 41 (1), o_bin 42 f_sub, o_call 45 104 2 2 12 false, jbad, jbad, o_call 48 25 7 10 13 false, jbad, jbad, o_iret]
def tmp_T_block : List jOp := [o_iload 1 3, o_if_lt 4 18, jbad, jbad, o_iload 5 3, o_push 7 (9), jbad, o_ic_gt 10 18, jbad, jbad, o_aload 11 0, o_iload 12 1, o_call 15 24 2 3 13 false, jbad, jbad, o_if_ne 18 20, jbad, jbad, o_push 19 (-1), o_iret, o_aload 21 0, o_getR 24 13 (2), jbad, jbad, o_iload 25 2, o_call 28 121 2 4 12 false, jbad, jbad, o_istore 30 4, jbad, o_iload 32 4, jbad, o_push 33 (-1), o_ic_ne 36 40, jbad, jbad, o_push 37 (-1), o_goto 60, jbad, jbad, o_aload 41 0, o_iload 42 1, o_push 43 (4), o_iload 44 3, o_push 45 (0), o_aload 46 0, o_getR 49 13 (2), jbad, jbad, o_iload 51 4, jbad, o_push 52 (1), o_bin 53 f_sub, o_call 56 104 2 2 12 false, jbad, jbad, o_push 57 (0), o_call 60 25 7 10 13 false, jbad, jbad, o_iret]
def tmp_T_undo : List jOp := [o_aload 1 0, o_getR 4 13 (0), jbad, jbad, o_iload 5 2, o_call 8 85 2 2 11 false, jbad, jbad, o_if_eq 11 24, jbad, jbad, o_aload 12 0, o_getR 15 13 (0), jbad, jbad, o_iload 16 2, o_push 17 (1), o_call 20 86 3 3 11 false, jbad, jbad, o_iload 21 1, o_ic_eq 24 26, jbad, jbad, o_push 25 (-1), o_iret, o_aload 27 0, o_getR 30 13 (0), jbad, jbad, o_iload 31 2, o_push 32 (0), o_call 35 86 3 3 11 false, jbad, jbad, o_push 36 (5), o_ic_eq 39 50, jbad, jbad, o_aload 40 0, o_getR 43 13 (0), jbad, jbad, o_iload 44 2, o_call 47 87 2 2 11 false, jbad, jbad, o_if_eq 50 52, jbad, jbad, o_push 51 (-1), o_iret, o_aload 53 0, o_iload 54 1, o_push 55 (5), o_push 56 (0), o_push 57 (0), o_iload 58 2, o_push 59 (0), o_call 62 25 7 10 13 false, jbad, jbad, o_iret]
def tmp_T_see : List jOp := [o_aload 1 0, o_iload 2 1, o_call 5 20 2 2 13 false, jbad, jbad, o_astore 6 3, o_aload 7 3, o_ifnull 10 38, jbad, jbad, o_aload 11 0, o_getR 14 13 (0), jbad, jbad, o_iload 15 2, o_call 18 85 2 2 11 false, jbad, jbad, o_if_eq 21 38, jbad, jbad, o_aload 22 3, o_iload 23 2, o_call 26 81 2 2 10 false, jbad, jbad, o_if_ne 29 38, jbad, jbad, o_aload 30 0, o_aload 31 3, o_iload 32 2, o_call 35 26 3 5 13 false, jbad, jbad, o_if_ne 38 40, jbad, jbad, o_push 39 (0), o_zret, o_aload 41 3, o_iload 42 2, o_aload 43 0, o_getR 46 13 (0), jbad, jbad, o_iload 47 2, o_push 48 (2), o_call 51 86 3 3 11 false, jbad, jbad, o_call 54 82 3 3 10 true, jbad, jbad, o_push 55 (1), o_zret]
def tmp_T_meet : List jOp := [o_aload 1 0, o_iload 2 1, o_call 5 20 2 2 13 false, jbad, jbad, o_astore 6 3, o_aload 7 0, o_iload 8 2, o_call 11 20 2 2 13 false, jbad, jbad, o_astore 13 4, jbad, o_aload 14 3, o_ifnull 17 27, jbad, jbad, o_aload 19 4, jbad, o_ifnull 22 27, jbad, jbad, o_iload 23 1, o_iload 24 2, o_ic_ne 27 29, jbad, jbad, o_push 28 (-1), o_iret, o_push 30 (0), o_istore 32 5, jbad, o_push 33 (1), o_istore 35 6, jbad, o_iload 37 6, jbad, o_aload 38 0, o_getR 41 13 (0), jbad, jbad, o_call 44 84 1 1 11 false, jbad, jbad, o_ic_gt 47 91, jbad, jbad, o_aload 49 4, jbad, o_iload 51 6, jbad, o_call 54 81 2 2 10 false, jbad, jbad, o_if_eq 57 85, jbad, jbad, o_aload 58 3, o_iload 60 6, jbad, o_call 63 81 2 2 10 false, jbad, jbad, o_if_ne 66 85, jbad, jbad, o_aload 67 3, o_iload 69 6, jbad, o_aload 70 0, o_getR 73 13 (0), jbad, jbad, o_iload 75 6, jbad, o_push 76 (2), o_call 79 86 3 3 11 false, jbad, jbad, o_call 82 82 3 3 10 true, jbad, jbad, o_iinc 85 5 (1), jbad, jbad, o_iinc 88 6 (1), jbad, jbad, o_goto 35, jbad, jbad, o_iload 93 5, jbad, o_iret]
def tmp_T_sign : List jOp := [o_aload 1 0, o_iload 2 1, o_call 5 24 2 3 13 false, jbad, jbad, o_if_eq 8 19, jbad, jbad, o_aload 9 0, o_getR 12 13 (2), jbad, jbad, o_iload 13 2, o_call 16 105 2 2 12 false, jbad, jbad, o_goto 20, jbad, jbad, o_push 20 (-1), o_iret]
def tmp_T_id : List jOp := [o_aload 1 0, o_iload 2 1, o_call 5 24 2 3 13 false, jbad, jbad, o_if_eq 8 30, jbad, jbad, o_aload 9 0, o_getR 12 13 (2), jbad, jbad, o_iload 13 2, o_call 16 102 2 2 12 false, jbad, jbad, o_if_eq 19 30, jbad, jbad, o_aload 20 0, o_getR 23 13 (2), jbad, jbad, o_iload 24 2, o_call 27 104 2 2 12 false, jbad, jbad, o_goto 31, jbad, jbad, o_push 31 (-1), o_iret]
def tmp_T_unit : List jOp := [o_aload 1 0, o_iload 2 1, o_call 5 24 2 3 13 false, jbad, jbad, o_if_eq 8 19, jbad, jbad, o_aload 9 0, o_getR 12 13 (2), jbad, jbad, o_iload 13 2, o_call 16 109 2 5 12 false, jbad, jbad, o_goto 20, jbad, jbad, o_push 20 (-1), o_iret]
def tmp_T_styled : List jOp := [o_iload 1 3, o_call 4 22 1 1 0 false, jbad, jbad, o_if_eq 7 15, jbad, jbad, o_aload 8 0, o_iload 9 1, o_call 12 24 2 3 13 false, jbad, jbad, o_if_ne 15 17, jbad, jbad, o_push 16 (-1), o_iret, o_aload 18 0, o_getR 21 13 (2), jbad, jbad, o_aload 22 0, o_getR 25 13 (0), jbad, jbad, o_call 28 112 2 4 12 true, jbad, jbad, o_aload 29 0, o_getR 32 13 (2), jbad, jbad, o_iload 33 2, o_iload 34 3, o_call 37 115 3 3 12 false, jbad, jbad, o_iret]
def tmp_T_run : List jOp := [o_iload 1 3, o_if_lt 4 18, jbad, jbad, o_iload 5 3, o_push 7 (6), jbad, o_ic_ge 10 18, jbad, jbad, o_aload 11 0, o_iload 12 1, o_call 15 24 2 3 13 false, jbad, jbad, o_if_ne 18 20, jbad, jbad, o_push 19 (-1), o_iret, o_aload 21 0, o_getR 24 13 (2), jbad, jbad, o_aload 25 0, o_getR 28 13 (0), jbad, jbad, o_call 31 112 2 4 12 true, jbad, jbad, o_aload 32 0, o_getR 35 13 (2), jbad, jbad, o_iload 36 2, o_call 39 118 2 4 12 false, jbad, jbad, o_istore 41 4, jbad, o_iload 43 4, jbad, o_push 44 (-1), o_ic_ne 47 49, jbad, jbad, o_push 48 (-1), o_iret, o_iload 50 3, o_switch 92 [(0, 76), (1, 79)], jbad, jbad, jbad, jbad, jbad, jbad, jbad, jbad, jbad, jbad, jbad, jbad, jbad, jbad, jbad, jbad, jbad, jbad, jbad, jbad, jbad, jbad, jbad, jbad, jbad, o_iload 78 4, jbad, o_iret, o_aload 80 0, o_getR 83 13 (2), jbad, jbad, o_iload 85 4, jbad, o_call 88 119 2 3 12 false, jbad, jbad, o_iload 90 4, jbad, o_bin 91 f_sub, o_iret, o_aload 93 0, o_getR 96 13 (2), jbad, jbad, o_iload 98 4, jbad, o_iload 99 3, o_push 100 (2), o_bin 101 f_sub, o_call 104 115 3 3 12 false, jbad, jbad, o_iret]
def tmp_T_lies : List jOp := [o_iload 1 3, o_if_lt 4 22, jbad, jbad, o_iload 5 3, o_push 6 (1), o_ic_gt 9 22, jbad, jbad, o_aload 10 0, o_getR 13 13 (0), jbad, jbad, o_iload 14 2, o_push 15 (0), o_call 18 86 3 3 11 false, jbad, jbad, o_push 19 (3), o_ic_eq 22 24, jbad, jbad, o_push 23 (-1), o_iret, o_aload 25 0, o_iload 26 1, o_call 29 24 2 3 13 false, jbad, jbad, o_if_eq 32 43, jbad, jbad, o_aload 33 0, o_getR 36 13 (2), jbad, jbad, o_iload 37 2, o_call 40 101 2 2 12 false, jbad, jbad, o_if_ne 43 45, jbad, jbad, o_push 44 (-1), o_iret, o_iload 46 3, o_if_ne 49 61, jbad, jbad, o_aload 50 0, o_aload 51 0, o_getR 54 13 (2), jbad, jbad, o_iload 55 2, o_call 58 28 3 3 13 false, jbad, jbad, o_goto 70, jbad, jbad, o_aload 62 0, o_aload 63 0, o_getR 66 13 (2), jbad, jbad, o_iload 67 2, o_call 70 29 3 3 13 false, jbad, jbad, o_iret]
def tmp_T_paragraph : List jOp := [o_aload 1 0, o_iload 2 1, o_call 5 24 2 3 13 false, jbad, jbad, o_if_eq 8 19, jbad, jbad, o_aload 9 0, o_getR 12 13 (2), jbad, jbad, o_iload 13 2, o_call 16 121 2 4 12 false, jbad, jbad, o_goto 20, jbad, jbad, o_push 20 (-1), o_istore 22 4, jbad, o_iload 24 4, jbad, o_push 25 (-1), o_ic_ne 28 30, jbad, jbad, o_push 29 (-1), o_iret, o_iload 31 3, o_switch 93 [(0, 56), (1, 59), (2, 72)], jbad, jbad, jbad, jbad, jbad, jbad, jbad, jbad, jbad, jbad, jbad, jbad, jbad, jbad, jbad, jbad, jbad, jbad, jbad, jbad, jbad, jbad, jbad, jbad, o_iload 58 4, jbad, o_iret, o_aload 60 0, o_getR 63 13 (2), jbad, jbad, o_iload 65 4, jbad, o_call 68 122 2 3 12 false, jbad, jbad, o_iload 70 4, jbad, o_bin 71 f_sub, o_iret, o_aload 73 0, o_getR 76 13 (2), jbad, jbad, o_aload 77 0, o_getR 80 13 (0), jbad, jbad, o_call 83 123 2 4 12 true, jbad, jbad, o_aload 84 0, o_getR 87 13 (2), jbad, jbad, o_iload 89 4, jbad, o_call 92 125 2 3 12 false, jbad, jbad, o_iret, o_push 94 (-1), o_iret]
def tmp_T_row : List jOp := [o_aload 1 0, o_getR 4 13 (0), jbad, jbad, o_iload 5 1, o_iload 6 2, o_call 9 86 3 3 11 false, jbad, jbad, o_iret]
def tmp_T_alike : List jOp := [o_aload 1 0, o_iload 2 1, o_call 5 20 2 2 13 false, jbad, jbad, o_astore 6 3, o_aload 7 0, o_iload 8 2, o_call 11 20 2 2 13 false, jbad, jbad, o_astore 13 4, jbad, o_aload 14 3, o_ifnull 17 22, jbad, jbad, o_aload 19 4, jbad, o_ifnonnull 22 24, jbad, jbad, o_push 23 (0), o_zret, o_aload 25 0, o_aload 26 0, o_getR 29 13 (2), jbad, jbad, o_aload 30 3, o_call 33 30 3 3 13 true, jbad, jbad, o_aload 34 0, o_aload 35 0, o_getR 38 13 (3), jbad, jbad, o_aload 40 4, jbad, o_call 43 30 3 3 13 true, jbad, jbad, o_aload 44 0, o_getR 47 13 (2), jbad, jbad, o_aload 48 0, o_getR 51 13 (3), jbad, jbad, o_call 54 126 2 3 12 false, jbad, jbad, o_if_eq 57 82, jbad, jbad, o_aload 58 0, o_getR 61 13 (2), jbad, jbad, o_aload 62 0, o_getR 65 13 (3), jbad, jbad, o_call 68 127 2 3 12 false, jbad, jbad, o_if_eq 71 82, jbad, jbad, o_aload 72 0, o_call 75 31 1 2 13 false, jbad, jbad, o_if_eq 78 82, jbad, jbad, o_push 79 (1), o_goto 83, jbad, jbad, o_push 83 (0), o_zret]
def tmp_T_total : List jOp := [o_aload 1 0, o_iload 2 1, o_call 5 20 2 2 13 false, jbad, jbad, o_astore 6 3, o_aload 7 3, o_ifnonnull 10 12, jbad, jbad, o_push 11 (-1), o_iret, o_aload 13 0, o_getR 16 13 (2), jbad, jbad, o_aload 17 0, o_getR 20 13 (0), jbad, jbad, o_aload 21 3, o_call 24 97 3 5 12 true, jbad, jbad, o_iload 25 2, o_switch 127 [(0, 68), (1, 76), (2, 84), (3, 103), (4, 111), (5, 117), (6, 122)], jbad, jbad, jbad, jbad, jbad, jbad, jbad, jbad, jbad, jbad, jbad, jbad, jbad, jbad, jbad, jbad, jbad, jbad, jbad, jbad, jbad, jbad, jbad, jbad, jbad, jbad, jbad, jbad, jbad, jbad, jbad, jbad, jbad, jbad, jbad, jbad, jbad, jbad, jbad, jbad, jbad, jbad, o_aload 69 0, o_getR 72 13 (2), jbad, jbad, o_call 75 100 1 1 12 false, jbad, jbad, o_iret, o_aload 77 0, o_getR 80 13 (2), jbad, jbad, o_call 83 108 1 3 12 false, jbad, jbad, o_iret, o_aload 85 0, o_getR 88 13 (2), jbad, jbad, o_aload 89 0, o_getR 92 13 (0), jbad, jbad, o_call 95 112 2 4 12 true, jbad, jbad, o_aload 96 0, o_getR 99 13 (2), jbad, jbad, o_call 102 117 1 3 12 false, jbad, jbad, o_iret, o_aload 104 0, o_getR 107 13 (2), jbad, jbad, o_call 110 120 1 3 12 false, jbad, jbad, o_iret, o_aload 112 0, o_aload 113 3, o_call 116 27 2 4 13 false, jbad, jbad, o_iret, o_aload 118 3, o_call 121 79 1 1 10 false, jbad, jbad, o_iret, o_aload 123 3, o_call 126 80 1 1 10 false, jbad, jbad, o_iret, o_push 128 (-1), o_iret]
def tmp_T_nodeOf : List jOp := [o_iload 1 1, o_if_lt 4 22, jbad, jbad, o_iload 5 1, o_aload 6 0, o_getR 9 13 (1), jbad, jbad, o_alen 10 3, o_ic_ge 13 22, jbad, jbad, o_aload 14 0, o_getR 17 13 (1), jbad, jbad, o_iload 18 1, o_aald 19 3, o_goto 23, jbad, jbad, o_null 23, o_aret]
def tmp_T_isSign : List jOp := [o_iload 1 0, o_push 3 (55296), jbad, o_ic_lt 6 14, jbad, jbad, o_iload 7 0, o_push 9 (57343), jbad, o_ic_gt 12 14, jbad, jbad, o_push 13 (0), o_zret, o_iload 15 0, o_push 17 (10), jbad, o_ic_eq 20 32, jbad, jbad, o_iload 21 0, o_push 23 (32), jbad, o_ic_lt 26 36, jbad, jbad, o_iload 27 0, o_push 29 (1114111), jbad, o_ic_gt 32 36, jbad, jbad, o_push 33 (1), o_goto 37, jbad, jbad, o_push 37 (0), o_zret]
def tmp_T_isKey : List jOp := [o_iload 1 0, o_if_lt 4 13, jbad, jbad, o_iload 5 0, o_push 6 (4), o_ic_ge 9 13, jbad, jbad, o_push 10 (1), o_goto 14, jbad, jbad, o_push 14 (0), o_zret]
def tmp_T_grows : List jOp := [o_iload 1 0, o_push 2 (2), o_ic_ge 5 9, jbad, jbad, o_push 6 (1), o_goto 10, jbad, jbad, o_push 10 (0), o_zret]
def tmp_T_shows : List jOp := [o_aload 1 0, o_iload 2 1, o_call 5 20 2 2 13 false, jbad, jbad, o_astore 6 2, o_aload 7 2, o_ifnonnull 10 12, jbad, jbad, o_push 11 (0), o_zret, o_aload 13 0, o_getR 16 13 (2), jbad, jbad, o_aload 17 0, o_getR 20 13 (0), jbad, jbad, o_aload 21 2, o_call 24 97 3 5 12 true, jbad, jbad, o_push 25 (1), o_zret]
def tmp_T_write : List jOp := [o_aload 1 0, o_iload 2 1, o_call 5 20 2 2 13 false, jbad, jbad, o_astore 7 7, jbad, o_aload 9 7, jbad, o_ifnonnull 12 14, jbad, jbad, o_push 13 (-1), o_iret, o_aload 16 7, jbad, o_call 19 80 1 1 10 false, jbad, jbad, o_push 20 (1), o_bin 21 f_add, o_istore 23 8, jbad, o_aload 24 0, o_getR 27 13 (0), jbad, jbad, o_iload 28 1, o_iload 30 8, jbad, o_iload 31 2, o_iload 32 3, o_iload 34 4, jbad, o_iload 36 5, jbad, o_iload 38 6, jbad, o_call 41 91 8 9 11 false, jbad, jbad, o_istore 43 9, jbad, o_iload 45 9, jbad, o_push 46 (-1), o_ic_eq 49 58, jbad, jbad, o_aload 51 7, jbad, o_iload 53 9, jbad, o_iload 55 8, jbad, o_call 58 82 3 3 10 true, jbad, jbad, o_iload 60 9, jbad, o_iret]
def tmp_T_knowsNeeds : List jOp := [o_aload 1 0, o_getR 4 13 (0), jbad, jbad, o_iload 5 2, o_push 6 (5), o_call 9 86 3 3 11 false, jbad, jbad, o_istore 10 3, o_aload 11 0, o_getR 14 13 (0), jbad, jbad, o_iload 15 2, o_push 17 (6), jbad, o_call 20 86 3 3 11 false, jbad, jbad, o_istore 22 4, jbad, o_iload 23 3, o_if_eq 26 34, jbad, jbad, o_aload 27 1, o_iload 28 3, o_call 31 81 2 2 10 false, jbad, jbad, o_if_eq 34 52, jbad, jbad, o_iload 36 4, jbad, o_if_eq 39 48, jbad, jbad, o_aload 40 1, o_iload 42 4, jbad, o_call 45 81 2 2 10 false, jbad, jbad, o_if_eq 48 52, jbad, jbad, o_push 49 (1), o_goto 53, jbad, jbad, o_push 53 (0), o_zret]
def tmp_T_placesOf : List jOp := [o_push 1 (0), o_istore 2 2, o_push 3 (0), o_istore 4 3, o_iload 5 3, o_aload 6 0, o_getR 9 13 (0), jbad, jbad, o_call 12 89 1 1 11 false, jbad, jbad, o_ic_ge 15 39, jbad, jbad, o_aload 16 1, o_aload 17 0, o_getR 20 13 (0), jbad, jbad, o_iload 21 3, o_call 24 90 2 2 11 false, jbad, jbad, o_call 27 81 2 2 10 false, jbad, jbad, o_if_eq 30 33, jbad, jbad, o_iinc 33 2 (1), jbad, jbad, o_iinc 36 3 (1), jbad, jbad, o_goto 4, jbad, jbad, o_iload 40 2, o_iret]
def tmp_T_commentFrom : List jOp := [o_aload 1 1, o_aload 2 0, o_getR 5 13 (0), jbad, jbad, o_iload 6 2, o_push 7 (5), o_call 10 86 3 3 11 false, jbad, jbad, o_call 13 106 2 2 12 false, jbad, jbad, o_iret]
def tmp_T_commentTo : List jOp := [o_aload 1 0, o_aload 2 1, o_iload 3 2, o_call 6 28 3 3 13 false, jbad, jbad, o_aload 7 1, o_aload 8 0, o_getR 11 13 (0), jbad, jbad, o_iload 12 2, o_push 14 (6), jbad, o_call 17 86 3 3 11 false, jbad, jbad, o_call 20 107 2 3 12 false, jbad, jbad, o_mm 23 f_max, jbad, jbad, o_iret]
def tmp_T_showAll : List jOp := [o_aload 1 1, o_aload 2 0, o_getR 5 13 (0), jbad, jbad, o_aload 6 2, o_call 9 97 3 5 12 true, jbad, jbad, o_aload 10 1, o_aload 11 0, o_getR 14 13 (0), jbad, jbad, o_call 17 112 2 4 12 true, jbad, jbad, o_aload 18 1, o_aload 19 0, o_getR 22 13 (0), jbad, jbad, o_call 25 123 2 4 12 true, jbad, jbad, o_vret]
def tmp_T_haveSameComments : List jOp := [o_push 1 (1), o_istore 2 1, o_iload 3 1, o_aload 4 0, o_getR 7 13 (0), jbad, jbad, o_call 10 84 1 1 11 false, jbad, jbad, o_ic_gt 13 42, jbad, jbad, o_aload 14 0, o_getR 17 13 (0), jbad, jbad, o_iload 18 1, o_push 19 (0), o_call 22 86 3 3 11 false, jbad, jbad, o_push 23 (3), o_ic_ne 26 36, jbad, jbad, o_aload 27 0, o_iload 28 1, o_call 31 32 2 2 13 false, jbad, jbad, o_if_ne 34 36, jbad, jbad, o_push 35 (0), o_zret, o_iinc 39 1 (1), jbad, jbad, o_goto 2, jbad, jbad, o_push 43 (1), o_zret]
def tmp_T_isSameComment : List jOp := [o_aload 1 0, o_getR 4 13 (2), jbad, jbad, o_iload 5 1, o_call 8 101 2 2 12 false, jbad, jbad, o_if_eq 11 22, jbad, jbad, o_aload 12 0, o_getR 15 13 (3), jbad, jbad, o_iload 16 1, o_call 19 101 2 2 12 false, jbad, jbad, o_if_ne 22 47, jbad, jbad, o_aload 23 0, o_getR 26 13 (2), jbad, jbad, o_iload 27 1, o_call 30 101 2 2 12 false, jbad, jbad, o_aload 31 0, o_getR 34 13 (3), jbad, jbad, o_iload 35 1, o_call 38 101 2 2 12 false, jbad, jbad, o_ic_ne 41 45, jbad, jbad, o_push 42 (1), o_goto 46, jbad, jbad, o_push 46 (0), o_zret, o_aload 48 0, o_aload 49 0, o_getR 52 13 (2), jbad, jbad, o_iload 53 1, o_call 56 28 3 3 13 false, jbad, jbad, o_aload 57 0, o_aload 58 0, o_getR 61 13 (3), jbad, jbad, o_iload 62 1, o_call 65 28 3 3 13 false, jbad, jbad, o_ic_ne 68 93, jbad, jbad, o_aload 69 0, o_aload 70 0, o_getR 73 13 (2), jbad, jbad, o_iload 74 1, o_call 77 29 3 3 13 false, jbad, jbad, o_aload 78 0, o_aload 79 0, o_getR 82 13 (3), jbad, jbad, o_iload 83 1, o_call 86 29 3 3 13 false, jbad, jbad, o_ic_ne 89 93, jbad, jbad, o_push 90 (1), o_goto 94, jbad, jbad, o_push 94 (0), o_zret]
def tmp_M_init : List jOp := [o_aload 1 0, o_objinit 4, jbad, jbad, o_aload 5 0, o_push 8 (251), jbad, jbad, o_newa 10 1, jbad, o_putR 13 14 (2), jbad, jbad, o_aload 14 0, o_push 17 (251), jbad, jbad, o_newa 19 1, jbad, o_putR 22 14 (3), jbad, jbad, o_aload 23 0, o_push 26 (251), jbad, jbad, o_newa 28 1, jbad, o_putR 31 14 (4), jbad, jbad, o_aload 32 0, o_push 35 (251), jbad, jbad, o_newa 37 1, jbad, o_putR 40 14 (5), jbad, jbad, o_aload 41 0, o_push 44 (251), jbad, jbad, o_newa 46 1, jbad, o_putR 49 14 (6), jbad, jbad, o_aload 50 0, o_push 53 (251), jbad, jbad, o_newa 55 1, jbad, o_putR 58 14 (7), jbad, jbad, o_aload 59 0, o_push 62 (251), jbad, jbad, o_newa 64 1, jbad, o_putR 67 14 (8), jbad, jbad, o_aload 68 0, o_push 71 (1004), jbad, jbad, o_newa 73 2, jbad, o_putR 76 14 (9), jbad, jbad, o_aload 77 0, o_push 78 (4), o_newa 80 1, jbad, o_putR 83 14 (10), jbad, jbad, o_aload 84 0, o_push 85 (-1), o_putI 88 14 (11), jbad, jbad, o_aload 89 0, o_push 92 (251), jbad, jbad, o_newa 94 2, jbad, o_putR 97 14 (12), jbad, jbad, o_aload 98 0, o_push 101 (251), jbad, jbad, o_newa 103 1, jbad, o_putR 106 14 (14), jbad, jbad, o_aload 107 0, o_push 110 (251), jbad, jbad, o_newa 112 1, jbad, o_putR 115 14 (15), jbad, jbad, o_aload 116 0, o_push 119 (252), jbad, jbad, o_newa 121 1, jbad, o_putR 124 14 (16), jbad, jbad, o_aload 125 0, o_push 128 (251), jbad, jbad, o_newa 130 1, jbad, o_putR 133 14 (18), jbad, jbad, o_aload 134 0, o_push 137 (1004), jbad, jbad, o_newa 139 1, jbad, o_putR 142 14 (19), jbad, jbad, o_aload 143 0, o_push 146 (251), jbad, jbad, o_newa 148 1, jbad, o_putR 151 14 (21), jbad, jbad, o_aload 152 0, o_push 155 (251), jbad, jbad, o_newa 157 1, jbad, o_putR 160 14 (25), jbad, jbad, o_aload 161 0, o_push 164 (1004), jbad, jbad, o_newa 166 1, jbad, o_putR 169 14 (26), jbad, jbad, o_aload 170 0, o_push 173 (251), jbad, jbad, o_newa 175 1, jbad, o_putR 178 14 (27), jbad, jbad, o_aload 179 0, o_push 182 (251), jbad, jbad, o_newa 184 1, jbad, o_putR 187 14 (28), jbad, jbad, o_aload 188 0, o_push 191 (252), jbad, jbad, o_newa 193 1, jbad, o_putR 196 14 (30), jbad, jbad, o_vret]
def tmp_M_within : List jOp := [o_iload 1 0, o_iload 2 1, o_ic_lt 5 14, jbad, jbad, o_iload 6 0, o_iload 7 2, o_ic_gt 10 14, jbad, jbad, o_push 11 (1), o_goto 15, jbad, jbad, o_push 15 (0), o_zret]
def tmp_M_knowsRow : List jOp := [o_aload 1 0, o_getR 4 14 (9), jbad, jbad, o_push 7 (251), jbad, jbad, o_iload 8 1, o_bin 9 f_mul, o_iload 10 2, o_bin 11 f_add, o_nald 12 2, o_zret]
def tmp_M_isBefore : List jOp := [o_aload 1 0, o_getR 4 14 (4), jbad, jbad, o_iload 5 1, o_nald 6 1, o_aload 7 0, o_getR 10 14 (4), jbad, jbad, o_iload 11 2, o_nald 12 1, o_ic_eq 15 38, jbad, jbad, o_aload 16 0, o_getR 19 14 (4), jbad, jbad, o_iload 20 1, o_nald 21 1, o_aload 22 0, o_getR 25 14 (4), jbad, jbad, o_iload 26 2, o_nald 27 1, o_ic_ge 30 34, jbad, jbad, o_push 31 (1), o_goto 58, jbad, jbad, o_push 35 (0), o_goto 58, jbad, jbad, o_aload 39 0, o_getR 42 14 (3), jbad, jbad, o_iload 43 1, o_nald 44 1, o_aload 45 0, o_getR 48 14 (3), jbad, jbad, o_iload 49 2, o_nald 50 1, o_ic_ge 53 57, jbad, jbad, o_push 54 (1), o_goto 58, jbad, jbad, o_push 58 (0), o_zret]
def tmp_M_judge : List jOp := [o_push 1 (1), o_istore 2 2, o_iload 3 2, o_aload 4 0, o_getI 7 14 (1), jbad, jbad, o_ic_gt 10 28, jbad, jbad, o_aload 11 0, o_getR 14 14 (12), jbad, jbad, o_iload 15 2, o_aload 16 0, o_iload 17 1, o_iload 18 2, o_call 21 35 3 3 14 false, jbad, jbad, o_zast 22, o_iinc 25 2 (1), jbad, jbad, o_goto 2, jbad, jbad, o_push 29 (1), o_istore 30 2, o_iload 31 2, o_aload 32 0, o_getI 35 14 (1), jbad, jbad, o_ic_gt 38 75, jbad, jbad, o_aload 39 0, o_getR 42 14 (2), jbad, jbad, o_iload 43 2, o_nald 44 1, o_push 45 (5), o_ic_ne 48 69, jbad, jbad, o_aload 49 0, o_iload 50 1, o_iload 51 2, o_call 54 35 3 3 14 false, jbad, jbad, o_if_eq 57 69, jbad, jbad, o_aload 58 0, o_getR 61 14 (12), jbad, jbad, o_aload 62 0, o_getR 65 14 (7), jbad, jbad, o_iload 66 2, o_nald 67 1, o_push 68 (0), o_zast 69, o_iinc 72 2 (1), jbad, jbad, o_goto 30, jbad, jbad, o_vret]
def tmp_M_findOrder : List jOp := [o_aload 1 0, o_push 2 (0), o_putI 5 14 (20), jbad, jbad, o_push 6 (1), o_istore 7 3, o_iload 8 3, o_aload 9 0, o_getI 12 14 (1), jbad, jbad, o_ic_gt 15 111, jbad, jbad, o_aload 16 0, o_getR 19 14 (2), jbad, jbad, o_iload 20 3, o_nald 21 1, o_iload 22 2, o_ic_ne 25 105, jbad, jbad, o_aload 26 0, o_iload 27 1, o_iload 28 3, o_call 31 35 3 3 14 false, jbad, jbad, o_if_ne 34 37, jbad, jbad, o_goto 105, jbad, jbad, o_aload 38 0, o_getI 41 14 (20), jbad, jbad, o_istore 43 4, jbad, o_iload 45 4, jbad, o_if_le 48 87, jbad, jbad, o_aload 49 0, o_iload 50 3, o_aload 51 0, o_getR 54 14 (21), jbad, jbad, o_iload 56 4, jbad, o_push 57 (1), o_bin 58 f_sub, o_nald 59 1, o_call 62 36 3 3 14 false, jbad, jbad, o_if_eq 65 87, jbad, jbad, o_aload 66 0, o_getR 69 14 (21), jbad, jbad, o_iload 71 4, jbad, o_aload 72 0, o_getR 75 14 (21), jbad, jbad, o_iload 77 4, jbad, o_push 78 (1), o_bin 79 f_sub, o_nald 80 1, o_iast 81, o_iinc 84 4 (-1), jbad, jbad, o_goto 43, jbad, jbad, o_aload 88 0, o_getR 91 14 (21), jbad, jbad, o_iload 93 4, jbad, o_iload 94 3, o_iast 95, o_aload 96 0, o_dup 97, o_getI 100 14 (20), jbad, jbad, o_push 101 (1), o_bin 102 f_add, o_putI 105 14 (20), jbad, jbad, o_iinc 108 3 (1), jbad, jbad, o_goto 7, jbad, jbad, o_vret]
def tmp_M_findPlaces : List jOp := [o_aload 1 0, o_iload 2 1, o_push 3 (0), o_call 6 38 3 5 14 true, jbad, jbad, o_aload 7 0, o_push 8 (0), o_putI 11 14 (13), jbad, jbad, o_push 12 (0), o_istore 13 2, o_iload 14 2, o_aload 15 0, o_getI 18 14 (20), jbad, jbad, o_ic_ge 21 133, jbad, jbad, o_aload 22 0, o_getR 25 14 (21), jbad, jbad, o_iload 26 2, o_nald 27 1, o_istore 28 3, o_push 29 (0), o_istore 31 4, jbad, o_aload 32 0, o_getR 35 14 (7), jbad, jbad, o_iload 36 3, o_nald 37 1, o_if_eq 40 62, jbad, jbad, o_aload 41 0, o_getR 44 14 (14), jbad, jbad, o_iload 46 4, jbad, o_nald 47 1, o_aload 48 0, o_getR 51 14 (7), jbad, jbad, o_iload 52 3, o_nald 53 1, o_ic_eq 56 62, jbad, jbad, o_iinc 59 4 (1), jbad, jbad, o_goto 31, jbad, jbad, o_aload 63 0, o_getR 66 14 (7), jbad, jbad, o_iload 67 3, o_nald 68 1, o_if_eq 71 74, jbad, jbad, o_iinc 74 4 (1), jbad, jbad, o_aload 75 0, o_getI 78 14 (13), jbad, jbad, o_istore 80 5, jbad, o_iload 82 5, jbad, o_iload 84 4, jbad, o_ic_le 87 109, jbad, jbad, o_aload 88 0, o_getR 91 14 (14), jbad, jbad, o_iload 93 5, jbad, o_aload 94 0, o_getR 97 14 (14), jbad, jbad, o_iload 99 5, jbad, o_push 100 (1), o_bin 101 f_sub, o_nald 102 1, o_iast 103, o_iinc 106 5 (-1), jbad, jbad, o_goto 80, jbad, jbad, o_aload 110 0, o_getR 113 14 (14), jbad, jbad, o_iload 115 4, jbad, o_iload 116 3, o_iast 117, o_aload 118 0, o_dup 119, o_getI 122 14 (13), jbad, jbad, o_push 123 (1), o_bin 124 f_add, o_putI 127 14 (13), jbad, jbad, o_iinc 130 2 (1), jbad, jbad, o_goto 13, jbad, jbad, o_push 134 (0), o_istore 135 2, o_iload 136 2, o_aload 137 0, o_getI 140 14 (13), jbad, jbad, o_ic_ge 143 161, jbad, jbad, o_aload 144 0, o_getR 147 14 (15), jbad, jbad, o_aload 148 0, o_getR 151 14 (14), jbad, jbad, o_iload 152 2, o_nald 153 1, o_iload 154 2, o_iast 155, o_iinc 158 2 (1), jbad, jbad, o_goto 135, jbad, jbad, o_vret]
def tmp_M_isDeleted : List jOp := [o_push 1 (1), o_istore 2 2, o_iload 3 2, o_aload 4 0, o_getI 7 14 (1), jbad, jbad, o_ic_gt 10 47, jbad, jbad, o_aload 11 0, o_getR 14 14 (2), jbad, jbad, o_iload 15 2, o_nald 16 1, o_push 17 (1), o_ic_ne 20 41, jbad, jbad, o_aload 21 0, o_getR 24 14 (7), jbad, jbad, o_iload 25 2, o_nald 26 1, o_iload 27 1, o_ic_ne 30 41, jbad, jbad, o_aload 31 0, o_getR 34 14 (12), jbad, jbad, o_iload 35 2, o_nald 36 2, o_if_eq 39 41, jbad, jbad, o_push 40 (1), o_zret, o_iinc 44 2 (1), jbad, jbad, o_goto 2, jbad, jbad, o_push 48 (0), o_zret]
def tmp_M_covers : List jOp := [o_aload 1 0, o_getR 4 14 (15), jbad, jbad, o_aload 5 0, o_getR 8 14 (7), jbad, jbad, o_iload 9 1, o_nald 10 1, o_nald 11 1, o_istore 12 3, o_aload 13 0, o_getR 16 14 (5), jbad, jbad, o_iload 17 1, o_nald 18 1, o_push 19 (2), o_ic_ge 22 26, jbad, jbad, o_push 23 (1), o_goto 27, jbad, jbad, o_push 27 (0), o_istore 29 4, jbad, o_aload 30 0, o_getR 33 14 (8), jbad, jbad, o_iload 34 1, o_nald 35 1, o_if_ne 38 45, jbad, jbad, o_aload 39 0, o_getI 42 14 (13), jbad, jbad, o_goto 56, jbad, jbad, o_aload 46 0, o_getR 49 14 (15), jbad, jbad, o_aload 50 0, o_getR 53 14 (8), jbad, jbad, o_iload 54 1, o_nald 55 1, o_nald 56 1, o_istore 58 5, jbad, o_iload 59 2, o_iload 60 3, o_ic_lt 63 87, jbad, jbad, o_iload 65 4, jbad, o_if_eq 68 77, jbad, jbad, o_iload 69 2, o_iload 71 5, jbad, o_ic_ge 74 87, jbad, jbad, o_goto 83, jbad, jbad, o_iload 78 2, o_iload 80 5, jbad, o_ic_gt 83 87, jbad, jbad, o_push 84 (1), o_goto 88, jbad, jbad, o_push 88 (0), o_zret]
def tmp_M_findStyles : List jOp := [o_push 1 (0), o_istore 2 2, o_iload 3 2, o_push 4 (4), o_aload 5 0, o_getI 8 14 (17), jbad, jbad, o_bin 9 f_mul, o_ic_ge 12 25, jbad, jbad, o_aload 13 0, o_getR 16 14 (19), jbad, jbad, o_iload 17 2, o_push 18 (0), o_iast 19, o_iinc 22 2 (1), jbad, jbad, o_goto 2, jbad, jbad, o_aload 26 0, o_iload 27 1, o_push 28 (2), o_call 31 38 3 5 14 true, jbad, jbad, o_push 32 (0), o_istore 33 2, o_iload 34 2, o_aload 35 0, o_getI 38 14 (20), jbad, jbad, o_ic_ge 41 123, jbad, jbad, o_aload 42 0, o_getR 45 14 (21), jbad, jbad, o_iload 46 2, o_nald 47 1, o_istore 48 3, o_push 49 (0), o_istore 51 4, jbad, o_iload 53 4, jbad, o_aload 54 0, o_getI 57 14 (17), jbad, jbad, o_ic_ge 60 117, jbad, jbad, o_aload 61 0, o_getR 64 14 (12), jbad, jbad, o_iload 65 3, o_nald 66 2, o_if_eq 69 117, jbad, jbad, o_aload 70 0, o_iload 71 3, o_aload 72 0, o_getR 75 14 (15), jbad, jbad, o_aload 76 0, o_getR 79 14 (18), jbad, jbad, o_iload 81 4, jbad, o_nald 82 1, o_nald 83 1, o_call 86 41 3 6 14 false, jbad, jbad, o_if_eq 89 111, jbad, jbad, o_aload 90 0, o_getR 93 14 (19), jbad, jbad, o_push 94 (4), o_iload 96 4, jbad, o_bin 97 f_mul, o_aload 98 0, o_getR 101 14 (5), jbad, jbad, o_iload 102 3, o_nald 103 1, o_bin 104 f_add, o_aload 105 0, o_getR 108 14 (6), jbad, jbad, o_iload 109 3, o_nald 110 1, o_iast 111, o_iinc 114 4 (1), jbad, jbad, o_goto 51, jbad, jbad, o_iinc 120 2 (1), jbad, jbad, o_goto 33, jbad, jbad, o_vret]
def tmp_M_look : List jOp := [o_aload 1 0, o_getI 4 14 (11), jbad, jbad, o_iload 5 1, o_ic_ne 8 9, jbad, jbad, o_vret, o_aload 10 0, o_iload 11 1, o_putI 14 14 (11), jbad, jbad, o_aload 15 0, o_iload 16 1, o_call 19 37 2 3 14 true, jbad, jbad, o_aload 20 0, o_iload 21 1, o_call 24 39 2 6 14 true, jbad, jbad, o_aload 25 0, o_push 26 (0), o_putI 29 14 (17), jbad, jbad, o_push 30 (0), o_istore 31 2, o_iload 32 2, o_aload 33 0, o_getI 36 14 (13), jbad, jbad, o_ic_ge 39 102, jbad, jbad, o_aload 40 0, o_getR 43 14 (16), jbad, jbad, o_iload 44 2, o_aload 45 0, o_getI 48 14 (17), jbad, jbad, o_iast 49, o_aload 50 0, o_getR 53 14 (14), jbad, jbad, o_iload 54 2, o_nald 55 1, o_istore 56 3, o_aload 57 0, o_getR 60 14 (12), jbad, jbad, o_iload 61 3, o_nald 62 2, o_if_eq 65 96, jbad, jbad, o_aload 66 0, o_iload 67 3, o_call 70 40 2 3 14 false, jbad, jbad, o_if_eq 73 76, jbad, jbad, o_goto 96, jbad, jbad, o_aload 77 0, o_getR 80 14 (18), jbad, jbad, o_aload 81 0, o_getI 84 14 (17), jbad, jbad, o_iload 85 3, o_iast 86, o_aload 87 0, o_dup 88, o_getI 91 14 (17), jbad, jbad, o_push 92 (1), o_bin 93 f_add, o_putI 96 14 (17), jbad, jbad, o_iinc 99 2 (1), jbad, jbad, o_goto 31, jbad, jbad, o_aload 103 0, o_getR 106 14 (16), jbad, jbad, o_aload 107 0, o_getI 110 14 (13), jbad, jbad, o_aload 111 0, o_getI 114 14 (17), jbad, jbad, o_iast 115, o_aload 116 0, o_iload 117 1, o_call 120 42 2 5 14 true, jbad, jbad, o_vret]
def tmp_M_isNode : List jOp := [o_iload 1 0, o_push 2 (0), o_push 3 (3), o_call 6 34 3 3 0 false, jbad, jbad, o_zret]
def tmp_M_add : List jOp := [o_aload 1 0, o_dup 2, o_getI 5 14 (1), jbad, jbad, o_push 6 (1), o_bin 7 f_add, o_putI 10 14 (1), jbad, jbad, o_aload 11 0, o_getR 14 14 (2), jbad, jbad, o_aload 15 0, o_getI 18 14 (1), jbad, jbad, o_iload 19 2, o_iast 20, o_aload 21 0, o_getR 24 14 (3), jbad, jbad, o_aload 25 0, o_getI 28 14 (1), jbad, jbad, o_iload 29 1, o_iast 30, o_aload 31 0, o_getR 34 14 (10), jbad, jbad, o_iload 35 1, o_dup2 36, o_nald 37 1, o_push 38 (1), o_bin 39 f_add, o_iast 40, o_aload 41 0, o_getR 44 14 (4), jbad, jbad, o_aload 45 0, o_getI 48 14 (1), jbad, jbad, o_aload 49 0, o_getR 52 14 (10), jbad, jbad, o_iload 53 1, o_nald 54 1, o_iast 55, o_aload 56 0, o_getR 59 14 (5), jbad, jbad, o_aload 60 0, o_getI 63 14 (1), jbad, jbad, o_iload 64 3, o_iast 65, o_aload 66 0, o_getR 69 14 (6), jbad, jbad, o_aload 70 0, o_getI 73 14 (1), jbad, jbad, o_iload 75 4, jbad, o_iast 76, o_aload 77 0, o_getR 80 14 (7), jbad, jbad, o_aload 81 0, o_getI 84 14 (1), jbad, jbad, o_iload 86 5, jbad, o_iast 87, o_aload 88 0, o_getR 91 14 (8), jbad, jbad, o_aload 92 0, o_getI 95 14 (1), jbad, jbad, o_iload 97 6, jbad, o_iast 98, o_aload 99 0, o_getR 102 14 (9), jbad, jbad, o_push 105 (251), jbad, jbad, o_iload 106 1, o_bin 107 f_mul, o_aload 108 0, o_getI 111 14 (1), jbad, jbad, o_bin 112 f_add, o_push 113 (1), o_zast 114, o_aload 115 0, o_push 116 (-1), o_putI 119 14 (11), jbad, jbad, o_aload 120 0, o_getI 123 14 (1), jbad, jbad, o_iret]
def tmp_M_isSign : List jOp := [o_iload 1 0, o_push 3 (10), jbad, o_ic_eq 6 28, jbad, jbad, o_iload 7 0, o_push 9 (32), jbad, o_push 11 (55295), jbad, o_call 14 34 3 3 0 false, jbad, jbad, o_if_ne 17 28, jbad, jbad, o_iload 18 0, o_push 20 (57344), jbad, o_push 22 (1114111), jbad, o_call 25 34 3 3 0 false, jbad, jbad, o_if_eq 28 32, jbad, jbad, o_push 29 (1), o_goto 33, jbad, jbad, o_push 33 (0), o_zret]
def tmp_M_insert : List jOp := [o_aload 1 0, o_push 2 (0), o_putI 5 14 (0), jbad, jbad, o_iload 6 1, o_call 9 44 1 1 0 false, jbad, jbad, o_if_eq 12 29, jbad, jbad, o_iload 13 3, o_call 16 46 1 1 0 false, jbad, jbad, o_if_eq 19 29, jbad, jbad, o_aload 20 0, o_getI 23 14 (1), jbad, jbad, o_push 26 (250), jbad, jbad, o_ic_ne 29 31, jbad, jbad, o_push 30 (-1), o_iret, o_aload 32 0, o_iload 33 1, o_call 36 43 2 4 14 true, jbad, jbad, o_iload 37 2, o_push 38 (0), o_aload 39 0, o_getI 42 14 (17), jbad, jbad, o_call 45 34 3 3 0 false, jbad, jbad, o_if_eq 48 76, jbad, jbad, o_aload 49 0, o_iload 50 1, o_push 51 (0), o_iload 52 3, o_push 53 (0), o_iload 54 2, o_if_ne 57 61, jbad, jbad, o_push 58 (0), o_goto 69, jbad, jbad, o_aload 62 0, o_getR 65 14 (18), jbad, jbad, o_iload 66 2, o_push 67 (1), o_bin 68 f_sub, o_nald 69 1, o_push 70 (0), o_call 73 45 7 7 14 false, jbad, jbad, o_goto 77, jbad, jbad, o_push 77 (-1), o_iret]
def tmp_M_delete : List jOp := [o_aload 1 0, o_push 2 (0), o_putI 5 14 (0), jbad, jbad, o_iload 6 1, o_call 9 44 1 1 0 false, jbad, jbad, o_if_eq 12 22, jbad, jbad, o_aload 13 0, o_getI 16 14 (1), jbad, jbad, o_push 19 (250), jbad, jbad, o_ic_ne 22 24, jbad, jbad, o_push 23 (-1), o_iret, o_aload 25 0, o_iload 26 1, o_call 29 43 2 4 14 true, jbad, jbad, o_iload 30 2, o_push 31 (0), o_aload 32 0, o_getI 35 14 (17), jbad, jbad, o_push 36 (1), o_bin 37 f_sub, o_call 40 34 3 3 0 false, jbad, jbad, o_if_eq 43 61, jbad, jbad, o_aload 44 0, o_iload 45 1, o_push 46 (1), o_push 47 (0), o_push 48 (0), o_aload 49 0, o_getR 52 14 (18), jbad, jbad, o_iload 53 2, o_nald 54 1, o_push 55 (0), o_call 58 45 7 7 14 false, jbad, jbad, o_goto 62, jbad, jbad, o_push 62 (-1), o_iret]
def tmp_M_style : List jOp := [o_aload 1 0, o_push 2 (0), o_putI 5 14 (0), jbad, jbad, o_iload 6 1, o_call 9 44 1 1 0 false, jbad, jbad, o_if_eq 12 43, jbad, jbad, o_iload 14 4, jbad, o_push 15 (0), o_push 16 (3), o_call 19 34 3 3 0 false, jbad, jbad, o_if_eq 22 43, jbad, jbad, o_iload 24 5, jbad, o_push 25 (0), o_push 27 (9), jbad, o_call 30 34 3 3 0 false, jbad, jbad, o_if_eq 33 43, jbad, jbad, o_aload 34 0, o_getI 37 14 (1), jbad, jbad, o_push 40 (250), jbad, jbad, o_ic_ne 43 45, jbad, jbad, o_push 44 (-1), o_iret, o_aload 46 0, o_iload 47 1, o_call 50 43 2 4 14 true, jbad, jbad, o_iload 51 2, o_if_lt 54 67, jbad, jbad, o_iload 55 2, o_iload 56 3, o_ic_ge 59 67, jbad, jbad, o_iload 60 3, o_aload 61 0, o_getI 64 14 (17), jbad, jbad, o_ic_le 67 69, jbad, jbad, o_push 68 (-1), o_iret, o_iload 71 4, jbad, o_push 72 (1), o_ic_le 75 86, jbad, jbad, o_aload 76 0, o_getR 79 14 (18), jbad, jbad, o_iload 80 3, o_push 81 (1), o_bin 82 f_sub, o_nald 83 1, o_goto 104, jbad, jbad, o_iload 87 3, o_aload 88 0, o_getI 91 14 (17), jbad, jbad, o_ic_ne 94 98, jbad, jbad, o_push 95 (0), o_goto 104, jbad, jbad, o_aload 99 0, o_getR 102 14 (18), jbad, jbad, o_iload 103 3, o_nald 104 1, o_istore 106 6, jbad, o_aload 107 0, o_iload 108 1, o_push 109 (2), o_iload 111 4, jbad, o_iload 113 5, jbad, o_aload 114 0, o_getR 117 14 (18), jbad, jbad, o_iload 118 2, o_nald 119 1, o_iload 121 6, jbad, o_call 124 45 7 7 14 false, jbad, jbad, o_iret]
def tmp_M_comment : List jOp := [o_aload 1 0, o_push 2 (0), o_putI 5 14 (0), jbad, jbad, o_iload 6 1, o_call 9 44 1 1 0 false, jbad, jbad, o_if_eq 12 22, jbad, jbad, o_aload 13 0, o_getI 16 14 (1), jbad, jbad, o_push 19 (250), jbad, jbad, o_ic_ne 22 24, jbad, jbad, o_push 23 (-1), o_iret, o_aload 25 0, o_iload 26 1, o_call 29 43 2 4 14 true, jbad, jbad, o_iload 30 2, o_if_lt 33 46, jbad, jbad, o_iload 34 2, o_iload 35 3, o_ic_ge 38 46, jbad, jbad, o_iload 39 3, o_aload 40 0, o_getI 43 14 (17), jbad, jbad, o_ic_le 46 50, jbad, jbad, o_push 47 (-1), o_goto 72, jbad, jbad, o_aload 51 0, o_iload 52 1, o_push 53 (3), o_push 54 (0), o_push 55 (0), o_aload 56 0, o_getR 59 14 (18), jbad, jbad, o_iload 60 2, o_nald 61 1, o_aload 62 0, o_getR 65 14 (18), jbad, jbad, o_iload 66 3, o_push 67 (1), o_bin 68 f_sub, o_nald 69 1, o_call 72 45 7 7 14 false, jbad, jbad, o_iret]
def tmp_M_startOf : List jOp := [o_iload 1 1, o_if_ge 4 7, jbad, jbad, o_push 6 (-2), jbad, o_iret, o_iload 8 1, o_istore 9 2, o_push 10 (0), o_istore 11 3, o_iload 12 3, o_aload 13 0, o_getI 16 14 (17), jbad, jbad, o_ic_ge 19 57, jbad, jbad, o_iload 20 2, o_if_le 23 57, jbad, jbad, o_aload 24 0, o_getR 27 14 (5), jbad, jbad, o_aload 28 0, o_getR 31 14 (18), jbad, jbad, o_iload 32 3, o_nald 33 1, o_nald 34 1, o_push 36 (10), jbad, o_ic_eq 39 42, jbad, jbad, o_goto 51, jbad, jbad, o_iinc 45 2 (-1), jbad, jbad, o_iload 46 2, o_if_ne 49 51, jbad, jbad, o_iload 50 3, o_iret, o_iinc 54 3 (1), jbad, jbad, o_goto 11, jbad, jbad, o_iload 58 2, o_if_ne 61 65, jbad, jbad, o_push 62 (-1), o_goto 67, jbad, jbad, o_push 67 (-2), jbad, o_iret]
def tmp_M_block : List jOp := [o_aload 1 0, o_push 2 (0), o_putI 5 14 (0), jbad, jbad, o_iload 6 1, o_call 9 44 1 1 0 false, jbad, jbad, o_if_eq 12 32, jbad, jbad, o_iload 13 3, o_push 14 (0), o_push 16 (9), jbad, o_call 19 34 3 3 0 false, jbad, jbad, o_if_eq 22 32, jbad, jbad, o_aload 23 0, o_getI 26 14 (1), jbad, jbad, o_push 29 (250), jbad, jbad, o_ic_ne 32 34, jbad, jbad, o_push 33 (-1), o_iret, o_aload 35 0, o_iload 36 1, o_call 39 43 2 4 14 true, jbad, jbad, o_aload 40 0, o_iload 41 2, o_call 44 51 2 4 14 false, jbad, jbad, o_istore 46 4, jbad, o_iload 48 4, jbad, o_push 50 (-2), jbad, o_ic_ne 53 57, jbad, jbad, o_push 54 (-1), o_goto 83, jbad, jbad, o_aload 58 0, o_iload 59 1, o_push 60 (4), o_iload 61 3, o_push 62 (0), o_iload 64 4, jbad, o_push 65 (-1), o_ic_ne 68 72, jbad, jbad, o_push 69 (0), o_goto 79, jbad, jbad, o_aload 73 0, o_getR 76 14 (18), jbad, jbad, o_iload 78 4, jbad, o_nald 79 1, o_push 80 (0), o_call 83 45 7 7 14 false, jbad, jbad, o_iret]
def tmp_M_undo : List jOp := [o_aload 1 0, o_push 2 (0), o_putI 5 14 (0), jbad, jbad, o_iload 6 1, o_call 9 44 1 1 0 false, jbad, jbad, o_if_eq 12 54, jbad, jbad, o_iload 13 2, o_push 14 (1), o_aload 15 0, o_getI 18 14 (1), jbad, jbad, o_call 21 34 3 3 0 false, jbad, jbad, o_if_eq 24 54, jbad, jbad, o_aload 25 0, o_getR 28 14 (3), jbad, jbad, o_iload 29 2, o_nald 30 1, o_iload 31 1, o_ic_ne 34 54, jbad, jbad, o_aload 35 0, o_getR 38 14 (2), jbad, jbad, o_iload 39 2, o_nald 40 1, o_push 41 (5), o_ic_eq 44 54, jbad, jbad, o_aload 45 0, o_getI 48 14 (1), jbad, jbad, o_push 51 (250), jbad, jbad, o_ic_ne 54 56, jbad, jbad, o_push 55 (-1), o_iret, o_aload 57 0, o_iload 58 1, o_call 61 43 2 4 14 true, jbad, jbad, o_aload 62 0, o_getR 65 14 (12), jbad, jbad, o_iload 66 2, o_nald 67 2, o_if_eq 70 83, jbad, jbad, o_aload 71 0, o_iload 72 1, o_push 73 (5), o_push 74 (0), o_push 75 (0), o_iload 76 2, o_push 77 (0), o_call 80 45 7 7 14 false, jbad, jbad, o_goto 84, jbad, jbad, o_push 84 (-1), o_iret]
def tmp_M_learn : List jOp := [o_aload 1 0, o_getR 4 14 (9), jbad, jbad, o_push 7 (251), jbad, jbad, o_iload 8 1, o_bin 9 f_mul, o_iload 10 2, o_bin 11 f_add, o_push 12 (1), o_zast 13, o_aload 14 0, o_getR 17 14 (10), jbad, jbad, o_iload 18 1, o_aload 19 0, o_getR 22 14 (4), jbad, jbad, o_iload 23 2, o_nald 24 1, o_aload 25 0, o_getR 28 14 (10), jbad, jbad, o_iload 29 1, o_nald 30 1, o_ic_le 33 42, jbad, jbad, o_aload 34 0, o_getR 37 14 (4), jbad, jbad, o_iload 38 2, o_nald 39 1, o_goto 48, jbad, jbad, o_aload 43 0, o_getR 46 14 (10), jbad, jbad, o_iload 47 1, o_nald 48 1, o_iast 49, o_aload 50 0, o_push 51 (-1), o_putI 54 14 (11), jbad, jbad, o_vret]
def tmp_M_see : List jOp := [o_aload 1 0, o_push 2 (0), o_putI 5 14 (0), jbad, jbad, o_iload 6 1, o_call 9 44 1 1 0 false, jbad, jbad, o_if_eq 12 33, jbad, jbad, o_iload 13 2, o_push 14 (1), o_aload 15 0, o_getI 18 14 (1), jbad, jbad, o_call 21 34 3 3 0 false, jbad, jbad, o_if_eq 24 33, jbad, jbad, o_aload 25 0, o_iload 26 1, o_iload 27 2, o_call 30 35 3 3 14 false, jbad, jbad, o_if_eq 33 35, jbad, jbad, o_push 34 (0), o_zret, o_aload 36 0, o_getR 39 14 (7), jbad, jbad, o_iload 40 2, o_nald 41 1, o_if_eq 44 58, jbad, jbad, o_aload 45 0, o_iload 46 1, o_aload 47 0, o_getR 50 14 (7), jbad, jbad, o_iload 51 2, o_nald 52 1, o_call 55 35 3 3 14 false, jbad, jbad, o_if_eq 58 81, jbad, jbad, o_aload 59 0, o_getR 62 14 (8), jbad, jbad, o_iload 63 2, o_nald 64 1, o_if_eq 67 83, jbad, jbad, o_aload 68 0, o_iload 69 1, o_aload 70 0, o_getR 73 14 (8), jbad, jbad, o_iload 74 2, o_nald 75 1, o_call 78 35 3 3 14 false, jbad, jbad, o_if_ne 81 83, jbad, jbad, o_push 82 (0), o_zret, o_aload 84 0, o_iload 85 1, o_iload 86 2, o_call 89 54 3 3 14 true, jbad, jbad, o_push 90 (1), o_zret]
def tmp_M_meet : List jOp := [o_aload 1 0, o_push 2 (0), o_putI 5 14 (0), jbad, jbad, o_iload 6 1, o_call 9 44 1 1 0 false, jbad, jbad, o_if_eq 12 24, jbad, jbad, o_iload 13 2, o_call 16 44 1 1 0 false, jbad, jbad, o_if_eq 19 24, jbad, jbad, o_iload 20 1, o_iload 21 2, o_ic_ne 24 26, jbad, jbad, o_push 25 (-1), o_iret, o_push 27 (0), o_istore 28 3, o_push 29 (1), o_istore 31 4, jbad, o_iload 33 4, jbad, o_aload 34 0, o_getI 37 14 (1), jbad, jbad, o_ic_gt 40 79, jbad, jbad, o_aload 41 0, o_iload 42 2, o_iload 44 4, jbad, o_call 47 35 3 3 14 false, jbad, jbad, o_if_eq 50 73, jbad, jbad, o_aload 51 0, o_iload 52 1, o_iload 54 4, jbad, o_call 57 35 3 3 14 false, jbad, jbad, o_if_eq 60 63, jbad, jbad, o_goto 73, jbad, jbad, o_aload 64 0, o_iload 65 1, o_iload 67 4, jbad, o_call 70 54 3 3 14 true, jbad, jbad, o_iinc 73 3 (1), jbad, jbad, o_iinc 76 4 (1), jbad, jbad, o_goto 31, jbad, jbad, o_iload 80 3, o_iret]
def tmp_M_isSeen : List jOp := [o_iload 1 1, o_call 4 44 1 1 0 false, jbad, jbad, o_if_ne 7 9, jbad, jbad, o_push 8 (0), o_zret, o_aload 10 0, o_iload 11 1, o_call 14 43 2 4 14 true, jbad, jbad, o_iload 15 2, o_push 16 (0), o_aload 17 0, o_getI 20 14 (17), jbad, jbad, o_push 21 (1), o_bin 22 f_sub, o_call 25 34 3 3 0 false, jbad, jbad, o_zret]
def tmp_M_sign : List jOp := [o_aload 1 0, o_push 2 (0), o_putI 5 14 (0), jbad, jbad, o_aload 6 0, o_iload 7 1, o_iload 8 2, o_call 11 57 3 3 14 false, jbad, jbad, o_if_eq 14 28, jbad, jbad, o_aload 15 0, o_getR 18 14 (5), jbad, jbad, o_aload 19 0, o_getR 22 14 (18), jbad, jbad, o_iload 23 2, o_nald 24 1, o_nald 25 1, o_goto 29, jbad, jbad, o_push 29 (-1), o_iret]
def tmp_M_id : List jOp := [o_aload 1 0, o_push 2 (0), o_putI 5 14 (0), jbad, jbad, o_aload 6 0, o_iload 7 1, o_iload 8 2, o_call 11 57 3 3 14 false, jbad, jbad, o_if_eq 14 23, jbad, jbad, o_aload 15 0, o_getR 18 14 (18), jbad, jbad, o_iload 19 2, o_nald 20 1, o_goto 24, jbad, jbad, o_push 24 (-1), o_iret]
def tmp_M_unit : List jOp := [o_aload 1 0, o_push 2 (0), o_putI 5 14 (0), jbad, jbad, o_iload 6 1, o_call 9 44 1 1 0 false, jbad, jbad, o_if_eq 12 16, jbad, jbad, o_iload 13 2, o_if_ge 16 18, jbad, jbad, o_push 17 (-1), o_iret, o_aload 19 0, o_iload 20 1, o_call 23 43 2 4 14 true, jbad, jbad, o_iload 24 2, o_istore 25 3, o_push 26 (0), o_istore 28 4, jbad, o_iload 30 4, jbad, o_aload 31 0, o_getI 34 14 (17), jbad, jbad, o_ic_ge 37 125, jbad, jbad, o_aload 38 0, o_getR 41 14 (5), jbad, jbad, o_aload 42 0, o_getR 45 14 (18), jbad, jbad, o_iload 47 4, jbad, o_nald 48 1, o_nald 49 1, o_istore 51 5, jbad, o_iload 53 5, jbad, o_push 55 (65535), jbad, o_ic_le 58 62, jbad, jbad, o_push 59 (2), o_goto 63, jbad, jbad, o_push 63 (1), o_istore 65 6, jbad, o_iload 66 3, o_iload 68 6, jbad, o_ic_ge 71 114, jbad, jbad, o_iload 73 6, jbad, o_push 74 (1), o_ic_ne 77 82, jbad, jbad, o_iload 79 5, jbad, o_goto 113, jbad, jbad, o_iload 83 3, o_if_ne 86 101, jbad, jbad, o_push 88 (55296), jbad, o_iload 90 5, jbad, o_push 92 (65536), jbad, o_bin 93 f_sub, o_push 96 (1024), jbad, jbad, o_dv 97 f_div, o_bin 98 f_add, o_goto 113, jbad, jbad, o_push 103 (56320), jbad, o_iload 105 5, jbad, o_push 107 (65536), jbad, o_bin 108 f_sub, o_push 111 (1024), jbad, jbad, o_dv 112 f_rem, o_bin 113 f_add, o_iret, o_iload 115 3, o_iload 117 6, jbad, o_bin 118 f_sub, o_istore 119 3, o_iinc 122 4 (1), jbad, jbad, o_goto 28, jbad, jbad, o_push 126 (-1), o_iret]
def tmp_M_styled : List jOp := [o_aload 1 0, o_push 2 (0), o_putI 5 14 (0), jbad, jbad, o_aload 6 0, o_iload 7 1, o_iload 8 2, o_call 11 57 3 3 14 false, jbad, jbad, o_if_eq 14 36, jbad, jbad, o_iload 15 3, o_push 16 (0), o_push 17 (3), o_call 20 34 3 3 0 false, jbad, jbad, o_if_eq 23 36, jbad, jbad, o_aload 24 0, o_getR 27 14 (19), jbad, jbad, o_push 28 (4), o_iload 29 2, o_bin 30 f_mul, o_iload 31 3, o_bin 32 f_add, o_nald 33 1, o_goto 37, jbad, jbad, o_push 37 (-1), o_iret]
def tmp_M_areAlike : List jOp := [o_push 1 (0), o_istore 2 3, o_iload 3 3, o_push 4 (4), o_ic_ge 7 38, jbad, jbad, o_aload 8 0, o_getR 11 14 (19), jbad, jbad, o_push 12 (4), o_iload 13 1, o_bin 14 f_mul, o_iload 15 3, o_bin 16 f_add, o_nald 17 1, o_aload 18 0, o_getR 21 14 (19), jbad, jbad, o_push 22 (4), o_iload 23 2, o_bin 24 f_mul, o_iload 25 3, o_bin 26 f_add, o_nald 27 1, o_ic_eq 30 32, jbad, jbad, o_push 31 (0), o_zret, o_iinc 35 3 (1), jbad, jbad, o_goto 2, jbad, jbad, o_push 39 (1), o_zret]
def tmp_M_findRun : List jOp := [o_push 1 (0), o_istore 2 2, o_aload 3 0, o_push 4 (0), o_putI 7 14 (23), jbad, jbad, o_aload 8 0, o_getI 11 14 (23), jbad, jbad, o_aload 12 0, o_getI 15 14 (17), jbad, jbad, o_ic_ge 18 78, jbad, jbad, o_aload 19 0, o_aload 20 0, o_getI 23 14 (23), jbad, jbad, o_putI 26 14 (22), jbad, jbad, o_aload 27 0, o_getI 30 14 (23), jbad, jbad, o_aload 31 0, o_getI 34 14 (17), jbad, jbad, o_ic_ge 37 65, jbad, jbad, o_aload 38 0, o_aload 39 0, o_getI 42 14 (22), jbad, jbad, o_aload 43 0, o_getI 46 14 (23), jbad, jbad, o_call 49 62 3 4 14 false, jbad, jbad, o_if_eq 52 65, jbad, jbad, o_aload 53 0, o_dup 54, o_getI 57 14 (23), jbad, jbad, o_push 58 (1), o_bin 59 f_add, o_putI 62 14 (23), jbad, jbad, o_goto 26, jbad, jbad, o_iload 66 2, o_iload 67 1, o_ic_ne 70 72, jbad, jbad, o_iload 71 1, o_iret, o_iinc 75 2 (1), jbad, jbad, o_goto 7, jbad, jbad, o_iload 79 2, o_iret]
def tmp_M_run : List jOp := [o_aload 1 0, o_push 2 (0), o_putI 5 14 (0), jbad, jbad, o_iload 6 1, o_call 9 44 1 1 0 false, jbad, jbad, o_if_eq 12 16, jbad, jbad, o_iload 13 2, o_if_ge 16 18, jbad, jbad, o_push 17 (-1), o_iret, o_aload 19 0, o_iload 20 1, o_call 23 43 2 4 14 true, jbad, jbad, o_iload 24 2, o_aload 25 0, o_call 28 65 1 1 14 false, jbad, jbad, o_ic_ge 31 49, jbad, jbad, o_aload 32 0, o_iload 33 2, o_call 36 63 2 3 14 false, jbad, jbad, o_iload 37 2, o_ic_ne 40 49, jbad, jbad, o_iload 41 3, o_push 42 (0), o_push 43 (5), o_call 46 34 3 3 0 false, jbad, jbad, o_if_ne 49 51, jbad, jbad, o_push 50 (-1), o_iret, o_iload 52 3, o_if_ne 55 62, jbad, jbad, o_aload 56 0, o_getI 59 14 (22), jbad, jbad, o_goto 94, jbad, jbad, o_iload 63 3, o_push 64 (1), o_ic_ne 67 79, jbad, jbad, o_aload 68 0, o_getI 71 14 (23), jbad, jbad, o_aload 72 0, o_getI 75 14 (22), jbad, jbad, o_bin 76 f_sub, o_goto 94, jbad, jbad, o_aload 80 0, o_getR 83 14 (19), jbad, jbad, o_push 84 (4), o_aload 85 0, o_getI 88 14 (22), jbad, jbad, o_bin 89 f_mul, o_iload 90 3, o_bin 91 f_add, o_push 92 (2), o_bin 93 f_sub, o_nald 94 1, o_iret]
def tmp_M_runs : List jOp := [o_aload 1 0, o_push 4 (251), jbad, jbad, o_call 7 63 2 3 14 false, jbad, jbad, o_iret]
def tmp_M_lies : List jOp := [o_aload 1 0, o_push 2 (0), o_putI 5 14 (0), jbad, jbad, o_iload 6 1, o_call 9 44 1 1 0 false, jbad, jbad, o_if_eq 12 43, jbad, jbad, o_iload 13 2, o_push 14 (1), o_aload 15 0, o_getI 18 14 (1), jbad, jbad, o_call 21 34 3 3 0 false, jbad, jbad, o_if_eq 24 43, jbad, jbad, o_aload 25 0, o_getR 28 14 (2), jbad, jbad, o_iload 29 2, o_nald 30 1, o_push 31 (3), o_ic_ne 34 43, jbad, jbad, o_iload 35 3, o_push 36 (0), o_push 37 (1), o_call 40 34 3 3 0 false, jbad, jbad, o_if_ne 43 45, jbad, jbad, o_push 44 (-1), o_iret, o_aload 46 0, o_iload 47 1, o_call 50 43 2 4 14 true, jbad, jbad, o_aload 51 0, o_getR 54 14 (12), jbad, jbad, o_iload 55 2, o_nald 56 2, o_if_eq 59 68, jbad, jbad, o_aload 60 0, o_iload 61 2, o_iload 62 3, o_call 65 67 3 5 14 false, jbad, jbad, o_goto 69, jbad, jbad, o_push 69 (-1), o_iret]
def tmp_M_lying : List jOp := [o_aload 1 0, o_getR 4 14 (16), jbad, jbad, o_aload 5 0, o_getR 8 14 (15), jbad, jbad, o_aload 9 0, o_getR 12 14 (7), jbad, jbad, o_iload 13 1, o_nald 14 1, o_nald 15 1, o_nald 16 1, o_istore 17 3, o_aload 18 0, o_getR 21 14 (16), jbad, jbad, o_aload 22 0, o_getR 25 14 (15), jbad, jbad, o_aload 26 0, o_getR 29 14 (8), jbad, jbad, o_iload 30 1, o_nald 31 1, o_nald 32 1, o_push 33 (1), o_bin 34 f_add, o_nald 35 1, o_istore 37 4, jbad, o_iload 38 2, o_if_eq 41 47, jbad, jbad, o_iload 43 4, jbad, o_iload 44 3, o_ic_ge 47 51, jbad, jbad, o_iload 48 3, o_goto 53, jbad, jbad, o_iload 53 4, jbad, o_iret]
def tmp_M_kindOf : List jOp := [o_push 1 (0), o_istore 2 3, o_push 3 (1), o_istore 5 4, jbad, o_iload 7 4, jbad, o_aload 8 0, o_getI 11 14 (1), jbad, jbad, o_ic_gt 14 69, jbad, jbad, o_aload 15 0, o_getR 18 14 (2), jbad, jbad, o_iload 20 4, jbad, o_nald 21 1, o_push 22 (4), o_ic_ne 25 63, jbad, jbad, o_aload 26 0, o_getR 29 14 (7), jbad, jbad, o_iload 31 4, jbad, o_nald 32 1, o_iload 33 2, o_ic_ne 36 63, jbad, jbad, o_aload 37 0, o_getR 40 14 (12), jbad, jbad, o_iload 42 4, jbad, o_nald 43 2, o_if_eq 46 63, jbad, jbad, o_iload 47 3, o_if_eq 50 60, jbad, jbad, o_aload 51 0, o_iload 52 3, o_iload 54 4, jbad, o_call 57 36 3 3 14 false, jbad, jbad, o_if_eq 60 63, jbad, jbad, o_iload 62 4, jbad, o_istore 63 3, o_iinc 66 4 (1), jbad, jbad, o_goto 5, jbad, jbad, o_iload 70 3, o_if_ne 73 77, jbad, jbad, o_push 74 (0), o_goto 83, jbad, jbad, o_aload 78 0, o_getR 81 14 (5), jbad, jbad, o_iload 82 3, o_nald 83 1, o_iret]
def tmp_M_paragraph : List jOp := [o_aload 1 0, o_push 2 (0), o_putI 5 14 (0), jbad, jbad, o_iload 6 1, o_call 9 44 1 1 0 false, jbad, jbad, o_if_ne 12 14, jbad, jbad, o_push 13 (-1), o_iret, o_aload 15 0, o_iload 16 1, o_call 19 43 2 4 14 true, jbad, jbad, o_aload 20 0, o_iload 21 2, o_call 24 51 2 4 14 false, jbad, jbad, o_istore 26 4, jbad, o_iload 28 4, jbad, o_push 30 (-2), jbad, o_ic_ne 33 35, jbad, jbad, o_push 34 (-1), o_iret, o_push 36 (0), o_istore 38 5, jbad, o_iload 40 4, jbad, o_push 41 (1), o_bin 42 f_add, o_iload 44 5, jbad, o_bin 45 f_add, o_aload 46 0, o_getI 49 14 (17), jbad, jbad, o_ic_ge 52 80, jbad, jbad, o_aload 53 0, o_getR 56 14 (5), jbad, jbad, o_aload 57 0, o_getR 60 14 (18), jbad, jbad, o_iload 62 4, jbad, o_push 63 (1), o_bin 64 f_add, o_iload 66 5, jbad, o_bin 67 f_add, o_nald 68 1, o_nald 69 1, o_push 71 (10), jbad, o_ic_eq 74 80, jbad, jbad, o_iinc 77 5 (1), jbad, jbad, o_goto 38, jbad, jbad, o_iload 81 3, o_if_ne 84 91, jbad, jbad, o_iload 86 4, jbad, o_push 87 (1), o_bin 88 f_add, o_goto 132, jbad, jbad, o_iload 92 3, o_push 93 (1), o_ic_ne 96 101, jbad, jbad, o_iload 98 5, jbad, o_goto 132, jbad, jbad, o_iload 102 3, o_push 103 (2), o_ic_ne 106 131, jbad, jbad, o_aload 107 0, o_iload 108 1, o_iload 110 4, jbad, o_push 111 (-1), o_ic_ne 114 118, jbad, jbad, o_push 115 (0), o_goto 125, jbad, jbad, o_aload 119 0, o_getR 122 14 (18), jbad, jbad, o_iload 124 4, jbad, o_nald 125 1, o_call 128 68 3 5 14 false, jbad, jbad, o_goto 132, jbad, jbad, o_push 132 (-1), o_iret]
def tmp_M_row : List jOp := [o_aload 1 0, o_push 2 (0), o_putI 5 14 (0), jbad, jbad, o_iload 6 1, o_push 7 (1), o_aload 8 0, o_getI 11 14 (1), jbad, jbad, o_call 14 34 3 3 0 false, jbad, jbad, o_if_ne 17 19, jbad, jbad, o_push 18 (-1), o_iret, o_iload 20 2, o_switch 113 [(0, 64), (1, 71), (2, 78), (3, 85), (4, 92), (5, 99), (6, 106)], jbad, jbad, jbad, jbad, jbad, jbad, jbad, jbad, jbad, jbad, jbad, jbad, jbad, jbad, jbad, jbad, jbad, jbad, jbad, jbad, jbad, jbad, jbad, jbad, jbad, jbad, jbad, jbad, jbad, jbad, jbad, jbad, jbad, jbad, jbad, jbad, jbad, jbad, jbad, jbad, jbad, jbad, jbad, o_aload 65 0, o_getR 68 14 (2), jbad, jbad, o_iload 69 1, o_nald 70 1, o_iret, o_aload 72 0, o_getR 75 14 (3), jbad, jbad, o_iload 76 1, o_nald 77 1, o_iret, o_aload 79 0, o_getR 82 14 (4), jbad, jbad, o_iload 83 1, o_nald 84 1, o_iret, o_aload 86 0, o_getR 89 14 (5), jbad, jbad, o_iload 90 1, o_nald 91 1, o_iret, o_aload 93 0, o_getR 96 14 (6), jbad, jbad, o_iload 97 1, o_nald 98 1, o_iret, o_aload 100 0, o_getR 103 14 (7), jbad, jbad, o_iload 104 1, o_nald 105 1, o_iret, o_aload 107 0, o_getR 110 14 (8), jbad, jbad, o_iload 111 1, o_nald 112 1, o_iret, o_push 114 (-1), o_iret]
def tmp_M_paragraphs : List jOp := [o_push 1 (1), o_istore 2 1, o_push 3 (0), o_istore 4 2, o_iload 5 2, o_aload 6 0, o_getI 9 14 (17), jbad, jbad, o_ic_ge 12 42, jbad, jbad, o_iload 13 1, o_aload 14 0, o_getR 17 14 (5), jbad, jbad, o_aload 18 0, o_getR 21 14 (18), jbad, jbad, o_iload 22 2, o_nald 23 1, o_nald 24 1, o_push 26 (10), jbad, o_ic_ne 29 33, jbad, jbad, o_push 30 (1), o_goto 34, jbad, jbad, o_push 34 (0), o_bin 35 f_add, o_istore 36 1, o_iinc 39 2 (1), jbad, jbad, o_goto 4, jbad, jbad, o_iload 43 1, o_iret]
def tmp_M_kindAt : List jOp := [o_aload 1 0, o_iload 2 2, o_call 5 51 2 4 14 false, jbad, jbad, o_istore 6 3, o_aload 7 0, o_iload 8 1, o_iload 9 3, o_push 10 (-1), o_ic_ne 13 17, jbad, jbad, o_push 14 (0), o_goto 23, jbad, jbad, o_aload 18 0, o_getR 21 14 (18), jbad, jbad, o_iload 22 3, o_nald 23 1, o_call 26 68 3 5 14 false, jbad, jbad, o_iret]
def tmp_M_keep : List jOp := [o_aload 1 0, o_iload 2 1, o_call 5 43 2 4 14 true, jbad, jbad, o_aload 6 0, o_aload 7 0, o_getI 10 14 (17), jbad, jbad, o_putI 13 14 (24), jbad, jbad, o_push 14 (0), o_istore 15 2, o_iload 16 2, o_aload 17 0, o_getI 20 14 (17), jbad, jbad, o_ic_ge 23 46, jbad, jbad, o_aload 24 0, o_getR 27 14 (25), jbad, jbad, o_iload 28 2, o_aload 29 0, o_getR 32 14 (5), jbad, jbad, o_aload 33 0, o_getR 36 14 (18), jbad, jbad, o_iload 37 2, o_nald 38 1, o_nald 39 1, o_iast 40, o_iinc 43 2 (1), jbad, jbad, o_goto 15, jbad, jbad, o_push 47 (0), o_istore 48 2, o_iload 49 2, o_push 50 (4), o_aload 51 0, o_getI 54 14 (17), jbad, jbad, o_bin 55 f_mul, o_ic_ge 58 76, jbad, jbad, o_aload 59 0, o_getR 62 14 (26), jbad, jbad, o_iload 63 2, o_aload 64 0, o_getR 67 14 (19), jbad, jbad, o_iload 68 2, o_nald 69 1, o_iast 70, o_iinc 73 2 (1), jbad, jbad, o_goto 48, jbad, jbad, o_push 77 (1), o_istore 78 2, o_iload 79 2, o_aload 80 0, o_getI 83 14 (1), jbad, jbad, o_ic_gt 86 157, jbad, jbad, o_aload 87 0, o_getR 90 14 (2), jbad, jbad, o_iload 91 2, o_nald 92 1, o_push 93 (3), o_ic_ne 96 109, jbad, jbad, o_aload 97 0, o_getR 100 14 (12), jbad, jbad, o_iload 101 2, o_nald 102 2, o_if_eq 105 109, jbad, jbad, o_push 106 (1), o_goto 110, jbad, jbad, o_push 110 (0), o_istore 111 3, o_aload 112 0, o_getR 115 14 (27), jbad, jbad, o_iload 116 2, o_iload 117 3, o_if_eq 120 129, jbad, jbad, o_aload 121 0, o_iload 122 2, o_push 123 (0), o_call 126 67 3 5 14 false, jbad, jbad, o_goto 130, jbad, jbad, o_push 130 (-1), o_iast 131, o_aload 132 0, o_getR 135 14 (28), jbad, jbad, o_iload 136 2, o_iload 137 3, o_if_eq 140 149, jbad, jbad, o_aload 141 0, o_iload 142 2, o_push 143 (1), o_call 146 67 3 5 14 false, jbad, jbad, o_goto 150, jbad, jbad, o_push 150 (-1), o_iast 151, o_iinc 154 2 (1), jbad, jbad, o_goto 78, jbad, jbad, o_aload 158 0, o_aload 159 0, o_call 162 71 1 3 14 false, jbad, jbad, o_putI 165 14 (29), jbad, jbad, o_push 166 (0), o_istore 167 2, o_iload 168 2, o_aload 169 0, o_getI 172 14 (29), jbad, jbad, o_ic_ge 175 193, jbad, jbad, o_aload 176 0, o_getR 179 14 (30), jbad, jbad, o_iload 180 2, o_aload 181 0, o_iload 182 1, o_iload 183 2, o_call 186 72 3 4 14 false, jbad, jbad, o_iast 187, o_iinc 190 2 (1), jbad, jbad, o_goto 167, jbad, jbad, o_vret]
def tmp_M_alike : List jOp := [o_aload 1 0, o_push 2 (0), o_putI 5 14 (0), jbad, jbad, o_iload 6 1, o_call 9 44 1 1 0 false, jbad, jbad, o_if_eq 12 19, jbad, jbad, o_iload 13 2, o_call 16 44 1 1 0 false, jbad, jbad, o_if_ne 19 21, jbad, jbad, o_push 20 (0), o_zret, o_aload 22 0, o_iload 23 1, o_call 26 73 2 4 14 true, jbad, jbad, o_aload 27 0, o_iload 28 2, o_call 31 43 2 4 14 true, jbad, jbad, o_aload 32 0, o_getI 35 14 (17), jbad, jbad, o_aload 36 0, o_getI 39 14 (24), jbad, jbad, o_ic_eq 42 44, jbad, jbad, o_push 43 (0), o_zret, o_push 45 (0), o_istore 46 3, o_iload 47 3, o_aload 48 0, o_getI 51 14 (17), jbad, jbad, o_ic_ge 54 82, jbad, jbad, o_aload 55 0, o_getR 58 14 (25), jbad, jbad, o_iload 59 3, o_nald 60 1, o_aload 61 0, o_getR 64 14 (5), jbad, jbad, o_aload 65 0, o_getR 68 14 (18), jbad, jbad, o_iload 69 3, o_nald 70 1, o_nald 71 1, o_ic_eq 74 76, jbad, jbad, o_push 75 (0), o_zret, o_iinc 79 3 (1), jbad, jbad, o_goto 46, jbad, jbad, o_push 83 (0), o_istore 84 3, o_iload 85 3, o_push 86 (4), o_aload 87 0, o_getI 90 14 (17), jbad, jbad, o_bin 91 f_mul, o_ic_ge 94 117, jbad, jbad, o_aload 95 0, o_getR 98 14 (26), jbad, jbad, o_iload 99 3, o_nald 100 1, o_aload 101 0, o_getR 104 14 (19), jbad, jbad, o_iload 105 3, o_nald 106 1, o_ic_eq 109 111, jbad, jbad, o_push 110 (0), o_zret, o_iinc 114 3 (1), jbad, jbad, o_goto 84, jbad, jbad, o_push 118 (1), o_istore 119 3, o_iload 120 3, o_aload 121 0, o_getI 124 14 (1), jbad, jbad, o_ic_gt 127 209, jbad, jbad, o_aload 128 0, o_getR 131 14 (2), jbad, jbad, o_iload 132 3, o_nald 133 1, o_push 134 (3), o_ic_ne 137 150, jbad, jbad, o_aload 138 0, o_getR 141 14 (12), jbad, jbad, o_iload 142 3, o_nald 143 2, o_if_eq 146 150, jbad, jbad, o_push 147 (1), o_goto 151, jbad, jbad, o_push 151 (0), o_istore 153 4, jbad, o_aload 154 0, o_getR 157 14 (27), jbad, jbad, o_iload 158 3, o_nald 159 1, o_iload 161 4, jbad, o_if_eq 164 173, jbad, jbad, o_aload 165 0, o_iload 166 3, o_push 167 (0), o_call 170 67 3 5 14 false, jbad, jbad, o_goto 174, jbad, jbad, o_push 174 (-1), o_ic_ne 177 201, jbad, jbad, o_aload 178 0, o_getR 181 14 (28), jbad, jbad, o_iload 182 3, o_nald 183 1, o_iload 185 4, jbad, o_if_eq 188 197, jbad, jbad, o_aload 189 0, o_iload 190 3, o_push 191 (1), o_call 194 67 3 5 14 false, jbad, jbad, o_goto 198, jbad, jbad, o_push 198 (-1), o_ic_eq 201 203, jbad, jbad, o_push 202 (0), o_zret, o_iinc 206 3 (1), jbad, jbad, o_goto 119, jbad, jbad, o_push 210 (0), o_istore 211 3, o_iload 212 3, o_aload 213 0, o_getI 216 14 (29), jbad, jbad, o_ic_ge 219 242, jbad, jbad, o_aload 220 0, o_getR 223 14 (30), jbad, jbad, o_iload 224 3, o_nald 225 1, o_aload 226 0, o_iload 227 2, o_iload 228 3, o_call 231 72 3 4 14 false, jbad, jbad, o_ic_eq 234 236, jbad, jbad, o_push 235 (0), o_zret, o_iinc 239 3 (1), jbad, jbad, o_goto 211, jbad, jbad, o_push 243 (1), o_zret]
def tmp_M_units : List jOp := [o_push 1 (0), o_istore 2 1, o_push 3 (0), o_istore 4 2, o_iload 5 2, o_aload 6 0, o_getI 9 14 (17), jbad, jbad, o_ic_ge 12 42, jbad, jbad, o_iload 13 1, o_aload 14 0, o_getR 17 14 (5), jbad, jbad, o_aload 18 0, o_getR 21 14 (18), jbad, jbad, o_iload 22 2, o_nald 23 1, o_nald 24 1, o_push 26 (65535), jbad, o_ic_le 29 33, jbad, jbad, o_push 30 (2), o_goto 34, jbad, jbad, o_push 34 (1), o_bin 35 f_add, o_istore 36 1, o_iinc 39 2 (1), jbad, jbad, o_goto 4, jbad, jbad, o_iload 43 1, o_iret]
def tmp_M_knownRows : List jOp := [o_push 1 (0), o_istore 2 2, o_push 3 (1), o_istore 4 3, o_iload 5 3, o_aload 6 0, o_getI 9 14 (1), jbad, jbad, o_ic_gt 12 35, jbad, jbad, o_iload 13 2, o_aload 14 0, o_iload 15 1, o_iload 16 3, o_call 19 35 3 3 14 false, jbad, jbad, o_if_eq 22 26, jbad, jbad, o_push 23 (1), o_goto 27, jbad, jbad, o_push 27 (0), o_bin 28 f_add, o_istore 29 2, o_iinc 32 3 (1), jbad, jbad, o_goto 4, jbad, jbad, o_iload 36 2, o_iret]
def tmp_M_total : List jOp := [o_aload 1 0, o_push 2 (0), o_putI 5 14 (0), jbad, jbad, o_iload 6 1, o_call 9 44 1 1 0 false, jbad, jbad, o_if_ne 12 14, jbad, jbad, o_push 13 (-1), o_iret, o_aload 15 0, o_iload 16 1, o_call 19 43 2 4 14 true, jbad, jbad, o_iload 20 2, o_switch 102 [(0, 64), (1, 69), (2, 74), (3, 79), (4, 84), (5, 89), (6, 95)], jbad, jbad, jbad, jbad, jbad, jbad, jbad, jbad, jbad, jbad, jbad, jbad, jbad, jbad, jbad, jbad, jbad, jbad, jbad, jbad, jbad, jbad, jbad, jbad, jbad, jbad, jbad, jbad, jbad, jbad, jbad, jbad, jbad, jbad, jbad, jbad, jbad, jbad, jbad, jbad, jbad, jbad, jbad, o_aload 65 0, o_getI 68 14 (17), jbad, jbad, o_iret, o_aload 70 0, o_call 73 75 1 3 14 false, jbad, jbad, o_iret, o_aload 75 0, o_call 78 65 1 1 14 false, jbad, jbad, o_iret, o_aload 80 0, o_call 83 71 1 3 14 false, jbad, jbad, o_iret, o_aload 85 0, o_getI 88 14 (13), jbad, jbad, o_iret, o_aload 90 0, o_iload 91 1, o_call 94 76 2 4 14 false, jbad, jbad, o_iret, o_aload 96 0, o_getR 99 14 (10), jbad, jbad, o_iload 100 1, o_nald 101 1, o_iret, o_push 103 (-1), o_iret]
def tmp_N_init : List jOp := [o_aload 1 0, o_objinit 4, jbad, jbad, o_aload 5 0, o_push 8 (251), jbad, jbad, o_newa 10 2, jbad, o_putR 13 10 (0), jbad, jbad, o_vret]
def tmp_N_known : List jOp := [o_aload 1 0, o_getI 4 10 (1), jbad, jbad, o_iret]
def tmp_N_time : List jOp := [o_aload 1 0, o_getI 4 10 (2), jbad, jbad, o_iret]
def tmp_N_knows : List jOp := [o_iload 1 1, o_if_lt 4 26, jbad, jbad, o_iload 5 1, o_aload 6 0, o_getR 9 10 (0), jbad, jbad, o_alen 10 2, o_ic_ge 13 26, jbad, jbad, o_aload 14 0, o_getR 17 10 (0), jbad, jbad, o_iload 18 1, o_nald 19 2, o_if_eq 22 26, jbad, jbad, o_push 23 (1), o_goto 27, jbad, jbad, o_push 27 (0), o_zret]
def tmp_N_learn : List jOp := [o_iload 1 1, o_push 2 (1), o_ic_lt 5 23, jbad, jbad, o_iload 6 1, o_aload 7 0, o_getR 10 10 (0), jbad, jbad, o_alen 11 2, o_ic_ge 14 23, jbad, jbad, o_aload 15 0, o_getR 18 10 (0), jbad, jbad, o_iload 19 1, o_nald 20 2, o_if_eq 23 24, jbad, jbad, o_vret, o_aload 25 0, o_getR 28 10 (0), jbad, jbad, o_iload 29 1, o_push 30 (1), o_zast 31, o_aload 32 0, o_dup 33, o_getI 36 10 (1), jbad, jbad, o_push 37 (1), o_bin 38 f_add, o_putI 41 10 (1), jbad, jbad, o_aload 42 0, o_aload 43 0, o_getI 46 10 (2), jbad, jbad, o_iload 47 2, o_mm 50 f_max, jbad, jbad, o_putI 53 10 (2), jbad, jbad, o_vret]
def tmp_R_init : List jOp := [o_aload 1 0, o_objinit 4, jbad, jbad, o_aload 5 0, o_push 8 (1757), jbad, jbad, o_newa 10 1, jbad, o_putR 13 11 (1), jbad, jbad, o_aload 14 0, o_push 17 (251), jbad, jbad, o_newa 19 1, jbad, o_putR 22 11 (2), jbad, jbad, o_aload 23 0, o_push 26 (250), jbad, jbad, o_newa 28 1, jbad, o_putR 31 11 (3), jbad, jbad, o_aload 32 0, o_push 35 (250), jbad, jbad, o_newa 37 1, jbad, o_putR 40 11 (4), jbad, jbad, o_vret]
def tmp_R_count : List jOp := [o_aload 1 0, o_getI 4 11 (0), jbad, jbad, o_iret]
def tmp_R_has : List jOp := [o_iload 1 1, o_push 2 (1), o_ic_lt 5 17, jbad, jbad, o_iload 6 1, o_aload 7 0, o_getI 10 11 (0), jbad, jbad, o_ic_gt 13 17, jbad, jbad, o_push 14 (1), o_goto 18, jbad, jbad, o_push 18 (0), o_zret]
def tmp_R_cell : List jOp := [o_aload 1 0, o_iload 2 1, o_call 5 85 2 2 11 false, jbad, jbad, o_if_eq 8 32, jbad, jbad, o_iload 9 2, o_if_lt 12 32, jbad, jbad, o_iload 13 2, o_push 15 (7), jbad, o_ic_ge 18 32, jbad, jbad, o_aload 19 0, o_getR 22 11 (1), jbad, jbad, o_iload 23 1, o_push 25 (7), jbad, o_bin 26 f_mul, o_iload 27 2, o_bin 28 f_add, o_nald 29 1, o_goto 33, jbad, jbad, o_push 33 (-1), o_iret]
def tmp_R_undoOf : List jOp := [o_aload 1 0, o_iload 2 1, o_call 5 85 2 2 11 false, jbad, jbad, o_if_eq 8 17, jbad, jbad, o_aload 9 0, o_getR 12 11 (2), jbad, jbad, o_iload 13 1, o_nald 14 1, o_goto 18, jbad, jbad, o_push 18 (0), o_iret]
def tmp_R_inOrderAt : List jOp := [o_iload 1 1, o_if_lt 4 21, jbad, jbad, o_iload 5 1, o_aload 6 0, o_getI 9 11 (0), jbad, jbad, o_ic_ge 12 21, jbad, jbad, o_aload 13 0, o_getR 16 11 (3), jbad, jbad, o_iload 17 1, o_nald 18 1, o_goto 22, jbad, jbad, o_push 22 (0), o_iret]
def tmp_R_placeCount : List jOp := [o_aload 1 0, o_getI 4 11 (5), jbad, jbad, o_iret]
def tmp_R_placeAt : List jOp := [o_iload 1 1, o_if_lt 4 21, jbad, jbad, o_iload 5 1, o_aload 6 0, o_getI 9 11 (5), jbad, jbad, o_ic_ge 12 21, jbad, jbad, o_aload 13 0, o_getR 16 11 (4), jbad, jbad, o_iload 17 1, o_nald 18 1, o_goto 22, jbad, jbad, o_push 22 (0), o_iret]
def tmp_R_add : List jOp := [o_aload 1 0, o_getI 4 11 (0), jbad, jbad, o_push 7 (250), jbad, jbad, o_ic_lt 10 12, jbad, jbad, o_push 11 (-1), o_iret, o_aload 13 0, o_dup 14, o_getI 17 11 (0), jbad, jbad, o_push 18 (1), o_bin 19 f_add, o_putI 22 11 (0), jbad, jbad, o_aload 23 0, o_getI 26 11 (0), jbad, jbad, o_push 28 (7), jbad, o_bin 29 f_mul, o_istore 31 8, jbad, o_aload 32 0, o_getR 35 11 (1), jbad, jbad, o_iload 37 8, jbad, o_push 38 (0), o_bin 39 f_add, o_iload 40 3, o_iast 41, o_aload 42 0, o_getR 45 11 (1), jbad, jbad, o_iload 47 8, jbad, o_push 48 (1), o_bin 49 f_add, o_iload 50 1, o_iast 51, o_aload 52 0, o_getR 55 11 (1), jbad, jbad, o_iload 57 8, jbad, o_push 58 (2), o_bin 59 f_add, o_iload 60 2, o_iast 61, o_aload 62 0, o_getR 65 11 (1), jbad, jbad, o_iload 67 8, jbad, o_push 68 (3), o_bin 69 f_add, o_iload 71 4, jbad, o_iast 72, o_aload 73 0, o_getR 76 11 (1), jbad, jbad, o_iload 78 8, jbad, o_push 79 (4), o_bin 80 f_add, o_iload 82 5, jbad, o_iast 83, o_aload 84 0, o_getR 87 11 (1), jbad, jbad, o_iload 89 8, jbad, o_push 90 (5), o_bin 91 f_add, o_iload 93 6, jbad, o_iast 94, o_aload 95 0, o_getR 98 11 (1), jbad, jbad, o_iload 100 8, jbad, o_push 102 (6), jbad, o_bin 103 f_add, o_iload 105 7, jbad, o_iast 106, o_aload 107 0, o_aload 108 0, o_getI 111 11 (0), jbad, jbad, o_call 114 93 2 3 11 true, jbad, jbad, o_iload 115 3, o_if_ne 118 128, jbad, jbad, o_aload 119 0, o_aload 120 0, o_getI 123 11 (0), jbad, jbad, o_iload 125 6, jbad, o_call 128 94 3 5 11 true, jbad, jbad, o_iload 129 3, o_push 130 (5), o_ic_ne 133 153, jbad, jbad, o_aload 134 0, o_iload 136 6, jbad, o_call 139 85 2 2 11 false, jbad, jbad, o_if_eq 142 153, jbad, jbad, o_aload 143 0, o_getR 146 11 (2), jbad, jbad, o_iload 148 6, jbad, o_aload 149 0, o_getI 152 11 (0), jbad, jbad, o_iast 153, o_aload 154 0, o_getI 157 11 (0), jbad, jbad, o_iret]
def tmp_R_isLater : List jOp := [o_aload 1 0, o_iload 2 1, o_push 3 (2), o_call 6 86 3 3 11 false, jbad, jbad, o_istore 7 3, o_aload 8 0, o_iload 9 2, o_push 10 (2), o_call 13 86 3 3 11 false, jbad, jbad, o_istore 15 4, jbad, o_iload 16 3, o_iload 18 4, jbad, o_ic_gt 21 42, jbad, jbad, o_iload 22 3, o_iload 24 4, jbad, o_ic_ne 27 46, jbad, jbad, o_aload 28 0, o_iload 29 1, o_push 30 (1), o_call 33 86 3 3 11 false, jbad, jbad, o_aload 34 0, o_iload 35 2, o_push 36 (1), o_call 39 86 3 3 11 false, jbad, jbad, o_ic_le 42 46, jbad, jbad, o_push 43 (1), o_goto 47, jbad, jbad, o_push 47 (0), o_zret]
def tmp_R_fileInOrder : List jOp := [o_aload 1 0, o_getI 4 11 (0), jbad, jbad, o_push 5 (1), o_bin 6 f_sub, o_istore 7 2, o_iload 8 2, o_if_le 11 47, jbad, jbad, o_aload 12 0, o_aload 13 0, o_getR 16 11 (3), jbad, jbad, o_iload 17 2, o_push 18 (1), o_bin 19 f_sub, o_nald 20 1, o_iload 21 1, o_call 24 92 3 5 11 false, jbad, jbad, o_if_eq 27 47, jbad, jbad, o_aload 28 0, o_getR 31 11 (3), jbad, jbad, o_iload 32 2, o_aload 33 0, o_getR 36 11 (3), jbad, jbad, o_iload 37 2, o_push 38 (1), o_bin 39 f_sub, o_nald 40 1, o_iast 41, o_iinc 44 2 (-1), jbad, jbad, o_goto 7, jbad, jbad, o_aload 48 0, o_getR 51 11 (3), jbad, jbad, o_iload 52 2, o_iload 53 1, o_iast 54, o_vret]
def tmp_R_fileInPlaces : List jOp := [o_aload 1 0, o_iload 2 2, o_call 5 95 2 3 11 false, jbad, jbad, o_istore 6 3, o_iload 7 3, o_aload 8 0, o_getI 11 11 (5), jbad, jbad, o_ic_ge 14 34, jbad, jbad, o_aload 15 0, o_aload 16 0, o_getR 19 11 (4), jbad, jbad, o_iload 20 3, o_nald 21 1, o_iload 22 1, o_call 25 92 3 5 11 false, jbad, jbad, o_if_eq 28 34, jbad, jbad, o_iinc 31 3 (1), jbad, jbad, o_goto 6, jbad, jbad, o_aload 35 0, o_getI 38 11 (5), jbad, jbad, o_istore 40 4, jbad, o_iload 42 4, jbad, o_iload 43 3, o_ic_le 46 68, jbad, jbad, o_aload 47 0, o_getR 50 11 (4), jbad, jbad, o_iload 52 4, jbad, o_aload 53 0, o_getR 56 11 (4), jbad, jbad, o_iload 58 4, jbad, o_push 59 (1), o_bin 60 f_sub, o_nald 61 1, o_iast 62, o_iinc 65 4 (-1), jbad, jbad, o_goto 40, jbad, jbad, o_aload 69 0, o_getR 72 11 (4), jbad, jbad, o_iload 73 3, o_iload 74 1, o_iast 75, o_aload 76 0, o_dup 77, o_getI 80 11 (5), jbad, jbad, o_push 81 (1), o_bin 82 f_add, o_putI 85 11 (5), jbad, jbad, o_vret]
def tmp_R_firstPlaceBehind : List jOp := [o_push 1 (0), o_istore 2 2, o_iload 3 2, o_aload 4 0, o_getI 7 11 (5), jbad, jbad, o_ic_ge 10 30, jbad, jbad, o_aload 11 0, o_getR 14 11 (4), jbad, jbad, o_iload 15 2, o_nald 16 1, o_iload 17 1, o_ic_ne 20 24, jbad, jbad, o_iload 21 2, o_push 22 (1), o_bin 23 f_add, o_iret, o_iinc 27 2 (1), jbad, jbad, o_goto 2, jbad, jbad, o_push 31 (0), o_iret]
def tmp_V_init : List jOp := [o_aload 1 0, o_objinit 4, jbad, jbad, o_aload 5 0, o_push 8 (250), jbad, jbad, o_newa 10 1, jbad, o_putR 13 12 (1), jbad, jbad, o_aload 14 0, o_push 17 (250), jbad, jbad, o_newa 19 1, jbad, o_putR 22 12 (2), jbad, jbad, o_aload 23 0, o_push 26 (250), jbad, jbad, o_newa 28 1, jbad, o_putR 31 12 (3), jbad, jbad, o_aload 32 0, o_push 35 (251), jbad, jbad, o_newa 37 2, jbad, o_putR 40 12 (4), jbad, jbad, o_aload 41 0, o_push 44 (251), jbad, jbad, o_newa 46 2, jbad, o_putR 49 12 (5), jbad, jbad, o_aload 50 0, o_push 53 (251), jbad, jbad, o_newa 55 1, jbad, o_putR 58 12 (6), jbad, jbad, o_aload 59 0, o_push 62 (251), jbad, jbad, o_newa 64 1, jbad, o_putR 67 12 (7), jbad, jbad, o_vret]
def tmp_V_show : List jOp := [o_aload 1 0, o_aload 2 1, o_aload 3 2, o_call 6 98 3 5 12 true, jbad, jbad, o_aload 7 0, o_push 8 (0), o_putI 11 12 (0), jbad, jbad, o_push 12 (0), o_istore 13 3, o_iload 14 3, o_aload 15 1, o_call 18 89 1 1 11 false, jbad, jbad, o_ic_ge 21 92, jbad, jbad, o_aload 22 1, o_iload 23 3, o_call 26 90 2 2 11 false, jbad, jbad, o_istore 28 4, jbad, o_aload 29 0, o_getR 32 12 (6), jbad, jbad, o_iload 34 4, jbad, o_aload 35 0, o_getI 38 12 (0), jbad, jbad, o_iast 39, o_aload 40 0, o_getR 43 12 (5), jbad, jbad, o_iload 45 4, jbad, o_nald 46 2, o_if_eq 49 86, jbad, jbad, o_aload 50 0, o_getR 53 12 (1), jbad, jbad, o_aload 54 0, o_getI 57 12 (0), jbad, jbad, o_iload 59 4, jbad, o_iast 60, o_aload 61 0, o_getR 64 12 (2), jbad, jbad, o_aload 65 0, o_getI 68 12 (0), jbad, jbad, o_aload 69 1, o_iload 71 4, jbad, o_push 72 (3), o_call 75 86 3 3 11 false, jbad, jbad, o_iast 76, o_aload 77 0, o_dup 78, o_getI 81 12 (0), jbad, jbad, o_push 82 (1), o_bin 83 f_add, o_putI 86 12 (0), jbad, jbad, o_iinc 89 3 (1), jbad, jbad, o_goto 13, jbad, jbad, o_vret]
def tmp_V_markGoodAndSeen : List jOp := [o_push 1 (1), o_istore 2 3, o_iload 3 3, o_aload 4 1, o_call 7 84 1 1 11 false, jbad, jbad, o_ic_gt 10 105, jbad, jbad, o_aload 11 1, o_iload 12 3, o_push 13 (0), o_call 16 86 3 3 11 false, jbad, jbad, o_istore 18 4, jbad, o_aload 19 0, o_getR 22 12 (4), jbad, jbad, o_iload 23 3, o_aload 24 2, o_iload 25 3, o_call 28 81 2 2 10 false, jbad, jbad, o_if_eq 31 47, jbad, jbad, o_aload 32 2, o_aload 33 1, o_iload 34 3, o_call 37 87 2 2 11 false, jbad, jbad, o_call 40 81 2 2 10 false, jbad, jbad, o_if_ne 43 47, jbad, jbad, o_push 44 (1), o_goto 48, jbad, jbad, o_push 48 (0), o_zast 49, o_aload 50 0, o_getR 53 12 (5), jbad, jbad, o_iload 54 3, o_aload 55 0, o_getR 58 12 (4), jbad, jbad, o_iload 59 3, o_nald 60 2, o_if_eq 63 72, jbad, jbad, o_iload 65 4, jbad, o_if_ne 68 72, jbad, jbad, o_push 69 (1), o_goto 73, jbad, jbad, o_push 73 (0), o_zast 74, o_aload 75 0, o_getR 78 12 (4), jbad, jbad, o_iload 79 3, o_nald 80 2, o_if_eq 83 99, jbad, jbad, o_iload 85 4, jbad, o_push 86 (1), o_ic_ne 89 99, jbad, jbad, o_aload 90 0, o_aload 91 1, o_iload 92 3, o_push 93 (5), o_call 96 86 3 3 11 false, jbad, jbad, o_call 99 99 2 2 12 true, jbad, jbad, o_iinc 102 3 (1), jbad, jbad, o_goto 2, jbad, jbad, o_vret]
def tmp_V_hide : List jOp := [o_iload 1 1, o_if_lt 4 20, jbad, jbad, o_iload 5 1, o_aload 6 0, o_getR 9 12 (5), jbad, jbad, o_alen 10 2, o_ic_ge 13 20, jbad, jbad, o_aload 14 0, o_getR 17 12 (5), jbad, jbad, o_iload 18 1, o_push 19 (0), o_zast 20, o_vret]
def tmp_V_size : List jOp := [o_aload 1 0, o_getI 4 12 (0), jbad, jbad, o_iret]
def tmp_V_isGood : List jOp := [o_iload 1 1, o_if_lt 4 26, jbad, jbad, o_iload 5 1, o_aload 6 0, o_getR 9 12 (4), jbad, jbad, o_alen 10 2, o_ic_ge 13 26, jbad, jbad, o_aload 14 0, o_getR 17 12 (4), jbad, jbad, o_iload 18 1, o_nald 19 2, o_if_eq 22 26, jbad, jbad, o_push 23 (1), o_goto 27, jbad, jbad, o_push 27 (0), o_zret]
def tmp_V_hasPlace : List jOp := [o_iload 1 1, o_if_lt 4 16, jbad, jbad, o_iload 5 1, o_aload 6 0, o_getI 9 12 (0), jbad, jbad, o_ic_ge 12 16, jbad, jbad, o_push 13 (1), o_goto 17, jbad, jbad, o_push 17 (0), o_zret]
def tmp_V_hasRange : List jOp := [o_iload 1 1, o_if_lt 4 21, jbad, jbad, o_iload 5 1, o_iload 6 2, o_ic_ge 9 21, jbad, jbad, o_iload 10 2, o_aload 11 0, o_getI 14 12 (0), jbad, jbad, o_ic_gt 17 21, jbad, jbad, o_push 18 (1), o_goto 22, jbad, jbad, o_push 22 (0), o_zret]
def tmp_V_insertAt : List jOp := [o_aload 1 0, o_iload 2 1, o_call 5 102 2 2 12 false, jbad, jbad, o_if_eq 8 17, jbad, jbad, o_aload 9 0, o_getR 12 12 (1), jbad, jbad, o_iload 13 1, o_nald 14 1, o_goto 18, jbad, jbad, o_push 18 (0), o_iret]
def tmp_V_signAt : List jOp := [o_aload 1 0, o_iload 2 1, o_call 5 102 2 2 12 false, jbad, jbad, o_if_eq 8 17, jbad, jbad, o_aload 9 0, o_getR 12 12 (2), jbad, jbad, o_iload 13 1, o_nald 14 1, o_goto 18, jbad, jbad, o_push 18 (-1), o_iret]
def tmp_V_aheadOf : List jOp := [o_iload 1 1, o_if_lt 4 22, jbad, jbad, o_iload 5 1, o_aload 6 0, o_getR 9 12 (6), jbad, jbad, o_alen 10 1, o_ic_ge 13 22, jbad, jbad, o_aload 14 0, o_getR 17 12 (6), jbad, jbad, o_iload 18 1, o_nald 19 1, o_goto 23, jbad, jbad, o_push 23 (0), o_iret]
def tmp_V_aheadBehind : List jOp := [o_iload 1 1, o_if_lt 4 26, jbad, jbad, o_iload 5 1, o_aload 6 0, o_getR 9 12 (5), jbad, jbad, o_alen 10 2, o_ic_ge 13 26, jbad, jbad, o_aload 14 0, o_getR 17 12 (5), jbad, jbad, o_iload 18 1, o_nald 19 2, o_if_eq 22 26, jbad, jbad, o_push 23 (1), o_goto 27, jbad, jbad, o_push 27 (0), o_istore 28 2, o_aload 29 0, o_iload 30 1, o_call 33 106 2 2 12 false, jbad, jbad, o_iload 34 2, o_bin 35 f_add, o_iret]
def tmp_V_unitCount : List jOp := [o_push 1 (0), o_istore 2 1, o_push 3 (0), o_istore 4 2, o_iload 5 2, o_aload 6 0, o_getI 9 12 (0), jbad, jbad, o_ic_ge 12 30, jbad, jbad, o_iload 13 1, o_aload 14 0, o_getR 17 12 (2), jbad, jbad, o_iload 18 2, o_nald 19 1, o_call 22 110 1 1 0 false, jbad, jbad, o_bin 23 f_add, o_istore 24 1, o_iinc 27 2 (1), jbad, jbad, o_goto 4, jbad, jbad, o_iload 31 1, o_iret]
def tmp_V_unitAt : List jOp := [o_iload 1 1, o_if_ge 4 6, jbad, jbad, o_push 5 (-1), o_iret, o_iload 7 1, o_istore 8 2, o_push 9 (0), o_istore 10 3, o_iload 11 3, o_aload 12 0, o_getI 15 12 (0), jbad, jbad, o_ic_ge 18 57, jbad, jbad, o_aload 19 0, o_getR 22 12 (2), jbad, jbad, o_iload 23 3, o_nald 24 1, o_call 27 110 1 1 0 false, jbad, jbad, o_istore 29 4, jbad, o_iload 30 2, o_iload 32 4, jbad, o_ic_ge 35 46, jbad, jbad, o_aload 36 0, o_getR 39 12 (2), jbad, jbad, o_iload 40 3, o_nald 41 1, o_iload 42 2, o_call 45 111 2 3 0 false, jbad, jbad, o_iret, o_iload 47 2, o_iload 49 4, jbad, o_bin 50 f_sub, o_istore 51 2, o_iinc 54 3 (1), jbad, jbad, o_goto 10, jbad, jbad, o_push 58 (-1), o_iret]
def tmp_V_widthOf : List jOp := [o_iload 1 0, o_push 3 (65536), jbad, o_ic_lt 6 10, jbad, jbad, o_push 7 (2), o_goto 11, jbad, jbad, o_push 11 (1), o_iret]
def tmp_V_partOf : List jOp := [o_iload 1 0, o_push 3 (65536), jbad, o_ic_ge 6 8, jbad, jbad, o_iload 7 0, o_iret, o_iload 9 0, o_push 11 (65536), jbad, o_bin 12 f_sub, o_istore 13 2, o_iload 14 1, o_if_ne 17 28, jbad, jbad, o_push 19 (55296), jbad, o_iload 20 2, o_push 23 (1024), jbad, jbad, o_dv 24 f_div, o_bin 25 f_add, o_goto 36, jbad, jbad, o_push 30 (56320), jbad, o_iload 31 2, o_push 34 (1024), jbad, jbad, o_dv 35 f_rem, o_bin 36 f_add, o_iret]
def tmp_V_paint : List jOp := [o_push 1 (0), o_istore 2 2, o_iload 3 2, o_aload 4 0, o_getI 7 12 (0), jbad, jbad, o_ic_ge 10 23, jbad, jbad, o_aload 11 0, o_getR 14 12 (3), jbad, jbad, o_iload 15 2, o_push 16 (0), o_iast 17, o_iinc 20 2 (1), jbad, jbad, o_goto 2, jbad, jbad, o_push 24 (0), o_istore 25 2, o_iload 26 2, o_aload 27 1, o_call 30 84 1 1 11 false, jbad, jbad, o_ic_ge 33 69, jbad, jbad, o_aload 34 1, o_iload 35 2, o_call 38 88 2 2 11 false, jbad, jbad, o_istore 39 3, o_aload 40 0, o_iload 41 3, o_call 44 101 2 2 12 false, jbad, jbad, o_if_eq 47 63, jbad, jbad, o_aload 48 1, o_iload 49 3, o_push 50 (0), o_call 53 86 3 3 11 false, jbad, jbad, o_push 54 (2), o_ic_ne 57 63, jbad, jbad, o_aload 58 0, o_aload 59 1, o_iload 60 3, o_call 63 113 3 9 12 true, jbad, jbad, o_iinc 66 2 (1), jbad, jbad, o_goto 25, jbad, jbad, o_vret]
def tmp_V_paintOne : List jOp := [o_aload 1 1, o_iload 2 2, o_push 3 (3), o_call 6 86 3 3 11 false, jbad, jbad, o_istore 7 3, o_iload 8 3, o_push 9 (4), o_bin 10 f_mul, o_istore 12 4, jbad, o_aload 13 1, o_iload 14 2, o_push 15 (4), o_call 18 86 3 3 11 false, jbad, jbad, o_iload 20 4, jbad, o_bin 21 f_shl, o_istore 23 5, jbad, o_push 25 (15), jbad, o_iload 27 4, jbad, o_bin 28 f_shl, o_push 29 (-1), o_bin 30 f_xor, o_istore 32 6, jbad, o_aload 33 0, o_iload 34 3, o_aload 35 1, o_iload 36 2, o_push 38 (6), jbad, o_call 41 86 3 3 11 false, jbad, jbad, o_call 44 114 3 3 12 false, jbad, jbad, o_istore 46 7, jbad, o_aload 47 0, o_aload 48 1, o_iload 49 2, o_push 50 (5), o_call 53 86 3 3 11 false, jbad, jbad, o_call 56 106 2 2 12 false, jbad, jbad, o_istore 58 8, jbad, o_iload 60 8, jbad, o_iload 62 7, jbad, o_ic_ge 65 91, jbad, jbad, o_aload 66 0, o_getR 69 12 (3), jbad, jbad, o_iload 71 8, jbad, o_aload 72 0, o_getR 75 12 (3), jbad, jbad, o_iload 77 8, jbad, o_nald 78 1, o_iload 80 6, jbad, o_bin 81 f_and, o_iload 83 5, jbad, o_bin 84 f_or, o_iast 85, o_iinc 88 8 (1), jbad, jbad, o_goto 58, jbad, jbad, o_vret]
def tmp_V_endOf : List jOp := [o_iload 1 1, o_call 4 23 1 1 0 false, jbad, jbad, o_if_ne 7 13, jbad, jbad, o_aload 8 0, o_iload 9 2, o_call 12 107 2 3 12 false, jbad, jbad, o_iret, o_iload 14 2, o_if_ne 17 24, jbad, jbad, o_aload 18 0, o_getI 21 12 (0), jbad, jbad, o_goto 29, jbad, jbad, o_aload 25 0, o_iload 26 2, o_call 29 106 2 2 12 false, jbad, jbad, o_iret]
def tmp_V_valueAt : List jOp := [o_aload 1 0, o_iload 2 1, o_call 5 102 2 2 12 false, jbad, jbad, o_if_eq 8 24, jbad, jbad, o_aload 9 0, o_getR 12 12 (3), jbad, jbad, o_iload 13 1, o_nald 14 1, o_iload 15 2, o_push 16 (4), o_bin 17 f_mul, o_bin 18 f_shr, o_push 20 (15), jbad, o_bin 21 f_and, o_goto 25, jbad, jbad, o_push 25 (-1), o_iret]
def tmp_V_startsRun : List jOp := [o_iload 1 1, o_if_eq 4 21, jbad, jbad, o_aload 5 0, o_getR 8 12 (3), jbad, jbad, o_iload 9 1, o_nald 10 1, o_aload 11 0, o_getR 14 12 (3), jbad, jbad, o_iload 15 1, o_push 16 (1), o_bin 17 f_sub, o_nald 18 1, o_ic_eq 21 25, jbad, jbad, o_push 22 (1), o_goto 26, jbad, jbad, o_push 26 (0), o_zret]
def tmp_V_runCount : List jOp := [o_push 1 (0), o_istore 2 1, o_push 3 (0), o_istore 4 2, o_iload 5 2, o_aload 6 0, o_getI 9 12 (0), jbad, jbad, o_ic_ge 12 29, jbad, jbad, o_aload 13 0, o_iload 14 2, o_call 17 116 2 2 12 false, jbad, jbad, o_if_eq 20 23, jbad, jbad, o_iinc 23 1 (1), jbad, jbad, o_iinc 26 2 (1), jbad, jbad, o_goto 4, jbad, jbad, o_iload 30 1, o_iret]
def tmp_V_runStart : List jOp := [o_push 1 (0), o_istore 2 2, o_push 3 (0), o_istore 4 3, o_iload 5 3, o_aload 6 0, o_getI 9 12 (0), jbad, jbad, o_ic_ge 12 36, jbad, jbad, o_aload 13 0, o_iload 14 3, o_call 17 116 2 2 12 false, jbad, jbad, o_if_eq 20 30, jbad, jbad, o_iload 21 2, o_iload 22 1, o_ic_ne 25 27, jbad, jbad, o_iload 26 3, o_iret, o_iinc 30 2 (1), jbad, jbad, o_iinc 33 3 (1), jbad, jbad, o_goto 4, jbad, jbad, o_push 37 (-1), o_iret]
def tmp_V_runEnd : List jOp := [o_iload 1 1, o_push 2 (1), o_bin 3 f_add, o_istore 4 2, o_iload 5 2, o_aload 6 0, o_getI 9 12 (0), jbad, jbad, o_ic_ge 12 26, jbad, jbad, o_aload 13 0, o_iload 14 2, o_call 17 116 2 2 12 false, jbad, jbad, o_if_ne 20 26, jbad, jbad, o_iinc 23 2 (1), jbad, jbad, o_goto 4, jbad, jbad, o_iload 27 2, o_iret]
def tmp_V_paragraphCount : List jOp := [o_push 1 (1), o_istore 2 1, o_push 3 (0), o_istore 4 2, o_iload 5 2, o_aload 6 0, o_getI 9 12 (0), jbad, jbad, o_ic_ge 12 32, jbad, jbad, o_aload 13 0, o_getR 16 12 (2), jbad, jbad, o_iload 17 2, o_nald 18 1, o_push 20 (10), jbad, o_ic_ne 23 26, jbad, jbad, o_iinc 26 1 (1), jbad, jbad, o_iinc 29 2 (1), jbad, jbad, o_goto 4, jbad, jbad, o_iload 33 1, o_iret]
def tmp_V_paragraphStart : List jOp := [o_iload 1 1, o_if_ne 4 6, jbad, jbad, o_push 5 (0), o_iret, o_push 7 (0), o_istore 8 2, o_push 9 (0), o_istore 10 3, o_iload 11 3, o_aload 12 0, o_getI 15 12 (0), jbad, jbad, o_ic_ge 18 47, jbad, jbad, o_aload 19 0, o_getR 22 12 (2), jbad, jbad, o_iload 23 3, o_nald 24 1, o_push 26 (10), jbad, o_ic_ne 29 41, jbad, jbad, o_iinc 32 2 (1), jbad, jbad, o_iload 33 2, o_iload 34 1, o_ic_ne 37 41, jbad, jbad, o_iload 38 3, o_push 39 (1), o_bin 40 f_add, o_iret, o_iinc 44 3 (1), jbad, jbad, o_goto 10, jbad, jbad, o_push 48 (-1), o_iret]
def tmp_V_paragraphEnd : List jOp := [o_iload 1 1, o_istore 2 2, o_iload 3 2, o_aload 4 0, o_getI 7 12 (0), jbad, jbad, o_ic_ge 10 27, jbad, jbad, o_aload 11 0, o_getR 14 12 (2), jbad, jbad, o_iload 15 2, o_nald 16 1, o_push 18 (10), jbad, o_ic_eq 21 27, jbad, jbad, o_iinc 24 2 (1), jbad, jbad, o_goto 2, jbad, jbad, o_iload 28 2, o_iret]
def tmp_V_tellKinds : List jOp := [o_push 1 (0), o_istore 2 2, o_iload 3 2, o_aload 4 0, o_getR 7 12 (7), jbad, jbad, o_alen 8 1, o_ic_ge 11 24, jbad, jbad, o_aload 12 0, o_getR 15 12 (7), jbad, jbad, o_iload 16 2, o_push 17 (0), o_iast 18, o_iinc 21 2 (1), jbad, jbad, o_goto 2, jbad, jbad, o_push 25 (0), o_istore 26 2, o_iload 27 2, o_aload 28 1, o_call 31 84 1 1 11 false, jbad, jbad, o_ic_ge 34 80, jbad, jbad, o_aload 35 1, o_iload 36 2, o_call 39 88 2 2 11 false, jbad, jbad, o_istore 40 3, o_aload 41 0, o_iload 42 3, o_call 45 101 2 2 12 false, jbad, jbad, o_if_eq 48 74, jbad, jbad, o_aload 49 1, o_iload 50 3, o_push 51 (0), o_call 54 86 3 3 11 false, jbad, jbad, o_push 55 (4), o_ic_ne 58 74, jbad, jbad, o_aload 59 0, o_aload 60 1, o_iload 61 3, o_push 62 (5), o_call 65 86 3 3 11 false, jbad, jbad, o_aload 66 1, o_iload 67 3, o_push 68 (3), o_call 71 86 3 3 11 false, jbad, jbad, o_call 74 124 3 3 12 true, jbad, jbad, o_iinc 77 2 (1), jbad, jbad, o_goto 26, jbad, jbad, o_vret]
def tmp_V_keepKind : List jOp := [o_iload 1 1, o_if_lt 4 20, jbad, jbad, o_iload 5 1, o_aload 6 0, o_getR 9 12 (7), jbad, jbad, o_alen 10 1, o_ic_ge 13 20, jbad, jbad, o_aload 14 0, o_getR 17 12 (7), jbad, jbad, o_iload 18 1, o_iload 19 2, o_iast 20, o_vret]
def tmp_V_kindFrom : List jOp := [o_aload 1 0, o_iload 2 1, o_push 3 (1), o_bin 4 f_sub, o_call 7 104 2 2 12 false, jbad, jbad, o_istore 8 2, o_iload 9 2, o_if_lt 12 30, jbad, jbad, o_iload 13 2, o_aload 14 0, o_getR 17 12 (7), jbad, jbad, o_alen 18 1, o_ic_ge 21 30, jbad, jbad, o_aload 22 0, o_getR 25 12 (7), jbad, jbad, o_iload 26 2, o_nald 27 1, o_goto 31, jbad, jbad, o_push 31 (0), o_iret]
def tmp_V_hasSameText : List jOp := [o_aload 1 0, o_getI 4 12 (0), jbad, jbad, o_aload 5 1, o_getI 8 12 (0), jbad, jbad, o_ic_eq 11 13, jbad, jbad, o_push 12 (0), o_zret, o_push 14 (0), o_istore 15 2, o_iload 16 2, o_aload 17 0, o_getI 20 12 (0), jbad, jbad, o_ic_ge 23 61, jbad, jbad, o_aload 24 0, o_getR 27 12 (2), jbad, jbad, o_iload 28 2, o_nald 29 1, o_aload 30 1, o_getR 33 12 (2), jbad, jbad, o_iload 34 2, o_nald 35 1, o_ic_ne 38 53, jbad, jbad, o_aload 39 0, o_getR 42 12 (3), jbad, jbad, o_iload 43 2, o_nald 44 1, o_aload 45 1, o_getR 48 12 (3), jbad, jbad, o_iload 49 2, o_nald 50 1, o_ic_eq 53 55, jbad, jbad, o_push 54 (0), o_zret, o_iinc 58 2 (1), jbad, jbad, o_goto 15, jbad, jbad, o_push 62 (1), o_zret]
def tmp_V_hasSameKinds : List jOp := [o_aload 1 0, o_push 2 (0), o_call 5 125 2 3 12 false, jbad, jbad, o_aload 6 1, o_push 7 (0), o_call 10 125 2 3 12 false, jbad, jbad, o_ic_eq 13 15, jbad, jbad, o_push 14 (0), o_zret, o_push 16 (0), o_istore 17 2, o_iload 18 2, o_aload 19 0, o_getI 22 12 (0), jbad, jbad, o_ic_ge 25 61, jbad, jbad, o_aload 26 0, o_getR 29 12 (2), jbad, jbad, o_iload 30 2, o_nald 31 1, o_push 33 (10), jbad, o_ic_ne 36 55, jbad, jbad, o_aload 37 0, o_iload 38 2, o_push 39 (1), o_bin 40 f_add, o_call 43 125 2 3 12 false, jbad, jbad, o_aload 44 1, o_iload 45 2, o_push 46 (1), o_bin 47 f_add, o_call 50 125 2 3 12 false, jbad, jbad, o_ic_eq 53 55, jbad, jbad, o_push 54 (0), o_zret, o_iinc 58 2 (1), jbad, jbad, o_goto 17, jbad, jbad, o_push 62 (1), o_zret]
def tmPl : List (List jOp) := [tmp_L_law, tmp_T_init, tmp_T_insert, tmp_T_delete, tmp_T_style, tmp_T_comment, tmp_T_block, tmp_T_undo, tmp_T_see, tmp_T_meet, tmp_T_sign, tmp_T_id, tmp_T_unit, tmp_T_styled, tmp_T_run, tmp_T_lies, tmp_T_paragraph, tmp_T_row, tmp_T_alike, tmp_T_total, tmp_T_nodeOf, tmp_T_isSign, tmp_T_isKey, tmp_T_grows, tmp_T_shows, tmp_T_write, tmp_T_knowsNeeds, tmp_T_placesOf, tmp_T_commentFrom, tmp_T_commentTo, tmp_T_showAll, tmp_T_haveSameComments, tmp_T_isSameComment, tmp_M_init, tmp_M_within, tmp_M_knowsRow, tmp_M_isBefore, tmp_M_judge, tmp_M_findOrder, tmp_M_findPlaces, tmp_M_isDeleted, tmp_M_covers, tmp_M_findStyles, tmp_M_look, tmp_M_isNode, tmp_M_add, tmp_M_isSign, tmp_M_insert, tmp_M_delete, tmp_M_style, tmp_M_comment, tmp_M_startOf, tmp_M_block, tmp_M_undo, tmp_M_learn, tmp_M_see, tmp_M_meet, tmp_M_isSeen, tmp_M_sign, tmp_M_id, tmp_M_unit, tmp_M_styled, tmp_M_areAlike, tmp_M_findRun, tmp_M_run, tmp_M_runs, tmp_M_lies, tmp_M_lying, tmp_M_kindOf, tmp_M_paragraph, tmp_M_row, tmp_M_paragraphs, tmp_M_kindAt, tmp_M_keep, tmp_M_alike, tmp_M_units, tmp_M_knownRows, tmp_M_total, tmp_N_init, tmp_N_known, tmp_N_time, tmp_N_knows, tmp_N_learn, tmp_R_init, tmp_R_count, tmp_R_has, tmp_R_cell, tmp_R_undoOf, tmp_R_inOrderAt, tmp_R_placeCount, tmp_R_placeAt, tmp_R_add, tmp_R_isLater, tmp_R_fileInOrder, tmp_R_fileInPlaces, tmp_R_firstPlaceBehind, tmp_V_init, tmp_V_show, tmp_V_markGoodAndSeen, tmp_V_hide, tmp_V_size, tmp_V_isGood, tmp_V_hasPlace, tmp_V_hasRange, tmp_V_insertAt, tmp_V_signAt, tmp_V_aheadOf, tmp_V_aheadBehind, tmp_V_unitCount, tmp_V_unitAt, tmp_V_widthOf, tmp_V_partOf, tmp_V_paint, tmp_V_paintOne, tmp_V_endOf, tmp_V_valueAt, tmp_V_startsRun, tmp_V_runCount, tmp_V_runStart, tmp_V_runEnd, tmp_V_paragraphCount, tmp_V_paragraphStart, tmp_V_paragraphEnd, tmp_V_tellKinds, tmp_V_keepKind, tmp_V_kindFrom, tmp_V_hasSameText, tmp_V_hasSameKinds]
def tmP (j pc : Nat) : jOp := (tmPl.getD j []).getD pc jbad
def wp (j pc : Nat) (ls st : List jV) (g : jG) (m : jM) (Q : jV → jG → jM → Prop) : Prop := jwp tmP j pc ls st g m Q
end
section
theorem jmem_1 {i : Nat} {w : Cond} (h : tables_1_1[i]? = some w) (hg : goodWord w = true) : w ∈ jgw := List.mem_filter.mpr ⟨List.mem_append_right _ (List.mem_append_left _ (List.mem_of_getElem? h)), hg⟩
theorem jmem_2 {i : Nat} {w : Cond} (h : tables_1_2[i]? = some w) (hg : goodWord w = true) : w ∈ jgw := List.mem_filter.mpr ⟨List.mem_append_right _ (List.mem_append_right _ (List.mem_append_left _ (List.mem_of_getElem? h))), hg⟩
theorem jmem_3 {i : Nat} {w : Cond} (h : tables_1_3[i]? = some w) (hg : goodWord w = true) : w ∈ jgw := List.mem_filter.mpr ⟨List.mem_append_right _ (List.mem_append_right _ (List.mem_append_right _ (List.mem_of_getElem? h))), hg⟩
theorem jmem_0 {i : Nat} {w : Cond} (h : (k2_sels lw_privs)[i]? = some w) (hg : goodWord w = true) : w ∈ jgw := List.mem_filter.mpr ⟨List.mem_append_left _ (List.mem_of_getElem? h), hg⟩
theorem jmeml_1 {i : Nat} {w : Cond} (h : tables_1_1[i]? = some w) : w ∈ lw_tbl := List.mem_append_right _ (List.mem_append_left _ (List.mem_of_getElem? h))
theorem jmeml_2 {i : Nat} {w : Cond} (h : tables_1_2[i]? = some w) : w ∈ lw_tbl := List.mem_append_right _ (List.mem_append_right _ (List.mem_append_left _ (List.mem_of_getElem? h)))
theorem jmeml_3 {i : Nat} {w : Cond} (h : tables_1_3[i]? = some w) : w ∈ lw_tbl := List.mem_append_right _ (List.mem_append_right _ (List.mem_append_right _ (List.mem_of_getElem? h)))
theorem wd_0 : Cond.classLink "TextMarksLaw" 7 "TextMarks" ∈ jgw := jmem_1 (i := 7) rfl rfl
theorem wd_1 : Cond.instantiable "TextMarks" 4 ∈ jgw := jmem_1 (i := 8) rfl rfl
theorem wd_2 : Cond.initialized "TextMarks" ∈ jgw := jmem_1 (i := 1) rfl rfl
theorem wd_3 : Cond.methodLink "TextMarksLaw" 9 ⟨"TextMarks", "<init>", "()V"⟩ ∈ jgw := jmem_1 (i := 9) rfl rfl
theorem wd_4 : Cond.instanceMethod ⟨"TextMarks", "<init>", "()V"⟩ ∈ jgw := jmem_1 (i := 10) rfl rfl
theorem wd_5 : Cond.classLink "TextMarksLaw" 10 "TextMarksModel" ∈ jgw := jmem_2 (i := 195) rfl rfl
theorem wd_6 : Cond.instantiable "TextMarksModel" 31 ∈ jgw := jmem_2 (i := 196) rfl rfl
theorem wd_7 : Cond.initialized "TextMarksModel" ∈ jgw := jmem_1 (i := 5) rfl rfl
theorem wd_8 : Cond.methodLink "TextMarksLaw" 12 ⟨"TextMarksModel", "<init>", "()V"⟩ ∈ jgw := jmem_2 (i := 197) rfl rfl
theorem wd_9 : Cond.instanceMethod ⟨"TextMarksModel", "<init>", "()V"⟩ ∈ jgw := jmem_2 (i := 198) rfl rfl
theorem wd_10 : Cond.methodLink "TextMarksLaw" 13 ⟨"TextMarks", "insert", "(III)I"⟩ ∈ jgw := jmem_1 (i := 103) rfl rfl
theorem wd_11 : Cond.instanceMethod ⟨"TextMarks", "insert", "(III)I"⟩ ∈ jgw := jmem_1 (i := 104) rfl rfl
theorem wd_12 : Cond.selects "TextMarks" ⟨"TextMarks", "insert", "(III)I"⟩ ⟨"TextMarks", "insert", "(III)I"⟩ ∈ jgw := jmem_1 (i := 105) rfl rfl
theorem wd_13 : Cond.methodLink "TextMarksLaw" 17 ⟨"TextMarksModel", "insert", "(III)I"⟩ ∈ jgw := jmem_3 (i := 55) rfl rfl
theorem wd_14 : Cond.instanceMethod ⟨"TextMarksModel", "insert", "(III)I"⟩ ∈ jgw := jmem_3 (i := 56) rfl rfl
theorem wd_15 : Cond.selects "TextMarksModel" ⟨"TextMarksModel", "insert", "(III)I"⟩ ⟨"TextMarksModel", "insert", "(III)I"⟩ ∈ jgw := jmem_3 (i := 57) rfl rfl
theorem wd_16 : Cond.methodLink "TextMarksLaw" 18 ⟨"TextMarks", "delete", "(II)I"⟩ ∈ jgw := jmem_1 (i := 209) rfl rfl
theorem wd_17 : Cond.instanceMethod ⟨"TextMarks", "delete", "(II)I"⟩ ∈ jgw := jmem_1 (i := 210) rfl rfl
theorem wd_18 : Cond.selects "TextMarks" ⟨"TextMarks", "delete", "(II)I"⟩ ⟨"TextMarks", "delete", "(II)I"⟩ ∈ jgw := jmem_1 (i := 211) rfl rfl
theorem wd_19 : Cond.methodLink "TextMarksLaw" 22 ⟨"TextMarksModel", "delete", "(II)I"⟩ ∈ jgw := jmem_3 (i := 111) rfl rfl
theorem wd_20 : Cond.instanceMethod ⟨"TextMarksModel", "delete", "(II)I"⟩ ∈ jgw := jmem_3 (i := 112) rfl rfl
theorem wd_21 : Cond.selects "TextMarksModel" ⟨"TextMarksModel", "delete", "(II)I"⟩ ⟨"TextMarksModel", "delete", "(II)I"⟩ ∈ jgw := jmem_3 (i := 113) rfl rfl
theorem wd_22 : Cond.methodLink "TextMarksLaw" 23 ⟨"TextMarks", "style", "(IIIII)I"⟩ ∈ jgw := jmem_1 (i := 214) rfl rfl
theorem wd_23 : Cond.instanceMethod ⟨"TextMarks", "style", "(IIIII)I"⟩ ∈ jgw := jmem_1 (i := 215) rfl rfl
theorem wd_24 : Cond.selects "TextMarks" ⟨"TextMarks", "style", "(IIIII)I"⟩ ⟨"TextMarks", "style", "(IIIII)I"⟩ ∈ jgw := jmem_1 (i := 216) rfl rfl
theorem wd_25 : Cond.methodLink "TextMarksLaw" 27 ⟨"TextMarksModel", "style", "(IIIII)I"⟩ ∈ jgw := jmem_3 (i := 115) rfl rfl
theorem wd_26 : Cond.instanceMethod ⟨"TextMarksModel", "style", "(IIIII)I"⟩ ∈ jgw := jmem_3 (i := 116) rfl rfl
theorem wd_27 : Cond.selects "TextMarksModel" ⟨"TextMarksModel", "style", "(IIIII)I"⟩ ⟨"TextMarksModel", "style", "(IIIII)I"⟩ ∈ jgw := jmem_3 (i := 117) rfl rfl
theorem wd_28 : Cond.methodLink "TextMarksLaw" 28 ⟨"TextMarks", "comment", "(III)I"⟩ ∈ jgw := jmem_1 (i := 228) rfl rfl
theorem wd_29 : Cond.instanceMethod ⟨"TextMarks", "comment", "(III)I"⟩ ∈ jgw := jmem_1 (i := 229) rfl rfl
theorem wd_30 : Cond.selects "TextMarks" ⟨"TextMarks", "comment", "(III)I"⟩ ⟨"TextMarks", "comment", "(III)I"⟩ ∈ jgw := jmem_1 (i := 230) rfl rfl
theorem wd_31 : Cond.methodLink "TextMarksLaw" 31 ⟨"TextMarksModel", "comment", "(III)I"⟩ ∈ jgw := jmem_3 (i := 119) rfl rfl
theorem wd_32 : Cond.instanceMethod ⟨"TextMarksModel", "comment", "(III)I"⟩ ∈ jgw := jmem_3 (i := 120) rfl rfl
theorem wd_33 : Cond.selects "TextMarksModel" ⟨"TextMarksModel", "comment", "(III)I"⟩ ⟨"TextMarksModel", "comment", "(III)I"⟩ ∈ jgw := jmem_3 (i := 121) rfl rfl
theorem wd_34 : Cond.methodLink "TextMarksLaw" 32 ⟨"TextMarks", "block", "(III)I"⟩ ∈ jgw := jmem_1 (i := 232) rfl rfl
theorem wd_35 : Cond.instanceMethod ⟨"TextMarks", "block", "(III)I"⟩ ∈ jgw := jmem_1 (i := 233) rfl rfl
theorem wd_36 : Cond.selects "TextMarks" ⟨"TextMarks", "block", "(III)I"⟩ ⟨"TextMarks", "block", "(III)I"⟩ ∈ jgw := jmem_1 (i := 234) rfl rfl
theorem wd_37 : Cond.methodLink "TextMarksLaw" 35 ⟨"TextMarksModel", "block", "(III)I"⟩ ∈ jgw := jmem_3 (i := 123) rfl rfl
theorem wd_38 : Cond.instanceMethod ⟨"TextMarksModel", "block", "(III)I"⟩ ∈ jgw := jmem_3 (i := 124) rfl rfl
theorem wd_39 : Cond.selects "TextMarksModel" ⟨"TextMarksModel", "block", "(III)I"⟩ ⟨"TextMarksModel", "block", "(III)I"⟩ ∈ jgw := jmem_3 (i := 125) rfl rfl
theorem wd_40 : Cond.methodLink "TextMarksLaw" 36 ⟨"TextMarks", "undo", "(II)I"⟩ ∈ jgw := jmem_2 (i := 0) rfl rfl
theorem wd_41 : Cond.instanceMethod ⟨"TextMarks", "undo", "(II)I"⟩ ∈ jgw := jmem_2 (i := 1) rfl rfl
theorem wd_42 : Cond.selects "TextMarks" ⟨"TextMarks", "undo", "(II)I"⟩ ⟨"TextMarks", "undo", "(II)I"⟩ ∈ jgw := jmem_2 (i := 2) rfl rfl
theorem wd_43 : Cond.methodLink "TextMarksLaw" 39 ⟨"TextMarksModel", "undo", "(II)I"⟩ ∈ jgw := jmem_3 (i := 131) rfl rfl
theorem wd_44 : Cond.instanceMethod ⟨"TextMarksModel", "undo", "(II)I"⟩ ∈ jgw := jmem_3 (i := 132) rfl rfl
theorem wd_45 : Cond.selects "TextMarksModel" ⟨"TextMarksModel", "undo", "(II)I"⟩ ⟨"TextMarksModel", "undo", "(II)I"⟩ ∈ jgw := jmem_3 (i := 133) rfl rfl
theorem wd_46 : Cond.methodLink "TextMarksLaw" 40 ⟨"TextMarks", "see", "(II)Z"⟩ ∈ jgw := jmem_2 (i := 7) rfl rfl
theorem wd_47 : Cond.instanceMethod ⟨"TextMarks", "see", "(II)Z"⟩ ∈ jgw := jmem_2 (i := 8) rfl rfl
theorem wd_48 : Cond.selects "TextMarks" ⟨"TextMarks", "see", "(II)Z"⟩ ⟨"TextMarks", "see", "(II)Z"⟩ ∈ jgw := jmem_2 (i := 9) rfl rfl
theorem wd_49 : Cond.methodLink "TextMarksLaw" 44 ⟨"TextMarksModel", "see", "(II)Z"⟩ ∈ jgw := jmem_3 (i := 135) rfl rfl
theorem wd_50 : Cond.instanceMethod ⟨"TextMarksModel", "see", "(II)Z"⟩ ∈ jgw := jmem_3 (i := 136) rfl rfl
theorem wd_51 : Cond.selects "TextMarksModel" ⟨"TextMarksModel", "see", "(II)Z"⟩ ⟨"TextMarksModel", "see", "(II)Z"⟩ ∈ jgw := jmem_3 (i := 137) rfl rfl
theorem wd_52 : Cond.methodLink "TextMarksLaw" 45 ⟨"TextMarks", "meet", "(II)I"⟩ ∈ jgw := jmem_2 (i := 16) rfl rfl
theorem wd_53 : Cond.instanceMethod ⟨"TextMarks", "meet", "(II)I"⟩ ∈ jgw := jmem_2 (i := 17) rfl rfl
theorem wd_54 : Cond.selects "TextMarks" ⟨"TextMarks", "meet", "(II)I"⟩ ⟨"TextMarks", "meet", "(II)I"⟩ ∈ jgw := jmem_2 (i := 18) rfl rfl
theorem wd_55 : Cond.methodLink "TextMarksLaw" 48 ⟨"TextMarksModel", "meet", "(II)I"⟩ ∈ jgw := jmem_3 (i := 143) rfl rfl
theorem wd_56 : Cond.instanceMethod ⟨"TextMarksModel", "meet", "(II)I"⟩ ∈ jgw := jmem_3 (i := 144) rfl rfl
theorem wd_57 : Cond.selects "TextMarksModel" ⟨"TextMarksModel", "meet", "(II)I"⟩ ⟨"TextMarksModel", "meet", "(II)I"⟩ ∈ jgw := jmem_3 (i := 145) rfl rfl
theorem wd_58 : Cond.methodLink "TextMarksLaw" 49 ⟨"TextMarks", "sign", "(II)I"⟩ ∈ jgw := jmem_2 (i := 21) rfl rfl
theorem wd_59 : Cond.instanceMethod ⟨"TextMarks", "sign", "(II)I"⟩ ∈ jgw := jmem_2 (i := 22) rfl rfl
theorem wd_60 : Cond.selects "TextMarks" ⟨"TextMarks", "sign", "(II)I"⟩ ⟨"TextMarks", "sign", "(II)I"⟩ ∈ jgw := jmem_2 (i := 23) rfl rfl
theorem wd_61 : Cond.methodLink "TextMarksLaw" 52 ⟨"TextMarksModel", "sign", "(II)I"⟩ ∈ jgw := jmem_3 (i := 147) rfl rfl
theorem wd_62 : Cond.instanceMethod ⟨"TextMarksModel", "sign", "(II)I"⟩ ∈ jgw := jmem_3 (i := 148) rfl rfl
theorem wd_63 : Cond.selects "TextMarksModel" ⟨"TextMarksModel", "sign", "(II)I"⟩ ⟨"TextMarksModel", "sign", "(II)I"⟩ ∈ jgw := jmem_3 (i := 149) rfl rfl
theorem wd_64 : Cond.methodLink "TextMarksLaw" 53 ⟨"TextMarks", "id", "(II)I"⟩ ∈ jgw := jmem_2 (i := 29) rfl rfl
theorem wd_65 : Cond.instanceMethod ⟨"TextMarks", "id", "(II)I"⟩ ∈ jgw := jmem_2 (i := 30) rfl rfl
theorem wd_66 : Cond.selects "TextMarks" ⟨"TextMarks", "id", "(II)I"⟩ ⟨"TextMarks", "id", "(II)I"⟩ ∈ jgw := jmem_2 (i := 31) rfl rfl
theorem wd_67 : Cond.methodLink "TextMarksLaw" 56 ⟨"TextMarksModel", "id", "(II)I"⟩ ∈ jgw := jmem_3 (i := 155) rfl rfl
theorem wd_68 : Cond.instanceMethod ⟨"TextMarksModel", "id", "(II)I"⟩ ∈ jgw := jmem_3 (i := 156) rfl rfl
theorem wd_69 : Cond.selects "TextMarksModel" ⟨"TextMarksModel", "id", "(II)I"⟩ ⟨"TextMarksModel", "id", "(II)I"⟩ ∈ jgw := jmem_3 (i := 157) rfl rfl
theorem wd_70 : Cond.methodLink "TextMarksLaw" 57 ⟨"TextMarks", "unit", "(II)I"⟩ ∈ jgw := jmem_2 (i := 33) rfl rfl
theorem wd_71 : Cond.instanceMethod ⟨"TextMarks", "unit", "(II)I"⟩ ∈ jgw := jmem_2 (i := 34) rfl rfl
theorem wd_72 : Cond.selects "TextMarks" ⟨"TextMarks", "unit", "(II)I"⟩ ⟨"TextMarks", "unit", "(II)I"⟩ ∈ jgw := jmem_2 (i := 35) rfl rfl
theorem wd_73 : Cond.methodLink "TextMarksLaw" 60 ⟨"TextMarksModel", "unit", "(II)I"⟩ ∈ jgw := jmem_3 (i := 159) rfl rfl
theorem wd_74 : Cond.instanceMethod ⟨"TextMarksModel", "unit", "(II)I"⟩ ∈ jgw := jmem_3 (i := 160) rfl rfl
theorem wd_75 : Cond.selects "TextMarksModel" ⟨"TextMarksModel", "unit", "(II)I"⟩ ⟨"TextMarksModel", "unit", "(II)I"⟩ ∈ jgw := jmem_3 (i := 161) rfl rfl
theorem wd_76 : Cond.methodLink "TextMarksLaw" 61 ⟨"TextMarks", "styled", "(III)I"⟩ ∈ jgw := jmem_2 (i := 50) rfl rfl
theorem wd_77 : Cond.instanceMethod ⟨"TextMarks", "styled", "(III)I"⟩ ∈ jgw := jmem_2 (i := 51) rfl rfl
theorem wd_78 : Cond.selects "TextMarks" ⟨"TextMarks", "styled", "(III)I"⟩ ⟨"TextMarks", "styled", "(III)I"⟩ ∈ jgw := jmem_2 (i := 52) rfl rfl
theorem wd_79 : Cond.methodLink "TextMarksLaw" 64 ⟨"TextMarksModel", "styled", "(III)I"⟩ ∈ jgw := jmem_3 (i := 167) rfl rfl
theorem wd_80 : Cond.instanceMethod ⟨"TextMarksModel", "styled", "(III)I"⟩ ∈ jgw := jmem_3 (i := 168) rfl rfl
theorem wd_81 : Cond.selects "TextMarksModel" ⟨"TextMarksModel", "styled", "(III)I"⟩ ⟨"TextMarksModel", "styled", "(III)I"⟩ ∈ jgw := jmem_3 (i := 169) rfl rfl
theorem wd_82 : Cond.methodLink "TextMarksLaw" 65 ⟨"TextMarks", "run", "(III)I"⟩ ∈ jgw := jmem_2 (i := 87) rfl rfl
theorem wd_83 : Cond.instanceMethod ⟨"TextMarks", "run", "(III)I"⟩ ∈ jgw := jmem_2 (i := 88) rfl rfl
theorem wd_84 : Cond.selects "TextMarks" ⟨"TextMarks", "run", "(III)I"⟩ ⟨"TextMarks", "run", "(III)I"⟩ ∈ jgw := jmem_2 (i := 89) rfl rfl
theorem wd_85 : Cond.methodLink "TextMarksLaw" 68 ⟨"TextMarksModel", "run", "(III)I"⟩ ∈ jgw := jmem_3 (i := 171) rfl rfl
theorem wd_86 : Cond.instanceMethod ⟨"TextMarksModel", "run", "(III)I"⟩ ∈ jgw := jmem_3 (i := 172) rfl rfl
theorem wd_87 : Cond.selects "TextMarksModel" ⟨"TextMarksModel", "run", "(III)I"⟩ ⟨"TextMarksModel", "run", "(III)I"⟩ ∈ jgw := jmem_3 (i := 173) rfl rfl
theorem wd_88 : Cond.methodLink "TextMarksLaw" 69 ⟨"TextMarks", "lies", "(III)I"⟩ ∈ jgw := jmem_2 (i := 103) rfl rfl
theorem wd_89 : Cond.instanceMethod ⟨"TextMarks", "lies", "(III)I"⟩ ∈ jgw := jmem_2 (i := 104) rfl rfl
theorem wd_90 : Cond.selects "TextMarks" ⟨"TextMarks", "lies", "(III)I"⟩ ⟨"TextMarks", "lies", "(III)I"⟩ ∈ jgw := jmem_2 (i := 105) rfl rfl
theorem wd_91 : Cond.methodLink "TextMarksLaw" 72 ⟨"TextMarksModel", "lies", "(III)I"⟩ ∈ jgw := jmem_3 (i := 187) rfl rfl
theorem wd_92 : Cond.instanceMethod ⟨"TextMarksModel", "lies", "(III)I"⟩ ∈ jgw := jmem_3 (i := 188) rfl rfl
theorem wd_93 : Cond.selects "TextMarksModel" ⟨"TextMarksModel", "lies", "(III)I"⟩ ⟨"TextMarksModel", "lies", "(III)I"⟩ ∈ jgw := jmem_3 (i := 189) rfl rfl
theorem wd_94 : Cond.methodLink "TextMarksLaw" 73 ⟨"TextMarks", "paragraph", "(III)I"⟩ ∈ jgw := jmem_2 (i := 119) rfl rfl
theorem wd_95 : Cond.instanceMethod ⟨"TextMarks", "paragraph", "(III)I"⟩ ∈ jgw := jmem_2 (i := 120) rfl rfl
theorem wd_96 : Cond.selects "TextMarks" ⟨"TextMarks", "paragraph", "(III)I"⟩ ⟨"TextMarks", "paragraph", "(III)I"⟩ ∈ jgw := jmem_2 (i := 121) rfl rfl
theorem wd_97 : Cond.methodLink "TextMarksLaw" 76 ⟨"TextMarksModel", "paragraph", "(III)I"⟩ ∈ jgw := jmem_3 (i := 195) rfl rfl
theorem wd_98 : Cond.instanceMethod ⟨"TextMarksModel", "paragraph", "(III)I"⟩ ∈ jgw := jmem_3 (i := 196) rfl rfl
theorem wd_99 : Cond.selects "TextMarksModel" ⟨"TextMarksModel", "paragraph", "(III)I"⟩ ⟨"TextMarksModel", "paragraph", "(III)I"⟩ ∈ jgw := jmem_3 (i := 197) rfl rfl
theorem wd_100 : Cond.methodLink "TextMarksLaw" 77 ⟨"TextMarks", "row", "(II)I"⟩ ∈ jgw := jmem_2 (i := 140) rfl rfl
theorem wd_101 : Cond.instanceMethod ⟨"TextMarks", "row", "(II)I"⟩ ∈ jgw := jmem_2 (i := 141) rfl rfl
theorem wd_102 : Cond.selects "TextMarks" ⟨"TextMarks", "row", "(II)I"⟩ ⟨"TextMarks", "row", "(II)I"⟩ ∈ jgw := jmem_2 (i := 142) rfl rfl
theorem wd_103 : Cond.methodLink "TextMarksLaw" 80 ⟨"TextMarksModel", "row", "(II)I"⟩ ∈ jgw := jmem_3 (i := 203) rfl rfl
theorem wd_104 : Cond.instanceMethod ⟨"TextMarksModel", "row", "(II)I"⟩ ∈ jgw := jmem_3 (i := 204) rfl rfl
theorem wd_105 : Cond.selects "TextMarksModel" ⟨"TextMarksModel", "row", "(II)I"⟩ ⟨"TextMarksModel", "row", "(II)I"⟩ ∈ jgw := jmem_3 (i := 205) rfl rfl
theorem wd_106 : Cond.methodLink "TextMarksLaw" 81 ⟨"TextMarks", "alike", "(II)Z"⟩ ∈ jgw := jmem_2 (i := 144) rfl rfl
theorem wd_107 : Cond.instanceMethod ⟨"TextMarks", "alike", "(II)Z"⟩ ∈ jgw := jmem_2 (i := 145) rfl rfl
theorem wd_108 : Cond.selects "TextMarks" ⟨"TextMarks", "alike", "(II)Z"⟩ ⟨"TextMarks", "alike", "(II)Z"⟩ ∈ jgw := jmem_2 (i := 146) rfl rfl
theorem wd_109 : Cond.methodLink "TextMarksLaw" 84 ⟨"TextMarksModel", "alike", "(II)Z"⟩ ∈ jgw := jmem_3 (i := 207) rfl rfl
theorem wd_110 : Cond.instanceMethod ⟨"TextMarksModel", "alike", "(II)Z"⟩ ∈ jgw := jmem_3 (i := 208) rfl rfl
theorem wd_111 : Cond.selects "TextMarksModel" ⟨"TextMarksModel", "alike", "(II)Z"⟩ ⟨"TextMarksModel", "alike", "(II)Z"⟩ ∈ jgw := jmem_3 (i := 209) rfl rfl
theorem wd_112 : Cond.methodLink "TextMarksLaw" 85 ⟨"TextMarks", "total", "(II)I"⟩ ∈ jgw := jmem_2 (i := 169) rfl rfl
theorem wd_113 : Cond.instanceMethod ⟨"TextMarks", "total", "(II)I"⟩ ∈ jgw := jmem_2 (i := 170) rfl rfl
theorem wd_114 : Cond.selects "TextMarks" ⟨"TextMarks", "total", "(II)I"⟩ ⟨"TextMarks", "total", "(II)I"⟩ ∈ jgw := jmem_2 (i := 171) rfl rfl
theorem wd_115 : Cond.methodLink "TextMarksLaw" 88 ⟨"TextMarksModel", "total", "(II)I"⟩ ∈ jgw := jmem_3 (i := 223) rfl rfl
theorem wd_116 : Cond.instanceMethod ⟨"TextMarksModel", "total", "(II)I"⟩ ∈ jgw := jmem_3 (i := 224) rfl rfl
theorem wd_117 : Cond.selects "TextMarksModel" ⟨"TextMarksModel", "total", "(II)I"⟩ ⟨"TextMarksModel", "total", "(II)I"⟩ ∈ jgw := jmem_3 (i := 225) rfl rfl
theorem wd_118 : Cond.methodLink "TextMarks" 1 ⟨"java/lang/Object", "<init>", "()V"⟩ ∈ jgw := jmem_1 (i := 12) rfl rfl
theorem wd_119 : Cond.instanceMethod ⟨"java/lang/Object", "<init>", "()V"⟩ ∈ jgw := jmem_1 (i := 13) rfl rfl
theorem wd_120 : Cond.classLink "TextMarks" 7 "TextMarks$Rows" ∈ jgw := jmem_1 (i := 15) rfl rfl
theorem wd_121 : Cond.instantiable "TextMarks$Rows" 6 ∈ jgw := jmem_1 (i := 16) rfl rfl
theorem wd_122 : Cond.initialized "TextMarks$Rows" ∈ jgw := jmem_1 (i := 2) rfl rfl
theorem wd_123 : Cond.instanceMethod ⟨"TextMarks$Rows", "<init>", "()V"⟩ ∈ jgw := jmem_1 (i := 18) rfl rfl
theorem wd_124 : Cond.fieldLink "TextMarks" 10 "TextMarks" "rows" "LTextMarks$Rows;" ∈ jgw := jmem_1 (i := 90) rfl rfl
theorem wd_125 : Cond.classLink "TextMarks" 16 "TextMarks$Node" ∈ jgw := jmem_1 (i := 41) rfl rfl
theorem wd_126 : Cond.fieldLink "TextMarks" 18 "TextMarks" "nodes" "[LTextMarks$Node;" ∈ jgw := jmem_1 (i := 91) rfl rfl
theorem wd_127 : Cond.instantiable "TextMarks$Node" 3 ∈ jgw := jmem_1 (i := 43) rfl rfl
theorem wd_128 : Cond.initialized "TextMarks$Node" ∈ jgw := jmem_1 (i := 3) rfl rfl
theorem wd_129 : Cond.instanceMethod ⟨"TextMarks$Node", "<init>", "()V"⟩ ∈ jgw := jmem_1 (i := 45) rfl rfl
theorem wd_130 : Cond.classLink "TextMarks" 23 "TextMarks$View" ∈ jgw := jmem_1 (i := 59) rfl rfl
theorem wd_131 : Cond.instantiable "TextMarks$View" 8 ∈ jgw := jmem_1 (i := 60) rfl rfl
theorem wd_132 : Cond.initialized "TextMarks$View" ∈ jgw := jmem_1 (i := 4) rfl rfl
theorem wd_133 : Cond.instanceMethod ⟨"TextMarks$View", "<init>", "()V"⟩ ∈ jgw := jmem_1 (i := 62) rfl rfl
theorem wd_134 : Cond.fieldLink "TextMarks" 26 "TextMarks" "view" "LTextMarks$View;" ∈ jgw := jmem_1 (i := 92) rfl rfl
theorem wd_135 : Cond.fieldLink "TextMarks" 30 "TextMarks" "otherView" "LTextMarks$View;" ∈ jgw := jmem_1 (i := 93) rfl rfl
theorem wd_136 : Cond.methodLink "TextMarks" 33 ⟨"TextMarks", "isSign", "(I)Z"⟩ ∈ jgw := jmem_1 (i := 107) rfl rfl
theorem wd_137 : Cond.static ⟨"TextMarks", "isSign", "(I)Z"⟩ ∈ jgw := jmem_1 (i := 108) rfl rfl
theorem wd_138 : Cond.methodLink "TextMarks" 37 ⟨"TextMarks", "shows", "(I)Z"⟩ ∈ jgw := jmem_1 (i := 113) rfl rfl
theorem wd_139 : Cond.instanceMethod ⟨"TextMarks", "shows", "(I)Z"⟩ ∈ jgw := jmem_1 (i := 115) rfl rfl
theorem wd_140 : Cond.selects "TextMarks" ⟨"TextMarks", "shows", "(I)Z"⟩ ⟨"TextMarks", "shows", "(I)Z"⟩ ∈ jgw := jmem_0 (i := 0) rfl rfl
theorem wd_141 : Cond.methodLink "TextMarks" 40 ⟨"TextMarks$View", "size", "()I"⟩ ∈ jgw := jmem_1 (i := 161) rfl rfl
theorem wd_142 : Cond.instanceMethod ⟨"TextMarks$View", "size", "()I"⟩ ∈ jgw := jmem_1 (i := 162) rfl rfl
theorem wd_143 : Cond.selects "TextMarks$View" ⟨"TextMarks$View", "size", "()I"⟩ ⟨"TextMarks$View", "size", "()I"⟩ ∈ jgw := jmem_1 (i := 163) rfl rfl
theorem wd_144 : Cond.methodLink "TextMarks" 44 ⟨"TextMarks$View", "insertAt", "(I)I"⟩ ∈ jgw := jmem_1 (i := 165) rfl rfl
theorem wd_145 : Cond.instanceMethod ⟨"TextMarks$View", "insertAt", "(I)I"⟩ ∈ jgw := jmem_1 (i := 166) rfl rfl
theorem wd_146 : Cond.selects "TextMarks$View" ⟨"TextMarks$View", "insertAt", "(I)I"⟩ ⟨"TextMarks$View", "insertAt", "(I)I"⟩ ∈ jgw := jmem_1 (i := 167) rfl rfl
theorem wd_147 : Cond.methodLink "TextMarks" 48 ⟨"TextMarks", "write", "(IIIIII)I"⟩ ∈ jgw := jmem_1 (i := 173) rfl rfl
theorem wd_148 : Cond.instanceMethod ⟨"TextMarks", "write", "(IIIIII)I"⟩ ∈ jgw := jmem_1 (i := 175) rfl rfl
theorem wd_149 : Cond.selects "TextMarks" ⟨"TextMarks", "write", "(IIIIII)I"⟩ ⟨"TextMarks", "write", "(IIIIII)I"⟩ ∈ jgw := jmem_0 (i := 4) rfl rfl
theorem wd_150 : Cond.methodLink "TextMarks" 52 ⟨"TextMarks$View", "hasPlace", "(I)Z"⟩ ∈ jgw := jmem_1 (i := 213) rfl rfl
theorem wd_151 : Cond.instanceMethod ⟨"TextMarks$View", "hasPlace", "(I)Z"⟩ ∈ jgw := jmem_1 (i := 170) rfl rfl
theorem wd_152 : Cond.selects "TextMarks$View" ⟨"TextMarks$View", "hasPlace", "(I)Z"⟩ ⟨"TextMarks$View", "hasPlace", "(I)Z"⟩ ∈ jgw := jmem_1 (i := 171) rfl rfl
theorem wd_153 : Cond.methodLink "TextMarks" 55 ⟨"TextMarks", "isKey", "(I)Z"⟩ ∈ jgw := jmem_1 (i := 218) rfl rfl
theorem wd_154 : Cond.static ⟨"TextMarks", "isKey", "(I)Z"⟩ ∈ jgw := jmem_1 (i := 219) rfl rfl
theorem wd_155 : Cond.methodLink "TextMarks" 58 ⟨"TextMarks$View", "hasRange", "(II)Z"⟩ ∈ jgw := jmem_1 (i := 221) rfl rfl
theorem wd_156 : Cond.instanceMethod ⟨"TextMarks$View", "hasRange", "(II)Z"⟩ ∈ jgw := jmem_1 (i := 222) rfl rfl
theorem wd_157 : Cond.selects "TextMarks$View" ⟨"TextMarks$View", "hasRange", "(II)Z"⟩ ⟨"TextMarks$View", "hasRange", "(II)Z"⟩ ∈ jgw := jmem_1 (i := 223) rfl rfl
theorem wd_158 : Cond.methodLink "TextMarks" 62 ⟨"TextMarks", "grows", "(I)Z"⟩ ∈ jgw := jmem_1 (i := 225) rfl rfl
theorem wd_159 : Cond.static ⟨"TextMarks", "grows", "(I)Z"⟩ ∈ jgw := jmem_1 (i := 226) rfl rfl
theorem wd_160 : Cond.methodLink "TextMarks" 65 ⟨"TextMarks$View", "paragraphStart", "(I)I"⟩ ∈ jgw := jmem_1 (i := 236) rfl rfl
theorem wd_161 : Cond.instanceMethod ⟨"TextMarks$View", "paragraphStart", "(I)I"⟩ ∈ jgw := jmem_1 (i := 237) rfl rfl
theorem wd_162 : Cond.selects "TextMarks$View" ⟨"TextMarks$View", "paragraphStart", "(I)I"⟩ ⟨"TextMarks$View", "paragraphStart", "(I)I"⟩ ∈ jgw := jmem_1 (i := 238) rfl rfl
theorem wd_163 : Cond.methodLink "TextMarks" 68 ⟨"TextMarks$Rows", "has", "(I)Z"⟩ ∈ jgw := jmem_2 (i := 4) rfl rfl
theorem wd_164 : Cond.instanceMethod ⟨"TextMarks$Rows", "has", "(I)Z"⟩ ∈ jgw := jmem_1 (i := 138) rfl rfl
theorem wd_165 : Cond.selects "TextMarks$Rows" ⟨"TextMarks$Rows", "has", "(I)Z"⟩ ⟨"TextMarks$Rows", "has", "(I)Z"⟩ ∈ jgw := jmem_1 (i := 139) rfl rfl
theorem wd_166 : Cond.methodLink "TextMarks" 71 ⟨"TextMarks$Rows", "cell", "(II)I"⟩ ∈ jgw := jmem_2 (i := 5) rfl rfl
theorem wd_167 : Cond.instanceMethod ⟨"TextMarks$Rows", "cell", "(II)I"⟩ ∈ jgw := jmem_1 (i := 134) rfl rfl
theorem wd_168 : Cond.selects "TextMarks$Rows" ⟨"TextMarks$Rows", "cell", "(II)I"⟩ ⟨"TextMarks$Rows", "cell", "(II)I"⟩ ∈ jgw := jmem_1 (i := 135) rfl rfl
theorem wd_169 : Cond.methodLink "TextMarks" 75 ⟨"TextMarks$Rows", "undoOf", "(I)I"⟩ ∈ jgw := jmem_2 (i := 6) rfl rfl
theorem wd_170 : Cond.instanceMethod ⟨"TextMarks$Rows", "undoOf", "(I)I"⟩ ∈ jgw := jmem_1 (i := 146) rfl rfl
theorem wd_171 : Cond.selects "TextMarks$Rows" ⟨"TextMarks$Rows", "undoOf", "(I)I"⟩ ⟨"TextMarks$Rows", "undoOf", "(I)I"⟩ ∈ jgw := jmem_1 (i := 147) rfl rfl
theorem wd_172 : Cond.methodLink "TextMarks" 78 ⟨"TextMarks", "nodeOf", "(I)LTextMarks$Node;"⟩ ∈ jgw := jmem_1 (i := 117) rfl rfl
theorem wd_173 : Cond.instanceMethod ⟨"TextMarks", "nodeOf", "(I)LTextMarks$Node;"⟩ ∈ jgw := jmem_1 (i := 119) rfl rfl
theorem wd_174 : Cond.selects "TextMarks" ⟨"TextMarks", "nodeOf", "(I)LTextMarks$Node;"⟩ ⟨"TextMarks", "nodeOf", "(I)LTextMarks$Node;"⟩ ∈ jgw := jmem_0 (i := 1) rfl rfl
theorem wd_175 : Cond.methodLink "TextMarks" 82 ⟨"TextMarks$Node", "knows", "(I)Z"⟩ ∈ jgw := jmem_2 (i := 11) rfl rfl
theorem wd_176 : Cond.instanceMethod ⟨"TextMarks$Node", "knows", "(I)Z"⟩ ∈ jgw := jmem_1 (i := 142) rfl rfl
theorem wd_177 : Cond.selects "TextMarks$Node" ⟨"TextMarks$Node", "knows", "(I)Z"⟩ ⟨"TextMarks$Node", "knows", "(I)Z"⟩ ∈ jgw := jmem_1 (i := 143) rfl rfl
theorem wd_178 : Cond.methodLink "TextMarks" 85 ⟨"TextMarks", "knowsNeeds", "(LTextMarks$Node;I)Z"⟩ ∈ jgw := jmem_2 (i := 12) rfl rfl
theorem wd_179 : Cond.instanceMethod ⟨"TextMarks", "knowsNeeds", "(LTextMarks$Node;I)Z"⟩ ∈ jgw := jmem_2 (i := 14) rfl rfl
theorem wd_180 : Cond.selects "TextMarks" ⟨"TextMarks", "knowsNeeds", "(LTextMarks$Node;I)Z"⟩ ⟨"TextMarks", "knowsNeeds", "(LTextMarks$Node;I)Z"⟩ ∈ jgw := jmem_0 (i := 9) rfl rfl
theorem wd_181 : Cond.methodLink "TextMarks" 89 ⟨"TextMarks$Node", "learn", "(II)V"⟩ ∈ jgw := jmem_1 (i := 202) rfl rfl
theorem wd_182 : Cond.instanceMethod ⟨"TextMarks$Node", "learn", "(II)V"⟩ ∈ jgw := jmem_1 (i := 203) rfl rfl
theorem wd_183 : Cond.selects "TextMarks$Node" ⟨"TextMarks$Node", "learn", "(II)V"⟩ ⟨"TextMarks$Node", "learn", "(II)V"⟩ ∈ jgw := jmem_1 (i := 204) rfl rfl
theorem wd_184 : Cond.methodLink "TextMarks" 93 ⟨"TextMarks$Rows", "count", "()I"⟩ ∈ jgw := jmem_2 (i := 20) rfl rfl
theorem wd_185 : Cond.instanceMethod ⟨"TextMarks$Rows", "count", "()I"⟩ ∈ jgw := jmem_1 (i := 130) rfl rfl
theorem wd_186 : Cond.selects "TextMarks$Rows" ⟨"TextMarks$Rows", "count", "()I"⟩ ⟨"TextMarks$Rows", "count", "()I"⟩ ∈ jgw := jmem_1 (i := 131) rfl rfl
theorem wd_187 : Cond.methodLink "TextMarks" 96 ⟨"TextMarks$View", "signAt", "(I)I"⟩ ∈ jgw := jmem_2 (i := 25) rfl rfl
theorem wd_188 : Cond.instanceMethod ⟨"TextMarks$View", "signAt", "(I)I"⟩ ∈ jgw := jmem_2 (i := 26) rfl rfl
theorem wd_189 : Cond.selects "TextMarks$View" ⟨"TextMarks$View", "signAt", "(I)I"⟩ ⟨"TextMarks$View", "signAt", "(I)I"⟩ ∈ jgw := jmem_2 (i := 27) rfl rfl
theorem wd_190 : Cond.methodLink "TextMarks" 99 ⟨"TextMarks$View", "unitAt", "(I)I"⟩ ∈ jgw := jmem_2 (i := 37) rfl rfl
theorem wd_191 : Cond.instanceMethod ⟨"TextMarks$View", "unitAt", "(I)I"⟩ ∈ jgw := jmem_2 (i := 38) rfl rfl
theorem wd_192 : Cond.selects "TextMarks$View" ⟨"TextMarks$View", "unitAt", "(I)I"⟩ ⟨"TextMarks$View", "unitAt", "(I)I"⟩ ∈ jgw := jmem_2 (i := 39) rfl rfl
theorem wd_193 : Cond.methodLink "TextMarks" 102 ⟨"TextMarks$View", "paint", "(LTextMarks$Rows;)V"⟩ ∈ jgw := jmem_2 (i := 54) rfl rfl
theorem wd_194 : Cond.instanceMethod ⟨"TextMarks$View", "paint", "(LTextMarks$Rows;)V"⟩ ∈ jgw := jmem_2 (i := 55) rfl rfl
theorem wd_195 : Cond.selects "TextMarks$View" ⟨"TextMarks$View", "paint", "(LTextMarks$Rows;)V"⟩ ⟨"TextMarks$View", "paint", "(LTextMarks$Rows;)V"⟩ ∈ jgw := jmem_2 (i := 56) rfl rfl
theorem wd_196 : Cond.methodLink "TextMarks" 106 ⟨"TextMarks$View", "valueAt", "(II)I"⟩ ∈ jgw := jmem_2 (i := 83) rfl rfl
theorem wd_197 : Cond.instanceMethod ⟨"TextMarks$View", "valueAt", "(II)I"⟩ ∈ jgw := jmem_2 (i := 84) rfl rfl
theorem wd_198 : Cond.selects "TextMarks$View" ⟨"TextMarks$View", "valueAt", "(II)I"⟩ ⟨"TextMarks$View", "valueAt", "(II)I"⟩ ∈ jgw := jmem_2 (i := 85) rfl rfl
theorem wd_199 : Cond.methodLink "TextMarks" 109 ⟨"TextMarks$View", "runStart", "(I)I"⟩ ∈ jgw := jmem_2 (i := 91) rfl rfl
theorem wd_200 : Cond.instanceMethod ⟨"TextMarks$View", "runStart", "(I)I"⟩ ∈ jgw := jmem_2 (i := 92) rfl rfl
theorem wd_201 : Cond.selects "TextMarks$View" ⟨"TextMarks$View", "runStart", "(I)I"⟩ ⟨"TextMarks$View", "runStart", "(I)I"⟩ ∈ jgw := jmem_2 (i := 93) rfl rfl
theorem wd_202 : Cond.methodLink "TextMarks" 112 ⟨"TextMarks$View", "runEnd", "(I)I"⟩ ∈ jgw := jmem_2 (i := 99) rfl rfl
theorem wd_203 : Cond.instanceMethod ⟨"TextMarks$View", "runEnd", "(I)I"⟩ ∈ jgw := jmem_2 (i := 100) rfl rfl
theorem wd_204 : Cond.selects "TextMarks$View" ⟨"TextMarks$View", "runEnd", "(I)I"⟩ ⟨"TextMarks$View", "runEnd", "(I)I"⟩ ∈ jgw := jmem_2 (i := 101) rfl rfl
theorem wd_205 : Cond.methodLink "TextMarks" 115 ⟨"TextMarks$View", "isGood", "(I)Z"⟩ ∈ jgw := jmem_2 (i := 107) rfl rfl
theorem wd_206 : Cond.instanceMethod ⟨"TextMarks$View", "isGood", "(I)Z"⟩ ∈ jgw := jmem_2 (i := 63) rfl rfl
theorem wd_207 : Cond.selects "TextMarks$View" ⟨"TextMarks$View", "isGood", "(I)Z"⟩ ⟨"TextMarks$View", "isGood", "(I)Z"⟩ ∈ jgw := jmem_2 (i := 64) rfl rfl
theorem wd_208 : Cond.methodLink "TextMarks" 118 ⟨"TextMarks", "commentFrom", "(LTextMarks$View;I)I"⟩ ∈ jgw := jmem_2 (i := 108) rfl rfl
theorem wd_209 : Cond.instanceMethod ⟨"TextMarks", "commentFrom", "(LTextMarks$View;I)I"⟩ ∈ jgw := jmem_2 (i := 110) rfl rfl
theorem wd_210 : Cond.selects "TextMarks" ⟨"TextMarks", "commentFrom", "(LTextMarks$View;I)I"⟩ ⟨"TextMarks", "commentFrom", "(LTextMarks$View;I)I"⟩ ∈ jgw := jmem_0 (i := 13) rfl rfl
theorem wd_211 : Cond.methodLink "TextMarks" 122 ⟨"TextMarks", "commentTo", "(LTextMarks$View;I)I"⟩ ∈ jgw := jmem_2 (i := 113) rfl rfl
theorem wd_212 : Cond.instanceMethod ⟨"TextMarks", "commentTo", "(LTextMarks$View;I)I"⟩ ∈ jgw := jmem_2 (i := 115) rfl rfl
theorem wd_213 : Cond.selects "TextMarks" ⟨"TextMarks", "commentTo", "(LTextMarks$View;I)I"⟩ ⟨"TextMarks", "commentTo", "(LTextMarks$View;I)I"⟩ ∈ jgw := jmem_0 (i := 14) rfl rfl
theorem wd_214 : Cond.methodLink "TextMarks" 125 ⟨"TextMarks$View", "paragraphEnd", "(I)I"⟩ ∈ jgw := jmem_2 (i := 123) rfl rfl
theorem wd_215 : Cond.instanceMethod ⟨"TextMarks$View", "paragraphEnd", "(I)I"⟩ ∈ jgw := jmem_2 (i := 124) rfl rfl
theorem wd_216 : Cond.selects "TextMarks$View" ⟨"TextMarks$View", "paragraphEnd", "(I)I"⟩ ⟨"TextMarks$View", "paragraphEnd", "(I)I"⟩ ∈ jgw := jmem_2 (i := 125) rfl rfl
theorem wd_217 : Cond.methodLink "TextMarks" 128 ⟨"TextMarks$View", "tellKinds", "(LTextMarks$Rows;)V"⟩ ∈ jgw := jmem_2 (i := 127) rfl rfl
theorem wd_218 : Cond.instanceMethod ⟨"TextMarks$View", "tellKinds", "(LTextMarks$Rows;)V"⟩ ∈ jgw := jmem_2 (i := 128) rfl rfl
theorem wd_219 : Cond.selects "TextMarks$View" ⟨"TextMarks$View", "tellKinds", "(LTextMarks$Rows;)V"⟩ ⟨"TextMarks$View", "tellKinds", "(LTextMarks$Rows;)V"⟩ ∈ jgw := jmem_2 (i := 129) rfl rfl
theorem wd_220 : Cond.methodLink "TextMarks" 131 ⟨"TextMarks$View", "kindFrom", "(I)I"⟩ ∈ jgw := jmem_2 (i := 135) rfl rfl
theorem wd_221 : Cond.instanceMethod ⟨"TextMarks$View", "kindFrom", "(I)I"⟩ ∈ jgw := jmem_2 (i := 136) rfl rfl
theorem wd_222 : Cond.selects "TextMarks$View" ⟨"TextMarks$View", "kindFrom", "(I)I"⟩ ⟨"TextMarks$View", "kindFrom", "(I)I"⟩ ∈ jgw := jmem_2 (i := 137) rfl rfl
theorem wd_223 : Cond.methodLink "TextMarks" 134 ⟨"TextMarks", "showAll", "(LTextMarks$View;LTextMarks$Node;)V"⟩ ∈ jgw := jmem_2 (i := 148) rfl rfl
theorem wd_224 : Cond.instanceMethod ⟨"TextMarks", "showAll", "(LTextMarks$View;LTextMarks$Node;)V"⟩ ∈ jgw := jmem_2 (i := 150) rfl rfl
theorem wd_225 : Cond.selects "TextMarks" ⟨"TextMarks", "showAll", "(LTextMarks$View;LTextMarks$Node;)V"⟩ ⟨"TextMarks", "showAll", "(LTextMarks$View;LTextMarks$Node;)V"⟩ ∈ jgw := jmem_0 (i := 16) rfl rfl
theorem wd_226 : Cond.methodLink "TextMarks" 138 ⟨"TextMarks$View", "hasSameText", "(LTextMarks$View;)Z"⟩ ∈ jgw := jmem_2 (i := 152) rfl rfl
theorem wd_227 : Cond.instanceMethod ⟨"TextMarks$View", "hasSameText", "(LTextMarks$View;)Z"⟩ ∈ jgw := jmem_2 (i := 153) rfl rfl
theorem wd_228 : Cond.selects "TextMarks$View" ⟨"TextMarks$View", "hasSameText", "(LTextMarks$View;)Z"⟩ ⟨"TextMarks$View", "hasSameText", "(LTextMarks$View;)Z"⟩ ∈ jgw := jmem_2 (i := 154) rfl rfl
theorem wd_229 : Cond.methodLink "TextMarks" 142 ⟨"TextMarks$View", "hasSameKinds", "(LTextMarks$View;)Z"⟩ ∈ jgw := jmem_2 (i := 156) rfl rfl
theorem wd_230 : Cond.instanceMethod ⟨"TextMarks$View", "hasSameKinds", "(LTextMarks$View;)Z"⟩ ∈ jgw := jmem_2 (i := 157) rfl rfl
theorem wd_231 : Cond.selects "TextMarks$View" ⟨"TextMarks$View", "hasSameKinds", "(LTextMarks$View;)Z"⟩ ⟨"TextMarks$View", "hasSameKinds", "(LTextMarks$View;)Z"⟩ ∈ jgw := jmem_2 (i := 158) rfl rfl
theorem wd_232 : Cond.methodLink "TextMarks" 145 ⟨"TextMarks", "haveSameComments", "()Z"⟩ ∈ jgw := jmem_2 (i := 161) rfl rfl
theorem wd_233 : Cond.instanceMethod ⟨"TextMarks", "haveSameComments", "()Z"⟩ ∈ jgw := jmem_2 (i := 163) rfl rfl
theorem wd_234 : Cond.selects "TextMarks" ⟨"TextMarks", "haveSameComments", "()Z"⟩ ⟨"TextMarks", "haveSameComments", "()Z"⟩ ∈ jgw := jmem_0 (i := 17) rfl rfl
theorem wd_235 : Cond.methodLink "TextMarks" 149 ⟨"TextMarks$View", "show", "(LTextMarks$Rows;LTextMarks$Node;)V"⟩ ∈ jgw := jmem_1 (i := 121) rfl rfl
theorem wd_236 : Cond.instanceMethod ⟨"TextMarks$View", "show", "(LTextMarks$Rows;LTextMarks$Node;)V"⟩ ∈ jgw := jmem_1 (i := 122) rfl rfl
theorem wd_237 : Cond.selects "TextMarks$View" ⟨"TextMarks$View", "show", "(LTextMarks$Rows;LTextMarks$Node;)V"⟩ ⟨"TextMarks$View", "show", "(LTextMarks$Rows;LTextMarks$Node;)V"⟩ ∈ jgw := jmem_1 (i := 123) rfl rfl
theorem wd_238 : Cond.methodLink "TextMarks" 153 ⟨"TextMarks$View", "unitCount", "()I"⟩ ∈ jgw := jmem_2 (i := 173) rfl rfl
theorem wd_239 : Cond.instanceMethod ⟨"TextMarks$View", "unitCount", "()I"⟩ ∈ jgw := jmem_2 (i := 174) rfl rfl
theorem wd_240 : Cond.selects "TextMarks$View" ⟨"TextMarks$View", "unitCount", "()I"⟩ ⟨"TextMarks$View", "unitCount", "()I"⟩ ∈ jgw := jmem_2 (i := 175) rfl rfl
theorem wd_241 : Cond.methodLink "TextMarks" 156 ⟨"TextMarks$View", "runCount", "()I"⟩ ∈ jgw := jmem_2 (i := 177) rfl rfl
theorem wd_242 : Cond.instanceMethod ⟨"TextMarks$View", "runCount", "()I"⟩ ∈ jgw := jmem_2 (i := 178) rfl rfl
theorem wd_243 : Cond.selects "TextMarks$View" ⟨"TextMarks$View", "runCount", "()I"⟩ ⟨"TextMarks$View", "runCount", "()I"⟩ ∈ jgw := jmem_2 (i := 179) rfl rfl
theorem wd_244 : Cond.methodLink "TextMarks" 159 ⟨"TextMarks$View", "paragraphCount", "()I"⟩ ∈ jgw := jmem_2 (i := 181) rfl rfl
theorem wd_245 : Cond.instanceMethod ⟨"TextMarks$View", "paragraphCount", "()I"⟩ ∈ jgw := jmem_2 (i := 182) rfl rfl
theorem wd_246 : Cond.selects "TextMarks$View" ⟨"TextMarks$View", "paragraphCount", "()I"⟩ ⟨"TextMarks$View", "paragraphCount", "()I"⟩ ∈ jgw := jmem_2 (i := 183) rfl rfl
theorem wd_247 : Cond.methodLink "TextMarks" 162 ⟨"TextMarks", "placesOf", "(LTextMarks$Node;)I"⟩ ∈ jgw := jmem_2 (i := 185) rfl rfl
theorem wd_248 : Cond.instanceMethod ⟨"TextMarks", "placesOf", "(LTextMarks$Node;)I"⟩ ∈ jgw := jmem_2 (i := 187) rfl rfl
theorem wd_249 : Cond.selects "TextMarks" ⟨"TextMarks", "placesOf", "(LTextMarks$Node;)I"⟩ ⟨"TextMarks", "placesOf", "(LTextMarks$Node;)I"⟩ ∈ jgw := jmem_0 (i := 19) rfl rfl
theorem wd_250 : Cond.methodLink "TextMarks" 166 ⟨"TextMarks$Node", "known", "()I"⟩ ∈ jgw := jmem_2 (i := 191) rfl rfl
theorem wd_251 : Cond.instanceMethod ⟨"TextMarks$Node", "known", "()I"⟩ ∈ jgw := jmem_2 (i := 192) rfl rfl
theorem wd_252 : Cond.selects "TextMarks$Node" ⟨"TextMarks$Node", "known", "()I"⟩ ⟨"TextMarks$Node", "known", "()I"⟩ ∈ jgw := jmem_2 (i := 193) rfl rfl
theorem wd_253 : Cond.methodLink "TextMarks" 169 ⟨"TextMarks$Node", "time", "()I"⟩ ∈ jgw := jmem_1 (i := 177) rfl rfl
theorem wd_254 : Cond.instanceMethod ⟨"TextMarks$Node", "time", "()I"⟩ ∈ jgw := jmem_1 (i := 178) rfl rfl
theorem wd_255 : Cond.selects "TextMarks$Node" ⟨"TextMarks$Node", "time", "()I"⟩ ⟨"TextMarks$Node", "time", "()I"⟩ ∈ jgw := jmem_1 (i := 179) rfl rfl
theorem wd_256 : Cond.constant "TextMarks" 172 55296 ∈ jgw := jmem_1 (i := 110) rfl rfl
theorem wd_257 : Cond.constant "TextMarks" 173 57343 ∈ jgw := jmem_1 (i := 111) rfl rfl
theorem wd_258 : Cond.constant "TextMarks" 174 1114111 ∈ jgw := jmem_1 (i := 112) rfl rfl
theorem wd_259 : Cond.methodLink "TextMarks" 175 ⟨"TextMarks$Rows", "add", "(IIIIIII)I"⟩ ∈ jgw := jmem_1 (i := 181) rfl rfl
theorem wd_260 : Cond.instanceMethod ⟨"TextMarks$Rows", "add", "(IIIIIII)I"⟩ ∈ jgw := jmem_1 (i := 182) rfl rfl
theorem wd_261 : Cond.selects "TextMarks$Rows" ⟨"TextMarks$Rows", "add", "(IIIIIII)I"⟩ ⟨"TextMarks$Rows", "add", "(IIIIIII)I"⟩ ∈ jgw := jmem_1 (i := 183) rfl rfl
theorem wd_262 : Cond.methodLink "TextMarks" 179 ⟨"TextMarks$Rows", "placeCount", "()I"⟩ ∈ jgw := jmem_2 (i := 189) rfl rfl
theorem wd_263 : Cond.instanceMethod ⟨"TextMarks$Rows", "placeCount", "()I"⟩ ∈ jgw := jmem_1 (i := 154) rfl rfl
theorem wd_264 : Cond.selects "TextMarks$Rows" ⟨"TextMarks$Rows", "placeCount", "()I"⟩ ⟨"TextMarks$Rows", "placeCount", "()I"⟩ ∈ jgw := jmem_1 (i := 155) rfl rfl
theorem wd_265 : Cond.methodLink "TextMarks" 182 ⟨"TextMarks$Rows", "placeAt", "(I)I"⟩ ∈ jgw := jmem_2 (i := 190) rfl rfl
theorem wd_266 : Cond.instanceMethod ⟨"TextMarks$Rows", "placeAt", "(I)I"⟩ ∈ jgw := jmem_1 (i := 158) rfl rfl
theorem wd_267 : Cond.selects "TextMarks$Rows" ⟨"TextMarks$Rows", "placeAt", "(I)I"⟩ ⟨"TextMarks$Rows", "placeAt", "(I)I"⟩ ∈ jgw := jmem_1 (i := 159) rfl rfl
theorem wd_268 : Cond.methodLink "TextMarks" 185 ⟨"TextMarks$View", "aheadOf", "(I)I"⟩ ∈ jgw := jmem_2 (i := 112) rfl rfl
theorem wd_269 : Cond.instanceMethod ⟨"TextMarks$View", "aheadOf", "(I)I"⟩ ∈ jgw := jmem_2 (i := 80) rfl rfl
theorem wd_270 : Cond.selects "TextMarks$View" ⟨"TextMarks$View", "aheadOf", "(I)I"⟩ ⟨"TextMarks$View", "aheadOf", "(I)I"⟩ ∈ jgw := jmem_2 (i := 81) rfl rfl
theorem wd_271 : Cond.methodLink "TextMarks" 188 ⟨"TextMarks$View", "aheadBehind", "(I)I"⟩ ∈ jgw := jmem_2 (i := 117) rfl rfl
theorem wd_272 : Cond.instanceMethod ⟨"TextMarks$View", "aheadBehind", "(I)I"⟩ ∈ jgw := jmem_2 (i := 76) rfl rfl
theorem wd_273 : Cond.selects "TextMarks$View" ⟨"TextMarks$View", "aheadBehind", "(I)I"⟩ ⟨"TextMarks$View", "aheadBehind", "(I)I"⟩ ∈ jgw := jmem_2 (i := 77) rfl rfl
theorem wd_274 : Cond.methodLink "TextMarks" 191 ⟨"java/lang/Math", "max", "(II)I"⟩ ∈ jgw := jmem_2 (i := 118) rfl rfl
theorem wd_275 : Cond.static ⟨"java/lang/Math", "max", "(II)I"⟩ ∈ jgw := jmem_1 (i := 207) rfl rfl
theorem wd_276 : Cond.initialized "java/lang/Math" ∈ jgw := jmem_1 (i := 6) rfl rfl
theorem wd_277 : Cond.methodLink "TextMarks" 196 ⟨"TextMarks", "isSameComment", "(I)Z"⟩ ∈ jgw := jmem_2 (i := 165) rfl rfl
theorem wd_278 : Cond.instanceMethod ⟨"TextMarks", "isSameComment", "(I)Z"⟩ ∈ jgw := jmem_2 (i := 167) rfl rfl
theorem wd_279 : Cond.selects "TextMarks" ⟨"TextMarks", "isSameComment", "(I)Z"⟩ ⟨"TextMarks", "isSameComment", "(I)Z"⟩ ∈ jgw := jmem_0 (i := 18) rfl rfl
theorem wd_280 : Cond.methodLink "TextMarksModel" 1 ⟨"java/lang/Object", "<init>", "()V"⟩ ∈ jgw := jmem_2 (i := 200) rfl rfl
theorem wd_281 : Cond.arrayClass FieldType.int ∈ jgw := jmem_1 (i := 40) rfl rfl
theorem wd_282 : Cond.fieldLink "TextMarksModel" 7 "TextMarksModel" "sort" "[I" ∈ jgw := jmem_2 (i := 203) rfl rfl
theorem wd_283 : Cond.fieldLink "TextMarksModel" 13 "TextMarksModel" "who" "[I" ∈ jgw := jmem_2 (i := 204) rfl rfl
theorem wd_284 : Cond.fieldLink "TextMarksModel" 16 "TextMarksModel" "time" "[I" ∈ jgw := jmem_2 (i := 205) rfl rfl
theorem wd_285 : Cond.fieldLink "TextMarksModel" 19 "TextMarksModel" "what" "[I" ∈ jgw := jmem_2 (i := 206) rfl rfl
theorem wd_286 : Cond.fieldLink "TextMarksModel" 22 "TextMarksModel" "value" "[I" ∈ jgw := jmem_2 (i := 207) rfl rfl
theorem wd_287 : Cond.fieldLink "TextMarksModel" 25 "TextMarksModel" "first" "[I" ∈ jgw := jmem_2 (i := 208) rfl rfl
theorem wd_288 : Cond.fieldLink "TextMarksModel" 28 "TextMarksModel" "second" "[I" ∈ jgw := jmem_2 (i := 209) rfl rfl
theorem wd_289 : Cond.arrayClass FieldType.boolean ∈ jgw := jmem_1 (i := 58) rfl rfl
theorem wd_290 : Cond.fieldLink "TextMarksModel" 31 "TextMarksModel" "knows" "[Z" ∈ jgw := jmem_2 (i := 210) rfl rfl
theorem wd_291 : Cond.fieldLink "TextMarksModel" 35 "TextMarksModel" "clock" "[I" ∈ jgw := jmem_2 (i := 211) rfl rfl
theorem wd_292 : Cond.fieldLink "TextMarksModel" 38 "TextMarksModel" "seenBy" "I" ∈ jgw := jmem_2 (i := 212) rfl rfl
theorem wd_293 : Cond.fieldLink "TextMarksModel" 42 "TextMarksModel" "good" "[Z" ∈ jgw := jmem_2 (i := 213) rfl rfl
theorem wd_294 : Cond.fieldLink "TextMarksModel" 45 "TextMarksModel" "place" "[I" ∈ jgw := jmem_2 (i := 215) rfl rfl
theorem wd_295 : Cond.fieldLink "TextMarksModel" 48 "TextMarksModel" "where" "[I" ∈ jgw := jmem_2 (i := 216) rfl rfl
theorem wd_296 : Cond.fieldLink "TextMarksModel" 51 "TextMarksModel" "ahead" "[I" ∈ jgw := jmem_2 (i := 217) rfl rfl
theorem wd_297 : Cond.fieldLink "TextMarksModel" 54 "TextMarksModel" "at" "[I" ∈ jgw := jmem_2 (i := 219) rfl rfl
theorem wd_298 : Cond.fieldLink "TextMarksModel" 57 "TextMarksModel" "styled" "[I" ∈ jgw := jmem_2 (i := 220) rfl rfl
theorem wd_299 : Cond.fieldLink "TextMarksModel" 60 "TextMarksModel" "order" "[I" ∈ jgw := jmem_2 (i := 222) rfl rfl
theorem wd_300 : Cond.fieldLink "TextMarksModel" 63 "TextMarksModel" "oldSign" "[I" ∈ jgw := jmem_2 (i := 226) rfl rfl
theorem wd_301 : Cond.fieldLink "TextMarksModel" 66 "TextMarksModel" "oldStyle" "[I" ∈ jgw := jmem_2 (i := 227) rfl rfl
theorem wd_302 : Cond.fieldLink "TextMarksModel" 69 "TextMarksModel" "oldFrom" "[I" ∈ jgw := jmem_2 (i := 228) rfl rfl
theorem wd_303 : Cond.fieldLink "TextMarksModel" 72 "TextMarksModel" "oldTo" "[I" ∈ jgw := jmem_2 (i := 229) rfl rfl
theorem wd_304 : Cond.fieldLink "TextMarksModel" 75 "TextMarksModel" "oldKind" "[I" ∈ jgw := jmem_2 (i := 231) rfl rfl
theorem wd_305 : Cond.fieldLink "TextMarksModel" 81 "TextMarksModel" "rows" "I" ∈ jgw := jmem_2 (i := 202) rfl rfl
theorem wd_306 : Cond.methodLink "TextMarksModel" 84 ⟨"TextMarksModel", "knowsRow", "(II)Z"⟩ ∈ jgw := jmem_3 (i := 79) rfl rfl
theorem wd_307 : Cond.instanceMethod ⟨"TextMarksModel", "knowsRow", "(II)Z"⟩ ∈ jgw := jmem_3 (i := 81) rfl rfl
theorem wd_308 : Cond.selects "TextMarksModel" ⟨"TextMarksModel", "knowsRow", "(II)Z"⟩ ⟨"TextMarksModel", "knowsRow", "(II)Z"⟩ ∈ jgw := jmem_0 (i := 22) rfl rfl
theorem wd_309 : Cond.fieldLink "TextMarksModel" 88 "TextMarksModel" "orders" "I" ∈ jgw := jmem_2 (i := 221) rfl rfl
theorem wd_310 : Cond.methodLink "TextMarksModel" 91 ⟨"TextMarksModel", "isBefore", "(II)Z"⟩ ∈ jgw := jmem_3 (i := 91) rfl rfl
theorem wd_311 : Cond.instanceMethod ⟨"TextMarksModel", "isBefore", "(II)Z"⟩ ∈ jgw := jmem_3 (i := 93) rfl rfl
theorem wd_312 : Cond.selects "TextMarksModel" ⟨"TextMarksModel", "isBefore", "(II)Z"⟩ ⟨"TextMarksModel", "isBefore", "(II)Z"⟩ ∈ jgw := jmem_0 (i := 25) rfl rfl
theorem wd_313 : Cond.methodLink "TextMarksModel" 94 ⟨"TextMarksModel", "findOrder", "(II)V"⟩ ∈ jgw := jmem_3 (i := 87) rfl rfl
theorem wd_314 : Cond.instanceMethod ⟨"TextMarksModel", "findOrder", "(II)V"⟩ ∈ jgw := jmem_3 (i := 89) rfl rfl
theorem wd_315 : Cond.selects "TextMarksModel" ⟨"TextMarksModel", "findOrder", "(II)V"⟩ ⟨"TextMarksModel", "findOrder", "(II)V"⟩ ∈ jgw := jmem_0 (i := 24) rfl rfl
theorem wd_316 : Cond.fieldLink "TextMarksModel" 98 "TextMarksModel" "places" "I" ∈ jgw := jmem_2 (i := 214) rfl rfl
theorem wd_317 : Cond.fieldLink "TextMarksModel" 101 "TextMarksModel" "seen" "I" ∈ jgw := jmem_2 (i := 218) rfl rfl
theorem wd_318 : Cond.methodLink "TextMarksModel" 104 ⟨"TextMarksModel", "covers", "(II)Z"⟩ ∈ jgw := jmem_3 (i := 103) rfl rfl
theorem wd_319 : Cond.instanceMethod ⟨"TextMarksModel", "covers", "(II)Z"⟩ ∈ jgw := jmem_3 (i := 105) rfl rfl
theorem wd_320 : Cond.selects "TextMarksModel" ⟨"TextMarksModel", "covers", "(II)Z"⟩ ⟨"TextMarksModel", "covers", "(II)Z"⟩ ∈ jgw := jmem_0 (i := 28) rfl rfl
theorem wd_321 : Cond.methodLink "TextMarksModel" 107 ⟨"TextMarksModel", "judge", "(I)V"⟩ ∈ jgw := jmem_3 (i := 75) rfl rfl
theorem wd_322 : Cond.instanceMethod ⟨"TextMarksModel", "judge", "(I)V"⟩ ∈ jgw := jmem_3 (i := 77) rfl rfl
theorem wd_323 : Cond.selects "TextMarksModel" ⟨"TextMarksModel", "judge", "(I)V"⟩ ⟨"TextMarksModel", "judge", "(I)V"⟩ ∈ jgw := jmem_0 (i := 21) rfl rfl
theorem wd_324 : Cond.methodLink "TextMarksModel" 111 ⟨"TextMarksModel", "findPlaces", "(I)V"⟩ ∈ jgw := jmem_3 (i := 83) rfl rfl
theorem wd_325 : Cond.instanceMethod ⟨"TextMarksModel", "findPlaces", "(I)V"⟩ ∈ jgw := jmem_3 (i := 85) rfl rfl
theorem wd_326 : Cond.selects "TextMarksModel" ⟨"TextMarksModel", "findPlaces", "(I)V"⟩ ⟨"TextMarksModel", "findPlaces", "(I)V"⟩ ∈ jgw := jmem_0 (i := 23) rfl rfl
theorem wd_327 : Cond.methodLink "TextMarksModel" 114 ⟨"TextMarksModel", "isDeleted", "(I)Z"⟩ ∈ jgw := jmem_3 (i := 95) rfl rfl
theorem wd_328 : Cond.instanceMethod ⟨"TextMarksModel", "isDeleted", "(I)Z"⟩ ∈ jgw := jmem_3 (i := 97) rfl rfl
theorem wd_329 : Cond.selects "TextMarksModel" ⟨"TextMarksModel", "isDeleted", "(I)Z"⟩ ⟨"TextMarksModel", "isDeleted", "(I)Z"⟩ ∈ jgw := jmem_0 (i := 26) rfl rfl
theorem wd_330 : Cond.methodLink "TextMarksModel" 118 ⟨"TextMarksModel", "findStyles", "(I)V"⟩ ∈ jgw := jmem_3 (i := 99) rfl rfl
theorem wd_331 : Cond.instanceMethod ⟨"TextMarksModel", "findStyles", "(I)V"⟩ ∈ jgw := jmem_3 (i := 101) rfl rfl
theorem wd_332 : Cond.selects "TextMarksModel" ⟨"TextMarksModel", "findStyles", "(I)V"⟩ ⟨"TextMarksModel", "findStyles", "(I)V"⟩ ∈ jgw := jmem_0 (i := 27) rfl rfl
theorem wd_333 : Cond.methodLink "TextMarksModel" 121 ⟨"TextMarksModel", "within", "(III)Z"⟩ ∈ jgw := jmem_3 (i := 62) rfl rfl
theorem wd_334 : Cond.static ⟨"TextMarksModel", "within", "(III)Z"⟩ ∈ jgw := jmem_3 (i := 63) rfl rfl
theorem wd_335 : Cond.constant "TextMarksModel" 125 55295 ∈ jgw := jmem_3 (i := 68) rfl rfl
theorem wd_336 : Cond.constant "TextMarksModel" 126 57344 ∈ jgw := jmem_3 (i := 69) rfl rfl
theorem wd_337 : Cond.constant "TextMarksModel" 127 1114111 ∈ jgw := jmem_3 (i := 70) rfl rfl
theorem wd_338 : Cond.fieldLink "TextMarksModel" 78 "TextMarksModel" "thrown" "I" ∈ jgw := jmem_2 (i := 201) rfl rfl
theorem wd_339 : Cond.methodLink "TextMarksModel" 128 ⟨"TextMarksModel", "isNode", "(I)Z"⟩ ∈ jgw := jmem_3 (i := 59) rfl rfl
theorem wd_340 : Cond.static ⟨"TextMarksModel", "isNode", "(I)Z"⟩ ∈ jgw := jmem_3 (i := 60) rfl rfl
theorem wd_341 : Cond.methodLink "TextMarksModel" 131 ⟨"TextMarksModel", "isSign", "(I)Z"⟩ ∈ jgw := jmem_3 (i := 65) rfl rfl
theorem wd_342 : Cond.static ⟨"TextMarksModel", "isSign", "(I)Z"⟩ ∈ jgw := jmem_3 (i := 66) rfl rfl
theorem wd_343 : Cond.methodLink "TextMarksModel" 134 ⟨"TextMarksModel", "look", "(I)V"⟩ ∈ jgw := jmem_3 (i := 71) rfl rfl
theorem wd_344 : Cond.instanceMethod ⟨"TextMarksModel", "look", "(I)V"⟩ ∈ jgw := jmem_3 (i := 73) rfl rfl
theorem wd_345 : Cond.selects "TextMarksModel" ⟨"TextMarksModel", "look", "(I)V"⟩ ⟨"TextMarksModel", "look", "(I)V"⟩ ∈ jgw := jmem_0 (i := 20) rfl rfl
theorem wd_346 : Cond.methodLink "TextMarksModel" 137 ⟨"TextMarksModel", "add", "(IIIIII)I"⟩ ∈ jgw := jmem_3 (i := 107) rfl rfl
theorem wd_347 : Cond.instanceMethod ⟨"TextMarksModel", "add", "(IIIIII)I"⟩ ∈ jgw := jmem_3 (i := 109) rfl rfl
theorem wd_348 : Cond.selects "TextMarksModel" ⟨"TextMarksModel", "add", "(IIIIII)I"⟩ ⟨"TextMarksModel", "add", "(IIIIII)I"⟩ ∈ jgw := jmem_0 (i := 29) rfl rfl
theorem wd_349 : Cond.methodLink "TextMarksModel" 141 ⟨"TextMarksModel", "startOf", "(I)I"⟩ ∈ jgw := jmem_3 (i := 127) rfl rfl
theorem wd_350 : Cond.instanceMethod ⟨"TextMarksModel", "startOf", "(I)I"⟩ ∈ jgw := jmem_3 (i := 129) rfl rfl
theorem wd_351 : Cond.selects "TextMarksModel" ⟨"TextMarksModel", "startOf", "(I)I"⟩ ⟨"TextMarksModel", "startOf", "(I)I"⟩ ∈ jgw := jmem_0 (i := 30) rfl rfl
theorem wd_352 : Cond.methodLink "TextMarksModel" 145 ⟨"TextMarksModel", "learn", "(II)V"⟩ ∈ jgw := jmem_3 (i := 139) rfl rfl
theorem wd_353 : Cond.instanceMethod ⟨"TextMarksModel", "learn", "(II)V"⟩ ∈ jgw := jmem_3 (i := 141) rfl rfl
theorem wd_354 : Cond.selects "TextMarksModel" ⟨"TextMarksModel", "learn", "(II)V"⟩ ⟨"TextMarksModel", "learn", "(II)V"⟩ ∈ jgw := jmem_0 (i := 31) rfl rfl
theorem wd_355 : Cond.methodLink "TextMarksModel" 148 ⟨"TextMarksModel", "isSeen", "(II)Z"⟩ ∈ jgw := jmem_3 (i := 151) rfl rfl
theorem wd_356 : Cond.instanceMethod ⟨"TextMarksModel", "isSeen", "(II)Z"⟩ ∈ jgw := jmem_3 (i := 153) rfl rfl
theorem wd_357 : Cond.selects "TextMarksModel" ⟨"TextMarksModel", "isSeen", "(II)Z"⟩ ⟨"TextMarksModel", "isSeen", "(II)Z"⟩ ∈ jgw := jmem_0 (i := 32) rfl rfl
theorem wd_358 : Cond.constant "TextMarksModel" 151 65535 ∈ jgw := jmem_3 (i := 163) rfl rfl
theorem wd_359 : Cond.constant "TextMarksModel" 152 55296 ∈ jgw := jmem_3 (i := 164) rfl rfl
theorem wd_360 : Cond.constant "TextMarksModel" 153 65536 ∈ jgw := jmem_3 (i := 165) rfl rfl
theorem wd_361 : Cond.constant "TextMarksModel" 154 56320 ∈ jgw := jmem_3 (i := 166) rfl rfl
theorem wd_362 : Cond.fieldLink "TextMarksModel" 155 "TextMarksModel" "runTo" "I" ∈ jgw := jmem_2 (i := 224) rfl rfl
theorem wd_363 : Cond.fieldLink "TextMarksModel" 158 "TextMarksModel" "runFrom" "I" ∈ jgw := jmem_2 (i := 223) rfl rfl
theorem wd_364 : Cond.methodLink "TextMarksModel" 161 ⟨"TextMarksModel", "areAlike", "(II)Z"⟩ ∈ jgw := jmem_3 (i := 183) rfl rfl
theorem wd_365 : Cond.instanceMethod ⟨"TextMarksModel", "areAlike", "(II)Z"⟩ ∈ jgw := jmem_3 (i := 185) rfl rfl
theorem wd_366 : Cond.selects "TextMarksModel" ⟨"TextMarksModel", "areAlike", "(II)Z"⟩ ⟨"TextMarksModel", "areAlike", "(II)Z"⟩ ∈ jgw := jmem_0 (i := 35) rfl rfl
theorem wd_367 : Cond.methodLink "TextMarksModel" 164 ⟨"TextMarksModel", "runs", "()I"⟩ ∈ jgw := jmem_3 (i := 175) rfl rfl
theorem wd_368 : Cond.instanceMethod ⟨"TextMarksModel", "runs", "()I"⟩ ∈ jgw := jmem_3 (i := 177) rfl rfl
theorem wd_369 : Cond.selects "TextMarksModel" ⟨"TextMarksModel", "runs", "()I"⟩ ⟨"TextMarksModel", "runs", "()I"⟩ ∈ jgw := jmem_0 (i := 33) rfl rfl
theorem wd_370 : Cond.methodLink "TextMarksModel" 168 ⟨"TextMarksModel", "findRun", "(I)I"⟩ ∈ jgw := jmem_3 (i := 179) rfl rfl
theorem wd_371 : Cond.instanceMethod ⟨"TextMarksModel", "findRun", "(I)I"⟩ ∈ jgw := jmem_3 (i := 181) rfl rfl
theorem wd_372 : Cond.selects "TextMarksModel" ⟨"TextMarksModel", "findRun", "(I)I"⟩ ⟨"TextMarksModel", "findRun", "(I)I"⟩ ∈ jgw := jmem_0 (i := 34) rfl rfl
theorem wd_373 : Cond.methodLink "TextMarksModel" 171 ⟨"TextMarksModel", "lying", "(II)I"⟩ ∈ jgw := jmem_3 (i := 191) rfl rfl
theorem wd_374 : Cond.instanceMethod ⟨"TextMarksModel", "lying", "(II)I"⟩ ∈ jgw := jmem_3 (i := 193) rfl rfl
theorem wd_375 : Cond.selects "TextMarksModel" ⟨"TextMarksModel", "lying", "(II)I"⟩ ⟨"TextMarksModel", "lying", "(II)I"⟩ ∈ jgw := jmem_0 (i := 36) rfl rfl
theorem wd_376 : Cond.methodLink "TextMarksModel" 175 ⟨"TextMarksModel", "kindOf", "(II)I"⟩ ∈ jgw := jmem_3 (i := 199) rfl rfl
theorem wd_377 : Cond.instanceMethod ⟨"TextMarksModel", "kindOf", "(II)I"⟩ ∈ jgw := jmem_3 (i := 201) rfl rfl
theorem wd_378 : Cond.selects "TextMarksModel" ⟨"TextMarksModel", "kindOf", "(II)I"⟩ ⟨"TextMarksModel", "kindOf", "(II)I"⟩ ∈ jgw := jmem_0 (i := 37) rfl rfl
theorem wd_379 : Cond.fieldLink "TextMarksModel" 178 "TextMarksModel" "oldSeen" "I" ∈ jgw := jmem_2 (i := 225) rfl rfl
theorem wd_380 : Cond.methodLink "TextMarksModel" 181 ⟨"TextMarksModel", "paragraphs", "()I"⟩ ∈ jgw := jmem_3 (i := 215) rfl rfl
theorem wd_381 : Cond.instanceMethod ⟨"TextMarksModel", "paragraphs", "()I"⟩ ∈ jgw := jmem_3 (i := 217) rfl rfl
theorem wd_382 : Cond.selects "TextMarksModel" ⟨"TextMarksModel", "paragraphs", "()I"⟩ ⟨"TextMarksModel", "paragraphs", "()I"⟩ ∈ jgw := jmem_0 (i := 39) rfl rfl
theorem wd_383 : Cond.fieldLink "TextMarksModel" 184 "TextMarksModel" "oldParagraphs" "I" ∈ jgw := jmem_2 (i := 230) rfl rfl
theorem wd_384 : Cond.methodLink "TextMarksModel" 187 ⟨"TextMarksModel", "kindAt", "(II)I"⟩ ∈ jgw := jmem_3 (i := 219) rfl rfl
theorem wd_385 : Cond.instanceMethod ⟨"TextMarksModel", "kindAt", "(II)I"⟩ ∈ jgw := jmem_3 (i := 221) rfl rfl
theorem wd_386 : Cond.selects "TextMarksModel" ⟨"TextMarksModel", "kindAt", "(II)I"⟩ ⟨"TextMarksModel", "kindAt", "(II)I"⟩ ∈ jgw := jmem_0 (i := 40) rfl rfl
theorem wd_387 : Cond.methodLink "TextMarksModel" 190 ⟨"TextMarksModel", "keep", "(I)V"⟩ ∈ jgw := jmem_3 (i := 211) rfl rfl
theorem wd_388 : Cond.instanceMethod ⟨"TextMarksModel", "keep", "(I)V"⟩ ∈ jgw := jmem_3 (i := 213) rfl rfl
theorem wd_389 : Cond.selects "TextMarksModel" ⟨"TextMarksModel", "keep", "(I)V"⟩ ⟨"TextMarksModel", "keep", "(I)V"⟩ ∈ jgw := jmem_0 (i := 38) rfl rfl
theorem wd_390 : Cond.methodLink "TextMarksModel" 193 ⟨"TextMarksModel", "units", "()I"⟩ ∈ jgw := jmem_3 (i := 227) rfl rfl
theorem wd_391 : Cond.instanceMethod ⟨"TextMarksModel", "units", "()I"⟩ ∈ jgw := jmem_3 (i := 229) rfl rfl
theorem wd_392 : Cond.selects "TextMarksModel" ⟨"TextMarksModel", "units", "()I"⟩ ⟨"TextMarksModel", "units", "()I"⟩ ∈ jgw := jmem_0 (i := 41) rfl rfl
theorem wd_393 : Cond.methodLink "TextMarksModel" 196 ⟨"TextMarksModel", "knownRows", "(I)I"⟩ ∈ jgw := jmem_3 (i := 231) rfl rfl
theorem wd_394 : Cond.instanceMethod ⟨"TextMarksModel", "knownRows", "(I)I"⟩ ∈ jgw := jmem_3 (i := 233) rfl rfl
theorem wd_395 : Cond.selects "TextMarksModel" ⟨"TextMarksModel", "knownRows", "(I)I"⟩ ⟨"TextMarksModel", "knownRows", "(I)I"⟩ ∈ jgw := jmem_0 (i := 42) rfl rfl
theorem wd_396 : Cond.methodLink "TextMarks$Node" 3 ⟨"java/lang/Object", "<init>", "()V"⟩ ∈ jgw := jmem_1 (i := 47) rfl rfl
theorem wd_397 : Cond.fieldLink "TextMarks$Node" 9 "TextMarks$Node" "knowing" "[Z" ∈ jgw := jmem_1 (i := 48) rfl rfl
theorem wd_398 : Cond.fieldLink "TextMarks$Node" 15 "TextMarks$Node" "known" "I" ∈ jgw := jmem_1 (i := 49) rfl rfl
theorem wd_399 : Cond.fieldLink "TextMarks$Node" 19 "TextMarks$Node" "time" "I" ∈ jgw := jmem_1 (i := 50) rfl rfl
theorem wd_400 : Cond.methodLink "TextMarks$Node" 22 ⟨"java/lang/Math", "max", "(II)I"⟩ ∈ jgw := jmem_1 (i := 206) rfl rfl
theorem wd_401 : Cond.methodLink "TextMarks$Rows" 3 ⟨"java/lang/Object", "<init>", "()V"⟩ ∈ jgw := jmem_1 (i := 20) rfl rfl
theorem wd_402 : Cond.fieldLink "TextMarks$Rows" 9 "TextMarks$Rows" "cells" "[I" ∈ jgw := jmem_1 (i := 22) rfl rfl
theorem wd_403 : Cond.fieldLink "TextMarks$Rows" 15 "TextMarks$Rows" "undos" "[I" ∈ jgw := jmem_1 (i := 23) rfl rfl
theorem wd_404 : Cond.fieldLink "TextMarks$Rows" 18 "TextMarks$Rows" "inOrder" "[I" ∈ jgw := jmem_1 (i := 24) rfl rfl
theorem wd_405 : Cond.fieldLink "TextMarks$Rows" 21 "TextMarks$Rows" "places" "[I" ∈ jgw := jmem_1 (i := 25) rfl rfl
theorem wd_406 : Cond.fieldLink "TextMarks$Rows" 24 "TextMarks$Rows" "count" "I" ∈ jgw := jmem_1 (i := 21) rfl rfl
theorem wd_407 : Cond.methodLink "TextMarks$Rows" 28 ⟨"TextMarks$Rows", "has", "(I)Z"⟩ ∈ jgw := jmem_1 (i := 137) rfl rfl
theorem wd_408 : Cond.fieldLink "TextMarks$Rows" 32 "TextMarks$Rows" "placeCount" "I" ∈ jgw := jmem_1 (i := 26) rfl rfl
theorem wd_409 : Cond.methodLink "TextMarks$Rows" 35 ⟨"TextMarks$Rows", "fileInOrder", "(I)V"⟩ ∈ jgw := jmem_1 (i := 185) rfl rfl
theorem wd_410 : Cond.instanceMethod ⟨"TextMarks$Rows", "fileInOrder", "(I)V"⟩ ∈ jgw := jmem_1 (i := 187) rfl rfl
theorem wd_411 : Cond.selects "TextMarks$Rows" ⟨"TextMarks$Rows", "fileInOrder", "(I)V"⟩ ⟨"TextMarks$Rows", "fileInOrder", "(I)V"⟩ ∈ jgw := jmem_0 (i := 5) rfl rfl
theorem wd_412 : Cond.methodLink "TextMarks$Rows" 39 ⟨"TextMarks$Rows", "fileInPlaces", "(II)V"⟩ ∈ jgw := jmem_1 (i := 194) rfl rfl
theorem wd_413 : Cond.instanceMethod ⟨"TextMarks$Rows", "fileInPlaces", "(II)V"⟩ ∈ jgw := jmem_1 (i := 196) rfl rfl
theorem wd_414 : Cond.selects "TextMarks$Rows" ⟨"TextMarks$Rows", "fileInPlaces", "(II)V"⟩ ⟨"TextMarks$Rows", "fileInPlaces", "(II)V"⟩ ∈ jgw := jmem_0 (i := 7) rfl rfl
theorem wd_415 : Cond.methodLink "TextMarks$Rows" 43 ⟨"TextMarks$Rows", "cell", "(II)I"⟩ ∈ jgw := jmem_1 (i := 193) rfl rfl
theorem wd_416 : Cond.methodLink "TextMarks$Rows" 47 ⟨"TextMarks$Rows", "isLater", "(II)Z"⟩ ∈ jgw := jmem_1 (i := 189) rfl rfl
theorem wd_417 : Cond.instanceMethod ⟨"TextMarks$Rows", "isLater", "(II)Z"⟩ ∈ jgw := jmem_1 (i := 191) rfl rfl
theorem wd_418 : Cond.selects "TextMarks$Rows" ⟨"TextMarks$Rows", "isLater", "(II)Z"⟩ ⟨"TextMarks$Rows", "isLater", "(II)Z"⟩ ∈ jgw := jmem_0 (i := 6) rfl rfl
theorem wd_419 : Cond.methodLink "TextMarks$Rows" 51 ⟨"TextMarks$Rows", "firstPlaceBehind", "(I)I"⟩ ∈ jgw := jmem_1 (i := 198) rfl rfl
theorem wd_420 : Cond.instanceMethod ⟨"TextMarks$Rows", "firstPlaceBehind", "(I)I"⟩ ∈ jgw := jmem_1 (i := 200) rfl rfl
theorem wd_421 : Cond.selects "TextMarks$Rows" ⟨"TextMarks$Rows", "firstPlaceBehind", "(I)I"⟩ ⟨"TextMarks$Rows", "firstPlaceBehind", "(I)I"⟩ ∈ jgw := jmem_0 (i := 8) rfl rfl
theorem wd_422 : Cond.methodLink "TextMarks$View" 3 ⟨"java/lang/Object", "<init>", "()V"⟩ ∈ jgw := jmem_1 (i := 64) rfl rfl
theorem wd_423 : Cond.fieldLink "TextMarks$View" 9 "TextMarks$View" "inserts" "[I" ∈ jgw := jmem_1 (i := 66) rfl rfl
theorem wd_424 : Cond.fieldLink "TextMarks$View" 15 "TextMarks$View" "signs" "[I" ∈ jgw := jmem_1 (i := 67) rfl rfl
theorem wd_425 : Cond.fieldLink "TextMarks$View" 18 "TextMarks$View" "looks" "[I" ∈ jgw := jmem_1 (i := 68) rfl rfl
theorem wd_426 : Cond.fieldLink "TextMarks$View" 21 "TextMarks$View" "good" "[Z" ∈ jgw := jmem_1 (i := 69) rfl rfl
theorem wd_427 : Cond.fieldLink "TextMarks$View" 25 "TextMarks$View" "seen" "[Z" ∈ jgw := jmem_1 (i := 70) rfl rfl
theorem wd_428 : Cond.fieldLink "TextMarks$View" 28 "TextMarks$View" "ahead" "[I" ∈ jgw := jmem_1 (i := 71) rfl rfl
theorem wd_429 : Cond.fieldLink "TextMarks$View" 31 "TextMarks$View" "kinds" "[I" ∈ jgw := jmem_1 (i := 72) rfl rfl
theorem wd_430 : Cond.methodLink "TextMarks$View" 34 ⟨"TextMarks$View", "markGoodAndSeen", "(LTextMarks$Rows;LTextMarks$Node;)V"⟩ ∈ jgw := jmem_1 (i := 125) rfl rfl
theorem wd_431 : Cond.instanceMethod ⟨"TextMarks$View", "markGoodAndSeen", "(LTextMarks$Rows;LTextMarks$Node;)V"⟩ ∈ jgw := jmem_1 (i := 127) rfl rfl
theorem wd_432 : Cond.selects "TextMarks$View" ⟨"TextMarks$View", "markGoodAndSeen", "(LTextMarks$Rows;LTextMarks$Node;)V"⟩ ⟨"TextMarks$View", "markGoodAndSeen", "(LTextMarks$Rows;LTextMarks$Node;)V"⟩ ∈ jgw := jmem_0 (i := 2) rfl rfl
theorem wd_433 : Cond.fieldLink "TextMarks$View" 38 "TextMarks$View" "size" "I" ∈ jgw := jmem_1 (i := 65) rfl rfl
theorem wd_434 : Cond.methodLink "TextMarks$View" 42 ⟨"TextMarks$Rows", "placeCount", "()I"⟩ ∈ jgw := jmem_1 (i := 153) rfl rfl
theorem wd_435 : Cond.methodLink "TextMarks$View" 48 ⟨"TextMarks$Rows", "placeAt", "(I)I"⟩ ∈ jgw := jmem_1 (i := 157) rfl rfl
theorem wd_436 : Cond.methodLink "TextMarks$View" 52 ⟨"TextMarks$Rows", "cell", "(II)I"⟩ ∈ jgw := jmem_1 (i := 133) rfl rfl
theorem wd_437 : Cond.methodLink "TextMarks$View" 56 ⟨"TextMarks$Rows", "count", "()I"⟩ ∈ jgw := jmem_1 (i := 129) rfl rfl
theorem wd_438 : Cond.methodLink "TextMarks$View" 59 ⟨"TextMarks$Node", "knows", "(I)Z"⟩ ∈ jgw := jmem_1 (i := 141) rfl rfl
theorem wd_439 : Cond.methodLink "TextMarks$View" 65 ⟨"TextMarks$Rows", "undoOf", "(I)I"⟩ ∈ jgw := jmem_1 (i := 145) rfl rfl
theorem wd_440 : Cond.methodLink "TextMarks$View" 68 ⟨"TextMarks$View", "hide", "(I)V"⟩ ∈ jgw := jmem_1 (i := 149) rfl rfl
theorem wd_441 : Cond.instanceMethod ⟨"TextMarks$View", "hide", "(I)V"⟩ ∈ jgw := jmem_1 (i := 151) rfl rfl
theorem wd_442 : Cond.selects "TextMarks$View" ⟨"TextMarks$View", "hide", "(I)V"⟩ ⟨"TextMarks$View", "hide", "(I)V"⟩ ∈ jgw := jmem_0 (i := 3) rfl rfl
theorem wd_443 : Cond.methodLink "TextMarks$View" 72 ⟨"TextMarks$View", "hasPlace", "(I)Z"⟩ ∈ jgw := jmem_1 (i := 169) rfl rfl
theorem wd_444 : Cond.methodLink "TextMarks$View" 75 ⟨"TextMarks$View", "aheadOf", "(I)I"⟩ ∈ jgw := jmem_2 (i := 79) rfl rfl
theorem wd_445 : Cond.methodLink "TextMarks$View" 78 ⟨"TextMarks$View", "widthOf", "(I)I"⟩ ∈ jgw := jmem_2 (i := 41) rfl rfl
theorem wd_446 : Cond.static ⟨"TextMarks$View", "widthOf", "(I)I"⟩ ∈ jgw := jmem_2 (i := 42) rfl rfl
theorem wd_447 : Cond.methodLink "TextMarks$View" 81 ⟨"TextMarks$View", "partOf", "(II)I"⟩ ∈ jgw := jmem_2 (i := 45) rfl rfl
theorem wd_448 : Cond.static ⟨"TextMarks$View", "partOf", "(II)I"⟩ ∈ jgw := jmem_2 (i := 46) rfl rfl
theorem wd_449 : Cond.constant "TextMarks$View" 84 65536 ∈ jgw := jmem_2 (i := 44) rfl rfl
theorem wd_450 : Cond.constant "TextMarks$View" 85 55296 ∈ jgw := jmem_2 (i := 48) rfl rfl
theorem wd_451 : Cond.constant "TextMarks$View" 86 56320 ∈ jgw := jmem_2 (i := 49) rfl rfl
theorem wd_452 : Cond.methodLink "TextMarks$View" 87 ⟨"TextMarks$Rows", "inOrderAt", "(I)I"⟩ ∈ jgw := jmem_2 (i := 58) rfl rfl
theorem wd_453 : Cond.instanceMethod ⟨"TextMarks$Rows", "inOrderAt", "(I)I"⟩ ∈ jgw := jmem_2 (i := 59) rfl rfl
theorem wd_454 : Cond.selects "TextMarks$Rows" ⟨"TextMarks$Rows", "inOrderAt", "(I)I"⟩ ⟨"TextMarks$Rows", "inOrderAt", "(I)I"⟩ ∈ jgw := jmem_2 (i := 60) rfl rfl
theorem wd_455 : Cond.methodLink "TextMarks$View" 90 ⟨"TextMarks$View", "isGood", "(I)Z"⟩ ∈ jgw := jmem_2 (i := 62) rfl rfl
theorem wd_456 : Cond.methodLink "TextMarks$View" 93 ⟨"TextMarks$View", "paintOne", "(LTextMarks$Rows;I)V"⟩ ∈ jgw := jmem_2 (i := 66) rfl rfl
theorem wd_457 : Cond.instanceMethod ⟨"TextMarks$View", "paintOne", "(LTextMarks$Rows;I)V"⟩ ∈ jgw := jmem_2 (i := 68) rfl rfl
theorem wd_458 : Cond.selects "TextMarks$View" ⟨"TextMarks$View", "paintOne", "(LTextMarks$Rows;I)V"⟩ ⟨"TextMarks$View", "paintOne", "(LTextMarks$Rows;I)V"⟩ ∈ jgw := jmem_0 (i := 10) rfl rfl
theorem wd_459 : Cond.methodLink "TextMarks$View" 97 ⟨"TextMarks$View", "endOf", "(II)I"⟩ ∈ jgw := jmem_2 (i := 70) rfl rfl
theorem wd_460 : Cond.instanceMethod ⟨"TextMarks$View", "endOf", "(II)I"⟩ ∈ jgw := jmem_2 (i := 72) rfl rfl
theorem wd_461 : Cond.selects "TextMarks$View" ⟨"TextMarks$View", "endOf", "(II)I"⟩ ⟨"TextMarks$View", "endOf", "(II)I"⟩ ∈ jgw := jmem_0 (i := 11) rfl rfl
theorem wd_462 : Cond.methodLink "TextMarks$View" 103 ⟨"TextMarks$View", "aheadBehind", "(I)I"⟩ ∈ jgw := jmem_2 (i := 75) rfl rfl
theorem wd_463 : Cond.methodLink "TextMarks$View" 106 ⟨"TextMarks$View", "startsRun", "(I)Z"⟩ ∈ jgw := jmem_2 (i := 95) rfl rfl
theorem wd_464 : Cond.instanceMethod ⟨"TextMarks$View", "startsRun", "(I)Z"⟩ ∈ jgw := jmem_2 (i := 97) rfl rfl
theorem wd_465 : Cond.selects "TextMarks$View" ⟨"TextMarks$View", "startsRun", "(I)Z"⟩ ⟨"TextMarks$View", "startsRun", "(I)Z"⟩ ∈ jgw := jmem_0 (i := 12) rfl rfl
theorem wd_466 : Cond.methodLink "TextMarks$View" 109 ⟨"TextMarks$View", "keepKind", "(II)V"⟩ ∈ jgw := jmem_2 (i := 131) rfl rfl
theorem wd_467 : Cond.instanceMethod ⟨"TextMarks$View", "keepKind", "(II)V"⟩ ∈ jgw := jmem_2 (i := 133) rfl rfl
theorem wd_468 : Cond.selects "TextMarks$View" ⟨"TextMarks$View", "keepKind", "(II)V"⟩ ⟨"TextMarks$View", "keepKind", "(II)V"⟩ ∈ jgw := jmem_0 (i := 15) rfl rfl
theorem wd_469 : Cond.methodLink "TextMarks$View" 113 ⟨"TextMarks$View", "insertAt", "(I)I"⟩ ∈ jgw := jmem_2 (i := 139) rfl rfl
theorem wd_470 : Cond.methodLink "TextMarks$View" 116 ⟨"TextMarks$View", "kindFrom", "(I)I"⟩ ∈ jgw := jmem_2 (i := 160) rfl rfl
theorem wn_17_1 : Cond.methodLinkNest "TextMarks" 9 ⟨"TextMarks$Rows", "<init>", "()V"⟩ "TextMarks" ∈ lw_tbl := jmeml_1 (i := 17) rfl
theorem wo_Node : Cond.arrayOver (FieldType.object "TextMarks$Node") ∈ lw_tbl := jmeml_1 (i := 42) rfl
theorem wn_44_1 : Cond.methodLinkNest "TextMarks" 22 ⟨"TextMarks$Node", "<init>", "()V"⟩ "TextMarks" ∈ lw_tbl := jmeml_1 (i := 44) rfl
theorem wn_61_1 : Cond.methodLinkNest "TextMarks" 25 ⟨"TextMarks$View", "<init>", "()V"⟩ "TextMarks" ∈ lw_tbl := jmeml_1 (i := 61) rfl
theorem wn_74_2 : Cond.methodLinkNest "TextMarks$View" 100 ⟨"TextMarks", "grows", "(I)Z"⟩ "TextMarks" ∈ lw_tbl := jmeml_2 (i := 74) rfl
theorem wc_1 : Cond.code (tm_y 1) (tm_c 1) (tm_l 1) (tm_r 1) ∈ jgw := jmem_1 (i := 11) rfl rfl
theorem wc_2 : Cond.code (tm_y 2) (tm_c 2) (tm_l 2) (tm_r 2) ∈ jgw := jmem_1 (i := 106) rfl rfl
theorem wc_3 : Cond.code (tm_y 3) (tm_c 3) (tm_l 3) (tm_r 3) ∈ jgw := jmem_1 (i := 212) rfl rfl
theorem wc_4 : Cond.code (tm_y 4) (tm_c 4) (tm_l 4) (tm_r 4) ∈ jgw := jmem_1 (i := 217) rfl rfl
theorem wc_5 : Cond.code (tm_y 5) (tm_c 5) (tm_l 5) (tm_r 5) ∈ jgw := jmem_1 (i := 231) rfl rfl
theorem wc_6 : Cond.code (tm_y 6) (tm_c 6) (tm_l 6) (tm_r 6) ∈ jgw := jmem_1 (i := 235) rfl rfl
theorem wc_7 : Cond.code (tm_y 7) (tm_c 7) (tm_l 7) (tm_r 7) ∈ jgw := jmem_2 (i := 3) rfl rfl
theorem wc_8 : Cond.code (tm_y 8) (tm_c 8) (tm_l 8) (tm_r 8) ∈ jgw := jmem_2 (i := 10) rfl rfl
theorem wc_9 : Cond.code (tm_y 9) (tm_c 9) (tm_l 9) (tm_r 9) ∈ jgw := jmem_2 (i := 19) rfl rfl
theorem wc_10 : Cond.code (tm_y 10) (tm_c 10) (tm_l 10) (tm_r 10) ∈ jgw := jmem_2 (i := 24) rfl rfl
theorem wc_11 : Cond.code (tm_y 11) (tm_c 11) (tm_l 11) (tm_r 11) ∈ jgw := jmem_2 (i := 32) rfl rfl
theorem wc_12 : Cond.code (tm_y 12) (tm_c 12) (tm_l 12) (tm_r 12) ∈ jgw := jmem_2 (i := 36) rfl rfl
theorem wc_13 : Cond.code (tm_y 13) (tm_c 13) (tm_l 13) (tm_r 13) ∈ jgw := jmem_2 (i := 53) rfl rfl
theorem wc_14 : Cond.code (tm_y 14) (tm_c 14) (tm_l 14) (tm_r 14) ∈ jgw := jmem_2 (i := 90) rfl rfl
theorem wc_15 : Cond.code (tm_y 15) (tm_c 15) (tm_l 15) (tm_r 15) ∈ jgw := jmem_2 (i := 106) rfl rfl
theorem wc_16 : Cond.code (tm_y 16) (tm_c 16) (tm_l 16) (tm_r 16) ∈ jgw := jmem_2 (i := 122) rfl rfl
theorem wc_17 : Cond.code (tm_y 17) (tm_c 17) (tm_l 17) (tm_r 17) ∈ jgw := jmem_2 (i := 143) rfl rfl
theorem wc_18 : Cond.code (tm_y 18) (tm_c 18) (tm_l 18) (tm_r 18) ∈ jgw := jmem_2 (i := 147) rfl rfl
theorem wc_19 : Cond.code (tm_y 19) (tm_c 19) (tm_l 19) (tm_r 19) ∈ jgw := jmem_2 (i := 172) rfl rfl
theorem wc_20 : Cond.code (tm_y 20) (tm_c 20) (tm_l 20) (tm_r 20) ∈ jgw := jmem_1 (i := 120) rfl rfl
theorem wc_21 : Cond.code (tm_y 21) (tm_c 21) (tm_l 21) (tm_r 21) ∈ jgw := jmem_1 (i := 109) rfl rfl
theorem wc_22 : Cond.code (tm_y 22) (tm_c 22) (tm_l 22) (tm_r 22) ∈ jgw := jmem_1 (i := 220) rfl rfl
theorem wc_23 : Cond.code (tm_y 23) (tm_c 23) (tm_l 23) (tm_r 23) ∈ jgw := jmem_1 (i := 227) rfl rfl
theorem wc_24 : Cond.code (tm_y 24) (tm_c 24) (tm_l 24) (tm_r 24) ∈ jgw := jmem_1 (i := 116) rfl rfl
theorem wc_25 : Cond.code (tm_y 25) (tm_c 25) (tm_l 25) (tm_r 25) ∈ jgw := jmem_1 (i := 176) rfl rfl
theorem wc_26 : Cond.code (tm_y 26) (tm_c 26) (tm_l 26) (tm_r 26) ∈ jgw := jmem_2 (i := 15) rfl rfl
theorem wc_27 : Cond.code (tm_y 27) (tm_c 27) (tm_l 27) (tm_r 27) ∈ jgw := jmem_2 (i := 188) rfl rfl
theorem wc_28 : Cond.code (tm_y 28) (tm_c 28) (tm_l 28) (tm_r 28) ∈ jgw := jmem_2 (i := 111) rfl rfl
theorem wc_29 : Cond.code (tm_y 29) (tm_c 29) (tm_l 29) (tm_r 29) ∈ jgw := jmem_2 (i := 116) rfl rfl
theorem wc_30 : Cond.code (tm_y 30) (tm_c 30) (tm_l 30) (tm_r 30) ∈ jgw := jmem_2 (i := 151) rfl rfl
theorem wc_31 : Cond.code (tm_y 31) (tm_c 31) (tm_l 31) (tm_r 31) ∈ jgw := jmem_2 (i := 164) rfl rfl
theorem wc_32 : Cond.code (tm_y 32) (tm_c 32) (tm_l 32) (tm_r 32) ∈ jgw := jmem_2 (i := 168) rfl rfl
theorem wc_33 : Cond.code (tm_y 33) (tm_c 33) (tm_l 33) (tm_r 33) ∈ jgw := jmem_2 (i := 199) rfl rfl
theorem wc_34 : Cond.code (tm_y 34) (tm_c 34) (tm_l 34) (tm_r 34) ∈ jgw := jmem_3 (i := 64) rfl rfl
theorem wc_35 : Cond.code (tm_y 35) (tm_c 35) (tm_l 35) (tm_r 35) ∈ jgw := jmem_3 (i := 82) rfl rfl
theorem wc_36 : Cond.code (tm_y 36) (tm_c 36) (tm_l 36) (tm_r 36) ∈ jgw := jmem_3 (i := 94) rfl rfl
theorem wc_37 : Cond.code (tm_y 37) (tm_c 37) (tm_l 37) (tm_r 37) ∈ jgw := jmem_3 (i := 78) rfl rfl
theorem wc_38 : Cond.code (tm_y 38) (tm_c 38) (tm_l 38) (tm_r 38) ∈ jgw := jmem_3 (i := 90) rfl rfl
theorem wc_39 : Cond.code (tm_y 39) (tm_c 39) (tm_l 39) (tm_r 39) ∈ jgw := jmem_3 (i := 86) rfl rfl
theorem wc_40 : Cond.code (tm_y 40) (tm_c 40) (tm_l 40) (tm_r 40) ∈ jgw := jmem_3 (i := 98) rfl rfl
theorem wc_41 : Cond.code (tm_y 41) (tm_c 41) (tm_l 41) (tm_r 41) ∈ jgw := jmem_3 (i := 106) rfl rfl
theorem wc_42 : Cond.code (tm_y 42) (tm_c 42) (tm_l 42) (tm_r 42) ∈ jgw := jmem_3 (i := 102) rfl rfl
theorem wc_43 : Cond.code (tm_y 43) (tm_c 43) (tm_l 43) (tm_r 43) ∈ jgw := jmem_3 (i := 74) rfl rfl
theorem wc_44 : Cond.code (tm_y 44) (tm_c 44) (tm_l 44) (tm_r 44) ∈ jgw := jmem_3 (i := 61) rfl rfl
theorem wc_45 : Cond.code (tm_y 45) (tm_c 45) (tm_l 45) (tm_r 45) ∈ jgw := jmem_3 (i := 110) rfl rfl
theorem wc_46 : Cond.code (tm_y 46) (tm_c 46) (tm_l 46) (tm_r 46) ∈ jgw := jmem_3 (i := 67) rfl rfl
theorem wc_47 : Cond.code (tm_y 47) (tm_c 47) (tm_l 47) (tm_r 47) ∈ jgw := jmem_3 (i := 58) rfl rfl
theorem wc_48 : Cond.code (tm_y 48) (tm_c 48) (tm_l 48) (tm_r 48) ∈ jgw := jmem_3 (i := 114) rfl rfl
theorem wc_49 : Cond.code (tm_y 49) (tm_c 49) (tm_l 49) (tm_r 49) ∈ jgw := jmem_3 (i := 118) rfl rfl
theorem wc_50 : Cond.code (tm_y 50) (tm_c 50) (tm_l 50) (tm_r 50) ∈ jgw := jmem_3 (i := 122) rfl rfl
theorem wc_51 : Cond.code (tm_y 51) (tm_c 51) (tm_l 51) (tm_r 51) ∈ jgw := jmem_3 (i := 130) rfl rfl
theorem wc_52 : Cond.code (tm_y 52) (tm_c 52) (tm_l 52) (tm_r 52) ∈ jgw := jmem_3 (i := 126) rfl rfl
theorem wc_53 : Cond.code (tm_y 53) (tm_c 53) (tm_l 53) (tm_r 53) ∈ jgw := jmem_3 (i := 134) rfl rfl
theorem wc_54 : Cond.code (tm_y 54) (tm_c 54) (tm_l 54) (tm_r 54) ∈ jgw := jmem_3 (i := 142) rfl rfl
theorem wc_55 : Cond.code (tm_y 55) (tm_c 55) (tm_l 55) (tm_r 55) ∈ jgw := jmem_3 (i := 138) rfl rfl
theorem wc_56 : Cond.code (tm_y 56) (tm_c 56) (tm_l 56) (tm_r 56) ∈ jgw := jmem_3 (i := 146) rfl rfl
theorem wc_57 : Cond.code (tm_y 57) (tm_c 57) (tm_l 57) (tm_r 57) ∈ jgw := jmem_3 (i := 154) rfl rfl
theorem wc_58 : Cond.code (tm_y 58) (tm_c 58) (tm_l 58) (tm_r 58) ∈ jgw := jmem_3 (i := 150) rfl rfl
theorem wc_59 : Cond.code (tm_y 59) (tm_c 59) (tm_l 59) (tm_r 59) ∈ jgw := jmem_3 (i := 158) rfl rfl
theorem wc_60 : Cond.code (tm_y 60) (tm_c 60) (tm_l 60) (tm_r 60) ∈ jgw := jmem_3 (i := 162) rfl rfl
theorem wc_61 : Cond.code (tm_y 61) (tm_c 61) (tm_l 61) (tm_r 61) ∈ jgw := jmem_3 (i := 170) rfl rfl
theorem wc_62 : Cond.code (tm_y 62) (tm_c 62) (tm_l 62) (tm_r 62) ∈ jgw := jmem_3 (i := 186) rfl rfl
theorem wc_63 : Cond.code (tm_y 63) (tm_c 63) (tm_l 63) (tm_r 63) ∈ jgw := jmem_3 (i := 182) rfl rfl
theorem wc_64 : Cond.code (tm_y 64) (tm_c 64) (tm_l 64) (tm_r 64) ∈ jgw := jmem_3 (i := 174) rfl rfl
theorem wc_65 : Cond.code (tm_y 65) (tm_c 65) (tm_l 65) (tm_r 65) ∈ jgw := jmem_3 (i := 178) rfl rfl
theorem wc_66 : Cond.code (tm_y 66) (tm_c 66) (tm_l 66) (tm_r 66) ∈ jgw := jmem_3 (i := 190) rfl rfl
theorem wc_67 : Cond.code (tm_y 67) (tm_c 67) (tm_l 67) (tm_r 67) ∈ jgw := jmem_3 (i := 194) rfl rfl
theorem wc_68 : Cond.code (tm_y 68) (tm_c 68) (tm_l 68) (tm_r 68) ∈ jgw := jmem_3 (i := 202) rfl rfl
theorem wc_69 : Cond.code (tm_y 69) (tm_c 69) (tm_l 69) (tm_r 69) ∈ jgw := jmem_3 (i := 198) rfl rfl
theorem wc_70 : Cond.code (tm_y 70) (tm_c 70) (tm_l 70) (tm_r 70) ∈ jgw := jmem_3 (i := 206) rfl rfl
theorem wc_71 : Cond.code (tm_y 71) (tm_c 71) (tm_l 71) (tm_r 71) ∈ jgw := jmem_3 (i := 218) rfl rfl
theorem wc_72 : Cond.code (tm_y 72) (tm_c 72) (tm_l 72) (tm_r 72) ∈ jgw := jmem_3 (i := 222) rfl rfl
theorem wc_73 : Cond.code (tm_y 73) (tm_c 73) (tm_l 73) (tm_r 73) ∈ jgw := jmem_3 (i := 214) rfl rfl
theorem wc_74 : Cond.code (tm_y 74) (tm_c 74) (tm_l 74) (tm_r 74) ∈ jgw := jmem_3 (i := 210) rfl rfl
theorem wc_75 : Cond.code (tm_y 75) (tm_c 75) (tm_l 75) (tm_r 75) ∈ jgw := jmem_3 (i := 230) rfl rfl
theorem wc_76 : Cond.code (tm_y 76) (tm_c 76) (tm_l 76) (tm_r 76) ∈ jgw := jmem_3 (i := 234) rfl rfl
theorem wc_77 : Cond.code (tm_y 77) (tm_c 77) (tm_l 77) (tm_r 77) ∈ jgw := jmem_3 (i := 226) rfl rfl
theorem wc_78 : Cond.code (tm_y 78) (tm_c 78) (tm_l 78) (tm_r 78) ∈ jgw := jmem_1 (i := 46) rfl rfl
theorem wc_79 : Cond.code (tm_y 79) (tm_c 79) (tm_l 79) (tm_r 79) ∈ jgw := jmem_2 (i := 194) rfl rfl
theorem wc_80 : Cond.code (tm_y 80) (tm_c 80) (tm_l 80) (tm_r 80) ∈ jgw := jmem_1 (i := 180) rfl rfl
theorem wc_81 : Cond.code (tm_y 81) (tm_c 81) (tm_l 81) (tm_r 81) ∈ jgw := jmem_1 (i := 144) rfl rfl
theorem wc_82 : Cond.code (tm_y 82) (tm_c 82) (tm_l 82) (tm_r 82) ∈ jgw := jmem_1 (i := 205) rfl rfl
theorem wc_83 : Cond.code (tm_y 83) (tm_c 83) (tm_l 83) (tm_r 83) ∈ jgw := jmem_1 (i := 19) rfl rfl
theorem wc_84 : Cond.code (tm_y 84) (tm_c 84) (tm_l 84) (tm_r 84) ∈ jgw := jmem_1 (i := 132) rfl rfl
theorem wc_85 : Cond.code (tm_y 85) (tm_c 85) (tm_l 85) (tm_r 85) ∈ jgw := jmem_1 (i := 140) rfl rfl
theorem wc_86 : Cond.code (tm_y 86) (tm_c 86) (tm_l 86) (tm_r 86) ∈ jgw := jmem_1 (i := 136) rfl rfl
theorem wc_87 : Cond.code (tm_y 87) (tm_c 87) (tm_l 87) (tm_r 87) ∈ jgw := jmem_1 (i := 148) rfl rfl
theorem wc_88 : Cond.code (tm_y 88) (tm_c 88) (tm_l 88) (tm_r 88) ∈ jgw := jmem_2 (i := 61) rfl rfl
theorem wc_89 : Cond.code (tm_y 89) (tm_c 89) (tm_l 89) (tm_r 89) ∈ jgw := jmem_1 (i := 156) rfl rfl
theorem wc_90 : Cond.code (tm_y 90) (tm_c 90) (tm_l 90) (tm_r 90) ∈ jgw := jmem_1 (i := 160) rfl rfl
theorem wc_91 : Cond.code (tm_y 91) (tm_c 91) (tm_l 91) (tm_r 91) ∈ jgw := jmem_1 (i := 184) rfl rfl
theorem wc_92 : Cond.code (tm_y 92) (tm_c 92) (tm_l 92) (tm_r 92) ∈ jgw := jmem_1 (i := 192) rfl rfl
theorem wc_93 : Cond.code (tm_y 93) (tm_c 93) (tm_l 93) (tm_r 93) ∈ jgw := jmem_1 (i := 188) rfl rfl
theorem wc_94 : Cond.code (tm_y 94) (tm_c 94) (tm_l 94) (tm_r 94) ∈ jgw := jmem_1 (i := 197) rfl rfl
theorem wc_95 : Cond.code (tm_y 95) (tm_c 95) (tm_l 95) (tm_r 95) ∈ jgw := jmem_1 (i := 201) rfl rfl
theorem wc_96 : Cond.code (tm_y 96) (tm_c 96) (tm_l 96) (tm_r 96) ∈ jgw := jmem_1 (i := 63) rfl rfl
theorem wc_97 : Cond.code (tm_y 97) (tm_c 97) (tm_l 97) (tm_r 97) ∈ jgw := jmem_1 (i := 124) rfl rfl
theorem wc_98 : Cond.code (tm_y 98) (tm_c 98) (tm_l 98) (tm_r 98) ∈ jgw := jmem_1 (i := 128) rfl rfl
theorem wc_99 : Cond.code (tm_y 99) (tm_c 99) (tm_l 99) (tm_r 99) ∈ jgw := jmem_1 (i := 152) rfl rfl
theorem wc_100 : Cond.code (tm_y 100) (tm_c 100) (tm_l 100) (tm_r 100) ∈ jgw := jmem_1 (i := 164) rfl rfl
theorem wc_101 : Cond.code (tm_y 101) (tm_c 101) (tm_l 101) (tm_r 101) ∈ jgw := jmem_2 (i := 65) rfl rfl
theorem wc_102 : Cond.code (tm_y 102) (tm_c 102) (tm_l 102) (tm_r 102) ∈ jgw := jmem_1 (i := 172) rfl rfl
theorem wc_103 : Cond.code (tm_y 103) (tm_c 103) (tm_l 103) (tm_r 103) ∈ jgw := jmem_1 (i := 224) rfl rfl
theorem wc_104 : Cond.code (tm_y 104) (tm_c 104) (tm_l 104) (tm_r 104) ∈ jgw := jmem_1 (i := 168) rfl rfl
theorem wc_105 : Cond.code (tm_y 105) (tm_c 105) (tm_l 105) (tm_r 105) ∈ jgw := jmem_2 (i := 28) rfl rfl
theorem wc_106 : Cond.code (tm_y 106) (tm_c 106) (tm_l 106) (tm_r 106) ∈ jgw := jmem_2 (i := 82) rfl rfl
theorem wc_107 : Cond.code (tm_y 107) (tm_c 107) (tm_l 107) (tm_r 107) ∈ jgw := jmem_2 (i := 78) rfl rfl
theorem wc_108 : Cond.code (tm_y 108) (tm_c 108) (tm_l 108) (tm_r 108) ∈ jgw := jmem_2 (i := 176) rfl rfl
theorem wc_109 : Cond.code (tm_y 109) (tm_c 109) (tm_l 109) (tm_r 109) ∈ jgw := jmem_2 (i := 40) rfl rfl
theorem wc_110 : Cond.code (tm_y 110) (tm_c 110) (tm_l 110) (tm_r 110) ∈ jgw := jmem_2 (i := 43) rfl rfl
theorem wc_111 : Cond.code (tm_y 111) (tm_c 111) (tm_l 111) (tm_r 111) ∈ jgw := jmem_2 (i := 47) rfl rfl
theorem wc_112 : Cond.code (tm_y 112) (tm_c 112) (tm_l 112) (tm_r 112) ∈ jgw := jmem_2 (i := 57) rfl rfl
theorem wc_113 : Cond.code (tm_y 113) (tm_c 113) (tm_l 113) (tm_r 113) ∈ jgw := jmem_2 (i := 69) rfl rfl
theorem wc_114 : Cond.code (tm_y 114) (tm_c 114) (tm_l 114) (tm_r 114) ∈ jgw := jmem_2 (i := 73) rfl rfl
theorem wc_115 : Cond.code (tm_y 115) (tm_c 115) (tm_l 115) (tm_r 115) ∈ jgw := jmem_2 (i := 86) rfl rfl
theorem wc_116 : Cond.code (tm_y 116) (tm_c 116) (tm_l 116) (tm_r 116) ∈ jgw := jmem_2 (i := 98) rfl rfl
theorem wc_117 : Cond.code (tm_y 117) (tm_c 117) (tm_l 117) (tm_r 117) ∈ jgw := jmem_2 (i := 180) rfl rfl
theorem wc_118 : Cond.code (tm_y 118) (tm_c 118) (tm_l 118) (tm_r 118) ∈ jgw := jmem_2 (i := 94) rfl rfl
theorem wc_119 : Cond.code (tm_y 119) (tm_c 119) (tm_l 119) (tm_r 119) ∈ jgw := jmem_2 (i := 102) rfl rfl
theorem wc_120 : Cond.code (tm_y 120) (tm_c 120) (tm_l 120) (tm_r 120) ∈ jgw := jmem_2 (i := 184) rfl rfl
theorem wc_121 : Cond.code (tm_y 121) (tm_c 121) (tm_l 121) (tm_r 121) ∈ jgw := jmem_1 (i := 239) rfl rfl
theorem wc_122 : Cond.code (tm_y 122) (tm_c 122) (tm_l 122) (tm_r 122) ∈ jgw := jmem_2 (i := 126) rfl rfl
theorem wc_123 : Cond.code (tm_y 123) (tm_c 123) (tm_l 123) (tm_r 123) ∈ jgw := jmem_2 (i := 130) rfl rfl
theorem wc_124 : Cond.code (tm_y 124) (tm_c 124) (tm_l 124) (tm_r 124) ∈ jgw := jmem_2 (i := 134) rfl rfl
theorem wc_125 : Cond.code (tm_y 125) (tm_c 125) (tm_l 125) (tm_r 125) ∈ jgw := jmem_2 (i := 138) rfl rfl
theorem wc_126 : Cond.code (tm_y 126) (tm_c 126) (tm_l 126) (tm_r 126) ∈ jgw := jmem_2 (i := 155) rfl rfl
theorem wc_127 : Cond.code (tm_y 127) (tm_c 127) (tm_l 127) (tm_r 127) ∈ jgw := jmem_2 (i := 159) rfl rfl
theorem wo_obj : Cond.code objectInit ⟨#[0xb1]⟩ 1 none ∈ jgw := jmem_1 (i := 14) rfl rfl
theorem wo_max : Cond.code Lib.Math.max.name Lib.Math.max.code 2 (some .int) ∈ jgw := jmem_1 (i := 208) rfl rfl
theorem tm_in0 : ∀ w ∈ u_ws tm_C0 tm_T0 3, w ∈ jgw := by decide +kernel
theorem tm_df0 : ∀ k, k < 3 → defaultValue (tm_D0 k) = if (tm_F 0).getD k false = true then .null else .int 0 := fun k hk => by
  rcases (show k = 0 ∨ k = 1 ∨ k = 2 by omega) with rfl | rfl | rfl <;> rfl
theorem tm_in1 : ∀ w ∈ u_ws tm_C1 tm_T1 6, w ∈ jgw := by decide +kernel
theorem tm_df1 : ∀ k, k < 6 → defaultValue (tm_D1 k) = if (tm_F 1).getD k false = true then .null else .int 0 := fun k hk => by
  rcases (show k = 0 ∨ k = 1 ∨ k = 2 ∨ k = 3 ∨ k = 4 ∨ k = 5 by omega) with rfl | rfl | rfl | rfl | rfl | rfl <;> rfl
theorem tm_in2 : ∀ w ∈ u_ws tm_C2 tm_T2 8, w ∈ jgw := by decide +kernel
theorem tm_df2 : ∀ k, k < 8 → defaultValue (tm_D2 k) = if (tm_F 2).getD k false = true then .null else .int 0 := fun k hk => by
  rcases (show k = 0 ∨ k = 1 ∨ k = 2 ∨ k = 3 ∨ k = 4 ∨ k = 5 ∨ k = 6 ∨ k = 7 by omega) with rfl | rfl | rfl | rfl | rfl | rfl | rfl | rfl <;> rfl
theorem tm_in3 : ∀ w ∈ u_ws tm_C3 tm_T3 4, w ∈ jgw := by decide +kernel
theorem tm_df3 : ∀ k, k < 4 → defaultValue (tm_D3 k) = if (tm_F 3).getD k false = true then .null else .int 0 := fun k hk => by
  rcases (show k = 0 ∨ k = 1 ∨ k = 2 ∨ k = 3 by omega) with rfl | rfl | rfl | rfl <;> rfl
theorem tm_in4 : ∀ w ∈ u_ws tm_C4 tm_T4 31, w ∈ jgw := by decide +kernel
theorem tm_df4 : ∀ k, k < 31 → defaultValue (tm_D4 k) = if (tm_F 4).getD k false = true then .null else .int 0 := fun k hk => by
  rcases (show k = 0 ∨ k = 1 ∨ k = 2 ∨ k = 3 ∨ k = 4 ∨ k = 5 ∨ k = 6 ∨ k = 7 ∨ k = 8 ∨ k = 9 ∨ k = 10 ∨ k = 11 ∨ k = 12 ∨ k = 13 ∨ k = 14 ∨ k = 15 ∨ k = 16 ∨ k = 17 ∨ k = 18 ∨ k = 19 ∨ k = 20 ∨ k = 21 ∨ k = 22 ∨ k = 23 ∨ k = 24 ∨ k = 25 ∨ k = 26 ∨ k = 27 ∨ k = 28 ∨ k = 29 ∨ k = 30 by omega) with rfl | rfl | rfl | rfl | rfl | rfl | rfl | rfl | rfl | rfl | rfl | rfl | rfl | rfl | rfl | rfl | rfl | rfl | rfl | rfl | rfl | rfl | rfl | rfl | rfl | rfl | rfl | rfl | rfl | rfl | rfl <;> rfl
end
