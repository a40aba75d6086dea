theorem jmem_1 {i : Nat} {w : Cond} (h : tables_1_1[i]? = some w) (hg : goodWord w = true) : w ∈ jgw := List.mem_filter.mpr ⟨List.mem_append_right _ (List.mem_append_left _ (List.mem_of_getElem? h)), hg⟩
theorem jmem_2 {i : Nat} {w : Cond} (h : tables_1_2[i]? = some w) (hg : goodWord w = true) : w ∈ jgw := List.mem_filter.mpr ⟨List.mem_append_right _ (List.mem_append_right _ (List.mem_append_left _ (List.mem_of_getElem? h))), hg⟩
theorem jmem_3 {i : Nat} {w : Cond} (h : tables_1_3[i]? = some w) (hg : goodWord w = true) : w ∈ jgw := List.mem_filter.mpr ⟨List.mem_append_right _ (List.mem_append_right _ (List.mem_append_right _ (List.mem_of_getElem? h))), hg⟩
theorem jmem_0 {i : Nat} {w : Cond} (h : (k2_sels lw_privs)[i]? = some w) (hg : goodWord w = true) : w ∈ jgw := List.mem_filter.mpr ⟨List.mem_append_left _ (List.mem_of_getElem? h), hg⟩
theorem jmeml_1 {i : Nat} {w : Cond} (h : tables_1_1[i]? = some w) : w ∈ lw_tbl := List.mem_append_right _ (List.mem_append_left _ (List.mem_of_getElem? h))
theorem jmeml_2 {i : Nat} {w : Cond} (h : tables_1_2[i]? = some w) : w ∈ lw_tbl := List.mem_append_right _ (List.mem_append_right _ (List.mem_append_left _ (List.mem_of_getElem? h)))
theorem jmeml_3 {i : Nat} {w : Cond} (h : tables_1_3[i]? = some w) : w ∈ lw_tbl := List.mem_append_right _ (List.mem_append_right _ (List.mem_append_right _ (List.mem_of_getElem? h)))
theorem wd_0 : Cond.classLink "TextMarksLaw" 7 "TextMarks" ∈ jgw := jmem_1 (i := 7) rfl rfl
theorem wd_1 : Cond.instantiable "TextMarks" 4 ∈ jgw := jmem_1 (i := 8) rfl rfl
theorem wd_2 : Cond.initialized "TextMarks" ∈ jgw := jmem_1 (i := 1) rfl rfl
theorem wd_3 : Cond.methodLink "TextMarksLaw" 9 ⟨"TextMarks", "<init>", "()V"⟩ ∈ jgw := jmem_1 (i := 9) rfl rfl
theorem wd_4 : Cond.instanceMethod ⟨"TextMarks", "<init>", "()V"⟩ ∈ jgw := jmem_1 (i := 10) rfl rfl
theorem wd_5 : Cond.classLink "TextMarksLaw" 10 "TextMarksModel" ∈ jgw := jmem_2 (i := 195) rfl rfl
theorem wd_6 : Cond.instantiable "TextMarksModel" 31 ∈ jgw := jmem_2 (i := 196) rfl rfl
theorem wd_7 : Cond.initialized "TextMarksModel" ∈ jgw := jmem_1 (i := 5) rfl rfl
theorem wd_8 : Cond.methodLink "TextMarksLaw" 12 ⟨"TextMarksModel", "<init>", "()V"⟩ ∈ jgw := jmem_2 (i := 197) rfl rfl
theorem wd_9 : Cond.instanceMethod ⟨"TextMarksModel", "<init>", "()V"⟩ ∈ jgw := jmem_2 (i := 198) rfl rfl
theorem wd_10 : Cond.methodLink "TextMarksLaw" 13 ⟨"TextMarks", "insert", "(III)I"⟩ ∈ jgw := jmem_1 (i := 103) rfl rfl
theorem wd_11 : Cond.instanceMethod ⟨"TextMarks", "insert", "(III)I"⟩ ∈ jgw := jmem_1 (i := 104) rfl rfl
theorem wd_12 : Cond.selects "TextMarks" ⟨"TextMarks", "insert", "(III)I"⟩ ⟨"TextMarks", "insert", "(III)I"⟩ ∈ jgw := jmem_1 (i := 105) rfl rfl
theorem wd_13 : Cond.methodLink "TextMarksLaw" 17 ⟨"TextMarksModel", "insert", "(III)I"⟩ ∈ jgw := jmem_3 (i := 55) rfl rfl
theorem wd_14 : Cond.instanceMethod ⟨"TextMarksModel", "insert", "(III)I"⟩ ∈ jgw := jmem_3 (i := 56) rfl rfl
theorem wd_15 : Cond.selects "TextMarksModel" ⟨"TextMarksModel", "insert", "(III)I"⟩ ⟨"TextMarksModel", "insert", "(III)I"⟩ ∈ jgw := jmem_3 (i := 57) rfl rfl
theorem wd_16 : Cond.methodLink "TextMarksLaw" 18 ⟨"TextMarks", "delete", "(II)I"⟩ ∈ jgw := jmem_1 (i := 209) rfl rfl
theorem wd_17 : Cond.instanceMethod ⟨"TextMarks", "delete", "(II)I"⟩ ∈ jgw := jmem_1 (i := 210) rfl rfl
theorem wd_18 : Cond.selects "TextMarks" ⟨"TextMarks", "delete", "(II)I"⟩ ⟨"TextMarks", "delete", "(II)I"⟩ ∈ jgw := jmem_1 (i := 211) rfl rfl
theorem wd_19 : Cond.methodLink "TextMarksLaw" 22 ⟨"TextMarksModel", "delete", "(II)I"⟩ ∈ jgw := jmem_3 (i := 111) rfl rfl
theorem wd_20 : Cond.instanceMethod ⟨"TextMarksModel", "delete", "(II)I"⟩ ∈ jgw := jmem_3 (i := 112) rfl rfl
theorem wd_21 : Cond.selects "TextMarksModel" ⟨"TextMarksModel", "delete", "(II)I"⟩ ⟨"TextMarksModel", "delete", "(II)I"⟩ ∈ jgw := jmem_3 (i := 113) rfl rfl
theorem wd_22 : Cond.methodLink "TextMarksLaw" 23 ⟨"TextMarks", "style", "(IIIII)I"⟩ ∈ jgw := jmem_1 (i := 214) rfl rfl
theorem wd_23 : Cond.instanceMethod ⟨"TextMarks", "style", "(IIIII)I"⟩ ∈ jgw := jmem_1 (i := 215) rfl rfl
theorem wd_24 : Cond.selects "TextMarks" ⟨"TextMarks", "style", "(IIIII)I"⟩ ⟨"TextMarks", "style", "(IIIII)I"⟩ ∈ jgw := jmem_1 (i := 216) rfl rfl
theorem wd_25 : Cond.methodLink "TextMarksLaw" 27 ⟨"TextMarksModel", "style", "(IIIII)I"⟩ ∈ jgw := jmem_3 (i := 115) rfl rfl
theorem wd_26 : Cond.instanceMethod ⟨"TextMarksModel", "style", "(IIIII)I"⟩ ∈ jgw := jmem_3 (i := 116) rfl rfl
theorem wd_27 : Cond.selects "TextMarksModel" ⟨"TextMarksModel", "style", "(IIIII)I"⟩ ⟨"TextMarksModel", "style", "(IIIII)I"⟩ ∈ jgw := jmem_3 (i := 117) rfl rfl
theorem wd_28 : Cond.methodLink "TextMarksLaw" 28 ⟨"TextMarks", "comment", "(III)I"⟩ ∈ jgw := jmem_1 (i := 228) rfl rfl
theorem wd_29 : Cond.instanceMethod ⟨"TextMarks", "comment", "(III)I"⟩ ∈ jgw := jmem_1 (i := 229) rfl rfl
theorem wd_30 : Cond.selects "TextMarks" ⟨"TextMarks", "comment", "(III)I"⟩ ⟨"TextMarks", "comment", "(III)I"⟩ ∈ jgw := jmem_1 (i := 230) rfl rfl
theorem wd_31 : Cond.methodLink "TextMarksLaw" 31 ⟨"TextMarksModel", "comment", "(III)I"⟩ ∈ jgw := jmem_3 (i := 119) rfl rfl
theorem wd_32 : Cond.instanceMethod ⟨"TextMarksModel", "comment", "(III)I"⟩ ∈ jgw := jmem_3 (i := 120) rfl rfl
theorem wd_33 : Cond.selects "TextMarksModel" ⟨"TextMarksModel", "comment", "(III)I"⟩ ⟨"TextMarksModel", "comment", "(III)I"⟩ ∈ jgw := jmem_3 (i := 121) rfl rfl
theorem wd_34 : Cond.methodLink "TextMarksLaw" 32 ⟨"TextMarks", "block", "(III)I"⟩ ∈ jgw := jmem_1 (i := 232) rfl rfl
theorem wd_35 : Cond.instanceMethod ⟨"TextMarks", "block", "(III)I"⟩ ∈ jgw := jmem_1 (i := 233) rfl rfl
theorem wd_36 : Cond.selects "TextMarks" ⟨"TextMarks", "block", "(III)I"⟩ ⟨"TextMarks", "block", "(III)I"⟩ ∈ jgw := jmem_1 (i := 234) rfl rfl
theorem wd_37 : Cond.methodLink "TextMarksLaw" 35 ⟨"TextMarksModel", "block", "(III)I"⟩ ∈ jgw := jmem_3 (i := 123) rfl rfl
theorem wd_38 : Cond.instanceMethod ⟨"TextMarksModel", "block", "(III)I"⟩ ∈ jgw := jmem_3 (i := 124) rfl rfl
theorem wd_39 : Cond.selects "TextMarksModel" ⟨"TextMarksModel", "block", "(III)I"⟩ ⟨"TextMarksModel", "block", "(III)I"⟩ ∈ jgw := jmem_3 (i := 125) rfl rfl
theorem wd_40 : Cond.methodLink "TextMarksLaw" 36 ⟨"TextMarks", "undo", "(II)I"⟩ ∈ jgw := jmem_2 (i := 0) rfl rfl
theorem wd_41 : Cond.instanceMethod ⟨"TextMarks", "undo", "(II)I"⟩ ∈ jgw := jmem_2 (i := 1) rfl rfl
theorem wd_42 : Cond.selects "TextMarks" ⟨"TextMarks", "undo", "(II)I"⟩ ⟨"TextMarks", "undo", "(II)I"⟩ ∈ jgw := jmem_2 (i := 2) rfl rfl
theorem wd_43 : Cond.methodLink "TextMarksLaw" 39 ⟨"TextMarksModel", "undo", "(II)I"⟩ ∈ jgw := jmem_3 (i := 131) rfl rfl
theorem wd_44 : Cond.instanceMethod ⟨"TextMarksModel", "undo", "(II)I"⟩ ∈ jgw := jmem_3 (i := 132) rfl rfl
theorem wd_45 : Cond.selects "TextMarksModel" ⟨"TextMarksModel", "undo", "(II)I"⟩ ⟨"TextMarksModel", "undo", "(II)I"⟩ ∈ jgw := jmem_3 (i := 133) rfl rfl
theorem wd_46 : Cond.methodLink "TextMarksLaw" 40 ⟨"TextMarks", "see", "(II)Z"⟩ ∈ jgw := jmem_2 (i := 7) rfl rfl
theorem wd_47 : Cond.instanceMethod ⟨"TextMarks", "see", "(II)Z"⟩ ∈ jgw := jmem_2 (i := 8) rfl rfl
theorem wd_48 : Cond.selects "TextMarks" ⟨"TextMarks", "see", "(II)Z"⟩ ⟨"TextMarks", "see", "(II)Z"⟩ ∈ jgw := jmem_2 (i := 9) rfl rfl
theorem wd_49 : Cond.methodLink "TextMarksLaw" 44 ⟨"TextMarksModel", "see", "(II)Z"⟩ ∈ jgw := jmem_3 (i := 135) rfl rfl
theorem wd_50 : Cond.instanceMethod ⟨"TextMarksModel", "see", "(II)Z"⟩ ∈ jgw := jmem_3 (i := 136) rfl rfl
theorem wd_51 : Cond.selects "TextMarksModel" ⟨"TextMarksModel", "see", "(II)Z"⟩ ⟨"TextMarksModel", "see", "(II)Z"⟩ ∈ jgw := jmem_3 (i := 137) rfl rfl
theorem wd_52 : Cond.methodLink "TextMarksLaw" 45 ⟨"TextMarks", "meet", "(II)I"⟩ ∈ jgw := jmem_2 (i := 16) rfl rfl
theorem wd_53 : Cond.instanceMethod ⟨"TextMarks", "meet", "(II)I"⟩ ∈ jgw := jmem_2 (i := 17) rfl rfl
theorem wd_54 : Cond.selects "TextMarks" ⟨"TextMarks", "meet", "(II)I"⟩ ⟨"TextMarks", "meet", "(II)I"⟩ ∈ jgw := jmem_2 (i := 18) rfl rfl
theorem wd_55 : Cond.methodLink "TextMarksLaw" 48 ⟨"TextMarksModel", "meet", "(II)I"⟩ ∈ jgw := jmem_3 (i := 143) rfl rfl
theorem wd_56 : Cond.instanceMethod ⟨"TextMarksModel", "meet", "(II)I"⟩ ∈ jgw := jmem_3 (i := 144) rfl rfl
theorem wd_57 : Cond.selects "TextMarksModel" ⟨"TextMarksModel", "meet", "(II)I"⟩ ⟨"TextMarksModel", "meet", "(II)I"⟩ ∈ jgw := jmem_3 (i := 145) rfl rfl
theorem wd_58 : Cond.methodLink "TextMarksLaw" 49 ⟨"TextMarks", "sign", "(II)I"⟩ ∈ jgw := jmem_2 (i := 21) rfl rfl
theorem wd_59 : Cond.instanceMethod ⟨"TextMarks", "sign", "(II)I"⟩ ∈ jgw := jmem_2 (i := 22) rfl rfl
theorem wd_60 : Cond.selects "TextMarks" ⟨"TextMarks", "sign", "(II)I"⟩ ⟨"TextMarks", "sign", "(II)I"⟩ ∈ jgw := jmem_2 (i := 23) rfl rfl
theorem wd_61 : Cond.methodLink "TextMarksLaw" 52 ⟨"TextMarksModel", "sign", "(II)I"⟩ ∈ jgw := jmem_3 (i := 147) rfl rfl
theorem wd_62 : Cond.instanceMethod ⟨"TextMarksModel", "sign", "(II)I"⟩ ∈ jgw := jmem_3 (i := 148) rfl rfl
theorem wd_63 : Cond.selects "TextMarksModel" ⟨"TextMarksModel", "sign", "(II)I"⟩ ⟨"TextMarksModel", "sign", "(II)I"⟩ ∈ jgw := jmem_3 (i := 149) rfl rfl
theorem wd_64 : Cond.methodLink "TextMarksLaw" 53 ⟨"TextMarks", "id", "(II)I"⟩ ∈ jgw := jmem_2 (i := 29) rfl rfl
theorem wd_65 : Cond.instanceMethod ⟨"TextMarks", "id", "(II)I"⟩ ∈ jgw := jmem_2 (i := 30) rfl rfl
theorem wd_66 : Cond.selects "TextMarks" ⟨"TextMarks", "id", "(II)I"⟩ ⟨"TextMarks", "id", "(II)I"⟩ ∈ jgw := jmem_2 (i := 31) rfl rfl
theorem wd_67 : Cond.methodLink "TextMarksLaw" 56 ⟨"TextMarksModel", "id", "(II)I"⟩ ∈ jgw := jmem_3 (i := 155) rfl rfl
theorem wd_68 : Cond.instanceMethod ⟨"TextMarksModel", "id", "(II)I"⟩ ∈ jgw := jmem_3 (i := 156) rfl rfl
theorem wd_69 : Cond.selects "TextMarksModel" ⟨"TextMarksModel", "id", "(II)I"⟩ ⟨"TextMarksModel", "id", "(II)I"⟩ ∈ jgw := jmem_3 (i := 157) rfl rfl
theorem wd_70 : Cond.methodLink "TextMarksLaw" 57 ⟨"TextMarks", "unit", "(II)I"⟩ ∈ jgw := jmem_2 (i := 33) rfl rfl
theorem wd_71 : Cond.instanceMethod ⟨"TextMarks", "unit", "(II)I"⟩ ∈ jgw := jmem_2 (i := 34) rfl rfl
theorem wd_72 : Cond.selects "TextMarks" ⟨"TextMarks", "unit", "(II)I"⟩ ⟨"TextMarks", "unit", "(II)I"⟩ ∈ jgw := jmem_2 (i := 35) rfl rfl
theorem wd_73 : Cond.methodLink "TextMarksLaw" 60 ⟨"TextMarksModel", "unit", "(II)I"⟩ ∈ jgw := jmem_3 (i := 159) rfl rfl
theorem wd_74 : Cond.instanceMethod ⟨"TextMarksModel", "unit", "(II)I"⟩ ∈ jgw := jmem_3 (i := 160) rfl rfl
theorem wd_75 : Cond.selects "TextMarksModel" ⟨"TextMarksModel", "unit", "(II)I"⟩ ⟨"TextMarksModel", "unit", "(II)I"⟩ ∈ jgw := jmem_3 (i := 161) rfl rfl
theorem wd_76 : Cond.methodLink "TextMarksLaw" 61 ⟨"TextMarks", "styled", "(III)I"⟩ ∈ jgw := jmem_2 (i := 50) rfl rfl
theorem wd_77 : Cond.instanceMethod ⟨"TextMarks", "styled", "(III)I"⟩ ∈ jgw := jmem_2 (i := 51) rfl rfl
theorem wd_78 : Cond.selects "TextMarks" ⟨"TextMarks", "styled", "(III)I"⟩ ⟨"TextMarks", "styled", "(III)I"⟩ ∈ jgw := jmem_2 (i := 52) rfl rfl
theorem wd_79 : Cond.methodLink "TextMarksLaw" 64 ⟨"TextMarksModel", "styled", "(III)I"⟩ ∈ jgw := jmem_3 (i := 167) rfl rfl
theorem wd_80 : Cond.instanceMethod ⟨"TextMarksModel", "styled", "(III)I"⟩ ∈ jgw := jmem_3 (i := 168) rfl rfl
theorem wd_81 : Cond.selects "TextMarksModel" ⟨"TextMarksModel", "styled", "(III)I"⟩ ⟨"TextMarksModel", "styled", "(III)I"⟩ ∈ jgw := jmem_3 (i := 169) rfl rfl
theorem wd_82 : Cond.methodLink "TextMarksLaw" 65 ⟨"TextMarks", "run", "(III)I"⟩ ∈ jgw := jmem_2 (i := 87) rfl rfl
theorem wd_83 : Cond.instanceMethod ⟨"TextMarks", "run", "(III)I"⟩ ∈ jgw := jmem_2 (i := 88) rfl rfl
theorem wd_84 : Cond.selects "TextMarks" ⟨"TextMarks", "run", "(III)I"⟩ ⟨"TextMarks", "run", "(III)I"⟩ ∈ jgw := jmem_2 (i := 89) rfl rfl
theorem wd_85 : Cond.methodLink "TextMarksLaw" 68 ⟨"TextMarksModel", "run", "(III)I"⟩ ∈ jgw := jmem_3 (i := 171) rfl rfl
theorem wd_86 : Cond.instanceMethod ⟨"TextMarksModel", "run", "(III)I"⟩ ∈ jgw := jmem_3 (i := 172) rfl rfl
theorem wd_87 : Cond.selects "TextMarksModel" ⟨"TextMarksModel", "run", "(III)I"⟩ ⟨"TextMarksModel", "run", "(III)I"⟩ ∈ jgw := jmem_3 (i := 173) rfl rfl
theorem wd_88 : Cond.methodLink "TextMarksLaw" 69 ⟨"TextMarks", "lies", "(III)I"⟩ ∈ jgw := jmem_2 (i := 103) rfl rfl
theorem wd_89 : Cond.instanceMethod ⟨"TextMarks", "lies", "(III)I"⟩ ∈ jgw := jmem_2 (i := 104) rfl rfl
theorem wd_90 : Cond.selects "TextMarks" ⟨"TextMarks", "lies", "(III)I"⟩ ⟨"TextMarks", "lies", "(III)I"⟩ ∈ jgw := jmem_2 (i := 105) rfl rfl
theorem wd_91 : Cond.methodLink "TextMarksLaw" 72 ⟨"TextMarksModel", "lies", "(III)I"⟩ ∈ jgw := jmem_3 (i := 187) rfl rfl
theorem wd_92 : Cond.instanceMethod ⟨"TextMarksModel", "lies", "(III)I"⟩ ∈ jgw := jmem_3 (i := 188) rfl rfl
theorem wd_93 : Cond.selects "TextMarksModel" ⟨"TextMarksModel", "lies", "(III)I"⟩ ⟨"TextMarksModel", "lies", "(III)I"⟩ ∈ jgw := jmem_3 (i := 189) rfl rfl
theorem wd_94 : Cond.methodLink "TextMarksLaw" 73 ⟨"TextMarks", "paragraph", "(III)I"⟩ ∈ jgw := jmem_2 (i := 119) rfl rfl
theorem wd_95 : Cond.instanceMethod ⟨"TextMarks", "paragraph", "(III)I"⟩ ∈ jgw := jmem_2 (i := 120) rfl rfl
theorem wd_96 : Cond.selects "TextMarks" ⟨"TextMarks", "paragraph", "(III)I"⟩ ⟨"TextMarks", "paragraph", "(III)I"⟩ ∈ jgw := jmem_2 (i := 121) rfl rfl
theorem wd_97 : Cond.methodLink "TextMarksLaw" 76 ⟨"TextMarksModel", "paragraph", "(III)I"⟩ ∈ jgw := jmem_3 (i := 195) rfl rfl
theorem wd_98 : Cond.instanceMethod ⟨"TextMarksModel", "paragraph", "(III)I"⟩ ∈ jgw := jmem_3 (i := 196) rfl rfl
theorem wd_99 : Cond.selects "TextMarksModel" ⟨"TextMarksModel", "paragraph", "(III)I"⟩ ⟨"TextMarksModel", "paragraph", "(III)I"⟩ ∈ jgw := jmem_3 (i := 197) rfl rfl
theorem wd_100 : Cond.methodLink "TextMarksLaw" 77 ⟨"TextMarks", "row", "(II)I"⟩ ∈ jgw := jmem_2 (i := 140) rfl rfl
theorem wd_101 : Cond.instanceMethod ⟨"TextMarks", "row", "(II)I"⟩ ∈ jgw := jmem_2 (i := 141) rfl rfl
theorem wd_102 : Cond.selects "TextMarks" ⟨"TextMarks", "row", "(II)I"⟩ ⟨"TextMarks", "row", "(II)I"⟩ ∈ jgw := jmem_2 (i := 142) rfl rfl
theorem wd_103 : Cond.methodLink "TextMarksLaw" 80 ⟨"TextMarksModel", "row", "(II)I"⟩ ∈ jgw := jmem_3 (i := 203) rfl rfl
theorem wd_104 : Cond.instanceMethod ⟨"TextMarksModel", "row", "(II)I"⟩ ∈ jgw := jmem_3 (i := 204) rfl rfl
theorem wd_105 : Cond.selects "TextMarksModel" ⟨"TextMarksModel", "row", "(II)I"⟩ ⟨"TextMarksModel", "row", "(II)I"⟩ ∈ jgw := jmem_3 (i := 205) rfl rfl
theorem wd_106 : Cond.methodLink "TextMarksLaw" 81 ⟨"TextMarks", "alike", "(II)Z"⟩ ∈ jgw := jmem_2 (i := 144) rfl rfl
theorem wd_107 : Cond.instanceMethod ⟨"TextMarks", "alike", "(II)Z"⟩ ∈ jgw := jmem_2 (i := 145) rfl rfl
theorem wd_108 : Cond.selects "TextMarks" ⟨"TextMarks", "alike", "(II)Z"⟩ ⟨"TextMarks", "alike", "(II)Z"⟩ ∈ jgw := jmem_2 (i := 146) rfl rfl
theorem wd_109 : Cond.methodLink "TextMarksLaw" 84 ⟨"TextMarksModel", "alike", "(II)Z"⟩ ∈ jgw := jmem_3 (i := 207) rfl rfl
theorem wd_110 : Cond.instanceMethod ⟨"TextMarksModel", "alike", "(II)Z"⟩ ∈ jgw := jmem_3 (i := 208) rfl rfl
theorem wd_111 : Cond.selects "TextMarksModel" ⟨"TextMarksModel", "alike", "(II)Z"⟩ ⟨"TextMarksModel", "alike", "(II)Z"⟩ ∈ jgw := jmem_3 (i := 209) rfl rfl
theorem wd_112 : Cond.methodLink "TextMarksLaw" 85 ⟨"TextMarks", "total", "(II)I"⟩ ∈ jgw := jmem_2 (i := 169) rfl rfl
theorem wd_113 : Cond.instanceMethod ⟨"TextMarks", "total", "(II)I"⟩ ∈ jgw := jmem_2 (i := 170) rfl rfl
theorem wd_114 : Cond.selects "TextMarks" ⟨"TextMarks", "total", "(II)I"⟩ ⟨"TextMarks", "total", "(II)I"⟩ ∈ jgw := jmem_2 (i := 171) rfl rfl
theorem wd_115 : Cond.methodLink "TextMarksLaw" 88 ⟨"TextMarksModel", "total", "(II)I"⟩ ∈ jgw := jmem_3 (i := 223) rfl rfl
theorem wd_116 : Cond.instanceMethod ⟨"TextMarksModel", "total", "(II)I"⟩ ∈ jgw := jmem_3 (i := 224) rfl rfl
theorem wd_117 : Cond.selects "TextMarksModel" ⟨"TextMarksModel", "total", "(II)I"⟩ ⟨"TextMarksModel", "total", "(II)I"⟩ ∈ jgw := jmem_3 (i := 225) rfl rfl
theorem wd_118 : Cond.methodLink "TextMarks" 1 ⟨"java/lang/Object", "<init>", "()V"⟩ ∈ jgw := jmem_1 (i := 12) rfl rfl
theorem wd_119 : Cond.instanceMethod ⟨"java/lang/Object", "<init>", "()V"⟩ ∈ jgw := jmem_1 (i := 13) rfl rfl
theorem wd_120 : Cond.classLink "TextMarks" 7 "TextMarks$Rows" ∈ jgw := jmem_1 (i := 15) rfl rfl
theorem wd_121 : Cond.instantiable "TextMarks$Rows" 6 ∈ jgw := jmem_1 (i := 16) rfl rfl
theorem wd_122 : Cond.initialized "TextMarks$Rows" ∈ jgw := jmem_1 (i := 2) rfl rfl
theorem wd_123 : Cond.instanceMethod ⟨"TextMarks$Rows", "<init>", "()V"⟩ ∈ jgw := jmem_1 (i := 18) rfl rfl
theorem wd_124 : Cond.fieldLink "TextMarks" 10 "TextMarks" "rows" "LTextMarks$Rows;" ∈ jgw := jmem_1 (i := 90) rfl rfl
theorem wd_125 : Cond.classLink "TextMarks" 16 "TextMarks$Node" ∈ jgw := jmem_1 (i := 41) rfl rfl
theorem wd_126 : Cond.fieldLink "TextMarks" 18 "TextMarks" "nodes" "[LTextMarks$Node;" ∈ jgw := jmem_1 (i := 91) rfl rfl
theorem wd_127 : Cond.instantiable "TextMarks$Node" 3 ∈ jgw := jmem_1 (i := 43) rfl rfl
theorem wd_128 : Cond.initialized "TextMarks$Node" ∈ jgw := jmem_1 (i := 3) rfl rfl
theorem wd_129 : Cond.instanceMethod ⟨"TextMarks$Node", "<init>", "()V"⟩ ∈ jgw := jmem_1 (i := 45) rfl rfl
theorem wd_130 : Cond.classLink "TextMarks" 23 "TextMarks$View" ∈ jgw := jmem_1 (i := 59) rfl rfl
theorem wd_131 : Cond.instantiable "TextMarks$View" 8 ∈ jgw := jmem_1 (i := 60) rfl rfl
theorem wd_132 : Cond.initialized "TextMarks$View" ∈ jgw := jmem_1 (i := 4) rfl rfl
theorem wd_133 : Cond.instanceMethod ⟨"TextMarks$View", "<init>", "()V"⟩ ∈ jgw := jmem_1 (i := 62) rfl rfl
theorem wd_134 : Cond.fieldLink "TextMarks" 26 "TextMarks" "view" "LTextMarks$View;" ∈ jgw := jmem_1 (i := 92) rfl rfl
theorem wd_135 : Cond.fieldLink "TextMarks" 30 "TextMarks" "otherView" "LTextMarks$View;" ∈ jgw := jmem_1 (i := 93) rfl rfl
theorem wd_136 : Cond.methodLink "TextMarks" 33 ⟨"TextMarks", "isSign", "(I)Z"⟩ ∈ jgw := jmem_1 (i := 107) rfl rfl
theorem wd_137 : Cond.static ⟨"TextMarks", "isSign", "(I)Z"⟩ ∈ jgw := jmem_1 (i := 108) rfl rfl
theorem wd_138 : Cond.methodLink "TextMarks" 37 ⟨"TextMarks", "shows", "(I)Z"⟩ ∈ jgw := jmem_1 (i := 113) rfl rfl
theorem wd_139 : Cond.instanceMethod ⟨"TextMarks", "shows", "(I)Z"⟩ ∈ jgw := jmem_1 (i := 115) rfl rfl
theorem wd_140 : Cond.selects "TextMarks" ⟨"TextMarks", "shows", "(I)Z"⟩ ⟨"TextMarks", "shows", "(I)Z"⟩ ∈ jgw := jmem_0 (i := 0) rfl rfl
theorem wd_141 : Cond.methodLink "TextMarks" 40 ⟨"TextMarks$View", "size", "()I"⟩ ∈ jgw := jmem_1 (i := 161) rfl rfl
theorem wd_142 : Cond.instanceMethod ⟨"TextMarks$View", "size", "()I"⟩ ∈ jgw := jmem_1 (i := 162) rfl rfl
theorem wd_143 : Cond.selects "TextMarks$View" ⟨"TextMarks$View", "size", "()I"⟩ ⟨"TextMarks$View", "size", "()I"⟩ ∈ jgw := jmem_1 (i := 163) rfl rfl
theorem wd_144 : Cond.methodLink "TextMarks" 44 ⟨"TextMarks$View", "insertAt", "(I)I"⟩ ∈ jgw := jmem_1 (i := 165) rfl rfl
theorem wd_145 : Cond.instanceMethod ⟨"TextMarks$View", "insertAt", "(I)I"⟩ ∈ jgw := jmem_1 (i := 166) rfl rfl
theorem wd_146 : Cond.selects "TextMarks$View" ⟨"TextMarks$View", "insertAt", "(I)I"⟩ ⟨"TextMarks$View", "insertAt", "(I)I"⟩ ∈ jgw := jmem_1 (i := 167) rfl rfl
theorem wd_147 : Cond.methodLink "TextMarks" 48 ⟨"TextMarks", "write", "(IIIIII)I"⟩ ∈ jgw := jmem_1 (i := 173) rfl rfl
theorem wd_148 : Cond.instanceMethod ⟨"TextMarks", "write", "(IIIIII)I"⟩ ∈ jgw := jmem_1 (i := 175) rfl rfl
theorem wd_149 : Cond.selects "TextMarks" ⟨"TextMarks", "write", "(IIIIII)I"⟩ ⟨"TextMarks", "write", "(IIIIII)I"⟩ ∈ jgw := jmem_0 (i := 4) rfl rfl
theorem wd_150 : Cond.methodLink "TextMarks" 52 ⟨"TextMarks$View", "hasPlace", "(I)Z"⟩ ∈ jgw := jmem_1 (i := 213) rfl rfl
theorem wd_151 : Cond.instanceMethod ⟨"TextMarks$View", "hasPlace", "(I)Z"⟩ ∈ jgw := jmem_1 (i := 170) rfl rfl
theorem wd_152 : Cond.selects "TextMarks$View" ⟨"TextMarks$View", "hasPlace", "(I)Z"⟩ ⟨"TextMarks$View", "hasPlace", "(I)Z"⟩ ∈ jgw := jmem_1 (i := 171) rfl rfl
theorem wd_153 : Cond.methodLink "TextMarks" 55 ⟨"TextMarks", "isKey", "(I)Z"⟩ ∈ jgw := jmem_1 (i := 218) rfl rfl
theorem wd_154 : Cond.static ⟨"TextMarks", "isKey", "(I)Z"⟩ ∈ jgw := jmem_1 (i := 219) rfl rfl
theorem wd_155 : Cond.methodLink "TextMarks" 58 ⟨"TextMarks$View", "hasRange", "(II)Z"⟩ ∈ jgw := jmem_1 (i := 221) rfl rfl
theorem wd_156 : Cond.instanceMethod ⟨"TextMarks$View", "hasRange", "(II)Z"⟩ ∈ jgw := jmem_1 (i := 222) rfl rfl
theorem wd_157 : Cond.selects "TextMarks$View" ⟨"TextMarks$View", "hasRange", "(II)Z"⟩ ⟨"TextMarks$View", "hasRange", "(II)Z"⟩ ∈ jgw := jmem_1 (i := 223) rfl rfl
theorem wd_158 : Cond.methodLink "TextMarks" 62 ⟨"TextMarks", "grows", "(I)Z"⟩ ∈ jgw := jmem_1 (i := 225) rfl rfl
theorem wd_159 : Cond.static ⟨"TextMarks", "grows", "(I)Z"⟩ ∈ jgw := jmem_1 (i := 226) rfl rfl
theorem wd_160 : Cond.methodLink "TextMarks" 65 ⟨"TextMarks$View", "paragraphStart", "(I)I"⟩ ∈ jgw := jmem_1 (i := 236) rfl rfl
theorem wd_161 : Cond.instanceMethod ⟨"TextMarks$View", "paragraphStart", "(I)I"⟩ ∈ jgw := jmem_1 (i := 237) rfl rfl
theorem wd_162 : Cond.selects "TextMarks$View" ⟨"TextMarks$View", "paragraphStart", "(I)I"⟩ ⟨"TextMarks$View", "paragraphStart", "(I)I"⟩ ∈ jgw := jmem_1 (i := 238) rfl rfl
theorem wd_163 : Cond.methodLink "TextMarks" 68 ⟨"TextMarks$Rows", "has", "(I)Z"⟩ ∈ jgw := jmem_2 (i := 4) rfl rfl
theorem wd_164 : Cond.instanceMethod ⟨"TextMarks$Rows", "has", "(I)Z"⟩ ∈ jgw := jmem_1 (i := 138) rfl rfl
theorem wd_165 : Cond.selects "TextMarks$Rows" ⟨"TextMarks$Rows", "has", "(I)Z"⟩ ⟨"TextMarks$Rows", "has", "(I)Z"⟩ ∈ jgw := jmem_1 (i := 139) rfl rfl
theorem wd_166 : Cond.methodLink "TextMarks" 71 ⟨"TextMarks$Rows", "cell", "(II)I"⟩ ∈ jgw := jmem_2 (i := 5) rfl rfl
theorem wd_167 : Cond.instanceMethod ⟨"TextMarks$Rows", "cell", "(II)I"⟩ ∈ jgw := jmem_1 (i := 134) rfl rfl
theorem wd_168 : Cond.selects "TextMarks$Rows" ⟨"TextMarks$Rows", "cell", "(II)I"⟩ ⟨"TextMarks$Rows", "cell", "(II)I"⟩ ∈ jgw := jmem_1 (i := 135) rfl rfl
theorem wd_169 : Cond.methodLink "TextMarks" 75 ⟨"TextMarks$Rows", "undoOf", "(I)I"⟩ ∈ jgw := jmem_2 (i := 6) rfl rfl
theorem wd_170 : Cond.instanceMethod ⟨"TextMarks$Rows", "undoOf", "(I)I"⟩ ∈ jgw := jmem_1 (i := 146) rfl rfl
theorem wd_171 : Cond.selects "TextMarks$Rows" ⟨"TextMarks$Rows", "undoOf", "(I)I"⟩ ⟨"TextMarks$Rows", "undoOf", "(I)I"⟩ ∈ jgw := jmem_1 (i := 147) rfl rfl
theorem wd_172 : Cond.methodLink "TextMarks" 78 ⟨"TextMarks", "nodeOf", "(I)LTextMarks$Node;"⟩ ∈ jgw := jmem_1 (i := 117) rfl rfl
theorem wd_173 : Cond.instanceMethod ⟨"TextMarks", "nodeOf", "(I)LTextMarks$Node;"⟩ ∈ jgw := jmem_1 (i := 119) rfl rfl
theorem wd_174 : Cond.selects "TextMarks" ⟨"TextMarks", "nodeOf", "(I)LTextMarks$Node;"⟩ ⟨"TextMarks", "nodeOf", "(I)LTextMarks$Node;"⟩ ∈ jgw := jmem_0 (i := 1) rfl rfl
theorem wd_175 : Cond.methodLink "TextMarks" 82 ⟨"TextMarks$Node", "knows", "(I)Z"⟩ ∈ jgw := jmem_2 (i := 11) rfl rfl
theorem wd_176 : Cond.instanceMethod ⟨"TextMarks$Node", "knows", "(I)Z"⟩ ∈ jgw := jmem_1 (i := 142) rfl rfl
theorem wd_177 : Cond.selects "TextMarks$Node" ⟨"TextMarks$Node", "knows", "(I)Z"⟩ ⟨"TextMarks$Node", "knows", "(I)Z"⟩ ∈ jgw := jmem_1 (i := 143) rfl rfl
theorem wd_178 : Cond.methodLink "TextMarks" 85 ⟨"TextMarks", "knowsNeeds", "(LTextMarks$Node;I)Z"⟩ ∈ jgw := jmem_2 (i := 12) rfl rfl
theorem wd_179 : Cond.instanceMethod ⟨"TextMarks", "knowsNeeds", "(LTextMarks$Node;I)Z"⟩ ∈ jgw := jmem_2 (i := 14) rfl rfl
theorem wd_180 : Cond.selects "TextMarks" ⟨"TextMarks", "knowsNeeds", "(LTextMarks$Node;I)Z"⟩ ⟨"TextMarks", "knowsNeeds", "(LTextMarks$Node;I)Z"⟩ ∈ jgw := jmem_0 (i := 9) rfl rfl
theorem wd_181 : Cond.methodLink "TextMarks" 89 ⟨"TextMarks$Node", "learn", "(II)V"⟩ ∈ jgw := jmem_1 (i := 202) rfl rfl
theorem wd_182 : Cond.instanceMethod ⟨"TextMarks$Node", "learn", "(II)V"⟩ ∈ jgw := jmem_1 (i := 203) rfl rfl
theorem wd_183 : Cond.selects "TextMarks$Node" ⟨"TextMarks$Node", "learn", "(II)V"⟩ ⟨"TextMarks$Node", "learn", "(II)V"⟩ ∈ jgw := jmem_1 (i := 204) rfl rfl
theorem wd_184 : Cond.methodLink "TextMarks" 93 ⟨"TextMarks$Rows", "count", "()I"⟩ ∈ jgw := jmem_2 (i := 20) rfl rfl
theorem wd_185 : Cond.instanceMethod ⟨"TextMarks$Rows", "count", "()I"⟩ ∈ jgw := jmem_1 (i := 130) rfl rfl
theorem wd_186 : Cond.selects "TextMarks$Rows" ⟨"TextMarks$Rows", "count", "()I"⟩ ⟨"TextMarks$Rows", "count", "()I"⟩ ∈ jgw := jmem_1 (i := 131) rfl rfl
theorem wd_187 : Cond.methodLink "TextMarks" 96 ⟨"TextMarks$View", "signAt", "(I)I"⟩ ∈ jgw := jmem_2 (i := 25) rfl rfl
theorem wd_188 : Cond.instanceMethod ⟨"TextMarks$View", "signAt", "(I)I"⟩ ∈ jgw := jmem_2 (i := 26) rfl rfl
theorem wd_189 : Cond.selects "TextMarks$View" ⟨"TextMarks$View", "signAt", "(I)I"⟩ ⟨"TextMarks$View", "signAt", "(I)I"⟩ ∈ jgw := jmem_2 (i := 27) rfl rfl
theorem wd_190 : Cond.methodLink "TextMarks" 99 ⟨"TextMarks$View", "unitAt", "(I)I"⟩ ∈ jgw := jmem_2 (i := 37) rfl rfl
theorem wd_191 : Cond.instanceMethod ⟨"TextMarks$View", "unitAt", "(I)I"⟩ ∈ jgw := jmem_2 (i := 38) rfl rfl
theorem wd_192 : Cond.selects "TextMarks$View" ⟨"TextMarks$View", "unitAt", "(I)I"⟩ ⟨"TextMarks$View", "unitAt", "(I)I"⟩ ∈ jgw := jmem_2 (i := 39) rfl rfl
theorem wd_193 : Cond.methodLink "TextMarks" 102 ⟨"TextMarks$View", "paint", "(LTextMarks$Rows;)V"⟩ ∈ jgw := jmem_2 (i := 54) rfl rfl
theorem wd_194 : Cond.instanceMethod ⟨"TextMarks$View", "paint", "(LTextMarks$Rows;)V"⟩ ∈ jgw := jmem_2 (i := 55) rfl rfl
theorem wd_195 : Cond.selects "TextMarks$View" ⟨"TextMarks$View", "paint", "(LTextMarks$Rows;)V"⟩ ⟨"TextMarks$View", "paint", "(LTextMarks$Rows;)V"⟩ ∈ jgw := jmem_2 (i := 56) rfl rfl
theorem wd_196 : Cond.methodLink "TextMarks" 106 ⟨"TextMarks$View", "valueAt", "(II)I"⟩ ∈ jgw := jmem_2 (i := 83) rfl rfl
theorem wd_197 : Cond.instanceMethod ⟨"TextMarks$View", "valueAt", "(II)I"⟩ ∈ jgw := jmem_2 (i := 84) rfl rfl
theorem wd_198 : Cond.selects "TextMarks$View" ⟨"TextMarks$View", "valueAt", "(II)I"⟩ ⟨"TextMarks$View", "valueAt", "(II)I"⟩ ∈ jgw := jmem_2 (i := 85) rfl rfl
theorem wd_199 : Cond.methodLink "TextMarks" 109 ⟨"TextMarks$View", "runStart", "(I)I"⟩ ∈ jgw := jmem_2 (i := 91) rfl rfl
theorem wd_200 : Cond.instanceMethod ⟨"TextMarks$View", "runStart", "(I)I"⟩ ∈ jgw := jmem_2 (i := 92) rfl rfl
theorem wd_201 : Cond.selects "TextMarks$View" ⟨"TextMarks$View", "runStart", "(I)I"⟩ ⟨"TextMarks$View", "runStart", "(I)I"⟩ ∈ jgw := jmem_2 (i := 93) rfl rfl
theorem wd_202 : Cond.methodLink "TextMarks" 112 ⟨"TextMarks$View", "runEnd", "(I)I"⟩ ∈ jgw := jmem_2 (i := 99) rfl rfl
theorem wd_203 : Cond.instanceMethod ⟨"TextMarks$View", "runEnd", "(I)I"⟩ ∈ jgw := jmem_2 (i := 100) rfl rfl
theorem wd_204 : Cond.selects "TextMarks$View" ⟨"TextMarks$View", "runEnd", "(I)I"⟩ ⟨"TextMarks$View", "runEnd", "(I)I"⟩ ∈ jgw := jmem_2 (i := 101) rfl rfl
theorem wd_205 : Cond.methodLink "TextMarks" 115 ⟨"TextMarks$View", "isGood", "(I)Z"⟩ ∈ jgw := jmem_2 (i := 107) rfl rfl
theorem wd_206 : Cond.instanceMethod ⟨"TextMarks$View", "isGood", "(I)Z"⟩ ∈ jgw := jmem_2 (i := 63) rfl rfl
theorem wd_207 : Cond.selects "TextMarks$View" ⟨"TextMarks$View", "isGood", "(I)Z"⟩ ⟨"TextMarks$View", "isGood", "(I)Z"⟩ ∈ jgw := jmem_2 (i := 64) rfl rfl
theorem wd_208 : Cond.methodLink "TextMarks" 118 ⟨"TextMarks", "commentFrom", "(LTextMarks$View;I)I"⟩ ∈ jgw := jmem_2 (i := 108) rfl rfl
theorem wd_209 : Cond.instanceMethod ⟨"TextMarks", "commentFrom", "(LTextMarks$View;I)I"⟩ ∈ jgw := jmem_2 (i := 110) rfl rfl
theorem wd_210 : Cond.selects "TextMarks" ⟨"TextMarks", "commentFrom", "(LTextMarks$View;I)I"⟩ ⟨"TextMarks", "commentFrom", "(LTextMarks$View;I)I"⟩ ∈ jgw := jmem_0 (i := 13) rfl rfl
theorem wd_211 : Cond.methodLink "TextMarks" 122 ⟨"TextMarks", "commentTo", "(LTextMarks$View;I)I"⟩ ∈ jgw := jmem_2 (i := 113) rfl rfl
theorem wd_212 : Cond.instanceMethod ⟨"TextMarks", "commentTo", "(LTextMarks$View;I)I"⟩ ∈ jgw := jmem_2 (i := 115) rfl rfl
theorem wd_213 : Cond.selects "TextMarks" ⟨"TextMarks", "commentTo", "(LTextMarks$View;I)I"⟩ ⟨"TextMarks", "commentTo", "(LTextMarks$View;I)I"⟩ ∈ jgw := jmem_0 (i := 14) rfl rfl
theorem wd_214 : Cond.methodLink "TextMarks" 125 ⟨"TextMarks$View", "paragraphEnd", "(I)I"⟩ ∈ jgw := jmem_2 (i := 123) rfl rfl
theorem wd_215 : Cond.instanceMethod ⟨"TextMarks$View", "paragraphEnd", "(I)I"⟩ ∈ jgw := jmem_2 (i := 124) rfl rfl
theorem wd_216 : Cond.selects "TextMarks$View" ⟨"TextMarks$View", "paragraphEnd", "(I)I"⟩ ⟨"TextMarks$View", "paragraphEnd", "(I)I"⟩ ∈ jgw := jmem_2 (i := 125) rfl rfl
theorem wd_217 : Cond.methodLink "TextMarks" 128 ⟨"TextMarks$View", "tellKinds", "(LTextMarks$Rows;)V"⟩ ∈ jgw := jmem_2 (i := 127) rfl rfl
theorem wd_218 : Cond.instanceMethod ⟨"TextMarks$View", "tellKinds", "(LTextMarks$Rows;)V"⟩ ∈ jgw := jmem_2 (i := 128) rfl rfl
theorem wd_219 : Cond.selects "TextMarks$View" ⟨"TextMarks$View", "tellKinds", "(LTextMarks$Rows;)V"⟩ ⟨"TextMarks$View", "tellKinds", "(LTextMarks$Rows;)V"⟩ ∈ jgw := jmem_2 (i := 129) rfl rfl
theorem wd_220 : Cond.methodLink "TextMarks" 131 ⟨"TextMarks$View", "kindFrom", "(I)I"⟩ ∈ jgw := jmem_2 (i := 135) rfl rfl
theorem wd_221 : Cond.instanceMethod ⟨"TextMarks$View", "kindFrom", "(I)I"⟩ ∈ jgw := jmem_2 (i := 136) rfl rfl
theorem wd_222 : Cond.selects "TextMarks$View" ⟨"TextMarks$View", "kindFrom", "(I)I"⟩ ⟨"TextMarks$View", "kindFrom", "(I)I"⟩ ∈ jgw := jmem_2 (i := 137) rfl rfl
theorem wd_223 : Cond.methodLink "TextMarks" 134 ⟨"TextMarks", "showAll", "(LTextMarks$View;LTextMarks$Node;)V"⟩ ∈ jgw := jmem_2 (i := 148) rfl rfl
theorem wd_224 : Cond.instanceMethod ⟨"TextMarks", "showAll", "(LTextMarks$View;LTextMarks$Node;)V"⟩ ∈ jgw := jmem_2 (i := 150) rfl rfl
theorem wd_225 : Cond.selects "TextMarks" ⟨"TextMarks", "showAll", "(LTextMarks$View;LTextMarks$Node;)V"⟩ ⟨"TextMarks", "showAll", "(LTextMarks$View;LTextMarks$Node;)V"⟩ ∈ jgw := jmem_0 (i := 16) rfl rfl
theorem wd_226 : Cond.methodLink "TextMarks" 138 ⟨"TextMarks$View", "hasSameText", "(LTextMarks$View;)Z"⟩ ∈ jgw := jmem_2 (i := 152) rfl rfl
theorem wd_227 : Cond.instanceMethod ⟨"TextMarks$View", "hasSameText", "(LTextMarks$View;)Z"⟩ ∈ jgw := jmem_2 (i := 153) rfl rfl
theorem wd_228 : Cond.selects "TextMarks$View" ⟨"TextMarks$View", "hasSameText", "(LTextMarks$View;)Z"⟩ ⟨"TextMarks$View", "hasSameText", "(LTextMarks$View;)Z"⟩ ∈ jgw := jmem_2 (i := 154) rfl rfl
theorem wd_229 : Cond.methodLink "TextMarks" 142 ⟨"TextMarks$View", "hasSameKinds", "(LTextMarks$View;)Z"⟩ ∈ jgw := jmem_2 (i := 156) rfl rfl
theorem wd_230 : Cond.instanceMethod ⟨"TextMarks$View", "hasSameKinds", "(LTextMarks$View;)Z"⟩ ∈ jgw := jmem_2 (i := 157) rfl rfl
theorem wd_231 : Cond.selects "TextMarks$View" ⟨"TextMarks$View", "hasSameKinds", "(LTextMarks$View;)Z"⟩ ⟨"TextMarks$View", "hasSameKinds", "(LTextMarks$View;)Z"⟩ ∈ jgw := jmem_2 (i := 158) rfl rfl
theorem wd_232 : Cond.methodLink "TextMarks" 145 ⟨"TextMarks", "haveSameComments", "()Z"⟩ ∈ jgw := jmem_2 (i := 161) rfl rfl
theorem wd_233 : Cond.instanceMethod ⟨"TextMarks", "haveSameComments", "()Z"⟩ ∈ jgw := jmem_2 (i := 163) rfl rfl
theorem wd_234 : Cond.selects "TextMarks" ⟨"TextMarks", "haveSameComments", "()Z"⟩ ⟨"TextMarks", "haveSameComments", "()Z"⟩ ∈ jgw := jmem_0 (i := 17) rfl rfl
theorem wd_235 : Cond.methodLink "TextMarks" 149 ⟨"TextMarks$View", "show", "(LTextMarks$Rows;LTextMarks$Node;)V"⟩ ∈ jgw := jmem_1 (i := 121) rfl rfl
theorem wd_236 : Cond.instanceMethod ⟨"TextMarks$View", "show", "(LTextMarks$Rows;LTextMarks$Node;)V"⟩ ∈ jgw := jmem_1 (i := 122) rfl rfl
theorem wd_237 : Cond.selects "TextMarks$View" ⟨"TextMarks$View", "show", "(LTextMarks$Rows;LTextMarks$Node;)V"⟩ ⟨"TextMarks$View", "show", "(LTextMarks$Rows;LTextMarks$Node;)V"⟩ ∈ jgw := jmem_1 (i := 123) rfl rfl
theorem wd_238 : Cond.methodLink "TextMarks" 153 ⟨"TextMarks$View", "unitCount", "()I"⟩ ∈ jgw := jmem_2 (i := 173) rfl rfl
theorem wd_239 : Cond.instanceMethod ⟨"TextMarks$View", "unitCount", "()I"⟩ ∈ jgw := jmem_2 (i := 174) rfl rfl
theorem wd_240 : Cond.selects "TextMarks$View" ⟨"TextMarks$View", "unitCount", "()I"⟩ ⟨"TextMarks$View", "unitCount", "()I"⟩ ∈ jgw := jmem_2 (i := 175) rfl rfl
theorem wd_241 : Cond.methodLink "TextMarks" 156 ⟨"TextMarks$View", "runCount", "()I"⟩ ∈ jgw := jmem_2 (i := 177) rfl rfl
theorem wd_242 : Cond.instanceMethod ⟨"TextMarks$View", "runCount", "()I"⟩ ∈ jgw := jmem_2 (i := 178) rfl rfl
theorem wd_243 : Cond.selects "TextMarks$View" ⟨"TextMarks$View", "runCount", "()I"⟩ ⟨"TextMarks$View", "runCount", "()I"⟩ ∈ jgw := jmem_2 (i := 179) rfl rfl
theorem wd_244 : Cond.methodLink "TextMarks" 159 ⟨"TextMarks$View", "paragraphCount", "()I"⟩ ∈ jgw := jmem_2 (i := 181) rfl rfl
theorem wd_245 : Cond.instanceMethod ⟨"TextMarks$View", "paragraphCount", "()I"⟩ ∈ jgw := jmem_2 (i := 182) rfl rfl
theorem wd_246 : Cond.selects "TextMarks$View" ⟨"TextMarks$View", "paragraphCount", "()I"⟩ ⟨"TextMarks$View", "paragraphCount", "()I"⟩ ∈ jgw := jmem_2 (i := 183) rfl rfl
theorem wd_247 : Cond.methodLink "TextMarks" 162 ⟨"TextMarks", "placesOf", "(LTextMarks$Node;)I"⟩ ∈ jgw := jmem_2 (i := 185) rfl rfl
theorem wd_248 : Cond.instanceMethod ⟨"TextMarks", "placesOf", "(LTextMarks$Node;)I"⟩ ∈ jgw := jmem_2 (i := 187) rfl rfl
theorem wd_249 : Cond.selects "TextMarks" ⟨"TextMarks", "placesOf", "(LTextMarks$Node;)I"⟩ ⟨"TextMarks", "placesOf", "(LTextMarks$Node;)I"⟩ ∈ jgw := jmem_0 (i := 19) rfl rfl
theorem wd_250 : Cond.methodLink "TextMarks" 166 ⟨"TextMarks$Node", "known", "()I"⟩ ∈ jgw := jmem_2 (i := 191) rfl rfl
theorem wd_251 : Cond.instanceMethod ⟨"TextMarks$Node", "known", "()I"⟩ ∈ jgw := jmem_2 (i := 192) rfl rfl
theorem wd_252 : Cond.selects "TextMarks$Node" ⟨"TextMarks$Node", "known", "()I"⟩ ⟨"TextMarks$Node", "known", "()I"⟩ ∈ jgw := jmem_2 (i := 193) rfl rfl
theorem wd_253 : Cond.methodLink "TextMarks" 169 ⟨"TextMarks$Node", "time", "()I"⟩ ∈ jgw := jmem_1 (i := 177) rfl rfl
theorem wd_254 : Cond.instanceMethod ⟨"TextMarks$Node", "time", "()I"⟩ ∈ jgw := jmem_1 (i := 178) rfl rfl
theorem wd_255 : Cond.selects "TextMarks$Node" ⟨"TextMarks$Node", "time", "()I"⟩ ⟨"TextMarks$Node", "time", "()I"⟩ ∈ jgw := jmem_1 (i := 179) rfl rfl
theorem wd_256 : Cond.constant "TextMarks" 172 55296 ∈ jgw := jmem_1 (i := 110) rfl rfl
theorem wd_257 : Cond.constant "TextMarks" 173 57343 ∈ jgw := jmem_1 (i := 111) rfl rfl
theorem wd_258 : Cond.constant "TextMarks" 174 1114111 ∈ jgw := jmem_1 (i := 112) rfl rfl
theorem wd_259 : Cond.methodLink "TextMarks" 175 ⟨"TextMarks$Rows", "add", "(IIIIIII)I"⟩ ∈ jgw := jmem_1 (i := 181) rfl rfl
theorem wd_260 : Cond.instanceMethod ⟨"TextMarks$Rows", "add", "(IIIIIII)I"⟩ ∈ jgw := jmem_1 (i := 182) rfl rfl
theorem wd_261 : Cond.selects "TextMarks$Rows" ⟨"TextMarks$Rows", "add", "(IIIIIII)I"⟩ ⟨"TextMarks$Rows", "add", "(IIIIIII)I"⟩ ∈ jgw := jmem_1 (i := 183) rfl rfl
theorem wd_262 : Cond.methodLink "TextMarks" 179 ⟨"TextMarks$Rows", "placeCount", "()I"⟩ ∈ jgw := jmem_2 (i := 189) rfl rfl
theorem wd_263 : Cond.instanceMethod ⟨"TextMarks$Rows", "placeCount", "()I"⟩ ∈ jgw := jmem_1 (i := 154) rfl rfl
theorem wd_264 : Cond.selects "TextMarks$Rows" ⟨"TextMarks$Rows", "placeCount", "()I"⟩ ⟨"TextMarks$Rows", "placeCount", "()I"⟩ ∈ jgw := jmem_1 (i := 155) rfl rfl
theorem wd_265 : Cond.methodLink "TextMarks" 182 ⟨"TextMarks$Rows", "placeAt", "(I)I"⟩ ∈ jgw := jmem_2 (i := 190) rfl rfl
theorem wd_266 : Cond.instanceMethod ⟨"TextMarks$Rows", "placeAt", "(I)I"⟩ ∈ jgw := jmem_1 (i := 158) rfl rfl
theorem wd_267 : Cond.selects "TextMarks$Rows" ⟨"TextMarks$Rows", "placeAt", "(I)I"⟩ ⟨"TextMarks$Rows", "placeAt", "(I)I"⟩ ∈ jgw := jmem_1 (i := 159) rfl rfl
theorem wd_268 : Cond.methodLink "TextMarks" 185 ⟨"TextMarks$View", "aheadOf", "(I)I"⟩ ∈ jgw := jmem_2 (i := 112) rfl rfl
theorem wd_269 : Cond.instanceMethod ⟨"TextMarks$View", "aheadOf", "(I)I"⟩ ∈ jgw := jmem_2 (i := 80) rfl rfl
theorem wd_270 : Cond.selects "TextMarks$View" ⟨"TextMarks$View", "aheadOf", "(I)I"⟩ ⟨"TextMarks$View", "aheadOf", "(I)I"⟩ ∈ jgw := jmem_2 (i := 81) rfl rfl
theorem wd_271 : Cond.methodLink "TextMarks" 188 ⟨"TextMarks$View", "aheadBehind", "(I)I"⟩ ∈ jgw := jmem_2 (i := 117) rfl rfl
theorem wd_272 : Cond.instanceMethod ⟨"TextMarks$View", "aheadBehind", "(I)I"⟩ ∈ jgw := jmem_2 (i := 76) rfl rfl
theorem wd_273 : Cond.selects "TextMarks$View" ⟨"TextMarks$View", "aheadBehind", "(I)I"⟩ ⟨"TextMarks$View", "aheadBehind", "(I)I"⟩ ∈ jgw := jmem_2 (i := 77) rfl rfl
theorem wd_274 : Cond.methodLink "TextMarks" 191 ⟨"java/lang/Math", "max", "(II)I"⟩ ∈ jgw := jmem_2 (i := 118) rfl rfl
theorem wd_275 : Cond.static ⟨"java/lang/Math", "max", "(II)I"⟩ ∈ jgw := jmem_1 (i := 207) rfl rfl
theorem wd_276 : Cond.initialized "java/lang/Math" ∈ jgw := jmem_1 (i := 6) rfl rfl
theorem wd_277 : Cond.methodLink "TextMarks" 196 ⟨"TextMarks", "isSameComment", "(I)Z"⟩ ∈ jgw := jmem_2 (i := 165) rfl rfl
theorem wd_278 : Cond.instanceMethod ⟨"TextMarks", "isSameComment", "(I)Z"⟩ ∈ jgw := jmem_2 (i := 167) rfl rfl
theorem wd_279 : Cond.selects "TextMarks" ⟨"TextMarks", "isSameComment", "(I)Z"⟩ ⟨"TextMarks", "isSameComment", "(I)Z"⟩ ∈ jgw := jmem_0 (i := 18) rfl rfl
theorem wd_280 : Cond.methodLink "TextMarksModel" 1 ⟨"java/lang/Object", "<init>", "()V"⟩ ∈ jgw := jmem_2 (i := 200) rfl rfl
theorem wd_281 : Cond.arrayClass FieldType.int ∈ jgw := jmem_1 (i := 40) rfl rfl
theorem wd_282 : Cond.fieldLink "TextMarksModel" 7 "TextMarksModel" "sort" "[I" ∈ jgw := jmem_2 (i := 203) rfl rfl
theorem wd_283 : Cond.fieldLink "TextMarksModel" 13 "TextMarksModel" "who" "[I" ∈ jgw := jmem_2 (i := 204) rfl rfl
theorem wd_284 : Cond.fieldLink "TextMarksModel" 16 "TextMarksModel" "time" "[I" ∈ jgw := jmem_2 (i := 205) rfl rfl
theorem wd_285 : Cond.fieldLink "TextMarksModel" 19 "TextMarksModel" "what" "[I" ∈ jgw := jmem_2 (i := 206) rfl rfl
theorem wd_286 : Cond.fieldLink "TextMarksModel" 22 "TextMarksModel" "value" "[I" ∈ jgw := jmem_2 (i := 207) rfl rfl
theorem wd_287 : Cond.fieldLink "TextMarksModel" 25 "TextMarksModel" "first" "[I" ∈ jgw := jmem_2 (i := 208) rfl rfl
theorem wd_288 : Cond.fieldLink "TextMarksModel" 28 "TextMarksModel" "second" "[I" ∈ jgw := jmem_2 (i := 209) rfl rfl
theorem wd_289 : Cond.arrayClass FieldType.boolean ∈ jgw := jmem_1 (i := 58) rfl rfl
theorem wd_290 : Cond.fieldLink "TextMarksModel" 31 "TextMarksModel" "knows" "[Z" ∈ jgw := jmem_2 (i := 210) rfl rfl
theorem wd_291 : Cond.fieldLink "TextMarksModel" 35 "TextMarksModel" "clock" "[I" ∈ jgw := jmem_2 (i := 211) rfl rfl
theorem wd_292 : Cond.fieldLink "TextMarksModel" 38 "TextMarksModel" "seenBy" "I" ∈ jgw := jmem_2 (i := 212) rfl rfl
theorem wd_293 : Cond.fieldLink "TextMarksModel" 42 "TextMarksModel" "good" "[Z" ∈ jgw := jmem_2 (i := 213) rfl rfl
theorem wd_294 : Cond.fieldLink "TextMarksModel" 45 "TextMarksModel" "place" "[I" ∈ jgw := jmem_2 (i := 215) rfl rfl
theorem wd_295 : Cond.fieldLink "TextMarksModel" 48 "TextMarksModel" "where" "[I" ∈ jgw := jmem_2 (i := 216) rfl rfl
theorem wd_296 : Cond.fieldLink "TextMarksModel" 51 "TextMarksModel" "ahead" "[I" ∈ jgw := jmem_2 (i := 217) rfl rfl
theorem wd_297 : Cond.fieldLink "TextMarksModel" 54 "TextMarksModel" "at" "[I" ∈ jgw := jmem_2 (i := 219) rfl rfl
theorem wd_298 : Cond.fieldLink "TextMarksModel" 57 "TextMarksModel" "styled" "[I" ∈ jgw := jmem_2 (i := 220) rfl rfl
theorem wd_299 : Cond.fieldLink "TextMarksModel" 60 "TextMarksModel" "order" "[I" ∈ jgw := jmem_2 (i := 222) rfl rfl
theorem wd_300 : Cond.fieldLink "TextMarksModel" 63 "TextMarksModel" "oldSign" "[I" ∈ jgw := jmem_2 (i := 226) rfl rfl
theorem wd_301 : Cond.fieldLink "TextMarksModel" 66 "TextMarksModel" "oldStyle" "[I" ∈ jgw := jmem_2 (i := 227) rfl rfl
theorem wd_302 : Cond.fieldLink "TextMarksModel" 69 "TextMarksModel" "oldFrom" "[I" ∈ jgw := jmem_2 (i := 228) rfl rfl
theorem wd_303 : Cond.fieldLink "TextMarksModel" 72 "TextMarksModel" "oldTo" "[I" ∈ jgw := jmem_2 (i := 229) rfl rfl
theorem wd_304 : Cond.fieldLink "TextMarksModel" 75 "TextMarksModel" "oldKind" "[I" ∈ jgw := jmem_2 (i := 231) rfl rfl
theorem wd_305 : Cond.fieldLink "TextMarksModel" 81 "TextMarksModel" "rows" "I" ∈ jgw := jmem_2 (i := 202) rfl rfl
theorem wd_306 : Cond.methodLink "TextMarksModel" 84 ⟨"TextMarksModel", "knowsRow", "(II)Z"⟩ ∈ jgw := jmem_3 (i := 79) rfl rfl
theorem wd_307 : Cond.instanceMethod ⟨"TextMarksModel", "knowsRow", "(II)Z"⟩ ∈ jgw := jmem_3 (i := 81) rfl rfl
theorem wd_308 : Cond.selects "TextMarksModel" ⟨"TextMarksModel", "knowsRow", "(II)Z"⟩ ⟨"TextMarksModel", "knowsRow", "(II)Z"⟩ ∈ jgw := jmem_0 (i := 22) rfl rfl
theorem wd_309 : Cond.fieldLink "TextMarksModel" 88 "TextMarksModel" "orders" "I" ∈ jgw := jmem_2 (i := 221) rfl rfl
theorem wd_310 : Cond.methodLink "TextMarksModel" 91 ⟨"TextMarksModel", "isBefore", "(II)Z"⟩ ∈ jgw := jmem_3 (i := 91) rfl rfl
theorem wd_311 : Cond.instanceMethod ⟨"TextMarksModel", "isBefore", "(II)Z"⟩ ∈ jgw := jmem_3 (i := 93) rfl rfl
theorem wd_312 : Cond.selects "TextMarksModel" ⟨"TextMarksModel", "isBefore", "(II)Z"⟩ ⟨"TextMarksModel", "isBefore", "(II)Z"⟩ ∈ jgw := jmem_0 (i := 25) rfl rfl
theorem wd_313 : Cond.methodLink "TextMarksModel" 94 ⟨"TextMarksModel", "findOrder", "(II)V"⟩ ∈ jgw := jmem_3 (i := 87) rfl rfl
theorem wd_314 : Cond.instanceMethod ⟨"TextMarksModel", "findOrder", "(II)V"⟩ ∈ jgw := jmem_3 (i := 89) rfl rfl
theorem wd_315 : Cond.selects "TextMarksModel" ⟨"TextMarksModel", "findOrder", "(II)V"⟩ ⟨"TextMarksModel", "findOrder", "(II)V"⟩ ∈ jgw := jmem_0 (i := 24) rfl rfl
theorem wd_316 : Cond.fieldLink "TextMarksModel" 98 "TextMarksModel" "places" "I" ∈ jgw := jmem_2 (i := 214) rfl rfl
theorem wd_317 : Cond.fieldLink "TextMarksModel" 101 "TextMarksModel" "seen" "I" ∈ jgw := jmem_2 (i := 218) rfl rfl
theorem wd_318 : Cond.methodLink "TextMarksModel" 104 ⟨"TextMarksModel", "covers", "(II)Z"⟩ ∈ jgw := jmem_3 (i := 103) rfl rfl
theorem wd_319 : Cond.instanceMethod ⟨"TextMarksModel", "covers", "(II)Z"⟩ ∈ jgw := jmem_3 (i := 105) rfl rfl
theorem wd_320 : Cond.selects "TextMarksModel" ⟨"TextMarksModel", "covers", "(II)Z"⟩ ⟨"TextMarksModel", "covers", "(II)Z"⟩ ∈ jgw := jmem_0 (i := 28) rfl rfl
theorem wd_321 : Cond.methodLink "TextMarksModel" 107 ⟨"TextMarksModel", "judge", "(I)V"⟩ ∈ jgw := jmem_3 (i := 75) rfl rfl
theorem wd_322 : Cond.instanceMethod ⟨"TextMarksModel", "judge", "(I)V"⟩ ∈ jgw := jmem_3 (i := 77) rfl rfl
theorem wd_323 : Cond.selects "TextMarksModel" ⟨"TextMarksModel", "judge", "(I)V"⟩ ⟨"TextMarksModel", "judge", "(I)V"⟩ ∈ jgw := jmem_0 (i := 21) rfl rfl
theorem wd_324 : Cond.methodLink "TextMarksModel" 111 ⟨"TextMarksModel", "findPlaces", "(I)V"⟩ ∈ jgw := jmem_3 (i := 83) rfl rfl
theorem wd_325 : Cond.instanceMethod ⟨"TextMarksModel", "findPlaces", "(I)V"⟩ ∈ jgw := jmem_3 (i := 85) rfl rfl
theorem wd_326 : Cond.selects "TextMarksModel" ⟨"TextMarksModel", "findPlaces", "(I)V"⟩ ⟨"TextMarksModel", "findPlaces", "(I)V"⟩ ∈ jgw := jmem_0 (i := 23) rfl rfl
theorem wd_327 : Cond.methodLink "TextMarksModel" 114 ⟨"TextMarksModel", "isDeleted", "(I)Z"⟩ ∈ jgw := jmem_3 (i := 95) rfl rfl
theorem wd_328 : Cond.instanceMethod ⟨"TextMarksModel", "isDeleted", "(I)Z"⟩ ∈ jgw := jmem_3 (i := 97) rfl rfl
theorem wd_329 : Cond.selects "TextMarksModel" ⟨"TextMarksModel", "isDeleted", "(I)Z"⟩ ⟨"TextMarksModel", "isDeleted", "(I)Z"⟩ ∈ jgw := jmem_0 (i := 26) rfl rfl
theorem wd_330 : Cond.methodLink "TextMarksModel" 118 ⟨"TextMarksModel", "findStyles", "(I)V"⟩ ∈ jgw := jmem_3 (i := 99) rfl rfl
theorem wd_331 : Cond.instanceMethod ⟨"TextMarksModel", "findStyles", "(I)V"⟩ ∈ jgw := jmem_3 (i := 101) rfl rfl
theorem wd_332 : Cond.selects "TextMarksModel" ⟨"TextMarksModel", "findStyles", "(I)V"⟩ ⟨"TextMarksModel", "findStyles", "(I)V"⟩ ∈ jgw := jmem_0 (i := 27) rfl rfl
theorem wd_333 : Cond.methodLink "TextMarksModel" 121 ⟨"TextMarksModel", "within", "(III)Z"⟩ ∈ jgw := jmem_3 (i := 62) rfl rfl
theorem wd_334 : Cond.static ⟨"TextMarksModel", "within", "(III)Z"⟩ ∈ jgw := jmem_3 (i := 63) rfl rfl
theorem wd_335 : Cond.constant "TextMarksModel" 125 55295 ∈ jgw := jmem_3 (i := 68) rfl rfl
theorem wd_336 : Cond.constant "TextMarksModel" 126 57344 ∈ jgw := jmem_3 (i := 69) rfl rfl
theorem wd_337 : Cond.constant "TextMarksModel" 127 1114111 ∈ jgw := jmem_3 (i := 70) rfl rfl
theorem wd_338 : Cond.fieldLink "TextMarksModel" 78 "TextMarksModel" "thrown" "I" ∈ jgw := jmem_2 (i := 201) rfl rfl
theorem wd_339 : Cond.methodLink "TextMarksModel" 128 ⟨"TextMarksModel", "isNode", "(I)Z"⟩ ∈ jgw := jmem_3 (i := 59) rfl rfl
theorem wd_340 : Cond.static ⟨"TextMarksModel", "isNode", "(I)Z"⟩ ∈ jgw := jmem_3 (i := 60) rfl rfl
theorem wd_341 : Cond.methodLink "TextMarksModel" 131 ⟨"TextMarksModel", "isSign", "(I)Z"⟩ ∈ jgw := jmem_3 (i := 65) rfl rfl
theorem wd_342 : Cond.static ⟨"TextMarksModel", "isSign", "(I)Z"⟩ ∈ jgw := jmem_3 (i := 66) rfl rfl
theorem wd_343 : Cond.methodLink "TextMarksModel" 134 ⟨"TextMarksModel", "look", "(I)V"⟩ ∈ jgw := jmem_3 (i := 71) rfl rfl
theorem wd_344 : Cond.instanceMethod ⟨"TextMarksModel", "look", "(I)V"⟩ ∈ jgw := jmem_3 (i := 73) rfl rfl
theorem wd_345 : Cond.selects "TextMarksModel" ⟨"TextMarksModel", "look", "(I)V"⟩ ⟨"TextMarksModel", "look", "(I)V"⟩ ∈ jgw := jmem_0 (i := 20) rfl rfl
theorem wd_346 : Cond.methodLink "TextMarksModel" 137 ⟨"TextMarksModel", "add", "(IIIIII)I"⟩ ∈ jgw := jmem_3 (i := 107) rfl rfl
theorem wd_347 : Cond.instanceMethod ⟨"TextMarksModel", "add", "(IIIIII)I"⟩ ∈ jgw := jmem_3 (i := 109) rfl rfl
theorem wd_348 : Cond.selects "TextMarksModel" ⟨"TextMarksModel", "add", "(IIIIII)I"⟩ ⟨"TextMarksModel", "add", "(IIIIII)I"⟩ ∈ jgw := jmem_0 (i := 29) rfl rfl
theorem wd_349 : Cond.methodLink "TextMarksModel" 141 ⟨"TextMarksModel", "startOf", "(I)I"⟩ ∈ jgw := jmem_3 (i := 127) rfl rfl
theorem wd_350 : Cond.instanceMethod ⟨"TextMarksModel", "startOf", "(I)I"⟩ ∈ jgw := jmem_3 (i := 129) rfl rfl
theorem wd_351 : Cond.selects "TextMarksModel" ⟨"TextMarksModel", "startOf", "(I)I"⟩ ⟨"TextMarksModel", "startOf", "(I)I"⟩ ∈ jgw := jmem_0 (i := 30) rfl rfl
theorem wd_352 : Cond.methodLink "TextMarksModel" 145 ⟨"TextMarksModel", "learn", "(II)V"⟩ ∈ jgw := jmem_3 (i := 139) rfl rfl
theorem wd_353 : Cond.instanceMethod ⟨"TextMarksModel", "learn", "(II)V"⟩ ∈ jgw := jmem_3 (i := 141) rfl rfl
theorem wd_354 : Cond.selects "TextMarksModel" ⟨"TextMarksModel", "learn", "(II)V"⟩ ⟨"TextMarksModel", "learn", "(II)V"⟩ ∈ jgw := jmem_0 (i := 31) rfl rfl
theorem wd_355 : Cond.methodLink "TextMarksModel" 148 ⟨"TextMarksModel", "isSeen", "(II)Z"⟩ ∈ jgw := jmem_3 (i := 151) rfl rfl
theorem wd_356 : Cond.instanceMethod ⟨"TextMarksModel", "isSeen", "(II)Z"⟩ ∈ jgw := jmem_3 (i := 153) rfl rfl
theorem wd_357 : Cond.selects "TextMarksModel" ⟨"TextMarksModel", "isSeen", "(II)Z"⟩ ⟨"TextMarksModel", "isSeen", "(II)Z"⟩ ∈ jgw := jmem_0 (i := 32) rfl rfl
theorem wd_358 : Cond.constant "TextMarksModel" 151 65535 ∈ jgw := jmem_3 (i := 163) rfl rfl
theorem wd_359 : Cond.constant "TextMarksModel" 152 55296 ∈ jgw := jmem_3 (i := 164) rfl rfl
theorem wd_360 : Cond.constant "TextMarksModel" 153 65536 ∈ jgw := jmem_3 (i := 165) rfl rfl
theorem wd_361 : Cond.constant "TextMarksModel" 154 56320 ∈ jgw := jmem_3 (i := 166) rfl rfl
theorem wd_362 : Cond.fieldLink "TextMarksModel" 155 "TextMarksModel" "runTo" "I" ∈ jgw := jmem_2 (i := 224) rfl rfl
theorem wd_363 : Cond.fieldLink "TextMarksModel" 158 "TextMarksModel" "runFrom" "I" ∈ jgw := jmem_2 (i := 223) rfl rfl
theorem wd_364 : Cond.methodLink "TextMarksModel" 161 ⟨"TextMarksModel", "areAlike", "(II)Z"⟩ ∈ jgw := jmem_3 (i := 183) rfl rfl
theorem wd_365 : Cond.instanceMethod ⟨"TextMarksModel", "areAlike", "(II)Z"⟩ ∈ jgw := jmem_3 (i := 185) rfl rfl
theorem wd_366 : Cond.selects "TextMarksModel" ⟨"TextMarksModel", "areAlike", "(II)Z"⟩ ⟨"TextMarksModel", "areAlike", "(II)Z"⟩ ∈ jgw := jmem_0 (i := 35) rfl rfl
theorem wd_367 : Cond.methodLink "TextMarksModel" 164 ⟨"TextMarksModel", "runs", "()I"⟩ ∈ jgw := jmem_3 (i := 175) rfl rfl
theorem wd_368 : Cond.instanceMethod ⟨"TextMarksModel", "runs", "()I"⟩ ∈ jgw := jmem_3 (i := 177) rfl rfl
theorem wd_369 : Cond.selects "TextMarksModel" ⟨"TextMarksModel", "runs", "()I"⟩ ⟨"TextMarksModel", "runs", "()I"⟩ ∈ jgw := jmem_0 (i := 33) rfl rfl
theorem wd_370 : Cond.methodLink "TextMarksModel" 168 ⟨"TextMarksModel", "findRun", "(I)I"⟩ ∈ jgw := jmem_3 (i := 179) rfl rfl
theorem wd_371 : Cond.instanceMethod ⟨"TextMarksModel", "findRun", "(I)I"⟩ ∈ jgw := jmem_3 (i := 181) rfl rfl
theorem wd_372 : Cond.selects "TextMarksModel" ⟨"TextMarksModel", "findRun", "(I)I"⟩ ⟨"TextMarksModel", "findRun", "(I)I"⟩ ∈ jgw := jmem_0 (i := 34) rfl rfl
theorem wd_373 : Cond.methodLink "TextMarksModel" 171 ⟨"TextMarksModel", "lying", "(II)I"⟩ ∈ jgw := jmem_3 (i := 191) rfl rfl
theorem wd_374 : Cond.instanceMethod ⟨"TextMarksModel", "lying", "(II)I"⟩ ∈ jgw := jmem_3 (i := 193) rfl rfl
theorem wd_375 : Cond.selects "TextMarksModel" ⟨"TextMarksModel", "lying", "(II)I"⟩ ⟨"TextMarksModel", "lying", "(II)I"⟩ ∈ jgw := jmem_0 (i := 36) rfl rfl
theorem wd_376 : Cond.methodLink "TextMarksModel" 175 ⟨"TextMarksModel", "kindOf", "(II)I"⟩ ∈ jgw := jmem_3 (i := 199) rfl rfl
theorem wd_377 : Cond.instanceMethod ⟨"TextMarksModel", "kindOf", "(II)I"⟩ ∈ jgw := jmem_3 (i := 201) rfl rfl
theorem wd_378 : Cond.selects "TextMarksModel" ⟨"TextMarksModel", "kindOf", "(II)I"⟩ ⟨"TextMarksModel", "kindOf", "(II)I"⟩ ∈ jgw := jmem_0 (i := 37) rfl rfl
theorem wd_379 : Cond.fieldLink "TextMarksModel" 178 "TextMarksModel" "oldSeen" "I" ∈ jgw := jmem_2 (i := 225) rfl rfl
theorem wd_380 : Cond.methodLink "TextMarksModel" 181 ⟨"TextMarksModel", "paragraphs", "()I"⟩ ∈ jgw := jmem_3 (i := 215) rfl rfl
theorem wd_381 : Cond.instanceMethod ⟨"TextMarksModel", "paragraphs", "()I"⟩ ∈ jgw := jmem_3 (i := 217) rfl rfl
theorem wd_382 : Cond.selects "TextMarksModel" ⟨"TextMarksModel", "paragraphs", "()I"⟩ ⟨"TextMarksModel", "paragraphs", "()I"⟩ ∈ jgw := jmem_0 (i := 39) rfl rfl
theorem wd_383 : Cond.fieldLink "TextMarksModel" 184 "TextMarksModel" "oldParagraphs" "I" ∈ jgw := jmem_2 (i := 230) rfl rfl
theorem wd_384 : Cond.methodLink "TextMarksModel" 187 ⟨"TextMarksModel", "kindAt", "(II)I"⟩ ∈ jgw := jmem_3 (i := 219) rfl rfl
theorem wd_385 : Cond.instanceMethod ⟨"TextMarksModel", "kindAt", "(II)I"⟩ ∈ jgw := jmem_3 (i := 221) rfl rfl
theorem wd_386 : Cond.selects "TextMarksModel" ⟨"TextMarksModel", "kindAt", "(II)I"⟩ ⟨"TextMarksModel", "kindAt", "(II)I"⟩ ∈ jgw := jmem_0 (i := 40) rfl rfl
theorem wd_387 : Cond.methodLink "TextMarksModel" 190 ⟨"TextMarksModel", "keep", "(I)V"⟩ ∈ jgw := jmem_3 (i := 211) rfl rfl
theorem wd_388 : Cond.instanceMethod ⟨"TextMarksModel", "keep", "(I)V"⟩ ∈ jgw := jmem_3 (i := 213) rfl rfl
theorem wd_389 : Cond.selects "TextMarksModel" ⟨"TextMarksModel", "keep", "(I)V"⟩ ⟨"TextMarksModel", "keep", "(I)V"⟩ ∈ jgw := jmem_0 (i := 38) rfl rfl
theorem wd_390 : Cond.methodLink "TextMarksModel" 193 ⟨"TextMarksModel", "units", "()I"⟩ ∈ jgw := jmem_3 (i := 227) rfl rfl
theorem wd_391 : Cond.instanceMethod ⟨"TextMarksModel", "units", "()I"⟩ ∈ jgw := jmem_3 (i := 229) rfl rfl
theorem wd_392 : Cond.selects "TextMarksModel" ⟨"TextMarksModel", "units", "()I"⟩ ⟨"TextMarksModel", "units", "()I"⟩ ∈ jgw := jmem_0 (i := 41) rfl rfl
theorem wd_393 : Cond.methodLink "TextMarksModel" 196 ⟨"TextMarksModel", "knownRows", "(I)I"⟩ ∈ jgw := jmem_3 (i := 231) rfl rfl
theorem wd_394 : Cond.instanceMethod ⟨"TextMarksModel", "knownRows", "(I)I"⟩ ∈ jgw := jmem_3 (i := 233) rfl rfl
theorem wd_395 : Cond.selects "TextMarksModel" ⟨"TextMarksModel", "knownRows", "(I)I"⟩ ⟨"TextMarksModel", "knownRows", "(I)I"⟩ ∈ jgw := jmem_0 (i := 42) rfl rfl
theorem wd_396 : Cond.methodLink "TextMarks$Node" 3 ⟨"java/lang/Object", "<init>", "()V"⟩ ∈ jgw := jmem_1 (i := 47) rfl rfl
theorem wd_397 : Cond.fieldLink "TextMarks$Node" 9 "TextMarks$Node" "knowing" "[Z" ∈ jgw := jmem_1 (i := 48) rfl rfl
theorem wd_398 : Cond.fieldLink "TextMarks$Node" 15 "TextMarks$Node" "known" "I" ∈ jgw := jmem_1 (i := 49) rfl rfl
theorem wd_399 : Cond.fieldLink "TextMarks$Node" 19 "TextMarks$Node" "time" "I" ∈ jgw := jmem_1 (i := 50) rfl rfl
theorem wd_400 : Cond.methodLink "TextMarks$Node" 22 ⟨"java/lang/Math", "max", "(II)I"⟩ ∈ jgw := jmem_1 (i := 206) rfl rfl
theorem wd_401 : Cond.methodLink "TextMarks$Rows" 3 ⟨"java/lang/Object", "<init>", "()V"⟩ ∈ jgw := jmem_1 (i := 20) rfl rfl
theorem wd_402 : Cond.fieldLink "TextMarks$Rows" 9 "TextMarks$Rows" "cells" "[I" ∈ jgw := jmem_1 (i := 22) rfl rfl
theorem wd_403 : Cond.fieldLink "TextMarks$Rows" 15 "TextMarks$Rows" "undos" "[I" ∈ jgw := jmem_1 (i := 23) rfl rfl
theorem wd_404 : Cond.fieldLink "TextMarks$Rows" 18 "TextMarks$Rows" "inOrder" "[I" ∈ jgw := jmem_1 (i := 24) rfl rfl
theorem wd_405 : Cond.fieldLink "TextMarks$Rows" 21 "TextMarks$Rows" "places" "[I" ∈ jgw := jmem_1 (i := 25) rfl rfl
theorem wd_406 : Cond.fieldLink "TextMarks$Rows" 24 "TextMarks$Rows" "count" "I" ∈ jgw := jmem_1 (i := 21) rfl rfl
theorem wd_407 : Cond.methodLink "TextMarks$Rows" 28 ⟨"TextMarks$Rows", "has", "(I)Z"⟩ ∈ jgw := jmem_1 (i := 137) rfl rfl
theorem wd_408 : Cond.fieldLink "TextMarks$Rows" 32 "TextMarks$Rows" "placeCount" "I" ∈ jgw := jmem_1 (i := 26) rfl rfl
theorem wd_409 : Cond.methodLink "TextMarks$Rows" 35 ⟨"TextMarks$Rows", "fileInOrder", "(I)V"⟩ ∈ jgw := jmem_1 (i := 185) rfl rfl
theorem wd_410 : Cond.instanceMethod ⟨"TextMarks$Rows", "fileInOrder", "(I)V"⟩ ∈ jgw := jmem_1 (i := 187) rfl rfl
theorem wd_411 : Cond.selects "TextMarks$Rows" ⟨"TextMarks$Rows", "fileInOrder", "(I)V"⟩ ⟨"TextMarks$Rows", "fileInOrder", "(I)V"⟩ ∈ jgw := jmem_0 (i := 5) rfl rfl
theorem wd_412 : Cond.methodLink "TextMarks$Rows" 39 ⟨"TextMarks$Rows", "fileInPlaces", "(II)V"⟩ ∈ jgw := jmem_1 (i := 194) rfl rfl
theorem wd_413 : Cond.instanceMethod ⟨"TextMarks$Rows", "fileInPlaces", "(II)V"⟩ ∈ jgw := jmem_1 (i := 196) rfl rfl
theorem wd_414 : Cond.selects "TextMarks$Rows" ⟨"TextMarks$Rows", "fileInPlaces", "(II)V"⟩ ⟨"TextMarks$Rows", "fileInPlaces", "(II)V"⟩ ∈ jgw := jmem_0 (i := 7) rfl rfl
theorem wd_415 : Cond.methodLink "TextMarks$Rows" 43 ⟨"TextMarks$Rows", "cell", "(II)I"⟩ ∈ jgw := jmem_1 (i := 193) rfl rfl
theorem wd_416 : Cond.methodLink "TextMarks$Rows" 47 ⟨"TextMarks$Rows", "isLater", "(II)Z"⟩ ∈ jgw := jmem_1 (i := 189) rfl rfl
theorem wd_417 : Cond.instanceMethod ⟨"TextMarks$Rows", "isLater", "(II)Z"⟩ ∈ jgw := jmem_1 (i := 191) rfl rfl
theorem wd_418 : Cond.selects "TextMarks$Rows" ⟨"TextMarks$Rows", "isLater", "(II)Z"⟩ ⟨"TextMarks$Rows", "isLater", "(II)Z"⟩ ∈ jgw := jmem_0 (i := 6) rfl rfl
theorem wd_419 : Cond.methodLink "TextMarks$Rows" 51 ⟨"TextMarks$Rows", "firstPlaceBehind", "(I)I"⟩ ∈ jgw := jmem_1 (i := 198) rfl rfl
theorem wd_420 : Cond.instanceMethod ⟨"TextMarks$Rows", "firstPlaceBehind", "(I)I"⟩ ∈ jgw := jmem_1 (i := 200) rfl rfl
theorem wd_421 : Cond.selects "TextMarks$Rows" ⟨"TextMarks$Rows", "firstPlaceBehind", "(I)I"⟩ ⟨"TextMarks$Rows", "firstPlaceBehind", "(I)I"⟩ ∈ jgw := jmem_0 (i := 8) rfl rfl
theorem wd_422 : Cond.methodLink "TextMarks$View" 3 ⟨"java/lang/Object", "<init>", "()V"⟩ ∈ jgw := jmem_1 (i := 64) rfl rfl
theorem wd_423 : Cond.fieldLink "TextMarks$View" 9 "TextMarks$View" "inserts" "[I" ∈ jgw := jmem_1 (i := 66) rfl rfl
theorem wd_424 : Cond.fieldLink "TextMarks$View" 15 "TextMarks$View" "signs" "[I" ∈ jgw := jmem_1 (i := 67) rfl rfl
theorem wd_425 : Cond.fieldLink "TextMarks$View" 18 "TextMarks$View" "looks" "[I" ∈ jgw := jmem_1 (i := 68) rfl rfl
theorem wd_426 : Cond.fieldLink "TextMarks$View" 21 "TextMarks$View" "good" "[Z" ∈ jgw := jmem_1 (i := 69) rfl rfl
theorem wd_427 : Cond.fieldLink "TextMarks$View" 25 "TextMarks$View" "seen" "[Z" ∈ jgw := jmem_1 (i := 70) rfl rfl
theorem wd_428 : Cond.fieldLink "TextMarks$View" 28 "TextMarks$View" "ahead" "[I" ∈ jgw := jmem_1 (i := 71) rfl rfl
theorem wd_429 : Cond.fieldLink "TextMarks$View" 31 "TextMarks$View" "kinds" "[I" ∈ jgw := jmem_1 (i := 72) rfl rfl
theorem wd_430 : Cond.methodLink "TextMarks$View" 34 ⟨"TextMarks$View", "markGoodAndSeen", "(LTextMarks$Rows;LTextMarks$Node;)V"⟩ ∈ jgw := jmem_1 (i := 125) rfl rfl
theorem wd_431 : Cond.instanceMethod ⟨"TextMarks$View", "markGoodAndSeen", "(LTextMarks$Rows;LTextMarks$Node;)V"⟩ ∈ jgw := jmem_1 (i := 127) rfl rfl
theorem wd_432 : Cond.selects "TextMarks$View" ⟨"TextMarks$View", "markGoodAndSeen", "(LTextMarks$Rows;LTextMarks$Node;)V"⟩ ⟨"TextMarks$View", "markGoodAndSeen", "(LTextMarks$Rows;LTextMarks$Node;)V"⟩ ∈ jgw := jmem_0 (i := 2) rfl rfl
theorem wd_433 : Cond.fieldLink "TextMarks$View" 38 "TextMarks$View" "size" "I" ∈ jgw := jmem_1 (i := 65) rfl rfl
theorem wd_434 : Cond.methodLink "TextMarks$View" 42 ⟨"TextMarks$Rows", "placeCount", "()I"⟩ ∈ jgw := jmem_1 (i := 153) rfl rfl
theorem wd_435 : Cond.methodLink "TextMarks$View" 48 ⟨"TextMarks$Rows", "placeAt", "(I)I"⟩ ∈ jgw := jmem_1 (i := 157) rfl rfl
theorem wd_436 : Cond.methodLink "TextMarks$View" 52 ⟨"TextMarks$Rows", "cell", "(II)I"⟩ ∈ jgw := jmem_1 (i := 133) rfl rfl
theorem wd_437 : Cond.methodLink "TextMarks$View" 56 ⟨"TextMarks$Rows", "count", "()I"⟩ ∈ jgw := jmem_1 (i := 129) rfl rfl
theorem wd_438 : Cond.methodLink "TextMarks$View" 59 ⟨"TextMarks$Node", "knows", "(I)Z"⟩ ∈ jgw := jmem_1 (i := 141) rfl rfl
theorem wd_439 : Cond.methodLink "TextMarks$View" 65 ⟨"TextMarks$Rows", "undoOf", "(I)I"⟩ ∈ jgw := jmem_1 (i := 145) rfl rfl
theorem wd_440 : Cond.methodLink "TextMarks$View" 68 ⟨"TextMarks$View", "hide", "(I)V"⟩ ∈ jgw := jmem_1 (i := 149) rfl rfl
theorem wd_441 : Cond.instanceMethod ⟨"TextMarks$View", "hide", "(I)V"⟩ ∈ jgw := jmem_1 (i := 151) rfl rfl
theorem wd_442 : Cond.selects "TextMarks$View" ⟨"TextMarks$View", "hide", "(I)V"⟩ ⟨"TextMarks$View", "hide", "(I)V"⟩ ∈ jgw := jmem_0 (i := 3) rfl rfl
theorem wd_443 : Cond.methodLink "TextMarks$View" 72 ⟨"TextMarks$View", "hasPlace", "(I)Z"⟩ ∈ jgw := jmem_1 (i := 169) rfl rfl
theorem wd_444 : Cond.methodLink "TextMarks$View" 75 ⟨"TextMarks$View", "aheadOf", "(I)I"⟩ ∈ jgw := jmem_2 (i := 79) rfl rfl
theorem wd_445 : Cond.methodLink "TextMarks$View" 78 ⟨"TextMarks$View", "widthOf", "(I)I"⟩ ∈ jgw := jmem_2 (i := 41) rfl rfl
theorem wd_446 : Cond.static ⟨"TextMarks$View", "widthOf", "(I)I"⟩ ∈ jgw := jmem_2 (i := 42) rfl rfl
theorem wd_447 : Cond.methodLink "TextMarks$View" 81 ⟨"TextMarks$View", "partOf", "(II)I"⟩ ∈ jgw := jmem_2 (i := 45) rfl rfl
theorem wd_448 : Cond.static ⟨"TextMarks$View", "partOf", "(II)I"⟩ ∈ jgw := jmem_2 (i := 46) rfl rfl
theorem wd_449 : Cond.constant "TextMarks$View" 84 65536 ∈ jgw := jmem_2 (i := 44) rfl rfl
theorem wd_450 : Cond.constant "TextMarks$View" 85 55296 ∈ jgw := jmem_2 (i := 48) rfl rfl
theorem wd_451 : Cond.constant "TextMarks$View" 86 56320 ∈ jgw := jmem_2 (i := 49) rfl rfl
theorem wd_452 : Cond.methodLink "TextMarks$View" 87 ⟨"TextMarks$Rows", "inOrderAt", "(I)I"⟩ ∈ jgw := jmem_2 (i := 58) rfl rfl
theorem wd_453 : Cond.instanceMethod ⟨"TextMarks$Rows", "inOrderAt", "(I)I"⟩ ∈ jgw := jmem_2 (i := 59) rfl rfl
theorem wd_454 : Cond.selects "TextMarks$Rows" ⟨"TextMarks$Rows", "inOrderAt", "(I)I"⟩ ⟨"TextMarks$Rows", "inOrderAt", "(I)I"⟩ ∈ jgw := jmem_2 (i := 60) rfl rfl
theorem wd_455 : Cond.methodLink "TextMarks$View" 90 ⟨"TextMarks$View", "isGood", "(I)Z"⟩ ∈ jgw := jmem_2 (i := 62) rfl rfl
theorem wd_456 : Cond.methodLink "TextMarks$View" 93 ⟨"TextMarks$View", "paintOne", "(LTextMarks$Rows;I)V"⟩ ∈ jgw := jmem_2 (i := 66) rfl rfl
theorem wd_457 : Cond.instanceMethod ⟨"TextMarks$View", "paintOne", "(LTextMarks$Rows;I)V"⟩ ∈ jgw := jmem_2 (i := 68) rfl rfl
theorem wd_458 : Cond.selects "TextMarks$View" ⟨"TextMarks$View", "paintOne", "(LTextMarks$Rows;I)V"⟩ ⟨"TextMarks$View", "paintOne", "(LTextMarks$Rows;I)V"⟩ ∈ jgw := jmem_0 (i := 10) rfl rfl
theorem wd_459 : Cond.methodLink "TextMarks$View" 97 ⟨"TextMarks$View", "endOf", "(II)I"⟩ ∈ jgw := jmem_2 (i := 70) rfl rfl
theorem wd_460 : Cond.instanceMethod ⟨"TextMarks$View", "endOf", "(II)I"⟩ ∈ jgw := jmem_2 (i := 72) rfl rfl
theorem wd_461 : Cond.selects "TextMarks$View" ⟨"TextMarks$View", "endOf", "(II)I"⟩ ⟨"TextMarks$View", "endOf", "(II)I"⟩ ∈ jgw := jmem_0 (i := 11) rfl rfl
theorem wd_462 : Cond.methodLink "TextMarks$View" 103 ⟨"TextMarks$View", "aheadBehind", "(I)I"⟩ ∈ jgw := jmem_2 (i := 75) rfl rfl
theorem wd_463 : Cond.methodLink "TextMarks$View" 106 ⟨"TextMarks$View", "startsRun", "(I)Z"⟩ ∈ jgw := jmem_2 (i := 95) rfl rfl
theorem wd_464 : Cond.instanceMethod ⟨"TextMarks$View", "startsRun", "(I)Z"⟩ ∈ jgw := jmem_2 (i := 97) rfl rfl
theorem wd_465 : Cond.selects "TextMarks$View" ⟨"TextMarks$View", "startsRun", "(I)Z"⟩ ⟨"TextMarks$View", "startsRun", "(I)Z"⟩ ∈ jgw := jmem_0 (i := 12) rfl rfl
theorem wd_466 : Cond.methodLink "TextMarks$View" 109 ⟨"TextMarks$View", "keepKind", "(II)V"⟩ ∈ jgw := jmem_2 (i := 131) rfl rfl
theorem wd_467 : Cond.instanceMethod ⟨"TextMarks$View", "keepKind", "(II)V"⟩ ∈ jgw := jmem_2 (i := 133) rfl rfl
theorem wd_468 : Cond.selects "TextMarks$View" ⟨"TextMarks$View", "keepKind", "(II)V"⟩ ⟨"TextMarks$View", "keepKind", "(II)V"⟩ ∈ jgw := jmem_0 (i := 15) rfl rfl
theorem wd_469 : Cond.methodLink "TextMarks$View" 113 ⟨"TextMarks$View", "insertAt", "(I)I"⟩ ∈ jgw := jmem_2 (i := 139) rfl rfl
theorem wd_470 : Cond.methodLink "TextMarks$View" 116 ⟨"TextMarks$View", "kindFrom", "(I)I"⟩ ∈ jgw := jmem_2 (i := 160) rfl rfl
theorem wn_17_1 : Cond.methodLinkNest "TextMarks" 9 ⟨"TextMarks$Rows", "<init>", "()V"⟩ "TextMarks" ∈ lw_tbl := jmeml_1 (i := 17) rfl
theorem wo_Node : Cond.arrayOver (FieldType.object "TextMarks$Node") ∈ lw_tbl := jmeml_1 (i := 42) rfl
theorem wn_44_1 : Cond.methodLinkNest "TextMarks" 22 ⟨"TextMarks$Node", "<init>", "()V"⟩ "TextMarks" ∈ lw_tbl := jmeml_1 (i := 44) rfl
theorem wn_61_1 : Cond.methodLinkNest "TextMarks" 25 ⟨"TextMarks$View", "<init>", "()V"⟩ "TextMarks" ∈ lw_tbl := jmeml_1 (i := 61) rfl
theorem wn_74_2 : Cond.methodLinkNest "TextMarks$View" 100 ⟨"TextMarks", "grows", "(I)Z"⟩ "TextMarks" ∈ lw_tbl := jmeml_2 (i := 74) rfl
theorem wc_1 : Cond.code (tm_y 1) (tm_c 1) (tm_l 1) (tm_r 1) ∈ jgw := jmem_1 (i := 11) rfl rfl
theorem wc_2 : Cond.code (tm_y 2) (tm_c 2) (tm_l 2) (tm_r 2) ∈ jgw := jmem_1 (i := 106) rfl rfl
theorem wc_3 : Cond.code (tm_y 3) (tm_c 3) (tm_l 3) (tm_r 3) ∈ jgw := jmem_1 (i := 212) rfl rfl
theorem wc_4 : Cond.code (tm_y 4) (tm_c 4) (tm_l 4) (tm_r 4) ∈ jgw := jmem_1 (i := 217) rfl rfl
theorem wc_5 : Cond.code (tm_y 5) (tm_c 5) (tm_l 5) (tm_r 5) ∈ jgw := jmem_1 (i := 231) rfl rfl
theorem wc_6 : Cond.code (tm_y 6) (tm_c 6) (tm_l 6) (tm_r 6) ∈ jgw := jmem_1 (i := 235) rfl rfl
theorem wc_7 : Cond.code (tm_y 7) (tm_c 7) (tm_l 7) (tm_r 7) ∈ jgw := jmem_2 (i := 3) rfl rfl
theorem wc_8 : Cond.code (tm_y 8) (tm_c 8) (tm_l 8) (tm_r 8) ∈ jgw := jmem_2 (i := 10) rfl rfl
theorem wc_9 : Cond.code (tm_y 9) (tm_c 9) (tm_l 9) (tm_r 9) ∈ jgw := jmem_2 (i := 19) rfl rfl
theorem wc_10 : Cond.code (tm_y 10) (tm_c 10) (tm_l 10) (tm_r 10) ∈ jgw := jmem_2 (i := 24) rfl rfl
theorem wc_11 : Cond.code (tm_y 11) (tm_c 11) (tm_l 11) (tm_r 11) ∈ jgw := jmem_2 (i := 32) rfl rfl
theorem wc_12 : Cond.code (tm_y 12) (tm_c 12) (tm_l 12) (tm_r 12) ∈ jgw := jmem_2 (i := 36) rfl rfl
theorem wc_13 : Cond.code (tm_y 13) (tm_c 13) (tm_l 13) (tm_r 13) ∈ jgw := jmem_2 (i := 53) rfl rfl
theorem wc_14 : Cond.code (tm_y 14) (tm_c 14) (tm_l 14) (tm_r 14) ∈ jgw := jmem_2 (i := 90) rfl rfl
theorem wc_15 : Cond.code (tm_y 15) (tm_c 15) (tm_l 15) (tm_r 15) ∈ jgw := jmem_2 (i := 106) rfl rfl
theorem wc_16 : Cond.code (tm_y 16) (tm_c 16) (tm_l 16) (tm_r 16) ∈ jgw := jmem_2 (i := 122) rfl rfl
theorem wc_17 : Cond.code (tm_y 17) (tm_c 17) (tm_l 17) (tm_r 17) ∈ jgw := jmem_2 (i := 143) rfl rfl
theorem wc_18 : Cond.code (tm_y 18) (tm_c 18) (tm_l 18) (tm_r 18) ∈ jgw := jmem_2 (i := 147) rfl rfl
theorem wc_19 : Cond.code (tm_y 19) (tm_c 19) (tm_l 19) (tm_r 19) ∈ jgw := jmem_2 (i := 172) rfl rfl
theorem wc_20 : Cond.code (tm_y 20) (tm_c 20) (tm_l 20) (tm_r 20) ∈ jgw := jmem_1 (i := 120) rfl rfl
theorem wc_21 : Cond.code (tm_y 21) (tm_c 21) (tm_l 21) (tm_r 21) ∈ jgw := jmem_1 (i := 109) rfl rfl
theorem wc_22 : Cond.code (tm_y 22) (tm_c 22) (tm_l 22) (tm_r 22) ∈ jgw := jmem_1 (i := 220) rfl rfl
theorem wc_23 : Cond.code (tm_y 23) (tm_c 23) (tm_l 23) (tm_r 23) ∈ jgw := jmem_1 (i := 227) rfl rfl
theorem wc_24 : Cond.code (tm_y 24) (tm_c 24) (tm_l 24) (tm_r 24) ∈ jgw := jmem_1 (i := 116) rfl rfl
theorem wc_25 : Cond.code (tm_y 25) (tm_c 25) (tm_l 25) (tm_r 25) ∈ jgw := jmem_1 (i := 176) rfl rfl
theorem wc_26 : Cond.code (tm_y 26) (tm_c 26) (tm_l 26) (tm_r 26) ∈ jgw := jmem_2 (i := 15) rfl rfl
theorem wc_27 : Cond.code (tm_y 27) (tm_c 27) (tm_l 27) (tm_r 27) ∈ jgw := jmem_2 (i := 188) rfl rfl
theorem wc_28 : Cond.code (tm_y 28) (tm_c 28) (tm_l 28) (tm_r 28) ∈ jgw := jmem_2 (i := 111) rfl rfl
theorem wc_29 : Cond.code (tm_y 29) (tm_c 29) (tm_l 29) (tm_r 29) ∈ jgw := jmem_2 (i := 116) rfl rfl
theorem wc_30 : Cond.code (tm_y 30) (tm_c 30) (tm_l 30) (tm_r 30) ∈ jgw := jmem_2 (i := 151) rfl rfl
theorem wc_31 : Cond.code (tm_y 31) (tm_c 31) (tm_l 31) (tm_r 31) ∈ jgw := jmem_2 (i := 164) rfl rfl
theorem wc_32 : Cond.code (tm_y 32) (tm_c 32) (tm_l 32) (tm_r 32) ∈ jgw := jmem_2 (i := 168) rfl rfl
theorem wc_33 : Cond.code (tm_y 33) (tm_c 33) (tm_l 33) (tm_r 33) ∈ jgw := jmem_2 (i := 199) rfl rfl
theorem wc_34 : Cond.code (tm_y 34) (tm_c 34) (tm_l 34) (tm_r 34) ∈ jgw := jmem_3 (i := 64) rfl rfl
theorem wc_35 : Cond.code (tm_y 35) (tm_c 35) (tm_l 35) (tm_r 35) ∈ jgw := jmem_3 (i := 82) rfl rfl
theorem wc_36 : Cond.code (tm_y 36) (tm_c 36) (tm_l 36) (tm_r 36) ∈ jgw := jmem_3 (i := 94) rfl rfl
theorem wc_37 : Cond.code (tm_y 37) (tm_c 37) (tm_l 37) (tm_r 37) ∈ jgw := jmem_3 (i := 78) rfl rfl
theorem wc_38 : Cond.code (tm_y 38) (tm_c 38) (tm_l 38) (tm_r 38) ∈ jgw := jmem_3 (i := 90) rfl rfl
theorem wc_39 : Cond.code (tm_y 39) (tm_c 39) (tm_l 39) (tm_r 39) ∈ jgw := jmem_3 (i := 86) rfl rfl
theorem wc_40 : Cond.code (tm_y 40) (tm_c 40) (tm_l 40) (tm_r 40) ∈ jgw := jmem_3 (i := 98) rfl rfl
theorem wc_41 : Cond.code (tm_y 41) (tm_c 41) (tm_l 41) (tm_r 41) ∈ jgw := jmem_3 (i := 106) rfl rfl
theorem wc_42 : Cond.code (tm_y 42) (tm_c 42) (tm_l 42) (tm_r 42) ∈ jgw := jmem_3 (i := 102) rfl rfl
theorem wc_43 : Cond.code (tm_y 43) (tm_c 43) (tm_l 43) (tm_r 43) ∈ jgw := jmem_3 (i := 74) rfl rfl
theorem wc_44 : Cond.code (tm_y 44) (tm_c 44) (tm_l 44) (tm_r 44) ∈ jgw := jmem_3 (i := 61) rfl rfl
theorem wc_45 : Cond.code (tm_y 45) (tm_c 45) (tm_l 45) (tm_r 45) ∈ jgw := jmem_3 (i := 110) rfl rfl
theorem wc_46 : Cond.code (tm_y 46) (tm_c 46) (tm_l 46) (tm_r 46) ∈ jgw := jmem_3 (i := 67) rfl rfl
theorem wc_47 : Cond.code (tm_y 47) (tm_c 47) (tm_l 47) (tm_r 47) ∈ jgw := jmem_3 (i := 58) rfl rfl
theorem wc_48 : Cond.code (tm_y 48) (tm_c 48) (tm_l 48) (tm_r 48) ∈ jgw := jmem_3 (i := 114) rfl rfl
theorem wc_49 : Cond.code (tm_y 49) (tm_c 49) (tm_l 49) (tm_r 49) ∈ jgw := jmem_3 (i := 118) rfl rfl
theorem wc_50 : Cond.code (tm_y 50) (tm_c 50) (tm_l 50) (tm_r 50) ∈ jgw := jmem_3 (i := 122) rfl rfl
theorem wc_51 : Cond.code (tm_y 51) (tm_c 51) (tm_l 51) (tm_r 51) ∈ jgw := jmem_3 (i := 130) rfl rfl
theorem wc_52 : Cond.code (tm_y 52) (tm_c 52) (tm_l 52) (tm_r 52) ∈ jgw := jmem_3 (i := 126) rfl rfl
theorem wc_53 : Cond.code (tm_y 53) (tm_c 53) (tm_l 53) (tm_r 53) ∈ jgw := jmem_3 (i := 134) rfl rfl
theorem wc_54 : Cond.code (tm_y 54) (tm_c 54) (tm_l 54) (tm_r 54) ∈ jgw := jmem_3 (i := 142) rfl rfl
theorem wc_55 : Cond.code (tm_y 55) (tm_c 55) (tm_l 55) (tm_r 55) ∈ jgw := jmem_3 (i := 138) rfl rfl
theorem wc_56 : Cond.code (tm_y 56) (tm_c 56) (tm_l 56) (tm_r 56) ∈ jgw := jmem_3 (i := 146) rfl rfl
theorem wc_57 : Cond.code (tm_y 57) (tm_c 57) (tm_l 57) (tm_r 57) ∈ jgw := jmem_3 (i := 154) rfl rfl
theorem wc_58 : Cond.code (tm_y 58) (tm_c 58) (tm_l 58) (tm_r 58) ∈ jgw := jmem_3 (i := 150) rfl rfl
theorem wc_59 : Cond.code (tm_y 59) (tm_c 59) (tm_l 59) (tm_r 59) ∈ jgw := jmem_3 (i := 158) rfl rfl
theorem wc_60 : Cond.code (tm_y 60) (tm_c 60) (tm_l 60) (tm_r 60) ∈ jgw := jmem_3 (i := 162) rfl rfl
theorem wc_61 : Cond.code (tm_y 61) (tm_c 61) (tm_l 61) (tm_r 61) ∈ jgw := jmem_3 (i := 170) rfl rfl
theorem wc_62 : Cond.code (tm_y 62) (tm_c 62) (tm_l 62) (tm_r 62) ∈ jgw := jmem_3 (i := 186) rfl rfl
theorem wc_63 : Cond.code (tm_y 63) (tm_c 63) (tm_l 63) (tm_r 63) ∈ jgw := jmem_3 (i := 182) rfl rfl
theorem wc_64 : Cond.code (tm_y 64) (tm_c 64) (tm_l 64) (tm_r 64) ∈ jgw := jmem_3 (i := 174) rfl rfl
theorem wc_65 : Cond.code (tm_y 65) (tm_c 65) (tm_l 65) (tm_r 65) ∈ jgw := jmem_3 (i := 178) rfl rfl
theorem wc_66 : Cond.code (tm_y 66) (tm_c 66) (tm_l 66) (tm_r 66) ∈ jgw := jmem_3 (i := 190) rfl rfl
theorem wc_67 : Cond.code (tm_y 67) (tm_c 67) (tm_l 67) (tm_r 67) ∈ jgw := jmem_3 (i := 194) rfl rfl
theorem wc_68 : Cond.code (tm_y 68) (tm_c 68) (tm_l 68) (tm_r 68) ∈ jgw := jmem_3 (i := 202) rfl rfl
theorem wc_69 : Cond.code (tm_y 69) (tm_c 69) (tm_l 69) (tm_r 69) ∈ jgw := jmem_3 (i := 198) rfl rfl
theorem wc_70 : Cond.code (tm_y 70) (tm_c 70) (tm_l 70) (tm_r 70) ∈ jgw := jmem_3 (i := 206) rfl rfl
theorem wc_71 : Cond.code (tm_y 71) (tm_c 71) (tm_l 71) (tm_r 71) ∈ jgw := jmem_3 (i := 218) rfl rfl
theorem wc_72 : Cond.code (tm_y 72) (tm_c 72) (tm_l 72) (tm_r 72) ∈ jgw := jmem_3 (i := 222) rfl rfl
theorem wc_73 : Cond.code (tm_y 73) (tm_c 73) (tm_l 73) (tm_r 73) ∈ jgw := jmem_3 (i := 214) rfl rfl
theorem wc_74 : Cond.code (tm_y 74) (tm_c 74) (tm_l 74) (tm_r 74) ∈ jgw := jmem_3 (i := 210) rfl rfl
theorem wc_75 : Cond.code (tm_y 75) (tm_c 75) (tm_l 75) (tm_r 75) ∈ jgw := jmem_3 (i := 230) rfl rfl
theorem wc_76 : Cond.code (tm_y 76) (tm_c 76) (tm_l 76) (tm_r 76) ∈ jgw := jmem_3 (i := 234) rfl rfl
theorem wc_77 : Cond.code (tm_y 77) (tm_c 77) (tm_l 77) (tm_r 77) ∈ jgw := jmem_3 (i := 226) rfl rfl
theorem wc_78 : Cond.code (tm_y 78) (tm_c 78) (tm_l 78) (tm_r 78) ∈ jgw := jmem_1 (i := 46) rfl rfl
theorem wc_79 : Cond.code (tm_y 79) (tm_c 79) (tm_l 79) (tm_r 79) ∈ jgw := jmem_2 (i := 194) rfl rfl
theorem wc_80 : Cond.code (tm_y 80) (tm_c 80) (tm_l 80) (tm_r 80) ∈ jgw := jmem_1 (i := 180) rfl rfl
theorem wc_81 : Cond.code (tm_y 81) (tm_c 81) (tm_l 81) (tm_r 81) ∈ jgw := jmem_1 (i := 144) rfl rfl
theorem wc_82 : Cond.code (tm_y 82) (tm_c 82) (tm_l 82) (tm_r 82) ∈ jgw := jmem_1 (i := 205) rfl rfl
theorem wc_83 : Cond.code (tm_y 83) (tm_c 83) (tm_l 83) (tm_r 83) ∈ jgw := jmem_1 (i := 19) rfl rfl
theorem wc_84 : Cond.code (tm_y 84) (tm_c 84) (tm_l 84) (tm_r 84) ∈ jgw := jmem_1 (i := 132) rfl rfl
theorem wc_85 : Cond.code (tm_y 85) (tm_c 85) (tm_l 85) (tm_r 85) ∈ jgw := jmem_1 (i := 140) rfl rfl
theorem wc_86 : Cond.code (tm_y 86) (tm_c 86) (tm_l 86) (tm_r 86) ∈ jgw := jmem_1 (i := 136) rfl rfl
theorem wc_87 : Cond.code (tm_y 87) (tm_c 87) (tm_l 87) (tm_r 87) ∈ jgw := jmem_1 (i := 148) rfl rfl
theorem wc_88 : Cond.code (tm_y 88) (tm_c 88) (tm_l 88) (tm_r 88) ∈ jgw := jmem_2 (i := 61) rfl rfl
theorem wc_89 : Cond.code (tm_y 89) (tm_c 89) (tm_l 89) (tm_r 89) ∈ jgw := jmem_1 (i := 156) rfl rfl
theorem wc_90 : Cond.code (tm_y 90) (tm_c 90) (tm_l 90) (tm_r 90) ∈ jgw := jmem_1 (i := 160) rfl rfl
theorem wc_91 : Cond.code (tm_y 91) (tm_c 91) (tm_l 91) (tm_r 91) ∈ jgw := jmem_1 (i := 184) rfl rfl
theorem wc_92 : Cond.code (tm_y 92) (tm_c 92) (tm_l 92) (tm_r 92) ∈ jgw := jmem_1 (i := 192) rfl rfl
theorem wc_93 : Cond.code (tm_y 93) (tm_c 93) (tm_l 93) (tm_r 93) ∈ jgw := jmem_1 (i := 188) rfl rfl
theorem wc_94 : Cond.code (tm_y 94) (tm_c 94) (tm_l 94) (tm_r 94) ∈ jgw := jmem_1 (i := 197) rfl rfl
theorem wc_95 : Cond.code (tm_y 95) (tm_c 95) (tm_l 95) (tm_r 95) ∈ jgw := jmem_1 (i := 201) rfl rfl
theorem wc_96 : Cond.code (tm_y 96) (tm_c 96) (tm_l 96) (tm_r 96) ∈ jgw := jmem_1 (i := 63) rfl rfl
theorem wc_97 : Cond.code (tm_y 97) (tm_c 97) (tm_l 97) (tm_r 97) ∈ jgw := jmem_1 (i := 124) rfl rfl
theorem wc_98 : Cond.code (tm_y 98) (tm_c 98) (tm_l 98) (tm_r 98) ∈ jgw := jmem_1 (i := 128) rfl rfl
theorem wc_99 : Cond.code (tm_y 99) (tm_c 99) (tm_l 99) (tm_r 99) ∈ jgw := jmem_1 (i := 152) rfl rfl
theorem wc_100 : Cond.code (tm_y 100) (tm_c 100) (tm_l 100) (tm_r 100) ∈ jgw := jmem_1 (i := 164) rfl rfl
theorem wc_101 : Cond.code (tm_y 101) (tm_c 101) (tm_l 101) (tm_r 101) ∈ jgw := jmem_2 (i := 65) rfl rfl
theorem wc_102 : Cond.code (tm_y 102) (tm_c 102) (tm_l 102) (tm_r 102) ∈ jgw := jmem_1 (i := 172) rfl rfl
theorem wc_103 : Cond.code (tm_y 103) (tm_c 103) (tm_l 103) (tm_r 103) ∈ jgw := jmem_1 (i := 224) rfl rfl
theorem wc_104 : Cond.code (tm_y 104) (tm_c 104) (tm_l 104) (tm_r 104) ∈ jgw := jmem_1 (i := 168) rfl rfl
theorem wc_105 : Cond.code (tm_y 105) (tm_c 105) (tm_l 105) (tm_r 105) ∈ jgw := jmem_2 (i := 28) rfl rfl
theorem wc_106 : Cond.code (tm_y 106) (tm_c 106) (tm_l 106) (tm_r 106) ∈ jgw := jmem_2 (i := 82) rfl rfl
theorem wc_107 : Cond.code (tm_y 107) (tm_c 107) (tm_l 107) (tm_r 107) ∈ jgw := jmem_2 (i := 78) rfl rfl
theorem wc_108 : Cond.code (tm_y 108) (tm_c 108) (tm_l 108) (tm_r 108) ∈ jgw := jmem_2 (i := 176) rfl rfl
theorem wc_109 : Cond.code (tm_y 109) (tm_c 109) (tm_l 109) (tm_r 109) ∈ jgw := jmem_2 (i := 40) rfl rfl
theorem wc_110 : Cond.code (tm_y 110) (tm_c 110) (tm_l 110) (tm_r 110) ∈ jgw := jmem_2 (i := 43) rfl rfl
theorem wc_111 : Cond.code (tm_y 111) (tm_c 111) (tm_l 111) (tm_r 111) ∈ jgw := jmem_2 (i := 47) rfl rfl
theorem wc_112 : Cond.code (tm_y 112) (tm_c 112) (tm_l 112) (tm_r 112) ∈ jgw := jmem_2 (i := 57) rfl rfl
theorem wc_113 : Cond.code (tm_y 113) (tm_c 113) (tm_l 113) (tm_r 113) ∈ jgw := jmem_2 (i := 69) rfl rfl
theorem wc_114 : Cond.code (tm_y 114) (tm_c 114) (tm_l 114) (tm_r 114) ∈ jgw := jmem_2 (i := 73) rfl rfl
theorem wc_115 : Cond.code (tm_y 115) (tm_c 115) (tm_l 115) (tm_r 115) ∈ jgw := jmem_2 (i := 86) rfl rfl
theorem wc_116 : Cond.code (tm_y 116) (tm_c 116) (tm_l 116) (tm_r 116) ∈ jgw := jmem_2 (i := 98) rfl rfl
theorem wc_117 : Cond.code (tm_y 117) (tm_c 117) (tm_l 117) (tm_r 117) ∈ jgw := jmem_2 (i := 180) rfl rfl
theorem wc_118 : Cond.code (tm_y 118) (tm_c 118) (tm_l 118) (tm_r 118) ∈ jgw := jmem_2 (i := 94) rfl rfl
theorem wc_119 : Cond.code (tm_y 119) (tm_c 119) (tm_l 119) (tm_r 119) ∈ jgw := jmem_2 (i := 102) rfl rfl
theorem wc_120 : Cond.code (tm_y 120) (tm_c 120) (tm_l 120) (tm_r 120) ∈ jgw := jmem_2 (i := 184) rfl rfl
theorem wc_121 : Cond.code (tm_y 121) (tm_c 121) (tm_l 121) (tm_r 121) ∈ jgw := jmem_1 (i := 239) rfl rfl
theorem wc_122 : Cond.code (tm_y 122) (tm_c 122) (tm_l 122) (tm_r 122) ∈ jgw := jmem_2 (i := 126) rfl rfl
theorem wc_123 : Cond.code (tm_y 123) (tm_c 123) (tm_l 123) (tm_r 123) ∈ jgw := jmem_2 (i := 130) rfl rfl
theorem wc_124 : Cond.code (tm_y 124) (tm_c 124) (tm_l 124) (tm_r 124) ∈ jgw := jmem_2 (i := 134) rfl rfl
theorem wc_125 : Cond.code (tm_y 125) (tm_c 125) (tm_l 125) (tm_r 125) ∈ jgw := jmem_2 (i := 138) rfl rfl
theorem wc_126 : Cond.code (tm_y 126) (tm_c 126) (tm_l 126) (tm_r 126) ∈ jgw := jmem_2 (i := 155) rfl rfl
theorem wc_127 : Cond.code (tm_y 127) (tm_c 127) (tm_l 127) (tm_r 127) ∈ jgw := jmem_2 (i := 159) rfl rfl
theorem wo_obj : Cond.code objectInit ⟨#[0xb1]⟩ 1 none ∈ jgw := jmem_1 (i := 14) rfl rfl
theorem wo_max : Cond.code Lib.Math.max.name Lib.Math.max.code 2 (some .int) ∈ jgw := jmem_1 (i := 208) rfl rfl
theorem tm_in0 : ∀ w ∈ u_ws tm_C0 tm_T0 3, w ∈ jgw := by decide +kernel
theorem tm_df0 : ∀ k, k < 3 → defaultValue (tm_D0 k) = if (tm_F 0).getD k false = true then .null else .int 0 := fun k hk => by
  rcases (show k = 0 ∨ k = 1 ∨ k = 2 by omega) with rfl | rfl | rfl <;> rfl
theorem tm_in1 : ∀ w ∈ u_ws tm_C1 tm_T1 6, w ∈ jgw := by decide +kernel
theorem tm_df1 : ∀ k, k < 6 → defaultValue (tm_D1 k) = if (tm_F 1).getD k false = true then .null else .int 0 := fun k hk => by
  rcases (show k = 0 ∨ k = 1 ∨ k = 2 ∨ k = 3 ∨ k = 4 ∨ k = 5 by omega) with rfl | rfl | rfl | rfl | rfl | rfl <;> rfl
theorem tm_in2 : ∀ w ∈ u_ws tm_C2 tm_T2 8, w ∈ jgw := by decide +kernel
theorem tm_df2 : ∀ k, k < 8 → defaultValue (tm_D2 k) = if (tm_F 2).getD k false = true then .null else .int 0 := fun k hk => by
  rcases (show k = 0 ∨ k = 1 ∨ k = 2 ∨ k = 3 ∨ k = 4 ∨ k = 5 ∨ k = 6 ∨ k = 7 by omega) with rfl | rfl | rfl | rfl | rfl | rfl | rfl | rfl <;> rfl
theorem tm_in3 : ∀ w ∈ u_ws tm_C3 tm_T3 4, w ∈ jgw := by decide +kernel
theorem tm_df3 : ∀ k, k < 4 → defaultValue (tm_D3 k) = if (tm_F 3).getD k false = true then .null else .int 0 := fun k hk => by
  rcases (show k = 0 ∨ k = 1 ∨ k = 2 ∨ k = 3 by omega) with rfl | rfl | rfl | rfl <;> rfl
theorem tm_in4 : ∀ w ∈ u_ws tm_C4 tm_T4 31, w ∈ jgw := by decide +kernel
theorem tm_df4 : ∀ k, k < 31 → defaultValue (tm_D4 k) = if (tm_F 4).getD k false = true then .null else .int 0 := fun k hk => by
  rcases (show k = 0 ∨ k = 1 ∨ k = 2 ∨ k = 3 ∨ k = 4 ∨ k = 5 ∨ k = 6 ∨ k = 7 ∨ k = 8 ∨ k = 9 ∨ k = 10 ∨ k = 11 ∨ k = 12 ∨ k = 13 ∨ k = 14 ∨ k = 15 ∨ k = 16 ∨ k = 17 ∨ k = 18 ∨ k = 19 ∨ k = 20 ∨ k = 21 ∨ k = 22 ∨ k = 23 ∨ k = 24 ∨ k = 25 ∨ k = 26 ∨ k = 27 ∨ k = 28 ∨ k = 29 ∨ k = 30 by omega) with rfl | rfl | rfl | rfl | rfl | rfl | rfl | rfl | rfl | rfl | rfl | rfl | rfl | rfl | rfl | rfl | rfl | rfl | rfl | rfl | rfl | rfl | rfl | rfl | rfl | rfl | rfl | rfl | rfl | rfl | rfl <;> rfl
