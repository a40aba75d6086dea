theorem d_M_findPlaces_0 : decode (tm_c 39) 0 = .ok (.aload_n 0, 1) := by decide +kernel
theorem d_M_findPlaces_1 : decode (tm_c 39) 1 = .ok (.iload_n 1, 1) := by decide +kernel
theorem d_M_findPlaces_2 : decode (tm_c 39) 2 = .ok (.iconst (0), 1) := by decide +kernel
theorem d_M_findPlaces_3 : decode (tm_c 39) 3 = .ok (.invokevirtual 94, 3) := by decide +kernel
theorem d_M_findPlaces_6 : decode (tm_c 39) 6 = .ok (.aload_n 0, 1) := by decide +kernel
theorem d_M_findPlaces_7 : decode (tm_c 39) 7 = .ok (.iconst (0), 1) := by decide +kernel
theorem d_M_findPlaces_8 : decode (tm_c 39) 8 = .ok (.putfield 98, 3) := by decide +kernel
theorem d_M_findPlaces_11 : decode (tm_c 39) 11 = .ok (.iconst (0), 1) := by decide +kernel
theorem d_M_findPlaces_12 : decode (tm_c 39) 12 = .ok (.istore_n 2, 1) := by decide +kernel
theorem d_M_findPlaces_13 : decode (tm_c 39) 13 = .ok (.iload_n 2, 1) := by decide +kernel
theorem d_M_findPlaces_14 : decode (tm_c 39) 14 = .ok (.aload_n 0, 1) := by decide +kernel
theorem d_M_findPlaces_15 : decode (tm_c 39) 15 = .ok (.getfield 88, 3) := by decide +kernel
theorem d_M_findPlaces_18 : decode (tm_c 39) 18 = .ok (.if_icmp .ge (115), 3) := by decide +kernel
theorem d_M_findPlaces_21 : decode (tm_c 39) 21 = .ok (.aload_n 0, 1) := by decide +kernel
theorem d_M_findPlaces_22 : decode (tm_c 39) 22 = .ok (.getfield 60, 3) := by decide +kernel
theorem d_M_findPlaces_25 : decode (tm_c 39) 25 = .ok (.iload_n 2, 1) := by decide +kernel
theorem d_M_findPlaces_26 : decode (tm_c 39) 26 = .ok (.iaload, 1) := by decide +kernel
theorem d_M_findPlaces_27 : decode (tm_c 39) 27 = .ok (.istore_n 3, 1) := by decide +kernel
theorem d_M_findPlaces_28 : decode (tm_c 39) 28 = .ok (.iconst (0), 1) := by decide +kernel
theorem d_M_findPlaces_29 : decode (tm_c 39) 29 = .ok (.istore 4, 2) := by decide +kernel
theorem d_M_findPlaces_31 : decode (tm_c 39) 31 = .ok (.aload_n 0, 1) := by decide +kernel
theorem d_M_findPlaces_32 : decode (tm_c 39) 32 = .ok (.getfield 25, 3) := by decide +kernel
theorem d_M_findPlaces_35 : decode (tm_c 39) 35 = .ok (.iload_n 3, 1) := by decide +kernel
theorem d_M_findPlaces_36 : decode (tm_c 39) 36 = .ok (.iaload, 1) := by decide +kernel
theorem d_M_findPlaces_37 : decode (tm_c 39) 37 = .ok (.ifCond .eq (25), 3) := by decide +kernel
theorem d_M_findPlaces_40 : decode (tm_c 39) 40 = .ok (.aload_n 0, 1) := by decide +kernel
theorem d_M_findPlaces_41 : decode (tm_c 39) 41 = .ok (.getfield 45, 3) := by decide +kernel
theorem d_M_findPlaces_44 : decode (tm_c 39) 44 = .ok (.iload 4, 2) := by decide +kernel
theorem d_M_findPlaces_46 : decode (tm_c 39) 46 = .ok (.iaload, 1) := by decide +kernel
theorem d_M_findPlaces_47 : decode (tm_c 39) 47 = .ok (.aload_n 0, 1) := by decide +kernel
theorem d_M_findPlaces_48 : decode (tm_c 39) 48 = .ok (.getfield 25, 3) := by decide +kernel
theorem d_M_findPlaces_51 : decode (tm_c 39) 51 = .ok (.iload_n 3, 1) := by decide +kernel
theorem d_M_findPlaces_52 : decode (tm_c 39) 52 = .ok (.iaload, 1) := by decide +kernel
theorem d_M_findPlaces_53 : decode (tm_c 39) 53 = .ok (.if_icmp .eq (9), 3) := by decide +kernel
theorem d_M_findPlaces_56 : decode (tm_c 39) 56 = .ok (.iinc 4 (1), 3) := by decide +kernel
theorem d_M_findPlaces_59 : decode (tm_c 39) 59 = .ok (.goto (-28), 3) := by decide +kernel
theorem d_M_findPlaces_62 : decode (tm_c 39) 62 = .ok (.aload_n 0, 1) := by decide +kernel
theorem d_M_findPlaces_63 : decode (tm_c 39) 63 = .ok (.getfield 25, 3) := by decide +kernel
theorem d_M_findPlaces_66 : decode (tm_c 39) 66 = .ok (.iload_n 3, 1) := by decide +kernel
theorem d_M_findPlaces_67 : decode (tm_c 39) 67 = .ok (.iaload, 1) := by decide +kernel
theorem d_M_findPlaces_68 : decode (tm_c 39) 68 = .ok (.ifCond .eq (6), 3) := by decide +kernel
theorem d_M_findPlaces_71 : decode (tm_c 39) 71 = .ok (.iinc 4 (1), 3) := by decide +kernel
theorem d_M_findPlaces_74 : decode (tm_c 39) 74 = .ok (.aload_n 0, 1) := by decide +kernel
theorem d_M_findPlaces_75 : decode (tm_c 39) 75 = .ok (.getfield 98, 3) := by decide +kernel
theorem d_M_findPlaces_78 : decode (tm_c 39) 78 = .ok (.istore 5, 2) := by decide +kernel
theorem d_M_findPlaces_80 : decode (tm_c 39) 80 = .ok (.iload 5, 2) := by decide +kernel
theorem d_M_findPlaces_82 : decode (tm_c 39) 82 = .ok (.iload 4, 2) := by decide +kernel
theorem d_M_findPlaces_84 : decode (tm_c 39) 84 = .ok (.if_icmp .le (25), 3) := by decide +kernel
theorem d_M_findPlaces_87 : decode (tm_c 39) 87 = .ok (.aload_n 0, 1) := by decide +kernel
theorem d_M_findPlaces_88 : decode (tm_c 39) 88 = .ok (.getfield 45, 3) := by decide +kernel
theorem d_M_findPlaces_91 : decode (tm_c 39) 91 = .ok (.iload 5, 2) := by decide +kernel
theorem d_M_findPlaces_93 : decode (tm_c 39) 93 = .ok (.aload_n 0, 1) := by decide +kernel
theorem d_M_findPlaces_94 : decode (tm_c 39) 94 = .ok (.getfield 45, 3) := by decide +kernel
theorem d_M_findPlaces_97 : decode (tm_c 39) 97 = .ok (.iload 5, 2) := by decide +kernel
theorem d_M_findPlaces_99 : decode (tm_c 39) 99 = .ok (.iconst (1), 1) := by decide +kernel
theorem d_M_findPlaces_100 : decode (tm_c 39) 100 = .ok (.isub, 1) := by decide +kernel
theorem d_M_findPlaces_101 : decode (tm_c 39) 101 = .ok (.iaload, 1) := by decide +kernel
theorem d_M_findPlaces_102 : decode (tm_c 39) 102 = .ok (.iastore, 1) := by decide +kernel
theorem d_M_findPlaces_103 : decode (tm_c 39) 103 = .ok (.iinc 5 (-1), 3) := by decide +kernel
theorem d_M_findPlaces_106 : decode (tm_c 39) 106 = .ok (.goto (-26), 3) := by decide +kernel
theorem d_M_findPlaces_109 : decode (tm_c 39) 109 = .ok (.aload_n 0, 1) := by decide +kernel
theorem d_M_findPlaces_110 : decode (tm_c 39) 110 = .ok (.getfield 45, 3) := by decide +kernel
theorem d_M_findPlaces_113 : decode (tm_c 39) 113 = .ok (.iload 4, 2) := by decide +kernel
theorem d_M_findPlaces_115 : decode (tm_c 39) 115 = .ok (.iload_n 3, 1) := by decide +kernel
theorem d_M_findPlaces_116 : decode (tm_c 39) 116 = .ok (.iastore, 1) := by decide +kernel
theorem d_M_findPlaces_117 : decode (tm_c 39) 117 = .ok (.aload_n 0, 1) := by decide +kernel
theorem d_M_findPlaces_118 : decode (tm_c 39) 118 = .ok (.dup, 1) := by decide +kernel
theorem d_M_findPlaces_119 : decode (tm_c 39) 119 = .ok (.getfield 98, 3) := by decide +kernel
theorem d_M_findPlaces_122 : decode (tm_c 39) 122 = .ok (.iconst (1), 1) := by decide +kernel
theorem d_M_findPlaces_123 : decode (tm_c 39) 123 = .ok (.iadd, 1) := by decide +kernel
theorem d_M_findPlaces_124 : decode (tm_c 39) 124 = .ok (.putfield 98, 3) := by decide +kernel
theorem d_M_findPlaces_127 : decode (tm_c 39) 127 = .ok (.iinc 2 (1), 3) := by decide +kernel
theorem d_M_findPlaces_130 : decode (tm_c 39) 130 = .ok (.goto (-117), 3) := by decide +kernel
theorem d_M_findPlaces_133 : decode (tm_c 39) 133 = .ok (.iconst (0), 1) := by decide +kernel
theorem d_M_findPlaces_134 : decode (tm_c 39) 134 = .ok (.istore_n 2, 1) := by decide +kernel
theorem d_M_findPlaces_135 : decode (tm_c 39) 135 = .ok (.iload_n 2, 1) := by decide +kernel
theorem d_M_findPlaces_136 : decode (tm_c 39) 136 = .ok (.aload_n 0, 1) := by decide +kernel
theorem d_M_findPlaces_137 : decode (tm_c 39) 137 = .ok (.getfield 98, 3) := by decide +kernel
theorem d_M_findPlaces_140 : decode (tm_c 39) 140 = .ok (.if_icmp .ge (21), 3) := by decide +kernel
theorem d_M_findPlaces_143 : decode (tm_c 39) 143 = .ok (.aload_n 0, 1) := by decide +kernel
theorem d_M_findPlaces_144 : decode (tm_c 39) 144 = .ok (.getfield 48, 3) := by decide +kernel
theorem d_M_findPlaces_147 : decode (tm_c 39) 147 = .ok (.aload_n 0, 1) := by decide +kernel
theorem d_M_findPlaces_148 : decode (tm_c 39) 148 = .ok (.getfield 45, 3) := by decide +kernel
theorem d_M_findPlaces_151 : decode (tm_c 39) 151 = .ok (.iload_n 2, 1) := by decide +kernel
theorem d_M_findPlaces_152 : decode (tm_c 39) 152 = .ok (.iaload, 1) := by decide +kernel
theorem d_M_findPlaces_153 : decode (tm_c 39) 153 = .ok (.iload_n 2, 1) := by decide +kernel
theorem d_M_findPlaces_154 : decode (tm_c 39) 154 = .ok (.iastore, 1) := by decide +kernel
theorem d_M_findPlaces_155 : decode (tm_c 39) 155 = .ok (.iinc 2 (1), 3) := by decide +kernel
theorem d_M_findPlaces_158 : decode (tm_c 39) 158 = .ok (.goto (-23), 3) := by decide +kernel
theorem d_M_findPlaces_161 : decode (tm_c 39) 161 = .ok (.return_, 1) := by decide +kernel
theorem g_M_findPlaces_0 : jSnd 39 0 (o_aload 1 0) := snd_aload_n d_M_findPlaces_0 rfl
theorem g_M_findPlaces_1 : jSnd 39 1 (o_iload 2 1) := snd_iload_n d_M_findPlaces_1 rfl
theorem g_M_findPlaces_2 : jSnd 39 2 (o_push 3 (0)) := snd_iconst (n := 0) (z := 0) d_M_findPlaces_2 (by decide) (by unfold jrg; omega)
theorem g_M_findPlaces_3 : jSnd 39 3 (o_call 6 38 3 5 14 true) := snd_callV (ci := 4) (n := 2) rfl d_M_findPlaces_3 (by decide) (by decide) (by decide) wc_38 wd_313 wd_314 wd_315 wd_7 (by decide +kernel) (by decide) (by decide)
theorem g_M_findPlaces_6 : jSnd 39 6 (o_aload 7 0) := snd_aload_n d_M_findPlaces_6 rfl
theorem g_M_findPlaces_7 : jSnd 39 7 (o_push 8 (0)) := snd_iconst (n := 0) (z := 0) d_M_findPlaces_7 (by decide) (by unfold jrg; omega)
theorem g_M_findPlaces_8 : jSnd 39 8 (o_putI 11 14 (13)) := snd_putI (ci := 4) (k := 13) d_M_findPlaces_8 rfl tm_in4 tm_D4 tm_ty4 tm_nm4 (by decide) wd_316 rfl rfl rfl
theorem g_M_findPlaces_11 : jSnd 39 11 (o_push 12 (0)) := snd_iconst (n := 0) (z := 0) d_M_findPlaces_11 (by decide) (by unfold jrg; omega)
theorem g_M_findPlaces_12 : jSnd 39 12 (o_istore 13 2) := snd_istore_n d_M_findPlaces_12 rfl (by decide)
theorem g_M_findPlaces_13 : jSnd 39 13 (o_iload 14 2) := snd_iload_n d_M_findPlaces_13 rfl
theorem g_M_findPlaces_14 : jSnd 39 14 (o_aload 15 0) := snd_aload_n d_M_findPlaces_14 rfl
theorem g_M_findPlaces_15 : jSnd 39 15 (o_getI 18 14 (20)) := snd_getI (ci := 4) (k := 20) d_M_findPlaces_15 rfl tm_in4 (by decide) wd_309 rfl
theorem g_M_findPlaces_18 : jSnd 39 18 (o_ic_ge 21 133) := snd_ic_ge d_M_findPlaces_18 (by decide)
theorem g_M_findPlaces_21 : jSnd 39 21 (o_aload 22 0) := snd_aload_n d_M_findPlaces_21 rfl
theorem g_M_findPlaces_22 : jSnd 39 22 (o_getR 25 14 (21)) := snd_getR (ci := 4) (k := 21) d_M_findPlaces_22 rfl tm_in4 (by decide) wd_299 rfl
theorem g_M_findPlaces_25 : jSnd 39 25 (o_iload 26 2) := snd_iload_n d_M_findPlaces_25 rfl
theorem g_M_findPlaces_26 : jSnd 39 26 (o_nald 27 1) := snd_iald d_M_findPlaces_26
theorem g_M_findPlaces_27 : jSnd 39 27 (o_istore 28 3) := snd_istore_n d_M_findPlaces_27 rfl (by decide)
theorem g_M_findPlaces_28 : jSnd 39 28 (o_push 29 (0)) := snd_iconst (n := 0) (z := 0) d_M_findPlaces_28 (by decide) (by unfold jrg; omega)
theorem g_M_findPlaces_29 : jSnd 39 29 (o_istore 31 4) := snd_istore d_M_findPlaces_29 (by decide)
theorem g_M_findPlaces_31 : jSnd 39 31 (o_aload 32 0) := snd_aload_n d_M_findPlaces_31 rfl
theorem g_M_findPlaces_32 : jSnd 39 32 (o_getR 35 14 (7)) := snd_getR (ci := 4) (k := 7) d_M_findPlaces_32 rfl tm_in4 (by decide) wd_287 rfl
theorem g_M_findPlaces_35 : jSnd 39 35 (o_iload 36 3) := snd_iload_n d_M_findPlaces_35 rfl
theorem g_M_findPlaces_36 : jSnd 39 36 (o_nald 37 1) := snd_iald d_M_findPlaces_36
theorem g_M_findPlaces_37 : jSnd 39 37 (o_if_eq 40 62) := snd_if_eq d_M_findPlaces_37 (by decide)
theorem g_M_findPlaces_40 : jSnd 39 40 (o_aload 41 0) := snd_aload_n d_M_findPlaces_40 rfl
theorem g_M_findPlaces_41 : jSnd 39 41 (o_getR 44 14 (14)) := snd_getR (ci := 4) (k := 14) d_M_findPlaces_41 rfl tm_in4 (by decide) wd_294 rfl
theorem g_M_findPlaces_44 : jSnd 39 44 (o_iload 46 4) := snd_iload d_M_findPlaces_44
theorem g_M_findPlaces_46 : jSnd 39 46 (o_nald 47 1) := snd_iald d_M_findPlaces_46
theorem g_M_findPlaces_47 : jSnd 39 47 (o_aload 48 0) := snd_aload_n d_M_findPlaces_47 rfl
theorem g_M_findPlaces_48 : jSnd 39 48 (o_getR 51 14 (7)) := snd_getR (ci := 4) (k := 7) d_M_findPlaces_48 rfl tm_in4 (by decide) wd_287 rfl
theorem g_M_findPlaces_51 : jSnd 39 51 (o_iload 52 3) := snd_iload_n d_M_findPlaces_51 rfl
theorem g_M_findPlaces_52 : jSnd 39 52 (o_nald 53 1) := snd_iald d_M_findPlaces_52
theorem g_M_findPlaces_53 : jSnd 39 53 (o_ic_eq 56 62) := snd_ic_eq d_M_findPlaces_53 (by decide)
theorem g_M_findPlaces_56 : jSnd 39 56 (o_iinc 59 4 (1)) := snd_iinc d_M_findPlaces_56 (by decide)
theorem g_M_findPlaces_59 : jSnd 39 59 (o_goto 31) := snd_goto d_M_findPlaces_59 (by decide)
theorem g_M_findPlaces_62 : jSnd 39 62 (o_aload 63 0) := snd_aload_n d_M_findPlaces_62 rfl
theorem g_M_findPlaces_63 : jSnd 39 63 (o_getR 66 14 (7)) := snd_getR (ci := 4) (k := 7) d_M_findPlaces_63 rfl tm_in4 (by decide) wd_287 rfl
theorem g_M_findPlaces_66 : jSnd 39 66 (o_iload 67 3) := snd_iload_n d_M_findPlaces_66 rfl
theorem g_M_findPlaces_67 : jSnd 39 67 (o_nald 68 1) := snd_iald d_M_findPlaces_67
theorem g_M_findPlaces_68 : jSnd 39 68 (o_if_eq 71 74) := snd_if_eq d_M_findPlaces_68 (by decide)
theorem g_M_findPlaces_71 : jSnd 39 71 (o_iinc 74 4 (1)) := snd_iinc d_M_findPlaces_71 (by decide)
theorem g_M_findPlaces_74 : jSnd 39 74 (o_aload 75 0) := snd_aload_n d_M_findPlaces_74 rfl
theorem g_M_findPlaces_75 : jSnd 39 75 (o_getI 78 14 (13)) := snd_getI (ci := 4) (k := 13) d_M_findPlaces_75 rfl tm_in4 (by decide) wd_316 rfl
theorem g_M_findPlaces_78 : jSnd 39 78 (o_istore 80 5) := snd_istore d_M_findPlaces_78 (by decide)
theorem g_M_findPlaces_80 : jSnd 39 80 (o_iload 82 5) := snd_iload d_M_findPlaces_80
theorem g_M_findPlaces_82 : jSnd 39 82 (o_iload 84 4) := snd_iload d_M_findPlaces_82
theorem g_M_findPlaces_84 : jSnd 39 84 (o_ic_le 87 109) := snd_ic_le d_M_findPlaces_84 (by decide)
theorem g_M_findPlaces_87 : jSnd 39 87 (o_aload 88 0) := snd_aload_n d_M_findPlaces_87 rfl
theorem g_M_findPlaces_88 : jSnd 39 88 (o_getR 91 14 (14)) := snd_getR (ci := 4) (k := 14) d_M_findPlaces_88 rfl tm_in4 (by decide) wd_294 rfl
theorem g_M_findPlaces_91 : jSnd 39 91 (o_iload 93 5) := snd_iload d_M_findPlaces_91
theorem g_M_findPlaces_93 : jSnd 39 93 (o_aload 94 0) := snd_aload_n d_M_findPlaces_93 rfl
theorem g_M_findPlaces_94 : jSnd 39 94 (o_getR 97 14 (14)) := snd_getR (ci := 4) (k := 14) d_M_findPlaces_94 rfl tm_in4 (by decide) wd_294 rfl
theorem g_M_findPlaces_97 : jSnd 39 97 (o_iload 99 5) := snd_iload d_M_findPlaces_97
theorem g_M_findPlaces_99 : jSnd 39 99 (o_push 100 (1)) := snd_iconst (n := 1) (z := 1) d_M_findPlaces_99 (by decide) (by unfold jrg; omega)
theorem g_M_findPlaces_100 : jSnd 39 100 (o_bin 101 f_sub) := snd_isub d_M_findPlaces_100
theorem g_M_findPlaces_101 : jSnd 39 101 (o_nald 102 1) := snd_iald d_M_findPlaces_101
theorem g_M_findPlaces_102 : jSnd 39 102 (o_iast 103) := snd_iast d_M_findPlaces_102
theorem g_M_findPlaces_103 : jSnd 39 103 (o_iinc 106 5 (-1)) := snd_iinc d_M_findPlaces_103 (by decide)
theorem g_M_findPlaces_106 : jSnd 39 106 (o_goto 80) := snd_goto d_M_findPlaces_106 (by decide)
theorem g_M_findPlaces_109 : jSnd 39 109 (o_aload 110 0) := snd_aload_n d_M_findPlaces_109 rfl
theorem g_M_findPlaces_110 : jSnd 39 110 (o_getR 113 14 (14)) := snd_getR (ci := 4) (k := 14) d_M_findPlaces_110 rfl tm_in4 (by decide) wd_294 rfl
theorem g_M_findPlaces_113 : jSnd 39 113 (o_iload 115 4) := snd_iload d_M_findPlaces_113
theorem g_M_findPlaces_115 : jSnd 39 115 (o_iload 116 3) := snd_iload_n d_M_findPlaces_115 rfl
theorem g_M_findPlaces_116 : jSnd 39 116 (o_iast 117) := snd_iast d_M_findPlaces_116
theorem g_M_findPlaces_117 : jSnd 39 117 (o_aload 118 0) := snd_aload_n d_M_findPlaces_117 rfl
theorem g_M_findPlaces_118 : jSnd 39 118 (o_dup 119) := snd_dup d_M_findPlaces_118
theorem g_M_findPlaces_119 : jSnd 39 119 (o_getI 122 14 (13)) := snd_getI (ci := 4) (k := 13) d_M_findPlaces_119 rfl tm_in4 (by decide) wd_316 rfl
theorem g_M_findPlaces_122 : jSnd 39 122 (o_push 123 (1)) := snd_iconst (n := 1) (z := 1) d_M_findPlaces_122 (by decide) (by unfold jrg; omega)
theorem g_M_findPlaces_123 : jSnd 39 123 (o_bin 124 f_add) := snd_iadd d_M_findPlaces_123
theorem g_M_findPlaces_124 : jSnd 39 124 (o_putI 127 14 (13)) := snd_putI (ci := 4) (k := 13) d_M_findPlaces_124 rfl tm_in4 tm_D4 tm_ty4 tm_nm4 (by decide) wd_316 rfl rfl rfl
theorem g_M_findPlaces_127 : jSnd 39 127 (o_iinc 130 2 (1)) := snd_iinc d_M_findPlaces_127 (by decide)
theorem g_M_findPlaces_130 : jSnd 39 130 (o_goto 13) := snd_goto d_M_findPlaces_130 (by decide)
theorem g_M_findPlaces_133 : jSnd 39 133 (o_push 134 (0)) := snd_iconst (n := 0) (z := 0) d_M_findPlaces_133 (by decide) (by unfold jrg; omega)
theorem g_M_findPlaces_134 : jSnd 39 134 (o_istore 135 2) := snd_istore_n d_M_findPlaces_134 rfl (by decide)
theorem g_M_findPlaces_135 : jSnd 39 135 (o_iload 136 2) := snd_iload_n d_M_findPlaces_135 rfl
theorem g_M_findPlaces_136 : jSnd 39 136 (o_aload 137 0) := snd_aload_n d_M_findPlaces_136 rfl
theorem g_M_findPlaces_137 : jSnd 39 137 (o_getI 140 14 (13)) := snd_getI (ci := 4) (k := 13) d_M_findPlaces_137 rfl tm_in4 (by decide) wd_316 rfl
theorem g_M_findPlaces_140 : jSnd 39 140 (o_ic_ge 143 161) := snd_ic_ge d_M_findPlaces_140 (by decide)
theorem g_M_findPlaces_143 : jSnd 39 143 (o_aload 144 0) := snd_aload_n d_M_findPlaces_143 rfl
theorem g_M_findPlaces_144 : jSnd 39 144 (o_getR 147 14 (15)) := snd_getR (ci := 4) (k := 15) d_M_findPlaces_144 rfl tm_in4 (by decide) wd_295 rfl
theorem g_M_findPlaces_147 : jSnd 39 147 (o_aload 148 0) := snd_aload_n d_M_findPlaces_147 rfl
theorem g_M_findPlaces_148 : jSnd 39 148 (o_getR 151 14 (14)) := snd_getR (ci := 4) (k := 14) d_M_findPlaces_148 rfl tm_in4 (by decide) wd_294 rfl
theorem g_M_findPlaces_151 : jSnd 39 151 (o_iload 152 2) := snd_iload_n d_M_findPlaces_151 rfl
theorem g_M_findPlaces_152 : jSnd 39 152 (o_nald 153 1) := snd_iald d_M_findPlaces_152
theorem g_M_findPlaces_153 : jSnd 39 153 (o_iload 154 2) := snd_iload_n d_M_findPlaces_153 rfl
theorem g_M_findPlaces_154 : jSnd 39 154 (o_iast 155) := snd_iast d_M_findPlaces_154
theorem g_M_findPlaces_155 : jSnd 39 155 (o_iinc 158 2 (1)) := snd_iinc d_M_findPlaces_155 (by decide)
theorem g_M_findPlaces_158 : jSnd 39 158 (o_goto 135) := snd_goto d_M_findPlaces_158 (by decide)
theorem g_M_findPlaces_161 : jSnd 39 161 (o_vret) := snd_vret d_M_findPlaces_161 rfl
set_option maxRecDepth 100000 in
theorem ga_M_findPlaces : jAll 39 0 tmp_M_findPlaces := ⟨g_M_findPlaces_0, g_M_findPlaces_1, g_M_findPlaces_2, g_M_findPlaces_3, snd_bad _ _, snd_bad _ _, g_M_findPlaces_6, g_M_findPlaces_7, g_M_findPlaces_8, snd_bad _ _, snd_bad _ _, g_M_findPlaces_11, g_M_findPlaces_12, g_M_findPlaces_13, g_M_findPlaces_14, g_M_findPlaces_15, snd_bad _ _, snd_bad _ _, g_M_findPlaces_18, snd_bad _ _, snd_bad _ _, g_M_findPlaces_21, g_M_findPlaces_22, snd_bad _ _, snd_bad _ _, g_M_findPlaces_25, g_M_findPlaces_26, g_M_findPlaces_27, g_M_findPlaces_28, g_M_findPlaces_29, snd_bad _ _, g_M_findPlaces_31, g_M_findPlaces_32, snd_bad _ _, snd_bad _ _, g_M_findPlaces_35, g_M_findPlaces_36, g_M_findPlaces_37, snd_bad _ _, snd_bad _ _, g_M_findPlaces_40, g_M_findPlaces_41, snd_bad _ _, snd_bad _ _, g_M_findPlaces_44, snd_bad _ _, g_M_findPlaces_46, g_M_findPlaces_47, g_M_findPlaces_48, snd_bad _ _, snd_bad _ _, g_M_findPlaces_51, g_M_findPlaces_52, g_M_findPlaces_53, snd_bad _ _, snd_bad _ _, g_M_findPlaces_56, snd_bad _ _, snd_bad _ _, g_M_findPlaces_59, snd_bad _ _, snd_bad _ _, g_M_findPlaces_62, g_M_findPlaces_63, snd_bad _ _, snd_bad _ _, g_M_findPlaces_66, g_M_findPlaces_67, g_M_findPlaces_68, snd_bad _ _, snd_bad _ _, g_M_findPlaces_71, snd_bad _ _, snd_bad _ _, g_M_findPlaces_74, g_M_findPlaces_75, snd_bad _ _, snd_bad _ _, g_M_findPlaces_78, snd_bad _ _, g_M_findPlaces_80, snd_bad _ _, g_M_findPlaces_82, snd_bad _ _, g_M_findPlaces_84, snd_bad _ _, snd_bad _ _, g_M_findPlaces_87, g_M_findPlaces_88, snd_bad _ _, snd_bad _ _, g_M_findPlaces_91, snd_bad _ _, g_M_findPlaces_93, g_M_findPlaces_94, snd_bad _ _, snd_bad _ _, g_M_findPlaces_97, snd_bad _ _, g_M_findPlaces_99, g_M_findPlaces_100, g_M_findPlaces_101, g_M_findPlaces_102, g_M_findPlaces_103, snd_bad _ _, snd_bad _ _, g_M_findPlaces_106, snd_bad _ _, snd_bad _ _, g_M_findPlaces_109, g_M_findPlaces_110, snd_bad _ _, snd_bad _ _, g_M_findPlaces_113, snd_bad _ _, g_M_findPlaces_115, g_M_findPlaces_116, g_M_findPlaces_117, g_M_findPlaces_118, g_M_findPlaces_119, snd_bad _ _, snd_bad _ _, g_M_findPlaces_122, g_M_findPlaces_123, g_M_findPlaces_124, snd_bad _ _, snd_bad _ _, g_M_findPlaces_127, snd_bad _ _, snd_bad _ _, g_M_findPlaces_130, snd_bad _ _, snd_bad _ _, g_M_findPlaces_133, g_M_findPlaces_134, g_M_findPlaces_135, g_M_findPlaces_136, g_M_findPlaces_137, snd_bad _ _, snd_bad _ _, g_M_findPlaces_140, snd_bad _ _, snd_bad _ _, g_M_findPlaces_143, g_M_findPlaces_144, snd_bad _ _, snd_bad _ _, g_M_findPlaces_147, g_M_findPlaces_148, snd_bad _ _, snd_bad _ _, g_M_findPlaces_151, g_M_findPlaces_152, g_M_findPlaces_153, g_M_findPlaces_154, g_M_findPlaces_155, snd_bad _ _, snd_bad _ _, g_M_findPlaces_158, snd_bad _ _, snd_bad _ _, g_M_findPlaces_161, trivial⟩
theorem d_M_isDeleted_0 : decode (tm_c 40) 0 = .ok (.iconst (1), 1) := by decide +kernel
theorem d_M_isDeleted_1 : decode (tm_c 40) 1 = .ok (.istore_n 2, 1) := by decide +kernel
theorem d_M_isDeleted_2 : decode (tm_c 40) 2 = .ok (.iload_n 2, 1) := by decide +kernel
theorem d_M_isDeleted_3 : decode (tm_c 40) 3 = .ok (.aload_n 0, 1) := by decide +kernel
theorem d_M_isDeleted_4 : decode (tm_c 40) 4 = .ok (.getfield 81, 3) := by decide +kernel
theorem d_M_isDeleted_7 : decode (tm_c 40) 7 = .ok (.if_icmp .gt (40), 3) := by decide +kernel
theorem d_M_isDeleted_10 : decode (tm_c 40) 10 = .ok (.aload_n 0, 1) := by decide +kernel
theorem d_M_isDeleted_11 : decode (tm_c 40) 11 = .ok (.getfield 7, 3) := by decide +kernel
theorem d_M_isDeleted_14 : decode (tm_c 40) 14 = .ok (.iload_n 2, 1) := by decide +kernel
theorem d_M_isDeleted_15 : decode (tm_c 40) 15 = .ok (.iaload, 1) := by decide +kernel
theorem d_M_isDeleted_16 : decode (tm_c 40) 16 = .ok (.iconst (1), 1) := by decide +kernel
theorem d_M_isDeleted_17 : decode (tm_c 40) 17 = .ok (.if_icmp .ne (24), 3) := by decide +kernel
theorem d_M_isDeleted_20 : decode (tm_c 40) 20 = .ok (.aload_n 0, 1) := by decide +kernel
theorem d_M_isDeleted_21 : decode (tm_c 40) 21 = .ok (.getfield 25, 3) := by decide +kernel
theorem d_M_isDeleted_24 : decode (tm_c 40) 24 = .ok (.iload_n 2, 1) := by decide +kernel
theorem d_M_isDeleted_25 : decode (tm_c 40) 25 = .ok (.iaload, 1) := by decide +kernel
theorem d_M_isDeleted_26 : decode (tm_c 40) 26 = .ok (.iload_n 1, 1) := by decide +kernel
theorem d_M_isDeleted_27 : decode (tm_c 40) 27 = .ok (.if_icmp .ne (14), 3) := by decide +kernel
theorem d_M_isDeleted_30 : decode (tm_c 40) 30 = .ok (.aload_n 0, 1) := by decide +kernel
theorem d_M_isDeleted_31 : decode (tm_c 40) 31 = .ok (.getfield 42, 3) := by decide +kernel
theorem d_M_isDeleted_34 : decode (tm_c 40) 34 = .ok (.iload_n 2, 1) := by decide +kernel
theorem d_M_isDeleted_35 : decode (tm_c 40) 35 = .ok (.baload, 1) := by decide +kernel
theorem d_M_isDeleted_36 : decode (tm_c 40) 36 = .ok (.ifCond .eq (5), 3) := by decide +kernel
theorem d_M_isDeleted_39 : decode (tm_c 40) 39 = .ok (.iconst (1), 1) := by decide +kernel
theorem d_M_isDeleted_40 : decode (tm_c 40) 40 = .ok (.ireturn, 1) := by decide +kernel
theorem d_M_isDeleted_41 : decode (tm_c 40) 41 = .ok (.iinc 2 (1), 3) := by decide +kernel
theorem d_M_isDeleted_44 : decode (tm_c 40) 44 = .ok (.goto (-42), 3) := by decide +kernel
theorem d_M_isDeleted_47 : decode (tm_c 40) 47 = .ok (.iconst (0), 1) := by decide +kernel
theorem d_M_isDeleted_48 : decode (tm_c 40) 48 = .ok (.ireturn, 1) := by decide +kernel
theorem g_M_isDeleted_0 : jSnd 40 0 (o_push 1 (1)) := snd_iconst (n := 1) (z := 1) d_M_isDeleted_0 (by decide) (by unfold jrg; omega)
theorem g_M_isDeleted_1 : jSnd 40 1 (o_istore 2 2) := snd_istore_n d_M_isDeleted_1 rfl (by decide)
theorem g_M_isDeleted_2 : jSnd 40 2 (o_iload 3 2) := snd_iload_n d_M_isDeleted_2 rfl
theorem g_M_isDeleted_3 : jSnd 40 3 (o_aload 4 0) := snd_aload_n d_M_isDeleted_3 rfl
theorem g_M_isDeleted_4 : jSnd 40 4 (o_getI 7 14 (1)) := snd_getI (ci := 4) (k := 1) d_M_isDeleted_4 rfl tm_in4 (by decide) wd_305 rfl
theorem g_M_isDeleted_7 : jSnd 40 7 (o_ic_gt 10 47) := snd_ic_gt d_M_isDeleted_7 (by decide)
theorem g_M_isDeleted_10 : jSnd 40 10 (o_aload 11 0) := snd_aload_n d_M_isDeleted_10 rfl
theorem g_M_isDeleted_11 : jSnd 40 11 (o_getR 14 14 (2)) := snd_getR (ci := 4) (k := 2) d_M_isDeleted_11 rfl tm_in4 (by decide) wd_282 rfl
theorem g_M_isDeleted_14 : jSnd 40 14 (o_iload 15 2) := snd_iload_n d_M_isDeleted_14 rfl
theorem g_M_isDeleted_15 : jSnd 40 15 (o_nald 16 1) := snd_iald d_M_isDeleted_15
theorem g_M_isDeleted_16 : jSnd 40 16 (o_push 17 (1)) := snd_iconst (n := 1) (z := 1) d_M_isDeleted_16 (by decide) (by unfold jrg; omega)
theorem g_M_isDeleted_17 : jSnd 40 17 (o_ic_ne 20 41) := snd_ic_ne d_M_isDeleted_17 (by decide)
theorem g_M_isDeleted_20 : jSnd 40 20 (o_aload 21 0) := snd_aload_n d_M_isDeleted_20 rfl
theorem g_M_isDeleted_21 : jSnd 40 21 (o_getR 24 14 (7)) := snd_getR (ci := 4) (k := 7) d_M_isDeleted_21 rfl tm_in4 (by decide) wd_287 rfl
theorem g_M_isDeleted_24 : jSnd 40 24 (o_iload 25 2) := snd_iload_n d_M_isDeleted_24 rfl
theorem g_M_isDeleted_25 : jSnd 40 25 (o_nald 26 1) := snd_iald d_M_isDeleted_25
theorem g_M_isDeleted_26 : jSnd 40 26 (o_iload 27 1) := snd_iload_n d_M_isDeleted_26 rfl
theorem g_M_isDeleted_27 : jSnd 40 27 (o_ic_ne 30 41) := snd_ic_ne d_M_isDeleted_27 (by decide)
theorem g_M_isDeleted_30 : jSnd 40 30 (o_aload 31 0) := snd_aload_n d_M_isDeleted_30 rfl
theorem g_M_isDeleted_31 : jSnd 40 31 (o_getR 34 14 (12)) := snd_getR (ci := 4) (k := 12) d_M_isDeleted_31 rfl tm_in4 (by decide) wd_293 rfl
theorem g_M_isDeleted_34 : jSnd 40 34 (o_iload 35 2) := snd_iload_n d_M_isDeleted_34 rfl
theorem g_M_isDeleted_35 : jSnd 40 35 (o_nald 36 2) := snd_zald d_M_isDeleted_35
theorem g_M_isDeleted_36 : jSnd 40 36 (o_if_eq 39 41) := snd_if_eq d_M_isDeleted_36 (by decide)
theorem g_M_isDeleted_39 : jSnd 40 39 (o_push 40 (1)) := snd_iconst (n := 1) (z := 1) d_M_isDeleted_39 (by decide) (by unfold jrg; omega)
theorem g_M_isDeleted_40 : jSnd 40 40 (o_zret) := snd_zret d_M_isDeleted_40 rfl
theorem g_M_isDeleted_41 : jSnd 40 41 (o_iinc 44 2 (1)) := snd_iinc d_M_isDeleted_41 (by decide)
theorem g_M_isDeleted_44 : jSnd 40 44 (o_goto 2) := snd_goto d_M_isDeleted_44 (by decide)
theorem g_M_isDeleted_47 : jSnd 40 47 (o_push 48 (0)) := snd_iconst (n := 0) (z := 0) d_M_isDeleted_47 (by decide) (by unfold jrg; omega)
theorem g_M_isDeleted_48 : jSnd 40 48 (o_zret) := snd_zret d_M_isDeleted_48 rfl
set_option maxRecDepth 100000 in
theorem ga_M_isDeleted : jAll 40 0 tmp_M_isDeleted := ⟨g_M_isDeleted_0, g_M_isDeleted_1, g_M_isDeleted_2, g_M_isDeleted_3, g_M_isDeleted_4, snd_bad _ _, snd_bad _ _, g_M_isDeleted_7, snd_bad _ _, snd_bad _ _, g_M_isDeleted_10, g_M_isDeleted_11, snd_bad _ _, snd_bad _ _, g_M_isDeleted_14, g_M_isDeleted_15, g_M_isDeleted_16, g_M_isDeleted_17, snd_bad _ _, snd_bad _ _, g_M_isDeleted_20, g_M_isDeleted_21, snd_bad _ _, snd_bad _ _, g_M_isDeleted_24, g_M_isDeleted_25, g_M_isDeleted_26, g_M_isDeleted_27, snd_bad _ _, snd_bad _ _, g_M_isDeleted_30, g_M_isDeleted_31, snd_bad _ _, snd_bad _ _, g_M_isDeleted_34, g_M_isDeleted_35, g_M_isDeleted_36, snd_bad _ _, snd_bad _ _, g_M_isDeleted_39, g_M_isDeleted_40, g_M_isDeleted_41, snd_bad _ _, snd_bad _ _, g_M_isDeleted_44, snd_bad _ _, snd_bad _ _, g_M_isDeleted_47, g_M_isDeleted_48, trivial⟩
theorem d_M_covers_0 : decode (tm_c 41) 0 = .ok (.aload_n 0, 1) := by decide +kernel
theorem d_M_covers_1 : decode (tm_c 41) 1 = .ok (.getfield 48, 3) := by decide +kernel
theorem d_M_covers_4 : decode (tm_c 41) 4 = .ok (.aload_n 0, 1) := by decide +kernel
theorem d_M_covers_5 : decode (tm_c 41) 5 = .ok (.getfield 25, 3) := by decide +kernel
theorem d_M_covers_8 : decode (tm_c 41) 8 = .ok (.iload_n 1, 1) := by decide +kernel
theorem d_M_covers_9 : decode (tm_c 41) 9 = .ok (.iaload, 1) := by decide +kernel
theorem d_M_covers_10 : decode (tm_c 41) 10 = .ok (.iaload, 1) := by decide +kernel
theorem d_M_covers_11 : decode (tm_c 41) 11 = .ok (.istore_n 3, 1) := by decide +kernel
theorem d_M_covers_12 : decode (tm_c 41) 12 = .ok (.aload_n 0, 1) := by decide +kernel
theorem d_M_covers_13 : decode (tm_c 41) 13 = .ok (.getfield 19, 3) := by decide +kernel
theorem d_M_covers_16 : decode (tm_c 41) 16 = .ok (.iload_n 1, 1) := by decide +kernel
theorem d_M_covers_17 : decode (tm_c 41) 17 = .ok (.iaload, 1) := by decide +kernel
theorem d_M_covers_18 : decode (tm_c 41) 18 = .ok (.iconst (2), 1) := by decide +kernel
theorem d_M_covers_19 : decode (tm_c 41) 19 = .ok (.if_icmp .ge (7), 3) := by decide +kernel
theorem d_M_covers_22 : decode (tm_c 41) 22 = .ok (.iconst (1), 1) := by decide +kernel
theorem d_M_covers_23 : decode (tm_c 41) 23 = .ok (.goto (4), 3) := by decide +kernel
theorem d_M_covers_26 : decode (tm_c 41) 26 = .ok (.iconst (0), 1) := by decide +kernel
theorem d_M_covers_27 : decode (tm_c 41) 27 = .ok (.istore 4, 2) := by decide +kernel
theorem d_M_covers_29 : decode (tm_c 41) 29 = .ok (.aload_n 0, 1) := by decide +kernel
theorem d_M_covers_30 : decode (tm_c 41) 30 = .ok (.getfield 28, 3) := by decide +kernel
theorem d_M_covers_33 : decode (tm_c 41) 33 = .ok (.iload_n 1, 1) := by decide +kernel
theorem d_M_covers_34 : decode (tm_c 41) 34 = .ok (.iaload, 1) := by decide +kernel
theorem d_M_covers_35 : decode (tm_c 41) 35 = .ok (.ifCond .ne (10), 3) := by decide +kernel
theorem d_M_covers_38 : decode (tm_c 41) 38 = .ok (.aload_n 0, 1) := by decide +kernel
theorem d_M_covers_39 : decode (tm_c 41) 39 = .ok (.getfield 98, 3) := by decide +kernel
theorem d_M_covers_42 : decode (tm_c 41) 42 = .ok (.goto (14), 3) := by decide +kernel
theorem d_M_covers_45 : decode (tm_c 41) 45 = .ok (.aload_n 0, 1) := by decide +kernel
theorem d_M_covers_46 : decode (tm_c 41) 46 = .ok (.getfield 48, 3) := by decide +kernel
theorem d_M_covers_49 : decode (tm_c 41) 49 = .ok (.aload_n 0, 1) := by decide +kernel
theorem d_M_covers_50 : decode (tm_c 41) 50 = .ok (.getfield 28, 3) := by decide +kernel
theorem d_M_covers_53 : decode (tm_c 41) 53 = .ok (.iload_n 1, 1) := by decide +kernel
theorem d_M_covers_54 : decode (tm_c 41) 54 = .ok (.iaload, 1) := by decide +kernel
theorem d_M_covers_55 : decode (tm_c 41) 55 = .ok (.iaload, 1) := by decide +kernel
theorem d_M_covers_56 : decode (tm_c 41) 56 = .ok (.istore 5, 2) := by decide +kernel
theorem d_M_covers_58 : decode (tm_c 41) 58 = .ok (.iload_n 2, 1) := by decide +kernel
theorem d_M_covers_59 : decode (tm_c 41) 59 = .ok (.iload_n 3, 1) := by decide +kernel
theorem d_M_covers_60 : decode (tm_c 41) 60 = .ok (.if_icmp .lt (27), 3) := by decide +kernel
theorem d_M_covers_63 : decode (tm_c 41) 63 = .ok (.iload 4, 2) := by decide +kernel
theorem d_M_covers_65 : decode (tm_c 41) 65 = .ok (.ifCond .eq (12), 3) := by decide +kernel
theorem d_M_covers_68 : decode (tm_c 41) 68 = .ok (.iload_n 2, 1) := by decide +kernel
theorem d_M_covers_69 : decode (tm_c 41) 69 = .ok (.iload 5, 2) := by decide +kernel
theorem d_M_covers_71 : decode (tm_c 41) 71 = .ok (.if_icmp .ge (16), 3) := by decide +kernel
theorem d_M_covers_74 : decode (tm_c 41) 74 = .ok (.goto (9), 3) := by decide +kernel
theorem d_M_covers_77 : decode (tm_c 41) 77 = .ok (.iload_n 2, 1) := by decide +kernel
theorem d_M_covers_78 : decode (tm_c 41) 78 = .ok (.iload 5, 2) := by decide +kernel
theorem d_M_covers_80 : decode (tm_c 41) 80 = .ok (.if_icmp .gt (7), 3) := by decide +kernel
theorem d_M_covers_83 : decode (tm_c 41) 83 = .ok (.iconst (1), 1) := by decide +kernel
theorem d_M_covers_84 : decode (tm_c 41) 84 = .ok (.goto (4), 3) := by decide +kernel
theorem d_M_covers_87 : decode (tm_c 41) 87 = .ok (.iconst (0), 1) := by decide +kernel
theorem d_M_covers_88 : decode (tm_c 41) 88 = .ok (.ireturn, 1) := by decide +kernel
theorem g_M_covers_0 : jSnd 41 0 (o_aload 1 0) := snd_aload_n d_M_covers_0 rfl
theorem g_M_covers_1 : jSnd 41 1 (o_getR 4 14 (15)) := snd_getR (ci := 4) (k := 15) d_M_covers_1 rfl tm_in4 (by decide) wd_295 rfl
theorem g_M_covers_4 : jSnd 41 4 (o_aload 5 0) := snd_aload_n d_M_covers_4 rfl
theorem g_M_covers_5 : jSnd 41 5 (o_getR 8 14 (7)) := snd_getR (ci := 4) (k := 7) d_M_covers_5 rfl tm_in4 (by decide) wd_287 rfl
theorem g_M_covers_8 : jSnd 41 8 (o_iload 9 1) := snd_iload_n d_M_covers_8 rfl
theorem g_M_covers_9 : jSnd 41 9 (o_nald 10 1) := snd_iald d_M_covers_9
theorem g_M_covers_10 : jSnd 41 10 (o_nald 11 1) := snd_iald d_M_covers_10
theorem g_M_covers_11 : jSnd 41 11 (o_istore 12 3) := snd_istore_n d_M_covers_11 rfl (by decide)
theorem g_M_covers_12 : jSnd 41 12 (o_aload 13 0) := snd_aload_n d_M_covers_12 rfl
theorem g_M_covers_13 : jSnd 41 13 (o_getR 16 14 (5)) := snd_getR (ci := 4) (k := 5) d_M_covers_13 rfl tm_in4 (by decide) wd_285 rfl
theorem g_M_covers_16 : jSnd 41 16 (o_iload 17 1) := snd_iload_n d_M_covers_16 rfl
theorem g_M_covers_17 : jSnd 41 17 (o_nald 18 1) := snd_iald d_M_covers_17
theorem g_M_covers_18 : jSnd 41 18 (o_push 19 (2)) := snd_iconst (n := 2) (z := 2) d_M_covers_18 (by decide) (by unfold jrg; omega)
theorem g_M_covers_19 : jSnd 41 19 (o_ic_ge 22 26) := snd_ic_ge d_M_covers_19 (by decide)
theorem g_M_covers_22 : jSnd 41 22 (o_push 23 (1)) := snd_iconst (n := 1) (z := 1) d_M_covers_22 (by decide) (by unfold jrg; omega)
theorem g_M_covers_23 : jSnd 41 23 (o_goto 27) := snd_goto d_M_covers_23 (by decide)
theorem g_M_covers_26 : jSnd 41 26 (o_push 27 (0)) := snd_iconst (n := 0) (z := 0) d_M_covers_26 (by decide) (by unfold jrg; omega)
theorem g_M_covers_27 : jSnd 41 27 (o_istore 29 4) := snd_istore d_M_covers_27 (by decide)
theorem g_M_covers_29 : jSnd 41 29 (o_aload 30 0) := snd_aload_n d_M_covers_29 rfl
theorem g_M_covers_30 : jSnd 41 30 (o_getR 33 14 (8)) := snd_getR (ci := 4) (k := 8) d_M_covers_30 rfl tm_in4 (by decide) wd_288 rfl
theorem g_M_covers_33 : jSnd 41 33 (o_iload 34 1) := snd_iload_n d_M_covers_33 rfl
theorem g_M_covers_34 : jSnd 41 34 (o_nald 35 1) := snd_iald d_M_covers_34
theorem g_M_covers_35 : jSnd 41 35 (o_if_ne 38 45) := snd_if_ne d_M_covers_35 (by decide)
theorem g_M_covers_38 : jSnd 41 38 (o_aload 39 0) := snd_aload_n d_M_covers_38 rfl
theorem g_M_covers_39 : jSnd 41 39 (o_getI 42 14 (13)) := snd_getI (ci := 4) (k := 13) d_M_covers_39 rfl tm_in4 (by decide) wd_316 rfl
theorem g_M_covers_42 : jSnd 41 42 (o_goto 56) := snd_goto d_M_covers_42 (by decide)
theorem g_M_covers_45 : jSnd 41 45 (o_aload 46 0) := snd_aload_n d_M_covers_45 rfl
theorem g_M_covers_46 : jSnd 41 46 (o_getR 49 14 (15)) := snd_getR (ci := 4) (k := 15) d_M_covers_46 rfl tm_in4 (by decide) wd_295 rfl
theorem g_M_covers_49 : jSnd 41 49 (o_aload 50 0) := snd_aload_n d_M_covers_49 rfl
theorem g_M_covers_50 : jSnd 41 50 (o_getR 53 14 (8)) := snd_getR (ci := 4) (k := 8) d_M_covers_50 rfl tm_in4 (by decide) wd_288 rfl
theorem g_M_covers_53 : jSnd 41 53 (o_iload 54 1) := snd_iload_n d_M_covers_53 rfl
theorem g_M_covers_54 : jSnd 41 54 (o_nald 55 1) := snd_iald d_M_covers_54
theorem g_M_covers_55 : jSnd 41 55 (o_nald 56 1) := snd_iald d_M_covers_55
theorem g_M_covers_56 : jSnd 41 56 (o_istore 58 5) := snd_istore d_M_covers_56 (by decide)
theorem g_M_covers_58 : jSnd 41 58 (o_iload 59 2) := snd_iload_n d_M_covers_58 rfl
theorem g_M_covers_59 : jSnd 41 59 (o_iload 60 3) := snd_iload_n d_M_covers_59 rfl
theorem g_M_covers_60 : jSnd 41 60 (o_ic_lt 63 87) := snd_ic_lt d_M_covers_60 (by decide)
theorem g_M_covers_63 : jSnd 41 63 (o_iload 65 4) := snd_iload d_M_covers_63
theorem g_M_covers_65 : jSnd 41 65 (o_if_eq 68 77) := snd_if_eq d_M_covers_65 (by decide)
theorem g_M_covers_68 : jSnd 41 68 (o_iload 69 2) := snd_iload_n d_M_covers_68 rfl
theorem g_M_covers_69 : jSnd 41 69 (o_iload 71 5) := snd_iload d_M_covers_69
theorem g_M_covers_71 : jSnd 41 71 (o_ic_ge 74 87) := snd_ic_ge d_M_covers_71 (by decide)
theorem g_M_covers_74 : jSnd 41 74 (o_goto 83) := snd_goto d_M_covers_74 (by decide)
theorem g_M_covers_77 : jSnd 41 77 (o_iload 78 2) := snd_iload_n d_M_covers_77 rfl
theorem g_M_covers_78 : jSnd 41 78 (o_iload 80 5) := snd_iload d_M_covers_78
theorem g_M_covers_80 : jSnd 41 80 (o_ic_gt 83 87) := snd_ic_gt d_M_covers_80 (by decide)
theorem g_M_covers_83 : jSnd 41 83 (o_push 84 (1)) := snd_iconst (n := 1) (z := 1) d_M_covers_83 (by decide) (by unfold jrg; omega)
theorem g_M_covers_84 : jSnd 41 84 (o_goto 88) := snd_goto d_M_covers_84 (by decide)
theorem g_M_covers_87 : jSnd 41 87 (o_push 88 (0)) := snd_iconst (n := 0) (z := 0) d_M_covers_87 (by decide) (by unfold jrg; omega)
theorem g_M_covers_88 : jSnd 41 88 (o_zret) := snd_zret d_M_covers_88 rfl
set_option maxRecDepth 100000 in
theorem ga_M_covers : jAll 41 0 tmp_M_covers := ⟨g_M_covers_0, g_M_covers_1, snd_bad _ _, snd_bad _ _, g_M_covers_4, g_M_covers_5, snd_bad _ _, snd_bad _ _, g_M_covers_8, g_M_covers_9, g_M_covers_10, g_M_covers_11, g_M_covers_12, g_M_covers_13, snd_bad _ _, snd_bad _ _, g_M_covers_16, g_M_covers_17, g_M_covers_18, g_M_covers_19, snd_bad _ _, snd_bad _ _, g_M_covers_22, g_M_covers_23, snd_bad _ _, snd_bad _ _, g_M_covers_26, g_M_covers_27, snd_bad _ _, g_M_covers_29, g_M_covers_30, snd_bad _ _, snd_bad _ _, g_M_covers_33, g_M_covers_34, g_M_covers_35, snd_bad _ _, snd_bad _ _, g_M_covers_38, g_M_covers_39, snd_bad _ _, snd_bad _ _, g_M_covers_42, snd_bad _ _, snd_bad _ _, g_M_covers_45, g_M_covers_46, snd_bad _ _, snd_bad _ _, g_M_covers_49, g_M_covers_50, snd_bad _ _, snd_bad _ _, g_M_covers_53, g_M_covers_54, g_M_covers_55, g_M_covers_56, snd_bad _ _, g_M_covers_58, g_M_covers_59, g_M_covers_60, snd_bad _ _, snd_bad _ _, g_M_covers_63, snd_bad _ _, g_M_covers_65, snd_bad _ _, snd_bad _ _, g_M_covers_68, g_M_covers_69, snd_bad _ _, g_M_covers_71, snd_bad _ _, snd_bad _ _, g_M_covers_74, snd_bad _ _, snd_bad _ _, g_M_covers_77, g_M_covers_78, snd_bad _ _, g_M_covers_80, snd_bad _ _, snd_bad _ _, g_M_covers_83, g_M_covers_84, snd_bad _ _, snd_bad _ _, g_M_covers_87, g_M_covers_88, trivial⟩
theorem d_M_findStyles_0 : decode (tm_c 42) 0 = .ok (.iconst (0), 1) := by decide +kernel
theorem d_M_findStyles_1 : decode (tm_c 42) 1 = .ok (.istore_n 2, 1) := by decide +kernel
theorem d_M_findStyles_2 : decode (tm_c 42) 2 = .ok (.iload_n 2, 1) := by decide +kernel
theorem d_M_findStyles_3 : decode (tm_c 42) 3 = .ok (.iconst (4), 1) := by decide +kernel
theorem d_M_findStyles_4 : decode (tm_c 42) 4 = .ok (.aload_n 0, 1) := by decide +kernel
theorem d_M_findStyles_5 : decode (tm_c 42) 5 = .ok (.getfield 101, 3) := by decide +kernel
theorem d_M_findStyles_8 : decode (tm_c 42) 8 = .ok (.imul, 1) := by decide +kernel
theorem d_M_findStyles_9 : decode (tm_c 42) 9 = .ok (.if_icmp .ge (16), 3) := by decide +kernel
theorem d_M_findStyles_12 : decode (tm_c 42) 12 = .ok (.aload_n 0, 1) := by decide +kernel
theorem d_M_findStyles_13 : decode (tm_c 42) 13 = .ok (.getfield 57, 3) := by decide +kernel
theorem d_M_findStyles_16 : decode (tm_c 42) 16 = .ok (.iload_n 2, 1) := by decide +kernel
theorem d_M_findStyles_17 : decode (tm_c 42) 17 = .ok (.iconst (0), 1) := by decide +kernel
theorem d_M_findStyles_18 : decode (tm_c 42) 18 = .ok (.iastore, 1) := by decide +kernel
theorem d_M_findStyles_19 : decode (tm_c 42) 19 = .ok (.iinc 2 (1), 3) := by decide +kernel
theorem d_M_findStyles_22 : decode (tm_c 42) 22 = .ok (.goto (-20), 3) := by decide +kernel
theorem d_M_findStyles_25 : decode (tm_c 42) 25 = .ok (.aload_n 0, 1) := by decide +kernel
theorem d_M_findStyles_26 : decode (tm_c 42) 26 = .ok (.iload_n 1, 1) := by decide +kernel
theorem d_M_findStyles_27 : decode (tm_c 42) 27 = .ok (.iconst (2), 1) := by decide +kernel
theorem d_M_findStyles_28 : decode (tm_c 42) 28 = .ok (.invokevirtual 94, 3) := by decide +kernel
theorem d_M_findStyles_31 : decode (tm_c 42) 31 = .ok (.iconst (0), 1) := by decide +kernel
theorem d_M_findStyles_32 : decode (tm_c 42) 32 = .ok (.istore_n 2, 1) := by decide +kernel
theorem d_M_findStyles_33 : decode (tm_c 42) 33 = .ok (.iload_n 2, 1) := by decide +kernel
theorem d_M_findStyles_34 : decode (tm_c 42) 34 = .ok (.aload_n 0, 1) := by decide +kernel
theorem d_M_findStyles_35 : decode (tm_c 42) 35 = .ok (.getfield 88, 3) := by decide +kernel
theorem d_M_findStyles_38 : decode (tm_c 42) 38 = .ok (.if_icmp .ge (85), 3) := by decide +kernel
theorem d_M_findStyles_41 : decode (tm_c 42) 41 = .ok (.aload_n 0, 1) := by decide +kernel
theorem d_M_findStyles_42 : decode (tm_c 42) 42 = .ok (.getfield 60, 3) := by decide +kernel
theorem d_M_findStyles_45 : decode (tm_c 42) 45 = .ok (.iload_n 2, 1) := by decide +kernel
theorem d_M_findStyles_46 : decode (tm_c 42) 46 = .ok (.iaload, 1) := by decide +kernel
theorem d_M_findStyles_47 : decode (tm_c 42) 47 = .ok (.istore_n 3, 1) := by decide +kernel
theorem d_M_findStyles_48 : decode (tm_c 42) 48 = .ok (.iconst (0), 1) := by decide +kernel
theorem d_M_findStyles_49 : decode (tm_c 42) 49 = .ok (.istore 4, 2) := by decide +kernel
theorem d_M_findStyles_51 : decode (tm_c 42) 51 = .ok (.iload 4, 2) := by decide +kernel
theorem d_M_findStyles_53 : decode (tm_c 42) 53 = .ok (.aload_n 0, 1) := by decide +kernel
theorem d_M_findStyles_54 : decode (tm_c 42) 54 = .ok (.getfield 101, 3) := by decide +kernel
theorem d_M_findStyles_57 : decode (tm_c 42) 57 = .ok (.if_icmp .ge (60), 3) := by decide +kernel
theorem d_M_findStyles_60 : decode (tm_c 42) 60 = .ok (.aload_n 0, 1) := by decide +kernel
theorem d_M_findStyles_61 : decode (tm_c 42) 61 = .ok (.getfield 42, 3) := by decide +kernel
theorem d_M_findStyles_64 : decode (tm_c 42) 64 = .ok (.iload_n 3, 1) := by decide +kernel
theorem d_M_findStyles_65 : decode (tm_c 42) 65 = .ok (.baload, 1) := by decide +kernel
theorem d_M_findStyles_66 : decode (tm_c 42) 66 = .ok (.ifCond .eq (51), 3) := by decide +kernel
theorem d_M_findStyles_69 : decode (tm_c 42) 69 = .ok (.aload_n 0, 1) := by decide +kernel
theorem d_M_findStyles_70 : decode (tm_c 42) 70 = .ok (.iload_n 3, 1) := by decide +kernel
theorem d_M_findStyles_71 : decode (tm_c 42) 71 = .ok (.aload_n 0, 1) := by decide +kernel
theorem d_M_findStyles_72 : decode (tm_c 42) 72 = .ok (.getfield 48, 3) := by decide +kernel
theorem d_M_findStyles_75 : decode (tm_c 42) 75 = .ok (.aload_n 0, 1) := by decide +kernel
theorem d_M_findStyles_76 : decode (tm_c 42) 76 = .ok (.getfield 54, 3) := by decide +kernel
theorem d_M_findStyles_79 : decode (tm_c 42) 79 = .ok (.iload 4, 2) := by decide +kernel
theorem d_M_findStyles_81 : decode (tm_c 42) 81 = .ok (.iaload, 1) := by decide +kernel
theorem d_M_findStyles_82 : decode (tm_c 42) 82 = .ok (.iaload, 1) := by decide +kernel
theorem d_M_findStyles_83 : decode (tm_c 42) 83 = .ok (.invokevirtual 104, 3) := by decide +kernel
theorem d_M_findStyles_86 : decode (tm_c 42) 86 = .ok (.ifCond .eq (25), 3) := by decide +kernel
theorem d_M_findStyles_89 : decode (tm_c 42) 89 = .ok (.aload_n 0, 1) := by decide +kernel
theorem d_M_findStyles_90 : decode (tm_c 42) 90 = .ok (.getfield 57, 3) := by decide +kernel
theorem d_M_findStyles_93 : decode (tm_c 42) 93 = .ok (.iconst (4), 1) := by decide +kernel
theorem d_M_findStyles_94 : decode (tm_c 42) 94 = .ok (.iload 4, 2) := by decide +kernel
theorem d_M_findStyles_96 : decode (tm_c 42) 96 = .ok (.imul, 1) := by decide +kernel
theorem d_M_findStyles_97 : decode (tm_c 42) 97 = .ok (.aload_n 0, 1) := by decide +kernel
theorem d_M_findStyles_98 : decode (tm_c 42) 98 = .ok (.getfield 19, 3) := by decide +kernel
theorem d_M_findStyles_101 : decode (tm_c 42) 101 = .ok (.iload_n 3, 1) := by decide +kernel
theorem d_M_findStyles_102 : decode (tm_c 42) 102 = .ok (.iaload, 1) := by decide +kernel
theorem d_M_findStyles_103 : decode (tm_c 42) 103 = .ok (.iadd, 1) := by decide +kernel
theorem d_M_findStyles_104 : decode (tm_c 42) 104 = .ok (.aload_n 0, 1) := by decide +kernel
theorem d_M_findStyles_105 : decode (tm_c 42) 105 = .ok (.getfield 22, 3) := by decide +kernel
theorem d_M_findStyles_108 : decode (tm_c 42) 108 = .ok (.iload_n 3, 1) := by decide +kernel
theorem d_M_findStyles_109 : decode (tm_c 42) 109 = .ok (.iaload, 1) := by decide +kernel
theorem d_M_findStyles_110 : decode (tm_c 42) 110 = .ok (.iastore, 1) := by decide +kernel
theorem d_M_findStyles_111 : decode (tm_c 42) 111 = .ok (.iinc 4 (1), 3) := by decide +kernel
theorem d_M_findStyles_114 : decode (tm_c 42) 114 = .ok (.goto (-63), 3) := by decide +kernel
theorem d_M_findStyles_117 : decode (tm_c 42) 117 = .ok (.iinc 2 (1), 3) := by decide +kernel
theorem d_M_findStyles_120 : decode (tm_c 42) 120 = .ok (.goto (-87), 3) := by decide +kernel
theorem d_M_findStyles_123 : decode (tm_c 42) 123 = .ok (.return_, 1) := by decide +kernel
theorem g_M_findStyles_0 : jSnd 42 0 (o_push 1 (0)) := snd_iconst (n := 0) (z := 0) d_M_findStyles_0 (by decide) (by unfold jrg; omega)
theorem g_M_findStyles_1 : jSnd 42 1 (o_istore 2 2) := snd_istore_n d_M_findStyles_1 rfl (by decide)
theorem g_M_findStyles_2 : jSnd 42 2 (o_iload 3 2) := snd_iload_n d_M_findStyles_2 rfl
theorem g_M_findStyles_3 : jSnd 42 3 (o_push 4 (4)) := snd_iconst (n := 4) (z := 4) d_M_findStyles_3 (by decide) (by unfold jrg; omega)
theorem g_M_findStyles_4 : jSnd 42 4 (o_aload 5 0) := snd_aload_n d_M_findStyles_4 rfl
theorem g_M_findStyles_5 : jSnd 42 5 (o_getI 8 14 (17)) := snd_getI (ci := 4) (k := 17) d_M_findStyles_5 rfl tm_in4 (by decide) wd_317 rfl
theorem g_M_findStyles_8 : jSnd 42 8 (o_bin 9 f_mul) := snd_imul d_M_findStyles_8
theorem g_M_findStyles_9 : jSnd 42 9 (o_ic_ge 12 25) := snd_ic_ge d_M_findStyles_9 (by decide)
theorem g_M_findStyles_12 : jSnd 42 12 (o_aload 13 0) := snd_aload_n d_M_findStyles_12 rfl
theorem g_M_findStyles_13 : jSnd 42 13 (o_getR 16 14 (19)) := snd_getR (ci := 4) (k := 19) d_M_findStyles_13 rfl tm_in4 (by decide) wd_298 rfl
theorem g_M_findStyles_16 : jSnd 42 16 (o_iload 17 2) := snd_iload_n d_M_findStyles_16 rfl
theorem g_M_findStyles_17 : jSnd 42 17 (o_push 18 (0)) := snd_iconst (n := 0) (z := 0) d_M_findStyles_17 (by decide) (by unfold jrg; omega)
theorem g_M_findStyles_18 : jSnd 42 18 (o_iast 19) := snd_iast d_M_findStyles_18
theorem g_M_findStyles_19 : jSnd 42 19 (o_iinc 22 2 (1)) := snd_iinc d_M_findStyles_19 (by decide)
theorem g_M_findStyles_22 : jSnd 42 22 (o_goto 2) := snd_goto d_M_findStyles_22 (by decide)
theorem g_M_findStyles_25 : jSnd 42 25 (o_aload 26 0) := snd_aload_n d_M_findStyles_25 rfl
theorem g_M_findStyles_26 : jSnd 42 26 (o_iload 27 1) := snd_iload_n d_M_findStyles_26 rfl
theorem g_M_findStyles_27 : jSnd 42 27 (o_push 28 (2)) := snd_iconst (n := 2) (z := 2) d_M_findStyles_27 (by decide) (by unfold jrg; omega)
theorem g_M_findStyles_28 : jSnd 42 28 (o_call 31 38 3 5 14 true) := snd_callV (ci := 4) (n := 2) rfl d_M_findStyles_28 (by decide) (by decide) (by decide) wc_38 wd_313 wd_314 wd_315 wd_7 (by decide +kernel) (by decide) (by decide)
theorem g_M_findStyles_31 : jSnd 42 31 (o_push 32 (0)) := snd_iconst (n := 0) (z := 0) d_M_findStyles_31 (by decide) (by unfold jrg; omega)
theorem g_M_findStyles_32 : jSnd 42 32 (o_istore 33 2) := snd_istore_n d_M_findStyles_32 rfl (by decide)
theorem g_M_findStyles_33 : jSnd 42 33 (o_iload 34 2) := snd_iload_n d_M_findStyles_33 rfl
theorem g_M_findStyles_34 : jSnd 42 34 (o_aload 35 0) := snd_aload_n d_M_findStyles_34 rfl
theorem g_M_findStyles_35 : jSnd 42 35 (o_getI 38 14 (20)) := snd_getI (ci := 4) (k := 20) d_M_findStyles_35 rfl tm_in4 (by decide) wd_309 rfl
theorem g_M_findStyles_38 : jSnd 42 38 (o_ic_ge 41 123) := snd_ic_ge d_M_findStyles_38 (by decide)
theorem g_M_findStyles_41 : jSnd 42 41 (o_aload 42 0) := snd_aload_n d_M_findStyles_41 rfl
theorem g_M_findStyles_42 : jSnd 42 42 (o_getR 45 14 (21)) := snd_getR (ci := 4) (k := 21) d_M_findStyles_42 rfl tm_in4 (by decide) wd_299 rfl
theorem g_M_findStyles_45 : jSnd 42 45 (o_iload 46 2) := snd_iload_n d_M_findStyles_45 rfl
theorem g_M_findStyles_46 : jSnd 42 46 (o_nald 47 1) := snd_iald d_M_findStyles_46
theorem g_M_findStyles_47 : jSnd 42 47 (o_istore 48 3) := snd_istore_n d_M_findStyles_47 rfl (by decide)
theorem g_M_findStyles_48 : jSnd 42 48 (o_push 49 (0)) := snd_iconst (n := 0) (z := 0) d_M_findStyles_48 (by decide) (by unfold jrg; omega)
theorem g_M_findStyles_49 : jSnd 42 49 (o_istore 51 4) := snd_istore d_M_findStyles_49 (by decide)
theorem g_M_findStyles_51 : jSnd 42 51 (o_iload 53 4) := snd_iload d_M_findStyles_51
theorem g_M_findStyles_53 : jSnd 42 53 (o_aload 54 0) := snd_aload_n d_M_findStyles_53 rfl
theorem g_M_findStyles_54 : jSnd 42 54 (o_getI 57 14 (17)) := snd_getI (ci := 4) (k := 17) d_M_findStyles_54 rfl tm_in4 (by decide) wd_317 rfl
theorem g_M_findStyles_57 : jSnd 42 57 (o_ic_ge 60 117) := snd_ic_ge d_M_findStyles_57 (by decide)
theorem g_M_findStyles_60 : jSnd 42 60 (o_aload 61 0) := snd_aload_n d_M_findStyles_60 rfl
theorem g_M_findStyles_61 : jSnd 42 61 (o_getR 64 14 (12)) := snd_getR (ci := 4) (k := 12) d_M_findStyles_61 rfl tm_in4 (by decide) wd_293 rfl
theorem g_M_findStyles_64 : jSnd 42 64 (o_iload 65 3) := snd_iload_n d_M_findStyles_64 rfl
theorem g_M_findStyles_65 : jSnd 42 65 (o_nald 66 2) := snd_zald d_M_findStyles_65
theorem g_M_findStyles_66 : jSnd 42 66 (o_if_eq 69 117) := snd_if_eq d_M_findStyles_66 (by decide)
theorem g_M_findStyles_69 : jSnd 42 69 (o_aload 70 0) := snd_aload_n d_M_findStyles_69 rfl
theorem g_M_findStyles_70 : jSnd 42 70 (o_iload 71 3) := snd_iload_n d_M_findStyles_70 rfl
theorem g_M_findStyles_71 : jSnd 42 71 (o_aload 72 0) := snd_aload_n d_M_findStyles_71 rfl
theorem g_M_findStyles_72 : jSnd 42 72 (o_getR 75 14 (15)) := snd_getR (ci := 4) (k := 15) d_M_findStyles_72 rfl tm_in4 (by decide) wd_295 rfl
theorem g_M_findStyles_75 : jSnd 42 75 (o_aload 76 0) := snd_aload_n d_M_findStyles_75 rfl
theorem g_M_findStyles_76 : jSnd 42 76 (o_getR 79 14 (18)) := snd_getR (ci := 4) (k := 18) d_M_findStyles_76 rfl tm_in4 (by decide) wd_297 rfl
theorem g_M_findStyles_79 : jSnd 42 79 (o_iload 81 4) := snd_iload d_M_findStyles_79
theorem g_M_findStyles_81 : jSnd 42 81 (o_nald 82 1) := snd_iald d_M_findStyles_81
theorem g_M_findStyles_82 : jSnd 42 82 (o_nald 83 1) := snd_iald d_M_findStyles_82
theorem g_M_findStyles_83 : jSnd 42 83 (o_call 86 41 3 6 14 false) := snd_callV (ci := 4) (n := 2) rfl d_M_findStyles_83 (by decide) (by decide) (by decide) wc_41 wd_318 wd_319 wd_320 wd_7 (by decide +kernel) (by decide) (by decide)
theorem g_M_findStyles_86 : jSnd 42 86 (o_if_eq 89 111) := snd_if_eq d_M_findStyles_86 (by decide)
theorem g_M_findStyles_89 : jSnd 42 89 (o_aload 90 0) := snd_aload_n d_M_findStyles_89 rfl
theorem g_M_findStyles_90 : jSnd 42 90 (o_getR 93 14 (19)) := snd_getR (ci := 4) (k := 19) d_M_findStyles_90 rfl tm_in4 (by decide) wd_298 rfl
theorem g_M_findStyles_93 : jSnd 42 93 (o_push 94 (4)) := snd_iconst (n := 4) (z := 4) d_M_findStyles_93 (by decide) (by unfold jrg; omega)
theorem g_M_findStyles_94 : jSnd 42 94 (o_iload 96 4) := snd_iload d_M_findStyles_94
theorem g_M_findStyles_96 : jSnd 42 96 (o_bin 97 f_mul) := snd_imul d_M_findStyles_96
theorem g_M_findStyles_97 : jSnd 42 97 (o_aload 98 0) := snd_aload_n d_M_findStyles_97 rfl
theorem g_M_findStyles_98 : jSnd 42 98 (o_getR 101 14 (5)) := snd_getR (ci := 4) (k := 5) d_M_findStyles_98 rfl tm_in4 (by decide) wd_285 rfl
theorem g_M_findStyles_101 : jSnd 42 101 (o_iload 102 3) := snd_iload_n d_M_findStyles_101 rfl
theorem g_M_findStyles_102 : jSnd 42 102 (o_nald 103 1) := snd_iald d_M_findStyles_102
theorem g_M_findStyles_103 : jSnd 42 103 (o_bin 104 f_add) := snd_iadd d_M_findStyles_103
theorem g_M_findStyles_104 : jSnd 42 104 (o_aload 105 0) := snd_aload_n d_M_findStyles_104 rfl
theorem g_M_findStyles_105 : jSnd 42 105 (o_getR 108 14 (6)) := snd_getR (ci := 4) (k := 6) d_M_findStyles_105 rfl tm_in4 (by decide) wd_286 rfl
theorem g_M_findStyles_108 : jSnd 42 108 (o_iload 109 3) := snd_iload_n d_M_findStyles_108 rfl
theorem g_M_findStyles_109 : jSnd 42 109 (o_nald 110 1) := snd_iald d_M_findStyles_109
theorem g_M_findStyles_110 : jSnd 42 110 (o_iast 111) := snd_iast d_M_findStyles_110
theorem g_M_findStyles_111 : jSnd 42 111 (o_iinc 114 4 (1)) := snd_iinc d_M_findStyles_111 (by decide)
theorem g_M_findStyles_114 : jSnd 42 114 (o_goto 51) := snd_goto d_M_findStyles_114 (by decide)
theorem g_M_findStyles_117 : jSnd 42 117 (o_iinc 120 2 (1)) := snd_iinc d_M_findStyles_117 (by decide)
theorem g_M_findStyles_120 : jSnd 42 120 (o_goto 33) := snd_goto d_M_findStyles_120 (by decide)
theorem g_M_findStyles_123 : jSnd 42 123 (o_vret) := snd_vret d_M_findStyles_123 rfl
set_option maxRecDepth 100000 in
theorem ga_M_findStyles : jAll 42 0 tmp_M_findStyles := ⟨g_M_findStyles_0, g_M_findStyles_1, g_M_findStyles_2, g_M_findStyles_3, g_M_findStyles_4, g_M_findStyles_5, snd_bad _ _, snd_bad _ _, g_M_findStyles_8, g_M_findStyles_9, snd_bad _ _, snd_bad _ _, g_M_findStyles_12, g_M_findStyles_13, snd_bad _ _, snd_bad _ _, g_M_findStyles_16, g_M_findStyles_17, g_M_findStyles_18, g_M_findStyles_19, snd_bad _ _, snd_bad _ _, g_M_findStyles_22, snd_bad _ _, snd_bad _ _, g_M_findStyles_25, g_M_findStyles_26, g_M_findStyles_27, g_M_findStyles_28, snd_bad _ _, snd_bad _ _, g_M_findStyles_31, g_M_findStyles_32, g_M_findStyles_33, g_M_findStyles_34, g_M_findStyles_35, snd_bad _ _, snd_bad _ _, g_M_findStyles_38, snd_bad _ _, snd_bad _ _, g_M_findStyles_41, g_M_findStyles_42, snd_bad _ _, snd_bad _ _, g_M_findStyles_45, g_M_findStyles_46, g_M_findStyles_47, g_M_findStyles_48, g_M_findStyles_49, snd_bad _ _, g_M_findStyles_51, snd_bad _ _, g_M_findStyles_53, g_M_findStyles_54, snd_bad _ _, snd_bad _ _, g_M_findStyles_57, snd_bad _ _, snd_bad _ _, g_M_findStyles_60, g_M_findStyles_61, snd_bad _ _, snd_bad _ _, g_M_findStyles_64, g_M_findStyles_65, g_M_findStyles_66, snd_bad _ _, snd_bad _ _, g_M_findStyles_69, g_M_findStyles_70, g_M_findStyles_71, g_M_findStyles_72, snd_bad _ _, snd_bad _ _, g_M_findStyles_75, g_M_findStyles_76, snd_bad _ _, snd_bad _ _, g_M_findStyles_79, snd_bad _ _, g_M_findStyles_81, g_M_findStyles_82, g_M_findStyles_83, snd_bad _ _, snd_bad _ _, g_M_findStyles_86, snd_bad _ _, snd_bad _ _, g_M_findStyles_89, g_M_findStyles_90, snd_bad _ _, snd_bad _ _, g_M_findStyles_93, g_M_findStyles_94, snd_bad _ _, g_M_findStyles_96, g_M_findStyles_97, g_M_findStyles_98, snd_bad _ _, snd_bad _ _, g_M_findStyles_101, g_M_findStyles_102, g_M_findStyles_103, g_M_findStyles_104, g_M_findStyles_105, snd_bad _ _, snd_bad _ _, g_M_findStyles_108, g_M_findStyles_109, g_M_findStyles_110, g_M_findStyles_111, snd_bad _ _, snd_bad _ _, g_M_findStyles_114, snd_bad _ _, snd_bad _ _, g_M_findStyles_117, snd_bad _ _, snd_bad _ _, g_M_findStyles_120, snd_bad _ _, snd_bad _ _, g_M_findStyles_123, trivial⟩
theorem d_M_look_0 : decode (tm_c 43) 0 = .ok (.aload_n 0, 1) := by decide +kernel
theorem d_M_look_1 : decode (tm_c 43) 1 = .ok (.getfield 38, 3) := by decide +kernel
theorem d_M_look_4 : decode (tm_c 43) 4 = .ok (.iload_n 1, 1) := by decide +kernel
theorem d_M_look_5 : decode (tm_c 43) 5 = .ok (.if_icmp .ne (4), 3) := by decide +kernel
theorem d_M_look_8 : decode (tm_c 43) 8 = .ok (.return_, 1) := by decide +kernel
theorem d_M_look_9 : decode (tm_c 43) 9 = .ok (.aload_n 0, 1) := by decide +kernel
theorem d_M_look_10 : decode (tm_c 43) 10 = .ok (.iload_n 1, 1) := by decide +kernel
theorem d_M_look_11 : decode (tm_c 43) 11 = .ok (.putfield 38, 3) := by decide +kernel
theorem d_M_look_14 : decode (tm_c 43) 14 = .ok (.aload_n 0, 1) := by decide +kernel
theorem d_M_look_15 : decode (tm_c 43) 15 = .ok (.iload_n 1, 1) := by decide +kernel
theorem d_M_look_16 : decode (tm_c 43) 16 = .ok (.invokevirtual 107, 3) := by decide +kernel
theorem d_M_look_19 : decode (tm_c 43) 19 = .ok (.aload_n 0, 1) := by decide +kernel
theorem d_M_look_20 : decode (tm_c 43) 20 = .ok (.iload_n 1, 1) := by decide +kernel
theorem d_M_look_21 : decode (tm_c 43) 21 = .ok (.invokevirtual 111, 3) := by decide +kernel
theorem d_M_look_24 : decode (tm_c 43) 24 = .ok (.aload_n 0, 1) := by decide +kernel
theorem d_M_look_25 : decode (tm_c 43) 25 = .ok (.iconst (0), 1) := by decide +kernel
theorem d_M_look_26 : decode (tm_c 43) 26 = .ok (.putfield 101, 3) := by decide +kernel
theorem d_M_look_29 : decode (tm_c 43) 29 = .ok (.iconst (0), 1) := by decide +kernel
theorem d_M_look_30 : decode (tm_c 43) 30 = .ok (.istore_n 2, 1) := by decide +kernel
theorem d_M_look_31 : decode (tm_c 43) 31 = .ok (.iload_n 2, 1) := by decide +kernel
theorem d_M_look_32 : decode (tm_c 43) 32 = .ok (.aload_n 0, 1) := by decide +kernel
theorem d_M_look_33 : decode (tm_c 43) 33 = .ok (.getfield 98, 3) := by decide +kernel
theorem d_M_look_36 : decode (tm_c 43) 36 = .ok (.if_icmp .ge (66), 3) := by decide +kernel
theorem d_M_look_39 : decode (tm_c 43) 39 = .ok (.aload_n 0, 1) := by decide +kernel
theorem d_M_look_40 : decode (tm_c 43) 40 = .ok (.getfield 51, 3) := by decide +kernel
theorem d_M_look_43 : decode (tm_c 43) 43 = .ok (.iload_n 2, 1) := by decide +kernel
theorem d_M_look_44 : decode (tm_c 43) 44 = .ok (.aload_n 0, 1) := by decide +kernel
theorem d_M_look_45 : decode (tm_c 43) 45 = .ok (.getfield 101, 3) := by decide +kernel
theorem d_M_look_48 : decode (tm_c 43) 48 = .ok (.iastore, 1) := by decide +kernel
theorem d_M_look_49 : decode (tm_c 43) 49 = .ok (.aload_n 0, 1) := by decide +kernel
theorem d_M_look_50 : decode (tm_c 43) 50 = .ok (.getfield 45, 3) := by decide +kernel
theorem d_M_look_53 : decode (tm_c 43) 53 = .ok (.iload_n 2, 1) := by decide +kernel
theorem d_M_look_54 : decode (tm_c 43) 54 = .ok (.iaload, 1) := by decide +kernel
theorem d_M_look_55 : decode (tm_c 43) 55 = .ok (.istore_n 3, 1) := by decide +kernel
theorem d_M_look_56 : decode (tm_c 43) 56 = .ok (.aload_n 0, 1) := by decide +kernel
theorem d_M_look_57 : decode (tm_c 43) 57 = .ok (.getfield 42, 3) := by decide +kernel
theorem d_M_look_60 : decode (tm_c 43) 60 = .ok (.iload_n 3, 1) := by decide +kernel
theorem d_M_look_61 : decode (tm_c 43) 61 = .ok (.baload, 1) := by decide +kernel
theorem d_M_look_62 : decode (tm_c 43) 62 = .ok (.ifCond .eq (34), 3) := by decide +kernel
theorem d_M_look_65 : decode (tm_c 43) 65 = .ok (.aload_n 0, 1) := by decide +kernel
theorem d_M_look_66 : decode (tm_c 43) 66 = .ok (.iload_n 3, 1) := by decide +kernel
theorem d_M_look_67 : decode (tm_c 43) 67 = .ok (.invokevirtual 114, 3) := by decide +kernel
theorem d_M_look_70 : decode (tm_c 43) 70 = .ok (.ifCond .eq (6), 3) := by decide +kernel
theorem d_M_look_73 : decode (tm_c 43) 73 = .ok (.goto (23), 3) := by decide +kernel
theorem d_M_look_76 : decode (tm_c 43) 76 = .ok (.aload_n 0, 1) := by decide +kernel
theorem d_M_look_77 : decode (tm_c 43) 77 = .ok (.getfield 54, 3) := by decide +kernel
theorem d_M_look_80 : decode (tm_c 43) 80 = .ok (.aload_n 0, 1) := by decide +kernel
theorem d_M_look_81 : decode (tm_c 43) 81 = .ok (.getfield 101, 3) := by decide +kernel
theorem d_M_look_84 : decode (tm_c 43) 84 = .ok (.iload_n 3, 1) := by decide +kernel
theorem d_M_look_85 : decode (tm_c 43) 85 = .ok (.iastore, 1) := by decide +kernel
theorem d_M_look_86 : decode (tm_c 43) 86 = .ok (.aload_n 0, 1) := by decide +kernel
theorem d_M_look_87 : decode (tm_c 43) 87 = .ok (.dup, 1) := by decide +kernel
theorem d_M_look_88 : decode (tm_c 43) 88 = .ok (.getfield 101, 3) := by decide +kernel
theorem d_M_look_91 : decode (tm_c 43) 91 = .ok (.iconst (1), 1) := by decide +kernel
theorem d_M_look_92 : decode (tm_c 43) 92 = .ok (.iadd, 1) := by decide +kernel
theorem d_M_look_93 : decode (tm_c 43) 93 = .ok (.putfield 101, 3) := by decide +kernel
theorem d_M_look_96 : decode (tm_c 43) 96 = .ok (.iinc 2 (1), 3) := by decide +kernel
theorem d_M_look_99 : decode (tm_c 43) 99 = .ok (.goto (-68), 3) := by decide +kernel
theorem d_M_look_102 : decode (tm_c 43) 102 = .ok (.aload_n 0, 1) := by decide +kernel
theorem d_M_look_103 : decode (tm_c 43) 103 = .ok (.getfield 51, 3) := by decide +kernel
theorem d_M_look_106 : decode (tm_c 43) 106 = .ok (.aload_n 0, 1) := by decide +kernel
theorem d_M_look_107 : decode (tm_c 43) 107 = .ok (.getfield 98, 3) := by decide +kernel
theorem d_M_look_110 : decode (tm_c 43) 110 = .ok (.aload_n 0, 1) := by decide +kernel
theorem d_M_look_111 : decode (tm_c 43) 111 = .ok (.getfield 101, 3) := by decide +kernel
theorem d_M_look_114 : decode (tm_c 43) 114 = .ok (.iastore, 1) := by decide +kernel
theorem d_M_look_115 : decode (tm_c 43) 115 = .ok (.aload_n 0, 1) := by decide +kernel
theorem d_M_look_116 : decode (tm_c 43) 116 = .ok (.iload_n 1, 1) := by decide +kernel
theorem d_M_look_117 : decode (tm_c 43) 117 = .ok (.invokevirtual 118, 3) := by decide +kernel
theorem d_M_look_120 : decode (tm_c 43) 120 = .ok (.return_, 1) := by decide +kernel
theorem g_M_look_0 : jSnd 43 0 (o_aload 1 0) := snd_aload_n d_M_look_0 rfl
theorem g_M_look_1 : jSnd 43 1 (o_getI 4 14 (11)) := snd_getI (ci := 4) (k := 11) d_M_look_1 rfl tm_in4 (by decide) wd_292 rfl
theorem g_M_look_4 : jSnd 43 4 (o_iload 5 1) := snd_iload_n d_M_look_4 rfl
theorem g_M_look_5 : jSnd 43 5 (o_ic_ne 8 9) := snd_ic_ne d_M_look_5 (by decide)
theorem g_M_look_8 : jSnd 43 8 (o_vret) := snd_vret d_M_look_8 rfl
theorem g_M_look_9 : jSnd 43 9 (o_aload 10 0) := snd_aload_n d_M_look_9 rfl
theorem g_M_look_10 : jSnd 43 10 (o_iload 11 1) := snd_iload_n d_M_look_10 rfl
theorem g_M_look_11 : jSnd 43 11 (o_putI 14 14 (11)) := snd_putI (ci := 4) (k := 11) d_M_look_11 rfl tm_in4 tm_D4 tm_ty4 tm_nm4 (by decide) wd_292 rfl rfl rfl
theorem g_M_look_14 : jSnd 43 14 (o_aload 15 0) := snd_aload_n d_M_look_14 rfl
theorem g_M_look_15 : jSnd 43 15 (o_iload 16 1) := snd_iload_n d_M_look_15 rfl
theorem g_M_look_16 : jSnd 43 16 (o_call 19 37 2 3 14 true) := snd_callV (ci := 4) (n := 1) rfl d_M_look_16 (by decide) (by decide) (by decide) wc_37 wd_321 wd_322 wd_323 wd_7 (by decide +kernel) (by decide) (by decide)
theorem g_M_look_19 : jSnd 43 19 (o_aload 20 0) := snd_aload_n d_M_look_19 rfl
theorem g_M_look_20 : jSnd 43 20 (o_iload 21 1) := snd_iload_n d_M_look_20 rfl
theorem g_M_look_21 : jSnd 43 21 (o_call 24 39 2 6 14 true) := snd_callV (ci := 4) (n := 1) rfl d_M_look_21 (by decide) (by decide) (by decide) wc_39 wd_324 wd_325 wd_326 wd_7 (by decide +kernel) (by decide) (by decide)
theorem g_M_look_24 : jSnd 43 24 (o_aload 25 0) := snd_aload_n d_M_look_24 rfl
theorem g_M_look_25 : jSnd 43 25 (o_push 26 (0)) := snd_iconst (n := 0) (z := 0) d_M_look_25 (by decide) (by unfold jrg; omega)
theorem g_M_look_26 : jSnd 43 26 (o_putI 29 14 (17)) := snd_putI (ci := 4) (k := 17) d_M_look_26 rfl tm_in4 tm_D4 tm_ty4 tm_nm4 (by decide) wd_317 rfl rfl rfl
theorem g_M_look_29 : jSnd 43 29 (o_push 30 (0)) := snd_iconst (n := 0) (z := 0) d_M_look_29 (by decide) (by unfold jrg; omega)
theorem g_M_look_30 : jSnd 43 30 (o_istore 31 2) := snd_istore_n d_M_look_30 rfl (by decide)
theorem g_M_look_31 : jSnd 43 31 (o_iload 32 2) := snd_iload_n d_M_look_31 rfl
theorem g_M_look_32 : jSnd 43 32 (o_aload 33 0) := snd_aload_n d_M_look_32 rfl
theorem g_M_look_33 : jSnd 43 33 (o_getI 36 14 (13)) := snd_getI (ci := 4) (k := 13) d_M_look_33 rfl tm_in4 (by decide) wd_316 rfl
theorem g_M_look_36 : jSnd 43 36 (o_ic_ge 39 102) := snd_ic_ge d_M_look_36 (by decide)
theorem g_M_look_39 : jSnd 43 39 (o_aload 40 0) := snd_aload_n d_M_look_39 rfl
theorem g_M_look_40 : jSnd 43 40 (o_getR 43 14 (16)) := snd_getR (ci := 4) (k := 16) d_M_look_40 rfl tm_in4 (by decide) wd_296 rfl
theorem g_M_look_43 : jSnd 43 43 (o_iload 44 2) := snd_iload_n d_M_look_43 rfl
theorem g_M_look_44 : jSnd 43 44 (o_aload 45 0) := snd_aload_n d_M_look_44 rfl
theorem g_M_look_45 : jSnd 43 45 (o_getI 48 14 (17)) := snd_getI (ci := 4) (k := 17) d_M_look_45 rfl tm_in4 (by decide) wd_317 rfl
theorem g_M_look_48 : jSnd 43 48 (o_iast 49) := snd_iast d_M_look_48
theorem g_M_look_49 : jSnd 43 49 (o_aload 50 0) := snd_aload_n d_M_look_49 rfl
theorem g_M_look_50 : jSnd 43 50 (o_getR 53 14 (14)) := snd_getR (ci := 4) (k := 14) d_M_look_50 rfl tm_in4 (by decide) wd_294 rfl
theorem g_M_look_53 : jSnd 43 53 (o_iload 54 2) := snd_iload_n d_M_look_53 rfl
theorem g_M_look_54 : jSnd 43 54 (o_nald 55 1) := snd_iald d_M_look_54
theorem g_M_look_55 : jSnd 43 55 (o_istore 56 3) := snd_istore_n d_M_look_55 rfl (by decide)
theorem g_M_look_56 : jSnd 43 56 (o_aload 57 0) := snd_aload_n d_M_look_56 rfl
theorem g_M_look_57 : jSnd 43 57 (o_getR 60 14 (12)) := snd_getR (ci := 4) (k := 12) d_M_look_57 rfl tm_in4 (by decide) wd_293 rfl
theorem g_M_look_60 : jSnd 43 60 (o_iload 61 3) := snd_iload_n d_M_look_60 rfl
theorem g_M_look_61 : jSnd 43 61 (o_nald 62 2) := snd_zald d_M_look_61
theorem g_M_look_62 : jSnd 43 62 (o_if_eq 65 96) := snd_if_eq d_M_look_62 (by decide)
theorem g_M_look_65 : jSnd 43 65 (o_aload 66 0) := snd_aload_n d_M_look_65 rfl
theorem g_M_look_66 : jSnd 43 66 (o_iload 67 3) := snd_iload_n d_M_look_66 rfl
theorem g_M_look_67 : jSnd 43 67 (o_call 70 40 2 3 14 false) := snd_callV (ci := 4) (n := 1) rfl d_M_look_67 (by decide) (by decide) (by decide) wc_40 wd_327 wd_328 wd_329 wd_7 (by decide +kernel) (by decide) (by decide)
theorem g_M_look_70 : jSnd 43 70 (o_if_eq 73 76) := snd_if_eq d_M_look_70 (by decide)
theorem g_M_look_73 : jSnd 43 73 (o_goto 96) := snd_goto d_M_look_73 (by decide)
theorem g_M_look_76 : jSnd 43 76 (o_aload 77 0) := snd_aload_n d_M_look_76 rfl
theorem g_M_look_77 : jSnd 43 77 (o_getR 80 14 (18)) := snd_getR (ci := 4) (k := 18) d_M_look_77 rfl tm_in4 (by decide) wd_297 rfl
theorem g_M_look_80 : jSnd 43 80 (o_aload 81 0) := snd_aload_n d_M_look_80 rfl
theorem g_M_look_81 : jSnd 43 81 (o_getI 84 14 (17)) := snd_getI (ci := 4) (k := 17) d_M_look_81 rfl tm_in4 (by decide) wd_317 rfl
theorem g_M_look_84 : jSnd 43 84 (o_iload 85 3) := snd_iload_n d_M_look_84 rfl
theorem g_M_look_85 : jSnd 43 85 (o_iast 86) := snd_iast d_M_look_85
theorem g_M_look_86 : jSnd 43 86 (o_aload 87 0) := snd_aload_n d_M_look_86 rfl
theorem g_M_look_87 : jSnd 43 87 (o_dup 88) := snd_dup d_M_look_87
theorem g_M_look_88 : jSnd 43 88 (o_getI 91 14 (17)) := snd_getI (ci := 4) (k := 17) d_M_look_88 rfl tm_in4 (by decide) wd_317 rfl
theorem g_M_look_91 : jSnd 43 91 (o_push 92 (1)) := snd_iconst (n := 1) (z := 1) d_M_look_91 (by decide) (by unfold jrg; omega)
theorem g_M_look_92 : jSnd 43 92 (o_bin 93 f_add) := snd_iadd d_M_look_92
theorem g_M_look_93 : jSnd 43 93 (o_putI 96 14 (17)) := snd_putI (ci := 4) (k := 17) d_M_look_93 rfl tm_in4 tm_D4 tm_ty4 tm_nm4 (by decide) wd_317 rfl rfl rfl
theorem g_M_look_96 : jSnd 43 96 (o_iinc 99 2 (1)) := snd_iinc d_M_look_96 (by decide)
theorem g_M_look_99 : jSnd 43 99 (o_goto 31) := snd_goto d_M_look_99 (by decide)
theorem g_M_look_102 : jSnd 43 102 (o_aload 103 0) := snd_aload_n d_M_look_102 rfl
theorem g_M_look_103 : jSnd 43 103 (o_getR 106 14 (16)) := snd_getR (ci := 4) (k := 16) d_M_look_103 rfl tm_in4 (by decide) wd_296 rfl
theorem g_M_look_106 : jSnd 43 106 (o_aload 107 0) := snd_aload_n d_M_look_106 rfl
theorem g_M_look_107 : jSnd 43 107 (o_getI 110 14 (13)) := snd_getI (ci := 4) (k := 13) d_M_look_107 rfl tm_in4 (by decide) wd_316 rfl
theorem g_M_look_110 : jSnd 43 110 (o_aload 111 0) := snd_aload_n d_M_look_110 rfl
theorem g_M_look_111 : jSnd 43 111 (o_getI 114 14 (17)) := snd_getI (ci := 4) (k := 17) d_M_look_111 rfl tm_in4 (by decide) wd_317 rfl
theorem g_M_look_114 : jSnd 43 114 (o_iast 115) := snd_iast d_M_look_114
theorem g_M_look_115 : jSnd 43 115 (o_aload 116 0) := snd_aload_n d_M_look_115 rfl
theorem g_M_look_116 : jSnd 43 116 (o_iload 117 1) := snd_iload_n d_M_look_116 rfl
theorem g_M_look_117 : jSnd 43 117 (o_call 120 42 2 5 14 true) := snd_callV (ci := 4) (n := 1) rfl d_M_look_117 (by decide) (by decide) (by decide) wc_42 wd_330 wd_331 wd_332 wd_7 (by decide +kernel) (by decide) (by decide)
theorem g_M_look_120 : jSnd 43 120 (o_vret) := snd_vret d_M_look_120 rfl
set_option maxRecDepth 100000 in
theorem ga_M_look : jAll 43 0 tmp_M_look := ⟨g_M_look_0, g_M_look_1, snd_bad _ _, snd_bad _ _, g_M_look_4, g_M_look_5, snd_bad _ _, snd_bad _ _, g_M_look_8, g_M_look_9, g_M_look_10, g_M_look_11, snd_bad _ _, snd_bad _ _, g_M_look_14, g_M_look_15, g_M_look_16, snd_bad _ _, snd_bad _ _, g_M_look_19, g_M_look_20, g_M_look_21, snd_bad _ _, snd_bad _ _, g_M_look_24, g_M_look_25, g_M_look_26, snd_bad _ _, snd_bad _ _, g_M_look_29, g_M_look_30, g_M_look_31, g_M_look_32, g_M_look_33, snd_bad _ _, snd_bad _ _, g_M_look_36, snd_bad _ _, snd_bad _ _, g_M_look_39, g_M_look_40, snd_bad _ _, snd_bad _ _, g_M_look_43, g_M_look_44, g_M_look_45, snd_bad _ _, snd_bad _ _, g_M_look_48, g_M_look_49, g_M_look_50, snd_bad _ _, snd_bad _ _, g_M_look_53, g_M_look_54, g_M_look_55, g_M_look_56, g_M_look_57, snd_bad _ _, snd_bad _ _, g_M_look_60, g_M_look_61, g_M_look_62, snd_bad _ _, snd_bad _ _, g_M_look_65, g_M_look_66, g_M_look_67, snd_bad _ _, snd_bad _ _, g_M_look_70, snd_bad _ _, snd_bad _ _, g_M_look_73, snd_bad _ _, snd_bad _ _, g_M_look_76, g_M_look_77, snd_bad _ _, snd_bad _ _, g_M_look_80, g_M_look_81, snd_bad _ _, snd_bad _ _, g_M_look_84, g_M_look_85, g_M_look_86, g_M_look_87, g_M_look_88, snd_bad _ _, snd_bad _ _, g_M_look_91, g_M_look_92, g_M_look_93, snd_bad _ _, snd_bad _ _, g_M_look_96, snd_bad _ _, snd_bad _ _, g_M_look_99, snd_bad _ _, snd_bad _ _, g_M_look_102, g_M_look_103, snd_bad _ _, snd_bad _ _, g_M_look_106, g_M_look_107, snd_bad _ _, snd_bad _ _, g_M_look_110, g_M_look_111, snd_bad _ _, snd_bad _ _, g_M_look_114, g_M_look_115, g_M_look_116, g_M_look_117, snd_bad _ _, snd_bad _ _, g_M_look_120, trivial⟩
theorem d_M_isNode_0 : decode (tm_c 44) 0 = .ok (.iload_n 0, 1) := by decide +kernel
theorem d_M_isNode_1 : decode (tm_c 44) 1 = .ok (.iconst (0), 1) := by decide +kernel
theorem d_M_isNode_2 : decode (tm_c 44) 2 = .ok (.iconst (3), 1) := by decide +kernel
theorem d_M_isNode_3 : decode (tm_c 44) 3 = .ok (.invokestatic 121, 3) := by decide +kernel
theorem d_M_isNode_6 : decode (tm_c 44) 6 = .ok (.ireturn, 1) := by decide +kernel
theorem g_M_isNode_0 : jSnd 44 0 (o_iload 1 0) := snd_iload_n d_M_isNode_0 rfl
theorem g_M_isNode_1 : jSnd 44 1 (o_push 2 (0)) := snd_iconst (n := 0) (z := 0) d_M_isNode_1 (by decide) (by unfold jrg; omega)
theorem g_M_isNode_2 : jSnd 44 2 (o_push 3 (3)) := snd_iconst (n := 3) (z := 3) d_M_isNode_2 (by decide) (by unfold jrg; omega)
theorem g_M_isNode_3 : jSnd 44 3 (o_call 6 34 3 3 0 false) := snd_callS (n := 3) d_M_isNode_3 (by decide) (by decide) (by decide) wc_34 wd_333 wd_334 wd_7 (by decide +kernel) (by decide) (by decide)
theorem g_M_isNode_6 : jSnd 44 6 (o_zret) := snd_zret d_M_isNode_6 rfl
set_option maxRecDepth 100000 in
theorem ga_M_isNode : jAll 44 0 tmp_M_isNode := ⟨g_M_isNode_0, g_M_isNode_1, g_M_isNode_2, g_M_isNode_3, snd_bad _ _, snd_bad _ _, g_M_isNode_6, trivial⟩
theorem d_M_add_0 : decode (tm_c 45) 0 = .ok (.aload_n 0, 1) := by decide +kernel
theorem d_M_add_1 : decode (tm_c 45) 1 = .ok (.dup, 1) := by decide +kernel
theorem d_M_add_2 : decode (tm_c 45) 2 = .ok (.getfield 81, 3) := by decide +kernel
theorem d_M_add_5 : decode (tm_c 45) 5 = .ok (.iconst (1), 1) := by decide +kernel
theorem d_M_add_6 : decode (tm_c 45) 6 = .ok (.iadd, 1) := by decide +kernel
theorem d_M_add_7 : decode (tm_c 45) 7 = .ok (.putfield 81, 3) := by decide +kernel
theorem d_M_add_10 : decode (tm_c 45) 10 = .ok (.aload_n 0, 1) := by decide +kernel
theorem d_M_add_11 : decode (tm_c 45) 11 = .ok (.getfield 7, 3) := by decide +kernel
theorem d_M_add_14 : decode (tm_c 45) 14 = .ok (.aload_n 0, 1) := by decide +kernel
theorem d_M_add_15 : decode (tm_c 45) 15 = .ok (.getfield 81, 3) := by decide +kernel
theorem d_M_add_18 : decode (tm_c 45) 18 = .ok (.iload_n 2, 1) := by decide +kernel
theorem d_M_add_19 : decode (tm_c 45) 19 = .ok (.iastore, 1) := by decide +kernel
theorem d_M_add_20 : decode (tm_c 45) 20 = .ok (.aload_n 0, 1) := by decide +kernel
theorem d_M_add_21 : decode (tm_c 45) 21 = .ok (.getfield 13, 3) := by decide +kernel
theorem d_M_add_24 : decode (tm_c 45) 24 = .ok (.aload_n 0, 1) := by decide +kernel
theorem d_M_add_25 : decode (tm_c 45) 25 = .ok (.getfield 81, 3) := by decide +kernel
theorem d_M_add_28 : decode (tm_c 45) 28 = .ok (.iload_n 1, 1) := by decide +kernel
theorem d_M_add_29 : decode (tm_c 45) 29 = .ok (.iastore, 1) := by decide +kernel
theorem d_M_add_30 : decode (tm_c 45) 30 = .ok (.aload_n 0, 1) := by decide +kernel
theorem d_M_add_31 : decode (tm_c 45) 31 = .ok (.getfield 35, 3) := by decide +kernel
theorem d_M_add_34 : decode (tm_c 45) 34 = .ok (.iload_n 1, 1) := by decide +kernel
theorem d_M_add_35 : decode (tm_c 45) 35 = .ok (.dup2, 1) := by decide +kernel
theorem d_M_add_36 : decode (tm_c 45) 36 = .ok (.iaload, 1) := by decide +kernel
theorem d_M_add_37 : decode (tm_c 45) 37 = .ok (.iconst (1), 1) := by decide +kernel
theorem d_M_add_38 : decode (tm_c 45) 38 = .ok (.iadd, 1) := by decide +kernel
theorem d_M_add_39 : decode (tm_c 45) 39 = .ok (.iastore, 1) := by decide +kernel
theorem d_M_add_40 : decode (tm_c 45) 40 = .ok (.aload_n 0, 1) := by decide +kernel
theorem d_M_add_41 : decode (tm_c 45) 41 = .ok (.getfield 16, 3) := by decide +kernel
theorem d_M_add_44 : decode (tm_c 45) 44 = .ok (.aload_n 0, 1) := by decide +kernel
theorem d_M_add_45 : decode (tm_c 45) 45 = .ok (.getfield 81, 3) := by decide +kernel
theorem d_M_add_48 : decode (tm_c 45) 48 = .ok (.aload_n 0, 1) := by decide +kernel
theorem d_M_add_49 : decode (tm_c 45) 49 = .ok (.getfield 35, 3) := by decide +kernel
theorem d_M_add_52 : decode (tm_c 45) 52 = .ok (.iload_n 1, 1) := by decide +kernel
theorem d_M_add_53 : decode (tm_c 45) 53 = .ok (.iaload, 1) := by decide +kernel
theorem d_M_add_54 : decode (tm_c 45) 54 = .ok (.iastore, 1) := by decide +kernel
theorem d_M_add_55 : decode (tm_c 45) 55 = .ok (.aload_n 0, 1) := by decide +kernel
theorem d_M_add_56 : decode (tm_c 45) 56 = .ok (.getfield 19, 3) := by decide +kernel
theorem d_M_add_59 : decode (tm_c 45) 59 = .ok (.aload_n 0, 1) := by decide +kernel
theorem d_M_add_60 : decode (tm_c 45) 60 = .ok (.getfield 81, 3) := by decide +kernel
theorem d_M_add_63 : decode (tm_c 45) 63 = .ok (.iload_n 3, 1) := by decide +kernel
theorem d_M_add_64 : decode (tm_c 45) 64 = .ok (.iastore, 1) := by decide +kernel
theorem d_M_add_65 : decode (tm_c 45) 65 = .ok (.aload_n 0, 1) := by decide +kernel
theorem d_M_add_66 : decode (tm_c 45) 66 = .ok (.getfield 22, 3) := by decide +kernel
theorem d_M_add_69 : decode (tm_c 45) 69 = .ok (.aload_n 0, 1) := by decide +kernel
theorem d_M_add_70 : decode (tm_c 45) 70 = .ok (.getfield 81, 3) := by decide +kernel
theorem d_M_add_73 : decode (tm_c 45) 73 = .ok (.iload 4, 2) := by decide +kernel
theorem d_M_add_75 : decode (tm_c 45) 75 = .ok (.iastore, 1) := by decide +kernel
theorem d_M_add_76 : decode (tm_c 45) 76 = .ok (.aload_n 0, 1) := by decide +kernel
theorem d_M_add_77 : decode (tm_c 45) 77 = .ok (.getfield 25, 3) := by decide +kernel
theorem d_M_add_80 : decode (tm_c 45) 80 = .ok (.aload_n 0, 1) := by decide +kernel
theorem d_M_add_81 : decode (tm_c 45) 81 = .ok (.getfield 81, 3) := by decide +kernel
theorem d_M_add_84 : decode (tm_c 45) 84 = .ok (.iload 5, 2) := by decide +kernel
theorem d_M_add_86 : decode (tm_c 45) 86 = .ok (.iastore, 1) := by decide +kernel
theorem d_M_add_87 : decode (tm_c 45) 87 = .ok (.aload_n 0, 1) := by decide +kernel
theorem d_M_add_88 : decode (tm_c 45) 88 = .ok (.getfield 28, 3) := by decide +kernel
theorem d_M_add_91 : decode (tm_c 45) 91 = .ok (.aload_n 0, 1) := by decide +kernel
theorem d_M_add_92 : decode (tm_c 45) 92 = .ok (.getfield 81, 3) := by decide +kernel
theorem d_M_add_95 : decode (tm_c 45) 95 = .ok (.iload 6, 2) := by decide +kernel
theorem d_M_add_97 : decode (tm_c 45) 97 = .ok (.iastore, 1) := by decide +kernel
theorem d_M_add_98 : decode (tm_c 45) 98 = .ok (.aload_n 0, 1) := by decide +kernel
theorem d_M_add_99 : decode (tm_c 45) 99 = .ok (.getfield 31, 3) := by decide +kernel
theorem d_M_add_102 : decode (tm_c 45) 102 = .ok (.sipush (251), 3) := by decide +kernel
theorem d_M_add_105 : decode (tm_c 45) 105 = .ok (.iload_n 1, 1) := by decide +kernel
theorem d_M_add_106 : decode (tm_c 45) 106 = .ok (.imul, 1) := by decide +kernel
theorem d_M_add_107 : decode (tm_c 45) 107 = .ok (.aload_n 0, 1) := by decide +kernel
theorem d_M_add_108 : decode (tm_c 45) 108 = .ok (.getfield 81, 3) := by decide +kernel
theorem d_M_add_111 : decode (tm_c 45) 111 = .ok (.iadd, 1) := by decide +kernel
theorem d_M_add_112 : decode (tm_c 45) 112 = .ok (.iconst (1), 1) := by decide +kernel
theorem d_M_add_113 : decode (tm_c 45) 113 = .ok (.bastore, 1) := by decide +kernel
theorem d_M_add_114 : decode (tm_c 45) 114 = .ok (.aload_n 0, 1) := by decide +kernel
theorem d_M_add_115 : decode (tm_c 45) 115 = .ok (.iconst (-1), 1) := by decide +kernel
theorem d_M_add_116 : decode (tm_c 45) 116 = .ok (.putfield 38, 3) := by decide +kernel
theorem d_M_add_119 : decode (tm_c 45) 119 = .ok (.aload_n 0, 1) := by decide +kernel
theorem d_M_add_120 : decode (tm_c 45) 120 = .ok (.getfield 81, 3) := by decide +kernel
theorem d_M_add_123 : decode (tm_c 45) 123 = .ok (.ireturn, 1) := by decide +kernel
theorem g_M_add_0 : jSnd 45 0 (o_aload 1 0) := snd_aload_n d_M_add_0 rfl
theorem g_M_add_1 : jSnd 45 1 (o_dup 2) := snd_dup d_M_add_1
theorem g_M_add_2 : jSnd 45 2 (o_getI 5 14 (1)) := snd_getI (ci := 4) (k := 1) d_M_add_2 rfl tm_in4 (by decide) wd_305 rfl
theorem g_M_add_5 : jSnd 45 5 (o_push 6 (1)) := snd_iconst (n := 1) (z := 1) d_M_add_5 (by decide) (by unfold jrg; omega)
theorem g_M_add_6 : jSnd 45 6 (o_bin 7 f_add) := snd_iadd d_M_add_6
theorem g_M_add_7 : jSnd 45 7 (o_putI 10 14 (1)) := snd_putI (ci := 4) (k := 1) d_M_add_7 rfl tm_in4 tm_D4 tm_ty4 tm_nm4 (by decide) wd_305 rfl rfl rfl
theorem g_M_add_10 : jSnd 45 10 (o_aload 11 0) := snd_aload_n d_M_add_10 rfl
theorem g_M_add_11 : jSnd 45 11 (o_getR 14 14 (2)) := snd_getR (ci := 4) (k := 2) d_M_add_11 rfl tm_in4 (by decide) wd_282 rfl
theorem g_M_add_14 : jSnd 45 14 (o_aload 15 0) := snd_aload_n d_M_add_14 rfl
theorem g_M_add_15 : jSnd 45 15 (o_getI 18 14 (1)) := snd_getI (ci := 4) (k := 1) d_M_add_15 rfl tm_in4 (by decide) wd_305 rfl
theorem g_M_add_18 : jSnd 45 18 (o_iload 19 2) := snd_iload_n d_M_add_18 rfl
theorem g_M_add_19 : jSnd 45 19 (o_iast 20) := snd_iast d_M_add_19
theorem g_M_add_20 : jSnd 45 20 (o_aload 21 0) := snd_aload_n d_M_add_20 rfl
theorem g_M_add_21 : jSnd 45 21 (o_getR 24 14 (3)) := snd_getR (ci := 4) (k := 3) d_M_add_21 rfl tm_in4 (by decide) wd_283 rfl
theorem g_M_add_24 : jSnd 45 24 (o_aload 25 0) := snd_aload_n d_M_add_24 rfl
theorem g_M_add_25 : jSnd 45 25 (o_getI 28 14 (1)) := snd_getI (ci := 4) (k := 1) d_M_add_25 rfl tm_in4 (by decide) wd_305 rfl
theorem g_M_add_28 : jSnd 45 28 (o_iload 29 1) := snd_iload_n d_M_add_28 rfl
theorem g_M_add_29 : jSnd 45 29 (o_iast 30) := snd_iast d_M_add_29
theorem g_M_add_30 : jSnd 45 30 (o_aload 31 0) := snd_aload_n d_M_add_30 rfl
theorem g_M_add_31 : jSnd 45 31 (o_getR 34 14 (10)) := snd_getR (ci := 4) (k := 10) d_M_add_31 rfl tm_in4 (by decide) wd_291 rfl
theorem g_M_add_34 : jSnd 45 34 (o_iload 35 1) := snd_iload_n d_M_add_34 rfl
theorem g_M_add_35 : jSnd 45 35 (o_dup2 36) := snd_dup2 d_M_add_35
theorem g_M_add_36 : jSnd 45 36 (o_nald 37 1) := snd_iald d_M_add_36
theorem g_M_add_37 : jSnd 45 37 (o_push 38 (1)) := snd_iconst (n := 1) (z := 1) d_M_add_37 (by decide) (by unfold jrg; omega)
theorem g_M_add_38 : jSnd 45 38 (o_bin 39 f_add) := snd_iadd d_M_add_38
theorem g_M_add_39 : jSnd 45 39 (o_iast 40) := snd_iast d_M_add_39
theorem g_M_add_40 : jSnd 45 40 (o_aload 41 0) := snd_aload_n d_M_add_40 rfl
theorem g_M_add_41 : jSnd 45 41 (o_getR 44 14 (4)) := snd_getR (ci := 4) (k := 4) d_M_add_41 rfl tm_in4 (by decide) wd_284 rfl
theorem g_M_add_44 : jSnd 45 44 (o_aload 45 0) := snd_aload_n d_M_add_44 rfl
theorem g_M_add_45 : jSnd 45 45 (o_getI 48 14 (1)) := snd_getI (ci := 4) (k := 1) d_M_add_45 rfl tm_in4 (by decide) wd_305 rfl
theorem g_M_add_48 : jSnd 45 48 (o_aload 49 0) := snd_aload_n d_M_add_48 rfl
theorem g_M_add_49 : jSnd 45 49 (o_getR 52 14 (10)) := snd_getR (ci := 4) (k := 10) d_M_add_49 rfl tm_in4 (by decide) wd_291 rfl
theorem g_M_add_52 : jSnd 45 52 (o_iload 53 1) := snd_iload_n d_M_add_52 rfl
theorem g_M_add_53 : jSnd 45 53 (o_nald 54 1) := snd_iald d_M_add_53
theorem g_M_add_54 : jSnd 45 54 (o_iast 55) := snd_iast d_M_add_54
theorem g_M_add_55 : jSnd 45 55 (o_aload 56 0) := snd_aload_n d_M_add_55 rfl
theorem g_M_add_56 : jSnd 45 56 (o_getR 59 14 (5)) := snd_getR (ci := 4) (k := 5) d_M_add_56 rfl tm_in4 (by decide) wd_285 rfl
theorem g_M_add_59 : jSnd 45 59 (o_aload 60 0) := snd_aload_n d_M_add_59 rfl
theorem g_M_add_60 : jSnd 45 60 (o_getI 63 14 (1)) := snd_getI (ci := 4) (k := 1) d_M_add_60 rfl tm_in4 (by decide) wd_305 rfl
theorem g_M_add_63 : jSnd 45 63 (o_iload 64 3) := snd_iload_n d_M_add_63 rfl
theorem g_M_add_64 : jSnd 45 64 (o_iast 65) := snd_iast d_M_add_64
theorem g_M_add_65 : jSnd 45 65 (o_aload 66 0) := snd_aload_n d_M_add_65 rfl
theorem g_M_add_66 : jSnd 45 66 (o_getR 69 14 (6)) := snd_getR (ci := 4) (k := 6) d_M_add_66 rfl tm_in4 (by decide) wd_286 rfl
theorem g_M_add_69 : jSnd 45 69 (o_aload 70 0) := snd_aload_n d_M_add_69 rfl
theorem g_M_add_70 : jSnd 45 70 (o_getI 73 14 (1)) := snd_getI (ci := 4) (k := 1) d_M_add_70 rfl tm_in4 (by decide) wd_305 rfl
theorem g_M_add_73 : jSnd 45 73 (o_iload 75 4) := snd_iload d_M_add_73
theorem g_M_add_75 : jSnd 45 75 (o_iast 76) := snd_iast d_M_add_75
theorem g_M_add_76 : jSnd 45 76 (o_aload 77 0) := snd_aload_n d_M_add_76 rfl
theorem g_M_add_77 : jSnd 45 77 (o_getR 80 14 (7)) := snd_getR (ci := 4) (k := 7) d_M_add_77 rfl tm_in4 (by decide) wd_287 rfl
theorem g_M_add_80 : jSnd 45 80 (o_aload 81 0) := snd_aload_n d_M_add_80 rfl
theorem g_M_add_81 : jSnd 45 81 (o_getI 84 14 (1)) := snd_getI (ci := 4) (k := 1) d_M_add_81 rfl tm_in4 (by decide) wd_305 rfl
theorem g_M_add_84 : jSnd 45 84 (o_iload 86 5) := snd_iload d_M_add_84
theorem g_M_add_86 : jSnd 45 86 (o_iast 87) := snd_iast d_M_add_86
theorem g_M_add_87 : jSnd 45 87 (o_aload 88 0) := snd_aload_n d_M_add_87 rfl
theorem g_M_add_88 : jSnd 45 88 (o_getR 91 14 (8)) := snd_getR (ci := 4) (k := 8) d_M_add_88 rfl tm_in4 (by decide) wd_288 rfl
theorem g_M_add_91 : jSnd 45 91 (o_aload 92 0) := snd_aload_n d_M_add_91 rfl
theorem g_M_add_92 : jSnd 45 92 (o_getI 95 14 (1)) := snd_getI (ci := 4) (k := 1) d_M_add_92 rfl tm_in4 (by decide) wd_305 rfl
theorem g_M_add_95 : jSnd 45 95 (o_iload 97 6) := snd_iload d_M_add_95
theorem g_M_add_97 : jSnd 45 97 (o_iast 98) := snd_iast d_M_add_97
theorem g_M_add_98 : jSnd 45 98 (o_aload 99 0) := snd_aload_n d_M_add_98 rfl
theorem g_M_add_99 : jSnd 45 99 (o_getR 102 14 (9)) := snd_getR (ci := 4) (k := 9) d_M_add_99 rfl tm_in4 (by decide) wd_290 rfl
theorem g_M_add_102 : jSnd 45 102 (o_push 105 (251)) := snd_sipush (n := 251) (z := 251) d_M_add_102 (by decide) (by unfold jrg; omega)
theorem g_M_add_105 : jSnd 45 105 (o_iload 106 1) := snd_iload_n d_M_add_105 rfl
theorem g_M_add_106 : jSnd 45 106 (o_bin 107 f_mul) := snd_imul d_M_add_106
theorem g_M_add_107 : jSnd 45 107 (o_aload 108 0) := snd_aload_n d_M_add_107 rfl
theorem g_M_add_108 : jSnd 45 108 (o_getI 111 14 (1)) := snd_getI (ci := 4) (k := 1) d_M_add_108 rfl tm_in4 (by decide) wd_305 rfl
theorem g_M_add_111 : jSnd 45 111 (o_bin 112 f_add) := snd_iadd d_M_add_111
theorem g_M_add_112 : jSnd 45 112 (o_push 113 (1)) := snd_iconst (n := 1) (z := 1) d_M_add_112 (by decide) (by unfold jrg; omega)
theorem g_M_add_113 : jSnd 45 113 (o_zast 114) := snd_zast d_M_add_113
theorem g_M_add_114 : jSnd 45 114 (o_aload 115 0) := snd_aload_n d_M_add_114 rfl
theorem g_M_add_115 : jSnd 45 115 (o_push 116 (-1)) := snd_iconst (n := -1) (z := -1) d_M_add_115 (by decide) (by unfold jrg; omega)
theorem g_M_add_116 : jSnd 45 116 (o_putI 119 14 (11)) := snd_putI (ci := 4) (k := 11) d_M_add_116 rfl tm_in4 tm_D4 tm_ty4 tm_nm4 (by decide) wd_292 rfl rfl rfl
theorem g_M_add_119 : jSnd 45 119 (o_aload 120 0) := snd_aload_n d_M_add_119 rfl
theorem g_M_add_120 : jSnd 45 120 (o_getI 123 14 (1)) := snd_getI (ci := 4) (k := 1) d_M_add_120 rfl tm_in4 (by decide) wd_305 rfl
theorem g_M_add_123 : jSnd 45 123 (o_iret) := snd_iret d_M_add_123 rfl
set_option maxRecDepth 100000 in
theorem ga_M_add : jAll 45 0 tmp_M_add := ⟨g_M_add_0, g_M_add_1, g_M_add_2, snd_bad _ _, snd_bad _ _, g_M_add_5, g_M_add_6, g_M_add_7, snd_bad _ _, snd_bad _ _, g_M_add_10, g_M_add_11, snd_bad _ _, snd_bad _ _, g_M_add_14, g_M_add_15, snd_bad _ _, snd_bad _ _, g_M_add_18, g_M_add_19, g_M_add_20, g_M_add_21, snd_bad _ _, snd_bad _ _, g_M_add_24, g_M_add_25, snd_bad _ _, snd_bad _ _, g_M_add_28, g_M_add_29, g_M_add_30, g_M_add_31, snd_bad _ _, snd_bad _ _, g_M_add_34, g_M_add_35, g_M_add_36, g_M_add_37, g_M_add_38, g_M_add_39, g_M_add_40, g_M_add_41, snd_bad _ _, snd_bad _ _, g_M_add_44, g_M_add_45, snd_bad _ _, snd_bad _ _, g_M_add_48, g_M_add_49, snd_bad _ _, snd_bad _ _, g_M_add_52, g_M_add_53, g_M_add_54, g_M_add_55, g_M_add_56, snd_bad _ _, snd_bad _ _, g_M_add_59, g_M_add_60, snd_bad _ _, snd_bad _ _, g_M_add_63, g_M_add_64, g_M_add_65, g_M_add_66, snd_bad _ _, snd_bad _ _, g_M_add_69, g_M_add_70, snd_bad _ _, snd_bad _ _, g_M_add_73, snd_bad _ _, g_M_add_75, g_M_add_76, g_M_add_77, snd_bad _ _, snd_bad _ _, g_M_add_80, g_M_add_81, snd_bad _ _, snd_bad _ _, g_M_add_84, snd_bad _ _, g_M_add_86, g_M_add_87, g_M_add_88, snd_bad _ _, snd_bad _ _, g_M_add_91, g_M_add_92, snd_bad _ _, snd_bad _ _, g_M_add_95, snd_bad _ _, g_M_add_97, g_M_add_98, g_M_add_99, snd_bad _ _, snd_bad _ _, g_M_add_102, snd_bad _ _, snd_bad _ _, g_M_add_105, g_M_add_106, g_M_add_107, g_M_add_108, snd_bad _ _, snd_bad _ _, g_M_add_111, g_M_add_112, g_M_add_113, g_M_add_114, g_M_add_115, g_M_add_116, snd_bad _ _, snd_bad _ _, g_M_add_119, g_M_add_120, snd_bad _ _, snd_bad _ _, g_M_add_123, trivial⟩
theorem d_M_isSign_0 : decode (tm_c 46) 0 = .ok (.iload_n 0, 1) := by decide +kernel
theorem d_M_isSign_1 : decode (tm_c 46) 1 = .ok (.bipush (10), 2) := by decide +kernel
theorem d_M_isSign_3 : decode (tm_c 46) 3 = .ok (.if_icmp .eq (25), 3) := by decide +kernel
theorem d_M_isSign_6 : decode (tm_c 46) 6 = .ok (.iload_n 0, 1) := by decide +kernel
theorem d_M_isSign_7 : decode (tm_c 46) 7 = .ok (.bipush (32), 2) := by decide +kernel
theorem d_M_isSign_9 : decode (tm_c 46) 9 = .ok (.ldc 125, 2) := by decide +kernel
theorem d_M_isSign_11 : decode (tm_c 46) 11 = .ok (.invokestatic 121, 3) := by decide +kernel
theorem d_M_isSign_14 : decode (tm_c 46) 14 = .ok (.ifCond .ne (14), 3) := by decide +kernel
theorem d_M_isSign_17 : decode (tm_c 46) 17 = .ok (.iload_n 0, 1) := by decide +kernel
theorem d_M_isSign_18 : decode (tm_c 46) 18 = .ok (.ldc 126, 2) := by decide +kernel
theorem d_M_isSign_20 : decode (tm_c 46) 20 = .ok (.ldc 127, 2) := by decide +kernel
theorem d_M_isSign_22 : decode (tm_c 46) 22 = .ok (.invokestatic 121, 3) := by decide +kernel
theorem d_M_isSign_25 : decode (tm_c 46) 25 = .ok (.ifCond .eq (7), 3) := by decide +kernel
theorem d_M_isSign_28 : decode (tm_c 46) 28 = .ok (.iconst (1), 1) := by decide +kernel
theorem d_M_isSign_29 : decode (tm_c 46) 29 = .ok (.goto (4), 3) := by decide +kernel
theorem d_M_isSign_32 : decode (tm_c 46) 32 = .ok (.iconst (0), 1) := by decide +kernel
theorem d_M_isSign_33 : decode (tm_c 46) 33 = .ok (.ireturn, 1) := by decide +kernel
theorem g_M_isSign_0 : jSnd 46 0 (o_iload 1 0) := snd_iload_n d_M_isSign_0 rfl
theorem g_M_isSign_1 : jSnd 46 1 (o_push 3 (10)) := snd_bipush (n := 10) (z := 10) d_M_isSign_1 (by decide) (by unfold jrg; omega)
theorem g_M_isSign_3 : jSnd 46 3 (o_ic_eq 6 28) := snd_ic_eq d_M_isSign_3 (by decide)
theorem g_M_isSign_6 : jSnd 46 6 (o_iload 7 0) := snd_iload_n d_M_isSign_6 rfl
theorem g_M_isSign_7 : jSnd 46 7 (o_push 9 (32)) := snd_bipush (n := 32) (z := 32) d_M_isSign_7 (by decide) (by unfold jrg; omega)
theorem g_M_isSign_9 : jSnd 46 9 (o_push 11 (55295)) := snd_ldc (i := 125) (z := 55295) d_M_isSign_9 wd_335 (by unfold jrg; omega)
theorem g_M_isSign_11 : jSnd 46 11 (o_call 14 34 3 3 0 false) := snd_callS (n := 3) d_M_isSign_11 (by decide) (by decide) (by decide) wc_34 wd_333 wd_334 wd_7 (by decide +kernel) (by decide) (by decide)
theorem g_M_isSign_14 : jSnd 46 14 (o_if_ne 17 28) := snd_if_ne d_M_isSign_14 (by decide)
theorem g_M_isSign_17 : jSnd 46 17 (o_iload 18 0) := snd_iload_n d_M_isSign_17 rfl
theorem g_M_isSign_18 : jSnd 46 18 (o_push 20 (57344)) := snd_ldc (i := 126) (z := 57344) d_M_isSign_18 wd_336 (by unfold jrg; omega)
theorem g_M_isSign_20 : jSnd 46 20 (o_push 22 (1114111)) := snd_ldc (i := 127) (z := 1114111) d_M_isSign_20 wd_337 (by unfold jrg; omega)
theorem g_M_isSign_22 : jSnd 46 22 (o_call 25 34 3 3 0 false) := snd_callS (n := 3) d_M_isSign_22 (by decide) (by decide) (by decide) wc_34 wd_333 wd_334 wd_7 (by decide +kernel) (by decide) (by decide)
theorem g_M_isSign_25 : jSnd 46 25 (o_if_eq 28 32) := snd_if_eq d_M_isSign_25 (by decide)
theorem g_M_isSign_28 : jSnd 46 28 (o_push 29 (1)) := snd_iconst (n := 1) (z := 1) d_M_isSign_28 (by decide) (by unfold jrg; omega)
theorem g_M_isSign_29 : jSnd 46 29 (o_goto 33) := snd_goto d_M_isSign_29 (by decide)
theorem g_M_isSign_32 : jSnd 46 32 (o_push 33 (0)) := snd_iconst (n := 0) (z := 0) d_M_isSign_32 (by decide) (by unfold jrg; omega)
theorem g_M_isSign_33 : jSnd 46 33 (o_zret) := snd_zret d_M_isSign_33 rfl
set_option maxRecDepth 100000 in
theorem ga_M_isSign : jAll 46 0 tmp_M_isSign := ⟨g_M_isSign_0, g_M_isSign_1, snd_bad _ _, g_M_isSign_3, snd_bad _ _, snd_bad _ _, g_M_isSign_6, g_M_isSign_7, snd_bad _ _, g_M_isSign_9, snd_bad _ _, g_M_isSign_11, snd_bad _ _, snd_bad _ _, g_M_isSign_14, snd_bad _ _, snd_bad _ _, g_M_isSign_17, g_M_isSign_18, snd_bad _ _, g_M_isSign_20, snd_bad _ _, g_M_isSign_22, snd_bad _ _, snd_bad _ _, g_M_isSign_25, snd_bad _ _, snd_bad _ _, g_M_isSign_28, g_M_isSign_29, snd_bad _ _, snd_bad _ _, g_M_isSign_32, g_M_isSign_33, trivial⟩
theorem d_M_insert_0 : decode (tm_c 47) 0 = .ok (.aload_n 0, 1) := by decide +kernel
theorem d_M_insert_1 : decode (tm_c 47) 1 = .ok (.iconst (0), 1) := by decide +kernel
theorem d_M_insert_2 : decode (tm_c 47) 2 = .ok (.putfield 78, 3) := by decide +kernel
theorem d_M_insert_5 : decode (tm_c 47) 5 = .ok (.iload_n 1, 1) := by decide +kernel
theorem d_M_insert_6 : decode (tm_c 47) 6 = .ok (.invokestatic 128, 3) := by decide +kernel
theorem d_M_insert_9 : decode (tm_c 47) 9 = .ok (.ifCond .eq (20), 3) := by decide +kernel
theorem d_M_insert_12 : decode (tm_c 47) 12 = .ok (.iload_n 3, 1) := by decide +kernel
theorem d_M_insert_13 : decode (tm_c 47) 13 = .ok (.invokestatic 131, 3) := by decide +kernel
theorem d_M_insert_16 : decode (tm_c 47) 16 = .ok (.ifCond .eq (13), 3) := by decide +kernel
theorem d_M_insert_19 : decode (tm_c 47) 19 = .ok (.aload_n 0, 1) := by decide +kernel
theorem d_M_insert_20 : decode (tm_c 47) 20 = .ok (.getfield 81, 3) := by decide +kernel
theorem d_M_insert_23 : decode (tm_c 47) 23 = .ok (.sipush (250), 3) := by decide +kernel
theorem d_M_insert_26 : decode (tm_c 47) 26 = .ok (.if_icmp .ne (5), 3) := by decide +kernel
theorem d_M_insert_29 : decode (tm_c 47) 29 = .ok (.iconst (-1), 1) := by decide +kernel
theorem d_M_insert_30 : decode (tm_c 47) 30 = .ok (.ireturn, 1) := by decide +kernel
theorem d_M_insert_31 : decode (tm_c 47) 31 = .ok (.aload_n 0, 1) := by decide +kernel
theorem d_M_insert_32 : decode (tm_c 47) 32 = .ok (.iload_n 1, 1) := by decide +kernel
theorem d_M_insert_33 : decode (tm_c 47) 33 = .ok (.invokevirtual 134, 3) := by decide +kernel
theorem d_M_insert_36 : decode (tm_c 47) 36 = .ok (.iload_n 2, 1) := by decide +kernel
theorem d_M_insert_37 : decode (tm_c 47) 37 = .ok (.iconst (0), 1) := by decide +kernel
theorem d_M_insert_38 : decode (tm_c 47) 38 = .ok (.aload_n 0, 1) := by decide +kernel
theorem d_M_insert_39 : decode (tm_c 47) 39 = .ok (.getfield 101, 3) := by decide +kernel
theorem d_M_insert_42 : decode (tm_c 47) 42 = .ok (.invokestatic 121, 3) := by decide +kernel
theorem d_M_insert_45 : decode (tm_c 47) 45 = .ok (.ifCond .eq (31), 3) := by decide +kernel
theorem d_M_insert_48 : decode (tm_c 47) 48 = .ok (.aload_n 0, 1) := by decide +kernel
theorem d_M_insert_49 : decode (tm_c 47) 49 = .ok (.iload_n 1, 1) := by decide +kernel
theorem d_M_insert_50 : decode (tm_c 47) 50 = .ok (.iconst (0), 1) := by decide +kernel
theorem d_M_insert_51 : decode (tm_c 47) 51 = .ok (.iload_n 3, 1) := by decide +kernel
theorem d_M_insert_52 : decode (tm_c 47) 52 = .ok (.iconst (0), 1) := by decide +kernel
theorem d_M_insert_53 : decode (tm_c 47) 53 = .ok (.iload_n 2, 1) := by decide +kernel
theorem d_M_insert_54 : decode (tm_c 47) 54 = .ok (.ifCond .ne (7), 3) := by decide +kernel
theorem d_M_insert_57 : decode (tm_c 47) 57 = .ok (.iconst (0), 1) := by decide +kernel
theorem d_M_insert_58 : decode (tm_c 47) 58 = .ok (.goto (11), 3) := by decide +kernel
theorem d_M_insert_61 : decode (tm_c 47) 61 = .ok (.aload_n 0, 1) := by decide +kernel
theorem d_M_insert_62 : decode (tm_c 47) 62 = .ok (.getfield 54, 3) := by decide +kernel
theorem d_M_insert_65 : decode (tm_c 47) 65 = .ok (.iload_n 2, 1) := by decide +kernel
theorem d_M_insert_66 : decode (tm_c 47) 66 = .ok (.iconst (1), 1) := by decide +kernel
theorem d_M_insert_67 : decode (tm_c 47) 67 = .ok (.isub, 1) := by decide +kernel
theorem d_M_insert_68 : decode (tm_c 47) 68 = .ok (.iaload, 1) := by decide +kernel
theorem d_M_insert_69 : decode (tm_c 47) 69 = .ok (.iconst (0), 1) := by decide +kernel
theorem d_M_insert_70 : decode (tm_c 47) 70 = .ok (.invokevirtual 137, 3) := by decide +kernel
theorem d_M_insert_73 : decode (tm_c 47) 73 = .ok (.goto (4), 3) := by decide +kernel
theorem d_M_insert_76 : decode (tm_c 47) 76 = .ok (.iconst (-1), 1) := by decide +kernel
theorem d_M_insert_77 : decode (tm_c 47) 77 = .ok (.ireturn, 1) := by decide +kernel
theorem g_M_insert_0 : jSnd 47 0 (o_aload 1 0) := snd_aload_n d_M_insert_0 rfl
theorem g_M_insert_1 : jSnd 47 1 (o_push 2 (0)) := snd_iconst (n := 0) (z := 0) d_M_insert_1 (by decide) (by unfold jrg; omega)
theorem g_M_insert_2 : jSnd 47 2 (o_putI 5 14 (0)) := snd_putI (ci := 4) (k := 0) d_M_insert_2 rfl tm_in4 tm_D4 tm_ty4 tm_nm4 (by decide) wd_338 rfl rfl rfl
theorem g_M_insert_5 : jSnd 47 5 (o_iload 6 1) := snd_iload_n d_M_insert_5 rfl
theorem g_M_insert_6 : jSnd 47 6 (o_call 9 44 1 1 0 false) := snd_callS (n := 1) d_M_insert_6 (by decide) (by decide) (by decide) wc_44 wd_339 wd_340 wd_7 (by decide +kernel) (by decide) (by decide)
theorem g_M_insert_9 : jSnd 47 9 (o_if_eq 12 29) := snd_if_eq d_M_insert_9 (by decide)
theorem g_M_insert_12 : jSnd 47 12 (o_iload 13 3) := snd_iload_n d_M_insert_12 rfl
theorem g_M_insert_13 : jSnd 47 13 (o_call 16 46 1 1 0 false) := snd_callS (n := 1) d_M_insert_13 (by decide) (by decide) (by decide) wc_46 wd_341 wd_342 wd_7 (by decide +kernel) (by decide) (by decide)
theorem g_M_insert_16 : jSnd 47 16 (o_if_eq 19 29) := snd_if_eq d_M_insert_16 (by decide)
theorem g_M_insert_19 : jSnd 47 19 (o_aload 20 0) := snd_aload_n d_M_insert_19 rfl
theorem g_M_insert_20 : jSnd 47 20 (o_getI 23 14 (1)) := snd_getI (ci := 4) (k := 1) d_M_insert_20 rfl tm_in4 (by decide) wd_305 rfl
theorem g_M_insert_23 : jSnd 47 23 (o_push 26 (250)) := snd_sipush (n := 250) (z := 250) d_M_insert_23 (by decide) (by unfold jrg; omega)
theorem g_M_insert_26 : jSnd 47 26 (o_ic_ne 29 31) := snd_ic_ne d_M_insert_26 (by decide)
theorem g_M_insert_29 : jSnd 47 29 (o_push 30 (-1)) := snd_iconst (n := -1) (z := -1) d_M_insert_29 (by decide) (by unfold jrg; omega)
theorem g_M_insert_30 : jSnd 47 30 (o_iret) := snd_iret d_M_insert_30 rfl
theorem g_M_insert_31 : jSnd 47 31 (o_aload 32 0) := snd_aload_n d_M_insert_31 rfl
theorem g_M_insert_32 : jSnd 47 32 (o_iload 33 1) := snd_iload_n d_M_insert_32 rfl
theorem g_M_insert_33 : jSnd 47 33 (o_call 36 43 2 4 14 true) := snd_callV (ci := 4) (n := 1) rfl d_M_insert_33 (by decide) (by decide) (by decide) wc_43 wd_343 wd_344 wd_345 wd_7 (by decide +kernel) (by decide) (by decide)
theorem g_M_insert_36 : jSnd 47 36 (o_iload 37 2) := snd_iload_n d_M_insert_36 rfl
theorem g_M_insert_37 : jSnd 47 37 (o_push 38 (0)) := snd_iconst (n := 0) (z := 0) d_M_insert_37 (by decide) (by unfold jrg; omega)
theorem g_M_insert_38 : jSnd 47 38 (o_aload 39 0) := snd_aload_n d_M_insert_38 rfl
theorem g_M_insert_39 : jSnd 47 39 (o_getI 42 14 (17)) := snd_getI (ci := 4) (k := 17) d_M_insert_39 rfl tm_in4 (by decide) wd_317 rfl
theorem g_M_insert_42 : jSnd 47 42 (o_call 45 34 3 3 0 false) := snd_callS (n := 3) d_M_insert_42 (by decide) (by decide) (by decide) wc_34 wd_333 wd_334 wd_7 (by decide +kernel) (by decide) (by decide)
theorem g_M_insert_45 : jSnd 47 45 (o_if_eq 48 76) := snd_if_eq d_M_insert_45 (by decide)
theorem g_M_insert_48 : jSnd 47 48 (o_aload 49 0) := snd_aload_n d_M_insert_48 rfl
theorem g_M_insert_49 : jSnd 47 49 (o_iload 50 1) := snd_iload_n d_M_insert_49 rfl
theorem g_M_insert_50 : jSnd 47 50 (o_push 51 (0)) := snd_iconst (n := 0) (z := 0) d_M_insert_50 (by decide) (by unfold jrg; omega)
theorem g_M_insert_51 : jSnd 47 51 (o_iload 52 3) := snd_iload_n d_M_insert_51 rfl
theorem g_M_insert_52 : jSnd 47 52 (o_push 53 (0)) := snd_iconst (n := 0) (z := 0) d_M_insert_52 (by decide) (by unfold jrg; omega)
theorem g_M_insert_53 : jSnd 47 53 (o_iload 54 2) := snd_iload_n d_M_insert_53 rfl
theorem g_M_insert_54 : jSnd 47 54 (o_if_ne 57 61) := snd_if_ne d_M_insert_54 (by decide)
theorem g_M_insert_57 : jSnd 47 57 (o_push 58 (0)) := snd_iconst (n := 0) (z := 0) d_M_insert_57 (by decide) (by unfold jrg; omega)
theorem g_M_insert_58 : jSnd 47 58 (o_goto 69) := snd_goto d_M_insert_58 (by decide)
theorem g_M_insert_61 : jSnd 47 61 (o_aload 62 0) := snd_aload_n d_M_insert_61 rfl
theorem g_M_insert_62 : jSnd 47 62 (o_getR 65 14 (18)) := snd_getR (ci := 4) (k := 18) d_M_insert_62 rfl tm_in4 (by decide) wd_297 rfl
theorem g_M_insert_65 : jSnd 47 65 (o_iload 66 2) := snd_iload_n d_M_insert_65 rfl
theorem g_M_insert_66 : jSnd 47 66 (o_push 67 (1)) := snd_iconst (n := 1) (z := 1) d_M_insert_66 (by decide) (by unfold jrg; omega)
theorem g_M_insert_67 : jSnd 47 67 (o_bin 68 f_sub) := snd_isub d_M_insert_67
theorem g_M_insert_68 : jSnd 47 68 (o_nald 69 1) := snd_iald d_M_insert_68
theorem g_M_insert_69 : jSnd 47 69 (o_push 70 (0)) := snd_iconst (n := 0) (z := 0) d_M_insert_69 (by decide) (by unfold jrg; omega)
theorem g_M_insert_70 : jSnd 47 70 (o_call 73 45 7 7 14 false) := snd_callV (ci := 4) (n := 6) rfl d_M_insert_70 (by decide) (by decide) (by decide) wc_45 wd_346 wd_347 wd_348 wd_7 (by decide +kernel) (by decide) (by decide)
theorem g_M_insert_73 : jSnd 47 73 (o_goto 77) := snd_goto d_M_insert_73 (by decide)
theorem g_M_insert_76 : jSnd 47 76 (o_push 77 (-1)) := snd_iconst (n := -1) (z := -1) d_M_insert_76 (by decide) (by unfold jrg; omega)
theorem g_M_insert_77 : jSnd 47 77 (o_iret) := snd_iret d_M_insert_77 rfl
set_option maxRecDepth 100000 in
theorem ga_M_insert : jAll 47 0 tmp_M_insert := ⟨g_M_insert_0, g_M_insert_1, g_M_insert_2, snd_bad _ _, snd_bad _ _, g_M_insert_5, g_M_insert_6, snd_bad _ _, snd_bad _ _, g_M_insert_9, snd_bad _ _, snd_bad _ _, g_M_insert_12, g_M_insert_13, snd_bad _ _, snd_bad _ _, g_M_insert_16, snd_bad _ _, snd_bad _ _, g_M_insert_19, g_M_insert_20, snd_bad _ _, snd_bad _ _, g_M_insert_23, snd_bad _ _, snd_bad _ _, g_M_insert_26, snd_bad _ _, snd_bad _ _, g_M_insert_29, g_M_insert_30, g_M_insert_31, g_M_insert_32, g_M_insert_33, snd_bad _ _, snd_bad _ _, g_M_insert_36, g_M_insert_37, g_M_insert_38, g_M_insert_39, snd_bad _ _, snd_bad _ _, g_M_insert_42, snd_bad _ _, snd_bad _ _, g_M_insert_45, snd_bad _ _, snd_bad _ _, g_M_insert_48, g_M_insert_49, g_M_insert_50, g_M_insert_51, g_M_insert_52, g_M_insert_53, g_M_insert_54, snd_bad _ _, snd_bad _ _, g_M_insert_57, g_M_insert_58, snd_bad _ _, snd_bad _ _, g_M_insert_61, g_M_insert_62, snd_bad _ _, snd_bad _ _, g_M_insert_65, g_M_insert_66, g_M_insert_67, g_M_insert_68, g_M_insert_69, g_M_insert_70, snd_bad _ _, snd_bad _ _, g_M_insert_73, snd_bad _ _, snd_bad _ _, g_M_insert_76, g_M_insert_77, trivial⟩
theorem d_M_delete_0 : decode (tm_c 48) 0 = .ok (.aload_n 0, 1) := by decide +kernel
theorem d_M_delete_1 : decode (tm_c 48) 1 = .ok (.iconst (0), 1) := by decide +kernel
theorem d_M_delete_2 : decode (tm_c 48) 2 = .ok (.putfield 78, 3) := by decide +kernel
theorem d_M_delete_5 : decode (tm_c 48) 5 = .ok (.iload_n 1, 1) := by decide +kernel
theorem d_M_delete_6 : decode (tm_c 48) 6 = .ok (.invokestatic 128, 3) := by decide +kernel
theorem d_M_delete_9 : decode (tm_c 48) 9 = .ok (.ifCond .eq (13), 3) := by decide +kernel
theorem d_M_delete_12 : decode (tm_c 48) 12 = .ok (.aload_n 0, 1) := by decide +kernel
theorem d_M_delete_13 : decode (tm_c 48) 13 = .ok (.getfield 81, 3) := by decide +kernel
theorem d_M_delete_16 : decode (tm_c 48) 16 = .ok (.sipush (250), 3) := by decide +kernel
theorem d_M_delete_19 : decode (tm_c 48) 19 = .ok (.if_icmp .ne (5), 3) := by decide +kernel
theorem d_M_delete_22 : decode (tm_c 48) 22 = .ok (.iconst (-1), 1) := by decide +kernel
theorem d_M_delete_23 : decode (tm_c 48) 23 = .ok (.ireturn, 1) := by decide +kernel
theorem d_M_delete_24 : decode (tm_c 48) 24 = .ok (.aload_n 0, 1) := by decide +kernel
theorem d_M_delete_25 : decode (tm_c 48) 25 = .ok (.iload_n 1, 1) := by decide +kernel
theorem d_M_delete_26 : decode (tm_c 48) 26 = .ok (.invokevirtual 134, 3) := by decide +kernel
theorem d_M_delete_29 : decode (tm_c 48) 29 = .ok (.iload_n 2, 1) := by decide +kernel
theorem d_M_delete_30 : decode (tm_c 48) 30 = .ok (.iconst (0), 1) := by decide +kernel
theorem d_M_delete_31 : decode (tm_c 48) 31 = .ok (.aload_n 0, 1) := by decide +kernel
theorem d_M_delete_32 : decode (tm_c 48) 32 = .ok (.getfield 101, 3) := by decide +kernel
theorem d_M_delete_35 : decode (tm_c 48) 35 = .ok (.iconst (1), 1) := by decide +kernel
theorem d_M_delete_36 : decode (tm_c 48) 36 = .ok (.isub, 1) := by decide +kernel
theorem d_M_delete_37 : decode (tm_c 48) 37 = .ok (.invokestatic 121, 3) := by decide +kernel
theorem d_M_delete_40 : decode (tm_c 48) 40 = .ok (.ifCond .eq (21), 3) := by decide +kernel
theorem d_M_delete_43 : decode (tm_c 48) 43 = .ok (.aload_n 0, 1) := by decide +kernel
theorem d_M_delete_44 : decode (tm_c 48) 44 = .ok (.iload_n 1, 1) := by decide +kernel
theorem d_M_delete_45 : decode (tm_c 48) 45 = .ok (.iconst (1), 1) := by decide +kernel
theorem d_M_delete_46 : decode (tm_c 48) 46 = .ok (.iconst (0), 1) := by decide +kernel
theorem d_M_delete_47 : decode (tm_c 48) 47 = .ok (.iconst (0), 1) := by decide +kernel
theorem d_M_delete_48 : decode (tm_c 48) 48 = .ok (.aload_n 0, 1) := by decide +kernel
theorem d_M_delete_49 : decode (tm_c 48) 49 = .ok (.getfield 54, 3) := by decide +kernel
theorem d_M_delete_52 : decode (tm_c 48) 52 = .ok (.iload_n 2, 1) := by decide +kernel
theorem d_M_delete_53 : decode (tm_c 48) 53 = .ok (.iaload, 1) := by decide +kernel
theorem d_M_delete_54 : decode (tm_c 48) 54 = .ok (.iconst (0), 1) := by decide +kernel
theorem d_M_delete_55 : decode (tm_c 48) 55 = .ok (.invokevirtual 137, 3) := by decide +kernel
theorem d_M_delete_58 : decode (tm_c 48) 58 = .ok (.goto (4), 3) := by decide +kernel
theorem d_M_delete_61 : decode (tm_c 48) 61 = .ok (.iconst (-1), 1) := by decide +kernel
theorem d_M_delete_62 : decode (tm_c 48) 62 = .ok (.ireturn, 1) := by decide +kernel
theorem g_M_delete_0 : jSnd 48 0 (o_aload 1 0) := snd_aload_n d_M_delete_0 rfl
theorem g_M_delete_1 : jSnd 48 1 (o_push 2 (0)) := snd_iconst (n := 0) (z := 0) d_M_delete_1 (by decide) (by unfold jrg; omega)
theorem g_M_delete_2 : jSnd 48 2 (o_putI 5 14 (0)) := snd_putI (ci := 4) (k := 0) d_M_delete_2 rfl tm_in4 tm_D4 tm_ty4 tm_nm4 (by decide) wd_338 rfl rfl rfl
theorem g_M_delete_5 : jSnd 48 5 (o_iload 6 1) := snd_iload_n d_M_delete_5 rfl
theorem g_M_delete_6 : jSnd 48 6 (o_call 9 44 1 1 0 false) := snd_callS (n := 1) d_M_delete_6 (by decide) (by decide) (by decide) wc_44 wd_339 wd_340 wd_7 (by decide +kernel) (by decide) (by decide)
theorem g_M_delete_9 : jSnd 48 9 (o_if_eq 12 22) := snd_if_eq d_M_delete_9 (by decide)
theorem g_M_delete_12 : jSnd 48 12 (o_aload 13 0) := snd_aload_n d_M_delete_12 rfl
theorem g_M_delete_13 : jSnd 48 13 (o_getI 16 14 (1)) := snd_getI (ci := 4) (k := 1) d_M_delete_13 rfl tm_in4 (by decide) wd_305 rfl
theorem g_M_delete_16 : jSnd 48 16 (o_push 19 (250)) := snd_sipush (n := 250) (z := 250) d_M_delete_16 (by decide) (by unfold jrg; omega)
theorem g_M_delete_19 : jSnd 48 19 (o_ic_ne 22 24) := snd_ic_ne d_M_delete_19 (by decide)
theorem g_M_delete_22 : jSnd 48 22 (o_push 23 (-1)) := snd_iconst (n := -1) (z := -1) d_M_delete_22 (by decide) (by unfold jrg; omega)
theorem g_M_delete_23 : jSnd 48 23 (o_iret) := snd_iret d_M_delete_23 rfl
theorem g_M_delete_24 : jSnd 48 24 (o_aload 25 0) := snd_aload_n d_M_delete_24 rfl
theorem g_M_delete_25 : jSnd 48 25 (o_iload 26 1) := snd_iload_n d_M_delete_25 rfl
theorem g_M_delete_26 : jSnd 48 26 (o_call 29 43 2 4 14 true) := snd_callV (ci := 4) (n := 1) rfl d_M_delete_26 (by decide) (by decide) (by decide) wc_43 wd_343 wd_344 wd_345 wd_7 (by decide +kernel) (by decide) (by decide)
theorem g_M_delete_29 : jSnd 48 29 (o_iload 30 2) := snd_iload_n d_M_delete_29 rfl
theorem g_M_delete_30 : jSnd 48 30 (o_push 31 (0)) := snd_iconst (n := 0) (z := 0) d_M_delete_30 (by decide) (by unfold jrg; omega)
theorem g_M_delete_31 : jSnd 48 31 (o_aload 32 0) := snd_aload_n d_M_delete_31 rfl
theorem g_M_delete_32 : jSnd 48 32 (o_getI 35 14 (17)) := snd_getI (ci := 4) (k := 17) d_M_delete_32 rfl tm_in4 (by decide) wd_317 rfl
theorem g_M_delete_35 : jSnd 48 35 (o_push 36 (1)) := snd_iconst (n := 1) (z := 1) d_M_delete_35 (by decide) (by unfold jrg; omega)
theorem g_M_delete_36 : jSnd 48 36 (o_bin 37 f_sub) := snd_isub d_M_delete_36
theorem g_M_delete_37 : jSnd 48 37 (o_call 40 34 3 3 0 false) := snd_callS (n := 3) d_M_delete_37 (by decide) (by decide) (by decide) wc_34 wd_333 wd_334 wd_7 (by decide +kernel) (by decide) (by decide)
theorem g_M_delete_40 : jSnd 48 40 (o_if_eq 43 61) := snd_if_eq d_M_delete_40 (by decide)
theorem g_M_delete_43 : jSnd 48 43 (o_aload 44 0) := snd_aload_n d_M_delete_43 rfl
theorem g_M_delete_44 : jSnd 48 44 (o_iload 45 1) := snd_iload_n d_M_delete_44 rfl
theorem g_M_delete_45 : jSnd 48 45 (o_push 46 (1)) := snd_iconst (n := 1) (z := 1) d_M_delete_45 (by decide) (by unfold jrg; omega)
theorem g_M_delete_46 : jSnd 48 46 (o_push 47 (0)) := snd_iconst (n := 0) (z := 0) d_M_delete_46 (by decide) (by unfold jrg; omega)
theorem g_M_delete_47 : jSnd 48 47 (o_push 48 (0)) := snd_iconst (n := 0) (z := 0) d_M_delete_47 (by decide) (by unfold jrg; omega)
theorem g_M_delete_48 : jSnd 48 48 (o_aload 49 0) := snd_aload_n d_M_delete_48 rfl
theorem g_M_delete_49 : jSnd 48 49 (o_getR 52 14 (18)) := snd_getR (ci := 4) (k := 18) d_M_delete_49 rfl tm_in4 (by decide) wd_297 rfl
theorem g_M_delete_52 : jSnd 48 52 (o_iload 53 2) := snd_iload_n d_M_delete_52 rfl
theorem g_M_delete_53 : jSnd 48 53 (o_nald 54 1) := snd_iald d_M_delete_53
theorem g_M_delete_54 : jSnd 48 54 (o_push 55 (0)) := snd_iconst (n := 0) (z := 0) d_M_delete_54 (by decide) (by unfold jrg; omega)
theorem g_M_delete_55 : jSnd 48 55 (o_call 58 45 7 7 14 false) := snd_callV (ci := 4) (n := 6) rfl d_M_delete_55 (by decide) (by decide) (by decide) wc_45 wd_346 wd_347 wd_348 wd_7 (by decide +kernel) (by decide) (by decide)
theorem g_M_delete_58 : jSnd 48 58 (o_goto 62) := snd_goto d_M_delete_58 (by decide)
theorem g_M_delete_61 : jSnd 48 61 (o_push 62 (-1)) := snd_iconst (n := -1) (z := -1) d_M_delete_61 (by decide) (by unfold jrg; omega)
theorem g_M_delete_62 : jSnd 48 62 (o_iret) := snd_iret d_M_delete_62 rfl
set_option maxRecDepth 100000 in
theorem ga_M_delete : jAll 48 0 tmp_M_delete := ⟨g_M_delete_0, g_M_delete_1, g_M_delete_2, snd_bad _ _, snd_bad _ _, g_M_delete_5, g_M_delete_6, snd_bad _ _, snd_bad _ _, g_M_delete_9, snd_bad _ _, snd_bad _ _, g_M_delete_12, g_M_delete_13, snd_bad _ _, snd_bad _ _, g_M_delete_16, snd_bad _ _, snd_bad _ _, g_M_delete_19, snd_bad _ _, snd_bad _ _, g_M_delete_22, g_M_delete_23, g_M_delete_24, g_M_delete_25, g_M_delete_26, snd_bad _ _, snd_bad _ _, g_M_delete_29, g_M_delete_30, g_M_delete_31, g_M_delete_32, snd_bad _ _, snd_bad _ _, g_M_delete_35, g_M_delete_36, g_M_delete_37, snd_bad _ _, snd_bad _ _, g_M_delete_40, snd_bad _ _, snd_bad _ _, g_M_delete_43, g_M_delete_44, g_M_delete_45, g_M_delete_46, g_M_delete_47, g_M_delete_48, g_M_delete_49, snd_bad _ _, snd_bad _ _, g_M_delete_52, g_M_delete_53, g_M_delete_54, g_M_delete_55, snd_bad _ _, snd_bad _ _, g_M_delete_58, snd_bad _ _, snd_bad _ _, g_M_delete_61, g_M_delete_62, trivial⟩
theorem d_M_style_0 : decode (tm_c 49) 0 = .ok (.aload_n 0, 1) := by decide +kernel
theorem d_M_style_1 : decode (tm_c 49) 1 = .ok (.iconst (0), 1) := by decide +kernel
theorem d_M_style_2 : decode (tm_c 49) 2 = .ok (.putfield 78, 3) := by decide +kernel
theorem d_M_style_5 : decode (tm_c 49) 5 = .ok (.iload_n 1, 1) := by decide +kernel
theorem d_M_style_6 : decode (tm_c 49) 6 = .ok (.invokestatic 128, 3) := by decide +kernel
theorem d_M_style_9 : decode (tm_c 49) 9 = .ok (.ifCond .eq (34), 3) := by decide +kernel
theorem d_M_style_12 : decode (tm_c 49) 12 = .ok (.iload 4, 2) := by decide +kernel
theorem d_M_style_14 : decode (tm_c 49) 14 = .ok (.iconst (0), 1) := by decide +kernel
theorem d_M_style_15 : decode (tm_c 49) 15 = .ok (.iconst (3), 1) := by decide +kernel
theorem d_M_style_16 : decode (tm_c 49) 16 = .ok (.invokestatic 121, 3) := by decide +kernel
theorem d_M_style_19 : decode (tm_c 49) 19 = .ok (.ifCond .eq (24), 3) := by decide +kernel
theorem d_M_style_22 : decode (tm_c 49) 22 = .ok (.iload 5, 2) := by decide +kernel
theorem d_M_style_24 : decode (tm_c 49) 24 = .ok (.iconst (0), 1) := by decide +kernel
theorem d_M_style_25 : decode (tm_c 49) 25 = .ok (.bipush (9), 2) := by decide +kernel
theorem d_M_style_27 : decode (tm_c 49) 27 = .ok (.invokestatic 121, 3) := by decide +kernel
theorem d_M_style_30 : decode (tm_c 49) 30 = .ok (.ifCond .eq (13), 3) := by decide +kernel
theorem d_M_style_33 : decode (tm_c 49) 33 = .ok (.aload_n 0, 1) := by decide +kernel
theorem d_M_style_34 : decode (tm_c 49) 34 = .ok (.getfield 81, 3) := by decide +kernel
theorem d_M_style_37 : decode (tm_c 49) 37 = .ok (.sipush (250), 3) := by decide +kernel
theorem d_M_style_40 : decode (tm_c 49) 40 = .ok (.if_icmp .ne (5), 3) := by decide +kernel
theorem d_M_style_43 : decode (tm_c 49) 43 = .ok (.iconst (-1), 1) := by decide +kernel
theorem d_M_style_44 : decode (tm_c 49) 44 = .ok (.ireturn, 1) := by decide +kernel
theorem d_M_style_45 : decode (tm_c 49) 45 = .ok (.aload_n 0, 1) := by decide +kernel
theorem d_M_style_46 : decode (tm_c 49) 46 = .ok (.iload_n 1, 1) := by decide +kernel
theorem d_M_style_47 : decode (tm_c 49) 47 = .ok (.invokevirtual 134, 3) := by decide +kernel
theorem d_M_style_50 : decode (tm_c 49) 50 = .ok (.iload_n 2, 1) := by decide +kernel
theorem d_M_style_51 : decode (tm_c 49) 51 = .ok (.ifCond .lt (16), 3) := by decide +kernel
theorem d_M_style_54 : decode (tm_c 49) 54 = .ok (.iload_n 2, 1) := by decide +kernel
theorem d_M_style_55 : decode (tm_c 49) 55 = .ok (.iload_n 3, 1) := by decide +kernel
theorem d_M_style_56 : decode (tm_c 49) 56 = .ok (.if_icmp .ge (11), 3) := by decide +kernel
theorem d_M_style_59 : decode (tm_c 49) 59 = .ok (.iload_n 3, 1) := by decide +kernel
theorem d_M_style_60 : decode (tm_c 49) 60 = .ok (.aload_n 0, 1) := by decide +kernel
theorem d_M_style_61 : decode (tm_c 49) 61 = .ok (.getfield 101, 3) := by decide +kernel
theorem d_M_style_64 : decode (tm_c 49) 64 = .ok (.if_icmp .le (5), 3) := by decide +kernel
theorem d_M_style_67 : decode (tm_c 49) 67 = .ok (.iconst (-1), 1) := by decide +kernel
theorem d_M_style_68 : decode (tm_c 49) 68 = .ok (.ireturn, 1) := by decide +kernel
theorem d_M_style_69 : decode (tm_c 49) 69 = .ok (.iload 4, 2) := by decide +kernel
theorem d_M_style_71 : decode (tm_c 49) 71 = .ok (.iconst (1), 1) := by decide +kernel
theorem d_M_style_72 : decode (tm_c 49) 72 = .ok (.if_icmp .le (14), 3) := by decide +kernel
theorem d_M_style_75 : decode (tm_c 49) 75 = .ok (.aload_n 0, 1) := by decide +kernel
theorem d_M_style_76 : decode (tm_c 49) 76 = .ok (.getfield 54, 3) := by decide +kernel
theorem d_M_style_79 : decode (tm_c 49) 79 = .ok (.iload_n 3, 1) := by decide +kernel
theorem d_M_style_80 : decode (tm_c 49) 80 = .ok (.iconst (1), 1) := by decide +kernel
theorem d_M_style_81 : decode (tm_c 49) 81 = .ok (.isub, 1) := by decide +kernel
theorem d_M_style_82 : decode (tm_c 49) 82 = .ok (.iaload, 1) := by decide +kernel
theorem d_M_style_83 : decode (tm_c 49) 83 = .ok (.goto (21), 3) := by decide +kernel
theorem d_M_style_86 : decode (tm_c 49) 86 = .ok (.iload_n 3, 1) := by decide +kernel
theorem d_M_style_87 : decode (tm_c 49) 87 = .ok (.aload_n 0, 1) := by decide +kernel
theorem d_M_style_88 : decode (tm_c 49) 88 = .ok (.getfield 101, 3) := by decide +kernel
theorem d_M_style_91 : decode (tm_c 49) 91 = .ok (.if_icmp .ne (7), 3) := by decide +kernel
theorem d_M_style_94 : decode (tm_c 49) 94 = .ok (.iconst (0), 1) := by decide +kernel
theorem d_M_style_95 : decode (tm_c 49) 95 = .ok (.goto (9), 3) := by decide +kernel
theorem d_M_style_98 : decode (tm_c 49) 98 = .ok (.aload_n 0, 1) := by decide +kernel
theorem d_M_style_99 : decode (tm_c 49) 99 = .ok (.getfield 54, 3) := by decide +kernel
theorem d_M_style_102 : decode (tm_c 49) 102 = .ok (.iload_n 3, 1) := by decide +kernel
theorem d_M_style_103 : decode (tm_c 49) 103 = .ok (.iaload, 1) := by decide +kernel
theorem d_M_style_104 : decode (tm_c 49) 104 = .ok (.istore 6, 2) := by decide +kernel
theorem d_M_style_106 : decode (tm_c 49) 106 = .ok (.aload_n 0, 1) := by decide +kernel
theorem d_M_style_107 : decode (tm_c 49) 107 = .ok (.iload_n 1, 1) := by decide +kernel
theorem d_M_style_108 : decode (tm_c 49) 108 = .ok (.iconst (2), 1) := by decide +kernel
theorem d_M_style_109 : decode (tm_c 49) 109 = .ok (.iload 4, 2) := by decide +kernel
theorem d_M_style_111 : decode (tm_c 49) 111 = .ok (.iload 5, 2) := by decide +kernel
theorem d_M_style_113 : decode (tm_c 49) 113 = .ok (.aload_n 0, 1) := by decide +kernel
theorem d_M_style_114 : decode (tm_c 49) 114 = .ok (.getfield 54, 3) := by decide +kernel
theorem d_M_style_117 : decode (tm_c 49) 117 = .ok (.iload_n 2, 1) := by decide +kernel
theorem d_M_style_118 : decode (tm_c 49) 118 = .ok (.iaload, 1) := by decide +kernel
theorem d_M_style_119 : decode (tm_c 49) 119 = .ok (.iload 6, 2) := by decide +kernel
theorem d_M_style_121 : decode (tm_c 49) 121 = .ok (.invokevirtual 137, 3) := by decide +kernel
theorem d_M_style_124 : decode (tm_c 49) 124 = .ok (.ireturn, 1) := by decide +kernel
theorem g_M_style_0 : jSnd 49 0 (o_aload 1 0) := snd_aload_n d_M_style_0 rfl
theorem g_M_style_1 : jSnd 49 1 (o_push 2 (0)) := snd_iconst (n := 0) (z := 0) d_M_style_1 (by decide) (by unfold jrg; omega)
theorem g_M_style_2 : jSnd 49 2 (o_putI 5 14 (0)) := snd_putI (ci := 4) (k := 0) d_M_style_2 rfl tm_in4 tm_D4 tm_ty4 tm_nm4 (by decide) wd_338 rfl rfl rfl
theorem g_M_style_5 : jSnd 49 5 (o_iload 6 1) := snd_iload_n d_M_style_5 rfl
theorem g_M_style_6 : jSnd 49 6 (o_call 9 44 1 1 0 false) := snd_callS (n := 1) d_M_style_6 (by decide) (by decide) (by decide) wc_44 wd_339 wd_340 wd_7 (by decide +kernel) (by decide) (by decide)
theorem g_M_style_9 : jSnd 49 9 (o_if_eq 12 43) := snd_if_eq d_M_style_9 (by decide)
theorem g_M_style_12 : jSnd 49 12 (o_iload 14 4) := snd_iload d_M_style_12
theorem g_M_style_14 : jSnd 49 14 (o_push 15 (0)) := snd_iconst (n := 0) (z := 0) d_M_style_14 (by decide) (by unfold jrg; omega)
theorem g_M_style_15 : jSnd 49 15 (o_push 16 (3)) := snd_iconst (n := 3) (z := 3) d_M_style_15 (by decide) (by unfold jrg; omega)
theorem g_M_style_16 : jSnd 49 16 (o_call 19 34 3 3 0 false) := snd_callS (n := 3) d_M_style_16 (by decide) (by decide) (by decide) wc_34 wd_333 wd_334 wd_7 (by decide +kernel) (by decide) (by decide)
theorem g_M_style_19 : jSnd 49 19 (o_if_eq 22 43) := snd_if_eq d_M_style_19 (by decide)
theorem g_M_style_22 : jSnd 49 22 (o_iload 24 5) := snd_iload d_M_style_22
theorem g_M_style_24 : jSnd 49 24 (o_push 25 (0)) := snd_iconst (n := 0) (z := 0) d_M_style_24 (by decide) (by unfold jrg; omega)
theorem g_M_style_25 : jSnd 49 25 (o_push 27 (9)) := snd_bipush (n := 9) (z := 9) d_M_style_25 (by decide) (by unfold jrg; omega)
theorem g_M_style_27 : jSnd 49 27 (o_call 30 34 3 3 0 false) := snd_callS (n := 3) d_M_style_27 (by decide) (by decide) (by decide) wc_34 wd_333 wd_334 wd_7 (by decide +kernel) (by decide) (by decide)
theorem g_M_style_30 : jSnd 49 30 (o_if_eq 33 43) := snd_if_eq d_M_style_30 (by decide)
theorem g_M_style_33 : jSnd 49 33 (o_aload 34 0) := snd_aload_n d_M_style_33 rfl
theorem g_M_style_34 : jSnd 49 34 (o_getI 37 14 (1)) := snd_getI (ci := 4) (k := 1) d_M_style_34 rfl tm_in4 (by decide) wd_305 rfl
theorem g_M_style_37 : jSnd 49 37 (o_push 40 (250)) := snd_sipush (n := 250) (z := 250) d_M_style_37 (by decide) (by unfold jrg; omega)
theorem g_M_style_40 : jSnd 49 40 (o_ic_ne 43 45) := snd_ic_ne d_M_style_40 (by decide)
theorem g_M_style_43 : jSnd 49 43 (o_push 44 (-1)) := snd_iconst (n := -1) (z := -1) d_M_style_43 (by decide) (by unfold jrg; omega)
theorem g_M_style_44 : jSnd 49 44 (o_iret) := snd_iret d_M_style_44 rfl
theorem g_M_style_45 : jSnd 49 45 (o_aload 46 0) := snd_aload_n d_M_style_45 rfl
theorem g_M_style_46 : jSnd 49 46 (o_iload 47 1) := snd_iload_n d_M_style_46 rfl
theorem g_M_style_47 : jSnd 49 47 (o_call 50 43 2 4 14 true) := snd_callV (ci := 4) (n := 1) rfl d_M_style_47 (by decide) (by decide) (by decide) wc_43 wd_343 wd_344 wd_345 wd_7 (by decide +kernel) (by decide) (by decide)
theorem g_M_style_50 : jSnd 49 50 (o_iload 51 2) := snd_iload_n d_M_style_50 rfl
theorem g_M_style_51 : jSnd 49 51 (o_if_lt 54 67) := snd_if_lt d_M_style_51 (by decide)
theorem g_M_style_54 : jSnd 49 54 (o_iload 55 2) := snd_iload_n d_M_style_54 rfl
theorem g_M_style_55 : jSnd 49 55 (o_iload 56 3) := snd_iload_n d_M_style_55 rfl
theorem g_M_style_56 : jSnd 49 56 (o_ic_ge 59 67) := snd_ic_ge d_M_style_56 (by decide)
theorem g_M_style_59 : jSnd 49 59 (o_iload 60 3) := snd_iload_n d_M_style_59 rfl
theorem g_M_style_60 : jSnd 49 60 (o_aload 61 0) := snd_aload_n d_M_style_60 rfl
theorem g_M_style_61 : jSnd 49 61 (o_getI 64 14 (17)) := snd_getI (ci := 4) (k := 17) d_M_style_61 rfl tm_in4 (by decide) wd_317 rfl
theorem g_M_style_64 : jSnd 49 64 (o_ic_le 67 69) := snd_ic_le d_M_style_64 (by decide)
theorem g_M_style_67 : jSnd 49 67 (o_push 68 (-1)) := snd_iconst (n := -1) (z := -1) d_M_style_67 (by decide) (by unfold jrg; omega)
theorem g_M_style_68 : jSnd 49 68 (o_iret) := snd_iret d_M_style_68 rfl
theorem g_M_style_69 : jSnd 49 69 (o_iload 71 4) := snd_iload d_M_style_69
theorem g_M_style_71 : jSnd 49 71 (o_push 72 (1)) := snd_iconst (n := 1) (z := 1) d_M_style_71 (by decide) (by unfold jrg; omega)
theorem g_M_style_72 : jSnd 49 72 (o_ic_le 75 86) := snd_ic_le d_M_style_72 (by decide)
theorem g_M_style_75 : jSnd 49 75 (o_aload 76 0) := snd_aload_n d_M_style_75 rfl
theorem g_M_style_76 : jSnd 49 76 (o_getR 79 14 (18)) := snd_getR (ci := 4) (k := 18) d_M_style_76 rfl tm_in4 (by decide) wd_297 rfl
theorem g_M_style_79 : jSnd 49 79 (o_iload 80 3) := snd_iload_n d_M_style_79 rfl
theorem g_M_style_80 : jSnd 49 80 (o_push 81 (1)) := snd_iconst (n := 1) (z := 1) d_M_style_80 (by decide) (by unfold jrg; omega)
theorem g_M_style_81 : jSnd 49 81 (o_bin 82 f_sub) := snd_isub d_M_style_81
theorem g_M_style_82 : jSnd 49 82 (o_nald 83 1) := snd_iald d_M_style_82
theorem g_M_style_83 : jSnd 49 83 (o_goto 104) := snd_goto d_M_style_83 (by decide)
theorem g_M_style_86 : jSnd 49 86 (o_iload 87 3) := snd_iload_n d_M_style_86 rfl
theorem g_M_style_87 : jSnd 49 87 (o_aload 88 0) := snd_aload_n d_M_style_87 rfl
theorem g_M_style_88 : jSnd 49 88 (o_getI 91 14 (17)) := snd_getI (ci := 4) (k := 17) d_M_style_88 rfl tm_in4 (by decide) wd_317 rfl
theorem g_M_style_91 : jSnd 49 91 (o_ic_ne 94 98) := snd_ic_ne d_M_style_91 (by decide)
theorem g_M_style_94 : jSnd 49 94 (o_push 95 (0)) := snd_iconst (n := 0) (z := 0) d_M_style_94 (by decide) (by unfold jrg; omega)
theorem g_M_style_95 : jSnd 49 95 (o_goto 104) := snd_goto d_M_style_95 (by decide)
theorem g_M_style_98 : jSnd 49 98 (o_aload 99 0) := snd_aload_n d_M_style_98 rfl
theorem g_M_style_99 : jSnd 49 99 (o_getR 102 14 (18)) := snd_getR (ci := 4) (k := 18) d_M_style_99 rfl tm_in4 (by decide) wd_297 rfl
theorem g_M_style_102 : jSnd 49 102 (o_iload 103 3) := snd_iload_n d_M_style_102 rfl
theorem g_M_style_103 : jSnd 49 103 (o_nald 104 1) := snd_iald d_M_style_103
theorem g_M_style_104 : jSnd 49 104 (o_istore 106 6) := snd_istore d_M_style_104 (by decide)
theorem g_M_style_106 : jSnd 49 106 (o_aload 107 0) := snd_aload_n d_M_style_106 rfl
theorem g_M_style_107 : jSnd 49 107 (o_iload 108 1) := snd_iload_n d_M_style_107 rfl
theorem g_M_style_108 : jSnd 49 108 (o_push 109 (2)) := snd_iconst (n := 2) (z := 2) d_M_style_108 (by decide) (by unfold jrg; omega)
theorem g_M_style_109 : jSnd 49 109 (o_iload 111 4) := snd_iload d_M_style_109
theorem g_M_style_111 : jSnd 49 111 (o_iload 113 5) := snd_iload d_M_style_111
theorem g_M_style_113 : jSnd 49 113 (o_aload 114 0) := snd_aload_n d_M_style_113 rfl
theorem g_M_style_114 : jSnd 49 114 (o_getR 117 14 (18)) := snd_getR (ci := 4) (k := 18) d_M_style_114 rfl tm_in4 (by decide) wd_297 rfl
theorem g_M_style_117 : jSnd 49 117 (o_iload 118 2) := snd_iload_n d_M_style_117 rfl
theorem g_M_style_118 : jSnd 49 118 (o_nald 119 1) := snd_iald d_M_style_118
theorem g_M_style_119 : jSnd 49 119 (o_iload 121 6) := snd_iload d_M_style_119
theorem g_M_style_121 : jSnd 49 121 (o_call 124 45 7 7 14 false) := snd_callV (ci := 4) (n := 6) rfl d_M_style_121 (by decide) (by decide) (by decide) wc_45 wd_346 wd_347 wd_348 wd_7 (by decide +kernel) (by decide) (by decide)
theorem g_M_style_124 : jSnd 49 124 (o_iret) := snd_iret d_M_style_124 rfl
set_option maxRecDepth 100000 in
theorem ga_M_style : jAll 49 0 tmp_M_style := ⟨g_M_style_0, g_M_style_1, g_M_style_2, snd_bad _ _, snd_bad _ _, g_M_style_5, g_M_style_6, snd_bad _ _, snd_bad _ _, g_M_style_9, snd_bad _ _, snd_bad _ _, g_M_style_12, snd_bad _ _, g_M_style_14, g_M_style_15, g_M_style_16, snd_bad _ _, snd_bad _ _, g_M_style_19, snd_bad _ _, snd_bad _ _, g_M_style_22, snd_bad _ _, g_M_style_24, g_M_style_25, snd_bad _ _, g_M_style_27, snd_bad _ _, snd_bad _ _, g_M_style_30, snd_bad _ _, snd_bad _ _, g_M_style_33, g_M_style_34, snd_bad _ _, snd_bad _ _, g_M_style_37, snd_bad _ _, snd_bad _ _, g_M_style_40, snd_bad _ _, snd_bad _ _, g_M_style_43, g_M_style_44, g_M_style_45, g_M_style_46, g_M_style_47, snd_bad _ _, snd_bad _ _, g_M_style_50, g_M_style_51, snd_bad _ _, snd_bad _ _, g_M_style_54, g_M_style_55, g_M_style_56, snd_bad _ _, snd_bad _ _, g_M_style_59, g_M_style_60, g_M_style_61, snd_bad _ _, snd_bad _ _, g_M_style_64, snd_bad _ _, snd_bad _ _, g_M_style_67, g_M_style_68, g_M_style_69, snd_bad _ _, g_M_style_71, g_M_style_72, snd_bad _ _, snd_bad _ _, g_M_style_75, g_M_style_76, snd_bad _ _, snd_bad _ _, g_M_style_79, g_M_style_80, g_M_style_81, g_M_style_82, g_M_style_83, snd_bad _ _, snd_bad _ _, g_M_style_86, g_M_style_87, g_M_style_88, snd_bad _ _, snd_bad _ _, g_M_style_91, snd_bad _ _, snd_bad _ _, g_M_style_94, g_M_style_95, snd_bad _ _, snd_bad _ _, g_M_style_98, g_M_style_99, snd_bad _ _, snd_bad _ _, g_M_style_102, g_M_style_103, g_M_style_104, snd_bad _ _, g_M_style_106, g_M_style_107, g_M_style_108, g_M_style_109, snd_bad _ _, g_M_style_111, snd_bad _ _, g_M_style_113, g_M_style_114, snd_bad _ _, snd_bad _ _, g_M_style_117, g_M_style_118, g_M_style_119, snd_bad _ _, g_M_style_121, snd_bad _ _, snd_bad _ _, g_M_style_124, trivial⟩
theorem d_M_comment_0 : decode (tm_c 50) 0 = .ok (.aload_n 0, 1) := by decide +kernel
theorem d_M_comment_1 : decode (tm_c 50) 1 = .ok (.iconst (0), 1) := by decide +kernel
theorem d_M_comment_2 : decode (tm_c 50) 2 = .ok (.putfield 78, 3) := by decide +kernel
theorem d_M_comment_5 : decode (tm_c 50) 5 = .ok (.iload_n 1, 1) := by decide +kernel
theorem d_M_comment_6 : decode (tm_c 50) 6 = .ok (.invokestatic 128, 3) := by decide +kernel
theorem d_M_comment_9 : decode (tm_c 50) 9 = .ok (.ifCond .eq (13), 3) := by decide +kernel
theorem d_M_comment_12 : decode (tm_c 50) 12 = .ok (.aload_n 0, 1) := by decide +kernel
theorem d_M_comment_13 : decode (tm_c 50) 13 = .ok (.getfield 81, 3) := by decide +kernel
theorem d_M_comment_16 : decode (tm_c 50) 16 = .ok (.sipush (250), 3) := by decide +kernel
theorem d_M_comment_19 : decode (tm_c 50) 19 = .ok (.if_icmp .ne (5), 3) := by decide +kernel
theorem d_M_comment_22 : decode (tm_c 50) 22 = .ok (.iconst (-1), 1) := by decide +kernel
theorem d_M_comment_23 : decode (tm_c 50) 23 = .ok (.ireturn, 1) := by decide +kernel
theorem d_M_comment_24 : decode (tm_c 50) 24 = .ok (.aload_n 0, 1) := by decide +kernel
theorem d_M_comment_25 : decode (tm_c 50) 25 = .ok (.iload_n 1, 1) := by decide +kernel
theorem d_M_comment_26 : decode (tm_c 50) 26 = .ok (.invokevirtual 134, 3) := by decide +kernel
theorem d_M_comment_29 : decode (tm_c 50) 29 = .ok (.iload_n 2, 1) := by decide +kernel
theorem d_M_comment_30 : decode (tm_c 50) 30 = .ok (.ifCond .lt (16), 3) := by decide +kernel
theorem d_M_comment_33 : decode (tm_c 50) 33 = .ok (.iload_n 2, 1) := by decide +kernel
theorem d_M_comment_34 : decode (tm_c 50) 34 = .ok (.iload_n 3, 1) := by decide +kernel
theorem d_M_comment_35 : decode (tm_c 50) 35 = .ok (.if_icmp .ge (11), 3) := by decide +kernel
theorem d_M_comment_38 : decode (tm_c 50) 38 = .ok (.iload_n 3, 1) := by decide +kernel
theorem d_M_comment_39 : decode (tm_c 50) 39 = .ok (.aload_n 0, 1) := by decide +kernel
theorem d_M_comment_40 : decode (tm_c 50) 40 = .ok (.getfield 101, 3) := by decide +kernel
theorem d_M_comment_43 : decode (tm_c 50) 43 = .ok (.if_icmp .le (7), 3) := by decide +kernel
theorem d_M_comment_46 : decode (tm_c 50) 46 = .ok (.iconst (-1), 1) := by decide +kernel
theorem d_M_comment_47 : decode (tm_c 50) 47 = .ok (.goto (25), 3) := by decide +kernel
theorem d_M_comment_50 : decode (tm_c 50) 50 = .ok (.aload_n 0, 1) := by decide +kernel
theorem d_M_comment_51 : decode (tm_c 50) 51 = .ok (.iload_n 1, 1) := by decide +kernel
theorem d_M_comment_52 : decode (tm_c 50) 52 = .ok (.iconst (3), 1) := by decide +kernel
theorem d_M_comment_53 : decode (tm_c 50) 53 = .ok (.iconst (0), 1) := by decide +kernel
theorem d_M_comment_54 : decode (tm_c 50) 54 = .ok (.iconst (0), 1) := by decide +kernel
theorem d_M_comment_55 : decode (tm_c 50) 55 = .ok (.aload_n 0, 1) := by decide +kernel
theorem d_M_comment_56 : decode (tm_c 50) 56 = .ok (.getfield 54, 3) := by decide +kernel
theorem d_M_comment_59 : decode (tm_c 50) 59 = .ok (.iload_n 2, 1) := by decide +kernel
theorem d_M_comment_60 : decode (tm_c 50) 60 = .ok (.iaload, 1) := by decide +kernel
theorem d_M_comment_61 : decode (tm_c 50) 61 = .ok (.aload_n 0, 1) := by decide +kernel
theorem d_M_comment_62 : decode (tm_c 50) 62 = .ok (.getfield 54, 3) := by decide +kernel
theorem d_M_comment_65 : decode (tm_c 50) 65 = .ok (.iload_n 3, 1) := by decide +kernel
theorem d_M_comment_66 : decode (tm_c 50) 66 = .ok (.iconst (1), 1) := by decide +kernel
theorem d_M_comment_67 : decode (tm_c 50) 67 = .ok (.isub, 1) := by decide +kernel
theorem d_M_comment_68 : decode (tm_c 50) 68 = .ok (.iaload, 1) := by decide +kernel
theorem d_M_comment_69 : decode (tm_c 50) 69 = .ok (.invokevirtual 137, 3) := by decide +kernel
theorem d_M_comment_72 : decode (tm_c 50) 72 = .ok (.ireturn, 1) := by decide +kernel
theorem g_M_comment_0 : jSnd 50 0 (o_aload 1 0) := snd_aload_n d_M_comment_0 rfl
theorem g_M_comment_1 : jSnd 50 1 (o_push 2 (0)) := snd_iconst (n := 0) (z := 0) d_M_comment_1 (by decide) (by unfold jrg; omega)
theorem g_M_comment_2 : jSnd 50 2 (o_putI 5 14 (0)) := snd_putI (ci := 4) (k := 0) d_M_comment_2 rfl tm_in4 tm_D4 tm_ty4 tm_nm4 (by decide) wd_338 rfl rfl rfl
theorem g_M_comment_5 : jSnd 50 5 (o_iload 6 1) := snd_iload_n d_M_comment_5 rfl
theorem g_M_comment_6 : jSnd 50 6 (o_call 9 44 1 1 0 false) := snd_callS (n := 1) d_M_comment_6 (by decide) (by decide) (by decide) wc_44 wd_339 wd_340 wd_7 (by decide +kernel) (by decide) (by decide)
theorem g_M_comment_9 : jSnd 50 9 (o_if_eq 12 22) := snd_if_eq d_M_comment_9 (by decide)
theorem g_M_comment_12 : jSnd 50 12 (o_aload 13 0) := snd_aload_n d_M_comment_12 rfl
theorem g_M_comment_13 : jSnd 50 13 (o_getI 16 14 (1)) := snd_getI (ci := 4) (k := 1) d_M_comment_13 rfl tm_in4 (by decide) wd_305 rfl
theorem g_M_comment_16 : jSnd 50 16 (o_push 19 (250)) := snd_sipush (n := 250) (z := 250) d_M_comment_16 (by decide) (by unfold jrg; omega)
theorem g_M_comment_19 : jSnd 50 19 (o_ic_ne 22 24) := snd_ic_ne d_M_comment_19 (by decide)
theorem g_M_comment_22 : jSnd 50 22 (o_push 23 (-1)) := snd_iconst (n := -1) (z := -1) d_M_comment_22 (by decide) (by unfold jrg; omega)
theorem g_M_comment_23 : jSnd 50 23 (o_iret) := snd_iret d_M_comment_23 rfl
theorem g_M_comment_24 : jSnd 50 24 (o_aload 25 0) := snd_aload_n d_M_comment_24 rfl
theorem g_M_comment_25 : jSnd 50 25 (o_iload 26 1) := snd_iload_n d_M_comment_25 rfl
theorem g_M_comment_26 : jSnd 50 26 (o_call 29 43 2 4 14 true) := snd_callV (ci := 4) (n := 1) rfl d_M_comment_26 (by decide) (by decide) (by decide) wc_43 wd_343 wd_344 wd_345 wd_7 (by decide +kernel) (by decide) (by decide)
theorem g_M_comment_29 : jSnd 50 29 (o_iload 30 2) := snd_iload_n d_M_comment_29 rfl
theorem g_M_comment_30 : jSnd 50 30 (o_if_lt 33 46) := snd_if_lt d_M_comment_30 (by decide)
theorem g_M_comment_33 : jSnd 50 33 (o_iload 34 2) := snd_iload_n d_M_comment_33 rfl
theorem g_M_comment_34 : jSnd 50 34 (o_iload 35 3) := snd_iload_n d_M_comment_34 rfl
theorem g_M_comment_35 : jSnd 50 35 (o_ic_ge 38 46) := snd_ic_ge d_M_comment_35 (by decide)
theorem g_M_comment_38 : jSnd 50 38 (o_iload 39 3) := snd_iload_n d_M_comment_38 rfl
theorem g_M_comment_39 : jSnd 50 39 (o_aload 40 0) := snd_aload_n d_M_comment_39 rfl
theorem g_M_comment_40 : jSnd 50 40 (o_getI 43 14 (17)) := snd_getI (ci := 4) (k := 17) d_M_comment_40 rfl tm_in4 (by decide) wd_317 rfl
theorem g_M_comment_43 : jSnd 50 43 (o_ic_le 46 50) := snd_ic_le d_M_comment_43 (by decide)
theorem g_M_comment_46 : jSnd 50 46 (o_push 47 (-1)) := snd_iconst (n := -1) (z := -1) d_M_comment_46 (by decide) (by unfold jrg; omega)
theorem g_M_comment_47 : jSnd 50 47 (o_goto 72) := snd_goto d_M_comment_47 (by decide)
theorem g_M_comment_50 : jSnd 50 50 (o_aload 51 0) := snd_aload_n d_M_comment_50 rfl
theorem g_M_comment_51 : jSnd 50 51 (o_iload 52 1) := snd_iload_n d_M_comment_51 rfl
theorem g_M_comment_52 : jSnd 50 52 (o_push 53 (3)) := snd_iconst (n := 3) (z := 3) d_M_comment_52 (by decide) (by unfold jrg; omega)
theorem g_M_comment_53 : jSnd 50 53 (o_push 54 (0)) := snd_iconst (n := 0) (z := 0) d_M_comment_53 (by decide) (by unfold jrg; omega)
theorem g_M_comment_54 : jSnd 50 54 (o_push 55 (0)) := snd_iconst (n := 0) (z := 0) d_M_comment_54 (by decide) (by unfold jrg; omega)
theorem g_M_comment_55 : jSnd 50 55 (o_aload 56 0) := snd_aload_n d_M_comment_55 rfl
theorem g_M_comment_56 : jSnd 50 56 (o_getR 59 14 (18)) := snd_getR (ci := 4) (k := 18) d_M_comment_56 rfl tm_in4 (by decide) wd_297 rfl
theorem g_M_comment_59 : jSnd 50 59 (o_iload 60 2) := snd_iload_n d_M_comment_59 rfl
theorem g_M_comment_60 : jSnd 50 60 (o_nald 61 1) := snd_iald d_M_comment_60
theorem g_M_comment_61 : jSnd 50 61 (o_aload 62 0) := snd_aload_n d_M_comment_61 rfl
theorem g_M_comment_62 : jSnd 50 62 (o_getR 65 14 (18)) := snd_getR (ci := 4) (k := 18) d_M_comment_62 rfl tm_in4 (by decide) wd_297 rfl
theorem g_M_comment_65 : jSnd 50 65 (o_iload 66 3) := snd_iload_n d_M_comment_65 rfl
theorem g_M_comment_66 : jSnd 50 66 (o_push 67 (1)) := snd_iconst (n := 1) (z := 1) d_M_comment_66 (by decide) (by unfold jrg; omega)
theorem g_M_comment_67 : jSnd 50 67 (o_bin 68 f_sub) := snd_isub d_M_comment_67
theorem g_M_comment_68 : jSnd 50 68 (o_nald 69 1) := snd_iald d_M_comment_68
theorem g_M_comment_69 : jSnd 50 69 (o_call 72 45 7 7 14 false) := snd_callV (ci := 4) (n := 6) rfl d_M_comment_69 (by decide) (by decide) (by decide) wc_45 wd_346 wd_347 wd_348 wd_7 (by decide +kernel) (by decide) (by decide)
theorem g_M_comment_72 : jSnd 50 72 (o_iret) := snd_iret d_M_comment_72 rfl
set_option maxRecDepth 100000 in
theorem ga_M_comment : jAll 50 0 tmp_M_comment := ⟨g_M_comment_0, g_M_comment_1, g_M_comment_2, snd_bad _ _, snd_bad _ _, g_M_comment_5, g_M_comment_6, snd_bad _ _, snd_bad _ _, g_M_comment_9, snd_bad _ _, snd_bad _ _, g_M_comment_12, g_M_comment_13, snd_bad _ _, snd_bad _ _, g_M_comment_16, snd_bad _ _, snd_bad _ _, g_M_comment_19, snd_bad _ _, snd_bad _ _, g_M_comment_22, g_M_comment_23, g_M_comment_24, g_M_comment_25, g_M_comment_26, snd_bad _ _, snd_bad _ _, g_M_comment_29, g_M_comment_30, snd_bad _ _, snd_bad _ _, g_M_comment_33, g_M_comment_34, g_M_comment_35, snd_bad _ _, snd_bad _ _, g_M_comment_38, g_M_comment_39, g_M_comment_40, snd_bad _ _, snd_bad _ _, g_M_comment_43, snd_bad _ _, snd_bad _ _, g_M_comment_46, g_M_comment_47, snd_bad _ _, snd_bad _ _, g_M_comment_50, g_M_comment_51, g_M_comment_52, g_M_comment_53, g_M_comment_54, g_M_comment_55, g_M_comment_56, snd_bad _ _, snd_bad _ _, g_M_comment_59, g_M_comment_60, g_M_comment_61, g_M_comment_62, snd_bad _ _, snd_bad _ _, g_M_comment_65, g_M_comment_66, g_M_comment_67, g_M_comment_68, g_M_comment_69, snd_bad _ _, snd_bad _ _, g_M_comment_72, trivial⟩
theorem d_M_startOf_0 : decode (tm_c 51) 0 = .ok (.iload_n 1, 1) := by decide +kernel
theorem d_M_startOf_1 : decode (tm_c 51) 1 = .ok (.ifCond .ge (6), 3) := by decide +kernel
theorem d_M_startOf_4 : decode (tm_c 51) 4 = .ok (.bipush (-2), 2) := by decide +kernel
theorem d_M_startOf_6 : decode (tm_c 51) 6 = .ok (.ireturn, 1) := by decide +kernel
theorem d_M_startOf_7 : decode (tm_c 51) 7 = .ok (.iload_n 1, 1) := by decide +kernel
theorem d_M_startOf_8 : decode (tm_c 51) 8 = .ok (.istore_n 2, 1) := by decide +kernel
theorem d_M_startOf_9 : decode (tm_c 51) 9 = .ok (.iconst (0), 1) := by decide +kernel
theorem d_M_startOf_10 : decode (tm_c 51) 10 = .ok (.istore_n 3, 1) := by decide +kernel
theorem d_M_startOf_11 : decode (tm_c 51) 11 = .ok (.iload_n 3, 1) := by decide +kernel
theorem d_M_startOf_12 : decode (tm_c 51) 12 = .ok (.aload_n 0, 1) := by decide +kernel
theorem d_M_startOf_13 : decode (tm_c 51) 13 = .ok (.getfield 101, 3) := by decide +kernel
theorem d_M_startOf_16 : decode (tm_c 51) 16 = .ok (.if_icmp .ge (41), 3) := by decide +kernel
theorem d_M_startOf_19 : decode (tm_c 51) 19 = .ok (.iload_n 2, 1) := by decide +kernel
theorem d_M_startOf_20 : decode (tm_c 51) 20 = .ok (.ifCond .le (37), 3) := by decide +kernel
theorem d_M_startOf_23 : decode (tm_c 51) 23 = .ok (.aload_n 0, 1) := by decide +kernel
theorem d_M_startOf_24 : decode (tm_c 51) 24 = .ok (.getfield 19, 3) := by decide +kernel
theorem d_M_startOf_27 : decode (tm_c 51) 27 = .ok (.aload_n 0, 1) := by decide +kernel
theorem d_M_startOf_28 : decode (tm_c 51) 28 = .ok (.getfield 54, 3) := by decide +kernel
theorem d_M_startOf_31 : decode (tm_c 51) 31 = .ok (.iload_n 3, 1) := by decide +kernel
theorem d_M_startOf_32 : decode (tm_c 51) 32 = .ok (.iaload, 1) := by decide +kernel
theorem d_M_startOf_33 : decode (tm_c 51) 33 = .ok (.iaload, 1) := by decide +kernel
theorem d_M_startOf_34 : decode (tm_c 51) 34 = .ok (.bipush (10), 2) := by decide +kernel
theorem d_M_startOf_36 : decode (tm_c 51) 36 = .ok (.if_icmp .eq (6), 3) := by decide +kernel
theorem d_M_startOf_39 : decode (tm_c 51) 39 = .ok (.goto (12), 3) := by decide +kernel
theorem d_M_startOf_42 : decode (tm_c 51) 42 = .ok (.iinc 2 (-1), 3) := by decide +kernel
theorem d_M_startOf_45 : decode (tm_c 51) 45 = .ok (.iload_n 2, 1) := by decide +kernel
theorem d_M_startOf_46 : decode (tm_c 51) 46 = .ok (.ifCond .ne (5), 3) := by decide +kernel
theorem d_M_startOf_49 : decode (tm_c 51) 49 = .ok (.iload_n 3, 1) := by decide +kernel
theorem d_M_startOf_50 : decode (tm_c 51) 50 = .ok (.ireturn, 1) := by decide +kernel
theorem d_M_startOf_51 : decode (tm_c 51) 51 = .ok (.iinc 3 (1), 3) := by decide +kernel
theorem d_M_startOf_54 : decode (tm_c 51) 54 = .ok (.goto (-43), 3) := by decide +kernel
theorem d_M_startOf_57 : decode (tm_c 51) 57 = .ok (.iload_n 2, 1) := by decide +kernel
theorem d_M_startOf_58 : decode (tm_c 51) 58 = .ok (.ifCond .ne (7), 3) := by decide +kernel
theorem d_M_startOf_61 : decode (tm_c 51) 61 = .ok (.iconst (-1), 1) := by decide +kernel
theorem d_M_startOf_62 : decode (tm_c 51) 62 = .ok (.goto (5), 3) := by decide +kernel
theorem d_M_startOf_65 : decode (tm_c 51) 65 = .ok (.bipush (-2), 2) := by decide +kernel
theorem d_M_startOf_67 : decode (tm_c 51) 67 = .ok (.ireturn, 1) := by decide +kernel
theorem g_M_startOf_0 : jSnd 51 0 (o_iload 1 1) := snd_iload_n d_M_startOf_0 rfl
theorem g_M_startOf_1 : jSnd 51 1 (o_if_ge 4 7) := snd_if_ge d_M_startOf_1 (by decide)
theorem g_M_startOf_4 : jSnd 51 4 (o_push 6 (-2)) := snd_bipush (n := -2) (z := -2) d_M_startOf_4 (by decide) (by unfold jrg; omega)
theorem g_M_startOf_6 : jSnd 51 6 (o_iret) := snd_iret d_M_startOf_6 rfl
theorem g_M_startOf_7 : jSnd 51 7 (o_iload 8 1) := snd_iload_n d_M_startOf_7 rfl
theorem g_M_startOf_8 : jSnd 51 8 (o_istore 9 2) := snd_istore_n d_M_startOf_8 rfl (by decide)
theorem g_M_startOf_9 : jSnd 51 9 (o_push 10 (0)) := snd_iconst (n := 0) (z := 0) d_M_startOf_9 (by decide) (by unfold jrg; omega)
theorem g_M_startOf_10 : jSnd 51 10 (o_istore 11 3) := snd_istore_n d_M_startOf_10 rfl (by decide)
theorem g_M_startOf_11 : jSnd 51 11 (o_iload 12 3) := snd_iload_n d_M_startOf_11 rfl
theorem g_M_startOf_12 : jSnd 51 12 (o_aload 13 0) := snd_aload_n d_M_startOf_12 rfl
theorem g_M_startOf_13 : jSnd 51 13 (o_getI 16 14 (17)) := snd_getI (ci := 4) (k := 17) d_M_startOf_13 rfl tm_in4 (by decide) wd_317 rfl
theorem g_M_startOf_16 : jSnd 51 16 (o_ic_ge 19 57) := snd_ic_ge d_M_startOf_16 (by decide)
theorem g_M_startOf_19 : jSnd 51 19 (o_iload 20 2) := snd_iload_n d_M_startOf_19 rfl
theorem g_M_startOf_20 : jSnd 51 20 (o_if_le 23 57) := snd_if_le d_M_startOf_20 (by decide)
theorem g_M_startOf_23 : jSnd 51 23 (o_aload 24 0) := snd_aload_n d_M_startOf_23 rfl
theorem g_M_startOf_24 : jSnd 51 24 (o_getR 27 14 (5)) := snd_getR (ci := 4) (k := 5) d_M_startOf_24 rfl tm_in4 (by decide) wd_285 rfl
theorem g_M_startOf_27 : jSnd 51 27 (o_aload 28 0) := snd_aload_n d_M_startOf_27 rfl
theorem g_M_startOf_28 : jSnd 51 28 (o_getR 31 14 (18)) := snd_getR (ci := 4) (k := 18) d_M_startOf_28 rfl tm_in4 (by decide) wd_297 rfl
theorem g_M_startOf_31 : jSnd 51 31 (o_iload 32 3) := snd_iload_n d_M_startOf_31 rfl
theorem g_M_startOf_32 : jSnd 51 32 (o_nald 33 1) := snd_iald d_M_startOf_32
theorem g_M_startOf_33 : jSnd 51 33 (o_nald 34 1) := snd_iald d_M_startOf_33
theorem g_M_startOf_34 : jSnd 51 34 (o_push 36 (10)) := snd_bipush (n := 10) (z := 10) d_M_startOf_34 (by decide) (by unfold jrg; omega)
theorem g_M_startOf_36 : jSnd 51 36 (o_ic_eq 39 42) := snd_ic_eq d_M_startOf_36 (by decide)
theorem g_M_startOf_39 : jSnd 51 39 (o_goto 51) := snd_goto d_M_startOf_39 (by decide)
theorem g_M_startOf_42 : jSnd 51 42 (o_iinc 45 2 (-1)) := snd_iinc d_M_startOf_42 (by decide)
theorem g_M_startOf_45 : jSnd 51 45 (o_iload 46 2) := snd_iload_n d_M_startOf_45 rfl
theorem g_M_startOf_46 : jSnd 51 46 (o_if_ne 49 51) := snd_if_ne d_M_startOf_46 (by decide)
theorem g_M_startOf_49 : jSnd 51 49 (o_iload 50 3) := snd_iload_n d_M_startOf_49 rfl
theorem g_M_startOf_50 : jSnd 51 50 (o_iret) := snd_iret d_M_startOf_50 rfl
theorem g_M_startOf_51 : jSnd 51 51 (o_iinc 54 3 (1)) := snd_iinc d_M_startOf_51 (by decide)
theorem g_M_startOf_54 : jSnd 51 54 (o_goto 11) := snd_goto d_M_startOf_54 (by decide)
theorem g_M_startOf_57 : jSnd 51 57 (o_iload 58 2) := snd_iload_n d_M_startOf_57 rfl
theorem g_M_startOf_58 : jSnd 51 58 (o_if_ne 61 65) := snd_if_ne d_M_startOf_58 (by decide)
theorem g_M_startOf_61 : jSnd 51 61 (o_push 62 (-1)) := snd_iconst (n := -1) (z := -1) d_M_startOf_61 (by decide) (by unfold jrg; omega)
theorem g_M_startOf_62 : jSnd 51 62 (o_goto 67) := snd_goto d_M_startOf_62 (by decide)
theorem g_M_startOf_65 : jSnd 51 65 (o_push 67 (-2)) := snd_bipush (n := -2) (z := -2) d_M_startOf_65 (by decide) (by unfold jrg; omega)
theorem g_M_startOf_67 : jSnd 51 67 (o_iret) := snd_iret d_M_startOf_67 rfl
set_option maxRecDepth 100000 in
theorem ga_M_startOf : jAll 51 0 tmp_M_startOf := ⟨g_M_startOf_0, g_M_startOf_1, snd_bad _ _, snd_bad _ _, g_M_startOf_4, snd_bad _ _, g_M_startOf_6, g_M_startOf_7, g_M_startOf_8, g_M_startOf_9, g_M_startOf_10, g_M_startOf_11, g_M_startOf_12, g_M_startOf_13, snd_bad _ _, snd_bad _ _, g_M_startOf_16, snd_bad _ _, snd_bad _ _, g_M_startOf_19, g_M_startOf_20, snd_bad _ _, snd_bad _ _, g_M_startOf_23, g_M_startOf_24, snd_bad _ _, snd_bad _ _, g_M_startOf_27, g_M_startOf_28, snd_bad _ _, snd_bad _ _, g_M_startOf_31, g_M_startOf_32, g_M_startOf_33, g_M_startOf_34, snd_bad _ _, g_M_startOf_36, snd_bad _ _, snd_bad _ _, g_M_startOf_39, snd_bad _ _, snd_bad _ _, g_M_startOf_42, snd_bad _ _, snd_bad _ _, g_M_startOf_45, g_M_startOf_46, snd_bad _ _, snd_bad _ _, g_M_startOf_49, g_M_startOf_50, g_M_startOf_51, snd_bad _ _, snd_bad _ _, g_M_startOf_54, snd_bad _ _, snd_bad _ _, g_M_startOf_57, g_M_startOf_58, snd_bad _ _, snd_bad _ _, g_M_startOf_61, g_M_startOf_62, snd_bad _ _, snd_bad _ _, g_M_startOf_65, snd_bad _ _, g_M_startOf_67, trivial⟩
theorem d_M_block_0 : decode (tm_c 52) 0 = .ok (.aload_n 0, 1) := by decide +kernel
theorem d_M_block_1 : decode (tm_c 52) 1 = .ok (.iconst (0), 1) := by decide +kernel
theorem d_M_block_2 : decode (tm_c 52) 2 = .ok (.putfield 78, 3) := by decide +kernel
theorem d_M_block_5 : decode (tm_c 52) 5 = .ok (.iload_n 1, 1) := by decide +kernel
theorem d_M_block_6 : decode (tm_c 52) 6 = .ok (.invokestatic 128, 3) := by decide +kernel
theorem d_M_block_9 : decode (tm_c 52) 9 = .ok (.ifCond .eq (23), 3) := by decide +kernel
theorem d_M_block_12 : decode (tm_c 52) 12 = .ok (.iload_n 3, 1) := by decide +kernel
theorem d_M_block_13 : decode (tm_c 52) 13 = .ok (.iconst (0), 1) := by decide +kernel
theorem d_M_block_14 : decode (tm_c 52) 14 = .ok (.bipush (9), 2) := by decide +kernel
theorem d_M_block_16 : decode (tm_c 52) 16 = .ok (.invokestatic 121, 3) := by decide +kernel
theorem d_M_block_19 : decode (tm_c 52) 19 = .ok (.ifCond .eq (13), 3) := by decide +kernel
theorem d_M_block_22 : decode (tm_c 52) 22 = .ok (.aload_n 0, 1) := by decide +kernel
theorem d_M_block_23 : decode (tm_c 52) 23 = .ok (.getfield 81, 3) := by decide +kernel
theorem d_M_block_26 : decode (tm_c 52) 26 = .ok (.sipush (250), 3) := by decide +kernel
theorem d_M_block_29 : decode (tm_c 52) 29 = .ok (.if_icmp .ne (5), 3) := by decide +kernel
theorem d_M_block_32 : decode (tm_c 52) 32 = .ok (.iconst (-1), 1) := by decide +kernel
theorem d_M_block_33 : decode (tm_c 52) 33 = .ok (.ireturn, 1) := by decide +kernel
theorem d_M_block_34 : decode (tm_c 52) 34 = .ok (.aload_n 0, 1) := by decide +kernel
theorem d_M_block_35 : decode (tm_c 52) 35 = .ok (.iload_n 1, 1) := by decide +kernel
theorem d_M_block_36 : decode (tm_c 52) 36 = .ok (.invokevirtual 134, 3) := by decide +kernel
theorem d_M_block_39 : decode (tm_c 52) 39 = .ok (.aload_n 0, 1) := by decide +kernel
theorem d_M_block_40 : decode (tm_c 52) 40 = .ok (.iload_n 2, 1) := by decide +kernel
theorem d_M_block_41 : decode (tm_c 52) 41 = .ok (.invokevirtual 141, 3) := by decide +kernel
theorem d_M_block_44 : decode (tm_c 52) 44 = .ok (.istore 4, 2) := by decide +kernel
theorem d_M_block_46 : decode (tm_c 52) 46 = .ok (.iload 4, 2) := by decide +kernel
theorem d_M_block_48 : decode (tm_c 52) 48 = .ok (.bipush (-2), 2) := by decide +kernel
theorem d_M_block_50 : decode (tm_c 52) 50 = .ok (.if_icmp .ne (7), 3) := by decide +kernel
theorem d_M_block_53 : decode (tm_c 52) 53 = .ok (.iconst (-1), 1) := by decide +kernel
theorem d_M_block_54 : decode (tm_c 52) 54 = .ok (.goto (29), 3) := by decide +kernel
theorem d_M_block_57 : decode (tm_c 52) 57 = .ok (.aload_n 0, 1) := by decide +kernel
theorem d_M_block_58 : decode (tm_c 52) 58 = .ok (.iload_n 1, 1) := by decide +kernel
theorem d_M_block_59 : decode (tm_c 52) 59 = .ok (.iconst (4), 1) := by decide +kernel
theorem d_M_block_60 : decode (tm_c 52) 60 = .ok (.iload_n 3, 1) := by decide +kernel
theorem d_M_block_61 : decode (tm_c 52) 61 = .ok (.iconst (0), 1) := by decide +kernel
theorem d_M_block_62 : decode (tm_c 52) 62 = .ok (.iload 4, 2) := by decide +kernel
theorem d_M_block_64 : decode (tm_c 52) 64 = .ok (.iconst (-1), 1) := by decide +kernel
theorem d_M_block_65 : decode (tm_c 52) 65 = .ok (.if_icmp .ne (7), 3) := by decide +kernel
theorem d_M_block_68 : decode (tm_c 52) 68 = .ok (.iconst (0), 1) := by decide +kernel
theorem d_M_block_69 : decode (tm_c 52) 69 = .ok (.goto (10), 3) := by decide +kernel
theorem d_M_block_72 : decode (tm_c 52) 72 = .ok (.aload_n 0, 1) := by decide +kernel
theorem d_M_block_73 : decode (tm_c 52) 73 = .ok (.getfield 54, 3) := by decide +kernel
theorem d_M_block_76 : decode (tm_c 52) 76 = .ok (.iload 4, 2) := by decide +kernel
theorem d_M_block_78 : decode (tm_c 52) 78 = .ok (.iaload, 1) := by decide +kernel
theorem d_M_block_79 : decode (tm_c 52) 79 = .ok (.iconst (0), 1) := by decide +kernel
theorem d_M_block_80 : decode (tm_c 52) 80 = .ok (.invokevirtual 137, 3) := by decide +kernel
theorem d_M_block_83 : decode (tm_c 52) 83 = .ok (.ireturn, 1) := by decide +kernel
theorem g_M_block_0 : jSnd 52 0 (o_aload 1 0) := snd_aload_n d_M_block_0 rfl
theorem g_M_block_1 : jSnd 52 1 (o_push 2 (0)) := snd_iconst (n := 0) (z := 0) d_M_block_1 (by decide) (by unfold jrg; omega)
theorem g_M_block_2 : jSnd 52 2 (o_putI 5 14 (0)) := snd_putI (ci := 4) (k := 0) d_M_block_2 rfl tm_in4 tm_D4 tm_ty4 tm_nm4 (by decide) wd_338 rfl rfl rfl
theorem g_M_block_5 : jSnd 52 5 (o_iload 6 1) := snd_iload_n d_M_block_5 rfl
theorem g_M_block_6 : jSnd 52 6 (o_call 9 44 1 1 0 false) := snd_callS (n := 1) d_M_block_6 (by decide) (by decide) (by decide) wc_44 wd_339 wd_340 wd_7 (by decide +kernel) (by decide) (by decide)
theorem g_M_block_9 : jSnd 52 9 (o_if_eq 12 32) := snd_if_eq d_M_block_9 (by decide)
theorem g_M_block_12 : jSnd 52 12 (o_iload 13 3) := snd_iload_n d_M_block_12 rfl
theorem g_M_block_13 : jSnd 52 13 (o_push 14 (0)) := snd_iconst (n := 0) (z := 0) d_M_block_13 (by decide) (by unfold jrg; omega)
theorem g_M_block_14 : jSnd 52 14 (o_push 16 (9)) := snd_bipush (n := 9) (z := 9) d_M_block_14 (by decide) (by unfold jrg; omega)
theorem g_M_block_16 : jSnd 52 16 (o_call 19 34 3 3 0 false) := snd_callS (n := 3) d_M_block_16 (by decide) (by decide) (by decide) wc_34 wd_333 wd_334 wd_7 (by decide +kernel) (by decide) (by decide)
theorem g_M_block_19 : jSnd 52 19 (o_if_eq 22 32) := snd_if_eq d_M_block_19 (by decide)
theorem g_M_block_22 : jSnd 52 22 (o_aload 23 0) := snd_aload_n d_M_block_22 rfl
theorem g_M_block_23 : jSnd 52 23 (o_getI 26 14 (1)) := snd_getI (ci := 4) (k := 1) d_M_block_23 rfl tm_in4 (by decide) wd_305 rfl
theorem g_M_block_26 : jSnd 52 26 (o_push 29 (250)) := snd_sipush (n := 250) (z := 250) d_M_block_26 (by decide) (by unfold jrg; omega)
theorem g_M_block_29 : jSnd 52 29 (o_ic_ne 32 34) := snd_ic_ne d_M_block_29 (by decide)
theorem g_M_block_32 : jSnd 52 32 (o_push 33 (-1)) := snd_iconst (n := -1) (z := -1) d_M_block_32 (by decide) (by unfold jrg; omega)
theorem g_M_block_33 : jSnd 52 33 (o_iret) := snd_iret d_M_block_33 rfl
theorem g_M_block_34 : jSnd 52 34 (o_aload 35 0) := snd_aload_n d_M_block_34 rfl
theorem g_M_block_35 : jSnd 52 35 (o_iload 36 1) := snd_iload_n d_M_block_35 rfl
theorem g_M_block_36 : jSnd 52 36 (o_call 39 43 2 4 14 true) := snd_callV (ci := 4) (n := 1) rfl d_M_block_36 (by decide) (by decide) (by decide) wc_43 wd_343 wd_344 wd_345 wd_7 (by decide +kernel) (by decide) (by decide)
theorem g_M_block_39 : jSnd 52 39 (o_aload 40 0) := snd_aload_n d_M_block_39 rfl
theorem g_M_block_40 : jSnd 52 40 (o_iload 41 2) := snd_iload_n d_M_block_40 rfl
theorem g_M_block_41 : jSnd 52 41 (o_call 44 51 2 4 14 false) := snd_callV (ci := 4) (n := 1) rfl d_M_block_41 (by decide) (by decide) (by decide) wc_51 wd_349 wd_350 wd_351 wd_7 (by decide +kernel) (by decide) (by decide)
theorem g_M_block_44 : jSnd 52 44 (o_istore 46 4) := snd_istore d_M_block_44 (by decide)
theorem g_M_block_46 : jSnd 52 46 (o_iload 48 4) := snd_iload d_M_block_46
theorem g_M_block_48 : jSnd 52 48 (o_push 50 (-2)) := snd_bipush (n := -2) (z := -2) d_M_block_48 (by decide) (by unfold jrg; omega)
theorem g_M_block_50 : jSnd 52 50 (o_ic_ne 53 57) := snd_ic_ne d_M_block_50 (by decide)
theorem g_M_block_53 : jSnd 52 53 (o_push 54 (-1)) := snd_iconst (n := -1) (z := -1) d_M_block_53 (by decide) (by unfold jrg; omega)
theorem g_M_block_54 : jSnd 52 54 (o_goto 83) := snd_goto d_M_block_54 (by decide)
theorem g_M_block_57 : jSnd 52 57 (o_aload 58 0) := snd_aload_n d_M_block_57 rfl
theorem g_M_block_58 : jSnd 52 58 (o_iload 59 1) := snd_iload_n d_M_block_58 rfl
theorem g_M_block_59 : jSnd 52 59 (o_push 60 (4)) := snd_iconst (n := 4) (z := 4) d_M_block_59 (by decide) (by unfold jrg; omega)
theorem g_M_block_60 : jSnd 52 60 (o_iload 61 3) := snd_iload_n d_M_block_60 rfl
theorem g_M_block_61 : jSnd 52 61 (o_push 62 (0)) := snd_iconst (n := 0) (z := 0) d_M_block_61 (by decide) (by unfold jrg; omega)
theorem g_M_block_62 : jSnd 52 62 (o_iload 64 4) := snd_iload d_M_block_62
theorem g_M_block_64 : jSnd 52 64 (o_push 65 (-1)) := snd_iconst (n := -1) (z := -1) d_M_block_64 (by decide) (by unfold jrg; omega)
theorem g_M_block_65 : jSnd 52 65 (o_ic_ne 68 72) := snd_ic_ne d_M_block_65 (by decide)
theorem g_M_block_68 : jSnd 52 68 (o_push 69 (0)) := snd_iconst (n := 0) (z := 0) d_M_block_68 (by decide) (by unfold jrg; omega)
theorem g_M_block_69 : jSnd 52 69 (o_goto 79) := snd_goto d_M_block_69 (by decide)
theorem g_M_block_72 : jSnd 52 72 (o_aload 73 0) := snd_aload_n d_M_block_72 rfl
theorem g_M_block_73 : jSnd 52 73 (o_getR 76 14 (18)) := snd_getR (ci := 4) (k := 18) d_M_block_73 rfl tm_in4 (by decide) wd_297 rfl
theorem g_M_block_76 : jSnd 52 76 (o_iload 78 4) := snd_iload d_M_block_76
theorem g_M_block_78 : jSnd 52 78 (o_nald 79 1) := snd_iald d_M_block_78
theorem g_M_block_79 : jSnd 52 79 (o_push 80 (0)) := snd_iconst (n := 0) (z := 0) d_M_block_79 (by decide) (by unfold jrg; omega)
theorem g_M_block_80 : jSnd 52 80 (o_call 83 45 7 7 14 false) := snd_callV (ci := 4) (n := 6) rfl d_M_block_80 (by decide) (by decide) (by decide) wc_45 wd_346 wd_347 wd_348 wd_7 (by decide +kernel) (by decide) (by decide)
theorem g_M_block_83 : jSnd 52 83 (o_iret) := snd_iret d_M_block_83 rfl
set_option maxRecDepth 100000 in
theorem ga_M_block : jAll 52 0 tmp_M_block := ⟨g_M_block_0, g_M_block_1, g_M_block_2, snd_bad _ _, snd_bad _ _, g_M_block_5, g_M_block_6, snd_bad _ _, snd_bad _ _, g_M_block_9, snd_bad _ _, snd_bad _ _, g_M_block_12, g_M_block_13, g_M_block_14, snd_bad _ _, g_M_block_16, snd_bad _ _, snd_bad _ _, g_M_block_19, snd_bad _ _, snd_bad _ _, g_M_block_22, g_M_block_23, snd_bad _ _, snd_bad _ _, g_M_block_26, snd_bad _ _, snd_bad _ _, g_M_block_29, snd_bad _ _, snd_bad _ _, g_M_block_32, g_M_block_33, g_M_block_34, g_M_block_35, g_M_block_36, snd_bad _ _, snd_bad _ _, g_M_block_39, g_M_block_40, g_M_block_41, snd_bad _ _, snd_bad _ _, g_M_block_44, snd_bad _ _, g_M_block_46, snd_bad _ _, g_M_block_48, snd_bad _ _, g_M_block_50, snd_bad _ _, snd_bad _ _, g_M_block_53, g_M_block_54, snd_bad _ _, snd_bad _ _, g_M_block_57, g_M_block_58, g_M_block_59, g_M_block_60, g_M_block_61, g_M_block_62, snd_bad _ _, g_M_block_64, g_M_block_65, snd_bad _ _, snd_bad _ _, g_M_block_68, g_M_block_69, snd_bad _ _, snd_bad _ _, g_M_block_72, g_M_block_73, snd_bad _ _, snd_bad _ _, g_M_block_76, snd_bad _ _, g_M_block_78, g_M_block_79, g_M_block_80, snd_bad _ _, snd_bad _ _, g_M_block_83, trivial⟩
theorem d_M_undo_0 : decode (tm_c 53) 0 = .ok (.aload_n 0, 1) := by decide +kernel
theorem d_M_undo_1 : decode (tm_c 53) 1 = .ok (.iconst (0), 1) := by decide +kernel
theorem d_M_undo_2 : decode (tm_c 53) 2 = .ok (.putfield 78, 3) := by decide +kernel
theorem d_M_undo_5 : decode (tm_c 53) 5 = .ok (.iload_n 1, 1) := by decide +kernel
theorem d_M_undo_6 : decode (tm_c 53) 6 = .ok (.invokestatic 128, 3) := by decide +kernel
theorem d_M_undo_9 : decode (tm_c 53) 9 = .ok (.ifCond .eq (45), 3) := by decide +kernel
theorem d_M_undo_12 : decode (tm_c 53) 12 = .ok (.iload_n 2, 1) := by decide +kernel
theorem d_M_undo_13 : decode (tm_c 53) 13 = .ok (.iconst (1), 1) := by decide +kernel
theorem d_M_undo_14 : decode (tm_c 53) 14 = .ok (.aload_n 0, 1) := by decide +kernel
theorem d_M_undo_15 : decode (tm_c 53) 15 = .ok (.getfield 81, 3) := by decide +kernel
theorem d_M_undo_18 : decode (tm_c 53) 18 = .ok (.invokestatic 121, 3) := by decide +kernel
theorem d_M_undo_21 : decode (tm_c 53) 21 = .ok (.ifCond .eq (33), 3) := by decide +kernel
theorem d_M_undo_24 : decode (tm_c 53) 24 = .ok (.aload_n 0, 1) := by decide +kernel
theorem d_M_undo_25 : decode (tm_c 53) 25 = .ok (.getfield 13, 3) := by decide +kernel
theorem d_M_undo_28 : decode (tm_c 53) 28 = .ok (.iload_n 2, 1) := by decide +kernel
theorem d_M_undo_29 : decode (tm_c 53) 29 = .ok (.iaload, 1) := by decide +kernel
theorem d_M_undo_30 : decode (tm_c 53) 30 = .ok (.iload_n 1, 1) := by decide +kernel
theorem d_M_undo_31 : decode (tm_c 53) 31 = .ok (.if_icmp .ne (23), 3) := by decide +kernel
theorem d_M_undo_34 : decode (tm_c 53) 34 = .ok (.aload_n 0, 1) := by decide +kernel
theorem d_M_undo_35 : decode (tm_c 53) 35 = .ok (.getfield 7, 3) := by decide +kernel
theorem d_M_undo_38 : decode (tm_c 53) 38 = .ok (.iload_n 2, 1) := by decide +kernel
theorem d_M_undo_39 : decode (tm_c 53) 39 = .ok (.iaload, 1) := by decide +kernel
theorem d_M_undo_40 : decode (tm_c 53) 40 = .ok (.iconst (5), 1) := by decide +kernel
theorem d_M_undo_41 : decode (tm_c 53) 41 = .ok (.if_icmp .eq (13), 3) := by decide +kernel
theorem d_M_undo_44 : decode (tm_c 53) 44 = .ok (.aload_n 0, 1) := by decide +kernel
theorem d_M_undo_45 : decode (tm_c 53) 45 = .ok (.getfield 81, 3) := by decide +kernel
theorem d_M_undo_48 : decode (tm_c 53) 48 = .ok (.sipush (250), 3) := by decide +kernel
theorem d_M_undo_51 : decode (tm_c 53) 51 = .ok (.if_icmp .ne (5), 3) := by decide +kernel
theorem d_M_undo_54 : decode (tm_c 53) 54 = .ok (.iconst (-1), 1) := by decide +kernel
theorem d_M_undo_55 : decode (tm_c 53) 55 = .ok (.ireturn, 1) := by decide +kernel
theorem d_M_undo_56 : decode (tm_c 53) 56 = .ok (.aload_n 0, 1) := by decide +kernel
theorem d_M_undo_57 : decode (tm_c 53) 57 = .ok (.iload_n 1, 1) := by decide +kernel
theorem d_M_undo_58 : decode (tm_c 53) 58 = .ok (.invokevirtual 134, 3) := by decide +kernel
theorem d_M_undo_61 : decode (tm_c 53) 61 = .ok (.aload_n 0, 1) := by decide +kernel
theorem d_M_undo_62 : decode (tm_c 53) 62 = .ok (.getfield 42, 3) := by decide +kernel
theorem d_M_undo_65 : decode (tm_c 53) 65 = .ok (.iload_n 2, 1) := by decide +kernel
theorem d_M_undo_66 : decode (tm_c 53) 66 = .ok (.baload, 1) := by decide +kernel
theorem d_M_undo_67 : decode (tm_c 53) 67 = .ok (.ifCond .eq (16), 3) := by decide +kernel
theorem d_M_undo_70 : decode (tm_c 53) 70 = .ok (.aload_n 0, 1) := by decide +kernel
theorem d_M_undo_71 : decode (tm_c 53) 71 = .ok (.iload_n 1, 1) := by decide +kernel
theorem d_M_undo_72 : decode (tm_c 53) 72 = .ok (.iconst (5), 1) := by decide +kernel
theorem d_M_undo_73 : decode (tm_c 53) 73 = .ok (.iconst (0), 1) := by decide +kernel
theorem d_M_undo_74 : decode (tm_c 53) 74 = .ok (.iconst (0), 1) := by decide +kernel
theorem d_M_undo_75 : decode (tm_c 53) 75 = .ok (.iload_n 2, 1) := by decide +kernel
theorem d_M_undo_76 : decode (tm_c 53) 76 = .ok (.iconst (0), 1) := by decide +kernel
theorem d_M_undo_77 : decode (tm_c 53) 77 = .ok (.invokevirtual 137, 3) := by decide +kernel
theorem d_M_undo_80 : decode (tm_c 53) 80 = .ok (.goto (4), 3) := by decide +kernel
theorem d_M_undo_83 : decode (tm_c 53) 83 = .ok (.iconst (-1), 1) := by decide +kernel
theorem d_M_undo_84 : decode (tm_c 53) 84 = .ok (.ireturn, 1) := by decide +kernel
theorem g_M_undo_0 : jSnd 53 0 (o_aload 1 0) := snd_aload_n d_M_undo_0 rfl
theorem g_M_undo_1 : jSnd 53 1 (o_push 2 (0)) := snd_iconst (n := 0) (z := 0) d_M_undo_1 (by decide) (by unfold jrg; omega)
theorem g_M_undo_2 : jSnd 53 2 (o_putI 5 14 (0)) := snd_putI (ci := 4) (k := 0) d_M_undo_2 rfl tm_in4 tm_D4 tm_ty4 tm_nm4 (by decide) wd_338 rfl rfl rfl
theorem g_M_undo_5 : jSnd 53 5 (o_iload 6 1) := snd_iload_n d_M_undo_5 rfl
theorem g_M_undo_6 : jSnd 53 6 (o_call 9 44 1 1 0 false) := snd_callS (n := 1) d_M_undo_6 (by decide) (by decide) (by decide) wc_44 wd_339 wd_340 wd_7 (by decide +kernel) (by decide) (by decide)
theorem g_M_undo_9 : jSnd 53 9 (o_if_eq 12 54) := snd_if_eq d_M_undo_9 (by decide)
theorem g_M_undo_12 : jSnd 53 12 (o_iload 13 2) := snd_iload_n d_M_undo_12 rfl
theorem g_M_undo_13 : jSnd 53 13 (o_push 14 (1)) := snd_iconst (n := 1) (z := 1) d_M_undo_13 (by decide) (by unfold jrg; omega)
theorem g_M_undo_14 : jSnd 53 14 (o_aload 15 0) := snd_aload_n d_M_undo_14 rfl
theorem g_M_undo_15 : jSnd 53 15 (o_getI 18 14 (1)) := snd_getI (ci := 4) (k := 1) d_M_undo_15 rfl tm_in4 (by decide) wd_305 rfl
theorem g_M_undo_18 : jSnd 53 18 (o_call 21 34 3 3 0 false) := snd_callS (n := 3) d_M_undo_18 (by decide) (by decide) (by decide) wc_34 wd_333 wd_334 wd_7 (by decide +kernel) (by decide) (by decide)
theorem g_M_undo_21 : jSnd 53 21 (o_if_eq 24 54) := snd_if_eq d_M_undo_21 (by decide)
theorem g_M_undo_24 : jSnd 53 24 (o_aload 25 0) := snd_aload_n d_M_undo_24 rfl
theorem g_M_undo_25 : jSnd 53 25 (o_getR 28 14 (3)) := snd_getR (ci := 4) (k := 3) d_M_undo_25 rfl tm_in4 (by decide) wd_283 rfl
theorem g_M_undo_28 : jSnd 53 28 (o_iload 29 2) := snd_iload_n d_M_undo_28 rfl
theorem g_M_undo_29 : jSnd 53 29 (o_nald 30 1) := snd_iald d_M_undo_29
theorem g_M_undo_30 : jSnd 53 30 (o_iload 31 1) := snd_iload_n d_M_undo_30 rfl
theorem g_M_undo_31 : jSnd 53 31 (o_ic_ne 34 54) := snd_ic_ne d_M_undo_31 (by decide)
theorem g_M_undo_34 : jSnd 53 34 (o_aload 35 0) := snd_aload_n d_M_undo_34 rfl
theorem g_M_undo_35 : jSnd 53 35 (o_getR 38 14 (2)) := snd_getR (ci := 4) (k := 2) d_M_undo_35 rfl tm_in4 (by decide) wd_282 rfl
theorem g_M_undo_38 : jSnd 53 38 (o_iload 39 2) := snd_iload_n d_M_undo_38 rfl
theorem g_M_undo_39 : jSnd 53 39 (o_nald 40 1) := snd_iald d_M_undo_39
theorem g_M_undo_40 : jSnd 53 40 (o_push 41 (5)) := snd_iconst (n := 5) (z := 5) d_M_undo_40 (by decide) (by unfold jrg; omega)
theorem g_M_undo_41 : jSnd 53 41 (o_ic_eq 44 54) := snd_ic_eq d_M_undo_41 (by decide)
theorem g_M_undo_44 : jSnd 53 44 (o_aload 45 0) := snd_aload_n d_M_undo_44 rfl
theorem g_M_undo_45 : jSnd 53 45 (o_getI 48 14 (1)) := snd_getI (ci := 4) (k := 1) d_M_undo_45 rfl tm_in4 (by decide) wd_305 rfl
theorem g_M_undo_48 : jSnd 53 48 (o_push 51 (250)) := snd_sipush (n := 250) (z := 250) d_M_undo_48 (by decide) (by unfold jrg; omega)
theorem g_M_undo_51 : jSnd 53 51 (o_ic_ne 54 56) := snd_ic_ne d_M_undo_51 (by decide)
theorem g_M_undo_54 : jSnd 53 54 (o_push 55 (-1)) := snd_iconst (n := -1) (z := -1) d_M_undo_54 (by decide) (by unfold jrg; omega)
theorem g_M_undo_55 : jSnd 53 55 (o_iret) := snd_iret d_M_undo_55 rfl
theorem g_M_undo_56 : jSnd 53 56 (o_aload 57 0) := snd_aload_n d_M_undo_56 rfl
theorem g_M_undo_57 : jSnd 53 57 (o_iload 58 1) := snd_iload_n d_M_undo_57 rfl
theorem g_M_undo_58 : jSnd 53 58 (o_call 61 43 2 4 14 true) := snd_callV (ci := 4) (n := 1) rfl d_M_undo_58 (by decide) (by decide) (by decide) wc_43 wd_343 wd_344 wd_345 wd_7 (by decide +kernel) (by decide) (by decide)
theorem g_M_undo_61 : jSnd 53 61 (o_aload 62 0) := snd_aload_n d_M_undo_61 rfl
theorem g_M_undo_62 : jSnd 53 62 (o_getR 65 14 (12)) := snd_getR (ci := 4) (k := 12) d_M_undo_62 rfl tm_in4 (by decide) wd_293 rfl
theorem g_M_undo_65 : jSnd 53 65 (o_iload 66 2) := snd_iload_n d_M_undo_65 rfl
theorem g_M_undo_66 : jSnd 53 66 (o_nald 67 2) := snd_zald d_M_undo_66
theorem g_M_undo_67 : jSnd 53 67 (o_if_eq 70 83) := snd_if_eq d_M_undo_67 (by decide)
theorem g_M_undo_70 : jSnd 53 70 (o_aload 71 0) := snd_aload_n d_M_undo_70 rfl
theorem g_M_undo_71 : jSnd 53 71 (o_iload 72 1) := snd_iload_n d_M_undo_71 rfl
theorem g_M_undo_72 : jSnd 53 72 (o_push 73 (5)) := snd_iconst (n := 5) (z := 5) d_M_undo_72 (by decide) (by unfold jrg; omega)
theorem g_M_undo_73 : jSnd 53 73 (o_push 74 (0)) := snd_iconst (n := 0) (z := 0) d_M_undo_73 (by decide) (by unfold jrg; omega)
theorem g_M_undo_74 : jSnd 53 74 (o_push 75 (0)) := snd_iconst (n := 0) (z := 0) d_M_undo_74 (by decide) (by unfold jrg; omega)
theorem g_M_undo_75 : jSnd 53 75 (o_iload 76 2) := snd_iload_n d_M_undo_75 rfl
theorem g_M_undo_76 : jSnd 53 76 (o_push 77 (0)) := snd_iconst (n := 0) (z := 0) d_M_undo_76 (by decide) (by unfold jrg; omega)
theorem g_M_undo_77 : jSnd 53 77 (o_call 80 45 7 7 14 false) := snd_callV (ci := 4) (n := 6) rfl d_M_undo_77 (by decide) (by decide) (by decide) wc_45 wd_346 wd_347 wd_348 wd_7 (by decide +kernel) (by decide) (by decide)
theorem g_M_undo_80 : jSnd 53 80 (o_goto 84) := snd_goto d_M_undo_80 (by decide)
theorem g_M_undo_83 : jSnd 53 83 (o_push 84 (-1)) := snd_iconst (n := -1) (z := -1) d_M_undo_83 (by decide) (by unfold jrg; omega)
theorem g_M_undo_84 : jSnd 53 84 (o_iret) := snd_iret d_M_undo_84 rfl
set_option maxRecDepth 100000 in
theorem ga_M_undo : jAll 53 0 tmp_M_undo := ⟨g_M_undo_0, g_M_undo_1, g_M_undo_2, snd_bad _ _, snd_bad _ _, g_M_undo_5, g_M_undo_6, snd_bad _ _, snd_bad _ _, g_M_undo_9, snd_bad _ _, snd_bad _ _, g_M_undo_12, g_M_undo_13, g_M_undo_14, g_M_undo_15, snd_bad _ _, snd_bad _ _, g_M_undo_18, snd_bad _ _, snd_bad _ _, g_M_undo_21, snd_bad _ _, snd_bad _ _, g_M_undo_24, g_M_undo_25, snd_bad _ _, snd_bad _ _, g_M_undo_28, g_M_undo_29, g_M_undo_30, g_M_undo_31, snd_bad _ _, snd_bad _ _, g_M_undo_34, g_M_undo_35, snd_bad _ _, snd_bad _ _, g_M_undo_38, g_M_undo_39, g_M_undo_40, g_M_undo_41, snd_bad _ _, snd_bad _ _, g_M_undo_44, g_M_undo_45, snd_bad _ _, snd_bad _ _, g_M_undo_48, snd_bad _ _, snd_bad _ _, g_M_undo_51, snd_bad _ _, snd_bad _ _, g_M_undo_54, g_M_undo_55, g_M_undo_56, g_M_undo_57, g_M_undo_58, snd_bad _ _, snd_bad _ _, g_M_undo_61, g_M_undo_62, snd_bad _ _, snd_bad _ _, g_M_undo_65, g_M_undo_66, g_M_undo_67, snd_bad _ _, snd_bad _ _, g_M_undo_70, g_M_undo_71, g_M_undo_72, g_M_undo_73, g_M_undo_74, g_M_undo_75, g_M_undo_76, g_M_undo_77, snd_bad _ _, snd_bad _ _, g_M_undo_80, snd_bad _ _, snd_bad _ _, g_M_undo_83, g_M_undo_84, trivial⟩
theorem d_M_learn_0 : decode (tm_c 54) 0 = .ok (.aload_n 0, 1) := by decide +kernel
theorem d_M_learn_1 : decode (tm_c 54) 1 = .ok (.getfield 31, 3) := by decide +kernel
theorem d_M_learn_4 : decode (tm_c 54) 4 = .ok (.sipush (251), 3) := by decide +kernel
theorem d_M_learn_7 : decode (tm_c 54) 7 = .ok (.iload_n 1, 1) := by decide +kernel
theorem d_M_learn_8 : decode (tm_c 54) 8 = .ok (.imul, 1) := by decide +kernel
theorem d_M_learn_9 : decode (tm_c 54) 9 = .ok (.iload_n 2, 1) := by decide +kernel
theorem d_M_learn_10 : decode (tm_c 54) 10 = .ok (.iadd, 1) := by decide +kernel
theorem d_M_learn_11 : decode (tm_c 54) 11 = .ok (.iconst (1), 1) := by decide +kernel
theorem d_M_learn_12 : decode (tm_c 54) 12 = .ok (.bastore, 1) := by decide +kernel
theorem d_M_learn_13 : decode (tm_c 54) 13 = .ok (.aload_n 0, 1) := by decide +kernel
theorem d_M_learn_14 : decode (tm_c 54) 14 = .ok (.getfield 35, 3) := by decide +kernel
theorem d_M_learn_17 : decode (tm_c 54) 17 = .ok (.iload_n 1, 1) := by decide +kernel
theorem d_M_learn_18 : decode (tm_c 54) 18 = .ok (.aload_n 0, 1) := by decide +kernel
theorem d_M_learn_19 : decode (tm_c 54) 19 = .ok (.getfield 16, 3) := by decide +kernel
theorem d_M_learn_22 : decode (tm_c 54) 22 = .ok (.iload_n 2, 1) := by decide +kernel
theorem d_M_learn_23 : decode (tm_c 54) 23 = .ok (.iaload, 1) := by decide +kernel
theorem d_M_learn_24 : decode (tm_c 54) 24 = .ok (.aload_n 0, 1) := by decide +kernel
theorem d_M_learn_25 : decode (tm_c 54) 25 = .ok (.getfield 35, 3) := by decide +kernel
theorem d_M_learn_28 : decode (tm_c 54) 28 = .ok (.iload_n 1, 1) := by decide +kernel
theorem d_M_learn_29 : decode (tm_c 54) 29 = .ok (.iaload, 1) := by decide +kernel
theorem d_M_learn_30 : decode (tm_c 54) 30 = .ok (.if_icmp .le (12), 3) := by decide +kernel
theorem d_M_learn_33 : decode (tm_c 54) 33 = .ok (.aload_n 0, 1) := by decide +kernel
theorem d_M_learn_34 : decode (tm_c 54) 34 = .ok (.getfield 16, 3) := by decide +kernel
theorem d_M_learn_37 : decode (tm_c 54) 37 = .ok (.iload_n 2, 1) := by decide +kernel
theorem d_M_learn_38 : decode (tm_c 54) 38 = .ok (.iaload, 1) := by decide +kernel
theorem d_M_learn_39 : decode (tm_c 54) 39 = .ok (.goto (9), 3) := by decide +kernel
theorem d_M_learn_42 : decode (tm_c 54) 42 = .ok (.aload_n 0, 1) := by decide +kernel
theorem d_M_learn_43 : decode (tm_c 54) 43 = .ok (.getfield 35, 3) := by decide +kernel
theorem d_M_learn_46 : decode (tm_c 54) 46 = .ok (.iload_n 1, 1) := by decide +kernel
theorem d_M_learn_47 : decode (tm_c 54) 47 = .ok (.iaload, 1) := by decide +kernel
theorem d_M_learn_48 : decode (tm_c 54) 48 = .ok (.iastore, 1) := by decide +kernel
theorem d_M_learn_49 : decode (tm_c 54) 49 = .ok (.aload_n 0, 1) := by decide +kernel
theorem d_M_learn_50 : decode (tm_c 54) 50 = .ok (.iconst (-1), 1) := by decide +kernel
theorem d_M_learn_51 : decode (tm_c 54) 51 = .ok (.putfield 38, 3) := by decide +kernel
theorem d_M_learn_54 : decode (tm_c 54) 54 = .ok (.return_, 1) := by decide +kernel
theorem g_M_learn_0 : jSnd 54 0 (o_aload 1 0) := snd_aload_n d_M_learn_0 rfl
theorem g_M_learn_1 : jSnd 54 1 (o_getR 4 14 (9)) := snd_getR (ci := 4) (k := 9) d_M_learn_1 rfl tm_in4 (by decide) wd_290 rfl
theorem g_M_learn_4 : jSnd 54 4 (o_push 7 (251)) := snd_sipush (n := 251) (z := 251) d_M_learn_4 (by decide) (by unfold jrg; omega)
theorem g_M_learn_7 : jSnd 54 7 (o_iload 8 1) := snd_iload_n d_M_learn_7 rfl
theorem g_M_learn_8 : jSnd 54 8 (o_bin 9 f_mul) := snd_imul d_M_learn_8
theorem g_M_learn_9 : jSnd 54 9 (o_iload 10 2) := snd_iload_n d_M_learn_9 rfl
theorem g_M_learn_10 : jSnd 54 10 (o_bin 11 f_add) := snd_iadd d_M_learn_10
theorem g_M_learn_11 : jSnd 54 11 (o_push 12 (1)) := snd_iconst (n := 1) (z := 1) d_M_learn_11 (by decide) (by unfold jrg; omega)
theorem g_M_learn_12 : jSnd 54 12 (o_zast 13) := snd_zast d_M_learn_12
theorem g_M_learn_13 : jSnd 54 13 (o_aload 14 0) := snd_aload_n d_M_learn_13 rfl
theorem g_M_learn_14 : jSnd 54 14 (o_getR 17 14 (10)) := snd_getR (ci := 4) (k := 10) d_M_learn_14 rfl tm_in4 (by decide) wd_291 rfl
theorem g_M_learn_17 : jSnd 54 17 (o_iload 18 1) := snd_iload_n d_M_learn_17 rfl
theorem g_M_learn_18 : jSnd 54 18 (o_aload 19 0) := snd_aload_n d_M_learn_18 rfl
theorem g_M_learn_19 : jSnd 54 19 (o_getR 22 14 (4)) := snd_getR (ci := 4) (k := 4) d_M_learn_19 rfl tm_in4 (by decide) wd_284 rfl
theorem g_M_learn_22 : jSnd 54 22 (o_iload 23 2) := snd_iload_n d_M_learn_22 rfl
theorem g_M_learn_23 : jSnd 54 23 (o_nald 24 1) := snd_iald d_M_learn_23
theorem g_M_learn_24 : jSnd 54 24 (o_aload 25 0) := snd_aload_n d_M_learn_24 rfl
theorem g_M_learn_25 : jSnd 54 25 (o_getR 28 14 (10)) := snd_getR (ci := 4) (k := 10) d_M_learn_25 rfl tm_in4 (by decide) wd_291 rfl
theorem g_M_learn_28 : jSnd 54 28 (o_iload 29 1) := snd_iload_n d_M_learn_28 rfl
theorem g_M_learn_29 : jSnd 54 29 (o_nald 30 1) := snd_iald d_M_learn_29
theorem g_M_learn_30 : jSnd 54 30 (o_ic_le 33 42) := snd_ic_le d_M_learn_30 (by decide)
theorem g_M_learn_33 : jSnd 54 33 (o_aload 34 0) := snd_aload_n d_M_learn_33 rfl
theorem g_M_learn_34 : jSnd 54 34 (o_getR 37 14 (4)) := snd_getR (ci := 4) (k := 4) d_M_learn_34 rfl tm_in4 (by decide) wd_284 rfl
theorem g_M_learn_37 : jSnd 54 37 (o_iload 38 2) := snd_iload_n d_M_learn_37 rfl
theorem g_M_learn_38 : jSnd 54 38 (o_nald 39 1) := snd_iald d_M_learn_38
theorem g_M_learn_39 : jSnd 54 39 (o_goto 48) := snd_goto d_M_learn_39 (by decide)
theorem g_M_learn_42 : jSnd 54 42 (o_aload 43 0) := snd_aload_n d_M_learn_42 rfl
theorem g_M_learn_43 : jSnd 54 43 (o_getR 46 14 (10)) := snd_getR (ci := 4) (k := 10) d_M_learn_43 rfl tm_in4 (by decide) wd_291 rfl
theorem g_M_learn_46 : jSnd 54 46 (o_iload 47 1) := snd_iload_n d_M_learn_46 rfl
theorem g_M_learn_47 : jSnd 54 47 (o_nald 48 1) := snd_iald d_M_learn_47
theorem g_M_learn_48 : jSnd 54 48 (o_iast 49) := snd_iast d_M_learn_48
theorem g_M_learn_49 : jSnd 54 49 (o_aload 50 0) := snd_aload_n d_M_learn_49 rfl
theorem g_M_learn_50 : jSnd 54 50 (o_push 51 (-1)) := snd_iconst (n := -1) (z := -1) d_M_learn_50 (by decide) (by unfold jrg; omega)
theorem g_M_learn_51 : jSnd 54 51 (o_putI 54 14 (11)) := snd_putI (ci := 4) (k := 11) d_M_learn_51 rfl tm_in4 tm_D4 tm_ty4 tm_nm4 (by decide) wd_292 rfl rfl rfl
theorem g_M_learn_54 : jSnd 54 54 (o_vret) := snd_vret d_M_learn_54 rfl
set_option maxRecDepth 100000 in
theorem ga_M_learn : jAll 54 0 tmp_M_learn := ⟨g_M_learn_0, g_M_learn_1, snd_bad _ _, snd_bad _ _, g_M_learn_4, snd_bad _ _, snd_bad _ _, g_M_learn_7, g_M_learn_8, g_M_learn_9, g_M_learn_10, g_M_learn_11, g_M_learn_12, g_M_learn_13, g_M_learn_14, snd_bad _ _, snd_bad _ _, g_M_learn_17, g_M_learn_18, g_M_learn_19, snd_bad _ _, snd_bad _ _, g_M_learn_22, g_M_learn_23, g_M_learn_24, g_M_learn_25, snd_bad _ _, snd_bad _ _, g_M_learn_28, g_M_learn_29, g_M_learn_30, snd_bad _ _, snd_bad _ _, g_M_learn_33, g_M_learn_34, snd_bad _ _, snd_bad _ _, g_M_learn_37, g_M_learn_38, g_M_learn_39, snd_bad _ _, snd_bad _ _, g_M_learn_42, g_M_learn_43, snd_bad _ _, snd_bad _ _, g_M_learn_46, g_M_learn_47, g_M_learn_48, g_M_learn_49, g_M_learn_50, g_M_learn_51, snd_bad _ _, snd_bad _ _, g_M_learn_54, trivial⟩
theorem d_M_see_0 : decode (tm_c 55) 0 = .ok (.aload_n 0, 1) := by decide +kernel
theorem d_M_see_1 : decode (tm_c 55) 1 = .ok (.iconst (0), 1) := by decide +kernel
theorem d_M_see_2 : decode (tm_c 55) 2 = .ok (.putfield 78, 3) := by decide +kernel
theorem d_M_see_5 : decode (tm_c 55) 5 = .ok (.iload_n 1, 1) := by decide +kernel
theorem d_M_see_6 : decode (tm_c 55) 6 = .ok (.invokestatic 128, 3) := by decide +kernel
theorem d_M_see_9 : decode (tm_c 55) 9 = .ok (.ifCond .eq (24), 3) := by decide +kernel
theorem d_M_see_12 : decode (tm_c 55) 12 = .ok (.iload_n 2, 1) := by decide +kernel
theorem d_M_see_13 : decode (tm_c 55) 13 = .ok (.iconst (1), 1) := by decide +kernel
theorem d_M_see_14 : decode (tm_c 55) 14 = .ok (.aload_n 0, 1) := by decide +kernel
theorem d_M_see_15 : decode (tm_c 55) 15 = .ok (.getfield 81, 3) := by decide +kernel
theorem d_M_see_18 : decode (tm_c 55) 18 = .ok (.invokestatic 121, 3) := by decide +kernel
theorem d_M_see_21 : decode (tm_c 55) 21 = .ok (.ifCond .eq (12), 3) := by decide +kernel
theorem d_M_see_24 : decode (tm_c 55) 24 = .ok (.aload_n 0, 1) := by decide +kernel
theorem d_M_see_25 : decode (tm_c 55) 25 = .ok (.iload_n 1, 1) := by decide +kernel
theorem d_M_see_26 : decode (tm_c 55) 26 = .ok (.iload_n 2, 1) := by decide +kernel
theorem d_M_see_27 : decode (tm_c 55) 27 = .ok (.invokevirtual 84, 3) := by decide +kernel
theorem d_M_see_30 : decode (tm_c 55) 30 = .ok (.ifCond .eq (5), 3) := by decide +kernel
theorem d_M_see_33 : decode (tm_c 55) 33 = .ok (.iconst (0), 1) := by decide +kernel
theorem d_M_see_34 : decode (tm_c 55) 34 = .ok (.ireturn, 1) := by decide +kernel
theorem d_M_see_35 : decode (tm_c 55) 35 = .ok (.aload_n 0, 1) := by decide +kernel
theorem d_M_see_36 : decode (tm_c 55) 36 = .ok (.getfield 25, 3) := by decide +kernel
theorem d_M_see_39 : decode (tm_c 55) 39 = .ok (.iload_n 2, 1) := by decide +kernel
theorem d_M_see_40 : decode (tm_c 55) 40 = .ok (.iaload, 1) := by decide +kernel
theorem d_M_see_41 : decode (tm_c 55) 41 = .ok (.ifCond .eq (17), 3) := by decide +kernel
theorem d_M_see_44 : decode (tm_c 55) 44 = .ok (.aload_n 0, 1) := by decide +kernel
theorem d_M_see_45 : decode (tm_c 55) 45 = .ok (.iload_n 1, 1) := by decide +kernel
theorem d_M_see_46 : decode (tm_c 55) 46 = .ok (.aload_n 0, 1) := by decide +kernel
theorem d_M_see_47 : decode (tm_c 55) 47 = .ok (.getfield 25, 3) := by decide +kernel
theorem d_M_see_50 : decode (tm_c 55) 50 = .ok (.iload_n 2, 1) := by decide +kernel
theorem d_M_see_51 : decode (tm_c 55) 51 = .ok (.iaload, 1) := by decide +kernel
theorem d_M_see_52 : decode (tm_c 55) 52 = .ok (.invokevirtual 84, 3) := by decide +kernel
theorem d_M_see_55 : decode (tm_c 55) 55 = .ok (.ifCond .eq (26), 3) := by decide +kernel
theorem d_M_see_58 : decode (tm_c 55) 58 = .ok (.aload_n 0, 1) := by decide +kernel
theorem d_M_see_59 : decode (tm_c 55) 59 = .ok (.getfield 28, 3) := by decide +kernel
theorem d_M_see_62 : decode (tm_c 55) 62 = .ok (.iload_n 2, 1) := by decide +kernel
theorem d_M_see_63 : decode (tm_c 55) 63 = .ok (.iaload, 1) := by decide +kernel
theorem d_M_see_64 : decode (tm_c 55) 64 = .ok (.ifCond .eq (19), 3) := by decide +kernel
theorem d_M_see_67 : decode (tm_c 55) 67 = .ok (.aload_n 0, 1) := by decide +kernel
theorem d_M_see_68 : decode (tm_c 55) 68 = .ok (.iload_n 1, 1) := by decide +kernel
theorem d_M_see_69 : decode (tm_c 55) 69 = .ok (.aload_n 0, 1) := by decide +kernel
theorem d_M_see_70 : decode (tm_c 55) 70 = .ok (.getfield 28, 3) := by decide +kernel
theorem d_M_see_73 : decode (tm_c 55) 73 = .ok (.iload_n 2, 1) := by decide +kernel
theorem d_M_see_74 : decode (tm_c 55) 74 = .ok (.iaload, 1) := by decide +kernel
theorem d_M_see_75 : decode (tm_c 55) 75 = .ok (.invokevirtual 84, 3) := by decide +kernel
theorem d_M_see_78 : decode (tm_c 55) 78 = .ok (.ifCond .ne (5), 3) := by decide +kernel
theorem d_M_see_81 : decode (tm_c 55) 81 = .ok (.iconst (0), 1) := by decide +kernel
theorem d_M_see_82 : decode (tm_c 55) 82 = .ok (.ireturn, 1) := by decide +kernel
theorem d_M_see_83 : decode (tm_c 55) 83 = .ok (.aload_n 0, 1) := by decide +kernel
theorem d_M_see_84 : decode (tm_c 55) 84 = .ok (.iload_n 1, 1) := by decide +kernel
theorem d_M_see_85 : decode (tm_c 55) 85 = .ok (.iload_n 2, 1) := by decide +kernel
theorem d_M_see_86 : decode (tm_c 55) 86 = .ok (.invokevirtual 145, 3) := by decide +kernel
theorem d_M_see_89 : decode (tm_c 55) 89 = .ok (.iconst (1), 1) := by decide +kernel
theorem d_M_see_90 : decode (tm_c 55) 90 = .ok (.ireturn, 1) := by decide +kernel
theorem g_M_see_0 : jSnd 55 0 (o_aload 1 0) := snd_aload_n d_M_see_0 rfl
theorem g_M_see_1 : jSnd 55 1 (o_push 2 (0)) := snd_iconst (n := 0) (z := 0) d_M_see_1 (by decide) (by unfold jrg; omega)
theorem g_M_see_2 : jSnd 55 2 (o_putI 5 14 (0)) := snd_putI (ci := 4) (k := 0) d_M_see_2 rfl tm_in4 tm_D4 tm_ty4 tm_nm4 (by decide) wd_338 rfl rfl rfl
theorem g_M_see_5 : jSnd 55 5 (o_iload 6 1) := snd_iload_n d_M_see_5 rfl
theorem g_M_see_6 : jSnd 55 6 (o_call 9 44 1 1 0 false) := snd_callS (n := 1) d_M_see_6 (by decide) (by decide) (by decide) wc_44 wd_339 wd_340 wd_7 (by decide +kernel) (by decide) (by decide)
theorem g_M_see_9 : jSnd 55 9 (o_if_eq 12 33) := snd_if_eq d_M_see_9 (by decide)
theorem g_M_see_12 : jSnd 55 12 (o_iload 13 2) := snd_iload_n d_M_see_12 rfl
theorem g_M_see_13 : jSnd 55 13 (o_push 14 (1)) := snd_iconst (n := 1) (z := 1) d_M_see_13 (by decide) (by unfold jrg; omega)
theorem g_M_see_14 : jSnd 55 14 (o_aload 15 0) := snd_aload_n d_M_see_14 rfl
theorem g_M_see_15 : jSnd 55 15 (o_getI 18 14 (1)) := snd_getI (ci := 4) (k := 1) d_M_see_15 rfl tm_in4 (by decide) wd_305 rfl
theorem g_M_see_18 : jSnd 55 18 (o_call 21 34 3 3 0 false) := snd_callS (n := 3) d_M_see_18 (by decide) (by decide) (by decide) wc_34 wd_333 wd_334 wd_7 (by decide +kernel) (by decide) (by decide)
theorem g_M_see_21 : jSnd 55 21 (o_if_eq 24 33) := snd_if_eq d_M_see_21 (by decide)
theorem g_M_see_24 : jSnd 55 24 (o_aload 25 0) := snd_aload_n d_M_see_24 rfl
theorem g_M_see_25 : jSnd 55 25 (o_iload 26 1) := snd_iload_n d_M_see_25 rfl
theorem g_M_see_26 : jSnd 55 26 (o_iload 27 2) := snd_iload_n d_M_see_26 rfl
theorem g_M_see_27 : jSnd 55 27 (o_call 30 35 3 3 14 false) := snd_callV (ci := 4) (n := 2) rfl d_M_see_27 (by decide) (by decide) (by decide) wc_35 wd_306 wd_307 wd_308 wd_7 (by decide +kernel) (by decide) (by decide)
theorem g_M_see_30 : jSnd 55 30 (o_if_eq 33 35) := snd_if_eq d_M_see_30 (by decide)
theorem g_M_see_33 : jSnd 55 33 (o_push 34 (0)) := snd_iconst (n := 0) (z := 0) d_M_see_33 (by decide) (by unfold jrg; omega)
theorem g_M_see_34 : jSnd 55 34 (o_zret) := snd_zret d_M_see_34 rfl
theorem g_M_see_35 : jSnd 55 35 (o_aload 36 0) := snd_aload_n d_M_see_35 rfl
theorem g_M_see_36 : jSnd 55 36 (o_getR 39 14 (7)) := snd_getR (ci := 4) (k := 7) d_M_see_36 rfl tm_in4 (by decide) wd_287 rfl
theorem g_M_see_39 : jSnd 55 39 (o_iload 40 2) := snd_iload_n d_M_see_39 rfl
theorem g_M_see_40 : jSnd 55 40 (o_nald 41 1) := snd_iald d_M_see_40
theorem g_M_see_41 : jSnd 55 41 (o_if_eq 44 58) := snd_if_eq d_M_see_41 (by decide)
theorem g_M_see_44 : jSnd 55 44 (o_aload 45 0) := snd_aload_n d_M_see_44 rfl
theorem g_M_see_45 : jSnd 55 45 (o_iload 46 1) := snd_iload_n d_M_see_45 rfl
theorem g_M_see_46 : jSnd 55 46 (o_aload 47 0) := snd_aload_n d_M_see_46 rfl
theorem g_M_see_47 : jSnd 55 47 (o_getR 50 14 (7)) := snd_getR (ci := 4) (k := 7) d_M_see_47 rfl tm_in4 (by decide) wd_287 rfl
theorem g_M_see_50 : jSnd 55 50 (o_iload 51 2) := snd_iload_n d_M_see_50 rfl
theorem g_M_see_51 : jSnd 55 51 (o_nald 52 1) := snd_iald d_M_see_51
theorem g_M_see_52 : jSnd 55 52 (o_call 55 35 3 3 14 false) := snd_callV (ci := 4) (n := 2) rfl d_M_see_52 (by decide) (by decide) (by decide) wc_35 wd_306 wd_307 wd_308 wd_7 (by decide +kernel) (by decide) (by decide)
theorem g_M_see_55 : jSnd 55 55 (o_if_eq 58 81) := snd_if_eq d_M_see_55 (by decide)
theorem g_M_see_58 : jSnd 55 58 (o_aload 59 0) := snd_aload_n d_M_see_58 rfl
theorem g_M_see_59 : jSnd 55 59 (o_getR 62 14 (8)) := snd_getR (ci := 4) (k := 8) d_M_see_59 rfl tm_in4 (by decide) wd_288 rfl
theorem g_M_see_62 : jSnd 55 62 (o_iload 63 2) := snd_iload_n d_M_see_62 rfl
theorem g_M_see_63 : jSnd 55 63 (o_nald 64 1) := snd_iald d_M_see_63
theorem g_M_see_64 : jSnd 55 64 (o_if_eq 67 83) := snd_if_eq d_M_see_64 (by decide)
theorem g_M_see_67 : jSnd 55 67 (o_aload 68 0) := snd_aload_n d_M_see_67 rfl
theorem g_M_see_68 : jSnd 55 68 (o_iload 69 1) := snd_iload_n d_M_see_68 rfl
theorem g_M_see_69 : jSnd 55 69 (o_aload 70 0) := snd_aload_n d_M_see_69 rfl
theorem g_M_see_70 : jSnd 55 70 (o_getR 73 14 (8)) := snd_getR (ci := 4) (k := 8) d_M_see_70 rfl tm_in4 (by decide) wd_288 rfl
theorem g_M_see_73 : jSnd 55 73 (o_iload 74 2) := snd_iload_n d_M_see_73 rfl
theorem g_M_see_74 : jSnd 55 74 (o_nald 75 1) := snd_iald d_M_see_74
theorem g_M_see_75 : jSnd 55 75 (o_call 78 35 3 3 14 false) := snd_callV (ci := 4) (n := 2) rfl d_M_see_75 (by decide) (by decide) (by decide) wc_35 wd_306 wd_307 wd_308 wd_7 (by decide +kernel) (by decide) (by decide)
theorem g_M_see_78 : jSnd 55 78 (o_if_ne 81 83) := snd_if_ne d_M_see_78 (by decide)
theorem g_M_see_81 : jSnd 55 81 (o_push 82 (0)) := snd_iconst (n := 0) (z := 0) d_M_see_81 (by decide) (by unfold jrg; omega)
theorem g_M_see_82 : jSnd 55 82 (o_zret) := snd_zret d_M_see_82 rfl
theorem g_M_see_83 : jSnd 55 83 (o_aload 84 0) := snd_aload_n d_M_see_83 rfl
theorem g_M_see_84 : jSnd 55 84 (o_iload 85 1) := snd_iload_n d_M_see_84 rfl
theorem g_M_see_85 : jSnd 55 85 (o_iload 86 2) := snd_iload_n d_M_see_85 rfl
theorem g_M_see_86 : jSnd 55 86 (o_call 89 54 3 3 14 true) := snd_callV (ci := 4) (n := 2) rfl d_M_see_86 (by decide) (by decide) (by decide) wc_54 wd_352 wd_353 wd_354 wd_7 (by decide +kernel) (by decide) (by decide)
theorem g_M_see_89 : jSnd 55 89 (o_push 90 (1)) := snd_iconst (n := 1) (z := 1) d_M_see_89 (by decide) (by unfold jrg; omega)
theorem g_M_see_90 : jSnd 55 90 (o_zret) := snd_zret d_M_see_90 rfl
set_option maxRecDepth 100000 in
theorem ga_M_see : jAll 55 0 tmp_M_see := ⟨g_M_see_0, g_M_see_1, g_M_see_2, snd_bad _ _, snd_bad _ _, g_M_see_5, g_M_see_6, snd_bad _ _, snd_bad _ _, g_M_see_9, snd_bad _ _, snd_bad _ _, g_M_see_12, g_M_see_13, g_M_see_14, g_M_see_15, snd_bad _ _, snd_bad _ _, g_M_see_18, snd_bad _ _, snd_bad _ _, g_M_see_21, snd_bad _ _, snd_bad _ _, g_M_see_24, g_M_see_25, g_M_see_26, g_M_see_27, snd_bad _ _, snd_bad _ _, g_M_see_30, snd_bad _ _, snd_bad _ _, g_M_see_33, g_M_see_34, g_M_see_35, g_M_see_36, snd_bad _ _, snd_bad _ _, g_M_see_39, g_M_see_40, g_M_see_41, snd_bad _ _, snd_bad _ _, g_M_see_44, g_M_see_45, g_M_see_46, g_M_see_47, snd_bad _ _, snd_bad _ _, g_M_see_50, g_M_see_51, g_M_see_52, snd_bad _ _, snd_bad _ _, g_M_see_55, snd_bad _ _, snd_bad _ _, g_M_see_58, g_M_see_59, snd_bad _ _, snd_bad _ _, g_M_see_62, g_M_see_63, g_M_see_64, snd_bad _ _, snd_bad _ _, g_M_see_67, g_M_see_68, g_M_see_69, g_M_see_70, snd_bad _ _, snd_bad _ _, g_M_see_73, g_M_see_74, g_M_see_75, snd_bad _ _, snd_bad _ _, g_M_see_78, snd_bad _ _, snd_bad _ _, g_M_see_81, g_M_see_82, g_M_see_83, g_M_see_84, g_M_see_85, g_M_see_86, snd_bad _ _, snd_bad _ _, g_M_see_89, g_M_see_90, trivial⟩
theorem d_M_meet_0 : decode (tm_c 56) 0 = .ok (.aload_n 0, 1) := by decide +kernel
theorem d_M_meet_1 : decode (tm_c 56) 1 = .ok (.iconst (0), 1) := by decide +kernel
theorem d_M_meet_2 : decode (tm_c 56) 2 = .ok (.putfield 78, 3) := by decide +kernel
theorem d_M_meet_5 : decode (tm_c 56) 5 = .ok (.iload_n 1, 1) := by decide +kernel
theorem d_M_meet_6 : decode (tm_c 56) 6 = .ok (.invokestatic 128, 3) := by decide +kernel
theorem d_M_meet_9 : decode (tm_c 56) 9 = .ok (.ifCond .eq (15), 3) := by decide +kernel
theorem d_M_meet_12 : decode (tm_c 56) 12 = .ok (.iload_n 2, 1) := by decide +kernel
theorem d_M_meet_13 : decode (tm_c 56) 13 = .ok (.invokestatic 128, 3) := by decide +kernel
theorem d_M_meet_16 : decode (tm_c 56) 16 = .ok (.ifCond .eq (8), 3) := by decide +kernel
theorem d_M_meet_19 : decode (tm_c 56) 19 = .ok (.iload_n 1, 1) := by decide +kernel
theorem d_M_meet_20 : decode (tm_c 56) 20 = .ok (.iload_n 2, 1) := by decide +kernel
theorem d_M_meet_21 : decode (tm_c 56) 21 = .ok (.if_icmp .ne (5), 3) := by decide +kernel
theorem d_M_meet_24 : decode (tm_c 56) 24 = .ok (.iconst (-1), 1) := by decide +kernel
theorem d_M_meet_25 : decode (tm_c 56) 25 = .ok (.ireturn, 1) := by decide +kernel
theorem d_M_meet_26 : decode (tm_c 56) 26 = .ok (.iconst (0), 1) := by decide +kernel
theorem d_M_meet_27 : decode (tm_c 56) 27 = .ok (.istore_n 3, 1) := by decide +kernel
theorem d_M_meet_28 : decode (tm_c 56) 28 = .ok (.iconst (1), 1) := by decide +kernel
theorem d_M_meet_29 : decode (tm_c 56) 29 = .ok (.istore 4, 2) := by decide +kernel
theorem d_M_meet_31 : decode (tm_c 56) 31 = .ok (.iload 4, 2) := by decide +kernel
theorem d_M_meet_33 : decode (tm_c 56) 33 = .ok (.aload_n 0, 1) := by decide +kernel
theorem d_M_meet_34 : decode (tm_c 56) 34 = .ok (.getfield 81, 3) := by decide +kernel
theorem d_M_meet_37 : decode (tm_c 56) 37 = .ok (.if_icmp .gt (42), 3) := by decide +kernel
theorem d_M_meet_40 : decode (tm_c 56) 40 = .ok (.aload_n 0, 1) := by decide +kernel
theorem d_M_meet_41 : decode (tm_c 56) 41 = .ok (.iload_n 2, 1) := by decide +kernel
theorem d_M_meet_42 : decode (tm_c 56) 42 = .ok (.iload 4, 2) := by decide +kernel
theorem d_M_meet_44 : decode (tm_c 56) 44 = .ok (.invokevirtual 84, 3) := by decide +kernel
theorem d_M_meet_47 : decode (tm_c 56) 47 = .ok (.ifCond .eq (26), 3) := by decide +kernel
theorem d_M_meet_50 : decode (tm_c 56) 50 = .ok (.aload_n 0, 1) := by decide +kernel
theorem d_M_meet_51 : decode (tm_c 56) 51 = .ok (.iload_n 1, 1) := by decide +kernel
theorem d_M_meet_52 : decode (tm_c 56) 52 = .ok (.iload 4, 2) := by decide +kernel
theorem d_M_meet_54 : decode (tm_c 56) 54 = .ok (.invokevirtual 84, 3) := by decide +kernel
theorem d_M_meet_57 : decode (tm_c 56) 57 = .ok (.ifCond .eq (6), 3) := by decide +kernel
theorem d_M_meet_60 : decode (tm_c 56) 60 = .ok (.goto (13), 3) := by decide +kernel
theorem d_M_meet_63 : decode (tm_c 56) 63 = .ok (.aload_n 0, 1) := by decide +kernel
theorem d_M_meet_64 : decode (tm_c 56) 64 = .ok (.iload_n 1, 1) := by decide +kernel
theorem d_M_meet_65 : decode (tm_c 56) 65 = .ok (.iload 4, 2) := by decide +kernel
theorem d_M_meet_67 : decode (tm_c 56) 67 = .ok (.invokevirtual 145, 3) := by decide +kernel
theorem d_M_meet_70 : decode (tm_c 56) 70 = .ok (.iinc 3 (1), 3) := by decide +kernel
theorem d_M_meet_73 : decode (tm_c 56) 73 = .ok (.iinc 4 (1), 3) := by decide +kernel
theorem d_M_meet_76 : decode (tm_c 56) 76 = .ok (.goto (-45), 3) := by decide +kernel
theorem d_M_meet_79 : decode (tm_c 56) 79 = .ok (.iload_n 3, 1) := by decide +kernel
theorem d_M_meet_80 : decode (tm_c 56) 80 = .ok (.ireturn, 1) := by decide +kernel
theorem g_M_meet_0 : jSnd 56 0 (o_aload 1 0) := snd_aload_n d_M_meet_0 rfl
theorem g_M_meet_1 : jSnd 56 1 (o_push 2 (0)) := snd_iconst (n := 0) (z := 0) d_M_meet_1 (by decide) (by unfold jrg; omega)
theorem g_M_meet_2 : jSnd 56 2 (o_putI 5 14 (0)) := snd_putI (ci := 4) (k := 0) d_M_meet_2 rfl tm_in4 tm_D4 tm_ty4 tm_nm4 (by decide) wd_338 rfl rfl rfl
theorem g_M_meet_5 : jSnd 56 5 (o_iload 6 1) := snd_iload_n d_M_meet_5 rfl
theorem g_M_meet_6 : jSnd 56 6 (o_call 9 44 1 1 0 false) := snd_callS (n := 1) d_M_meet_6 (by decide) (by decide) (by decide) wc_44 wd_339 wd_340 wd_7 (by decide +kernel) (by decide) (by decide)
theorem g_M_meet_9 : jSnd 56 9 (o_if_eq 12 24) := snd_if_eq d_M_meet_9 (by decide)
theorem g_M_meet_12 : jSnd 56 12 (o_iload 13 2) := snd_iload_n d_M_meet_12 rfl
theorem g_M_meet_13 : jSnd 56 13 (o_call 16 44 1 1 0 false) := snd_callS (n := 1) d_M_meet_13 (by decide) (by decide) (by decide) wc_44 wd_339 wd_340 wd_7 (by decide +kernel) (by decide) (by decide)
theorem g_M_meet_16 : jSnd 56 16 (o_if_eq 19 24) := snd_if_eq d_M_meet_16 (by decide)
theorem g_M_meet_19 : jSnd 56 19 (o_iload 20 1) := snd_iload_n d_M_meet_19 rfl
theorem g_M_meet_20 : jSnd 56 20 (o_iload 21 2) := snd_iload_n d_M_meet_20 rfl
theorem g_M_meet_21 : jSnd 56 21 (o_ic_ne 24 26) := snd_ic_ne d_M_meet_21 (by decide)
theorem g_M_meet_24 : jSnd 56 24 (o_push 25 (-1)) := snd_iconst (n := -1) (z := -1) d_M_meet_24 (by decide) (by unfold jrg; omega)
theorem g_M_meet_25 : jSnd 56 25 (o_iret) := snd_iret d_M_meet_25 rfl
theorem g_M_meet_26 : jSnd 56 26 (o_push 27 (0)) := snd_iconst (n := 0) (z := 0) d_M_meet_26 (by decide) (by unfold jrg; omega)
theorem g_M_meet_27 : jSnd 56 27 (o_istore 28 3) := snd_istore_n d_M_meet_27 rfl (by decide)
theorem g_M_meet_28 : jSnd 56 28 (o_push 29 (1)) := snd_iconst (n := 1) (z := 1) d_M_meet_28 (by decide) (by unfold jrg; omega)
theorem g_M_meet_29 : jSnd 56 29 (o_istore 31 4) := snd_istore d_M_meet_29 (by decide)
theorem g_M_meet_31 : jSnd 56 31 (o_iload 33 4) := snd_iload d_M_meet_31
theorem g_M_meet_33 : jSnd 56 33 (o_aload 34 0) := snd_aload_n d_M_meet_33 rfl
theorem g_M_meet_34 : jSnd 56 34 (o_getI 37 14 (1)) := snd_getI (ci := 4) (k := 1) d_M_meet_34 rfl tm_in4 (by decide) wd_305 rfl
theorem g_M_meet_37 : jSnd 56 37 (o_ic_gt 40 79) := snd_ic_gt d_M_meet_37 (by decide)
theorem g_M_meet_40 : jSnd 56 40 (o_aload 41 0) := snd_aload_n d_M_meet_40 rfl
theorem g_M_meet_41 : jSnd 56 41 (o_iload 42 2) := snd_iload_n d_M_meet_41 rfl
theorem g_M_meet_42 : jSnd 56 42 (o_iload 44 4) := snd_iload d_M_meet_42
theorem g_M_meet_44 : jSnd 56 44 (o_call 47 35 3 3 14 false) := snd_callV (ci := 4) (n := 2) rfl d_M_meet_44 (by decide) (by decide) (by decide) wc_35 wd_306 wd_307 wd_308 wd_7 (by decide +kernel) (by decide) (by decide)
theorem g_M_meet_47 : jSnd 56 47 (o_if_eq 50 73) := snd_if_eq d_M_meet_47 (by decide)
theorem g_M_meet_50 : jSnd 56 50 (o_aload 51 0) := snd_aload_n d_M_meet_50 rfl
theorem g_M_meet_51 : jSnd 56 51 (o_iload 52 1) := snd_iload_n d_M_meet_51 rfl
theorem g_M_meet_52 : jSnd 56 52 (o_iload 54 4) := snd_iload d_M_meet_52
theorem g_M_meet_54 : jSnd 56 54 (o_call 57 35 3 3 14 false) := snd_callV (ci := 4) (n := 2) rfl d_M_meet_54 (by decide) (by decide) (by decide) wc_35 wd_306 wd_307 wd_308 wd_7 (by decide +kernel) (by decide) (by decide)
theorem g_M_meet_57 : jSnd 56 57 (o_if_eq 60 63) := snd_if_eq d_M_meet_57 (by decide)
theorem g_M_meet_60 : jSnd 56 60 (o_goto 73) := snd_goto d_M_meet_60 (by decide)
theorem g_M_meet_63 : jSnd 56 63 (o_aload 64 0) := snd_aload_n d_M_meet_63 rfl
theorem g_M_meet_64 : jSnd 56 64 (o_iload 65 1) := snd_iload_n d_M_meet_64 rfl
theorem g_M_meet_65 : jSnd 56 65 (o_iload 67 4) := snd_iload d_M_meet_65
theorem g_M_meet_67 : jSnd 56 67 (o_call 70 54 3 3 14 true) := snd_callV (ci := 4) (n := 2) rfl d_M_meet_67 (by decide) (by decide) (by decide) wc_54 wd_352 wd_353 wd_354 wd_7 (by decide +kernel) (by decide) (by decide)
theorem g_M_meet_70 : jSnd 56 70 (o_iinc 73 3 (1)) := snd_iinc d_M_meet_70 (by decide)
theorem g_M_meet_73 : jSnd 56 73 (o_iinc 76 4 (1)) := snd_iinc d_M_meet_73 (by decide)
theorem g_M_meet_76 : jSnd 56 76 (o_goto 31) := snd_goto d_M_meet_76 (by decide)
theorem g_M_meet_79 : jSnd 56 79 (o_iload 80 3) := snd_iload_n d_M_meet_79 rfl
theorem g_M_meet_80 : jSnd 56 80 (o_iret) := snd_iret d_M_meet_80 rfl
set_option maxRecDepth 100000 in
theorem ga_M_meet : jAll 56 0 tmp_M_meet := ⟨g_M_meet_0, g_M_meet_1, g_M_meet_2, snd_bad _ _, snd_bad _ _, g_M_meet_5, g_M_meet_6, snd_bad _ _, snd_bad _ _, g_M_meet_9, snd_bad _ _, snd_bad _ _, g_M_meet_12, g_M_meet_13, snd_bad _ _, snd_bad _ _, g_M_meet_16, snd_bad _ _, snd_bad _ _, g_M_meet_19, g_M_meet_20, g_M_meet_21, snd_bad _ _, snd_bad _ _, g_M_meet_24, g_M_meet_25, g_M_meet_26, g_M_meet_27, g_M_meet_28, g_M_meet_29, snd_bad _ _, g_M_meet_31, snd_bad _ _, g_M_meet_33, g_M_meet_34, snd_bad _ _, snd_bad _ _, g_M_meet_37, snd_bad _ _, snd_bad _ _, g_M_meet_40, g_M_meet_41, g_M_meet_42, snd_bad _ _, g_M_meet_44, snd_bad _ _, snd_bad _ _, g_M_meet_47, snd_bad _ _, snd_bad _ _, g_M_meet_50, g_M_meet_51, g_M_meet_52, snd_bad _ _, g_M_meet_54, snd_bad _ _, snd_bad _ _, g_M_meet_57, snd_bad _ _, snd_bad _ _, g_M_meet_60, snd_bad _ _, snd_bad _ _, g_M_meet_63, g_M_meet_64, g_M_meet_65, snd_bad _ _, g_M_meet_67, snd_bad _ _, snd_bad _ _, g_M_meet_70, snd_bad _ _, snd_bad _ _, g_M_meet_73, snd_bad _ _, snd_bad _ _, g_M_meet_76, snd_bad _ _, snd_bad _ _, g_M_meet_79, g_M_meet_80, trivial⟩
theorem d_M_isSeen_0 : decode (tm_c 57) 0 = .ok (.iload_n 1, 1) := by decide +kernel
theorem d_M_isSeen_1 : decode (tm_c 57) 1 = .ok (.invokestatic 128, 3) := by decide +kernel
theorem d_M_isSeen_4 : decode (tm_c 57) 4 = .ok (.ifCond .ne (5), 3) := by decide +kernel
theorem d_M_isSeen_7 : decode (tm_c 57) 7 = .ok (.iconst (0), 1) := by decide +kernel
theorem d_M_isSeen_8 : decode (tm_c 57) 8 = .ok (.ireturn, 1) := by decide +kernel
theorem d_M_isSeen_9 : decode (tm_c 57) 9 = .ok (.aload_n 0, 1) := by decide +kernel
theorem d_M_isSeen_10 : decode (tm_c 57) 10 = .ok (.iload_n 1, 1) := by decide +kernel
theorem d_M_isSeen_11 : decode (tm_c 57) 11 = .ok (.invokevirtual 134, 3) := by decide +kernel
theorem d_M_isSeen_14 : decode (tm_c 57) 14 = .ok (.iload_n 2, 1) := by decide +kernel
theorem d_M_isSeen_15 : decode (tm_c 57) 15 = .ok (.iconst (0), 1) := by decide +kernel
theorem d_M_isSeen_16 : decode (tm_c 57) 16 = .ok (.aload_n 0, 1) := by decide +kernel
theorem d_M_isSeen_17 : decode (tm_c 57) 17 = .ok (.getfield 101, 3) := by decide +kernel
theorem d_M_isSeen_20 : decode (tm_c 57) 20 = .ok (.iconst (1), 1) := by decide +kernel
theorem d_M_isSeen_21 : decode (tm_c 57) 21 = .ok (.isub, 1) := by decide +kernel
theorem d_M_isSeen_22 : decode (tm_c 57) 22 = .ok (.invokestatic 121, 3) := by decide +kernel
theorem d_M_isSeen_25 : decode (tm_c 57) 25 = .ok (.ireturn, 1) := by decide +kernel
theorem g_M_isSeen_0 : jSnd 57 0 (o_iload 1 1) := snd_iload_n d_M_isSeen_0 rfl
theorem g_M_isSeen_1 : jSnd 57 1 (o_call 4 44 1 1 0 false) := snd_callS (n := 1) d_M_isSeen_1 (by decide) (by decide) (by decide) wc_44 wd_339 wd_340 wd_7 (by decide +kernel) (by decide) (by decide)
theorem g_M_isSeen_4 : jSnd 57 4 (o_if_ne 7 9) := snd_if_ne d_M_isSeen_4 (by decide)
theorem g_M_isSeen_7 : jSnd 57 7 (o_push 8 (0)) := snd_iconst (n := 0) (z := 0) d_M_isSeen_7 (by decide) (by unfold jrg; omega)
theorem g_M_isSeen_8 : jSnd 57 8 (o_zret) := snd_zret d_M_isSeen_8 rfl
theorem g_M_isSeen_9 : jSnd 57 9 (o_aload 10 0) := snd_aload_n d_M_isSeen_9 rfl
theorem g_M_isSeen_10 : jSnd 57 10 (o_iload 11 1) := snd_iload_n d_M_isSeen_10 rfl
theorem g_M_isSeen_11 : jSnd 57 11 (o_call 14 43 2 4 14 true) := snd_callV (ci := 4) (n := 1) rfl d_M_isSeen_11 (by decide) (by decide) (by decide) wc_43 wd_343 wd_344 wd_345 wd_7 (by decide +kernel) (by decide) (by decide)
theorem g_M_isSeen_14 : jSnd 57 14 (o_iload 15 2) := snd_iload_n d_M_isSeen_14 rfl
theorem g_M_isSeen_15 : jSnd 57 15 (o_push 16 (0)) := snd_iconst (n := 0) (z := 0) d_M_isSeen_15 (by decide) (by unfold jrg; omega)
theorem g_M_isSeen_16 : jSnd 57 16 (o_aload 17 0) := snd_aload_n d_M_isSeen_16 rfl
theorem g_M_isSeen_17 : jSnd 57 17 (o_getI 20 14 (17)) := snd_getI (ci := 4) (k := 17) d_M_isSeen_17 rfl tm_in4 (by decide) wd_317 rfl
theorem g_M_isSeen_20 : jSnd 57 20 (o_push 21 (1)) := snd_iconst (n := 1) (z := 1) d_M_isSeen_20 (by decide) (by unfold jrg; omega)
theorem g_M_isSeen_21 : jSnd 57 21 (o_bin 22 f_sub) := snd_isub d_M_isSeen_21
theorem g_M_isSeen_22 : jSnd 57 22 (o_call 25 34 3 3 0 false) := snd_callS (n := 3) d_M_isSeen_22 (by decide) (by decide) (by decide) wc_34 wd_333 wd_334 wd_7 (by decide +kernel) (by decide) (by decide)
theorem g_M_isSeen_25 : jSnd 57 25 (o_zret) := snd_zret d_M_isSeen_25 rfl
set_option maxRecDepth 100000 in
theorem ga_M_isSeen : jAll 57 0 tmp_M_isSeen := ⟨g_M_isSeen_0, g_M_isSeen_1, snd_bad _ _, snd_bad _ _, g_M_isSeen_4, snd_bad _ _, snd_bad _ _, g_M_isSeen_7, g_M_isSeen_8, g_M_isSeen_9, g_M_isSeen_10, g_M_isSeen_11, snd_bad _ _, snd_bad _ _, g_M_isSeen_14, g_M_isSeen_15, g_M_isSeen_16, g_M_isSeen_17, snd_bad _ _, snd_bad _ _, g_M_isSeen_20, g_M_isSeen_21, g_M_isSeen_22, snd_bad _ _, snd_bad _ _, g_M_isSeen_25, trivial⟩
theorem d_M_sign_0 : decode (tm_c 58) 0 = .ok (.aload_n 0, 1) := by decide +kernel
theorem d_M_sign_1 : decode (tm_c 58) 1 = .ok (.iconst (0), 1) := by decide +kernel
theorem d_M_sign_2 : decode (tm_c 58) 2 = .ok (.putfield 78, 3) := by decide +kernel
theorem d_M_sign_5 : decode (tm_c 58) 5 = .ok (.aload_n 0, 1) := by decide +kernel
theorem d_M_sign_6 : decode (tm_c 58) 6 = .ok (.iload_n 1, 1) := by decide +kernel
theorem d_M_sign_7 : decode (tm_c 58) 7 = .ok (.iload_n 2, 1) := by decide +kernel
theorem d_M_sign_8 : decode (tm_c 58) 8 = .ok (.invokevirtual 148, 3) := by decide +kernel
theorem d_M_sign_11 : decode (tm_c 58) 11 = .ok (.ifCond .eq (17), 3) := by decide +kernel
theorem d_M_sign_14 : decode (tm_c 58) 14 = .ok (.aload_n 0, 1) := by decide +kernel
theorem d_M_sign_15 : decode (tm_c 58) 15 = .ok (.getfield 19, 3) := by decide +kernel
theorem d_M_sign_18 : decode (tm_c 58) 18 = .ok (.aload_n 0, 1) := by decide +kernel
theorem d_M_sign_19 : decode (tm_c 58) 19 = .ok (.getfield 54, 3) := by decide +kernel
theorem d_M_sign_22 : decode (tm_c 58) 22 = .ok (.iload_n 2, 1) := by decide +kernel
theorem d_M_sign_23 : decode (tm_c 58) 23 = .ok (.iaload, 1) := by decide +kernel
theorem d_M_sign_24 : decode (tm_c 58) 24 = .ok (.iaload, 1) := by decide +kernel
theorem d_M_sign_25 : decode (tm_c 58) 25 = .ok (.goto (4), 3) := by decide +kernel
theorem d_M_sign_28 : decode (tm_c 58) 28 = .ok (.iconst (-1), 1) := by decide +kernel
theorem d_M_sign_29 : decode (tm_c 58) 29 = .ok (.ireturn, 1) := by decide +kernel
theorem g_M_sign_0 : jSnd 58 0 (o_aload 1 0) := snd_aload_n d_M_sign_0 rfl
theorem g_M_sign_1 : jSnd 58 1 (o_push 2 (0)) := snd_iconst (n := 0) (z := 0) d_M_sign_1 (by decide) (by unfold jrg; omega)
theorem g_M_sign_2 : jSnd 58 2 (o_putI 5 14 (0)) := snd_putI (ci := 4) (k := 0) d_M_sign_2 rfl tm_in4 tm_D4 tm_ty4 tm_nm4 (by decide) wd_338 rfl rfl rfl
theorem g_M_sign_5 : jSnd 58 5 (o_aload 6 0) := snd_aload_n d_M_sign_5 rfl
theorem g_M_sign_6 : jSnd 58 6 (o_iload 7 1) := snd_iload_n d_M_sign_6 rfl
theorem g_M_sign_7 : jSnd 58 7 (o_iload 8 2) := snd_iload_n d_M_sign_7 rfl
theorem g_M_sign_8 : jSnd 58 8 (o_call 11 57 3 3 14 false) := snd_callV (ci := 4) (n := 2) rfl d_M_sign_8 (by decide) (by decide) (by decide) wc_57 wd_355 wd_356 wd_357 wd_7 (by decide +kernel) (by decide) (by decide)
theorem g_M_sign_11 : jSnd 58 11 (o_if_eq 14 28) := snd_if_eq d_M_sign_11 (by decide)
theorem g_M_sign_14 : jSnd 58 14 (o_aload 15 0) := snd_aload_n d_M_sign_14 rfl
theorem g_M_sign_15 : jSnd 58 15 (o_getR 18 14 (5)) := snd_getR (ci := 4) (k := 5) d_M_sign_15 rfl tm_in4 (by decide) wd_285 rfl
theorem g_M_sign_18 : jSnd 58 18 (o_aload 19 0) := snd_aload_n d_M_sign_18 rfl
theorem g_M_sign_19 : jSnd 58 19 (o_getR 22 14 (18)) := snd_getR (ci := 4) (k := 18) d_M_sign_19 rfl tm_in4 (by decide) wd_297 rfl
theorem g_M_sign_22 : jSnd 58 22 (o_iload 23 2) := snd_iload_n d_M_sign_22 rfl
theorem g_M_sign_23 : jSnd 58 23 (o_nald 24 1) := snd_iald d_M_sign_23
theorem g_M_sign_24 : jSnd 58 24 (o_nald 25 1) := snd_iald d_M_sign_24
theorem g_M_sign_25 : jSnd 58 25 (o_goto 29) := snd_goto d_M_sign_25 (by decide)
theorem g_M_sign_28 : jSnd 58 28 (o_push 29 (-1)) := snd_iconst (n := -1) (z := -1) d_M_sign_28 (by decide) (by unfold jrg; omega)
theorem g_M_sign_29 : jSnd 58 29 (o_iret) := snd_iret d_M_sign_29 rfl
set_option maxRecDepth 100000 in
theorem ga_M_sign : jAll 58 0 tmp_M_sign := ⟨g_M_sign_0, g_M_sign_1, g_M_sign_2, snd_bad _ _, snd_bad _ _, g_M_sign_5, g_M_sign_6, g_M_sign_7, g_M_sign_8, snd_bad _ _, snd_bad _ _, g_M_sign_11, snd_bad _ _, snd_bad _ _, g_M_sign_14, g_M_sign_15, snd_bad _ _, snd_bad _ _, g_M_sign_18, g_M_sign_19, snd_bad _ _, snd_bad _ _, g_M_sign_22, g_M_sign_23, g_M_sign_24, g_M_sign_25, snd_bad _ _, snd_bad _ _, g_M_sign_28, g_M_sign_29, trivial⟩
