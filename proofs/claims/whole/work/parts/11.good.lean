theorem d_T_meet_0 : decode (tm_c 9) 0 = .ok (.aload_n 0, 1) := by decide +kernel
theorem d_T_meet_1 : decode (tm_c 9) 1 = .ok (.iload_n 1, 1) := by decide +kernel
theorem d_T_meet_2 : decode (tm_c 9) 2 = .ok (.invokevirtual 78, 3) := by decide +kernel
theorem d_T_meet_5 : decode (tm_c 9) 5 = .ok (.astore_n 3, 1) := by decide +kernel
theorem d_T_meet_6 : decode (tm_c 9) 6 = .ok (.aload_n 0, 1) := by decide +kernel
theorem d_T_meet_7 : decode (tm_c 9) 7 = .ok (.iload_n 2, 1) := by decide +kernel
theorem d_T_meet_8 : decode (tm_c 9) 8 = .ok (.invokevirtual 78, 3) := by decide +kernel
theorem d_T_meet_11 : decode (tm_c 9) 11 = .ok (.astore 4, 2) := by decide +kernel
theorem d_T_meet_13 : decode (tm_c 9) 13 = .ok (.aload_n 3, 1) := by decide +kernel
theorem d_T_meet_14 : decode (tm_c 9) 14 = .ok (.ifnull (13), 3) := by decide +kernel
theorem d_T_meet_17 : decode (tm_c 9) 17 = .ok (.aload 4, 2) := by decide +kernel
theorem d_T_meet_19 : decode (tm_c 9) 19 = .ok (.ifnull (8), 3) := by decide +kernel
theorem d_T_meet_22 : decode (tm_c 9) 22 = .ok (.iload_n 1, 1) := by decide +kernel
theorem d_T_meet_23 : decode (tm_c 9) 23 = .ok (.iload_n 2, 1) := by decide +kernel
theorem d_T_meet_24 : decode (tm_c 9) 24 = .ok (.if_icmp .ne (5), 3) := by decide +kernel
theorem d_T_meet_27 : decode (tm_c 9) 27 = .ok (.iconst (-1), 1) := by decide +kernel
theorem d_T_meet_28 : decode (tm_c 9) 28 = .ok (.ireturn, 1) := by decide +kernel
theorem d_T_meet_29 : decode (tm_c 9) 29 = .ok (.iconst (0), 1) := by decide +kernel
theorem d_T_meet_30 : decode (tm_c 9) 30 = .ok (.istore 5, 2) := by decide +kernel
theorem d_T_meet_32 : decode (tm_c 9) 32 = .ok (.iconst (1), 1) := by decide +kernel
theorem d_T_meet_33 : decode (tm_c 9) 33 = .ok (.istore 6, 2) := by decide +kernel
theorem d_T_meet_35 : decode (tm_c 9) 35 = .ok (.iload 6, 2) := by decide +kernel
theorem d_T_meet_37 : decode (tm_c 9) 37 = .ok (.aload_n 0, 1) := by decide +kernel
theorem d_T_meet_38 : decode (tm_c 9) 38 = .ok (.getfield 10, 3) := by decide +kernel
theorem d_T_meet_41 : decode (tm_c 9) 41 = .ok (.invokevirtual 93, 3) := by decide +kernel
theorem d_T_meet_44 : decode (tm_c 9) 44 = .ok (.if_icmp .gt (47), 3) := by decide +kernel
theorem d_T_meet_47 : decode (tm_c 9) 47 = .ok (.aload 4, 2) := by decide +kernel
theorem d_T_meet_49 : decode (tm_c 9) 49 = .ok (.iload 6, 2) := by decide +kernel
theorem d_T_meet_51 : decode (tm_c 9) 51 = .ok (.invokevirtual 82, 3) := by decide +kernel
theorem d_T_meet_54 : decode (tm_c 9) 54 = .ok (.ifCond .eq (31), 3) := by decide +kernel
theorem d_T_meet_57 : decode (tm_c 9) 57 = .ok (.aload_n 3, 1) := by decide +kernel
theorem d_T_meet_58 : decode (tm_c 9) 58 = .ok (.iload 6, 2) := by decide +kernel
theorem d_T_meet_60 : decode (tm_c 9) 60 = .ok (.invokevirtual 82, 3) := by decide +kernel
theorem d_T_meet_63 : decode (tm_c 9) 63 = .ok (.ifCond .ne (22), 3) := by decide +kernel
theorem d_T_meet_66 : decode (tm_c 9) 66 = .ok (.aload_n 3, 1) := by decide +kernel
theorem d_T_meet_67 : decode (tm_c 9) 67 = .ok (.iload 6, 2) := by decide +kernel
theorem d_T_meet_69 : decode (tm_c 9) 69 = .ok (.aload_n 0, 1) := by decide +kernel
theorem d_T_meet_70 : decode (tm_c 9) 70 = .ok (.getfield 10, 3) := by decide +kernel
theorem d_T_meet_73 : decode (tm_c 9) 73 = .ok (.iload 6, 2) := by decide +kernel
theorem d_T_meet_75 : decode (tm_c 9) 75 = .ok (.iconst (2), 1) := by decide +kernel
theorem d_T_meet_76 : decode (tm_c 9) 76 = .ok (.invokevirtual 71, 3) := by decide +kernel
theorem d_T_meet_79 : decode (tm_c 9) 79 = .ok (.invokevirtual 89, 3) := by decide +kernel
theorem d_T_meet_82 : decode (tm_c 9) 82 = .ok (.iinc 5 (1), 3) := by decide +kernel
theorem d_T_meet_85 : decode (tm_c 9) 85 = .ok (.iinc 6 (1), 3) := by decide +kernel
theorem d_T_meet_88 : decode (tm_c 9) 88 = .ok (.goto (-53), 3) := by decide +kernel
theorem d_T_meet_91 : decode (tm_c 9) 91 = .ok (.iload 5, 2) := by decide +kernel
theorem d_T_meet_93 : decode (tm_c 9) 93 = .ok (.ireturn, 1) := by decide +kernel
theorem g_T_meet_0 : jSnd 9 0 (o_aload 1 0) := snd_aload_n d_T_meet_0 rfl
theorem g_T_meet_1 : jSnd 9 1 (o_iload 2 1) := snd_iload_n d_T_meet_1 rfl
theorem g_T_meet_2 : jSnd 9 2 (o_call 5 20 2 2 13 false) := snd_callV (ci := 3) (n := 1) rfl d_T_meet_2 (by decide) (by decide) (by decide) wc_20 wd_172 wd_173 wd_174 wd_2 (by decide +kernel) (by decide) (by decide)
theorem g_T_meet_5 : jSnd 9 5 (o_astore 6 3) := snd_astore_n d_T_meet_5 rfl (by decide)
theorem g_T_meet_6 : jSnd 9 6 (o_aload 7 0) := snd_aload_n d_T_meet_6 rfl
theorem g_T_meet_7 : jSnd 9 7 (o_iload 8 2) := snd_iload_n d_T_meet_7 rfl
theorem g_T_meet_8 : jSnd 9 8 (o_call 11 20 2 2 13 false) := snd_callV (ci := 3) (n := 1) rfl d_T_meet_8 (by decide) (by decide) (by decide) wc_20 wd_172 wd_173 wd_174 wd_2 (by decide +kernel) (by decide) (by decide)
theorem g_T_meet_11 : jSnd 9 11 (o_astore 13 4) := snd_astore d_T_meet_11 (by decide)
theorem g_T_meet_13 : jSnd 9 13 (o_aload 14 3) := snd_aload_n d_T_meet_13 rfl
theorem g_T_meet_14 : jSnd 9 14 (o_ifnull 17 27) := snd_ifnull d_T_meet_14 (by decide)
theorem g_T_meet_17 : jSnd 9 17 (o_aload 19 4) := snd_aload d_T_meet_17
theorem g_T_meet_19 : jSnd 9 19 (o_ifnull 22 27) := snd_ifnull d_T_meet_19 (by decide)
theorem g_T_meet_22 : jSnd 9 22 (o_iload 23 1) := snd_iload_n d_T_meet_22 rfl
theorem g_T_meet_23 : jSnd 9 23 (o_iload 24 2) := snd_iload_n d_T_meet_23 rfl
theorem g_T_meet_24 : jSnd 9 24 (o_ic_ne 27 29) := snd_ic_ne d_T_meet_24 (by decide)
theorem g_T_meet_27 : jSnd 9 27 (o_push 28 (-1)) := snd_iconst (n := -1) (z := -1) d_T_meet_27 (by decide) (by unfold jrg; omega)
theorem g_T_meet_28 : jSnd 9 28 (o_iret) := snd_iret d_T_meet_28 rfl
theorem g_T_meet_29 : jSnd 9 29 (o_push 30 (0)) := snd_iconst (n := 0) (z := 0) d_T_meet_29 (by decide) (by unfold jrg; omega)
theorem g_T_meet_30 : jSnd 9 30 (o_istore 32 5) := snd_istore d_T_meet_30 (by decide)
theorem g_T_meet_32 : jSnd 9 32 (o_push 33 (1)) := snd_iconst (n := 1) (z := 1) d_T_meet_32 (by decide) (by unfold jrg; omega)
theorem g_T_meet_33 : jSnd 9 33 (o_istore 35 6) := snd_istore d_T_meet_33 (by decide)
theorem g_T_meet_35 : jSnd 9 35 (o_iload 37 6) := snd_iload d_T_meet_35
theorem g_T_meet_37 : jSnd 9 37 (o_aload 38 0) := snd_aload_n d_T_meet_37 rfl
theorem g_T_meet_38 : jSnd 9 38 (o_getR 41 13 (0)) := snd_getR (ci := 3) (k := 0) d_T_meet_38 rfl tm_in3 (by decide) wd_124 rfl
theorem g_T_meet_41 : jSnd 9 41 (o_call 44 84 1 1 11 false) := snd_callV (ci := 1) (n := 0) rfl d_T_meet_41 (by decide) (by decide) (by decide) wc_84 wd_184 wd_185 wd_186 wd_122 (by decide +kernel) (by decide) (by decide)
theorem g_T_meet_44 : jSnd 9 44 (o_ic_gt 47 91) := snd_ic_gt d_T_meet_44 (by decide)
theorem g_T_meet_47 : jSnd 9 47 (o_aload 49 4) := snd_aload d_T_meet_47
theorem g_T_meet_49 : jSnd 9 49 (o_iload 51 6) := snd_iload d_T_meet_49
theorem g_T_meet_51 : jSnd 9 51 (o_call 54 81 2 2 10 false) := snd_callV (ci := 0) (n := 1) rfl d_T_meet_51 (by decide) (by decide) (by decide) wc_81 wd_175 wd_176 wd_177 wd_128 (by decide +kernel) (by decide) (by decide)
theorem g_T_meet_54 : jSnd 9 54 (o_if_eq 57 85) := snd_if_eq d_T_meet_54 (by decide)
theorem g_T_meet_57 : jSnd 9 57 (o_aload 58 3) := snd_aload_n d_T_meet_57 rfl
theorem g_T_meet_58 : jSnd 9 58 (o_iload 60 6) := snd_iload d_T_meet_58
theorem g_T_meet_60 : jSnd 9 60 (o_call 63 81 2 2 10 false) := snd_callV (ci := 0) (n := 1) rfl d_T_meet_60 (by decide) (by decide) (by decide) wc_81 wd_175 wd_176 wd_177 wd_128 (by decide +kernel) (by decide) (by decide)
theorem g_T_meet_63 : jSnd 9 63 (o_if_ne 66 85) := snd_if_ne d_T_meet_63 (by decide)
theorem g_T_meet_66 : jSnd 9 66 (o_aload 67 3) := snd_aload_n d_T_meet_66 rfl
theorem g_T_meet_67 : jSnd 9 67 (o_iload 69 6) := snd_iload d_T_meet_67
theorem g_T_meet_69 : jSnd 9 69 (o_aload 70 0) := snd_aload_n d_T_meet_69 rfl
theorem g_T_meet_70 : jSnd 9 70 (o_getR 73 13 (0)) := snd_getR (ci := 3) (k := 0) d_T_meet_70 rfl tm_in3 (by decide) wd_124 rfl
theorem g_T_meet_73 : jSnd 9 73 (o_iload 75 6) := snd_iload d_T_meet_73
theorem g_T_meet_75 : jSnd 9 75 (o_push 76 (2)) := snd_iconst (n := 2) (z := 2) d_T_meet_75 (by decide) (by unfold jrg; omega)
theorem g_T_meet_76 : jSnd 9 76 (o_call 79 86 3 3 11 false) := snd_callV (ci := 1) (n := 2) rfl d_T_meet_76 (by decide) (by decide) (by decide) wc_86 wd_166 wd_167 wd_168 wd_122 (by decide +kernel) (by decide) (by decide)
theorem g_T_meet_79 : jSnd 9 79 (o_call 82 82 3 3 10 true) := snd_callV (ci := 0) (n := 2) rfl d_T_meet_79 (by decide) (by decide) (by decide) wc_82 wd_181 wd_182 wd_183 wd_128 (by decide +kernel) (by decide) (by decide)
theorem g_T_meet_82 : jSnd 9 82 (o_iinc 85 5 (1)) := snd_iinc d_T_meet_82 (by decide)
theorem g_T_meet_85 : jSnd 9 85 (o_iinc 88 6 (1)) := snd_iinc d_T_meet_85 (by decide)
theorem g_T_meet_88 : jSnd 9 88 (o_goto 35) := snd_goto d_T_meet_88 (by decide)
theorem g_T_meet_91 : jSnd 9 91 (o_iload 93 5) := snd_iload d_T_meet_91
theorem g_T_meet_93 : jSnd 9 93 (o_iret) := snd_iret d_T_meet_93 rfl
set_option maxRecDepth 100000 in
theorem ga_T_meet : jAll 9 0 tmp_T_meet := ⟨g_T_meet_0, g_T_meet_1, g_T_meet_2, snd_bad _ _, snd_bad _ _, g_T_meet_5, g_T_meet_6, g_T_meet_7, g_T_meet_8, snd_bad _ _, snd_bad _ _, g_T_meet_11, snd_bad _ _, g_T_meet_13, g_T_meet_14, snd_bad _ _, snd_bad _ _, g_T_meet_17, snd_bad _ _, g_T_meet_19, snd_bad _ _, snd_bad _ _, g_T_meet_22, g_T_meet_23, g_T_meet_24, snd_bad _ _, snd_bad _ _, g_T_meet_27, g_T_meet_28, g_T_meet_29, g_T_meet_30, snd_bad _ _, g_T_meet_32, g_T_meet_33, snd_bad _ _, g_T_meet_35, snd_bad _ _, g_T_meet_37, g_T_meet_38, snd_bad _ _, snd_bad _ _, g_T_meet_41, snd_bad _ _, snd_bad _ _, g_T_meet_44, snd_bad _ _, snd_bad _ _, g_T_meet_47, snd_bad _ _, g_T_meet_49, snd_bad _ _, g_T_meet_51, snd_bad _ _, snd_bad _ _, g_T_meet_54, snd_bad _ _, snd_bad _ _, g_T_meet_57, g_T_meet_58, snd_bad _ _, g_T_meet_60, snd_bad _ _, snd_bad _ _, g_T_meet_63, snd_bad _ _, snd_bad _ _, g_T_meet_66, g_T_meet_67, snd_bad _ _, g_T_meet_69, g_T_meet_70, snd_bad _ _, snd_bad _ _, g_T_meet_73, snd_bad _ _, g_T_meet_75, g_T_meet_76, snd_bad _ _, snd_bad _ _, g_T_meet_79, snd_bad _ _, snd_bad _ _, g_T_meet_82, snd_bad _ _, snd_bad _ _, g_T_meet_85, snd_bad _ _, snd_bad _ _, g_T_meet_88, snd_bad _ _, snd_bad _ _, g_T_meet_91, snd_bad _ _, g_T_meet_93, trivial⟩
theorem d_T_sign_0 : decode (tm_c 10) 0 = .ok (.aload_n 0, 1) := by decide +kernel
theorem d_T_sign_1 : decode (tm_c 10) 1 = .ok (.iload_n 1, 1) := by decide +kernel
theorem d_T_sign_2 : decode (tm_c 10) 2 = .ok (.invokevirtual 37, 3) := by decide +kernel
theorem d_T_sign_5 : decode (tm_c 10) 5 = .ok (.ifCond .eq (14), 3) := by decide +kernel
theorem d_T_sign_8 : decode (tm_c 10) 8 = .ok (.aload_n 0, 1) := by decide +kernel
theorem d_T_sign_9 : decode (tm_c 10) 9 = .ok (.getfield 26, 3) := by decide +kernel
theorem d_T_sign_12 : decode (tm_c 10) 12 = .ok (.iload_n 2, 1) := by decide +kernel
theorem d_T_sign_13 : decode (tm_c 10) 13 = .ok (.invokevirtual 96, 3) := by decide +kernel
theorem d_T_sign_16 : decode (tm_c 10) 16 = .ok (.goto (4), 3) := by decide +kernel
theorem d_T_sign_19 : decode (tm_c 10) 19 = .ok (.iconst (-1), 1) := by decide +kernel
theorem d_T_sign_20 : decode (tm_c 10) 20 = .ok (.ireturn, 1) := by decide +kernel
theorem g_T_sign_0 : jSnd 10 0 (o_aload 1 0) := snd_aload_n d_T_sign_0 rfl
theorem g_T_sign_1 : jSnd 10 1 (o_iload 2 1) := snd_iload_n d_T_sign_1 rfl
theorem g_T_sign_2 : jSnd 10 2 (o_call 5 24 2 3 13 false) := snd_callV (ci := 3) (n := 1) rfl d_T_sign_2 (by decide) (by decide) (by decide) wc_24 wd_138 wd_139 wd_140 wd_2 (by decide +kernel) (by decide) (by decide)
theorem g_T_sign_5 : jSnd 10 5 (o_if_eq 8 19) := snd_if_eq d_T_sign_5 (by decide)
theorem g_T_sign_8 : jSnd 10 8 (o_aload 9 0) := snd_aload_n d_T_sign_8 rfl
theorem g_T_sign_9 : jSnd 10 9 (o_getR 12 13 (2)) := snd_getR (ci := 3) (k := 2) d_T_sign_9 rfl tm_in3 (by decide) wd_134 rfl
theorem g_T_sign_12 : jSnd 10 12 (o_iload 13 2) := snd_iload_n d_T_sign_12 rfl
theorem g_T_sign_13 : jSnd 10 13 (o_call 16 105 2 2 12 false) := snd_callV (ci := 2) (n := 1) rfl d_T_sign_13 (by decide) (by decide) (by decide) wc_105 wd_187 wd_188 wd_189 wd_132 (by decide +kernel) (by decide) (by decide)
theorem g_T_sign_16 : jSnd 10 16 (o_goto 20) := snd_goto d_T_sign_16 (by decide)
theorem g_T_sign_19 : jSnd 10 19 (o_push 20 (-1)) := snd_iconst (n := -1) (z := -1) d_T_sign_19 (by decide) (by unfold jrg; omega)
theorem g_T_sign_20 : jSnd 10 20 (o_iret) := snd_iret d_T_sign_20 rfl
set_option maxRecDepth 100000 in
theorem ga_T_sign : jAll 10 0 tmp_T_sign := ⟨g_T_sign_0, g_T_sign_1, g_T_sign_2, snd_bad _ _, snd_bad _ _, g_T_sign_5, snd_bad _ _, snd_bad _ _, g_T_sign_8, g_T_sign_9, snd_bad _ _, snd_bad _ _, g_T_sign_12, g_T_sign_13, snd_bad _ _, snd_bad _ _, g_T_sign_16, snd_bad _ _, snd_bad _ _, g_T_sign_19, g_T_sign_20, trivial⟩
theorem d_T_id_0 : decode (tm_c 11) 0 = .ok (.aload_n 0, 1) := by decide +kernel
theorem d_T_id_1 : decode (tm_c 11) 1 = .ok (.iload_n 1, 1) := by decide +kernel
theorem d_T_id_2 : decode (tm_c 11) 2 = .ok (.invokevirtual 37, 3) := by decide +kernel
theorem d_T_id_5 : decode (tm_c 11) 5 = .ok (.ifCond .eq (25), 3) := by decide +kernel
theorem d_T_id_8 : decode (tm_c 11) 8 = .ok (.aload_n 0, 1) := by decide +kernel
theorem d_T_id_9 : decode (tm_c 11) 9 = .ok (.getfield 26, 3) := by decide +kernel
theorem d_T_id_12 : decode (tm_c 11) 12 = .ok (.iload_n 2, 1) := by decide +kernel
theorem d_T_id_13 : decode (tm_c 11) 13 = .ok (.invokevirtual 52, 3) := by decide +kernel
theorem d_T_id_16 : decode (tm_c 11) 16 = .ok (.ifCond .eq (14), 3) := by decide +kernel
theorem d_T_id_19 : decode (tm_c 11) 19 = .ok (.aload_n 0, 1) := by decide +kernel
theorem d_T_id_20 : decode (tm_c 11) 20 = .ok (.getfield 26, 3) := by decide +kernel
theorem d_T_id_23 : decode (tm_c 11) 23 = .ok (.iload_n 2, 1) := by decide +kernel
theorem d_T_id_24 : decode (tm_c 11) 24 = .ok (.invokevirtual 44, 3) := by decide +kernel
theorem d_T_id_27 : decode (tm_c 11) 27 = .ok (.goto (4), 3) := by decide +kernel
theorem d_T_id_30 : decode (tm_c 11) 30 = .ok (.iconst (-1), 1) := by decide +kernel
theorem d_T_id_31 : decode (tm_c 11) 31 = .ok (.ireturn, 1) := by decide +kernel
theorem g_T_id_0 : jSnd 11 0 (o_aload 1 0) := snd_aload_n d_T_id_0 rfl
theorem g_T_id_1 : jSnd 11 1 (o_iload 2 1) := snd_iload_n d_T_id_1 rfl
theorem g_T_id_2 : jSnd 11 2 (o_call 5 24 2 3 13 false) := snd_callV (ci := 3) (n := 1) rfl d_T_id_2 (by decide) (by decide) (by decide) wc_24 wd_138 wd_139 wd_140 wd_2 (by decide +kernel) (by decide) (by decide)
theorem g_T_id_5 : jSnd 11 5 (o_if_eq 8 30) := snd_if_eq d_T_id_5 (by decide)
theorem g_T_id_8 : jSnd 11 8 (o_aload 9 0) := snd_aload_n d_T_id_8 rfl
theorem g_T_id_9 : jSnd 11 9 (o_getR 12 13 (2)) := snd_getR (ci := 3) (k := 2) d_T_id_9 rfl tm_in3 (by decide) wd_134 rfl
theorem g_T_id_12 : jSnd 11 12 (o_iload 13 2) := snd_iload_n d_T_id_12 rfl
theorem g_T_id_13 : jSnd 11 13 (o_call 16 102 2 2 12 false) := snd_callV (ci := 2) (n := 1) rfl d_T_id_13 (by decide) (by decide) (by decide) wc_102 wd_150 wd_151 wd_152 wd_132 (by decide +kernel) (by decide) (by decide)
theorem g_T_id_16 : jSnd 11 16 (o_if_eq 19 30) := snd_if_eq d_T_id_16 (by decide)
theorem g_T_id_19 : jSnd 11 19 (o_aload 20 0) := snd_aload_n d_T_id_19 rfl
theorem g_T_id_20 : jSnd 11 20 (o_getR 23 13 (2)) := snd_getR (ci := 3) (k := 2) d_T_id_20 rfl tm_in3 (by decide) wd_134 rfl
theorem g_T_id_23 : jSnd 11 23 (o_iload 24 2) := snd_iload_n d_T_id_23 rfl
theorem g_T_id_24 : jSnd 11 24 (o_call 27 104 2 2 12 false) := snd_callV (ci := 2) (n := 1) rfl d_T_id_24 (by decide) (by decide) (by decide) wc_104 wd_144 wd_145 wd_146 wd_132 (by decide +kernel) (by decide) (by decide)
theorem g_T_id_27 : jSnd 11 27 (o_goto 31) := snd_goto d_T_id_27 (by decide)
theorem g_T_id_30 : jSnd 11 30 (o_push 31 (-1)) := snd_iconst (n := -1) (z := -1) d_T_id_30 (by decide) (by unfold jrg; omega)
theorem g_T_id_31 : jSnd 11 31 (o_iret) := snd_iret d_T_id_31 rfl
set_option maxRecDepth 100000 in
theorem ga_T_id : jAll 11 0 tmp_T_id := ⟨g_T_id_0, g_T_id_1, g_T_id_2, snd_bad _ _, snd_bad _ _, g_T_id_5, snd_bad _ _, snd_bad _ _, g_T_id_8, g_T_id_9, snd_bad _ _, snd_bad _ _, g_T_id_12, g_T_id_13, snd_bad _ _, snd_bad _ _, g_T_id_16, snd_bad _ _, snd_bad _ _, g_T_id_19, g_T_id_20, snd_bad _ _, snd_bad _ _, g_T_id_23, g_T_id_24, snd_bad _ _, snd_bad _ _, g_T_id_27, snd_bad _ _, snd_bad _ _, g_T_id_30, g_T_id_31, trivial⟩
theorem d_T_unit_0 : decode (tm_c 12) 0 = .ok (.aload_n 0, 1) := by decide +kernel
theorem d_T_unit_1 : decode (tm_c 12) 1 = .ok (.iload_n 1, 1) := by decide +kernel
theorem d_T_unit_2 : decode (tm_c 12) 2 = .ok (.invokevirtual 37, 3) := by decide +kernel
theorem d_T_unit_5 : decode (tm_c 12) 5 = .ok (.ifCond .eq (14), 3) := by decide +kernel
theorem d_T_unit_8 : decode (tm_c 12) 8 = .ok (.aload_n 0, 1) := by decide +kernel
theorem d_T_unit_9 : decode (tm_c 12) 9 = .ok (.getfield 26, 3) := by decide +kernel
theorem d_T_unit_12 : decode (tm_c 12) 12 = .ok (.iload_n 2, 1) := by decide +kernel
theorem d_T_unit_13 : decode (tm_c 12) 13 = .ok (.invokevirtual 99, 3) := by decide +kernel
theorem d_T_unit_16 : decode (tm_c 12) 16 = .ok (.goto (4), 3) := by decide +kernel
theorem d_T_unit_19 : decode (tm_c 12) 19 = .ok (.iconst (-1), 1) := by decide +kernel
theorem d_T_unit_20 : decode (tm_c 12) 20 = .ok (.ireturn, 1) := by decide +kernel
theorem g_T_unit_0 : jSnd 12 0 (o_aload 1 0) := snd_aload_n d_T_unit_0 rfl
theorem g_T_unit_1 : jSnd 12 1 (o_iload 2 1) := snd_iload_n d_T_unit_1 rfl
theorem g_T_unit_2 : jSnd 12 2 (o_call 5 24 2 3 13 false) := snd_callV (ci := 3) (n := 1) rfl d_T_unit_2 (by decide) (by decide) (by decide) wc_24 wd_138 wd_139 wd_140 wd_2 (by decide +kernel) (by decide) (by decide)
theorem g_T_unit_5 : jSnd 12 5 (o_if_eq 8 19) := snd_if_eq d_T_unit_5 (by decide)
theorem g_T_unit_8 : jSnd 12 8 (o_aload 9 0) := snd_aload_n d_T_unit_8 rfl
theorem g_T_unit_9 : jSnd 12 9 (o_getR 12 13 (2)) := snd_getR (ci := 3) (k := 2) d_T_unit_9 rfl tm_in3 (by decide) wd_134 rfl
theorem g_T_unit_12 : jSnd 12 12 (o_iload 13 2) := snd_iload_n d_T_unit_12 rfl
theorem g_T_unit_13 : jSnd 12 13 (o_call 16 109 2 5 12 false) := snd_callV (ci := 2) (n := 1) rfl d_T_unit_13 (by decide) (by decide) (by decide) wc_109 wd_190 wd_191 wd_192 wd_132 (by decide +kernel) (by decide) (by decide)
theorem g_T_unit_16 : jSnd 12 16 (o_goto 20) := snd_goto d_T_unit_16 (by decide)
theorem g_T_unit_19 : jSnd 12 19 (o_push 20 (-1)) := snd_iconst (n := -1) (z := -1) d_T_unit_19 (by decide) (by unfold jrg; omega)
theorem g_T_unit_20 : jSnd 12 20 (o_iret) := snd_iret d_T_unit_20 rfl
set_option maxRecDepth 100000 in
theorem ga_T_unit : jAll 12 0 tmp_T_unit := ⟨g_T_unit_0, g_T_unit_1, g_T_unit_2, snd_bad _ _, snd_bad _ _, g_T_unit_5, snd_bad _ _, snd_bad _ _, g_T_unit_8, g_T_unit_9, snd_bad _ _, snd_bad _ _, g_T_unit_12, g_T_unit_13, snd_bad _ _, snd_bad _ _, g_T_unit_16, snd_bad _ _, snd_bad _ _, g_T_unit_19, g_T_unit_20, trivial⟩
theorem d_T_styled_0 : decode (tm_c 13) 0 = .ok (.iload_n 3, 1) := by decide +kernel
theorem d_T_styled_1 : decode (tm_c 13) 1 = .ok (.invokestatic 55, 3) := by decide +kernel
theorem d_T_styled_4 : decode (tm_c 13) 4 = .ok (.ifCond .eq (11), 3) := by decide +kernel
theorem d_T_styled_7 : decode (tm_c 13) 7 = .ok (.aload_n 0, 1) := by decide +kernel
theorem d_T_styled_8 : decode (tm_c 13) 8 = .ok (.iload_n 1, 1) := by decide +kernel
theorem d_T_styled_9 : decode (tm_c 13) 9 = .ok (.invokevirtual 37, 3) := by decide +kernel
theorem d_T_styled_12 : decode (tm_c 13) 12 = .ok (.ifCond .ne (5), 3) := by decide +kernel
theorem d_T_styled_15 : decode (tm_c 13) 15 = .ok (.iconst (-1), 1) := by decide +kernel
theorem d_T_styled_16 : decode (tm_c 13) 16 = .ok (.ireturn, 1) := by decide +kernel
theorem d_T_styled_17 : decode (tm_c 13) 17 = .ok (.aload_n 0, 1) := by decide +kernel
theorem d_T_styled_18 : decode (tm_c 13) 18 = .ok (.getfield 26, 3) := by decide +kernel
theorem d_T_styled_21 : decode (tm_c 13) 21 = .ok (.aload_n 0, 1) := by decide +kernel
theorem d_T_styled_22 : decode (tm_c 13) 22 = .ok (.getfield 10, 3) := by decide +kernel
theorem d_T_styled_25 : decode (tm_c 13) 25 = .ok (.invokevirtual 102, 3) := by decide +kernel
theorem d_T_styled_28 : decode (tm_c 13) 28 = .ok (.aload_n 0, 1) := by decide +kernel
theorem d_T_styled_29 : decode (tm_c 13) 29 = .ok (.getfield 26, 3) := by decide +kernel
theorem d_T_styled_32 : decode (tm_c 13) 32 = .ok (.iload_n 2, 1) := by decide +kernel
theorem d_T_styled_33 : decode (tm_c 13) 33 = .ok (.iload_n 3, 1) := by decide +kernel
theorem d_T_styled_34 : decode (tm_c 13) 34 = .ok (.invokevirtual 106, 3) := by decide +kernel
theorem d_T_styled_37 : decode (tm_c 13) 37 = .ok (.ireturn, 1) := by decide +kernel
theorem g_T_styled_0 : jSnd 13 0 (o_iload 1 3) := snd_iload_n d_T_styled_0 rfl
theorem g_T_styled_1 : jSnd 13 1 (o_call 4 22 1 1 0 false) := snd_callS (n := 1) d_T_styled_1 (by decide) (by decide) (by decide) wc_22 wd_153 wd_154 wd_2 (by decide +kernel) (by decide) (by decide)
theorem g_T_styled_4 : jSnd 13 4 (o_if_eq 7 15) := snd_if_eq d_T_styled_4 (by decide)
theorem g_T_styled_7 : jSnd 13 7 (o_aload 8 0) := snd_aload_n d_T_styled_7 rfl
theorem g_T_styled_8 : jSnd 13 8 (o_iload 9 1) := snd_iload_n d_T_styled_8 rfl
theorem g_T_styled_9 : jSnd 13 9 (o_call 12 24 2 3 13 false) := snd_callV (ci := 3) (n := 1) rfl d_T_styled_9 (by decide) (by decide) (by decide) wc_24 wd_138 wd_139 wd_140 wd_2 (by decide +kernel) (by decide) (by decide)
theorem g_T_styled_12 : jSnd 13 12 (o_if_ne 15 17) := snd_if_ne d_T_styled_12 (by decide)
theorem g_T_styled_15 : jSnd 13 15 (o_push 16 (-1)) := snd_iconst (n := -1) (z := -1) d_T_styled_15 (by decide) (by unfold jrg; omega)
theorem g_T_styled_16 : jSnd 13 16 (o_iret) := snd_iret d_T_styled_16 rfl
theorem g_T_styled_17 : jSnd 13 17 (o_aload 18 0) := snd_aload_n d_T_styled_17 rfl
theorem g_T_styled_18 : jSnd 13 18 (o_getR 21 13 (2)) := snd_getR (ci := 3) (k := 2) d_T_styled_18 rfl tm_in3 (by decide) wd_134 rfl
theorem g_T_styled_21 : jSnd 13 21 (o_aload 22 0) := snd_aload_n d_T_styled_21 rfl
theorem g_T_styled_22 : jSnd 13 22 (o_getR 25 13 (0)) := snd_getR (ci := 3) (k := 0) d_T_styled_22 rfl tm_in3 (by decide) wd_124 rfl
theorem g_T_styled_25 : jSnd 13 25 (o_call 28 112 2 4 12 true) := snd_callV (ci := 2) (n := 1) rfl d_T_styled_25 (by decide) (by decide) (by decide) wc_112 wd_193 wd_194 wd_195 wd_132 (by decide +kernel) (by decide) (by decide)
theorem g_T_styled_28 : jSnd 13 28 (o_aload 29 0) := snd_aload_n d_T_styled_28 rfl
theorem g_T_styled_29 : jSnd 13 29 (o_getR 32 13 (2)) := snd_getR (ci := 3) (k := 2) d_T_styled_29 rfl tm_in3 (by decide) wd_134 rfl
theorem g_T_styled_32 : jSnd 13 32 (o_iload 33 2) := snd_iload_n d_T_styled_32 rfl
theorem g_T_styled_33 : jSnd 13 33 (o_iload 34 3) := snd_iload_n d_T_styled_33 rfl
theorem g_T_styled_34 : jSnd 13 34 (o_call 37 115 3 3 12 false) := snd_callV (ci := 2) (n := 2) rfl d_T_styled_34 (by decide) (by decide) (by decide) wc_115 wd_196 wd_197 wd_198 wd_132 (by decide +kernel) (by decide) (by decide)
theorem g_T_styled_37 : jSnd 13 37 (o_iret) := snd_iret d_T_styled_37 rfl
set_option maxRecDepth 100000 in
theorem ga_T_styled : jAll 13 0 tmp_T_styled := ⟨g_T_styled_0, g_T_styled_1, snd_bad _ _, snd_bad _ _, g_T_styled_4, snd_bad _ _, snd_bad _ _, g_T_styled_7, g_T_styled_8, g_T_styled_9, snd_bad _ _, snd_bad _ _, g_T_styled_12, snd_bad _ _, snd_bad _ _, g_T_styled_15, g_T_styled_16, g_T_styled_17, g_T_styled_18, snd_bad _ _, snd_bad _ _, g_T_styled_21, g_T_styled_22, snd_bad _ _, snd_bad _ _, g_T_styled_25, snd_bad _ _, snd_bad _ _, g_T_styled_28, g_T_styled_29, snd_bad _ _, snd_bad _ _, g_T_styled_32, g_T_styled_33, g_T_styled_34, snd_bad _ _, snd_bad _ _, g_T_styled_37, trivial⟩
theorem d_T_run_0 : decode (tm_c 14) 0 = .ok (.iload_n 3, 1) := by decide +kernel
theorem d_T_run_1 : decode (tm_c 14) 1 = .ok (.ifCond .lt (17), 3) := by decide +kernel
theorem d_T_run_4 : decode (tm_c 14) 4 = .ok (.iload_n 3, 1) := by decide +kernel
theorem d_T_run_5 : decode (tm_c 14) 5 = .ok (.bipush (6), 2) := by decide +kernel
theorem d_T_run_7 : decode (tm_c 14) 7 = .ok (.if_icmp .ge (11), 3) := by decide +kernel
theorem d_T_run_10 : decode (tm_c 14) 10 = .ok (.aload_n 0, 1) := by decide +kernel
theorem d_T_run_11 : decode (tm_c 14) 11 = .ok (.iload_n 1, 1) := by decide +kernel
theorem d_T_run_12 : decode (tm_c 14) 12 = .ok (.invokevirtual 37, 3) := by decide +kernel
theorem d_T_run_15 : decode (tm_c 14) 15 = .ok (.ifCond .ne (5), 3) := by decide +kernel
theorem d_T_run_18 : decode (tm_c 14) 18 = .ok (.iconst (-1), 1) := by decide +kernel
theorem d_T_run_19 : decode (tm_c 14) 19 = .ok (.ireturn, 1) := by decide +kernel
theorem d_T_run_20 : decode (tm_c 14) 20 = .ok (.aload_n 0, 1) := by decide +kernel
theorem d_T_run_21 : decode (tm_c 14) 21 = .ok (.getfield 26, 3) := by decide +kernel
theorem d_T_run_24 : decode (tm_c 14) 24 = .ok (.aload_n 0, 1) := by decide +kernel
theorem d_T_run_25 : decode (tm_c 14) 25 = .ok (.getfield 10, 3) := by decide +kernel
theorem d_T_run_28 : decode (tm_c 14) 28 = .ok (.invokevirtual 102, 3) := by decide +kernel
theorem d_T_run_31 : decode (tm_c 14) 31 = .ok (.aload_n 0, 1) := by decide +kernel
theorem d_T_run_32 : decode (tm_c 14) 32 = .ok (.getfield 26, 3) := by decide +kernel
theorem d_T_run_35 : decode (tm_c 14) 35 = .ok (.iload_n 2, 1) := by decide +kernel
theorem d_T_run_36 : decode (tm_c 14) 36 = .ok (.invokevirtual 109, 3) := by decide +kernel
theorem d_T_run_39 : decode (tm_c 14) 39 = .ok (.istore 4, 2) := by decide +kernel
theorem d_T_run_41 : decode (tm_c 14) 41 = .ok (.iload 4, 2) := by decide +kernel
theorem d_T_run_43 : decode (tm_c 14) 43 = .ok (.iconst (-1), 1) := by decide +kernel
theorem d_T_run_44 : decode (tm_c 14) 44 = .ok (.if_icmp .ne (5), 3) := by decide +kernel
theorem d_T_run_47 : decode (tm_c 14) 47 = .ok (.iconst (-1), 1) := by decide +kernel
theorem d_T_run_48 : decode (tm_c 14) 48 = .ok (.ireturn, 1) := by decide +kernel
theorem d_T_run_49 : decode (tm_c 14) 49 = .ok (.iload_n 3, 1) := by decide +kernel
theorem d_T_run_50 : decode (tm_c 14) 50 = .ok (.lookupswitch (42) #[(0, 26), (1, 29)], 26) := by decide +kernel
theorem d_T_run_76 : decode (tm_c 14) 76 = .ok (.iload 4, 2) := by decide +kernel
theorem d_T_run_78 : decode (tm_c 14) 78 = .ok (.ireturn, 1) := by decide +kernel
theorem d_T_run_79 : decode (tm_c 14) 79 = .ok (.aload_n 0, 1) := by decide +kernel
theorem d_T_run_80 : decode (tm_c 14) 80 = .ok (.getfield 26, 3) := by decide +kernel
theorem d_T_run_83 : decode (tm_c 14) 83 = .ok (.iload 4, 2) := by decide +kernel
theorem d_T_run_85 : decode (tm_c 14) 85 = .ok (.invokevirtual 112, 3) := by decide +kernel
theorem d_T_run_88 : decode (tm_c 14) 88 = .ok (.iload 4, 2) := by decide +kernel
theorem d_T_run_90 : decode (tm_c 14) 90 = .ok (.isub, 1) := by decide +kernel
theorem d_T_run_91 : decode (tm_c 14) 91 = .ok (.ireturn, 1) := by decide +kernel
theorem d_T_run_92 : decode (tm_c 14) 92 = .ok (.aload_n 0, 1) := by decide +kernel
theorem d_T_run_93 : decode (tm_c 14) 93 = .ok (.getfield 26, 3) := by decide +kernel
theorem d_T_run_96 : decode (tm_c 14) 96 = .ok (.iload 4, 2) := by decide +kernel
theorem d_T_run_98 : decode (tm_c 14) 98 = .ok (.iload_n 3, 1) := by decide +kernel
theorem d_T_run_99 : decode (tm_c 14) 99 = .ok (.iconst (2), 1) := by decide +kernel
theorem d_T_run_100 : decode (tm_c 14) 100 = .ok (.isub, 1) := by decide +kernel
theorem d_T_run_101 : decode (tm_c 14) 101 = .ok (.invokevirtual 106, 3) := by decide +kernel
theorem d_T_run_104 : decode (tm_c 14) 104 = .ok (.ireturn, 1) := by decide +kernel
theorem g_T_run_0 : jSnd 14 0 (o_iload 1 3) := snd_iload_n d_T_run_0 rfl
theorem g_T_run_1 : jSnd 14 1 (o_if_lt 4 18) := snd_if_lt d_T_run_1 (by decide)
theorem g_T_run_4 : jSnd 14 4 (o_iload 5 3) := snd_iload_n d_T_run_4 rfl
theorem g_T_run_5 : jSnd 14 5 (o_push 7 (6)) := snd_bipush (n := 6) (z := 6) d_T_run_5 (by decide) (by unfold jrg; omega)
theorem g_T_run_7 : jSnd 14 7 (o_ic_ge 10 18) := snd_ic_ge d_T_run_7 (by decide)
theorem g_T_run_10 : jSnd 14 10 (o_aload 11 0) := snd_aload_n d_T_run_10 rfl
theorem g_T_run_11 : jSnd 14 11 (o_iload 12 1) := snd_iload_n d_T_run_11 rfl
theorem g_T_run_12 : jSnd 14 12 (o_call 15 24 2 3 13 false) := snd_callV (ci := 3) (n := 1) rfl d_T_run_12 (by decide) (by decide) (by decide) wc_24 wd_138 wd_139 wd_140 wd_2 (by decide +kernel) (by decide) (by decide)
theorem g_T_run_15 : jSnd 14 15 (o_if_ne 18 20) := snd_if_ne d_T_run_15 (by decide)
theorem g_T_run_18 : jSnd 14 18 (o_push 19 (-1)) := snd_iconst (n := -1) (z := -1) d_T_run_18 (by decide) (by unfold jrg; omega)
theorem g_T_run_19 : jSnd 14 19 (o_iret) := snd_iret d_T_run_19 rfl
theorem g_T_run_20 : jSnd 14 20 (o_aload 21 0) := snd_aload_n d_T_run_20 rfl
theorem g_T_run_21 : jSnd 14 21 (o_getR 24 13 (2)) := snd_getR (ci := 3) (k := 2) d_T_run_21 rfl tm_in3 (by decide) wd_134 rfl
theorem g_T_run_24 : jSnd 14 24 (o_aload 25 0) := snd_aload_n d_T_run_24 rfl
theorem g_T_run_25 : jSnd 14 25 (o_getR 28 13 (0)) := snd_getR (ci := 3) (k := 0) d_T_run_25 rfl tm_in3 (by decide) wd_124 rfl
theorem g_T_run_28 : jSnd 14 28 (o_call 31 112 2 4 12 true) := snd_callV (ci := 2) (n := 1) rfl d_T_run_28 (by decide) (by decide) (by decide) wc_112 wd_193 wd_194 wd_195 wd_132 (by decide +kernel) (by decide) (by decide)
theorem g_T_run_31 : jSnd 14 31 (o_aload 32 0) := snd_aload_n d_T_run_31 rfl
theorem g_T_run_32 : jSnd 14 32 (o_getR 35 13 (2)) := snd_getR (ci := 3) (k := 2) d_T_run_32 rfl tm_in3 (by decide) wd_134 rfl
theorem g_T_run_35 : jSnd 14 35 (o_iload 36 2) := snd_iload_n d_T_run_35 rfl
theorem g_T_run_36 : jSnd 14 36 (o_call 39 118 2 4 12 false) := snd_callV (ci := 2) (n := 1) rfl d_T_run_36 (by decide) (by decide) (by decide) wc_118 wd_199 wd_200 wd_201 wd_132 (by decide +kernel) (by decide) (by decide)
theorem g_T_run_39 : jSnd 14 39 (o_istore 41 4) := snd_istore d_T_run_39 (by decide)
theorem g_T_run_41 : jSnd 14 41 (o_iload 43 4) := snd_iload d_T_run_41
theorem g_T_run_43 : jSnd 14 43 (o_push 44 (-1)) := snd_iconst (n := -1) (z := -1) d_T_run_43 (by decide) (by unfold jrg; omega)
theorem g_T_run_44 : jSnd 14 44 (o_ic_ne 47 49) := snd_ic_ne d_T_run_44 (by decide)
theorem g_T_run_47 : jSnd 14 47 (o_push 48 (-1)) := snd_iconst (n := -1) (z := -1) d_T_run_47 (by decide) (by unfold jrg; omega)
theorem g_T_run_48 : jSnd 14 48 (o_iret) := snd_iret d_T_run_48 rfl
theorem g_T_run_49 : jSnd 14 49 (o_iload 50 3) := snd_iload_n d_T_run_49 rfl
theorem g_T_run_50 : jSnd 14 50 (o_switch 92 [(0, 76), (1, 79)]) := snd_lookup (t := [(0, 76), (1, 79)]) d_T_run_50 (by decide) (fun x => by show _ + Op.lookupswitch.offset [(0, 26), (1, 29)] _ _ = _; simp only [Op.lookupswitch.offset_cons, Op.lookupswitch.offset_nil, jsw, eq_comm (a := x)]; repeat (first | rfl | split))
theorem g_T_run_76 : jSnd 14 76 (o_iload 78 4) := snd_iload d_T_run_76
theorem g_T_run_78 : jSnd 14 78 (o_iret) := snd_iret d_T_run_78 rfl
theorem g_T_run_79 : jSnd 14 79 (o_aload 80 0) := snd_aload_n d_T_run_79 rfl
theorem g_T_run_80 : jSnd 14 80 (o_getR 83 13 (2)) := snd_getR (ci := 3) (k := 2) d_T_run_80 rfl tm_in3 (by decide) wd_134 rfl
theorem g_T_run_83 : jSnd 14 83 (o_iload 85 4) := snd_iload d_T_run_83
theorem g_T_run_85 : jSnd 14 85 (o_call 88 119 2 3 12 false) := snd_callV (ci := 2) (n := 1) rfl d_T_run_85 (by decide) (by decide) (by decide) wc_119 wd_202 wd_203 wd_204 wd_132 (by decide +kernel) (by decide) (by decide)
theorem g_T_run_88 : jSnd 14 88 (o_iload 90 4) := snd_iload d_T_run_88
theorem g_T_run_90 : jSnd 14 90 (o_bin 91 f_sub) := snd_isub d_T_run_90
theorem g_T_run_91 : jSnd 14 91 (o_iret) := snd_iret d_T_run_91 rfl
theorem g_T_run_92 : jSnd 14 92 (o_aload 93 0) := snd_aload_n d_T_run_92 rfl
theorem g_T_run_93 : jSnd 14 93 (o_getR 96 13 (2)) := snd_getR (ci := 3) (k := 2) d_T_run_93 rfl tm_in3 (by decide) wd_134 rfl
theorem g_T_run_96 : jSnd 14 96 (o_iload 98 4) := snd_iload d_T_run_96
theorem g_T_run_98 : jSnd 14 98 (o_iload 99 3) := snd_iload_n d_T_run_98 rfl
theorem g_T_run_99 : jSnd 14 99 (o_push 100 (2)) := snd_iconst (n := 2) (z := 2) d_T_run_99 (by decide) (by unfold jrg; omega)
theorem g_T_run_100 : jSnd 14 100 (o_bin 101 f_sub) := snd_isub d_T_run_100
theorem g_T_run_101 : jSnd 14 101 (o_call 104 115 3 3 12 false) := snd_callV (ci := 2) (n := 2) rfl d_T_run_101 (by decide) (by decide) (by decide) wc_115 wd_196 wd_197 wd_198 wd_132 (by decide +kernel) (by decide) (by decide)
theorem g_T_run_104 : jSnd 14 104 (o_iret) := snd_iret d_T_run_104 rfl
set_option maxRecDepth 100000 in
theorem ga_T_run : jAll 14 0 tmp_T_run := ⟨g_T_run_0, g_T_run_1, snd_bad _ _, snd_bad _ _, g_T_run_4, g_T_run_5, snd_bad _ _, g_T_run_7, snd_bad _ _, snd_bad _ _, g_T_run_10, g_T_run_11, g_T_run_12, snd_bad _ _, snd_bad _ _, g_T_run_15, snd_bad _ _, snd_bad _ _, g_T_run_18, g_T_run_19, g_T_run_20, g_T_run_21, snd_bad _ _, snd_bad _ _, g_T_run_24, g_T_run_25, snd_bad _ _, snd_bad _ _, g_T_run_28, snd_bad _ _, snd_bad _ _, g_T_run_31, g_T_run_32, snd_bad _ _, snd_bad _ _, g_T_run_35, g_T_run_36, snd_bad _ _, snd_bad _ _, g_T_run_39, snd_bad _ _, g_T_run_41, snd_bad _ _, g_T_run_43, g_T_run_44, snd_bad _ _, snd_bad _ _, g_T_run_47, g_T_run_48, g_T_run_49, g_T_run_50, snd_bad _ _, snd_bad _ _, snd_bad _ _, snd_bad _ _, snd_bad _ _, snd_bad _ _, snd_bad _ _, snd_bad _ _, snd_bad _ _, snd_bad _ _, snd_bad _ _, snd_bad _ _, snd_bad _ _, snd_bad _ _, snd_bad _ _, snd_bad _ _, snd_bad _ _, snd_bad _ _, snd_bad _ _, snd_bad _ _, snd_bad _ _, snd_bad _ _, snd_bad _ _, snd_bad _ _, snd_bad _ _, g_T_run_76, snd_bad _ _, g_T_run_78, g_T_run_79, g_T_run_80, snd_bad _ _, snd_bad _ _, g_T_run_83, snd_bad _ _, g_T_run_85, snd_bad _ _, snd_bad _ _, g_T_run_88, snd_bad _ _, g_T_run_90, g_T_run_91, g_T_run_92, g_T_run_93, snd_bad _ _, snd_bad _ _, g_T_run_96, snd_bad _ _, g_T_run_98, g_T_run_99, g_T_run_100, g_T_run_101, snd_bad _ _, snd_bad _ _, g_T_run_104, trivial⟩
theorem d_T_lies_0 : decode (tm_c 15) 0 = .ok (.iload_n 3, 1) := by decide +kernel
theorem d_T_lies_1 : decode (tm_c 15) 1 = .ok (.ifCond .lt (21), 3) := by decide +kernel
theorem d_T_lies_4 : decode (tm_c 15) 4 = .ok (.iload_n 3, 1) := by decide +kernel
theorem d_T_lies_5 : decode (tm_c 15) 5 = .ok (.iconst (1), 1) := by decide +kernel
theorem d_T_lies_6 : decode (tm_c 15) 6 = .ok (.if_icmp .gt (16), 3) := by decide +kernel
theorem d_T_lies_9 : decode (tm_c 15) 9 = .ok (.aload_n 0, 1) := by decide +kernel
theorem d_T_lies_10 : decode (tm_c 15) 10 = .ok (.getfield 10, 3) := by decide +kernel
theorem d_T_lies_13 : decode (tm_c 15) 13 = .ok (.iload_n 2, 1) := by decide +kernel
theorem d_T_lies_14 : decode (tm_c 15) 14 = .ok (.iconst (0), 1) := by decide +kernel
theorem d_T_lies_15 : decode (tm_c 15) 15 = .ok (.invokevirtual 71, 3) := by decide +kernel
theorem d_T_lies_18 : decode (tm_c 15) 18 = .ok (.iconst (3), 1) := by decide +kernel
theorem d_T_lies_19 : decode (tm_c 15) 19 = .ok (.if_icmp .eq (5), 3) := by decide +kernel
theorem d_T_lies_22 : decode (tm_c 15) 22 = .ok (.iconst (-1), 1) := by decide +kernel
theorem d_T_lies_23 : decode (tm_c 15) 23 = .ok (.ireturn, 1) := by decide +kernel
theorem d_T_lies_24 : decode (tm_c 15) 24 = .ok (.aload_n 0, 1) := by decide +kernel
theorem d_T_lies_25 : decode (tm_c 15) 25 = .ok (.iload_n 1, 1) := by decide +kernel
theorem d_T_lies_26 : decode (tm_c 15) 26 = .ok (.invokevirtual 37, 3) := by decide +kernel
theorem d_T_lies_29 : decode (tm_c 15) 29 = .ok (.ifCond .eq (14), 3) := by decide +kernel
theorem d_T_lies_32 : decode (tm_c 15) 32 = .ok (.aload_n 0, 1) := by decide +kernel
theorem d_T_lies_33 : decode (tm_c 15) 33 = .ok (.getfield 26, 3) := by decide +kernel
theorem d_T_lies_36 : decode (tm_c 15) 36 = .ok (.iload_n 2, 1) := by decide +kernel
theorem d_T_lies_37 : decode (tm_c 15) 37 = .ok (.invokevirtual 115, 3) := by decide +kernel
theorem d_T_lies_40 : decode (tm_c 15) 40 = .ok (.ifCond .ne (5), 3) := by decide +kernel
theorem d_T_lies_43 : decode (tm_c 15) 43 = .ok (.iconst (-1), 1) := by decide +kernel
theorem d_T_lies_44 : decode (tm_c 15) 44 = .ok (.ireturn, 1) := by decide +kernel
theorem d_T_lies_45 : decode (tm_c 15) 45 = .ok (.iload_n 3, 1) := by decide +kernel
theorem d_T_lies_46 : decode (tm_c 15) 46 = .ok (.ifCond .ne (15), 3) := by decide +kernel
theorem d_T_lies_49 : decode (tm_c 15) 49 = .ok (.aload_n 0, 1) := by decide +kernel
theorem d_T_lies_50 : decode (tm_c 15) 50 = .ok (.aload_n 0, 1) := by decide +kernel
theorem d_T_lies_51 : decode (tm_c 15) 51 = .ok (.getfield 26, 3) := by decide +kernel
theorem d_T_lies_54 : decode (tm_c 15) 54 = .ok (.iload_n 2, 1) := by decide +kernel
theorem d_T_lies_55 : decode (tm_c 15) 55 = .ok (.invokevirtual 118, 3) := by decide +kernel
theorem d_T_lies_58 : decode (tm_c 15) 58 = .ok (.goto (12), 3) := by decide +kernel
theorem d_T_lies_61 : decode (tm_c 15) 61 = .ok (.aload_n 0, 1) := by decide +kernel
theorem d_T_lies_62 : decode (tm_c 15) 62 = .ok (.aload_n 0, 1) := by decide +kernel
theorem d_T_lies_63 : decode (tm_c 15) 63 = .ok (.getfield 26, 3) := by decide +kernel
theorem d_T_lies_66 : decode (tm_c 15) 66 = .ok (.iload_n 2, 1) := by decide +kernel
theorem d_T_lies_67 : decode (tm_c 15) 67 = .ok (.invokevirtual 122, 3) := by decide +kernel
theorem d_T_lies_70 : decode (tm_c 15) 70 = .ok (.ireturn, 1) := by decide +kernel
theorem g_T_lies_0 : jSnd 15 0 (o_iload 1 3) := snd_iload_n d_T_lies_0 rfl
theorem g_T_lies_1 : jSnd 15 1 (o_if_lt 4 22) := snd_if_lt d_T_lies_1 (by decide)
theorem g_T_lies_4 : jSnd 15 4 (o_iload 5 3) := snd_iload_n d_T_lies_4 rfl
theorem g_T_lies_5 : jSnd 15 5 (o_push 6 (1)) := snd_iconst (n := 1) (z := 1) d_T_lies_5 (by decide) (by unfold jrg; omega)
theorem g_T_lies_6 : jSnd 15 6 (o_ic_gt 9 22) := snd_ic_gt d_T_lies_6 (by decide)
theorem g_T_lies_9 : jSnd 15 9 (o_aload 10 0) := snd_aload_n d_T_lies_9 rfl
theorem g_T_lies_10 : jSnd 15 10 (o_getR 13 13 (0)) := snd_getR (ci := 3) (k := 0) d_T_lies_10 rfl tm_in3 (by decide) wd_124 rfl
theorem g_T_lies_13 : jSnd 15 13 (o_iload 14 2) := snd_iload_n d_T_lies_13 rfl
theorem g_T_lies_14 : jSnd 15 14 (o_push 15 (0)) := snd_iconst (n := 0) (z := 0) d_T_lies_14 (by decide) (by unfold jrg; omega)
theorem g_T_lies_15 : jSnd 15 15 (o_call 18 86 3 3 11 false) := snd_callV (ci := 1) (n := 2) rfl d_T_lies_15 (by decide) (by decide) (by decide) wc_86 wd_166 wd_167 wd_168 wd_122 (by decide +kernel) (by decide) (by decide)
theorem g_T_lies_18 : jSnd 15 18 (o_push 19 (3)) := snd_iconst (n := 3) (z := 3) d_T_lies_18 (by decide) (by unfold jrg; omega)
theorem g_T_lies_19 : jSnd 15 19 (o_ic_eq 22 24) := snd_ic_eq d_T_lies_19 (by decide)
theorem g_T_lies_22 : jSnd 15 22 (o_push 23 (-1)) := snd_iconst (n := -1) (z := -1) d_T_lies_22 (by decide) (by unfold jrg; omega)
theorem g_T_lies_23 : jSnd 15 23 (o_iret) := snd_iret d_T_lies_23 rfl
theorem g_T_lies_24 : jSnd 15 24 (o_aload 25 0) := snd_aload_n d_T_lies_24 rfl
theorem g_T_lies_25 : jSnd 15 25 (o_iload 26 1) := snd_iload_n d_T_lies_25 rfl
theorem g_T_lies_26 : jSnd 15 26 (o_call 29 24 2 3 13 false) := snd_callV (ci := 3) (n := 1) rfl d_T_lies_26 (by decide) (by decide) (by decide) wc_24 wd_138 wd_139 wd_140 wd_2 (by decide +kernel) (by decide) (by decide)
theorem g_T_lies_29 : jSnd 15 29 (o_if_eq 32 43) := snd_if_eq d_T_lies_29 (by decide)
theorem g_T_lies_32 : jSnd 15 32 (o_aload 33 0) := snd_aload_n d_T_lies_32 rfl
theorem g_T_lies_33 : jSnd 15 33 (o_getR 36 13 (2)) := snd_getR (ci := 3) (k := 2) d_T_lies_33 rfl tm_in3 (by decide) wd_134 rfl
theorem g_T_lies_36 : jSnd 15 36 (o_iload 37 2) := snd_iload_n d_T_lies_36 rfl
theorem g_T_lies_37 : jSnd 15 37 (o_call 40 101 2 2 12 false) := snd_callV (ci := 2) (n := 1) rfl d_T_lies_37 (by decide) (by decide) (by decide) wc_101 wd_205 wd_206 wd_207 wd_132 (by decide +kernel) (by decide) (by decide)
theorem g_T_lies_40 : jSnd 15 40 (o_if_ne 43 45) := snd_if_ne d_T_lies_40 (by decide)
theorem g_T_lies_43 : jSnd 15 43 (o_push 44 (-1)) := snd_iconst (n := -1) (z := -1) d_T_lies_43 (by decide) (by unfold jrg; omega)
theorem g_T_lies_44 : jSnd 15 44 (o_iret) := snd_iret d_T_lies_44 rfl
theorem g_T_lies_45 : jSnd 15 45 (o_iload 46 3) := snd_iload_n d_T_lies_45 rfl
theorem g_T_lies_46 : jSnd 15 46 (o_if_ne 49 61) := snd_if_ne d_T_lies_46 (by decide)
theorem g_T_lies_49 : jSnd 15 49 (o_aload 50 0) := snd_aload_n d_T_lies_49 rfl
theorem g_T_lies_50 : jSnd 15 50 (o_aload 51 0) := snd_aload_n d_T_lies_50 rfl
theorem g_T_lies_51 : jSnd 15 51 (o_getR 54 13 (2)) := snd_getR (ci := 3) (k := 2) d_T_lies_51 rfl tm_in3 (by decide) wd_134 rfl
theorem g_T_lies_54 : jSnd 15 54 (o_iload 55 2) := snd_iload_n d_T_lies_54 rfl
theorem g_T_lies_55 : jSnd 15 55 (o_call 58 28 3 3 13 false) := snd_callV (ci := 3) (n := 2) rfl d_T_lies_55 (by decide) (by decide) (by decide) wc_28 wd_208 wd_209 wd_210 wd_2 (by decide +kernel) (by decide) (by decide)
theorem g_T_lies_58 : jSnd 15 58 (o_goto 70) := snd_goto d_T_lies_58 (by decide)
theorem g_T_lies_61 : jSnd 15 61 (o_aload 62 0) := snd_aload_n d_T_lies_61 rfl
theorem g_T_lies_62 : jSnd 15 62 (o_aload 63 0) := snd_aload_n d_T_lies_62 rfl
theorem g_T_lies_63 : jSnd 15 63 (o_getR 66 13 (2)) := snd_getR (ci := 3) (k := 2) d_T_lies_63 rfl tm_in3 (by decide) wd_134 rfl
theorem g_T_lies_66 : jSnd 15 66 (o_iload 67 2) := snd_iload_n d_T_lies_66 rfl
theorem g_T_lies_67 : jSnd 15 67 (o_call 70 29 3 3 13 false) := snd_callV (ci := 3) (n := 2) rfl d_T_lies_67 (by decide) (by decide) (by decide) wc_29 wd_211 wd_212 wd_213 wd_2 (by decide +kernel) (by decide) (by decide)
theorem g_T_lies_70 : jSnd 15 70 (o_iret) := snd_iret d_T_lies_70 rfl
set_option maxRecDepth 100000 in
theorem ga_T_lies : jAll 15 0 tmp_T_lies := ⟨g_T_lies_0, g_T_lies_1, snd_bad _ _, snd_bad _ _, g_T_lies_4, g_T_lies_5, g_T_lies_6, snd_bad _ _, snd_bad _ _, g_T_lies_9, g_T_lies_10, snd_bad _ _, snd_bad _ _, g_T_lies_13, g_T_lies_14, g_T_lies_15, snd_bad _ _, snd_bad _ _, g_T_lies_18, g_T_lies_19, snd_bad _ _, snd_bad _ _, g_T_lies_22, g_T_lies_23, g_T_lies_24, g_T_lies_25, g_T_lies_26, snd_bad _ _, snd_bad _ _, g_T_lies_29, snd_bad _ _, snd_bad _ _, g_T_lies_32, g_T_lies_33, snd_bad _ _, snd_bad _ _, g_T_lies_36, g_T_lies_37, snd_bad _ _, snd_bad _ _, g_T_lies_40, snd_bad _ _, snd_bad _ _, g_T_lies_43, g_T_lies_44, g_T_lies_45, g_T_lies_46, snd_bad _ _, snd_bad _ _, g_T_lies_49, g_T_lies_50, g_T_lies_51, snd_bad _ _, snd_bad _ _, g_T_lies_54, g_T_lies_55, snd_bad _ _, snd_bad _ _, g_T_lies_58, snd_bad _ _, snd_bad _ _, g_T_lies_61, g_T_lies_62, g_T_lies_63, snd_bad _ _, snd_bad _ _, g_T_lies_66, g_T_lies_67, snd_bad _ _, snd_bad _ _, g_T_lies_70, trivial⟩
theorem d_T_paragraph_0 : decode (tm_c 16) 0 = .ok (.aload_n 0, 1) := by decide +kernel
theorem d_T_paragraph_1 : decode (tm_c 16) 1 = .ok (.iload_n 1, 1) := by decide +kernel
theorem d_T_paragraph_2 : decode (tm_c 16) 2 = .ok (.invokevirtual 37, 3) := by decide +kernel
theorem d_T_paragraph_5 : decode (tm_c 16) 5 = .ok (.ifCond .eq (14), 3) := by decide +kernel
theorem d_T_paragraph_8 : decode (tm_c 16) 8 = .ok (.aload_n 0, 1) := by decide +kernel
theorem d_T_paragraph_9 : decode (tm_c 16) 9 = .ok (.getfield 26, 3) := by decide +kernel
theorem d_T_paragraph_12 : decode (tm_c 16) 12 = .ok (.iload_n 2, 1) := by decide +kernel
theorem d_T_paragraph_13 : decode (tm_c 16) 13 = .ok (.invokevirtual 65, 3) := by decide +kernel
theorem d_T_paragraph_16 : decode (tm_c 16) 16 = .ok (.goto (4), 3) := by decide +kernel
theorem d_T_paragraph_19 : decode (tm_c 16) 19 = .ok (.iconst (-1), 1) := by decide +kernel
theorem d_T_paragraph_20 : decode (tm_c 16) 20 = .ok (.istore 4, 2) := by decide +kernel
theorem d_T_paragraph_22 : decode (tm_c 16) 22 = .ok (.iload 4, 2) := by decide +kernel
theorem d_T_paragraph_24 : decode (tm_c 16) 24 = .ok (.iconst (-1), 1) := by decide +kernel
theorem d_T_paragraph_25 : decode (tm_c 16) 25 = .ok (.if_icmp .ne (5), 3) := by decide +kernel
theorem d_T_paragraph_28 : decode (tm_c 16) 28 = .ok (.iconst (-1), 1) := by decide +kernel
theorem d_T_paragraph_29 : decode (tm_c 16) 29 = .ok (.ireturn, 1) := by decide +kernel
theorem d_T_paragraph_30 : decode (tm_c 16) 30 = .ok (.iload_n 3, 1) := by decide +kernel
theorem d_T_paragraph_31 : decode (tm_c 16) 31 = .ok (.tableswitch (62) (0) (2) #[25, 28, 41], 25) := by decide +kernel
theorem d_T_paragraph_56 : decode (tm_c 16) 56 = .ok (.iload 4, 2) := by decide +kernel
theorem d_T_paragraph_58 : decode (tm_c 16) 58 = .ok (.ireturn, 1) := by decide +kernel
theorem d_T_paragraph_59 : decode (tm_c 16) 59 = .ok (.aload_n 0, 1) := by decide +kernel
theorem d_T_paragraph_60 : decode (tm_c 16) 60 = .ok (.getfield 26, 3) := by decide +kernel
theorem d_T_paragraph_63 : decode (tm_c 16) 63 = .ok (.iload 4, 2) := by decide +kernel
theorem d_T_paragraph_65 : decode (tm_c 16) 65 = .ok (.invokevirtual 125, 3) := by decide +kernel
theorem d_T_paragraph_68 : decode (tm_c 16) 68 = .ok (.iload 4, 2) := by decide +kernel
theorem d_T_paragraph_70 : decode (tm_c 16) 70 = .ok (.isub, 1) := by decide +kernel
theorem d_T_paragraph_71 : decode (tm_c 16) 71 = .ok (.ireturn, 1) := by decide +kernel
theorem d_T_paragraph_72 : decode (tm_c 16) 72 = .ok (.aload_n 0, 1) := by decide +kernel
theorem d_T_paragraph_73 : decode (tm_c 16) 73 = .ok (.getfield 26, 3) := by decide +kernel
theorem d_T_paragraph_76 : decode (tm_c 16) 76 = .ok (.aload_n 0, 1) := by decide +kernel
theorem d_T_paragraph_77 : decode (tm_c 16) 77 = .ok (.getfield 10, 3) := by decide +kernel
theorem d_T_paragraph_80 : decode (tm_c 16) 80 = .ok (.invokevirtual 128, 3) := by decide +kernel
theorem d_T_paragraph_83 : decode (tm_c 16) 83 = .ok (.aload_n 0, 1) := by decide +kernel
theorem d_T_paragraph_84 : decode (tm_c 16) 84 = .ok (.getfield 26, 3) := by decide +kernel
theorem d_T_paragraph_87 : decode (tm_c 16) 87 = .ok (.iload 4, 2) := by decide +kernel
theorem d_T_paragraph_89 : decode (tm_c 16) 89 = .ok (.invokevirtual 131, 3) := by decide +kernel
theorem d_T_paragraph_92 : decode (tm_c 16) 92 = .ok (.ireturn, 1) := by decide +kernel
theorem d_T_paragraph_93 : decode (tm_c 16) 93 = .ok (.iconst (-1), 1) := by decide +kernel
theorem d_T_paragraph_94 : decode (tm_c 16) 94 = .ok (.ireturn, 1) := by decide +kernel
theorem g_T_paragraph_0 : jSnd 16 0 (o_aload 1 0) := snd_aload_n d_T_paragraph_0 rfl
theorem g_T_paragraph_1 : jSnd 16 1 (o_iload 2 1) := snd_iload_n d_T_paragraph_1 rfl
theorem g_T_paragraph_2 : jSnd 16 2 (o_call 5 24 2 3 13 false) := snd_callV (ci := 3) (n := 1) rfl d_T_paragraph_2 (by decide) (by decide) (by decide) wc_24 wd_138 wd_139 wd_140 wd_2 (by decide +kernel) (by decide) (by decide)
theorem g_T_paragraph_5 : jSnd 16 5 (o_if_eq 8 19) := snd_if_eq d_T_paragraph_5 (by decide)
theorem g_T_paragraph_8 : jSnd 16 8 (o_aload 9 0) := snd_aload_n d_T_paragraph_8 rfl
theorem g_T_paragraph_9 : jSnd 16 9 (o_getR 12 13 (2)) := snd_getR (ci := 3) (k := 2) d_T_paragraph_9 rfl tm_in3 (by decide) wd_134 rfl
theorem g_T_paragraph_12 : jSnd 16 12 (o_iload 13 2) := snd_iload_n d_T_paragraph_12 rfl
theorem g_T_paragraph_13 : jSnd 16 13 (o_call 16 121 2 4 12 false) := snd_callV (ci := 2) (n := 1) rfl d_T_paragraph_13 (by decide) (by decide) (by decide) wc_121 wd_160 wd_161 wd_162 wd_132 (by decide +kernel) (by decide) (by decide)
theorem g_T_paragraph_16 : jSnd 16 16 (o_goto 20) := snd_goto d_T_paragraph_16 (by decide)
theorem g_T_paragraph_19 : jSnd 16 19 (o_push 20 (-1)) := snd_iconst (n := -1) (z := -1) d_T_paragraph_19 (by decide) (by unfold jrg; omega)
theorem g_T_paragraph_20 : jSnd 16 20 (o_istore 22 4) := snd_istore d_T_paragraph_20 (by decide)
theorem g_T_paragraph_22 : jSnd 16 22 (o_iload 24 4) := snd_iload d_T_paragraph_22
theorem g_T_paragraph_24 : jSnd 16 24 (o_push 25 (-1)) := snd_iconst (n := -1) (z := -1) d_T_paragraph_24 (by decide) (by unfold jrg; omega)
theorem g_T_paragraph_25 : jSnd 16 25 (o_ic_ne 28 30) := snd_ic_ne d_T_paragraph_25 (by decide)
theorem g_T_paragraph_28 : jSnd 16 28 (o_push 29 (-1)) := snd_iconst (n := -1) (z := -1) d_T_paragraph_28 (by decide) (by unfold jrg; omega)
theorem g_T_paragraph_29 : jSnd 16 29 (o_iret) := snd_iret d_T_paragraph_29 rfl
theorem g_T_paragraph_30 : jSnd 16 30 (o_iload 31 3) := snd_iload_n d_T_paragraph_30 rfl
theorem g_T_paragraph_31 : jSnd 16 31 (o_switch 93 [(0, 56), (1, 59), (2, 72)]) := snd_table (t := [(0, 56), (1, 59), (2, 72)]) d_T_paragraph_31 (by decide) (fun x h1 h2 => by rcases (show x = 0 ∨ x = 1 ∨ x = 2 by omega) with rfl | rfl | rfl <;> exact ⟨_, rfl, rfl⟩) (fun x h => by simp only [jsw]; rw [if_neg (by omega)]; rw [if_neg (by omega)]; rw [if_neg (by omega)])
theorem g_T_paragraph_56 : jSnd 16 56 (o_iload 58 4) := snd_iload d_T_paragraph_56
theorem g_T_paragraph_58 : jSnd 16 58 (o_iret) := snd_iret d_T_paragraph_58 rfl
theorem g_T_paragraph_59 : jSnd 16 59 (o_aload 60 0) := snd_aload_n d_T_paragraph_59 rfl
theorem g_T_paragraph_60 : jSnd 16 60 (o_getR 63 13 (2)) := snd_getR (ci := 3) (k := 2) d_T_paragraph_60 rfl tm_in3 (by decide) wd_134 rfl
theorem g_T_paragraph_63 : jSnd 16 63 (o_iload 65 4) := snd_iload d_T_paragraph_63
theorem g_T_paragraph_65 : jSnd 16 65 (o_call 68 122 2 3 12 false) := snd_callV (ci := 2) (n := 1) rfl d_T_paragraph_65 (by decide) (by decide) (by decide) wc_122 wd_214 wd_215 wd_216 wd_132 (by decide +kernel) (by decide) (by decide)
theorem g_T_paragraph_68 : jSnd 16 68 (o_iload 70 4) := snd_iload d_T_paragraph_68
theorem g_T_paragraph_70 : jSnd 16 70 (o_bin 71 f_sub) := snd_isub d_T_paragraph_70
theorem g_T_paragraph_71 : jSnd 16 71 (o_iret) := snd_iret d_T_paragraph_71 rfl
theorem g_T_paragraph_72 : jSnd 16 72 (o_aload 73 0) := snd_aload_n d_T_paragraph_72 rfl
theorem g_T_paragraph_73 : jSnd 16 73 (o_getR 76 13 (2)) := snd_getR (ci := 3) (k := 2) d_T_paragraph_73 rfl tm_in3 (by decide) wd_134 rfl
theorem g_T_paragraph_76 : jSnd 16 76 (o_aload 77 0) := snd_aload_n d_T_paragraph_76 rfl
theorem g_T_paragraph_77 : jSnd 16 77 (o_getR 80 13 (0)) := snd_getR (ci := 3) (k := 0) d_T_paragraph_77 rfl tm_in3 (by decide) wd_124 rfl
theorem g_T_paragraph_80 : jSnd 16 80 (o_call 83 123 2 4 12 true) := snd_callV (ci := 2) (n := 1) rfl d_T_paragraph_80 (by decide) (by decide) (by decide) wc_123 wd_217 wd_218 wd_219 wd_132 (by decide +kernel) (by decide) (by decide)
theorem g_T_paragraph_83 : jSnd 16 83 (o_aload 84 0) := snd_aload_n d_T_paragraph_83 rfl
theorem g_T_paragraph_84 : jSnd 16 84 (o_getR 87 13 (2)) := snd_getR (ci := 3) (k := 2) d_T_paragraph_84 rfl tm_in3 (by decide) wd_134 rfl
theorem g_T_paragraph_87 : jSnd 16 87 (o_iload 89 4) := snd_iload d_T_paragraph_87
theorem g_T_paragraph_89 : jSnd 16 89 (o_call 92 125 2 3 12 false) := snd_callV (ci := 2) (n := 1) rfl d_T_paragraph_89 (by decide) (by decide) (by decide) wc_125 wd_220 wd_221 wd_222 wd_132 (by decide +kernel) (by decide) (by decide)
theorem g_T_paragraph_92 : jSnd 16 92 (o_iret) := snd_iret d_T_paragraph_92 rfl
theorem g_T_paragraph_93 : jSnd 16 93 (o_push 94 (-1)) := snd_iconst (n := -1) (z := -1) d_T_paragraph_93 (by decide) (by unfold jrg; omega)
theorem g_T_paragraph_94 : jSnd 16 94 (o_iret) := snd_iret d_T_paragraph_94 rfl
set_option maxRecDepth 100000 in
theorem ga_T_paragraph : jAll 16 0 tmp_T_paragraph := ⟨g_T_paragraph_0, g_T_paragraph_1, g_T_paragraph_2, snd_bad _ _, snd_bad _ _, g_T_paragraph_5, snd_bad _ _, snd_bad _ _, g_T_paragraph_8, g_T_paragraph_9, snd_bad _ _, snd_bad _ _, g_T_paragraph_12, g_T_paragraph_13, snd_bad _ _, snd_bad _ _, g_T_paragraph_16, snd_bad _ _, snd_bad _ _, g_T_paragraph_19, g_T_paragraph_20, snd_bad _ _, g_T_paragraph_22, snd_bad _ _, g_T_paragraph_24, g_T_paragraph_25, snd_bad _ _, snd_bad _ _, g_T_paragraph_28, g_T_paragraph_29, g_T_paragraph_30, g_T_paragraph_31, snd_bad _ _, snd_bad _ _, snd_bad _ _, snd_bad _ _, snd_bad _ _, snd_bad _ _, snd_bad _ _, snd_bad _ _, snd_bad _ _, snd_bad _ _, snd_bad _ _, snd_bad _ _, snd_bad _ _, snd_bad _ _, snd_bad _ _, snd_bad _ _, snd_bad _ _, snd_bad _ _, snd_bad _ _, snd_bad _ _, snd_bad _ _, snd_bad _ _, snd_bad _ _, snd_bad _ _, g_T_paragraph_56, snd_bad _ _, g_T_paragraph_58, g_T_paragraph_59, g_T_paragraph_60, snd_bad _ _, snd_bad _ _, g_T_paragraph_63, snd_bad _ _, g_T_paragraph_65, snd_bad _ _, snd_bad _ _, g_T_paragraph_68, snd_bad _ _, g_T_paragraph_70, g_T_paragraph_71, g_T_paragraph_72, g_T_paragraph_73, snd_bad _ _, snd_bad _ _, g_T_paragraph_76, g_T_paragraph_77, snd_bad _ _, snd_bad _ _, g_T_paragraph_80, snd_bad _ _, snd_bad _ _, g_T_paragraph_83, g_T_paragraph_84, snd_bad _ _, snd_bad _ _, g_T_paragraph_87, snd_bad _ _, g_T_paragraph_89, snd_bad _ _, snd_bad _ _, g_T_paragraph_92, g_T_paragraph_93, g_T_paragraph_94, trivial⟩
theorem d_T_row_0 : decode (tm_c 17) 0 = .ok (.aload_n 0, 1) := by decide +kernel
theorem d_T_row_1 : decode (tm_c 17) 1 = .ok (.getfield 10, 3) := by decide +kernel
theorem d_T_row_4 : decode (tm_c 17) 4 = .ok (.iload_n 1, 1) := by decide +kernel
theorem d_T_row_5 : decode (tm_c 17) 5 = .ok (.iload_n 2, 1) := by decide +kernel
theorem d_T_row_6 : decode (tm_c 17) 6 = .ok (.invokevirtual 71, 3) := by decide +kernel
theorem d_T_row_9 : decode (tm_c 17) 9 = .ok (.ireturn, 1) := by decide +kernel
theorem g_T_row_0 : jSnd 17 0 (o_aload 1 0) := snd_aload_n d_T_row_0 rfl
theorem g_T_row_1 : jSnd 17 1 (o_getR 4 13 (0)) := snd_getR (ci := 3) (k := 0) d_T_row_1 rfl tm_in3 (by decide) wd_124 rfl
theorem g_T_row_4 : jSnd 17 4 (o_iload 5 1) := snd_iload_n d_T_row_4 rfl
theorem g_T_row_5 : jSnd 17 5 (o_iload 6 2) := snd_iload_n d_T_row_5 rfl
theorem g_T_row_6 : jSnd 17 6 (o_call 9 86 3 3 11 false) := snd_callV (ci := 1) (n := 2) rfl d_T_row_6 (by decide) (by decide) (by decide) wc_86 wd_166 wd_167 wd_168 wd_122 (by decide +kernel) (by decide) (by decide)
theorem g_T_row_9 : jSnd 17 9 (o_iret) := snd_iret d_T_row_9 rfl
set_option maxRecDepth 100000 in
theorem ga_T_row : jAll 17 0 tmp_T_row := ⟨g_T_row_0, g_T_row_1, snd_bad _ _, snd_bad _ _, g_T_row_4, g_T_row_5, g_T_row_6, snd_bad _ _, snd_bad _ _, g_T_row_9, trivial⟩
theorem d_T_alike_0 : decode (tm_c 18) 0 = .ok (.aload_n 0, 1) := by decide +kernel
theorem d_T_alike_1 : decode (tm_c 18) 1 = .ok (.iload_n 1, 1) := by decide +kernel
theorem d_T_alike_2 : decode (tm_c 18) 2 = .ok (.invokevirtual 78, 3) := by decide +kernel
theorem d_T_alike_5 : decode (tm_c 18) 5 = .ok (.astore_n 3, 1) := by decide +kernel
theorem d_T_alike_6 : decode (tm_c 18) 6 = .ok (.aload_n 0, 1) := by decide +kernel
theorem d_T_alike_7 : decode (tm_c 18) 7 = .ok (.iload_n 2, 1) := by decide +kernel
theorem d_T_alike_8 : decode (tm_c 18) 8 = .ok (.invokevirtual 78, 3) := by decide +kernel
theorem d_T_alike_11 : decode (tm_c 18) 11 = .ok (.astore 4, 2) := by decide +kernel
theorem d_T_alike_13 : decode (tm_c 18) 13 = .ok (.aload_n 3, 1) := by decide +kernel
theorem d_T_alike_14 : decode (tm_c 18) 14 = .ok (.ifnull (8), 3) := by decide +kernel
theorem d_T_alike_17 : decode (tm_c 18) 17 = .ok (.aload 4, 2) := by decide +kernel
theorem d_T_alike_19 : decode (tm_c 18) 19 = .ok (.ifnonnull (5), 3) := by decide +kernel
theorem d_T_alike_22 : decode (tm_c 18) 22 = .ok (.iconst (0), 1) := by decide +kernel
theorem d_T_alike_23 : decode (tm_c 18) 23 = .ok (.ireturn, 1) := by decide +kernel
theorem d_T_alike_24 : decode (tm_c 18) 24 = .ok (.aload_n 0, 1) := by decide +kernel
theorem d_T_alike_25 : decode (tm_c 18) 25 = .ok (.aload_n 0, 1) := by decide +kernel
theorem d_T_alike_26 : decode (tm_c 18) 26 = .ok (.getfield 26, 3) := by decide +kernel
theorem d_T_alike_29 : decode (tm_c 18) 29 = .ok (.aload_n 3, 1) := by decide +kernel
theorem d_T_alike_30 : decode (tm_c 18) 30 = .ok (.invokevirtual 134, 3) := by decide +kernel
theorem d_T_alike_33 : decode (tm_c 18) 33 = .ok (.aload_n 0, 1) := by decide +kernel
theorem d_T_alike_34 : decode (tm_c 18) 34 = .ok (.aload_n 0, 1) := by decide +kernel
theorem d_T_alike_35 : decode (tm_c 18) 35 = .ok (.getfield 30, 3) := by decide +kernel
theorem d_T_alike_38 : decode (tm_c 18) 38 = .ok (.aload 4, 2) := by decide +kernel
theorem d_T_alike_40 : decode (tm_c 18) 40 = .ok (.invokevirtual 134, 3) := by decide +kernel
theorem d_T_alike_43 : decode (tm_c 18) 43 = .ok (.aload_n 0, 1) := by decide +kernel
theorem d_T_alike_44 : decode (tm_c 18) 44 = .ok (.getfield 26, 3) := by decide +kernel
theorem d_T_alike_47 : decode (tm_c 18) 47 = .ok (.aload_n 0, 1) := by decide +kernel
theorem d_T_alike_48 : decode (tm_c 18) 48 = .ok (.getfield 30, 3) := by decide +kernel
theorem d_T_alike_51 : decode (tm_c 18) 51 = .ok (.invokevirtual 138, 3) := by decide +kernel
theorem d_T_alike_54 : decode (tm_c 18) 54 = .ok (.ifCond .eq (28), 3) := by decide +kernel
theorem d_T_alike_57 : decode (tm_c 18) 57 = .ok (.aload_n 0, 1) := by decide +kernel
theorem d_T_alike_58 : decode (tm_c 18) 58 = .ok (.getfield 26, 3) := by decide +kernel
theorem d_T_alike_61 : decode (tm_c 18) 61 = .ok (.aload_n 0, 1) := by decide +kernel
theorem d_T_alike_62 : decode (tm_c 18) 62 = .ok (.getfield 30, 3) := by decide +kernel
theorem d_T_alike_65 : decode (tm_c 18) 65 = .ok (.invokevirtual 142, 3) := by decide +kernel
theorem d_T_alike_68 : decode (tm_c 18) 68 = .ok (.ifCond .eq (14), 3) := by decide +kernel
theorem d_T_alike_71 : decode (tm_c 18) 71 = .ok (.aload_n 0, 1) := by decide +kernel
theorem d_T_alike_72 : decode (tm_c 18) 72 = .ok (.invokevirtual 145, 3) := by decide +kernel
theorem d_T_alike_75 : decode (tm_c 18) 75 = .ok (.ifCond .eq (7), 3) := by decide +kernel
theorem d_T_alike_78 : decode (tm_c 18) 78 = .ok (.iconst (1), 1) := by decide +kernel
theorem d_T_alike_79 : decode (tm_c 18) 79 = .ok (.goto (4), 3) := by decide +kernel
theorem d_T_alike_82 : decode (tm_c 18) 82 = .ok (.iconst (0), 1) := by decide +kernel
theorem d_T_alike_83 : decode (tm_c 18) 83 = .ok (.ireturn, 1) := by decide +kernel
theorem g_T_alike_0 : jSnd 18 0 (o_aload 1 0) := snd_aload_n d_T_alike_0 rfl
theorem g_T_alike_1 : jSnd 18 1 (o_iload 2 1) := snd_iload_n d_T_alike_1 rfl
theorem g_T_alike_2 : jSnd 18 2 (o_call 5 20 2 2 13 false) := snd_callV (ci := 3) (n := 1) rfl d_T_alike_2 (by decide) (by decide) (by decide) wc_20 wd_172 wd_173 wd_174 wd_2 (by decide +kernel) (by decide) (by decide)
theorem g_T_alike_5 : jSnd 18 5 (o_astore 6 3) := snd_astore_n d_T_alike_5 rfl (by decide)
theorem g_T_alike_6 : jSnd 18 6 (o_aload 7 0) := snd_aload_n d_T_alike_6 rfl
theorem g_T_alike_7 : jSnd 18 7 (o_iload 8 2) := snd_iload_n d_T_alike_7 rfl
theorem g_T_alike_8 : jSnd 18 8 (o_call 11 20 2 2 13 false) := snd_callV (ci := 3) (n := 1) rfl d_T_alike_8 (by decide) (by decide) (by decide) wc_20 wd_172 wd_173 wd_174 wd_2 (by decide +kernel) (by decide) (by decide)
theorem g_T_alike_11 : jSnd 18 11 (o_astore 13 4) := snd_astore d_T_alike_11 (by decide)
theorem g_T_alike_13 : jSnd 18 13 (o_aload 14 3) := snd_aload_n d_T_alike_13 rfl
theorem g_T_alike_14 : jSnd 18 14 (o_ifnull 17 22) := snd_ifnull d_T_alike_14 (by decide)
theorem g_T_alike_17 : jSnd 18 17 (o_aload 19 4) := snd_aload d_T_alike_17
theorem g_T_alike_19 : jSnd 18 19 (o_ifnonnull 22 24) := snd_ifnonnull d_T_alike_19 (by decide)
theorem g_T_alike_22 : jSnd 18 22 (o_push 23 (0)) := snd_iconst (n := 0) (z := 0) d_T_alike_22 (by decide) (by unfold jrg; omega)
theorem g_T_alike_23 : jSnd 18 23 (o_zret) := snd_zret d_T_alike_23 rfl
theorem g_T_alike_24 : jSnd 18 24 (o_aload 25 0) := snd_aload_n d_T_alike_24 rfl
theorem g_T_alike_25 : jSnd 18 25 (o_aload 26 0) := snd_aload_n d_T_alike_25 rfl
theorem g_T_alike_26 : jSnd 18 26 (o_getR 29 13 (2)) := snd_getR (ci := 3) (k := 2) d_T_alike_26 rfl tm_in3 (by decide) wd_134 rfl
theorem g_T_alike_29 : jSnd 18 29 (o_aload 30 3) := snd_aload_n d_T_alike_29 rfl
theorem g_T_alike_30 : jSnd 18 30 (o_call 33 30 3 3 13 true) := snd_callV (ci := 3) (n := 2) rfl d_T_alike_30 (by decide) (by decide) (by decide) wc_30 wd_223 wd_224 wd_225 wd_2 (by decide +kernel) (by decide) (by decide)
theorem g_T_alike_33 : jSnd 18 33 (o_aload 34 0) := snd_aload_n d_T_alike_33 rfl
theorem g_T_alike_34 : jSnd 18 34 (o_aload 35 0) := snd_aload_n d_T_alike_34 rfl
theorem g_T_alike_35 : jSnd 18 35 (o_getR 38 13 (3)) := snd_getR (ci := 3) (k := 3) d_T_alike_35 rfl tm_in3 (by decide) wd_135 rfl
theorem g_T_alike_38 : jSnd 18 38 (o_aload 40 4) := snd_aload d_T_alike_38
theorem g_T_alike_40 : jSnd 18 40 (o_call 43 30 3 3 13 true) := snd_callV (ci := 3) (n := 2) rfl d_T_alike_40 (by decide) (by decide) (by decide) wc_30 wd_223 wd_224 wd_225 wd_2 (by decide +kernel) (by decide) (by decide)
theorem g_T_alike_43 : jSnd 18 43 (o_aload 44 0) := snd_aload_n d_T_alike_43 rfl
theorem g_T_alike_44 : jSnd 18 44 (o_getR 47 13 (2)) := snd_getR (ci := 3) (k := 2) d_T_alike_44 rfl tm_in3 (by decide) wd_134 rfl
theorem g_T_alike_47 : jSnd 18 47 (o_aload 48 0) := snd_aload_n d_T_alike_47 rfl
theorem g_T_alike_48 : jSnd 18 48 (o_getR 51 13 (3)) := snd_getR (ci := 3) (k := 3) d_T_alike_48 rfl tm_in3 (by decide) wd_135 rfl
theorem g_T_alike_51 : jSnd 18 51 (o_call 54 126 2 3 12 false) := snd_callV (ci := 2) (n := 1) rfl d_T_alike_51 (by decide) (by decide) (by decide) wc_126 wd_226 wd_227 wd_228 wd_132 (by decide +kernel) (by decide) (by decide)
theorem g_T_alike_54 : jSnd 18 54 (o_if_eq 57 82) := snd_if_eq d_T_alike_54 (by decide)
theorem g_T_alike_57 : jSnd 18 57 (o_aload 58 0) := snd_aload_n d_T_alike_57 rfl
theorem g_T_alike_58 : jSnd 18 58 (o_getR 61 13 (2)) := snd_getR (ci := 3) (k := 2) d_T_alike_58 rfl tm_in3 (by decide) wd_134 rfl
theorem g_T_alike_61 : jSnd 18 61 (o_aload 62 0) := snd_aload_n d_T_alike_61 rfl
theorem g_T_alike_62 : jSnd 18 62 (o_getR 65 13 (3)) := snd_getR (ci := 3) (k := 3) d_T_alike_62 rfl tm_in3 (by decide) wd_135 rfl
theorem g_T_alike_65 : jSnd 18 65 (o_call 68 127 2 3 12 false) := snd_callV (ci := 2) (n := 1) rfl d_T_alike_65 (by decide) (by decide) (by decide) wc_127 wd_229 wd_230 wd_231 wd_132 (by decide +kernel) (by decide) (by decide)
theorem g_T_alike_68 : jSnd 18 68 (o_if_eq 71 82) := snd_if_eq d_T_alike_68 (by decide)
theorem g_T_alike_71 : jSnd 18 71 (o_aload 72 0) := snd_aload_n d_T_alike_71 rfl
theorem g_T_alike_72 : jSnd 18 72 (o_call 75 31 1 2 13 false) := snd_callV (ci := 3) (n := 0) rfl d_T_alike_72 (by decide) (by decide) (by decide) wc_31 wd_232 wd_233 wd_234 wd_2 (by decide +kernel) (by decide) (by decide)
theorem g_T_alike_75 : jSnd 18 75 (o_if_eq 78 82) := snd_if_eq d_T_alike_75 (by decide)
theorem g_T_alike_78 : jSnd 18 78 (o_push 79 (1)) := snd_iconst (n := 1) (z := 1) d_T_alike_78 (by decide) (by unfold jrg; omega)
theorem g_T_alike_79 : jSnd 18 79 (o_goto 83) := snd_goto d_T_alike_79 (by decide)
theorem g_T_alike_82 : jSnd 18 82 (o_push 83 (0)) := snd_iconst (n := 0) (z := 0) d_T_alike_82 (by decide) (by unfold jrg; omega)
theorem g_T_alike_83 : jSnd 18 83 (o_zret) := snd_zret d_T_alike_83 rfl
set_option maxRecDepth 100000 in
theorem ga_T_alike : jAll 18 0 tmp_T_alike := ⟨g_T_alike_0, g_T_alike_1, g_T_alike_2, snd_bad _ _, snd_bad _ _, g_T_alike_5, g_T_alike_6, g_T_alike_7, g_T_alike_8, snd_bad _ _, snd_bad _ _, g_T_alike_11, snd_bad _ _, g_T_alike_13, g_T_alike_14, snd_bad _ _, snd_bad _ _, g_T_alike_17, snd_bad _ _, g_T_alike_19, snd_bad _ _, snd_bad _ _, g_T_alike_22, g_T_alike_23, g_T_alike_24, g_T_alike_25, g_T_alike_26, snd_bad _ _, snd_bad _ _, g_T_alike_29, g_T_alike_30, snd_bad _ _, snd_bad _ _, g_T_alike_33, g_T_alike_34, g_T_alike_35, snd_bad _ _, snd_bad _ _, g_T_alike_38, snd_bad _ _, g_T_alike_40, snd_bad _ _, snd_bad _ _, g_T_alike_43, g_T_alike_44, snd_bad _ _, snd_bad _ _, g_T_alike_47, g_T_alike_48, snd_bad _ _, snd_bad _ _, g_T_alike_51, snd_bad _ _, snd_bad _ _, g_T_alike_54, snd_bad _ _, snd_bad _ _, g_T_alike_57, g_T_alike_58, snd_bad _ _, snd_bad _ _, g_T_alike_61, g_T_alike_62, snd_bad _ _, snd_bad _ _, g_T_alike_65, snd_bad _ _, snd_bad _ _, g_T_alike_68, snd_bad _ _, snd_bad _ _, g_T_alike_71, g_T_alike_72, snd_bad _ _, snd_bad _ _, g_T_alike_75, snd_bad _ _, snd_bad _ _, g_T_alike_78, g_T_alike_79, snd_bad _ _, snd_bad _ _, g_T_alike_82, g_T_alike_83, trivial⟩
theorem d_T_total_0 : decode (tm_c 19) 0 = .ok (.aload_n 0, 1) := by decide +kernel
theorem d_T_total_1 : decode (tm_c 19) 1 = .ok (.iload_n 1, 1) := by decide +kernel
theorem d_T_total_2 : decode (tm_c 19) 2 = .ok (.invokevirtual 78, 3) := by decide +kernel
theorem d_T_total_5 : decode (tm_c 19) 5 = .ok (.astore_n 3, 1) := by decide +kernel
theorem d_T_total_6 : decode (tm_c 19) 6 = .ok (.aload_n 3, 1) := by decide +kernel
theorem d_T_total_7 : decode (tm_c 19) 7 = .ok (.ifnonnull (5), 3) := by decide +kernel
theorem d_T_total_10 : decode (tm_c 19) 10 = .ok (.iconst (-1), 1) := by decide +kernel
theorem d_T_total_11 : decode (tm_c 19) 11 = .ok (.ireturn, 1) := by decide +kernel
theorem d_T_total_12 : decode (tm_c 19) 12 = .ok (.aload_n 0, 1) := by decide +kernel
theorem d_T_total_13 : decode (tm_c 19) 13 = .ok (.getfield 26, 3) := by decide +kernel
theorem d_T_total_16 : decode (tm_c 19) 16 = .ok (.aload_n 0, 1) := by decide +kernel
theorem d_T_total_17 : decode (tm_c 19) 17 = .ok (.getfield 10, 3) := by decide +kernel
theorem d_T_total_20 : decode (tm_c 19) 20 = .ok (.aload_n 3, 1) := by decide +kernel
theorem d_T_total_21 : decode (tm_c 19) 21 = .ok (.invokevirtual 149, 3) := by decide +kernel
theorem d_T_total_24 : decode (tm_c 19) 24 = .ok (.iload_n 2, 1) := by decide +kernel
theorem d_T_total_25 : decode (tm_c 19) 25 = .ok (.tableswitch (102) (0) (6) #[43, 51, 59, 78, 86, 92, 97], 43) := by decide +kernel
theorem d_T_total_68 : decode (tm_c 19) 68 = .ok (.aload_n 0, 1) := by decide +kernel
theorem d_T_total_69 : decode (tm_c 19) 69 = .ok (.getfield 26, 3) := by decide +kernel
theorem d_T_total_72 : decode (tm_c 19) 72 = .ok (.invokevirtual 40, 3) := by decide +kernel
theorem d_T_total_75 : decode (tm_c 19) 75 = .ok (.ireturn, 1) := by decide +kernel
theorem d_T_total_76 : decode (tm_c 19) 76 = .ok (.aload_n 0, 1) := by decide +kernel
theorem d_T_total_77 : decode (tm_c 19) 77 = .ok (.getfield 26, 3) := by decide +kernel
theorem d_T_total_80 : decode (tm_c 19) 80 = .ok (.invokevirtual 153, 3) := by decide +kernel
theorem d_T_total_83 : decode (tm_c 19) 83 = .ok (.ireturn, 1) := by decide +kernel
theorem d_T_total_84 : decode (tm_c 19) 84 = .ok (.aload_n 0, 1) := by decide +kernel
theorem d_T_total_85 : decode (tm_c 19) 85 = .ok (.getfield 26, 3) := by decide +kernel
theorem d_T_total_88 : decode (tm_c 19) 88 = .ok (.aload_n 0, 1) := by decide +kernel
theorem d_T_total_89 : decode (tm_c 19) 89 = .ok (.getfield 10, 3) := by decide +kernel
theorem d_T_total_92 : decode (tm_c 19) 92 = .ok (.invokevirtual 102, 3) := by decide +kernel
theorem d_T_total_95 : decode (tm_c 19) 95 = .ok (.aload_n 0, 1) := by decide +kernel
theorem d_T_total_96 : decode (tm_c 19) 96 = .ok (.getfield 26, 3) := by decide +kernel
theorem d_T_total_99 : decode (tm_c 19) 99 = .ok (.invokevirtual 156, 3) := by decide +kernel
theorem d_T_total_102 : decode (tm_c 19) 102 = .ok (.ireturn, 1) := by decide +kernel
theorem d_T_total_103 : decode (tm_c 19) 103 = .ok (.aload_n 0, 1) := by decide +kernel
theorem d_T_total_104 : decode (tm_c 19) 104 = .ok (.getfield 26, 3) := by decide +kernel
theorem d_T_total_107 : decode (tm_c 19) 107 = .ok (.invokevirtual 159, 3) := by decide +kernel
theorem d_T_total_110 : decode (tm_c 19) 110 = .ok (.ireturn, 1) := by decide +kernel
theorem d_T_total_111 : decode (tm_c 19) 111 = .ok (.aload_n 0, 1) := by decide +kernel
theorem d_T_total_112 : decode (tm_c 19) 112 = .ok (.aload_n 3, 1) := by decide +kernel
theorem d_T_total_113 : decode (tm_c 19) 113 = .ok (.invokevirtual 162, 3) := by decide +kernel
theorem d_T_total_116 : decode (tm_c 19) 116 = .ok (.ireturn, 1) := by decide +kernel
theorem d_T_total_117 : decode (tm_c 19) 117 = .ok (.aload_n 3, 1) := by decide +kernel
theorem d_T_total_118 : decode (tm_c 19) 118 = .ok (.invokevirtual 166, 3) := by decide +kernel
theorem d_T_total_121 : decode (tm_c 19) 121 = .ok (.ireturn, 1) := by decide +kernel
theorem d_T_total_122 : decode (tm_c 19) 122 = .ok (.aload_n 3, 1) := by decide +kernel
theorem d_T_total_123 : decode (tm_c 19) 123 = .ok (.invokevirtual 169, 3) := by decide +kernel
theorem d_T_total_126 : decode (tm_c 19) 126 = .ok (.ireturn, 1) := by decide +kernel
theorem d_T_total_127 : decode (tm_c 19) 127 = .ok (.iconst (-1), 1) := by decide +kernel
theorem d_T_total_128 : decode (tm_c 19) 128 = .ok (.ireturn, 1) := by decide +kernel
theorem g_T_total_0 : jSnd 19 0 (o_aload 1 0) := snd_aload_n d_T_total_0 rfl
theorem g_T_total_1 : jSnd 19 1 (o_iload 2 1) := snd_iload_n d_T_total_1 rfl
theorem g_T_total_2 : jSnd 19 2 (o_call 5 20 2 2 13 false) := snd_callV (ci := 3) (n := 1) rfl d_T_total_2 (by decide) (by decide) (by decide) wc_20 wd_172 wd_173 wd_174 wd_2 (by decide +kernel) (by decide) (by decide)
theorem g_T_total_5 : jSnd 19 5 (o_astore 6 3) := snd_astore_n d_T_total_5 rfl (by decide)
theorem g_T_total_6 : jSnd 19 6 (o_aload 7 3) := snd_aload_n d_T_total_6 rfl
theorem g_T_total_7 : jSnd 19 7 (o_ifnonnull 10 12) := snd_ifnonnull d_T_total_7 (by decide)
theorem g_T_total_10 : jSnd 19 10 (o_push 11 (-1)) := snd_iconst (n := -1) (z := -1) d_T_total_10 (by decide) (by unfold jrg; omega)
theorem g_T_total_11 : jSnd 19 11 (o_iret) := snd_iret d_T_total_11 rfl
theorem g_T_total_12 : jSnd 19 12 (o_aload 13 0) := snd_aload_n d_T_total_12 rfl
theorem g_T_total_13 : jSnd 19 13 (o_getR 16 13 (2)) := snd_getR (ci := 3) (k := 2) d_T_total_13 rfl tm_in3 (by decide) wd_134 rfl
theorem g_T_total_16 : jSnd 19 16 (o_aload 17 0) := snd_aload_n d_T_total_16 rfl
theorem g_T_total_17 : jSnd 19 17 (o_getR 20 13 (0)) := snd_getR (ci := 3) (k := 0) d_T_total_17 rfl tm_in3 (by decide) wd_124 rfl
theorem g_T_total_20 : jSnd 19 20 (o_aload 21 3) := snd_aload_n d_T_total_20 rfl
theorem g_T_total_21 : jSnd 19 21 (o_call 24 97 3 5 12 true) := snd_callV (ci := 2) (n := 2) rfl d_T_total_21 (by decide) (by decide) (by decide) wc_97 wd_235 wd_236 wd_237 wd_132 (by decide +kernel) (by decide) (by decide)
theorem g_T_total_24 : jSnd 19 24 (o_iload 25 2) := snd_iload_n d_T_total_24 rfl
theorem g_T_total_25 : jSnd 19 25 (o_switch 127 [(0, 68), (1, 76), (2, 84), (3, 103), (4, 111), (5, 117), (6, 122)]) := snd_table (t := [(0, 68), (1, 76), (2, 84), (3, 103), (4, 111), (5, 117), (6, 122)]) d_T_total_25 (by decide) (fun x h1 h2 => by rcases (show x = 0 ∨ x = 1 ∨ x = 2 ∨ x = 3 ∨ x = 4 ∨ x = 5 ∨ x = 6 by omega) with rfl | rfl | rfl | rfl | rfl | rfl | rfl <;> exact ⟨_, rfl, rfl⟩) (fun x h => by simp only [jsw]; rw [if_neg (by omega)]; rw [if_neg (by omega)]; rw [if_neg (by omega)]; rw [if_neg (by omega)]; rw [if_neg (by omega)]; rw [if_neg (by omega)]; rw [if_neg (by omega)])
theorem g_T_total_68 : jSnd 19 68 (o_aload 69 0) := snd_aload_n d_T_total_68 rfl
theorem g_T_total_69 : jSnd 19 69 (o_getR 72 13 (2)) := snd_getR (ci := 3) (k := 2) d_T_total_69 rfl tm_in3 (by decide) wd_134 rfl
theorem g_T_total_72 : jSnd 19 72 (o_call 75 100 1 1 12 false) := snd_callV (ci := 2) (n := 0) rfl d_T_total_72 (by decide) (by decide) (by decide) wc_100 wd_141 wd_142 wd_143 wd_132 (by decide +kernel) (by decide) (by decide)
theorem g_T_total_75 : jSnd 19 75 (o_iret) := snd_iret d_T_total_75 rfl
theorem g_T_total_76 : jSnd 19 76 (o_aload 77 0) := snd_aload_n d_T_total_76 rfl
theorem g_T_total_77 : jSnd 19 77 (o_getR 80 13 (2)) := snd_getR (ci := 3) (k := 2) d_T_total_77 rfl tm_in3 (by decide) wd_134 rfl
theorem g_T_total_80 : jSnd 19 80 (o_call 83 108 1 3 12 false) := snd_callV (ci := 2) (n := 0) rfl d_T_total_80 (by decide) (by decide) (by decide) wc_108 wd_238 wd_239 wd_240 wd_132 (by decide +kernel) (by decide) (by decide)
theorem g_T_total_83 : jSnd 19 83 (o_iret) := snd_iret d_T_total_83 rfl
theorem g_T_total_84 : jSnd 19 84 (o_aload 85 0) := snd_aload_n d_T_total_84 rfl
theorem g_T_total_85 : jSnd 19 85 (o_getR 88 13 (2)) := snd_getR (ci := 3) (k := 2) d_T_total_85 rfl tm_in3 (by decide) wd_134 rfl
theorem g_T_total_88 : jSnd 19 88 (o_aload 89 0) := snd_aload_n d_T_total_88 rfl
theorem g_T_total_89 : jSnd 19 89 (o_getR 92 13 (0)) := snd_getR (ci := 3) (k := 0) d_T_total_89 rfl tm_in3 (by decide) wd_124 rfl
theorem g_T_total_92 : jSnd 19 92 (o_call 95 112 2 4 12 true) := snd_callV (ci := 2) (n := 1) rfl d_T_total_92 (by decide) (by decide) (by decide) wc_112 wd_193 wd_194 wd_195 wd_132 (by decide +kernel) (by decide) (by decide)
theorem g_T_total_95 : jSnd 19 95 (o_aload 96 0) := snd_aload_n d_T_total_95 rfl
theorem g_T_total_96 : jSnd 19 96 (o_getR 99 13 (2)) := snd_getR (ci := 3) (k := 2) d_T_total_96 rfl tm_in3 (by decide) wd_134 rfl
theorem g_T_total_99 : jSnd 19 99 (o_call 102 117 1 3 12 false) := snd_callV (ci := 2) (n := 0) rfl d_T_total_99 (by decide) (by decide) (by decide) wc_117 wd_241 wd_242 wd_243 wd_132 (by decide +kernel) (by decide) (by decide)
theorem g_T_total_102 : jSnd 19 102 (o_iret) := snd_iret d_T_total_102 rfl
theorem g_T_total_103 : jSnd 19 103 (o_aload 104 0) := snd_aload_n d_T_total_103 rfl
theorem g_T_total_104 : jSnd 19 104 (o_getR 107 13 (2)) := snd_getR (ci := 3) (k := 2) d_T_total_104 rfl tm_in3 (by decide) wd_134 rfl
theorem g_T_total_107 : jSnd 19 107 (o_call 110 120 1 3 12 false) := snd_callV (ci := 2) (n := 0) rfl d_T_total_107 (by decide) (by decide) (by decide) wc_120 wd_244 wd_245 wd_246 wd_132 (by decide +kernel) (by decide) (by decide)
theorem g_T_total_110 : jSnd 19 110 (o_iret) := snd_iret d_T_total_110 rfl
theorem g_T_total_111 : jSnd 19 111 (o_aload 112 0) := snd_aload_n d_T_total_111 rfl
theorem g_T_total_112 : jSnd 19 112 (o_aload 113 3) := snd_aload_n d_T_total_112 rfl
theorem g_T_total_113 : jSnd 19 113 (o_call 116 27 2 4 13 false) := snd_callV (ci := 3) (n := 1) rfl d_T_total_113 (by decide) (by decide) (by decide) wc_27 wd_247 wd_248 wd_249 wd_2 (by decide +kernel) (by decide) (by decide)
theorem g_T_total_116 : jSnd 19 116 (o_iret) := snd_iret d_T_total_116 rfl
theorem g_T_total_117 : jSnd 19 117 (o_aload 118 3) := snd_aload_n d_T_total_117 rfl
theorem g_T_total_118 : jSnd 19 118 (o_call 121 79 1 1 10 false) := snd_callV (ci := 0) (n := 0) rfl d_T_total_118 (by decide) (by decide) (by decide) wc_79 wd_250 wd_251 wd_252 wd_128 (by decide +kernel) (by decide) (by decide)
theorem g_T_total_121 : jSnd 19 121 (o_iret) := snd_iret d_T_total_121 rfl
theorem g_T_total_122 : jSnd 19 122 (o_aload 123 3) := snd_aload_n d_T_total_122 rfl
theorem g_T_total_123 : jSnd 19 123 (o_call 126 80 1 1 10 false) := snd_callV (ci := 0) (n := 0) rfl d_T_total_123 (by decide) (by decide) (by decide) wc_80 wd_253 wd_254 wd_255 wd_128 (by decide +kernel) (by decide) (by decide)
theorem g_T_total_126 : jSnd 19 126 (o_iret) := snd_iret d_T_total_126 rfl
theorem g_T_total_127 : jSnd 19 127 (o_push 128 (-1)) := snd_iconst (n := -1) (z := -1) d_T_total_127 (by decide) (by unfold jrg; omega)
theorem g_T_total_128 : jSnd 19 128 (o_iret) := snd_iret d_T_total_128 rfl
set_option maxRecDepth 100000 in
theorem ga_T_total : jAll 19 0 tmp_T_total := ⟨g_T_total_0, g_T_total_1, g_T_total_2, snd_bad _ _, snd_bad _ _, g_T_total_5, g_T_total_6, g_T_total_7, snd_bad _ _, snd_bad _ _, g_T_total_10, g_T_total_11, g_T_total_12, g_T_total_13, snd_bad _ _, snd_bad _ _, g_T_total_16, g_T_total_17, snd_bad _ _, snd_bad _ _, g_T_total_20, g_T_total_21, snd_bad _ _, snd_bad _ _, g_T_total_24, g_T_total_25, snd_bad _ _, snd_bad _ _, snd_bad _ _, snd_bad _ _, snd_bad _ _, snd_bad _ _, snd_bad _ _, snd_bad _ _, snd_bad _ _, snd_bad _ _, snd_bad _ _, snd_bad _ _, snd_bad _ _, snd_bad _ _, snd_bad _ _, snd_bad _ _, snd_bad _ _, snd_bad _ _, snd_bad _ _, snd_bad _ _, snd_bad _ _, snd_bad _ _, snd_bad _ _, snd_bad _ _, snd_bad _ _, snd_bad _ _, snd_bad _ _, snd_bad _ _, snd_bad _ _, snd_bad _ _, snd_bad _ _, snd_bad _ _, snd_bad _ _, snd_bad _ _, snd_bad _ _, snd_bad _ _, snd_bad _ _, snd_bad _ _, snd_bad _ _, snd_bad _ _, snd_bad _ _, snd_bad _ _, g_T_total_68, g_T_total_69, snd_bad _ _, snd_bad _ _, g_T_total_72, snd_bad _ _, snd_bad _ _, g_T_total_75, g_T_total_76, g_T_total_77, snd_bad _ _, snd_bad _ _, g_T_total_80, snd_bad _ _, snd_bad _ _, g_T_total_83, g_T_total_84, g_T_total_85, snd_bad _ _, snd_bad _ _, g_T_total_88, g_T_total_89, snd_bad _ _, snd_bad _ _, g_T_total_92, snd_bad _ _, snd_bad _ _, g_T_total_95, g_T_total_96, snd_bad _ _, snd_bad _ _, g_T_total_99, snd_bad _ _, snd_bad _ _, g_T_total_102, g_T_total_103, g_T_total_104, snd_bad _ _, snd_bad _ _, g_T_total_107, snd_bad _ _, snd_bad _ _, g_T_total_110, g_T_total_111, g_T_total_112, g_T_total_113, snd_bad _ _, snd_bad _ _, g_T_total_116, g_T_total_117, g_T_total_118, snd_bad _ _, snd_bad _ _, g_T_total_121, g_T_total_122, g_T_total_123, snd_bad _ _, snd_bad _ _, g_T_total_126, g_T_total_127, g_T_total_128, trivial⟩
theorem d_T_nodeOf_0 : decode (tm_c 20) 0 = .ok (.iload_n 1, 1) := by decide +kernel
theorem d_T_nodeOf_1 : decode (tm_c 20) 1 = .ok (.ifCond .lt (21), 3) := by decide +kernel
theorem d_T_nodeOf_4 : decode (tm_c 20) 4 = .ok (.iload_n 1, 1) := by decide +kernel
theorem d_T_nodeOf_5 : decode (tm_c 20) 5 = .ok (.aload_n 0, 1) := by decide +kernel
theorem d_T_nodeOf_6 : decode (tm_c 20) 6 = .ok (.getfield 18, 3) := by decide +kernel
theorem d_T_nodeOf_9 : decode (tm_c 20) 9 = .ok (.arraylength, 1) := by decide +kernel
theorem d_T_nodeOf_10 : decode (tm_c 20) 10 = .ok (.if_icmp .ge (12), 3) := by decide +kernel
theorem d_T_nodeOf_13 : decode (tm_c 20) 13 = .ok (.aload_n 0, 1) := by decide +kernel
theorem d_T_nodeOf_14 : decode (tm_c 20) 14 = .ok (.getfield 18, 3) := by decide +kernel
theorem d_T_nodeOf_17 : decode (tm_c 20) 17 = .ok (.iload_n 1, 1) := by decide +kernel
theorem d_T_nodeOf_18 : decode (tm_c 20) 18 = .ok (.aaload, 1) := by decide +kernel
theorem d_T_nodeOf_19 : decode (tm_c 20) 19 = .ok (.goto (4), 3) := by decide +kernel
theorem d_T_nodeOf_22 : decode (tm_c 20) 22 = .ok (.aconst_null, 1) := by decide +kernel
theorem d_T_nodeOf_23 : decode (tm_c 20) 23 = .ok (.areturn, 1) := by decide +kernel
theorem g_T_nodeOf_0 : jSnd 20 0 (o_iload 1 1) := snd_iload_n d_T_nodeOf_0 rfl
theorem g_T_nodeOf_1 : jSnd 20 1 (o_if_lt 4 22) := snd_if_lt d_T_nodeOf_1 (by decide)
theorem g_T_nodeOf_4 : jSnd 20 4 (o_iload 5 1) := snd_iload_n d_T_nodeOf_4 rfl
theorem g_T_nodeOf_5 : jSnd 20 5 (o_aload 6 0) := snd_aload_n d_T_nodeOf_5 rfl
theorem g_T_nodeOf_6 : jSnd 20 6 (o_getR 9 13 (1)) := snd_getR (ci := 3) (k := 1) d_T_nodeOf_6 rfl tm_in3 (by decide) wd_126 rfl
theorem g_T_nodeOf_9 : jSnd 20 9 (o_alen 10 3) := snd_alen (t0 := 2) d_T_nodeOf_9 (by decide) (by decide) rfl
theorem g_T_nodeOf_10 : jSnd 20 10 (o_ic_ge 13 22) := snd_ic_ge d_T_nodeOf_10 (by decide)
theorem g_T_nodeOf_13 : jSnd 20 13 (o_aload 14 0) := snd_aload_n d_T_nodeOf_13 rfl
theorem g_T_nodeOf_14 : jSnd 20 14 (o_getR 17 13 (1)) := snd_getR (ci := 3) (k := 1) d_T_nodeOf_14 rfl tm_in3 (by decide) wd_126 rfl
theorem g_T_nodeOf_17 : jSnd 20 17 (o_iload 18 1) := snd_iload_n d_T_nodeOf_17 rfl
theorem g_T_nodeOf_18 : jSnd 20 18 (o_aald 19 3) := snd_aald (t0 := 2) d_T_nodeOf_18 (by decide) (by decide) rfl
theorem g_T_nodeOf_19 : jSnd 20 19 (o_goto 23) := snd_goto d_T_nodeOf_19 (by decide)
theorem g_T_nodeOf_22 : jSnd 20 22 (o_null 23) := snd_null d_T_nodeOf_22
theorem g_T_nodeOf_23 : jSnd 20 23 (o_aret) := snd_aret d_T_nodeOf_23 rfl
set_option maxRecDepth 100000 in
theorem ga_T_nodeOf : jAll 20 0 tmp_T_nodeOf := ⟨g_T_nodeOf_0, g_T_nodeOf_1, snd_bad _ _, snd_bad _ _, g_T_nodeOf_4, g_T_nodeOf_5, g_T_nodeOf_6, snd_bad _ _, snd_bad _ _, g_T_nodeOf_9, g_T_nodeOf_10, snd_bad _ _, snd_bad _ _, g_T_nodeOf_13, g_T_nodeOf_14, snd_bad _ _, snd_bad _ _, g_T_nodeOf_17, g_T_nodeOf_18, g_T_nodeOf_19, snd_bad _ _, snd_bad _ _, g_T_nodeOf_22, g_T_nodeOf_23, trivial⟩
theorem d_T_isSign_0 : decode (tm_c 21) 0 = .ok (.iload_n 0, 1) := by decide +kernel
theorem d_T_isSign_1 : decode (tm_c 21) 1 = .ok (.ldc 172, 2) := by decide +kernel
theorem d_T_isSign_3 : decode (tm_c 21) 3 = .ok (.if_icmp .lt (11), 3) := by decide +kernel
theorem d_T_isSign_6 : decode (tm_c 21) 6 = .ok (.iload_n 0, 1) := by decide +kernel
theorem d_T_isSign_7 : decode (tm_c 21) 7 = .ok (.ldc 173, 2) := by decide +kernel
theorem d_T_isSign_9 : decode (tm_c 21) 9 = .ok (.if_icmp .gt (5), 3) := by decide +kernel
theorem d_T_isSign_12 : decode (tm_c 21) 12 = .ok (.iconst (0), 1) := by decide +kernel
theorem d_T_isSign_13 : decode (tm_c 21) 13 = .ok (.ireturn, 1) := by decide +kernel
theorem d_T_isSign_14 : decode (tm_c 21) 14 = .ok (.iload_n 0, 1) := by decide +kernel
theorem d_T_isSign_15 : decode (tm_c 21) 15 = .ok (.bipush (10), 2) := by decide +kernel
theorem d_T_isSign_17 : decode (tm_c 21) 17 = .ok (.if_icmp .eq (15), 3) := by decide +kernel
theorem d_T_isSign_20 : decode (tm_c 21) 20 = .ok (.iload_n 0, 1) := by decide +kernel
theorem d_T_isSign_21 : decode (tm_c 21) 21 = .ok (.bipush (32), 2) := by decide +kernel
theorem d_T_isSign_23 : decode (tm_c 21) 23 = .ok (.if_icmp .lt (13), 3) := by decide +kernel
theorem d_T_isSign_26 : decode (tm_c 21) 26 = .ok (.iload_n 0, 1) := by decide +kernel
theorem d_T_isSign_27 : decode (tm_c 21) 27 = .ok (.ldc 174, 2) := by decide +kernel
theorem d_T_isSign_29 : decode (tm_c 21) 29 = .ok (.if_icmp .gt (7), 3) := by decide +kernel
theorem d_T_isSign_32 : decode (tm_c 21) 32 = .ok (.iconst (1), 1) := by decide +kernel
theorem d_T_isSign_33 : decode (tm_c 21) 33 = .ok (.goto (4), 3) := by decide +kernel
theorem d_T_isSign_36 : decode (tm_c 21) 36 = .ok (.iconst (0), 1) := by decide +kernel
theorem d_T_isSign_37 : decode (tm_c 21) 37 = .ok (.ireturn, 1) := by decide +kernel
theorem g_T_isSign_0 : jSnd 21 0 (o_iload 1 0) := snd_iload_n d_T_isSign_0 rfl
theorem g_T_isSign_1 : jSnd 21 1 (o_push 3 (55296)) := snd_ldc (i := 172) (z := 55296) d_T_isSign_1 wd_256 (by unfold jrg; omega)
theorem g_T_isSign_3 : jSnd 21 3 (o_ic_lt 6 14) := snd_ic_lt d_T_isSign_3 (by decide)
theorem g_T_isSign_6 : jSnd 21 6 (o_iload 7 0) := snd_iload_n d_T_isSign_6 rfl
theorem g_T_isSign_7 : jSnd 21 7 (o_push 9 (57343)) := snd_ldc (i := 173) (z := 57343) d_T_isSign_7 wd_257 (by unfold jrg; omega)
theorem g_T_isSign_9 : jSnd 21 9 (o_ic_gt 12 14) := snd_ic_gt d_T_isSign_9 (by decide)
theorem g_T_isSign_12 : jSnd 21 12 (o_push 13 (0)) := snd_iconst (n := 0) (z := 0) d_T_isSign_12 (by decide) (by unfold jrg; omega)
theorem g_T_isSign_13 : jSnd 21 13 (o_zret) := snd_zret d_T_isSign_13 rfl
theorem g_T_isSign_14 : jSnd 21 14 (o_iload 15 0) := snd_iload_n d_T_isSign_14 rfl
theorem g_T_isSign_15 : jSnd 21 15 (o_push 17 (10)) := snd_bipush (n := 10) (z := 10) d_T_isSign_15 (by decide) (by unfold jrg; omega)
theorem g_T_isSign_17 : jSnd 21 17 (o_ic_eq 20 32) := snd_ic_eq d_T_isSign_17 (by decide)
theorem g_T_isSign_20 : jSnd 21 20 (o_iload 21 0) := snd_iload_n d_T_isSign_20 rfl
theorem g_T_isSign_21 : jSnd 21 21 (o_push 23 (32)) := snd_bipush (n := 32) (z := 32) d_T_isSign_21 (by decide) (by unfold jrg; omega)
theorem g_T_isSign_23 : jSnd 21 23 (o_ic_lt 26 36) := snd_ic_lt d_T_isSign_23 (by decide)
theorem g_T_isSign_26 : jSnd 21 26 (o_iload 27 0) := snd_iload_n d_T_isSign_26 rfl
theorem g_T_isSign_27 : jSnd 21 27 (o_push 29 (1114111)) := snd_ldc (i := 174) (z := 1114111) d_T_isSign_27 wd_258 (by unfold jrg; omega)
theorem g_T_isSign_29 : jSnd 21 29 (o_ic_gt 32 36) := snd_ic_gt d_T_isSign_29 (by decide)
theorem g_T_isSign_32 : jSnd 21 32 (o_push 33 (1)) := snd_iconst (n := 1) (z := 1) d_T_isSign_32 (by decide) (by unfold jrg; omega)
theorem g_T_isSign_33 : jSnd 21 33 (o_goto 37) := snd_goto d_T_isSign_33 (by decide)
theorem g_T_isSign_36 : jSnd 21 36 (o_push 37 (0)) := snd_iconst (n := 0) (z := 0) d_T_isSign_36 (by decide) (by unfold jrg; omega)
theorem g_T_isSign_37 : jSnd 21 37 (o_zret) := snd_zret d_T_isSign_37 rfl
set_option maxRecDepth 100000 in
theorem ga_T_isSign : jAll 21 0 tmp_T_isSign := ⟨g_T_isSign_0, g_T_isSign_1, snd_bad _ _, g_T_isSign_3, snd_bad _ _, snd_bad _ _, g_T_isSign_6, g_T_isSign_7, snd_bad _ _, g_T_isSign_9, snd_bad _ _, snd_bad _ _, g_T_isSign_12, g_T_isSign_13, g_T_isSign_14, g_T_isSign_15, snd_bad _ _, g_T_isSign_17, snd_bad _ _, snd_bad _ _, g_T_isSign_20, g_T_isSign_21, snd_bad _ _, g_T_isSign_23, snd_bad _ _, snd_bad _ _, g_T_isSign_26, g_T_isSign_27, snd_bad _ _, g_T_isSign_29, snd_bad _ _, snd_bad _ _, g_T_isSign_32, g_T_isSign_33, snd_bad _ _, snd_bad _ _, g_T_isSign_36, g_T_isSign_37, trivial⟩
theorem d_T_isKey_0 : decode (tm_c 22) 0 = .ok (.iload_n 0, 1) := by decide +kernel
theorem d_T_isKey_1 : decode (tm_c 22) 1 = .ok (.ifCond .lt (12), 3) := by decide +kernel
theorem d_T_isKey_4 : decode (tm_c 22) 4 = .ok (.iload_n 0, 1) := by decide +kernel
theorem d_T_isKey_5 : decode (tm_c 22) 5 = .ok (.iconst (4), 1) := by decide +kernel
theorem d_T_isKey_6 : decode (tm_c 22) 6 = .ok (.if_icmp .ge (7), 3) := by decide +kernel
theorem d_T_isKey_9 : decode (tm_c 22) 9 = .ok (.iconst (1), 1) := by decide +kernel
theorem d_T_isKey_10 : decode (tm_c 22) 10 = .ok (.goto (4), 3) := by decide +kernel
theorem d_T_isKey_13 : decode (tm_c 22) 13 = .ok (.iconst (0), 1) := by decide +kernel
theorem d_T_isKey_14 : decode (tm_c 22) 14 = .ok (.ireturn, 1) := by decide +kernel
theorem g_T_isKey_0 : jSnd 22 0 (o_iload 1 0) := snd_iload_n d_T_isKey_0 rfl
theorem g_T_isKey_1 : jSnd 22 1 (o_if_lt 4 13) := snd_if_lt d_T_isKey_1 (by decide)
theorem g_T_isKey_4 : jSnd 22 4 (o_iload 5 0) := snd_iload_n d_T_isKey_4 rfl
theorem g_T_isKey_5 : jSnd 22 5 (o_push 6 (4)) := snd_iconst (n := 4) (z := 4) d_T_isKey_5 (by decide) (by unfold jrg; omega)
theorem g_T_isKey_6 : jSnd 22 6 (o_ic_ge 9 13) := snd_ic_ge d_T_isKey_6 (by decide)
theorem g_T_isKey_9 : jSnd 22 9 (o_push 10 (1)) := snd_iconst (n := 1) (z := 1) d_T_isKey_9 (by decide) (by unfold jrg; omega)
theorem g_T_isKey_10 : jSnd 22 10 (o_goto 14) := snd_goto d_T_isKey_10 (by decide)
theorem g_T_isKey_13 : jSnd 22 13 (o_push 14 (0)) := snd_iconst (n := 0) (z := 0) d_T_isKey_13 (by decide) (by unfold jrg; omega)
theorem g_T_isKey_14 : jSnd 22 14 (o_zret) := snd_zret d_T_isKey_14 rfl
set_option maxRecDepth 100000 in
theorem ga_T_isKey : jAll 22 0 tmp_T_isKey := ⟨g_T_isKey_0, g_T_isKey_1, snd_bad _ _, snd_bad _ _, g_T_isKey_4, g_T_isKey_5, g_T_isKey_6, snd_bad _ _, snd_bad _ _, g_T_isKey_9, g_T_isKey_10, snd_bad _ _, snd_bad _ _, g_T_isKey_13, g_T_isKey_14, trivial⟩
theorem d_T_grows_0 : decode (tm_c 23) 0 = .ok (.iload_n 0, 1) := by decide +kernel
theorem d_T_grows_1 : decode (tm_c 23) 1 = .ok (.iconst (2), 1) := by decide +kernel
theorem d_T_grows_2 : decode (tm_c 23) 2 = .ok (.if_icmp .ge (7), 3) := by decide +kernel
theorem d_T_grows_5 : decode (tm_c 23) 5 = .ok (.iconst (1), 1) := by decide +kernel
theorem d_T_grows_6 : decode (tm_c 23) 6 = .ok (.goto (4), 3) := by decide +kernel
theorem d_T_grows_9 : decode (tm_c 23) 9 = .ok (.iconst (0), 1) := by decide +kernel
theorem d_T_grows_10 : decode (tm_c 23) 10 = .ok (.ireturn, 1) := by decide +kernel
theorem g_T_grows_0 : jSnd 23 0 (o_iload 1 0) := snd_iload_n d_T_grows_0 rfl
theorem g_T_grows_1 : jSnd 23 1 (o_push 2 (2)) := snd_iconst (n := 2) (z := 2) d_T_grows_1 (by decide) (by unfold jrg; omega)
theorem g_T_grows_2 : jSnd 23 2 (o_ic_ge 5 9) := snd_ic_ge d_T_grows_2 (by decide)
theorem g_T_grows_5 : jSnd 23 5 (o_push 6 (1)) := snd_iconst (n := 1) (z := 1) d_T_grows_5 (by decide) (by unfold jrg; omega)
theorem g_T_grows_6 : jSnd 23 6 (o_goto 10) := snd_goto d_T_grows_6 (by decide)
theorem g_T_grows_9 : jSnd 23 9 (o_push 10 (0)) := snd_iconst (n := 0) (z := 0) d_T_grows_9 (by decide) (by unfold jrg; omega)
theorem g_T_grows_10 : jSnd 23 10 (o_zret) := snd_zret d_T_grows_10 rfl
set_option maxRecDepth 100000 in
theorem ga_T_grows : jAll 23 0 tmp_T_grows := ⟨g_T_grows_0, g_T_grows_1, g_T_grows_2, snd_bad _ _, snd_bad _ _, g_T_grows_5, g_T_grows_6, snd_bad _ _, snd_bad _ _, g_T_grows_9, g_T_grows_10, trivial⟩
theorem d_T_shows_0 : decode (tm_c 24) 0 = .ok (.aload_n 0, 1) := by decide +kernel
theorem d_T_shows_1 : decode (tm_c 24) 1 = .ok (.iload_n 1, 1) := by decide +kernel
theorem d_T_shows_2 : decode (tm_c 24) 2 = .ok (.invokevirtual 78, 3) := by decide +kernel
theorem d_T_shows_5 : decode (tm_c 24) 5 = .ok (.astore_n 2, 1) := by decide +kernel
theorem d_T_shows_6 : decode (tm_c 24) 6 = .ok (.aload_n 2, 1) := by decide +kernel
theorem d_T_shows_7 : decode (tm_c 24) 7 = .ok (.ifnonnull (5), 3) := by decide +kernel
theorem d_T_shows_10 : decode (tm_c 24) 10 = .ok (.iconst (0), 1) := by decide +kernel
theorem d_T_shows_11 : decode (tm_c 24) 11 = .ok (.ireturn, 1) := by decide +kernel
theorem d_T_shows_12 : decode (tm_c 24) 12 = .ok (.aload_n 0, 1) := by decide +kernel
theorem d_T_shows_13 : decode (tm_c 24) 13 = .ok (.getfield 26, 3) := by decide +kernel
theorem d_T_shows_16 : decode (tm_c 24) 16 = .ok (.aload_n 0, 1) := by decide +kernel
theorem d_T_shows_17 : decode (tm_c 24) 17 = .ok (.getfield 10, 3) := by decide +kernel
theorem d_T_shows_20 : decode (tm_c 24) 20 = .ok (.aload_n 2, 1) := by decide +kernel
theorem d_T_shows_21 : decode (tm_c 24) 21 = .ok (.invokevirtual 149, 3) := by decide +kernel
theorem d_T_shows_24 : decode (tm_c 24) 24 = .ok (.iconst (1), 1) := by decide +kernel
theorem d_T_shows_25 : decode (tm_c 24) 25 = .ok (.ireturn, 1) := by decide +kernel
theorem g_T_shows_0 : jSnd 24 0 (o_aload 1 0) := snd_aload_n d_T_shows_0 rfl
theorem g_T_shows_1 : jSnd 24 1 (o_iload 2 1) := snd_iload_n d_T_shows_1 rfl
theorem g_T_shows_2 : jSnd 24 2 (o_call 5 20 2 2 13 false) := snd_callV (ci := 3) (n := 1) rfl d_T_shows_2 (by decide) (by decide) (by decide) wc_20 wd_172 wd_173 wd_174 wd_2 (by decide +kernel) (by decide) (by decide)
theorem g_T_shows_5 : jSnd 24 5 (o_astore 6 2) := snd_astore_n d_T_shows_5 rfl (by decide)
theorem g_T_shows_6 : jSnd 24 6 (o_aload 7 2) := snd_aload_n d_T_shows_6 rfl
theorem g_T_shows_7 : jSnd 24 7 (o_ifnonnull 10 12) := snd_ifnonnull d_T_shows_7 (by decide)
theorem g_T_shows_10 : jSnd 24 10 (o_push 11 (0)) := snd_iconst (n := 0) (z := 0) d_T_shows_10 (by decide) (by unfold jrg; omega)
theorem g_T_shows_11 : jSnd 24 11 (o_zret) := snd_zret d_T_shows_11 rfl
theorem g_T_shows_12 : jSnd 24 12 (o_aload 13 0) := snd_aload_n d_T_shows_12 rfl
theorem g_T_shows_13 : jSnd 24 13 (o_getR 16 13 (2)) := snd_getR (ci := 3) (k := 2) d_T_shows_13 rfl tm_in3 (by decide) wd_134 rfl
theorem g_T_shows_16 : jSnd 24 16 (o_aload 17 0) := snd_aload_n d_T_shows_16 rfl
theorem g_T_shows_17 : jSnd 24 17 (o_getR 20 13 (0)) := snd_getR (ci := 3) (k := 0) d_T_shows_17 rfl tm_in3 (by decide) wd_124 rfl
theorem g_T_shows_20 : jSnd 24 20 (o_aload 21 2) := snd_aload_n d_T_shows_20 rfl
theorem g_T_shows_21 : jSnd 24 21 (o_call 24 97 3 5 12 true) := snd_callV (ci := 2) (n := 2) rfl d_T_shows_21 (by decide) (by decide) (by decide) wc_97 wd_235 wd_236 wd_237 wd_132 (by decide +kernel) (by decide) (by decide)
theorem g_T_shows_24 : jSnd 24 24 (o_push 25 (1)) := snd_iconst (n := 1) (z := 1) d_T_shows_24 (by decide) (by unfold jrg; omega)
theorem g_T_shows_25 : jSnd 24 25 (o_zret) := snd_zret d_T_shows_25 rfl
set_option maxRecDepth 100000 in
theorem ga_T_shows : jAll 24 0 tmp_T_shows := ⟨g_T_shows_0, g_T_shows_1, g_T_shows_2, snd_bad _ _, snd_bad _ _, g_T_shows_5, g_T_shows_6, g_T_shows_7, snd_bad _ _, snd_bad _ _, g_T_shows_10, g_T_shows_11, g_T_shows_12, g_T_shows_13, snd_bad _ _, snd_bad _ _, g_T_shows_16, g_T_shows_17, snd_bad _ _, snd_bad _ _, g_T_shows_20, g_T_shows_21, snd_bad _ _, snd_bad _ _, g_T_shows_24, g_T_shows_25, trivial⟩
theorem d_T_write_0 : decode (tm_c 25) 0 = .ok (.aload_n 0, 1) := by decide +kernel
theorem d_T_write_1 : decode (tm_c 25) 1 = .ok (.iload_n 1, 1) := by decide +kernel
theorem d_T_write_2 : decode (tm_c 25) 2 = .ok (.invokevirtual 78, 3) := by decide +kernel
theorem d_T_write_5 : decode (tm_c 25) 5 = .ok (.astore 7, 2) := by decide +kernel
theorem d_T_write_7 : decode (tm_c 25) 7 = .ok (.aload 7, 2) := by decide +kernel
theorem d_T_write_9 : decode (tm_c 25) 9 = .ok (.ifnonnull (5), 3) := by decide +kernel
theorem d_T_write_12 : decode (tm_c 25) 12 = .ok (.iconst (-1), 1) := by decide +kernel
theorem d_T_write_13 : decode (tm_c 25) 13 = .ok (.ireturn, 1) := by decide +kernel
theorem d_T_write_14 : decode (tm_c 25) 14 = .ok (.aload 7, 2) := by decide +kernel
theorem d_T_write_16 : decode (tm_c 25) 16 = .ok (.invokevirtual 169, 3) := by decide +kernel
theorem d_T_write_19 : decode (tm_c 25) 19 = .ok (.iconst (1), 1) := by decide +kernel
theorem d_T_write_20 : decode (tm_c 25) 20 = .ok (.iadd, 1) := by decide +kernel
theorem d_T_write_21 : decode (tm_c 25) 21 = .ok (.istore 8, 2) := by decide +kernel
theorem d_T_write_23 : decode (tm_c 25) 23 = .ok (.aload_n 0, 1) := by decide +kernel
theorem d_T_write_24 : decode (tm_c 25) 24 = .ok (.getfield 10, 3) := by decide +kernel
theorem d_T_write_27 : decode (tm_c 25) 27 = .ok (.iload_n 1, 1) := by decide +kernel
theorem d_T_write_28 : decode (tm_c 25) 28 = .ok (.iload 8, 2) := by decide +kernel
theorem d_T_write_30 : decode (tm_c 25) 30 = .ok (.iload_n 2, 1) := by decide +kernel
theorem d_T_write_31 : decode (tm_c 25) 31 = .ok (.iload_n 3, 1) := by decide +kernel
theorem d_T_write_32 : decode (tm_c 25) 32 = .ok (.iload 4, 2) := by decide +kernel
theorem d_T_write_34 : decode (tm_c 25) 34 = .ok (.iload 5, 2) := by decide +kernel
theorem d_T_write_36 : decode (tm_c 25) 36 = .ok (.iload 6, 2) := by decide +kernel
theorem d_T_write_38 : decode (tm_c 25) 38 = .ok (.invokevirtual 175, 3) := by decide +kernel
theorem d_T_write_41 : decode (tm_c 25) 41 = .ok (.istore 9, 2) := by decide +kernel
theorem d_T_write_43 : decode (tm_c 25) 43 = .ok (.iload 9, 2) := by decide +kernel
theorem d_T_write_45 : decode (tm_c 25) 45 = .ok (.iconst (-1), 1) := by decide +kernel
theorem d_T_write_46 : decode (tm_c 25) 46 = .ok (.if_icmp .eq (12), 3) := by decide +kernel
theorem d_T_write_49 : decode (tm_c 25) 49 = .ok (.aload 7, 2) := by decide +kernel
theorem d_T_write_51 : decode (tm_c 25) 51 = .ok (.iload 9, 2) := by decide +kernel
theorem d_T_write_53 : decode (tm_c 25) 53 = .ok (.iload 8, 2) := by decide +kernel
theorem d_T_write_55 : decode (tm_c 25) 55 = .ok (.invokevirtual 89, 3) := by decide +kernel
theorem d_T_write_58 : decode (tm_c 25) 58 = .ok (.iload 9, 2) := by decide +kernel
theorem d_T_write_60 : decode (tm_c 25) 60 = .ok (.ireturn, 1) := by decide +kernel
theorem g_T_write_0 : jSnd 25 0 (o_aload 1 0) := snd_aload_n d_T_write_0 rfl
theorem g_T_write_1 : jSnd 25 1 (o_iload 2 1) := snd_iload_n d_T_write_1 rfl
theorem g_T_write_2 : jSnd 25 2 (o_call 5 20 2 2 13 false) := snd_callV (ci := 3) (n := 1) rfl d_T_write_2 (by decide) (by decide) (by decide) wc_20 wd_172 wd_173 wd_174 wd_2 (by decide +kernel) (by decide) (by decide)
theorem g_T_write_5 : jSnd 25 5 (o_astore 7 7) := snd_astore d_T_write_5 (by decide)
theorem g_T_write_7 : jSnd 25 7 (o_aload 9 7) := snd_aload d_T_write_7
theorem g_T_write_9 : jSnd 25 9 (o_ifnonnull 12 14) := snd_ifnonnull d_T_write_9 (by decide)
theorem g_T_write_12 : jSnd 25 12 (o_push 13 (-1)) := snd_iconst (n := -1) (z := -1) d_T_write_12 (by decide) (by unfold jrg; omega)
theorem g_T_write_13 : jSnd 25 13 (o_iret) := snd_iret d_T_write_13 rfl
theorem g_T_write_14 : jSnd 25 14 (o_aload 16 7) := snd_aload d_T_write_14
theorem g_T_write_16 : jSnd 25 16 (o_call 19 80 1 1 10 false) := snd_callV (ci := 0) (n := 0) rfl d_T_write_16 (by decide) (by decide) (by decide) wc_80 wd_253 wd_254 wd_255 wd_128 (by decide +kernel) (by decide) (by decide)
theorem g_T_write_19 : jSnd 25 19 (o_push 20 (1)) := snd_iconst (n := 1) (z := 1) d_T_write_19 (by decide) (by unfold jrg; omega)
theorem g_T_write_20 : jSnd 25 20 (o_bin 21 f_add) := snd_iadd d_T_write_20
theorem g_T_write_21 : jSnd 25 21 (o_istore 23 8) := snd_istore d_T_write_21 (by decide)
theorem g_T_write_23 : jSnd 25 23 (o_aload 24 0) := snd_aload_n d_T_write_23 rfl
theorem g_T_write_24 : jSnd 25 24 (o_getR 27 13 (0)) := snd_getR (ci := 3) (k := 0) d_T_write_24 rfl tm_in3 (by decide) wd_124 rfl
theorem g_T_write_27 : jSnd 25 27 (o_iload 28 1) := snd_iload_n d_T_write_27 rfl
theorem g_T_write_28 : jSnd 25 28 (o_iload 30 8) := snd_iload d_T_write_28
theorem g_T_write_30 : jSnd 25 30 (o_iload 31 2) := snd_iload_n d_T_write_30 rfl
theorem g_T_write_31 : jSnd 25 31 (o_iload 32 3) := snd_iload_n d_T_write_31 rfl
theorem g_T_write_32 : jSnd 25 32 (o_iload 34 4) := snd_iload d_T_write_32
theorem g_T_write_34 : jSnd 25 34 (o_iload 36 5) := snd_iload d_T_write_34
theorem g_T_write_36 : jSnd 25 36 (o_iload 38 6) := snd_iload d_T_write_36
theorem g_T_write_38 : jSnd 25 38 (o_call 41 91 8 9 11 false) := snd_callV (ci := 1) (n := 7) rfl d_T_write_38 (by decide) (by decide) (by decide) wc_91 wd_259 wd_260 wd_261 wd_122 (by decide +kernel) (by decide) (by decide)
theorem g_T_write_41 : jSnd 25 41 (o_istore 43 9) := snd_istore d_T_write_41 (by decide)
theorem g_T_write_43 : jSnd 25 43 (o_iload 45 9) := snd_iload d_T_write_43
theorem g_T_write_45 : jSnd 25 45 (o_push 46 (-1)) := snd_iconst (n := -1) (z := -1) d_T_write_45 (by decide) (by unfold jrg; omega)
theorem g_T_write_46 : jSnd 25 46 (o_ic_eq 49 58) := snd_ic_eq d_T_write_46 (by decide)
theorem g_T_write_49 : jSnd 25 49 (o_aload 51 7) := snd_aload d_T_write_49
theorem g_T_write_51 : jSnd 25 51 (o_iload 53 9) := snd_iload d_T_write_51
theorem g_T_write_53 : jSnd 25 53 (o_iload 55 8) := snd_iload d_T_write_53
theorem g_T_write_55 : jSnd 25 55 (o_call 58 82 3 3 10 true) := snd_callV (ci := 0) (n := 2) rfl d_T_write_55 (by decide) (by decide) (by decide) wc_82 wd_181 wd_182 wd_183 wd_128 (by decide +kernel) (by decide) (by decide)
theorem g_T_write_58 : jSnd 25 58 (o_iload 60 9) := snd_iload d_T_write_58
theorem g_T_write_60 : jSnd 25 60 (o_iret) := snd_iret d_T_write_60 rfl
set_option maxRecDepth 100000 in
theorem ga_T_write : jAll 25 0 tmp_T_write := ⟨g_T_write_0, g_T_write_1, g_T_write_2, snd_bad _ _, snd_bad _ _, g_T_write_5, snd_bad _ _, g_T_write_7, snd_bad _ _, g_T_write_9, snd_bad _ _, snd_bad _ _, g_T_write_12, g_T_write_13, g_T_write_14, snd_bad _ _, g_T_write_16, snd_bad _ _, snd_bad _ _, g_T_write_19, g_T_write_20, g_T_write_21, snd_bad _ _, g_T_write_23, g_T_write_24, snd_bad _ _, snd_bad _ _, g_T_write_27, g_T_write_28, snd_bad _ _, g_T_write_30, g_T_write_31, g_T_write_32, snd_bad _ _, g_T_write_34, snd_bad _ _, g_T_write_36, snd_bad _ _, g_T_write_38, snd_bad _ _, snd_bad _ _, g_T_write_41, snd_bad _ _, g_T_write_43, snd_bad _ _, g_T_write_45, g_T_write_46, snd_bad _ _, snd_bad _ _, g_T_write_49, snd_bad _ _, g_T_write_51, snd_bad _ _, g_T_write_53, snd_bad _ _, g_T_write_55, snd_bad _ _, snd_bad _ _, g_T_write_58, snd_bad _ _, g_T_write_60, trivial⟩
theorem d_T_knowsNeeds_0 : decode (tm_c 26) 0 = .ok (.aload_n 0, 1) := by decide +kernel
theorem d_T_knowsNeeds_1 : decode (tm_c 26) 1 = .ok (.getfield 10, 3) := by decide +kernel
theorem d_T_knowsNeeds_4 : decode (tm_c 26) 4 = .ok (.iload_n 2, 1) := by decide +kernel
theorem d_T_knowsNeeds_5 : decode (tm_c 26) 5 = .ok (.iconst (5), 1) := by decide +kernel
theorem d_T_knowsNeeds_6 : decode (tm_c 26) 6 = .ok (.invokevirtual 71, 3) := by decide +kernel
theorem d_T_knowsNeeds_9 : decode (tm_c 26) 9 = .ok (.istore_n 3, 1) := by decide +kernel
theorem d_T_knowsNeeds_10 : decode (tm_c 26) 10 = .ok (.aload_n 0, 1) := by decide +kernel
theorem d_T_knowsNeeds_11 : decode (tm_c 26) 11 = .ok (.getfield 10, 3) := by decide +kernel
theorem d_T_knowsNeeds_14 : decode (tm_c 26) 14 = .ok (.iload_n 2, 1) := by decide +kernel
theorem d_T_knowsNeeds_15 : decode (tm_c 26) 15 = .ok (.bipush (6), 2) := by decide +kernel
theorem d_T_knowsNeeds_17 : decode (tm_c 26) 17 = .ok (.invokevirtual 71, 3) := by decide +kernel
theorem d_T_knowsNeeds_20 : decode (tm_c 26) 20 = .ok (.istore 4, 2) := by decide +kernel
theorem d_T_knowsNeeds_22 : decode (tm_c 26) 22 = .ok (.iload_n 3, 1) := by decide +kernel
theorem d_T_knowsNeeds_23 : decode (tm_c 26) 23 = .ok (.ifCond .eq (11), 3) := by decide +kernel
theorem d_T_knowsNeeds_26 : decode (tm_c 26) 26 = .ok (.aload_n 1, 1) := by decide +kernel
theorem d_T_knowsNeeds_27 : decode (tm_c 26) 27 = .ok (.iload_n 3, 1) := by decide +kernel
theorem d_T_knowsNeeds_28 : decode (tm_c 26) 28 = .ok (.invokevirtual 82, 3) := by decide +kernel
theorem d_T_knowsNeeds_31 : decode (tm_c 26) 31 = .ok (.ifCond .eq (21), 3) := by decide +kernel
theorem d_T_knowsNeeds_34 : decode (tm_c 26) 34 = .ok (.iload 4, 2) := by decide +kernel
theorem d_T_knowsNeeds_36 : decode (tm_c 26) 36 = .ok (.ifCond .eq (12), 3) := by decide +kernel
theorem d_T_knowsNeeds_39 : decode (tm_c 26) 39 = .ok (.aload_n 1, 1) := by decide +kernel
theorem d_T_knowsNeeds_40 : decode (tm_c 26) 40 = .ok (.iload 4, 2) := by decide +kernel
theorem d_T_knowsNeeds_42 : decode (tm_c 26) 42 = .ok (.invokevirtual 82, 3) := by decide +kernel
theorem d_T_knowsNeeds_45 : decode (tm_c 26) 45 = .ok (.ifCond .eq (7), 3) := by decide +kernel
theorem d_T_knowsNeeds_48 : decode (tm_c 26) 48 = .ok (.iconst (1), 1) := by decide +kernel
theorem d_T_knowsNeeds_49 : decode (tm_c 26) 49 = .ok (.goto (4), 3) := by decide +kernel
theorem d_T_knowsNeeds_52 : decode (tm_c 26) 52 = .ok (.iconst (0), 1) := by decide +kernel
theorem d_T_knowsNeeds_53 : decode (tm_c 26) 53 = .ok (.ireturn, 1) := by decide +kernel
theorem g_T_knowsNeeds_0 : jSnd 26 0 (o_aload 1 0) := snd_aload_n d_T_knowsNeeds_0 rfl
theorem g_T_knowsNeeds_1 : jSnd 26 1 (o_getR 4 13 (0)) := snd_getR (ci := 3) (k := 0) d_T_knowsNeeds_1 rfl tm_in3 (by decide) wd_124 rfl
theorem g_T_knowsNeeds_4 : jSnd 26 4 (o_iload 5 2) := snd_iload_n d_T_knowsNeeds_4 rfl
theorem g_T_knowsNeeds_5 : jSnd 26 5 (o_push 6 (5)) := snd_iconst (n := 5) (z := 5) d_T_knowsNeeds_5 (by decide) (by unfold jrg; omega)
theorem g_T_knowsNeeds_6 : jSnd 26 6 (o_call 9 86 3 3 11 false) := snd_callV (ci := 1) (n := 2) rfl d_T_knowsNeeds_6 (by decide) (by decide) (by decide) wc_86 wd_166 wd_167 wd_168 wd_122 (by decide +kernel) (by decide) (by decide)
theorem g_T_knowsNeeds_9 : jSnd 26 9 (o_istore 10 3) := snd_istore_n d_T_knowsNeeds_9 rfl (by decide)
theorem g_T_knowsNeeds_10 : jSnd 26 10 (o_aload 11 0) := snd_aload_n d_T_knowsNeeds_10 rfl
theorem g_T_knowsNeeds_11 : jSnd 26 11 (o_getR 14 13 (0)) := snd_getR (ci := 3) (k := 0) d_T_knowsNeeds_11 rfl tm_in3 (by decide) wd_124 rfl
theorem g_T_knowsNeeds_14 : jSnd 26 14 (o_iload 15 2) := snd_iload_n d_T_knowsNeeds_14 rfl
theorem g_T_knowsNeeds_15 : jSnd 26 15 (o_push 17 (6)) := snd_bipush (n := 6) (z := 6) d_T_knowsNeeds_15 (by decide) (by unfold jrg; omega)
theorem g_T_knowsNeeds_17 : jSnd 26 17 (o_call 20 86 3 3 11 false) := snd_callV (ci := 1) (n := 2) rfl d_T_knowsNeeds_17 (by decide) (by decide) (by decide) wc_86 wd_166 wd_167 wd_168 wd_122 (by decide +kernel) (by decide) (by decide)
theorem g_T_knowsNeeds_20 : jSnd 26 20 (o_istore 22 4) := snd_istore d_T_knowsNeeds_20 (by decide)
theorem g_T_knowsNeeds_22 : jSnd 26 22 (o_iload 23 3) := snd_iload_n d_T_knowsNeeds_22 rfl
theorem g_T_knowsNeeds_23 : jSnd 26 23 (o_if_eq 26 34) := snd_if_eq d_T_knowsNeeds_23 (by decide)
theorem g_T_knowsNeeds_26 : jSnd 26 26 (o_aload 27 1) := snd_aload_n d_T_knowsNeeds_26 rfl
theorem g_T_knowsNeeds_27 : jSnd 26 27 (o_iload 28 3) := snd_iload_n d_T_knowsNeeds_27 rfl
theorem g_T_knowsNeeds_28 : jSnd 26 28 (o_call 31 81 2 2 10 false) := snd_callV (ci := 0) (n := 1) rfl d_T_knowsNeeds_28 (by decide) (by decide) (by decide) wc_81 wd_175 wd_176 wd_177 wd_128 (by decide +kernel) (by decide) (by decide)
theorem g_T_knowsNeeds_31 : jSnd 26 31 (o_if_eq 34 52) := snd_if_eq d_T_knowsNeeds_31 (by decide)
theorem g_T_knowsNeeds_34 : jSnd 26 34 (o_iload 36 4) := snd_iload d_T_knowsNeeds_34
theorem g_T_knowsNeeds_36 : jSnd 26 36 (o_if_eq 39 48) := snd_if_eq d_T_knowsNeeds_36 (by decide)
theorem g_T_knowsNeeds_39 : jSnd 26 39 (o_aload 40 1) := snd_aload_n d_T_knowsNeeds_39 rfl
theorem g_T_knowsNeeds_40 : jSnd 26 40 (o_iload 42 4) := snd_iload d_T_knowsNeeds_40
theorem g_T_knowsNeeds_42 : jSnd 26 42 (o_call 45 81 2 2 10 false) := snd_callV (ci := 0) (n := 1) rfl d_T_knowsNeeds_42 (by decide) (by decide) (by decide) wc_81 wd_175 wd_176 wd_177 wd_128 (by decide +kernel) (by decide) (by decide)
theorem g_T_knowsNeeds_45 : jSnd 26 45 (o_if_eq 48 52) := snd_if_eq d_T_knowsNeeds_45 (by decide)
theorem g_T_knowsNeeds_48 : jSnd 26 48 (o_push 49 (1)) := snd_iconst (n := 1) (z := 1) d_T_knowsNeeds_48 (by decide) (by unfold jrg; omega)
theorem g_T_knowsNeeds_49 : jSnd 26 49 (o_goto 53) := snd_goto d_T_knowsNeeds_49 (by decide)
theorem g_T_knowsNeeds_52 : jSnd 26 52 (o_push 53 (0)) := snd_iconst (n := 0) (z := 0) d_T_knowsNeeds_52 (by decide) (by unfold jrg; omega)
theorem g_T_knowsNeeds_53 : jSnd 26 53 (o_zret) := snd_zret d_T_knowsNeeds_53 rfl
set_option maxRecDepth 100000 in
theorem ga_T_knowsNeeds : jAll 26 0 tmp_T_knowsNeeds := ⟨g_T_knowsNeeds_0, g_T_knowsNeeds_1, snd_bad _ _, snd_bad _ _, g_T_knowsNeeds_4, g_T_knowsNeeds_5, g_T_knowsNeeds_6, snd_bad _ _, snd_bad _ _, g_T_knowsNeeds_9, g_T_knowsNeeds_10, g_T_knowsNeeds_11, snd_bad _ _, snd_bad _ _, g_T_knowsNeeds_14, g_T_knowsNeeds_15, snd_bad _ _, g_T_knowsNeeds_17, snd_bad _ _, snd_bad _ _, g_T_knowsNeeds_20, snd_bad _ _, g_T_knowsNeeds_22, g_T_knowsNeeds_23, snd_bad _ _, snd_bad _ _, g_T_knowsNeeds_26, g_T_knowsNeeds_27, g_T_knowsNeeds_28, snd_bad _ _, snd_bad _ _, g_T_knowsNeeds_31, snd_bad _ _, snd_bad _ _, g_T_knowsNeeds_34, snd_bad _ _, g_T_knowsNeeds_36, snd_bad _ _, snd_bad _ _, g_T_knowsNeeds_39, g_T_knowsNeeds_40, snd_bad _ _, g_T_knowsNeeds_42, snd_bad _ _, snd_bad _ _, g_T_knowsNeeds_45, snd_bad _ _, snd_bad _ _, g_T_knowsNeeds_48, g_T_knowsNeeds_49, snd_bad _ _, snd_bad _ _, g_T_knowsNeeds_52, g_T_knowsNeeds_53, trivial⟩
theorem d_T_placesOf_0 : decode (tm_c 27) 0 = .ok (.iconst (0), 1) := by decide +kernel
theorem d_T_placesOf_1 : decode (tm_c 27) 1 = .ok (.istore_n 2, 1) := by decide +kernel
theorem d_T_placesOf_2 : decode (tm_c 27) 2 = .ok (.iconst (0), 1) := by decide +kernel
theorem d_T_placesOf_3 : decode (tm_c 27) 3 = .ok (.istore_n 3, 1) := by decide +kernel
theorem d_T_placesOf_4 : decode (tm_c 27) 4 = .ok (.iload_n 3, 1) := by decide +kernel
theorem d_T_placesOf_5 : decode (tm_c 27) 5 = .ok (.aload_n 0, 1) := by decide +kernel
theorem d_T_placesOf_6 : decode (tm_c 27) 6 = .ok (.getfield 10, 3) := by decide +kernel
theorem d_T_placesOf_9 : decode (tm_c 27) 9 = .ok (.invokevirtual 179, 3) := by decide +kernel
theorem d_T_placesOf_12 : decode (tm_c 27) 12 = .ok (.if_icmp .ge (27), 3) := by decide +kernel
theorem d_T_placesOf_15 : decode (tm_c 27) 15 = .ok (.aload_n 1, 1) := by decide +kernel
theorem d_T_placesOf_16 : decode (tm_c 27) 16 = .ok (.aload_n 0, 1) := by decide +kernel
theorem d_T_placesOf_17 : decode (tm_c 27) 17 = .ok (.getfield 10, 3) := by decide +kernel
theorem d_T_placesOf_20 : decode (tm_c 27) 20 = .ok (.iload_n 3, 1) := by decide +kernel
theorem d_T_placesOf_21 : decode (tm_c 27) 21 = .ok (.invokevirtual 182, 3) := by decide +kernel
theorem d_T_placesOf_24 : decode (tm_c 27) 24 = .ok (.invokevirtual 82, 3) := by decide +kernel
theorem d_T_placesOf_27 : decode (tm_c 27) 27 = .ok (.ifCond .eq (6), 3) := by decide +kernel
theorem d_T_placesOf_30 : decode (tm_c 27) 30 = .ok (.iinc 2 (1), 3) := by decide +kernel
theorem d_T_placesOf_33 : decode (tm_c 27) 33 = .ok (.iinc 3 (1), 3) := by decide +kernel
theorem d_T_placesOf_36 : decode (tm_c 27) 36 = .ok (.goto (-32), 3) := by decide +kernel
theorem d_T_placesOf_39 : decode (tm_c 27) 39 = .ok (.iload_n 2, 1) := by decide +kernel
theorem d_T_placesOf_40 : decode (tm_c 27) 40 = .ok (.ireturn, 1) := by decide +kernel
theorem g_T_placesOf_0 : jSnd 27 0 (o_push 1 (0)) := snd_iconst (n := 0) (z := 0) d_T_placesOf_0 (by decide) (by unfold jrg; omega)
theorem g_T_placesOf_1 : jSnd 27 1 (o_istore 2 2) := snd_istore_n d_T_placesOf_1 rfl (by decide)
theorem g_T_placesOf_2 : jSnd 27 2 (o_push 3 (0)) := snd_iconst (n := 0) (z := 0) d_T_placesOf_2 (by decide) (by unfold jrg; omega)
theorem g_T_placesOf_3 : jSnd 27 3 (o_istore 4 3) := snd_istore_n d_T_placesOf_3 rfl (by decide)
theorem g_T_placesOf_4 : jSnd 27 4 (o_iload 5 3) := snd_iload_n d_T_placesOf_4 rfl
theorem g_T_placesOf_5 : jSnd 27 5 (o_aload 6 0) := snd_aload_n d_T_placesOf_5 rfl
theorem g_T_placesOf_6 : jSnd 27 6 (o_getR 9 13 (0)) := snd_getR (ci := 3) (k := 0) d_T_placesOf_6 rfl tm_in3 (by decide) wd_124 rfl
theorem g_T_placesOf_9 : jSnd 27 9 (o_call 12 89 1 1 11 false) := snd_callV (ci := 1) (n := 0) rfl d_T_placesOf_9 (by decide) (by decide) (by decide) wc_89 wd_262 wd_263 wd_264 wd_122 (by decide +kernel) (by decide) (by decide)
theorem g_T_placesOf_12 : jSnd 27 12 (o_ic_ge 15 39) := snd_ic_ge d_T_placesOf_12 (by decide)
theorem g_T_placesOf_15 : jSnd 27 15 (o_aload 16 1) := snd_aload_n d_T_placesOf_15 rfl
theorem g_T_placesOf_16 : jSnd 27 16 (o_aload 17 0) := snd_aload_n d_T_placesOf_16 rfl
theorem g_T_placesOf_17 : jSnd 27 17 (o_getR 20 13 (0)) := snd_getR (ci := 3) (k := 0) d_T_placesOf_17 rfl tm_in3 (by decide) wd_124 rfl
theorem g_T_placesOf_20 : jSnd 27 20 (o_iload 21 3) := snd_iload_n d_T_placesOf_20 rfl
theorem g_T_placesOf_21 : jSnd 27 21 (o_call 24 90 2 2 11 false) := snd_callV (ci := 1) (n := 1) rfl d_T_placesOf_21 (by decide) (by decide) (by decide) wc_90 wd_265 wd_266 wd_267 wd_122 (by decide +kernel) (by decide) (by decide)
theorem g_T_placesOf_24 : jSnd 27 24 (o_call 27 81 2 2 10 false) := snd_callV (ci := 0) (n := 1) rfl d_T_placesOf_24 (by decide) (by decide) (by decide) wc_81 wd_175 wd_176 wd_177 wd_128 (by decide +kernel) (by decide) (by decide)
theorem g_T_placesOf_27 : jSnd 27 27 (o_if_eq 30 33) := snd_if_eq d_T_placesOf_27 (by decide)
theorem g_T_placesOf_30 : jSnd 27 30 (o_iinc 33 2 (1)) := snd_iinc d_T_placesOf_30 (by decide)
theorem g_T_placesOf_33 : jSnd 27 33 (o_iinc 36 3 (1)) := snd_iinc d_T_placesOf_33 (by decide)
theorem g_T_placesOf_36 : jSnd 27 36 (o_goto 4) := snd_goto d_T_placesOf_36 (by decide)
theorem g_T_placesOf_39 : jSnd 27 39 (o_iload 40 2) := snd_iload_n d_T_placesOf_39 rfl
theorem g_T_placesOf_40 : jSnd 27 40 (o_iret) := snd_iret d_T_placesOf_40 rfl
set_option maxRecDepth 100000 in
theorem ga_T_placesOf : jAll 27 0 tmp_T_placesOf := ⟨g_T_placesOf_0, g_T_placesOf_1, g_T_placesOf_2, g_T_placesOf_3, g_T_placesOf_4, g_T_placesOf_5, g_T_placesOf_6, snd_bad _ _, snd_bad _ _, g_T_placesOf_9, snd_bad _ _, snd_bad _ _, g_T_placesOf_12, snd_bad _ _, snd_bad _ _, g_T_placesOf_15, g_T_placesOf_16, g_T_placesOf_17, snd_bad _ _, snd_bad _ _, g_T_placesOf_20, g_T_placesOf_21, snd_bad _ _, snd_bad _ _, g_T_placesOf_24, snd_bad _ _, snd_bad _ _, g_T_placesOf_27, snd_bad _ _, snd_bad _ _, g_T_placesOf_30, snd_bad _ _, snd_bad _ _, g_T_placesOf_33, snd_bad _ _, snd_bad _ _, g_T_placesOf_36, snd_bad _ _, snd_bad _ _, g_T_placesOf_39, g_T_placesOf_40, trivial⟩
theorem d_T_commentFrom_0 : decode (tm_c 28) 0 = .ok (.aload_n 1, 1) := by decide +kernel
theorem d_T_commentFrom_1 : decode (tm_c 28) 1 = .ok (.aload_n 0, 1) := by decide +kernel
theorem d_T_commentFrom_2 : decode (tm_c 28) 2 = .ok (.getfield 10, 3) := by decide +kernel
theorem d_T_commentFrom_5 : decode (tm_c 28) 5 = .ok (.iload_n 2, 1) := by decide +kernel
theorem d_T_commentFrom_6 : decode (tm_c 28) 6 = .ok (.iconst (5), 1) := by decide +kernel
theorem d_T_commentFrom_7 : decode (tm_c 28) 7 = .ok (.invokevirtual 71, 3) := by decide +kernel
theorem d_T_commentFrom_10 : decode (tm_c 28) 10 = .ok (.invokevirtual 185, 3) := by decide +kernel
theorem d_T_commentFrom_13 : decode (tm_c 28) 13 = .ok (.ireturn, 1) := by decide +kernel
theorem g_T_commentFrom_0 : jSnd 28 0 (o_aload 1 1) := snd_aload_n d_T_commentFrom_0 rfl
theorem g_T_commentFrom_1 : jSnd 28 1 (o_aload 2 0) := snd_aload_n d_T_commentFrom_1 rfl
theorem g_T_commentFrom_2 : jSnd 28 2 (o_getR 5 13 (0)) := snd_getR (ci := 3) (k := 0) d_T_commentFrom_2 rfl tm_in3 (by decide) wd_124 rfl
theorem g_T_commentFrom_5 : jSnd 28 5 (o_iload 6 2) := snd_iload_n d_T_commentFrom_5 rfl
theorem g_T_commentFrom_6 : jSnd 28 6 (o_push 7 (5)) := snd_iconst (n := 5) (z := 5) d_T_commentFrom_6 (by decide) (by unfold jrg; omega)
theorem g_T_commentFrom_7 : jSnd 28 7 (o_call 10 86 3 3 11 false) := snd_callV (ci := 1) (n := 2) rfl d_T_commentFrom_7 (by decide) (by decide) (by decide) wc_86 wd_166 wd_167 wd_168 wd_122 (by decide +kernel) (by decide) (by decide)
theorem g_T_commentFrom_10 : jSnd 28 10 (o_call 13 106 2 2 12 false) := snd_callV (ci := 2) (n := 1) rfl d_T_commentFrom_10 (by decide) (by decide) (by decide) wc_106 wd_268 wd_269 wd_270 wd_132 (by decide +kernel) (by decide) (by decide)
theorem g_T_commentFrom_13 : jSnd 28 13 (o_iret) := snd_iret d_T_commentFrom_13 rfl
set_option maxRecDepth 100000 in
theorem ga_T_commentFrom : jAll 28 0 tmp_T_commentFrom := ⟨g_T_commentFrom_0, g_T_commentFrom_1, g_T_commentFrom_2, snd_bad _ _, snd_bad _ _, g_T_commentFrom_5, g_T_commentFrom_6, g_T_commentFrom_7, snd_bad _ _, snd_bad _ _, g_T_commentFrom_10, snd_bad _ _, snd_bad _ _, g_T_commentFrom_13, trivial⟩
theorem d_T_commentTo_0 : decode (tm_c 29) 0 = .ok (.aload_n 0, 1) := by decide +kernel
theorem d_T_commentTo_1 : decode (tm_c 29) 1 = .ok (.aload_n 1, 1) := by decide +kernel
theorem d_T_commentTo_2 : decode (tm_c 29) 2 = .ok (.iload_n 2, 1) := by decide +kernel
theorem d_T_commentTo_3 : decode (tm_c 29) 3 = .ok (.invokevirtual 118, 3) := by decide +kernel
theorem d_T_commentTo_6 : decode (tm_c 29) 6 = .ok (.aload_n 1, 1) := by decide +kernel
theorem d_T_commentTo_7 : decode (tm_c 29) 7 = .ok (.aload_n 0, 1) := by decide +kernel
theorem d_T_commentTo_8 : decode (tm_c 29) 8 = .ok (.getfield 10, 3) := by decide +kernel
theorem d_T_commentTo_11 : decode (tm_c 29) 11 = .ok (.iload_n 2, 1) := by decide +kernel
theorem d_T_commentTo_12 : decode (tm_c 29) 12 = .ok (.bipush (6), 2) := by decide +kernel
theorem d_T_commentTo_14 : decode (tm_c 29) 14 = .ok (.invokevirtual 71, 3) := by decide +kernel
theorem d_T_commentTo_17 : decode (tm_c 29) 17 = .ok (.invokevirtual 188, 3) := by decide +kernel
theorem d_T_commentTo_20 : decode (tm_c 29) 20 = .ok (.invokestatic 191, 3) := by decide +kernel
theorem d_T_commentTo_23 : decode (tm_c 29) 23 = .ok (.ireturn, 1) := by decide +kernel
theorem g_T_commentTo_0 : jSnd 29 0 (o_aload 1 0) := snd_aload_n d_T_commentTo_0 rfl
theorem g_T_commentTo_1 : jSnd 29 1 (o_aload 2 1) := snd_aload_n d_T_commentTo_1 rfl
theorem g_T_commentTo_2 : jSnd 29 2 (o_iload 3 2) := snd_iload_n d_T_commentTo_2 rfl
theorem g_T_commentTo_3 : jSnd 29 3 (o_call 6 28 3 3 13 false) := snd_callV (ci := 3) (n := 2) rfl d_T_commentTo_3 (by decide) (by decide) (by decide) wc_28 wd_208 wd_209 wd_210 wd_2 (by decide +kernel) (by decide) (by decide)
theorem g_T_commentTo_6 : jSnd 29 6 (o_aload 7 1) := snd_aload_n d_T_commentTo_6 rfl
theorem g_T_commentTo_7 : jSnd 29 7 (o_aload 8 0) := snd_aload_n d_T_commentTo_7 rfl
theorem g_T_commentTo_8 : jSnd 29 8 (o_getR 11 13 (0)) := snd_getR (ci := 3) (k := 0) d_T_commentTo_8 rfl tm_in3 (by decide) wd_124 rfl
theorem g_T_commentTo_11 : jSnd 29 11 (o_iload 12 2) := snd_iload_n d_T_commentTo_11 rfl
theorem g_T_commentTo_12 : jSnd 29 12 (o_push 14 (6)) := snd_bipush (n := 6) (z := 6) d_T_commentTo_12 (by decide) (by unfold jrg; omega)
theorem g_T_commentTo_14 : jSnd 29 14 (o_call 17 86 3 3 11 false) := snd_callV (ci := 1) (n := 2) rfl d_T_commentTo_14 (by decide) (by decide) (by decide) wc_86 wd_166 wd_167 wd_168 wd_122 (by decide +kernel) (by decide) (by decide)
theorem g_T_commentTo_17 : jSnd 29 17 (o_call 20 107 2 3 12 false) := snd_callV (ci := 2) (n := 1) rfl d_T_commentTo_17 (by decide) (by decide) (by decide) wc_107 wd_271 wd_272 wd_273 wd_132 (by decide +kernel) (by decide) (by decide)
theorem g_T_commentTo_20 : jSnd 29 20 (o_mm 23 f_max) := snd_mm d_T_commentTo_20 wd_274 wd_275 wd_276 wo_max (by decide) (by decide)
theorem g_T_commentTo_23 : jSnd 29 23 (o_iret) := snd_iret d_T_commentTo_23 rfl
set_option maxRecDepth 100000 in
theorem ga_T_commentTo : jAll 29 0 tmp_T_commentTo := ⟨g_T_commentTo_0, g_T_commentTo_1, g_T_commentTo_2, g_T_commentTo_3, snd_bad _ _, snd_bad _ _, g_T_commentTo_6, g_T_commentTo_7, g_T_commentTo_8, snd_bad _ _, snd_bad _ _, g_T_commentTo_11, g_T_commentTo_12, snd_bad _ _, g_T_commentTo_14, snd_bad _ _, snd_bad _ _, g_T_commentTo_17, snd_bad _ _, snd_bad _ _, g_T_commentTo_20, snd_bad _ _, snd_bad _ _, g_T_commentTo_23, trivial⟩
theorem d_T_showAll_0 : decode (tm_c 30) 0 = .ok (.aload_n 1, 1) := by decide +kernel
theorem d_T_showAll_1 : decode (tm_c 30) 1 = .ok (.aload_n 0, 1) := by decide +kernel
theorem d_T_showAll_2 : decode (tm_c 30) 2 = .ok (.getfield 10, 3) := by decide +kernel
theorem d_T_showAll_5 : decode (tm_c 30) 5 = .ok (.aload_n 2, 1) := by decide +kernel
theorem d_T_showAll_6 : decode (tm_c 30) 6 = .ok (.invokevirtual 149, 3) := by decide +kernel
theorem d_T_showAll_9 : decode (tm_c 30) 9 = .ok (.aload_n 1, 1) := by decide +kernel
theorem d_T_showAll_10 : decode (tm_c 30) 10 = .ok (.aload_n 0, 1) := by decide +kernel
theorem d_T_showAll_11 : decode (tm_c 30) 11 = .ok (.getfield 10, 3) := by decide +kernel
theorem d_T_showAll_14 : decode (tm_c 30) 14 = .ok (.invokevirtual 102, 3) := by decide +kernel
theorem d_T_showAll_17 : decode (tm_c 30) 17 = .ok (.aload_n 1, 1) := by decide +kernel
theorem d_T_showAll_18 : decode (tm_c 30) 18 = .ok (.aload_n 0, 1) := by decide +kernel
theorem d_T_showAll_19 : decode (tm_c 30) 19 = .ok (.getfield 10, 3) := by decide +kernel
theorem d_T_showAll_22 : decode (tm_c 30) 22 = .ok (.invokevirtual 128, 3) := by decide +kernel
theorem d_T_showAll_25 : decode (tm_c 30) 25 = .ok (.return_, 1) := by decide +kernel
theorem g_T_showAll_0 : jSnd 30 0 (o_aload 1 1) := snd_aload_n d_T_showAll_0 rfl
theorem g_T_showAll_1 : jSnd 30 1 (o_aload 2 0) := snd_aload_n d_T_showAll_1 rfl
theorem g_T_showAll_2 : jSnd 30 2 (o_getR 5 13 (0)) := snd_getR (ci := 3) (k := 0) d_T_showAll_2 rfl tm_in3 (by decide) wd_124 rfl
theorem g_T_showAll_5 : jSnd 30 5 (o_aload 6 2) := snd_aload_n d_T_showAll_5 rfl
theorem g_T_showAll_6 : jSnd 30 6 (o_call 9 97 3 5 12 true) := snd_callV (ci := 2) (n := 2) rfl d_T_showAll_6 (by decide) (by decide) (by decide) wc_97 wd_235 wd_236 wd_237 wd_132 (by decide +kernel) (by decide) (by decide)
theorem g_T_showAll_9 : jSnd 30 9 (o_aload 10 1) := snd_aload_n d_T_showAll_9 rfl
theorem g_T_showAll_10 : jSnd 30 10 (o_aload 11 0) := snd_aload_n d_T_showAll_10 rfl
theorem g_T_showAll_11 : jSnd 30 11 (o_getR 14 13 (0)) := snd_getR (ci := 3) (k := 0) d_T_showAll_11 rfl tm_in3 (by decide) wd_124 rfl
theorem g_T_showAll_14 : jSnd 30 14 (o_call 17 112 2 4 12 true) := snd_callV (ci := 2) (n := 1) rfl d_T_showAll_14 (by decide) (by decide) (by decide) wc_112 wd_193 wd_194 wd_195 wd_132 (by decide +kernel) (by decide) (by decide)
theorem g_T_showAll_17 : jSnd 30 17 (o_aload 18 1) := snd_aload_n d_T_showAll_17 rfl
theorem g_T_showAll_18 : jSnd 30 18 (o_aload 19 0) := snd_aload_n d_T_showAll_18 rfl
theorem g_T_showAll_19 : jSnd 30 19 (o_getR 22 13 (0)) := snd_getR (ci := 3) (k := 0) d_T_showAll_19 rfl tm_in3 (by decide) wd_124 rfl
theorem g_T_showAll_22 : jSnd 30 22 (o_call 25 123 2 4 12 true) := snd_callV (ci := 2) (n := 1) rfl d_T_showAll_22 (by decide) (by decide) (by decide) wc_123 wd_217 wd_218 wd_219 wd_132 (by decide +kernel) (by decide) (by decide)
theorem g_T_showAll_25 : jSnd 30 25 (o_vret) := snd_vret d_T_showAll_25 rfl
set_option maxRecDepth 100000 in
theorem ga_T_showAll : jAll 30 0 tmp_T_showAll := ⟨g_T_showAll_0, g_T_showAll_1, g_T_showAll_2, snd_bad _ _, snd_bad _ _, g_T_showAll_5, g_T_showAll_6, snd_bad _ _, snd_bad _ _, g_T_showAll_9, g_T_showAll_10, g_T_showAll_11, snd_bad _ _, snd_bad _ _, g_T_showAll_14, snd_bad _ _, snd_bad _ _, g_T_showAll_17, g_T_showAll_18, g_T_showAll_19, snd_bad _ _, snd_bad _ _, g_T_showAll_22, snd_bad _ _, snd_bad _ _, g_T_showAll_25, trivial⟩
theorem d_T_haveSameComments_0 : decode (tm_c 31) 0 = .ok (.iconst (1), 1) := by decide +kernel
theorem d_T_haveSameComments_1 : decode (tm_c 31) 1 = .ok (.istore_n 1, 1) := by decide +kernel
theorem d_T_haveSameComments_2 : decode (tm_c 31) 2 = .ok (.iload_n 1, 1) := by decide +kernel
theorem d_T_haveSameComments_3 : decode (tm_c 31) 3 = .ok (.aload_n 0, 1) := by decide +kernel
theorem d_T_haveSameComments_4 : decode (tm_c 31) 4 = .ok (.getfield 10, 3) := by decide +kernel
theorem d_T_haveSameComments_7 : decode (tm_c 31) 7 = .ok (.invokevirtual 93, 3) := by decide +kernel
theorem d_T_haveSameComments_10 : decode (tm_c 31) 10 = .ok (.if_icmp .gt (32), 3) := by decide +kernel
theorem d_T_haveSameComments_13 : decode (tm_c 31) 13 = .ok (.aload_n 0, 1) := by decide +kernel
theorem d_T_haveSameComments_14 : decode (tm_c 31) 14 = .ok (.getfield 10, 3) := by decide +kernel
theorem d_T_haveSameComments_17 : decode (tm_c 31) 17 = .ok (.iload_n 1, 1) := by decide +kernel
theorem d_T_haveSameComments_18 : decode (tm_c 31) 18 = .ok (.iconst (0), 1) := by decide +kernel
theorem d_T_haveSameComments_19 : decode (tm_c 31) 19 = .ok (.invokevirtual 71, 3) := by decide +kernel
theorem d_T_haveSameComments_22 : decode (tm_c 31) 22 = .ok (.iconst (3), 1) := by decide +kernel
theorem d_T_haveSameComments_23 : decode (tm_c 31) 23 = .ok (.if_icmp .ne (13), 3) := by decide +kernel
theorem d_T_haveSameComments_26 : decode (tm_c 31) 26 = .ok (.aload_n 0, 1) := by decide +kernel
theorem d_T_haveSameComments_27 : decode (tm_c 31) 27 = .ok (.iload_n 1, 1) := by decide +kernel
theorem d_T_haveSameComments_28 : decode (tm_c 31) 28 = .ok (.invokevirtual 196, 3) := by decide +kernel
theorem d_T_haveSameComments_31 : decode (tm_c 31) 31 = .ok (.ifCond .ne (5), 3) := by decide +kernel
theorem d_T_haveSameComments_34 : decode (tm_c 31) 34 = .ok (.iconst (0), 1) := by decide +kernel
theorem d_T_haveSameComments_35 : decode (tm_c 31) 35 = .ok (.ireturn, 1) := by decide +kernel
theorem d_T_haveSameComments_36 : decode (tm_c 31) 36 = .ok (.iinc 1 (1), 3) := by decide +kernel
theorem d_T_haveSameComments_39 : decode (tm_c 31) 39 = .ok (.goto (-37), 3) := by decide +kernel
theorem d_T_haveSameComments_42 : decode (tm_c 31) 42 = .ok (.iconst (1), 1) := by decide +kernel
theorem d_T_haveSameComments_43 : decode (tm_c 31) 43 = .ok (.ireturn, 1) := by decide +kernel
theorem g_T_haveSameComments_0 : jSnd 31 0 (o_push 1 (1)) := snd_iconst (n := 1) (z := 1) d_T_haveSameComments_0 (by decide) (by unfold jrg; omega)
theorem g_T_haveSameComments_1 : jSnd 31 1 (o_istore 2 1) := snd_istore_n d_T_haveSameComments_1 rfl (by decide)
theorem g_T_haveSameComments_2 : jSnd 31 2 (o_iload 3 1) := snd_iload_n d_T_haveSameComments_2 rfl
theorem g_T_haveSameComments_3 : jSnd 31 3 (o_aload 4 0) := snd_aload_n d_T_haveSameComments_3 rfl
theorem g_T_haveSameComments_4 : jSnd 31 4 (o_getR 7 13 (0)) := snd_getR (ci := 3) (k := 0) d_T_haveSameComments_4 rfl tm_in3 (by decide) wd_124 rfl
theorem g_T_haveSameComments_7 : jSnd 31 7 (o_call 10 84 1 1 11 false) := snd_callV (ci := 1) (n := 0) rfl d_T_haveSameComments_7 (by decide) (by decide) (by decide) wc_84 wd_184 wd_185 wd_186 wd_122 (by decide +kernel) (by decide) (by decide)
theorem g_T_haveSameComments_10 : jSnd 31 10 (o_ic_gt 13 42) := snd_ic_gt d_T_haveSameComments_10 (by decide)
theorem g_T_haveSameComments_13 : jSnd 31 13 (o_aload 14 0) := snd_aload_n d_T_haveSameComments_13 rfl
theorem g_T_haveSameComments_14 : jSnd 31 14 (o_getR 17 13 (0)) := snd_getR (ci := 3) (k := 0) d_T_haveSameComments_14 rfl tm_in3 (by decide) wd_124 rfl
theorem g_T_haveSameComments_17 : jSnd 31 17 (o_iload 18 1) := snd_iload_n d_T_haveSameComments_17 rfl
theorem g_T_haveSameComments_18 : jSnd 31 18 (o_push 19 (0)) := snd_iconst (n := 0) (z := 0) d_T_haveSameComments_18 (by decide) (by unfold jrg; omega)
theorem g_T_haveSameComments_19 : jSnd 31 19 (o_call 22 86 3 3 11 false) := snd_callV (ci := 1) (n := 2) rfl d_T_haveSameComments_19 (by decide) (by decide) (by decide) wc_86 wd_166 wd_167 wd_168 wd_122 (by decide +kernel) (by decide) (by decide)
theorem g_T_haveSameComments_22 : jSnd 31 22 (o_push 23 (3)) := snd_iconst (n := 3) (z := 3) d_T_haveSameComments_22 (by decide) (by unfold jrg; omega)
theorem g_T_haveSameComments_23 : jSnd 31 23 (o_ic_ne 26 36) := snd_ic_ne d_T_haveSameComments_23 (by decide)
theorem g_T_haveSameComments_26 : jSnd 31 26 (o_aload 27 0) := snd_aload_n d_T_haveSameComments_26 rfl
theorem g_T_haveSameComments_27 : jSnd 31 27 (o_iload 28 1) := snd_iload_n d_T_haveSameComments_27 rfl
theorem g_T_haveSameComments_28 : jSnd 31 28 (o_call 31 32 2 2 13 false) := snd_callV (ci := 3) (n := 1) rfl d_T_haveSameComments_28 (by decide) (by decide) (by decide) wc_32 wd_277 wd_278 wd_279 wd_2 (by decide +kernel) (by decide) (by decide)
theorem g_T_haveSameComments_31 : jSnd 31 31 (o_if_ne 34 36) := snd_if_ne d_T_haveSameComments_31 (by decide)
theorem g_T_haveSameComments_34 : jSnd 31 34 (o_push 35 (0)) := snd_iconst (n := 0) (z := 0) d_T_haveSameComments_34 (by decide) (by unfold jrg; omega)
theorem g_T_haveSameComments_35 : jSnd 31 35 (o_zret) := snd_zret d_T_haveSameComments_35 rfl
theorem g_T_haveSameComments_36 : jSnd 31 36 (o_iinc 39 1 (1)) := snd_iinc d_T_haveSameComments_36 (by decide)
theorem g_T_haveSameComments_39 : jSnd 31 39 (o_goto 2) := snd_goto d_T_haveSameComments_39 (by decide)
theorem g_T_haveSameComments_42 : jSnd 31 42 (o_push 43 (1)) := snd_iconst (n := 1) (z := 1) d_T_haveSameComments_42 (by decide) (by unfold jrg; omega)
theorem g_T_haveSameComments_43 : jSnd 31 43 (o_zret) := snd_zret d_T_haveSameComments_43 rfl
set_option maxRecDepth 100000 in
theorem ga_T_haveSameComments : jAll 31 0 tmp_T_haveSameComments := ⟨g_T_haveSameComments_0, g_T_haveSameComments_1, g_T_haveSameComments_2, g_T_haveSameComments_3, g_T_haveSameComments_4, snd_bad _ _, snd_bad _ _, g_T_haveSameComments_7, snd_bad _ _, snd_bad _ _, g_T_haveSameComments_10, snd_bad _ _, snd_bad _ _, g_T_haveSameComments_13, g_T_haveSameComments_14, snd_bad _ _, snd_bad _ _, g_T_haveSameComments_17, g_T_haveSameComments_18, g_T_haveSameComments_19, snd_bad _ _, snd_bad _ _, g_T_haveSameComments_22, g_T_haveSameComments_23, snd_bad _ _, snd_bad _ _, g_T_haveSameComments_26, g_T_haveSameComments_27, g_T_haveSameComments_28, snd_bad _ _, snd_bad _ _, g_T_haveSameComments_31, snd_bad _ _, snd_bad _ _, g_T_haveSameComments_34, g_T_haveSameComments_35, g_T_haveSameComments_36, snd_bad _ _, snd_bad _ _, g_T_haveSameComments_39, snd_bad _ _, snd_bad _ _, g_T_haveSameComments_42, g_T_haveSameComments_43, trivial⟩
theorem d_T_isSameComment_0 : decode (tm_c 32) 0 = .ok (.aload_n 0, 1) := by decide +kernel
theorem d_T_isSameComment_1 : decode (tm_c 32) 1 = .ok (.getfield 26, 3) := by decide +kernel
theorem d_T_isSameComment_4 : decode (tm_c 32) 4 = .ok (.iload_n 1, 1) := by decide +kernel
theorem d_T_isSameComment_5 : decode (tm_c 32) 5 = .ok (.invokevirtual 115, 3) := by decide +kernel
theorem d_T_isSameComment_8 : decode (tm_c 32) 8 = .ok (.ifCond .eq (14), 3) := by decide +kernel
theorem d_T_isSameComment_11 : decode (tm_c 32) 11 = .ok (.aload_n 0, 1) := by decide +kernel
theorem d_T_isSameComment_12 : decode (tm_c 32) 12 = .ok (.getfield 30, 3) := by decide +kernel
theorem d_T_isSameComment_15 : decode (tm_c 32) 15 = .ok (.iload_n 1, 1) := by decide +kernel
theorem d_T_isSameComment_16 : decode (tm_c 32) 16 = .ok (.invokevirtual 115, 3) := by decide +kernel
theorem d_T_isSameComment_19 : decode (tm_c 32) 19 = .ok (.ifCond .ne (28), 3) := by decide +kernel
theorem d_T_isSameComment_22 : decode (tm_c 32) 22 = .ok (.aload_n 0, 1) := by decide +kernel
theorem d_T_isSameComment_23 : decode (tm_c 32) 23 = .ok (.getfield 26, 3) := by decide +kernel
theorem d_T_isSameComment_26 : decode (tm_c 32) 26 = .ok (.iload_n 1, 1) := by decide +kernel
theorem d_T_isSameComment_27 : decode (tm_c 32) 27 = .ok (.invokevirtual 115, 3) := by decide +kernel
theorem d_T_isSameComment_30 : decode (tm_c 32) 30 = .ok (.aload_n 0, 1) := by decide +kernel
theorem d_T_isSameComment_31 : decode (tm_c 32) 31 = .ok (.getfield 30, 3) := by decide +kernel
theorem d_T_isSameComment_34 : decode (tm_c 32) 34 = .ok (.iload_n 1, 1) := by decide +kernel
theorem d_T_isSameComment_35 : decode (tm_c 32) 35 = .ok (.invokevirtual 115, 3) := by decide +kernel
theorem d_T_isSameComment_38 : decode (tm_c 32) 38 = .ok (.if_icmp .ne (7), 3) := by decide +kernel
theorem d_T_isSameComment_41 : decode (tm_c 32) 41 = .ok (.iconst (1), 1) := by decide +kernel
theorem d_T_isSameComment_42 : decode (tm_c 32) 42 = .ok (.goto (4), 3) := by decide +kernel
theorem d_T_isSameComment_45 : decode (tm_c 32) 45 = .ok (.iconst (0), 1) := by decide +kernel
theorem d_T_isSameComment_46 : decode (tm_c 32) 46 = .ok (.ireturn, 1) := by decide +kernel
theorem d_T_isSameComment_47 : decode (tm_c 32) 47 = .ok (.aload_n 0, 1) := by decide +kernel
theorem d_T_isSameComment_48 : decode (tm_c 32) 48 = .ok (.aload_n 0, 1) := by decide +kernel
theorem d_T_isSameComment_49 : decode (tm_c 32) 49 = .ok (.getfield 26, 3) := by decide +kernel
theorem d_T_isSameComment_52 : decode (tm_c 32) 52 = .ok (.iload_n 1, 1) := by decide +kernel
theorem d_T_isSameComment_53 : decode (tm_c 32) 53 = .ok (.invokevirtual 118, 3) := by decide +kernel
theorem d_T_isSameComment_56 : decode (tm_c 32) 56 = .ok (.aload_n 0, 1) := by decide +kernel
theorem d_T_isSameComment_57 : decode (tm_c 32) 57 = .ok (.aload_n 0, 1) := by decide +kernel
theorem d_T_isSameComment_58 : decode (tm_c 32) 58 = .ok (.getfield 30, 3) := by decide +kernel
theorem d_T_isSameComment_61 : decode (tm_c 32) 61 = .ok (.iload_n 1, 1) := by decide +kernel
theorem d_T_isSameComment_62 : decode (tm_c 32) 62 = .ok (.invokevirtual 118, 3) := by decide +kernel
theorem d_T_isSameComment_65 : decode (tm_c 32) 65 = .ok (.if_icmp .ne (28), 3) := by decide +kernel
theorem d_T_isSameComment_68 : decode (tm_c 32) 68 = .ok (.aload_n 0, 1) := by decide +kernel
theorem d_T_isSameComment_69 : decode (tm_c 32) 69 = .ok (.aload_n 0, 1) := by decide +kernel
theorem d_T_isSameComment_70 : decode (tm_c 32) 70 = .ok (.getfield 26, 3) := by decide +kernel
theorem d_T_isSameComment_73 : decode (tm_c 32) 73 = .ok (.iload_n 1, 1) := by decide +kernel
theorem d_T_isSameComment_74 : decode (tm_c 32) 74 = .ok (.invokevirtual 122, 3) := by decide +kernel
theorem d_T_isSameComment_77 : decode (tm_c 32) 77 = .ok (.aload_n 0, 1) := by decide +kernel
theorem d_T_isSameComment_78 : decode (tm_c 32) 78 = .ok (.aload_n 0, 1) := by decide +kernel
theorem d_T_isSameComment_79 : decode (tm_c 32) 79 = .ok (.getfield 30, 3) := by decide +kernel
theorem d_T_isSameComment_82 : decode (tm_c 32) 82 = .ok (.iload_n 1, 1) := by decide +kernel
theorem d_T_isSameComment_83 : decode (tm_c 32) 83 = .ok (.invokevirtual 122, 3) := by decide +kernel
theorem d_T_isSameComment_86 : decode (tm_c 32) 86 = .ok (.if_icmp .ne (7), 3) := by decide +kernel
theorem d_T_isSameComment_89 : decode (tm_c 32) 89 = .ok (.iconst (1), 1) := by decide +kernel
theorem d_T_isSameComment_90 : decode (tm_c 32) 90 = .ok (.goto (4), 3) := by decide +kernel
theorem d_T_isSameComment_93 : decode (tm_c 32) 93 = .ok (.iconst (0), 1) := by decide +kernel
theorem d_T_isSameComment_94 : decode (tm_c 32) 94 = .ok (.ireturn, 1) := by decide +kernel
theorem g_T_isSameComment_0 : jSnd 32 0 (o_aload 1 0) := snd_aload_n d_T_isSameComment_0 rfl
theorem g_T_isSameComment_1 : jSnd 32 1 (o_getR 4 13 (2)) := snd_getR (ci := 3) (k := 2) d_T_isSameComment_1 rfl tm_in3 (by decide) wd_134 rfl
theorem g_T_isSameComment_4 : jSnd 32 4 (o_iload 5 1) := snd_iload_n d_T_isSameComment_4 rfl
theorem g_T_isSameComment_5 : jSnd 32 5 (o_call 8 101 2 2 12 false) := snd_callV (ci := 2) (n := 1) rfl d_T_isSameComment_5 (by decide) (by decide) (by decide) wc_101 wd_205 wd_206 wd_207 wd_132 (by decide +kernel) (by decide) (by decide)
theorem g_T_isSameComment_8 : jSnd 32 8 (o_if_eq 11 22) := snd_if_eq d_T_isSameComment_8 (by decide)
theorem g_T_isSameComment_11 : jSnd 32 11 (o_aload 12 0) := snd_aload_n d_T_isSameComment_11 rfl
theorem g_T_isSameComment_12 : jSnd 32 12 (o_getR 15 13 (3)) := snd_getR (ci := 3) (k := 3) d_T_isSameComment_12 rfl tm_in3 (by decide) wd_135 rfl
theorem g_T_isSameComment_15 : jSnd 32 15 (o_iload 16 1) := snd_iload_n d_T_isSameComment_15 rfl
theorem g_T_isSameComment_16 : jSnd 32 16 (o_call 19 101 2 2 12 false) := snd_callV (ci := 2) (n := 1) rfl d_T_isSameComment_16 (by decide) (by decide) (by decide) wc_101 wd_205 wd_206 wd_207 wd_132 (by decide +kernel) (by decide) (by decide)
theorem g_T_isSameComment_19 : jSnd 32 19 (o_if_ne 22 47) := snd_if_ne d_T_isSameComment_19 (by decide)
theorem g_T_isSameComment_22 : jSnd 32 22 (o_aload 23 0) := snd_aload_n d_T_isSameComment_22 rfl
theorem g_T_isSameComment_23 : jSnd 32 23 (o_getR 26 13 (2)) := snd_getR (ci := 3) (k := 2) d_T_isSameComment_23 rfl tm_in3 (by decide) wd_134 rfl
theorem g_T_isSameComment_26 : jSnd 32 26 (o_iload 27 1) := snd_iload_n d_T_isSameComment_26 rfl
theorem g_T_isSameComment_27 : jSnd 32 27 (o_call 30 101 2 2 12 false) := snd_callV (ci := 2) (n := 1) rfl d_T_isSameComment_27 (by decide) (by decide) (by decide) wc_101 wd_205 wd_206 wd_207 wd_132 (by decide +kernel) (by decide) (by decide)
theorem g_T_isSameComment_30 : jSnd 32 30 (o_aload 31 0) := snd_aload_n d_T_isSameComment_30 rfl
theorem g_T_isSameComment_31 : jSnd 32 31 (o_getR 34 13 (3)) := snd_getR (ci := 3) (k := 3) d_T_isSameComment_31 rfl tm_in3 (by decide) wd_135 rfl
theorem g_T_isSameComment_34 : jSnd 32 34 (o_iload 35 1) := snd_iload_n d_T_isSameComment_34 rfl
theorem g_T_isSameComment_35 : jSnd 32 35 (o_call 38 101 2 2 12 false) := snd_callV (ci := 2) (n := 1) rfl d_T_isSameComment_35 (by decide) (by decide) (by decide) wc_101 wd_205 wd_206 wd_207 wd_132 (by decide +kernel) (by decide) (by decide)
theorem g_T_isSameComment_38 : jSnd 32 38 (o_ic_ne 41 45) := snd_ic_ne d_T_isSameComment_38 (by decide)
theorem g_T_isSameComment_41 : jSnd 32 41 (o_push 42 (1)) := snd_iconst (n := 1) (z := 1) d_T_isSameComment_41 (by decide) (by unfold jrg; omega)
theorem g_T_isSameComment_42 : jSnd 32 42 (o_goto 46) := snd_goto d_T_isSameComment_42 (by decide)
theorem g_T_isSameComment_45 : jSnd 32 45 (o_push 46 (0)) := snd_iconst (n := 0) (z := 0) d_T_isSameComment_45 (by decide) (by unfold jrg; omega)
theorem g_T_isSameComment_46 : jSnd 32 46 (o_zret) := snd_zret d_T_isSameComment_46 rfl
theorem g_T_isSameComment_47 : jSnd 32 47 (o_aload 48 0) := snd_aload_n d_T_isSameComment_47 rfl
theorem g_T_isSameComment_48 : jSnd 32 48 (o_aload 49 0) := snd_aload_n d_T_isSameComment_48 rfl
theorem g_T_isSameComment_49 : jSnd 32 49 (o_getR 52 13 (2)) := snd_getR (ci := 3) (k := 2) d_T_isSameComment_49 rfl tm_in3 (by decide) wd_134 rfl
theorem g_T_isSameComment_52 : jSnd 32 52 (o_iload 53 1) := snd_iload_n d_T_isSameComment_52 rfl
theorem g_T_isSameComment_53 : jSnd 32 53 (o_call 56 28 3 3 13 false) := snd_callV (ci := 3) (n := 2) rfl d_T_isSameComment_53 (by decide) (by decide) (by decide) wc_28 wd_208 wd_209 wd_210 wd_2 (by decide +kernel) (by decide) (by decide)
theorem g_T_isSameComment_56 : jSnd 32 56 (o_aload 57 0) := snd_aload_n d_T_isSameComment_56 rfl
theorem g_T_isSameComment_57 : jSnd 32 57 (o_aload 58 0) := snd_aload_n d_T_isSameComment_57 rfl
theorem g_T_isSameComment_58 : jSnd 32 58 (o_getR 61 13 (3)) := snd_getR (ci := 3) (k := 3) d_T_isSameComment_58 rfl tm_in3 (by decide) wd_135 rfl
theorem g_T_isSameComment_61 : jSnd 32 61 (o_iload 62 1) := snd_iload_n d_T_isSameComment_61 rfl
theorem g_T_isSameComment_62 : jSnd 32 62 (o_call 65 28 3 3 13 false) := snd_callV (ci := 3) (n := 2) rfl d_T_isSameComment_62 (by decide) (by decide) (by decide) wc_28 wd_208 wd_209 wd_210 wd_2 (by decide +kernel) (by decide) (by decide)
theorem g_T_isSameComment_65 : jSnd 32 65 (o_ic_ne 68 93) := snd_ic_ne d_T_isSameComment_65 (by decide)
theorem g_T_isSameComment_68 : jSnd 32 68 (o_aload 69 0) := snd_aload_n d_T_isSameComment_68 rfl
theorem g_T_isSameComment_69 : jSnd 32 69 (o_aload 70 0) := snd_aload_n d_T_isSameComment_69 rfl
theorem g_T_isSameComment_70 : jSnd 32 70 (o_getR 73 13 (2)) := snd_getR (ci := 3) (k := 2) d_T_isSameComment_70 rfl tm_in3 (by decide) wd_134 rfl
theorem g_T_isSameComment_73 : jSnd 32 73 (o_iload 74 1) := snd_iload_n d_T_isSameComment_73 rfl
theorem g_T_isSameComment_74 : jSnd 32 74 (o_call 77 29 3 3 13 false) := snd_callV (ci := 3) (n := 2) rfl d_T_isSameComment_74 (by decide) (by decide) (by decide) wc_29 wd_211 wd_212 wd_213 wd_2 (by decide +kernel) (by decide) (by decide)
theorem g_T_isSameComment_77 : jSnd 32 77 (o_aload 78 0) := snd_aload_n d_T_isSameComment_77 rfl
theorem g_T_isSameComment_78 : jSnd 32 78 (o_aload 79 0) := snd_aload_n d_T_isSameComment_78 rfl
theorem g_T_isSameComment_79 : jSnd 32 79 (o_getR 82 13 (3)) := snd_getR (ci := 3) (k := 3) d_T_isSameComment_79 rfl tm_in3 (by decide) wd_135 rfl
theorem g_T_isSameComment_82 : jSnd 32 82 (o_iload 83 1) := snd_iload_n d_T_isSameComment_82 rfl
theorem g_T_isSameComment_83 : jSnd 32 83 (o_call 86 29 3 3 13 false) := snd_callV (ci := 3) (n := 2) rfl d_T_isSameComment_83 (by decide) (by decide) (by decide) wc_29 wd_211 wd_212 wd_213 wd_2 (by decide +kernel) (by decide) (by decide)
theorem g_T_isSameComment_86 : jSnd 32 86 (o_ic_ne 89 93) := snd_ic_ne d_T_isSameComment_86 (by decide)
theorem g_T_isSameComment_89 : jSnd 32 89 (o_push 90 (1)) := snd_iconst (n := 1) (z := 1) d_T_isSameComment_89 (by decide) (by unfold jrg; omega)
theorem g_T_isSameComment_90 : jSnd 32 90 (o_goto 94) := snd_goto d_T_isSameComment_90 (by decide)
theorem g_T_isSameComment_93 : jSnd 32 93 (o_push 94 (0)) := snd_iconst (n := 0) (z := 0) d_T_isSameComment_93 (by decide) (by unfold jrg; omega)
theorem g_T_isSameComment_94 : jSnd 32 94 (o_zret) := snd_zret d_T_isSameComment_94 rfl
set_option maxRecDepth 100000 in
theorem ga_T_isSameComment : jAll 32 0 tmp_T_isSameComment := ⟨g_T_isSameComment_0, g_T_isSameComment_1, snd_bad _ _, snd_bad _ _, g_T_isSameComment_4, g_T_isSameComment_5, snd_bad _ _, snd_bad _ _, g_T_isSameComment_8, snd_bad _ _, snd_bad _ _, g_T_isSameComment_11, g_T_isSameComment_12, snd_bad _ _, snd_bad _ _, g_T_isSameComment_15, g_T_isSameComment_16, snd_bad _ _, snd_bad _ _, g_T_isSameComment_19, snd_bad _ _, snd_bad _ _, g_T_isSameComment_22, g_T_isSameComment_23, snd_bad _ _, snd_bad _ _, g_T_isSameComment_26, g_T_isSameComment_27, snd_bad _ _, snd_bad _ _, g_T_isSameComment_30, g_T_isSameComment_31, snd_bad _ _, snd_bad _ _, g_T_isSameComment_34, g_T_isSameComment_35, snd_bad _ _, snd_bad _ _, g_T_isSameComment_38, snd_bad _ _, snd_bad _ _, g_T_isSameComment_41, g_T_isSameComment_42, snd_bad _ _, snd_bad _ _, g_T_isSameComment_45, g_T_isSameComment_46, g_T_isSameComment_47, g_T_isSameComment_48, g_T_isSameComment_49, snd_bad _ _, snd_bad _ _, g_T_isSameComment_52, g_T_isSameComment_53, snd_bad _ _, snd_bad _ _, g_T_isSameComment_56, g_T_isSameComment_57, g_T_isSameComment_58, snd_bad _ _, snd_bad _ _, g_T_isSameComment_61, g_T_isSameComment_62, snd_bad _ _, snd_bad _ _, g_T_isSameComment_65, snd_bad _ _, snd_bad _ _, g_T_isSameComment_68, g_T_isSameComment_69, g_T_isSameComment_70, snd_bad _ _, snd_bad _ _, g_T_isSameComment_73, g_T_isSameComment_74, snd_bad _ _, snd_bad _ _, g_T_isSameComment_77, g_T_isSameComment_78, g_T_isSameComment_79, snd_bad _ _, snd_bad _ _, g_T_isSameComment_82, g_T_isSameComment_83, snd_bad _ _, snd_bad _ _, g_T_isSameComment_86, snd_bad _ _, snd_bad _ _, g_T_isSameComment_89, g_T_isSameComment_90, snd_bad _ _, snd_bad _ _, g_T_isSameComment_93, g_T_isSameComment_94, trivial⟩
theorem d_M_init_0 : decode (tm_c 33) 0 = .ok (.aload_n 0, 1) := by decide +kernel
theorem d_M_init_1 : decode (tm_c 33) 1 = .ok (.invokespecial 1, 3) := by decide +kernel
theorem d_M_init_4 : decode (tm_c 33) 4 = .ok (.aload_n 0, 1) := by decide +kernel
theorem d_M_init_5 : decode (tm_c 33) 5 = .ok (.sipush (251), 3) := by decide +kernel
theorem d_M_init_8 : decode (tm_c 33) 8 = .ok (.newarray .int, 2) := by decide +kernel
theorem d_M_init_10 : decode (tm_c 33) 10 = .ok (.putfield 7, 3) := by decide +kernel
theorem d_M_init_13 : decode (tm_c 33) 13 = .ok (.aload_n 0, 1) := by decide +kernel
theorem d_M_init_14 : decode (tm_c 33) 14 = .ok (.sipush (251), 3) := by decide +kernel
theorem d_M_init_17 : decode (tm_c 33) 17 = .ok (.newarray .int, 2) := by decide +kernel
theorem d_M_init_19 : decode (tm_c 33) 19 = .ok (.putfield 13, 3) := by decide +kernel
theorem d_M_init_22 : decode (tm_c 33) 22 = .ok (.aload_n 0, 1) := by decide +kernel
theorem d_M_init_23 : decode (tm_c 33) 23 = .ok (.sipush (251), 3) := by decide +kernel
theorem d_M_init_26 : decode (tm_c 33) 26 = .ok (.newarray .int, 2) := by decide +kernel
theorem d_M_init_28 : decode (tm_c 33) 28 = .ok (.putfield 16, 3) := by decide +kernel
theorem d_M_init_31 : decode (tm_c 33) 31 = .ok (.aload_n 0, 1) := by decide +kernel
theorem d_M_init_32 : decode (tm_c 33) 32 = .ok (.sipush (251), 3) := by decide +kernel
theorem d_M_init_35 : decode (tm_c 33) 35 = .ok (.newarray .int, 2) := by decide +kernel
theorem d_M_init_37 : decode (tm_c 33) 37 = .ok (.putfield 19, 3) := by decide +kernel
theorem d_M_init_40 : decode (tm_c 33) 40 = .ok (.aload_n 0, 1) := by decide +kernel
theorem d_M_init_41 : decode (tm_c 33) 41 = .ok (.sipush (251), 3) := by decide +kernel
theorem d_M_init_44 : decode (tm_c 33) 44 = .ok (.newarray .int, 2) := by decide +kernel
theorem d_M_init_46 : decode (tm_c 33) 46 = .ok (.putfield 22, 3) := by decide +kernel
theorem d_M_init_49 : decode (tm_c 33) 49 = .ok (.aload_n 0, 1) := by decide +kernel
theorem d_M_init_50 : decode (tm_c 33) 50 = .ok (.sipush (251), 3) := by decide +kernel
theorem d_M_init_53 : decode (tm_c 33) 53 = .ok (.newarray .int, 2) := by decide +kernel
theorem d_M_init_55 : decode (tm_c 33) 55 = .ok (.putfield 25, 3) := by decide +kernel
theorem d_M_init_58 : decode (tm_c 33) 58 = .ok (.aload_n 0, 1) := by decide +kernel
theorem d_M_init_59 : decode (tm_c 33) 59 = .ok (.sipush (251), 3) := by decide +kernel
theorem d_M_init_62 : decode (tm_c 33) 62 = .ok (.newarray .int, 2) := by decide +kernel
theorem d_M_init_64 : decode (tm_c 33) 64 = .ok (.putfield 28, 3) := by decide +kernel
theorem d_M_init_67 : decode (tm_c 33) 67 = .ok (.aload_n 0, 1) := by decide +kernel
theorem d_M_init_68 : decode (tm_c 33) 68 = .ok (.sipush (1004), 3) := by decide +kernel
theorem d_M_init_71 : decode (tm_c 33) 71 = .ok (.newarray .boolean, 2) := by decide +kernel
theorem d_M_init_73 : decode (tm_c 33) 73 = .ok (.putfield 31, 3) := by decide +kernel
theorem d_M_init_76 : decode (tm_c 33) 76 = .ok (.aload_n 0, 1) := by decide +kernel
theorem d_M_init_77 : decode (tm_c 33) 77 = .ok (.iconst (4), 1) := by decide +kernel
theorem d_M_init_78 : decode (tm_c 33) 78 = .ok (.newarray .int, 2) := by decide +kernel
theorem d_M_init_80 : decode (tm_c 33) 80 = .ok (.putfield 35, 3) := by decide +kernel
theorem d_M_init_83 : decode (tm_c 33) 83 = .ok (.aload_n 0, 1) := by decide +kernel
theorem d_M_init_84 : decode (tm_c 33) 84 = .ok (.iconst (-1), 1) := by decide +kernel
theorem d_M_init_85 : decode (tm_c 33) 85 = .ok (.putfield 38, 3) := by decide +kernel
theorem d_M_init_88 : decode (tm_c 33) 88 = .ok (.aload_n 0, 1) := by decide +kernel
theorem d_M_init_89 : decode (tm_c 33) 89 = .ok (.sipush (251), 3) := by decide +kernel
theorem d_M_init_92 : decode (tm_c 33) 92 = .ok (.newarray .boolean, 2) := by decide +kernel
theorem d_M_init_94 : decode (tm_c 33) 94 = .ok (.putfield 42, 3) := by decide +kernel
theorem d_M_init_97 : decode (tm_c 33) 97 = .ok (.aload_n 0, 1) := by decide +kernel
theorem d_M_init_98 : decode (tm_c 33) 98 = .ok (.sipush (251), 3) := by decide +kernel
theorem d_M_init_101 : decode (tm_c 33) 101 = .ok (.newarray .int, 2) := by decide +kernel
theorem d_M_init_103 : decode (tm_c 33) 103 = .ok (.putfield 45, 3) := by decide +kernel
theorem d_M_init_106 : decode (tm_c 33) 106 = .ok (.aload_n 0, 1) := by decide +kernel
theorem d_M_init_107 : decode (tm_c 33) 107 = .ok (.sipush (251), 3) := by decide +kernel
theorem d_M_init_110 : decode (tm_c 33) 110 = .ok (.newarray .int, 2) := by decide +kernel
theorem d_M_init_112 : decode (tm_c 33) 112 = .ok (.putfield 48, 3) := by decide +kernel
theorem d_M_init_115 : decode (tm_c 33) 115 = .ok (.aload_n 0, 1) := by decide +kernel
theorem d_M_init_116 : decode (tm_c 33) 116 = .ok (.sipush (252), 3) := by decide +kernel
theorem d_M_init_119 : decode (tm_c 33) 119 = .ok (.newarray .int, 2) := by decide +kernel
theorem d_M_init_121 : decode (tm_c 33) 121 = .ok (.putfield 51, 3) := by decide +kernel
theorem d_M_init_124 : decode (tm_c 33) 124 = .ok (.aload_n 0, 1) := by decide +kernel
theorem d_M_init_125 : decode (tm_c 33) 125 = .ok (.sipush (251), 3) := by decide +kernel
theorem d_M_init_128 : decode (tm_c 33) 128 = .ok (.newarray .int, 2) := by decide +kernel
theorem d_M_init_130 : decode (tm_c 33) 130 = .ok (.putfield 54, 3) := by decide +kernel
theorem d_M_init_133 : decode (tm_c 33) 133 = .ok (.aload_n 0, 1) := by decide +kernel
theorem d_M_init_134 : decode (tm_c 33) 134 = .ok (.sipush (1004), 3) := by decide +kernel
theorem d_M_init_137 : decode (tm_c 33) 137 = .ok (.newarray .int, 2) := by decide +kernel
theorem d_M_init_139 : decode (tm_c 33) 139 = .ok (.putfield 57, 3) := by decide +kernel
theorem d_M_init_142 : decode (tm_c 33) 142 = .ok (.aload_n 0, 1) := by decide +kernel
theorem d_M_init_143 : decode (tm_c 33) 143 = .ok (.sipush (251), 3) := by decide +kernel
theorem d_M_init_146 : decode (tm_c 33) 146 = .ok (.newarray .int, 2) := by decide +kernel
theorem d_M_init_148 : decode (tm_c 33) 148 = .ok (.putfield 60, 3) := by decide +kernel
theorem d_M_init_151 : decode (tm_c 33) 151 = .ok (.aload_n 0, 1) := by decide +kernel
theorem d_M_init_152 : decode (tm_c 33) 152 = .ok (.sipush (251), 3) := by decide +kernel
theorem d_M_init_155 : decode (tm_c 33) 155 = .ok (.newarray .int, 2) := by decide +kernel
theorem d_M_init_157 : decode (tm_c 33) 157 = .ok (.putfield 63, 3) := by decide +kernel
theorem d_M_init_160 : decode (tm_c 33) 160 = .ok (.aload_n 0, 1) := by decide +kernel
theorem d_M_init_161 : decode (tm_c 33) 161 = .ok (.sipush (1004), 3) := by decide +kernel
theorem d_M_init_164 : decode (tm_c 33) 164 = .ok (.newarray .int, 2) := by decide +kernel
theorem d_M_init_166 : decode (tm_c 33) 166 = .ok (.putfield 66, 3) := by decide +kernel
theorem d_M_init_169 : decode (tm_c 33) 169 = .ok (.aload_n 0, 1) := by decide +kernel
theorem d_M_init_170 : decode (tm_c 33) 170 = .ok (.sipush (251), 3) := by decide +kernel
theorem d_M_init_173 : decode (tm_c 33) 173 = .ok (.newarray .int, 2) := by decide +kernel
theorem d_M_init_175 : decode (tm_c 33) 175 = .ok (.putfield 69, 3) := by decide +kernel
theorem d_M_init_178 : decode (tm_c 33) 178 = .ok (.aload_n 0, 1) := by decide +kernel
theorem d_M_init_179 : decode (tm_c 33) 179 = .ok (.sipush (251), 3) := by decide +kernel
theorem d_M_init_182 : decode (tm_c 33) 182 = .ok (.newarray .int, 2) := by decide +kernel
theorem d_M_init_184 : decode (tm_c 33) 184 = .ok (.putfield 72, 3) := by decide +kernel
theorem d_M_init_187 : decode (tm_c 33) 187 = .ok (.aload_n 0, 1) := by decide +kernel
theorem d_M_init_188 : decode (tm_c 33) 188 = .ok (.sipush (252), 3) := by decide +kernel
theorem d_M_init_191 : decode (tm_c 33) 191 = .ok (.newarray .int, 2) := by decide +kernel
theorem d_M_init_193 : decode (tm_c 33) 193 = .ok (.putfield 75, 3) := by decide +kernel
theorem d_M_init_196 : decode (tm_c 33) 196 = .ok (.return_, 1) := by decide +kernel
theorem g_M_init_0 : jSnd 33 0 (o_aload 1 0) := snd_aload_n d_M_init_0 rfl
theorem g_M_init_1 : jSnd 33 1 (o_objinit 4) := snd_objinit d_M_init_1 wd_280 wd_119 wo_obj (by decide) (by decide)
theorem g_M_init_4 : jSnd 33 4 (o_aload 5 0) := snd_aload_n d_M_init_4 rfl
theorem g_M_init_5 : jSnd 33 5 (o_push 8 (251)) := snd_sipush (n := 251) (z := 251) d_M_init_5 (by decide) (by unfold jrg; omega)
theorem g_M_init_8 : jSnd 33 8 (o_newa 10 1) := snd_newI d_M_init_8 wd_281
theorem g_M_init_10 : jSnd 33 10 (o_putR 13 14 (2)) := snd_putRF (ci := 4) (k := 2) d_M_init_10 rfl tm_in4 tm_D4 tm_ty4 tm_nm4 (by decide) wd_282 rfl rfl rfl (fun o => by cases o <;> exact ⟨rfl, rfl⟩) rfl
theorem g_M_init_13 : jSnd 33 13 (o_aload 14 0) := snd_aload_n d_M_init_13 rfl
theorem g_M_init_14 : jSnd 33 14 (o_push 17 (251)) := snd_sipush (n := 251) (z := 251) d_M_init_14 (by decide) (by unfold jrg; omega)
theorem g_M_init_17 : jSnd 33 17 (o_newa 19 1) := snd_newI d_M_init_17 wd_281
theorem g_M_init_19 : jSnd 33 19 (o_putR 22 14 (3)) := snd_putRF (ci := 4) (k := 3) d_M_init_19 rfl tm_in4 tm_D4 tm_ty4 tm_nm4 (by decide) wd_283 rfl rfl rfl (fun o => by cases o <;> exact ⟨rfl, rfl⟩) rfl
theorem g_M_init_22 : jSnd 33 22 (o_aload 23 0) := snd_aload_n d_M_init_22 rfl
theorem g_M_init_23 : jSnd 33 23 (o_push 26 (251)) := snd_sipush (n := 251) (z := 251) d_M_init_23 (by decide) (by unfold jrg; omega)
theorem g_M_init_26 : jSnd 33 26 (o_newa 28 1) := snd_newI d_M_init_26 wd_281
theorem g_M_init_28 : jSnd 33 28 (o_putR 31 14 (4)) := snd_putRF (ci := 4) (k := 4) d_M_init_28 rfl tm_in4 tm_D4 tm_ty4 tm_nm4 (by decide) wd_284 rfl rfl rfl (fun o => by cases o <;> exact ⟨rfl, rfl⟩) rfl
theorem g_M_init_31 : jSnd 33 31 (o_aload 32 0) := snd_aload_n d_M_init_31 rfl
theorem g_M_init_32 : jSnd 33 32 (o_push 35 (251)) := snd_sipush (n := 251) (z := 251) d_M_init_32 (by decide) (by unfold jrg; omega)
theorem g_M_init_35 : jSnd 33 35 (o_newa 37 1) := snd_newI d_M_init_35 wd_281
theorem g_M_init_37 : jSnd 33 37 (o_putR 40 14 (5)) := snd_putRF (ci := 4) (k := 5) d_M_init_37 rfl tm_in4 tm_D4 tm_ty4 tm_nm4 (by decide) wd_285 rfl rfl rfl (fun o => by cases o <;> exact ⟨rfl, rfl⟩) rfl
theorem g_M_init_40 : jSnd 33 40 (o_aload 41 0) := snd_aload_n d_M_init_40 rfl
theorem g_M_init_41 : jSnd 33 41 (o_push 44 (251)) := snd_sipush (n := 251) (z := 251) d_M_init_41 (by decide) (by unfold jrg; omega)
theorem g_M_init_44 : jSnd 33 44 (o_newa 46 1) := snd_newI d_M_init_44 wd_281
theorem g_M_init_46 : jSnd 33 46 (o_putR 49 14 (6)) := snd_putRF (ci := 4) (k := 6) d_M_init_46 rfl tm_in4 tm_D4 tm_ty4 tm_nm4 (by decide) wd_286 rfl rfl rfl (fun o => by cases o <;> exact ⟨rfl, rfl⟩) rfl
theorem g_M_init_49 : jSnd 33 49 (o_aload 50 0) := snd_aload_n d_M_init_49 rfl
theorem g_M_init_50 : jSnd 33 50 (o_push 53 (251)) := snd_sipush (n := 251) (z := 251) d_M_init_50 (by decide) (by unfold jrg; omega)
theorem g_M_init_53 : jSnd 33 53 (o_newa 55 1) := snd_newI d_M_init_53 wd_281
theorem g_M_init_55 : jSnd 33 55 (o_putR 58 14 (7)) := snd_putRF (ci := 4) (k := 7) d_M_init_55 rfl tm_in4 tm_D4 tm_ty4 tm_nm4 (by decide) wd_287 rfl rfl rfl (fun o => by cases o <;> exact ⟨rfl, rfl⟩) rfl
theorem g_M_init_58 : jSnd 33 58 (o_aload 59 0) := snd_aload_n d_M_init_58 rfl
theorem g_M_init_59 : jSnd 33 59 (o_push 62 (251)) := snd_sipush (n := 251) (z := 251) d_M_init_59 (by decide) (by unfold jrg; omega)
theorem g_M_init_62 : jSnd 33 62 (o_newa 64 1) := snd_newI d_M_init_62 wd_281
theorem g_M_init_64 : jSnd 33 64 (o_putR 67 14 (8)) := snd_putRF (ci := 4) (k := 8) d_M_init_64 rfl tm_in4 tm_D4 tm_ty4 tm_nm4 (by decide) wd_288 rfl rfl rfl (fun o => by cases o <;> exact ⟨rfl, rfl⟩) rfl
theorem g_M_init_67 : jSnd 33 67 (o_aload 68 0) := snd_aload_n d_M_init_67 rfl
theorem g_M_init_68 : jSnd 33 68 (o_push 71 (1004)) := snd_sipush (n := 1004) (z := 1004) d_M_init_68 (by decide) (by unfold jrg; omega)
theorem g_M_init_71 : jSnd 33 71 (o_newa 73 2) := snd_newZ d_M_init_71 wd_289
theorem g_M_init_73 : jSnd 33 73 (o_putR 76 14 (9)) := snd_putRF (ci := 4) (k := 9) d_M_init_73 rfl tm_in4 tm_D4 tm_ty4 tm_nm4 (by decide) wd_290 rfl rfl rfl (fun o => by cases o <;> exact ⟨rfl, rfl⟩) rfl
theorem g_M_init_76 : jSnd 33 76 (o_aload 77 0) := snd_aload_n d_M_init_76 rfl
theorem g_M_init_77 : jSnd 33 77 (o_push 78 (4)) := snd_iconst (n := 4) (z := 4) d_M_init_77 (by decide) (by unfold jrg; omega)
theorem g_M_init_78 : jSnd 33 78 (o_newa 80 1) := snd_newI d_M_init_78 wd_281
theorem g_M_init_80 : jSnd 33 80 (o_putR 83 14 (10)) := snd_putRF (ci := 4) (k := 10) d_M_init_80 rfl tm_in4 tm_D4 tm_ty4 tm_nm4 (by decide) wd_291 rfl rfl rfl (fun o => by cases o <;> exact ⟨rfl, rfl⟩) rfl
theorem g_M_init_83 : jSnd 33 83 (o_aload 84 0) := snd_aload_n d_M_init_83 rfl
theorem g_M_init_84 : jSnd 33 84 (o_push 85 (-1)) := snd_iconst (n := -1) (z := -1) d_M_init_84 (by decide) (by unfold jrg; omega)
theorem g_M_init_85 : jSnd 33 85 (o_putI 88 14 (11)) := snd_putI (ci := 4) (k := 11) d_M_init_85 rfl tm_in4 tm_D4 tm_ty4 tm_nm4 (by decide) wd_292 rfl rfl rfl
theorem g_M_init_88 : jSnd 33 88 (o_aload 89 0) := snd_aload_n d_M_init_88 rfl
theorem g_M_init_89 : jSnd 33 89 (o_push 92 (251)) := snd_sipush (n := 251) (z := 251) d_M_init_89 (by decide) (by unfold jrg; omega)
theorem g_M_init_92 : jSnd 33 92 (o_newa 94 2) := snd_newZ d_M_init_92 wd_289
theorem g_M_init_94 : jSnd 33 94 (o_putR 97 14 (12)) := snd_putRF (ci := 4) (k := 12) d_M_init_94 rfl tm_in4 tm_D4 tm_ty4 tm_nm4 (by decide) wd_293 rfl rfl rfl (fun o => by cases o <;> exact ⟨rfl, rfl⟩) rfl
theorem g_M_init_97 : jSnd 33 97 (o_aload 98 0) := snd_aload_n d_M_init_97 rfl
theorem g_M_init_98 : jSnd 33 98 (o_push 101 (251)) := snd_sipush (n := 251) (z := 251) d_M_init_98 (by decide) (by unfold jrg; omega)
theorem g_M_init_101 : jSnd 33 101 (o_newa 103 1) := snd_newI d_M_init_101 wd_281
theorem g_M_init_103 : jSnd 33 103 (o_putR 106 14 (14)) := snd_putRF (ci := 4) (k := 14) d_M_init_103 rfl tm_in4 tm_D4 tm_ty4 tm_nm4 (by decide) wd_294 rfl rfl rfl (fun o => by cases o <;> exact ⟨rfl, rfl⟩) rfl
theorem g_M_init_106 : jSnd 33 106 (o_aload 107 0) := snd_aload_n d_M_init_106 rfl
theorem g_M_init_107 : jSnd 33 107 (o_push 110 (251)) := snd_sipush (n := 251) (z := 251) d_M_init_107 (by decide) (by unfold jrg; omega)
theorem g_M_init_110 : jSnd 33 110 (o_newa 112 1) := snd_newI d_M_init_110 wd_281
theorem g_M_init_112 : jSnd 33 112 (o_putR 115 14 (15)) := snd_putRF (ci := 4) (k := 15) d_M_init_112 rfl tm_in4 tm_D4 tm_ty4 tm_nm4 (by decide) wd_295 rfl rfl rfl (fun o => by cases o <;> exact ⟨rfl, rfl⟩) rfl
theorem g_M_init_115 : jSnd 33 115 (o_aload 116 0) := snd_aload_n d_M_init_115 rfl
theorem g_M_init_116 : jSnd 33 116 (o_push 119 (252)) := snd_sipush (n := 252) (z := 252) d_M_init_116 (by decide) (by unfold jrg; omega)
theorem g_M_init_119 : jSnd 33 119 (o_newa 121 1) := snd_newI d_M_init_119 wd_281
theorem g_M_init_121 : jSnd 33 121 (o_putR 124 14 (16)) := snd_putRF (ci := 4) (k := 16) d_M_init_121 rfl tm_in4 tm_D4 tm_ty4 tm_nm4 (by decide) wd_296 rfl rfl rfl (fun o => by cases o <;> exact ⟨rfl, rfl⟩) rfl
theorem g_M_init_124 : jSnd 33 124 (o_aload 125 0) := snd_aload_n d_M_init_124 rfl
theorem g_M_init_125 : jSnd 33 125 (o_push 128 (251)) := snd_sipush (n := 251) (z := 251) d_M_init_125 (by decide) (by unfold jrg; omega)
theorem g_M_init_128 : jSnd 33 128 (o_newa 130 1) := snd_newI d_M_init_128 wd_281
theorem g_M_init_130 : jSnd 33 130 (o_putR 133 14 (18)) := snd_putRF (ci := 4) (k := 18) d_M_init_130 rfl tm_in4 tm_D4 tm_ty4 tm_nm4 (by decide) wd_297 rfl rfl rfl (fun o => by cases o <;> exact ⟨rfl, rfl⟩) rfl
theorem g_M_init_133 : jSnd 33 133 (o_aload 134 0) := snd_aload_n d_M_init_133 rfl
theorem g_M_init_134 : jSnd 33 134 (o_push 137 (1004)) := snd_sipush (n := 1004) (z := 1004) d_M_init_134 (by decide) (by unfold jrg; omega)
theorem g_M_init_137 : jSnd 33 137 (o_newa 139 1) := snd_newI d_M_init_137 wd_281
theorem g_M_init_139 : jSnd 33 139 (o_putR 142 14 (19)) := snd_putRF (ci := 4) (k := 19) d_M_init_139 rfl tm_in4 tm_D4 tm_ty4 tm_nm4 (by decide) wd_298 rfl rfl rfl (fun o => by cases o <;> exact ⟨rfl, rfl⟩) rfl
theorem g_M_init_142 : jSnd 33 142 (o_aload 143 0) := snd_aload_n d_M_init_142 rfl
theorem g_M_init_143 : jSnd 33 143 (o_push 146 (251)) := snd_sipush (n := 251) (z := 251) d_M_init_143 (by decide) (by unfold jrg; omega)
theorem g_M_init_146 : jSnd 33 146 (o_newa 148 1) := snd_newI d_M_init_146 wd_281
theorem g_M_init_148 : jSnd 33 148 (o_putR 151 14 (21)) := snd_putRF (ci := 4) (k := 21) d_M_init_148 rfl tm_in4 tm_D4 tm_ty4 tm_nm4 (by decide) wd_299 rfl rfl rfl (fun o => by cases o <;> exact ⟨rfl, rfl⟩) rfl
theorem g_M_init_151 : jSnd 33 151 (o_aload 152 0) := snd_aload_n d_M_init_151 rfl
theorem g_M_init_152 : jSnd 33 152 (o_push 155 (251)) := snd_sipush (n := 251) (z := 251) d_M_init_152 (by decide) (by unfold jrg; omega)
theorem g_M_init_155 : jSnd 33 155 (o_newa 157 1) := snd_newI d_M_init_155 wd_281
theorem g_M_init_157 : jSnd 33 157 (o_putR 160 14 (25)) := snd_putRF (ci := 4) (k := 25) d_M_init_157 rfl tm_in4 tm_D4 tm_ty4 tm_nm4 (by decide) wd_300 rfl rfl rfl (fun o => by cases o <;> exact ⟨rfl, rfl⟩) rfl
theorem g_M_init_160 : jSnd 33 160 (o_aload 161 0) := snd_aload_n d_M_init_160 rfl
theorem g_M_init_161 : jSnd 33 161 (o_push 164 (1004)) := snd_sipush (n := 1004) (z := 1004) d_M_init_161 (by decide) (by unfold jrg; omega)
theorem g_M_init_164 : jSnd 33 164 (o_newa 166 1) := snd_newI d_M_init_164 wd_281
theorem g_M_init_166 : jSnd 33 166 (o_putR 169 14 (26)) := snd_putRF (ci := 4) (k := 26) d_M_init_166 rfl tm_in4 tm_D4 tm_ty4 tm_nm4 (by decide) wd_301 rfl rfl rfl (fun o => by cases o <;> exact ⟨rfl, rfl⟩) rfl
theorem g_M_init_169 : jSnd 33 169 (o_aload 170 0) := snd_aload_n d_M_init_169 rfl
theorem g_M_init_170 : jSnd 33 170 (o_push 173 (251)) := snd_sipush (n := 251) (z := 251) d_M_init_170 (by decide) (by unfold jrg; omega)
theorem g_M_init_173 : jSnd 33 173 (o_newa 175 1) := snd_newI d_M_init_173 wd_281
theorem g_M_init_175 : jSnd 33 175 (o_putR 178 14 (27)) := snd_putRF (ci := 4) (k := 27) d_M_init_175 rfl tm_in4 tm_D4 tm_ty4 tm_nm4 (by decide) wd_302 rfl rfl rfl (fun o => by cases o <;> exact ⟨rfl, rfl⟩) rfl
theorem g_M_init_178 : jSnd 33 178 (o_aload 179 0) := snd_aload_n d_M_init_178 rfl
theorem g_M_init_179 : jSnd 33 179 (o_push 182 (251)) := snd_sipush (n := 251) (z := 251) d_M_init_179 (by decide) (by unfold jrg; omega)
theorem g_M_init_182 : jSnd 33 182 (o_newa 184 1) := snd_newI d_M_init_182 wd_281
theorem g_M_init_184 : jSnd 33 184 (o_putR 187 14 (28)) := snd_putRF (ci := 4) (k := 28) d_M_init_184 rfl tm_in4 tm_D4 tm_ty4 tm_nm4 (by decide) wd_303 rfl rfl rfl (fun o => by cases o <;> exact ⟨rfl, rfl⟩) rfl
theorem g_M_init_187 : jSnd 33 187 (o_aload 188 0) := snd_aload_n d_M_init_187 rfl
theorem g_M_init_188 : jSnd 33 188 (o_push 191 (252)) := snd_sipush (n := 252) (z := 252) d_M_init_188 (by decide) (by unfold jrg; omega)
theorem g_M_init_191 : jSnd 33 191 (o_newa 193 1) := snd_newI d_M_init_191 wd_281
theorem g_M_init_193 : jSnd 33 193 (o_putR 196 14 (30)) := snd_putRF (ci := 4) (k := 30) d_M_init_193 rfl tm_in4 tm_D4 tm_ty4 tm_nm4 (by decide) wd_304 rfl rfl rfl (fun o => by cases o <;> exact ⟨rfl, rfl⟩) rfl
theorem g_M_init_196 : jSnd 33 196 (o_vret) := snd_vret d_M_init_196 rfl
set_option maxRecDepth 100000 in
theorem ga_M_init : jAll 33 0 tmp_M_init := ⟨g_M_init_0, g_M_init_1, snd_bad _ _, snd_bad _ _, g_M_init_4, g_M_init_5, snd_bad _ _, snd_bad _ _, g_M_init_8, snd_bad _ _, g_M_init_10, snd_bad _ _, snd_bad _ _, g_M_init_13, g_M_init_14, snd_bad _ _, snd_bad _ _, g_M_init_17, snd_bad _ _, g_M_init_19, snd_bad _ _, snd_bad _ _, g_M_init_22, g_M_init_23, snd_bad _ _, snd_bad _ _, g_M_init_26, snd_bad _ _, g_M_init_28, snd_bad _ _, snd_bad _ _, g_M_init_31, g_M_init_32, snd_bad _ _, snd_bad _ _, g_M_init_35, snd_bad _ _, g_M_init_37, snd_bad _ _, snd_bad _ _, g_M_init_40, g_M_init_41, snd_bad _ _, snd_bad _ _, g_M_init_44, snd_bad _ _, g_M_init_46, snd_bad _ _, snd_bad _ _, g_M_init_49, g_M_init_50, snd_bad _ _, snd_bad _ _, g_M_init_53, snd_bad _ _, g_M_init_55, snd_bad _ _, snd_bad _ _, g_M_init_58, g_M_init_59, snd_bad _ _, snd_bad _ _, g_M_init_62, snd_bad _ _, g_M_init_64, snd_bad _ _, snd_bad _ _, g_M_init_67, g_M_init_68, snd_bad _ _, snd_bad _ _, g_M_init_71, snd_bad _ _, g_M_init_73, snd_bad _ _, snd_bad _ _, g_M_init_76, g_M_init_77, g_M_init_78, snd_bad _ _, g_M_init_80, snd_bad _ _, snd_bad _ _, g_M_init_83, g_M_init_84, g_M_init_85, snd_bad _ _, snd_bad _ _, g_M_init_88, g_M_init_89, snd_bad _ _, snd_bad _ _, g_M_init_92, snd_bad _ _, g_M_init_94, snd_bad _ _, snd_bad _ _, g_M_init_97, g_M_init_98, snd_bad _ _, snd_bad _ _, g_M_init_101, snd_bad _ _, g_M_init_103, snd_bad _ _, snd_bad _ _, g_M_init_106, g_M_init_107, snd_bad _ _, snd_bad _ _, g_M_init_110, snd_bad _ _, g_M_init_112, snd_bad _ _, snd_bad _ _, g_M_init_115, g_M_init_116, snd_bad _ _, snd_bad _ _, g_M_init_119, snd_bad _ _, g_M_init_121, snd_bad _ _, snd_bad _ _, g_M_init_124, g_M_init_125, snd_bad _ _, snd_bad _ _, g_M_init_128, snd_bad _ _, g_M_init_130, snd_bad _ _, snd_bad _ _, g_M_init_133, g_M_init_134, snd_bad _ _, snd_bad _ _, g_M_init_137, snd_bad _ _, g_M_init_139, snd_bad _ _, snd_bad _ _, g_M_init_142, g_M_init_143, snd_bad _ _, snd_bad _ _, g_M_init_146, snd_bad _ _, g_M_init_148, snd_bad _ _, snd_bad _ _, g_M_init_151, g_M_init_152, snd_bad _ _, snd_bad _ _, g_M_init_155, snd_bad _ _, g_M_init_157, snd_bad _ _, snd_bad _ _, g_M_init_160, g_M_init_161, snd_bad _ _, snd_bad _ _, g_M_init_164, snd_bad _ _, g_M_init_166, snd_bad _ _, snd_bad _ _, g_M_init_169, g_M_init_170, snd_bad _ _, snd_bad _ _, g_M_init_173, snd_bad _ _, g_M_init_175, snd_bad _ _, snd_bad _ _, g_M_init_178, g_M_init_179, snd_bad _ _, snd_bad _ _, g_M_init_182, snd_bad _ _, g_M_init_184, snd_bad _ _, snd_bad _ _, g_M_init_187, g_M_init_188, snd_bad _ _, snd_bad _ _, g_M_init_191, snd_bad _ _, g_M_init_193, snd_bad _ _, snd_bad _ _, g_M_init_196, trivial⟩
theorem d_M_within_0 : decode (tm_c 34) 0 = .ok (.iload_n 0, 1) := by decide +kernel
theorem d_M_within_1 : decode (tm_c 34) 1 = .ok (.iload_n 1, 1) := by decide +kernel
theorem d_M_within_2 : decode (tm_c 34) 2 = .ok (.if_icmp .lt (12), 3) := by decide +kernel
theorem d_M_within_5 : decode (tm_c 34) 5 = .ok (.iload_n 0, 1) := by decide +kernel
theorem d_M_within_6 : decode (tm_c 34) 6 = .ok (.iload_n 2, 1) := by decide +kernel
theorem d_M_within_7 : decode (tm_c 34) 7 = .ok (.if_icmp .gt (7), 3) := by decide +kernel
theorem d_M_within_10 : decode (tm_c 34) 10 = .ok (.iconst (1), 1) := by decide +kernel
theorem d_M_within_11 : decode (tm_c 34) 11 = .ok (.goto (4), 3) := by decide +kernel
theorem d_M_within_14 : decode (tm_c 34) 14 = .ok (.iconst (0), 1) := by decide +kernel
theorem d_M_within_15 : decode (tm_c 34) 15 = .ok (.ireturn, 1) := by decide +kernel
theorem g_M_within_0 : jSnd 34 0 (o_iload 1 0) := snd_iload_n d_M_within_0 rfl
theorem g_M_within_1 : jSnd 34 1 (o_iload 2 1) := snd_iload_n d_M_within_1 rfl
theorem g_M_within_2 : jSnd 34 2 (o_ic_lt 5 14) := snd_ic_lt d_M_within_2 (by decide)
theorem g_M_within_5 : jSnd 34 5 (o_iload 6 0) := snd_iload_n d_M_within_5 rfl
theorem g_M_within_6 : jSnd 34 6 (o_iload 7 2) := snd_iload_n d_M_within_6 rfl
theorem g_M_within_7 : jSnd 34 7 (o_ic_gt 10 14) := snd_ic_gt d_M_within_7 (by decide)
theorem g_M_within_10 : jSnd 34 10 (o_push 11 (1)) := snd_iconst (n := 1) (z := 1) d_M_within_10 (by decide) (by unfold jrg; omega)
theorem g_M_within_11 : jSnd 34 11 (o_goto 15) := snd_goto d_M_within_11 (by decide)
theorem g_M_within_14 : jSnd 34 14 (o_push 15 (0)) := snd_iconst (n := 0) (z := 0) d_M_within_14 (by decide) (by unfold jrg; omega)
theorem g_M_within_15 : jSnd 34 15 (o_zret) := snd_zret d_M_within_15 rfl
set_option maxRecDepth 100000 in
theorem ga_M_within : jAll 34 0 tmp_M_within := ⟨g_M_within_0, g_M_within_1, g_M_within_2, snd_bad _ _, snd_bad _ _, g_M_within_5, g_M_within_6, g_M_within_7, snd_bad _ _, snd_bad _ _, g_M_within_10, g_M_within_11, snd_bad _ _, snd_bad _ _, g_M_within_14, g_M_within_15, trivial⟩
theorem d_M_knowsRow_0 : decode (tm_c 35) 0 = .ok (.aload_n 0, 1) := by decide +kernel
theorem d_M_knowsRow_1 : decode (tm_c 35) 1 = .ok (.getfield 31, 3) := by decide +kernel
theorem d_M_knowsRow_4 : decode (tm_c 35) 4 = .ok (.sipush (251), 3) := by decide +kernel
theorem d_M_knowsRow_7 : decode (tm_c 35) 7 = .ok (.iload_n 1, 1) := by decide +kernel
theorem d_M_knowsRow_8 : decode (tm_c 35) 8 = .ok (.imul, 1) := by decide +kernel
theorem d_M_knowsRow_9 : decode (tm_c 35) 9 = .ok (.iload_n 2, 1) := by decide +kernel
theorem d_M_knowsRow_10 : decode (tm_c 35) 10 = .ok (.iadd, 1) := by decide +kernel
theorem d_M_knowsRow_11 : decode (tm_c 35) 11 = .ok (.baload, 1) := by decide +kernel
theorem d_M_knowsRow_12 : decode (tm_c 35) 12 = .ok (.ireturn, 1) := by decide +kernel
theorem g_M_knowsRow_0 : jSnd 35 0 (o_aload 1 0) := snd_aload_n d_M_knowsRow_0 rfl
theorem g_M_knowsRow_1 : jSnd 35 1 (o_getR 4 14 (9)) := snd_getR (ci := 4) (k := 9) d_M_knowsRow_1 rfl tm_in4 (by decide) wd_290 rfl
theorem g_M_knowsRow_4 : jSnd 35 4 (o_push 7 (251)) := snd_sipush (n := 251) (z := 251) d_M_knowsRow_4 (by decide) (by unfold jrg; omega)
theorem g_M_knowsRow_7 : jSnd 35 7 (o_iload 8 1) := snd_iload_n d_M_knowsRow_7 rfl
theorem g_M_knowsRow_8 : jSnd 35 8 (o_bin 9 f_mul) := snd_imul d_M_knowsRow_8
theorem g_M_knowsRow_9 : jSnd 35 9 (o_iload 10 2) := snd_iload_n d_M_knowsRow_9 rfl
theorem g_M_knowsRow_10 : jSnd 35 10 (o_bin 11 f_add) := snd_iadd d_M_knowsRow_10
theorem g_M_knowsRow_11 : jSnd 35 11 (o_nald 12 2) := snd_zald d_M_knowsRow_11
theorem g_M_knowsRow_12 : jSnd 35 12 (o_zret) := snd_zret d_M_knowsRow_12 rfl
set_option maxRecDepth 100000 in
theorem ga_M_knowsRow : jAll 35 0 tmp_M_knowsRow := ⟨g_M_knowsRow_0, g_M_knowsRow_1, snd_bad _ _, snd_bad _ _, g_M_knowsRow_4, snd_bad _ _, snd_bad _ _, g_M_knowsRow_7, g_M_knowsRow_8, g_M_knowsRow_9, g_M_knowsRow_10, g_M_knowsRow_11, g_M_knowsRow_12, trivial⟩
theorem d_M_isBefore_0 : decode (tm_c 36) 0 = .ok (.aload_n 0, 1) := by decide +kernel
theorem d_M_isBefore_1 : decode (tm_c 36) 1 = .ok (.getfield 16, 3) := by decide +kernel
theorem d_M_isBefore_4 : decode (tm_c 36) 4 = .ok (.iload_n 1, 1) := by decide +kernel
theorem d_M_isBefore_5 : decode (tm_c 36) 5 = .ok (.iaload, 1) := by decide +kernel
theorem d_M_isBefore_6 : decode (tm_c 36) 6 = .ok (.aload_n 0, 1) := by decide +kernel
theorem d_M_isBefore_7 : decode (tm_c 36) 7 = .ok (.getfield 16, 3) := by decide +kernel
theorem d_M_isBefore_10 : decode (tm_c 36) 10 = .ok (.iload_n 2, 1) := by decide +kernel
theorem d_M_isBefore_11 : decode (tm_c 36) 11 = .ok (.iaload, 1) := by decide +kernel
theorem d_M_isBefore_12 : decode (tm_c 36) 12 = .ok (.if_icmp .eq (26), 3) := by decide +kernel
theorem d_M_isBefore_15 : decode (tm_c 36) 15 = .ok (.aload_n 0, 1) := by decide +kernel
theorem d_M_isBefore_16 : decode (tm_c 36) 16 = .ok (.getfield 16, 3) := by decide +kernel
theorem d_M_isBefore_19 : decode (tm_c 36) 19 = .ok (.iload_n 1, 1) := by decide +kernel
theorem d_M_isBefore_20 : decode (tm_c 36) 20 = .ok (.iaload, 1) := by decide +kernel
theorem d_M_isBefore_21 : decode (tm_c 36) 21 = .ok (.aload_n 0, 1) := by decide +kernel
theorem d_M_isBefore_22 : decode (tm_c 36) 22 = .ok (.getfield 16, 3) := by decide +kernel
theorem d_M_isBefore_25 : decode (tm_c 36) 25 = .ok (.iload_n 2, 1) := by decide +kernel
theorem d_M_isBefore_26 : decode (tm_c 36) 26 = .ok (.iaload, 1) := by decide +kernel
theorem d_M_isBefore_27 : decode (tm_c 36) 27 = .ok (.if_icmp .ge (7), 3) := by decide +kernel
theorem d_M_isBefore_30 : decode (tm_c 36) 30 = .ok (.iconst (1), 1) := by decide +kernel
theorem d_M_isBefore_31 : decode (tm_c 36) 31 = .ok (.goto (27), 3) := by decide +kernel
theorem d_M_isBefore_34 : decode (tm_c 36) 34 = .ok (.iconst (0), 1) := by decide +kernel
theorem d_M_isBefore_35 : decode (tm_c 36) 35 = .ok (.goto (23), 3) := by decide +kernel
theorem d_M_isBefore_38 : decode (tm_c 36) 38 = .ok (.aload_n 0, 1) := by decide +kernel
theorem d_M_isBefore_39 : decode (tm_c 36) 39 = .ok (.getfield 13, 3) := by decide +kernel
theorem d_M_isBefore_42 : decode (tm_c 36) 42 = .ok (.iload_n 1, 1) := by decide +kernel
theorem d_M_isBefore_43 : decode (tm_c 36) 43 = .ok (.iaload, 1) := by decide +kernel
theorem d_M_isBefore_44 : decode (tm_c 36) 44 = .ok (.aload_n 0, 1) := by decide +kernel
theorem d_M_isBefore_45 : decode (tm_c 36) 45 = .ok (.getfield 13, 3) := by decide +kernel
theorem d_M_isBefore_48 : decode (tm_c 36) 48 = .ok (.iload_n 2, 1) := by decide +kernel
theorem d_M_isBefore_49 : decode (tm_c 36) 49 = .ok (.iaload, 1) := by decide +kernel
theorem d_M_isBefore_50 : decode (tm_c 36) 50 = .ok (.if_icmp .ge (7), 3) := by decide +kernel
theorem d_M_isBefore_53 : decode (tm_c 36) 53 = .ok (.iconst (1), 1) := by decide +kernel
theorem d_M_isBefore_54 : decode (tm_c 36) 54 = .ok (.goto (4), 3) := by decide +kernel
theorem d_M_isBefore_57 : decode (tm_c 36) 57 = .ok (.iconst (0), 1) := by decide +kernel
theorem d_M_isBefore_58 : decode (tm_c 36) 58 = .ok (.ireturn, 1) := by decide +kernel
theorem g_M_isBefore_0 : jSnd 36 0 (o_aload 1 0) := snd_aload_n d_M_isBefore_0 rfl
theorem g_M_isBefore_1 : jSnd 36 1 (o_getR 4 14 (4)) := snd_getR (ci := 4) (k := 4) d_M_isBefore_1 rfl tm_in4 (by decide) wd_284 rfl
theorem g_M_isBefore_4 : jSnd 36 4 (o_iload 5 1) := snd_iload_n d_M_isBefore_4 rfl
theorem g_M_isBefore_5 : jSnd 36 5 (o_nald 6 1) := snd_iald d_M_isBefore_5
theorem g_M_isBefore_6 : jSnd 36 6 (o_aload 7 0) := snd_aload_n d_M_isBefore_6 rfl
theorem g_M_isBefore_7 : jSnd 36 7 (o_getR 10 14 (4)) := snd_getR (ci := 4) (k := 4) d_M_isBefore_7 rfl tm_in4 (by decide) wd_284 rfl
theorem g_M_isBefore_10 : jSnd 36 10 (o_iload 11 2) := snd_iload_n d_M_isBefore_10 rfl
theorem g_M_isBefore_11 : jSnd 36 11 (o_nald 12 1) := snd_iald d_M_isBefore_11
theorem g_M_isBefore_12 : jSnd 36 12 (o_ic_eq 15 38) := snd_ic_eq d_M_isBefore_12 (by decide)
theorem g_M_isBefore_15 : jSnd 36 15 (o_aload 16 0) := snd_aload_n d_M_isBefore_15 rfl
theorem g_M_isBefore_16 : jSnd 36 16 (o_getR 19 14 (4)) := snd_getR (ci := 4) (k := 4) d_M_isBefore_16 rfl tm_in4 (by decide) wd_284 rfl
theorem g_M_isBefore_19 : jSnd 36 19 (o_iload 20 1) := snd_iload_n d_M_isBefore_19 rfl
theorem g_M_isBefore_20 : jSnd 36 20 (o_nald 21 1) := snd_iald d_M_isBefore_20
theorem g_M_isBefore_21 : jSnd 36 21 (o_aload 22 0) := snd_aload_n d_M_isBefore_21 rfl
theorem g_M_isBefore_22 : jSnd 36 22 (o_getR 25 14 (4)) := snd_getR (ci := 4) (k := 4) d_M_isBefore_22 rfl tm_in4 (by decide) wd_284 rfl
theorem g_M_isBefore_25 : jSnd 36 25 (o_iload 26 2) := snd_iload_n d_M_isBefore_25 rfl
theorem g_M_isBefore_26 : jSnd 36 26 (o_nald 27 1) := snd_iald d_M_isBefore_26
theorem g_M_isBefore_27 : jSnd 36 27 (o_ic_ge 30 34) := snd_ic_ge d_M_isBefore_27 (by decide)
theorem g_M_isBefore_30 : jSnd 36 30 (o_push 31 (1)) := snd_iconst (n := 1) (z := 1) d_M_isBefore_30 (by decide) (by unfold jrg; omega)
theorem g_M_isBefore_31 : jSnd 36 31 (o_goto 58) := snd_goto d_M_isBefore_31 (by decide)
theorem g_M_isBefore_34 : jSnd 36 34 (o_push 35 (0)) := snd_iconst (n := 0) (z := 0) d_M_isBefore_34 (by decide) (by unfold jrg; omega)
theorem g_M_isBefore_35 : jSnd 36 35 (o_goto 58) := snd_goto d_M_isBefore_35 (by decide)
theorem g_M_isBefore_38 : jSnd 36 38 (o_aload 39 0) := snd_aload_n d_M_isBefore_38 rfl
theorem g_M_isBefore_39 : jSnd 36 39 (o_getR 42 14 (3)) := snd_getR (ci := 4) (k := 3) d_M_isBefore_39 rfl tm_in4 (by decide) wd_283 rfl
theorem g_M_isBefore_42 : jSnd 36 42 (o_iload 43 1) := snd_iload_n d_M_isBefore_42 rfl
theorem g_M_isBefore_43 : jSnd 36 43 (o_nald 44 1) := snd_iald d_M_isBefore_43
theorem g_M_isBefore_44 : jSnd 36 44 (o_aload 45 0) := snd_aload_n d_M_isBefore_44 rfl
theorem g_M_isBefore_45 : jSnd 36 45 (o_getR 48 14 (3)) := snd_getR (ci := 4) (k := 3) d_M_isBefore_45 rfl tm_in4 (by decide) wd_283 rfl
theorem g_M_isBefore_48 : jSnd 36 48 (o_iload 49 2) := snd_iload_n d_M_isBefore_48 rfl
theorem g_M_isBefore_49 : jSnd 36 49 (o_nald 50 1) := snd_iald d_M_isBefore_49
theorem g_M_isBefore_50 : jSnd 36 50 (o_ic_ge 53 57) := snd_ic_ge d_M_isBefore_50 (by decide)
theorem g_M_isBefore_53 : jSnd 36 53 (o_push 54 (1)) := snd_iconst (n := 1) (z := 1) d_M_isBefore_53 (by decide) (by unfold jrg; omega)
theorem g_M_isBefore_54 : jSnd 36 54 (o_goto 58) := snd_goto d_M_isBefore_54 (by decide)
theorem g_M_isBefore_57 : jSnd 36 57 (o_push 58 (0)) := snd_iconst (n := 0) (z := 0) d_M_isBefore_57 (by decide) (by unfold jrg; omega)
theorem g_M_isBefore_58 : jSnd 36 58 (o_zret) := snd_zret d_M_isBefore_58 rfl
set_option maxRecDepth 100000 in
theorem ga_M_isBefore : jAll 36 0 tmp_M_isBefore := ⟨g_M_isBefore_0, g_M_isBefore_1, snd_bad _ _, snd_bad _ _, g_M_isBefore_4, g_M_isBefore_5, g_M_isBefore_6, g_M_isBefore_7, snd_bad _ _, snd_bad _ _, g_M_isBefore_10, g_M_isBefore_11, g_M_isBefore_12, snd_bad _ _, snd_bad _ _, g_M_isBefore_15, g_M_isBefore_16, snd_bad _ _, snd_bad _ _, g_M_isBefore_19, g_M_isBefore_20, g_M_isBefore_21, g_M_isBefore_22, snd_bad _ _, snd_bad _ _, g_M_isBefore_25, g_M_isBefore_26, g_M_isBefore_27, snd_bad _ _, snd_bad _ _, g_M_isBefore_30, g_M_isBefore_31, snd_bad _ _, snd_bad _ _, g_M_isBefore_34, g_M_isBefore_35, snd_bad _ _, snd_bad _ _, g_M_isBefore_38, g_M_isBefore_39, snd_bad _ _, snd_bad _ _, g_M_isBefore_42, g_M_isBefore_43, g_M_isBefore_44, g_M_isBefore_45, snd_bad _ _, snd_bad _ _, g_M_isBefore_48, g_M_isBefore_49, g_M_isBefore_50, snd_bad _ _, snd_bad _ _, g_M_isBefore_53, g_M_isBefore_54, snd_bad _ _, snd_bad _ _, g_M_isBefore_57, g_M_isBefore_58, trivial⟩
theorem d_M_judge_0 : decode (tm_c 37) 0 = .ok (.iconst (1), 1) := by decide +kernel
theorem d_M_judge_1 : decode (tm_c 37) 1 = .ok (.istore_n 2, 1) := by decide +kernel
theorem d_M_judge_2 : decode (tm_c 37) 2 = .ok (.iload_n 2, 1) := by decide +kernel
theorem d_M_judge_3 : decode (tm_c 37) 3 = .ok (.aload_n 0, 1) := by decide +kernel
theorem d_M_judge_4 : decode (tm_c 37) 4 = .ok (.getfield 81, 3) := by decide +kernel
theorem d_M_judge_7 : decode (tm_c 37) 7 = .ok (.if_icmp .gt (21), 3) := by decide +kernel
theorem d_M_judge_10 : decode (tm_c 37) 10 = .ok (.aload_n 0, 1) := by decide +kernel
theorem d_M_judge_11 : decode (tm_c 37) 11 = .ok (.getfield 42, 3) := by decide +kernel
theorem d_M_judge_14 : decode (tm_c 37) 14 = .ok (.iload_n 2, 1) := by decide +kernel
theorem d_M_judge_15 : decode (tm_c 37) 15 = .ok (.aload_n 0, 1) := by decide +kernel
theorem d_M_judge_16 : decode (tm_c 37) 16 = .ok (.iload_n 1, 1) := by decide +kernel
theorem d_M_judge_17 : decode (tm_c 37) 17 = .ok (.iload_n 2, 1) := by decide +kernel
theorem d_M_judge_18 : decode (tm_c 37) 18 = .ok (.invokevirtual 84, 3) := by decide +kernel
theorem d_M_judge_21 : decode (tm_c 37) 21 = .ok (.bastore, 1) := by decide +kernel
theorem d_M_judge_22 : decode (tm_c 37) 22 = .ok (.iinc 2 (1), 3) := by decide +kernel
theorem d_M_judge_25 : decode (tm_c 37) 25 = .ok (.goto (-23), 3) := by decide +kernel
theorem d_M_judge_28 : decode (tm_c 37) 28 = .ok (.iconst (1), 1) := by decide +kernel
theorem d_M_judge_29 : decode (tm_c 37) 29 = .ok (.istore_n 2, 1) := by decide +kernel
theorem d_M_judge_30 : decode (tm_c 37) 30 = .ok (.iload_n 2, 1) := by decide +kernel
theorem d_M_judge_31 : decode (tm_c 37) 31 = .ok (.aload_n 0, 1) := by decide +kernel
theorem d_M_judge_32 : decode (tm_c 37) 32 = .ok (.getfield 81, 3) := by decide +kernel
theorem d_M_judge_35 : decode (tm_c 37) 35 = .ok (.if_icmp .gt (40), 3) := by decide +kernel
theorem d_M_judge_38 : decode (tm_c 37) 38 = .ok (.aload_n 0, 1) := by decide +kernel
theorem d_M_judge_39 : decode (tm_c 37) 39 = .ok (.getfield 7, 3) := by decide +kernel
theorem d_M_judge_42 : decode (tm_c 37) 42 = .ok (.iload_n 2, 1) := by decide +kernel
theorem d_M_judge_43 : decode (tm_c 37) 43 = .ok (.iaload, 1) := by decide +kernel
theorem d_M_judge_44 : decode (tm_c 37) 44 = .ok (.iconst (5), 1) := by decide +kernel
theorem d_M_judge_45 : decode (tm_c 37) 45 = .ok (.if_icmp .ne (24), 3) := by decide +kernel
theorem d_M_judge_48 : decode (tm_c 37) 48 = .ok (.aload_n 0, 1) := by decide +kernel
theorem d_M_judge_49 : decode (tm_c 37) 49 = .ok (.iload_n 1, 1) := by decide +kernel
theorem d_M_judge_50 : decode (tm_c 37) 50 = .ok (.iload_n 2, 1) := by decide +kernel
theorem d_M_judge_51 : decode (tm_c 37) 51 = .ok (.invokevirtual 84, 3) := by decide +kernel
theorem d_M_judge_54 : decode (tm_c 37) 54 = .ok (.ifCond .eq (15), 3) := by decide +kernel
theorem d_M_judge_57 : decode (tm_c 37) 57 = .ok (.aload_n 0, 1) := by decide +kernel
theorem d_M_judge_58 : decode (tm_c 37) 58 = .ok (.getfield 42, 3) := by decide +kernel
theorem d_M_judge_61 : decode (tm_c 37) 61 = .ok (.aload_n 0, 1) := by decide +kernel
theorem d_M_judge_62 : decode (tm_c 37) 62 = .ok (.getfield 25, 3) := by decide +kernel
theorem d_M_judge_65 : decode (tm_c 37) 65 = .ok (.iload_n 2, 1) := by decide +kernel
theorem d_M_judge_66 : decode (tm_c 37) 66 = .ok (.iaload, 1) := by decide +kernel
theorem d_M_judge_67 : decode (tm_c 37) 67 = .ok (.iconst (0), 1) := by decide +kernel
theorem d_M_judge_68 : decode (tm_c 37) 68 = .ok (.bastore, 1) := by decide +kernel
theorem d_M_judge_69 : decode (tm_c 37) 69 = .ok (.iinc 2 (1), 3) := by decide +kernel
theorem d_M_judge_72 : decode (tm_c 37) 72 = .ok (.goto (-42), 3) := by decide +kernel
theorem d_M_judge_75 : decode (tm_c 37) 75 = .ok (.return_, 1) := by decide +kernel
theorem g_M_judge_0 : jSnd 37 0 (o_push 1 (1)) := snd_iconst (n := 1) (z := 1) d_M_judge_0 (by decide) (by unfold jrg; omega)
theorem g_M_judge_1 : jSnd 37 1 (o_istore 2 2) := snd_istore_n d_M_judge_1 rfl (by decide)
theorem g_M_judge_2 : jSnd 37 2 (o_iload 3 2) := snd_iload_n d_M_judge_2 rfl
theorem g_M_judge_3 : jSnd 37 3 (o_aload 4 0) := snd_aload_n d_M_judge_3 rfl
theorem g_M_judge_4 : jSnd 37 4 (o_getI 7 14 (1)) := snd_getI (ci := 4) (k := 1) d_M_judge_4 rfl tm_in4 (by decide) wd_305 rfl
theorem g_M_judge_7 : jSnd 37 7 (o_ic_gt 10 28) := snd_ic_gt d_M_judge_7 (by decide)
theorem g_M_judge_10 : jSnd 37 10 (o_aload 11 0) := snd_aload_n d_M_judge_10 rfl
theorem g_M_judge_11 : jSnd 37 11 (o_getR 14 14 (12)) := snd_getR (ci := 4) (k := 12) d_M_judge_11 rfl tm_in4 (by decide) wd_293 rfl
theorem g_M_judge_14 : jSnd 37 14 (o_iload 15 2) := snd_iload_n d_M_judge_14 rfl
theorem g_M_judge_15 : jSnd 37 15 (o_aload 16 0) := snd_aload_n d_M_judge_15 rfl
theorem g_M_judge_16 : jSnd 37 16 (o_iload 17 1) := snd_iload_n d_M_judge_16 rfl
theorem g_M_judge_17 : jSnd 37 17 (o_iload 18 2) := snd_iload_n d_M_judge_17 rfl
theorem g_M_judge_18 : jSnd 37 18 (o_call 21 35 3 3 14 false) := snd_callV (ci := 4) (n := 2) rfl d_M_judge_18 (by decide) (by decide) (by decide) wc_35 wd_306 wd_307 wd_308 wd_7 (by decide +kernel) (by decide) (by decide)
theorem g_M_judge_21 : jSnd 37 21 (o_zast 22) := snd_zast d_M_judge_21
theorem g_M_judge_22 : jSnd 37 22 (o_iinc 25 2 (1)) := snd_iinc d_M_judge_22 (by decide)
theorem g_M_judge_25 : jSnd 37 25 (o_goto 2) := snd_goto d_M_judge_25 (by decide)
theorem g_M_judge_28 : jSnd 37 28 (o_push 29 (1)) := snd_iconst (n := 1) (z := 1) d_M_judge_28 (by decide) (by unfold jrg; omega)
theorem g_M_judge_29 : jSnd 37 29 (o_istore 30 2) := snd_istore_n d_M_judge_29 rfl (by decide)
theorem g_M_judge_30 : jSnd 37 30 (o_iload 31 2) := snd_iload_n d_M_judge_30 rfl
theorem g_M_judge_31 : jSnd 37 31 (o_aload 32 0) := snd_aload_n d_M_judge_31 rfl
theorem g_M_judge_32 : jSnd 37 32 (o_getI 35 14 (1)) := snd_getI (ci := 4) (k := 1) d_M_judge_32 rfl tm_in4 (by decide) wd_305 rfl
theorem g_M_judge_35 : jSnd 37 35 (o_ic_gt 38 75) := snd_ic_gt d_M_judge_35 (by decide)
theorem g_M_judge_38 : jSnd 37 38 (o_aload 39 0) := snd_aload_n d_M_judge_38 rfl
theorem g_M_judge_39 : jSnd 37 39 (o_getR 42 14 (2)) := snd_getR (ci := 4) (k := 2) d_M_judge_39 rfl tm_in4 (by decide) wd_282 rfl
theorem g_M_judge_42 : jSnd 37 42 (o_iload 43 2) := snd_iload_n d_M_judge_42 rfl
theorem g_M_judge_43 : jSnd 37 43 (o_nald 44 1) := snd_iald d_M_judge_43
theorem g_M_judge_44 : jSnd 37 44 (o_push 45 (5)) := snd_iconst (n := 5) (z := 5) d_M_judge_44 (by decide) (by unfold jrg; omega)
theorem g_M_judge_45 : jSnd 37 45 (o_ic_ne 48 69) := snd_ic_ne d_M_judge_45 (by decide)
theorem g_M_judge_48 : jSnd 37 48 (o_aload 49 0) := snd_aload_n d_M_judge_48 rfl
theorem g_M_judge_49 : jSnd 37 49 (o_iload 50 1) := snd_iload_n d_M_judge_49 rfl
theorem g_M_judge_50 : jSnd 37 50 (o_iload 51 2) := snd_iload_n d_M_judge_50 rfl
theorem g_M_judge_51 : jSnd 37 51 (o_call 54 35 3 3 14 false) := snd_callV (ci := 4) (n := 2) rfl d_M_judge_51 (by decide) (by decide) (by decide) wc_35 wd_306 wd_307 wd_308 wd_7 (by decide +kernel) (by decide) (by decide)
theorem g_M_judge_54 : jSnd 37 54 (o_if_eq 57 69) := snd_if_eq d_M_judge_54 (by decide)
theorem g_M_judge_57 : jSnd 37 57 (o_aload 58 0) := snd_aload_n d_M_judge_57 rfl
theorem g_M_judge_58 : jSnd 37 58 (o_getR 61 14 (12)) := snd_getR (ci := 4) (k := 12) d_M_judge_58 rfl tm_in4 (by decide) wd_293 rfl
theorem g_M_judge_61 : jSnd 37 61 (o_aload 62 0) := snd_aload_n d_M_judge_61 rfl
theorem g_M_judge_62 : jSnd 37 62 (o_getR 65 14 (7)) := snd_getR (ci := 4) (k := 7) d_M_judge_62 rfl tm_in4 (by decide) wd_287 rfl
theorem g_M_judge_65 : jSnd 37 65 (o_iload 66 2) := snd_iload_n d_M_judge_65 rfl
theorem g_M_judge_66 : jSnd 37 66 (o_nald 67 1) := snd_iald d_M_judge_66
theorem g_M_judge_67 : jSnd 37 67 (o_push 68 (0)) := snd_iconst (n := 0) (z := 0) d_M_judge_67 (by decide) (by unfold jrg; omega)
theorem g_M_judge_68 : jSnd 37 68 (o_zast 69) := snd_zast d_M_judge_68
theorem g_M_judge_69 : jSnd 37 69 (o_iinc 72 2 (1)) := snd_iinc d_M_judge_69 (by decide)
theorem g_M_judge_72 : jSnd 37 72 (o_goto 30) := snd_goto d_M_judge_72 (by decide)
theorem g_M_judge_75 : jSnd 37 75 (o_vret) := snd_vret d_M_judge_75 rfl
set_option maxRecDepth 100000 in
theorem ga_M_judge : jAll 37 0 tmp_M_judge := ⟨g_M_judge_0, g_M_judge_1, g_M_judge_2, g_M_judge_3, g_M_judge_4, snd_bad _ _, snd_bad _ _, g_M_judge_7, snd_bad _ _, snd_bad _ _, g_M_judge_10, g_M_judge_11, snd_bad _ _, snd_bad _ _, g_M_judge_14, g_M_judge_15, g_M_judge_16, g_M_judge_17, g_M_judge_18, snd_bad _ _, snd_bad _ _, g_M_judge_21, g_M_judge_22, snd_bad _ _, snd_bad _ _, g_M_judge_25, snd_bad _ _, snd_bad _ _, g_M_judge_28, g_M_judge_29, g_M_judge_30, g_M_judge_31, g_M_judge_32, snd_bad _ _, snd_bad _ _, g_M_judge_35, snd_bad _ _, snd_bad _ _, g_M_judge_38, g_M_judge_39, snd_bad _ _, snd_bad _ _, g_M_judge_42, g_M_judge_43, g_M_judge_44, g_M_judge_45, snd_bad _ _, snd_bad _ _, g_M_judge_48, g_M_judge_49, g_M_judge_50, g_M_judge_51, snd_bad _ _, snd_bad _ _, g_M_judge_54, snd_bad _ _, snd_bad _ _, g_M_judge_57, g_M_judge_58, snd_bad _ _, snd_bad _ _, g_M_judge_61, g_M_judge_62, snd_bad _ _, snd_bad _ _, g_M_judge_65, g_M_judge_66, g_M_judge_67, g_M_judge_68, g_M_judge_69, snd_bad _ _, snd_bad _ _, g_M_judge_72, snd_bad _ _, snd_bad _ _, g_M_judge_75, trivial⟩
theorem d_M_findOrder_0 : decode (tm_c 38) 0 = .ok (.aload_n 0, 1) := by decide +kernel
theorem d_M_findOrder_1 : decode (tm_c 38) 1 = .ok (.iconst (0), 1) := by decide +kernel
theorem d_M_findOrder_2 : decode (tm_c 38) 2 = .ok (.putfield 88, 3) := by decide +kernel
theorem d_M_findOrder_5 : decode (tm_c 38) 5 = .ok (.iconst (1), 1) := by decide +kernel
theorem d_M_findOrder_6 : decode (tm_c 38) 6 = .ok (.istore_n 3, 1) := by decide +kernel
theorem d_M_findOrder_7 : decode (tm_c 38) 7 = .ok (.iload_n 3, 1) := by decide +kernel
theorem d_M_findOrder_8 : decode (tm_c 38) 8 = .ok (.aload_n 0, 1) := by decide +kernel
theorem d_M_findOrder_9 : decode (tm_c 38) 9 = .ok (.getfield 81, 3) := by decide +kernel
theorem d_M_findOrder_12 : decode (tm_c 38) 12 = .ok (.if_icmp .gt (99), 3) := by decide +kernel
theorem d_M_findOrder_15 : decode (tm_c 38) 15 = .ok (.aload_n 0, 1) := by decide +kernel
theorem d_M_findOrder_16 : decode (tm_c 38) 16 = .ok (.getfield 7, 3) := by decide +kernel
theorem d_M_findOrder_19 : decode (tm_c 38) 19 = .ok (.iload_n 3, 1) := by decide +kernel
theorem d_M_findOrder_20 : decode (tm_c 38) 20 = .ok (.iaload, 1) := by decide +kernel
theorem d_M_findOrder_21 : decode (tm_c 38) 21 = .ok (.iload_n 2, 1) := by decide +kernel
theorem d_M_findOrder_22 : decode (tm_c 38) 22 = .ok (.if_icmp .ne (83), 3) := by decide +kernel
theorem d_M_findOrder_25 : decode (tm_c 38) 25 = .ok (.aload_n 0, 1) := by decide +kernel
theorem d_M_findOrder_26 : decode (tm_c 38) 26 = .ok (.iload_n 1, 1) := by decide +kernel
theorem d_M_findOrder_27 : decode (tm_c 38) 27 = .ok (.iload_n 3, 1) := by decide +kernel
theorem d_M_findOrder_28 : decode (tm_c 38) 28 = .ok (.invokevirtual 84, 3) := by decide +kernel
theorem d_M_findOrder_31 : decode (tm_c 38) 31 = .ok (.ifCond .ne (6), 3) := by decide +kernel
theorem d_M_findOrder_34 : decode (tm_c 38) 34 = .ok (.goto (71), 3) := by decide +kernel
theorem d_M_findOrder_37 : decode (tm_c 38) 37 = .ok (.aload_n 0, 1) := by decide +kernel
theorem d_M_findOrder_38 : decode (tm_c 38) 38 = .ok (.getfield 88, 3) := by decide +kernel
theorem d_M_findOrder_41 : decode (tm_c 38) 41 = .ok (.istore 4, 2) := by decide +kernel
theorem d_M_findOrder_43 : decode (tm_c 38) 43 = .ok (.iload 4, 2) := by decide +kernel
theorem d_M_findOrder_45 : decode (tm_c 38) 45 = .ok (.ifCond .le (42), 3) := by decide +kernel
theorem d_M_findOrder_48 : decode (tm_c 38) 48 = .ok (.aload_n 0, 1) := by decide +kernel
theorem d_M_findOrder_49 : decode (tm_c 38) 49 = .ok (.iload_n 3, 1) := by decide +kernel
theorem d_M_findOrder_50 : decode (tm_c 38) 50 = .ok (.aload_n 0, 1) := by decide +kernel
theorem d_M_findOrder_51 : decode (tm_c 38) 51 = .ok (.getfield 60, 3) := by decide +kernel
theorem d_M_findOrder_54 : decode (tm_c 38) 54 = .ok (.iload 4, 2) := by decide +kernel
theorem d_M_findOrder_56 : decode (tm_c 38) 56 = .ok (.iconst (1), 1) := by decide +kernel
theorem d_M_findOrder_57 : decode (tm_c 38) 57 = .ok (.isub, 1) := by decide +kernel
theorem d_M_findOrder_58 : decode (tm_c 38) 58 = .ok (.iaload, 1) := by decide +kernel
theorem d_M_findOrder_59 : decode (tm_c 38) 59 = .ok (.invokevirtual 91, 3) := by decide +kernel
theorem d_M_findOrder_62 : decode (tm_c 38) 62 = .ok (.ifCond .eq (25), 3) := by decide +kernel
theorem d_M_findOrder_65 : decode (tm_c 38) 65 = .ok (.aload_n 0, 1) := by decide +kernel
theorem d_M_findOrder_66 : decode (tm_c 38) 66 = .ok (.getfield 60, 3) := by decide +kernel
theorem d_M_findOrder_69 : decode (tm_c 38) 69 = .ok (.iload 4, 2) := by decide +kernel
theorem d_M_findOrder_71 : decode (tm_c 38) 71 = .ok (.aload_n 0, 1) := by decide +kernel
theorem d_M_findOrder_72 : decode (tm_c 38) 72 = .ok (.getfield 60, 3) := by decide +kernel
theorem d_M_findOrder_75 : decode (tm_c 38) 75 = .ok (.iload 4, 2) := by decide +kernel
theorem d_M_findOrder_77 : decode (tm_c 38) 77 = .ok (.iconst (1), 1) := by decide +kernel
theorem d_M_findOrder_78 : decode (tm_c 38) 78 = .ok (.isub, 1) := by decide +kernel
theorem d_M_findOrder_79 : decode (tm_c 38) 79 = .ok (.iaload, 1) := by decide +kernel
theorem d_M_findOrder_80 : decode (tm_c 38) 80 = .ok (.iastore, 1) := by decide +kernel
theorem d_M_findOrder_81 : decode (tm_c 38) 81 = .ok (.iinc 4 (-1), 3) := by decide +kernel
theorem d_M_findOrder_84 : decode (tm_c 38) 84 = .ok (.goto (-41), 3) := by decide +kernel
theorem d_M_findOrder_87 : decode (tm_c 38) 87 = .ok (.aload_n 0, 1) := by decide +kernel
theorem d_M_findOrder_88 : decode (tm_c 38) 88 = .ok (.getfield 60, 3) := by decide +kernel
theorem d_M_findOrder_91 : decode (tm_c 38) 91 = .ok (.iload 4, 2) := by decide +kernel
theorem d_M_findOrder_93 : decode (tm_c 38) 93 = .ok (.iload_n 3, 1) := by decide +kernel
theorem d_M_findOrder_94 : decode (tm_c 38) 94 = .ok (.iastore, 1) := by decide +kernel
theorem d_M_findOrder_95 : decode (tm_c 38) 95 = .ok (.aload_n 0, 1) := by decide +kernel
theorem d_M_findOrder_96 : decode (tm_c 38) 96 = .ok (.dup, 1) := by decide +kernel
theorem d_M_findOrder_97 : decode (tm_c 38) 97 = .ok (.getfield 88, 3) := by decide +kernel
theorem d_M_findOrder_100 : decode (tm_c 38) 100 = .ok (.iconst (1), 1) := by decide +kernel
theorem d_M_findOrder_101 : decode (tm_c 38) 101 = .ok (.iadd, 1) := by decide +kernel
theorem d_M_findOrder_102 : decode (tm_c 38) 102 = .ok (.putfield 88, 3) := by decide +kernel
theorem d_M_findOrder_105 : decode (tm_c 38) 105 = .ok (.iinc 3 (1), 3) := by decide +kernel
theorem d_M_findOrder_108 : decode (tm_c 38) 108 = .ok (.goto (-101), 3) := by decide +kernel
theorem d_M_findOrder_111 : decode (tm_c 38) 111 = .ok (.return_, 1) := by decide +kernel
theorem g_M_findOrder_0 : jSnd 38 0 (o_aload 1 0) := snd_aload_n d_M_findOrder_0 rfl
theorem g_M_findOrder_1 : jSnd 38 1 (o_push 2 (0)) := snd_iconst (n := 0) (z := 0) d_M_findOrder_1 (by decide) (by unfold jrg; omega)
theorem g_M_findOrder_2 : jSnd 38 2 (o_putI 5 14 (20)) := snd_putI (ci := 4) (k := 20) d_M_findOrder_2 rfl tm_in4 tm_D4 tm_ty4 tm_nm4 (by decide) wd_309 rfl rfl rfl
theorem g_M_findOrder_5 : jSnd 38 5 (o_push 6 (1)) := snd_iconst (n := 1) (z := 1) d_M_findOrder_5 (by decide) (by unfold jrg; omega)
theorem g_M_findOrder_6 : jSnd 38 6 (o_istore 7 3) := snd_istore_n d_M_findOrder_6 rfl (by decide)
theorem g_M_findOrder_7 : jSnd 38 7 (o_iload 8 3) := snd_iload_n d_M_findOrder_7 rfl
theorem g_M_findOrder_8 : jSnd 38 8 (o_aload 9 0) := snd_aload_n d_M_findOrder_8 rfl
theorem g_M_findOrder_9 : jSnd 38 9 (o_getI 12 14 (1)) := snd_getI (ci := 4) (k := 1) d_M_findOrder_9 rfl tm_in4 (by decide) wd_305 rfl
theorem g_M_findOrder_12 : jSnd 38 12 (o_ic_gt 15 111) := snd_ic_gt d_M_findOrder_12 (by decide)
theorem g_M_findOrder_15 : jSnd 38 15 (o_aload 16 0) := snd_aload_n d_M_findOrder_15 rfl
theorem g_M_findOrder_16 : jSnd 38 16 (o_getR 19 14 (2)) := snd_getR (ci := 4) (k := 2) d_M_findOrder_16 rfl tm_in4 (by decide) wd_282 rfl
theorem g_M_findOrder_19 : jSnd 38 19 (o_iload 20 3) := snd_iload_n d_M_findOrder_19 rfl
theorem g_M_findOrder_20 : jSnd 38 20 (o_nald 21 1) := snd_iald d_M_findOrder_20
theorem g_M_findOrder_21 : jSnd 38 21 (o_iload 22 2) := snd_iload_n d_M_findOrder_21 rfl
theorem g_M_findOrder_22 : jSnd 38 22 (o_ic_ne 25 105) := snd_ic_ne d_M_findOrder_22 (by decide)
theorem g_M_findOrder_25 : jSnd 38 25 (o_aload 26 0) := snd_aload_n d_M_findOrder_25 rfl
theorem g_M_findOrder_26 : jSnd 38 26 (o_iload 27 1) := snd_iload_n d_M_findOrder_26 rfl
theorem g_M_findOrder_27 : jSnd 38 27 (o_iload 28 3) := snd_iload_n d_M_findOrder_27 rfl
theorem g_M_findOrder_28 : jSnd 38 28 (o_call 31 35 3 3 14 false) := snd_callV (ci := 4) (n := 2) rfl d_M_findOrder_28 (by decide) (by decide) (by decide) wc_35 wd_306 wd_307 wd_308 wd_7 (by decide +kernel) (by decide) (by decide)
theorem g_M_findOrder_31 : jSnd 38 31 (o_if_ne 34 37) := snd_if_ne d_M_findOrder_31 (by decide)
theorem g_M_findOrder_34 : jSnd 38 34 (o_goto 105) := snd_goto d_M_findOrder_34 (by decide)
theorem g_M_findOrder_37 : jSnd 38 37 (o_aload 38 0) := snd_aload_n d_M_findOrder_37 rfl
theorem g_M_findOrder_38 : jSnd 38 38 (o_getI 41 14 (20)) := snd_getI (ci := 4) (k := 20) d_M_findOrder_38 rfl tm_in4 (by decide) wd_309 rfl
theorem g_M_findOrder_41 : jSnd 38 41 (o_istore 43 4) := snd_istore d_M_findOrder_41 (by decide)
theorem g_M_findOrder_43 : jSnd 38 43 (o_iload 45 4) := snd_iload d_M_findOrder_43
theorem g_M_findOrder_45 : jSnd 38 45 (o_if_le 48 87) := snd_if_le d_M_findOrder_45 (by decide)
theorem g_M_findOrder_48 : jSnd 38 48 (o_aload 49 0) := snd_aload_n d_M_findOrder_48 rfl
theorem g_M_findOrder_49 : jSnd 38 49 (o_iload 50 3) := snd_iload_n d_M_findOrder_49 rfl
theorem g_M_findOrder_50 : jSnd 38 50 (o_aload 51 0) := snd_aload_n d_M_findOrder_50 rfl
theorem g_M_findOrder_51 : jSnd 38 51 (o_getR 54 14 (21)) := snd_getR (ci := 4) (k := 21) d_M_findOrder_51 rfl tm_in4 (by decide) wd_299 rfl
theorem g_M_findOrder_54 : jSnd 38 54 (o_iload 56 4) := snd_iload d_M_findOrder_54
theorem g_M_findOrder_56 : jSnd 38 56 (o_push 57 (1)) := snd_iconst (n := 1) (z := 1) d_M_findOrder_56 (by decide) (by unfold jrg; omega)
theorem g_M_findOrder_57 : jSnd 38 57 (o_bin 58 f_sub) := snd_isub d_M_findOrder_57
theorem g_M_findOrder_58 : jSnd 38 58 (o_nald 59 1) := snd_iald d_M_findOrder_58
theorem g_M_findOrder_59 : jSnd 38 59 (o_call 62 36 3 3 14 false) := snd_callV (ci := 4) (n := 2) rfl d_M_findOrder_59 (by decide) (by decide) (by decide) wc_36 wd_310 wd_311 wd_312 wd_7 (by decide +kernel) (by decide) (by decide)
theorem g_M_findOrder_62 : jSnd 38 62 (o_if_eq 65 87) := snd_if_eq d_M_findOrder_62 (by decide)
theorem g_M_findOrder_65 : jSnd 38 65 (o_aload 66 0) := snd_aload_n d_M_findOrder_65 rfl
theorem g_M_findOrder_66 : jSnd 38 66 (o_getR 69 14 (21)) := snd_getR (ci := 4) (k := 21) d_M_findOrder_66 rfl tm_in4 (by decide) wd_299 rfl
theorem g_M_findOrder_69 : jSnd 38 69 (o_iload 71 4) := snd_iload d_M_findOrder_69
theorem g_M_findOrder_71 : jSnd 38 71 (o_aload 72 0) := snd_aload_n d_M_findOrder_71 rfl
theorem g_M_findOrder_72 : jSnd 38 72 (o_getR 75 14 (21)) := snd_getR (ci := 4) (k := 21) d_M_findOrder_72 rfl tm_in4 (by decide) wd_299 rfl
theorem g_M_findOrder_75 : jSnd 38 75 (o_iload 77 4) := snd_iload d_M_findOrder_75
theorem g_M_findOrder_77 : jSnd 38 77 (o_push 78 (1)) := snd_iconst (n := 1) (z := 1) d_M_findOrder_77 (by decide) (by unfold jrg; omega)
theorem g_M_findOrder_78 : jSnd 38 78 (o_bin 79 f_sub) := snd_isub d_M_findOrder_78
theorem g_M_findOrder_79 : jSnd 38 79 (o_nald 80 1) := snd_iald d_M_findOrder_79
theorem g_M_findOrder_80 : jSnd 38 80 (o_iast 81) := snd_iast d_M_findOrder_80
theorem g_M_findOrder_81 : jSnd 38 81 (o_iinc 84 4 (-1)) := snd_iinc d_M_findOrder_81 (by decide)
theorem g_M_findOrder_84 : jSnd 38 84 (o_goto 43) := snd_goto d_M_findOrder_84 (by decide)
theorem g_M_findOrder_87 : jSnd 38 87 (o_aload 88 0) := snd_aload_n d_M_findOrder_87 rfl
theorem g_M_findOrder_88 : jSnd 38 88 (o_getR 91 14 (21)) := snd_getR (ci := 4) (k := 21) d_M_findOrder_88 rfl tm_in4 (by decide) wd_299 rfl
theorem g_M_findOrder_91 : jSnd 38 91 (o_iload 93 4) := snd_iload d_M_findOrder_91
theorem g_M_findOrder_93 : jSnd 38 93 (o_iload 94 3) := snd_iload_n d_M_findOrder_93 rfl
theorem g_M_findOrder_94 : jSnd 38 94 (o_iast 95) := snd_iast d_M_findOrder_94
theorem g_M_findOrder_95 : jSnd 38 95 (o_aload 96 0) := snd_aload_n d_M_findOrder_95 rfl
theorem g_M_findOrder_96 : jSnd 38 96 (o_dup 97) := snd_dup d_M_findOrder_96
theorem g_M_findOrder_97 : jSnd 38 97 (o_getI 100 14 (20)) := snd_getI (ci := 4) (k := 20) d_M_findOrder_97 rfl tm_in4 (by decide) wd_309 rfl
theorem g_M_findOrder_100 : jSnd 38 100 (o_push 101 (1)) := snd_iconst (n := 1) (z := 1) d_M_findOrder_100 (by decide) (by unfold jrg; omega)
theorem g_M_findOrder_101 : jSnd 38 101 (o_bin 102 f_add) := snd_iadd d_M_findOrder_101
theorem g_M_findOrder_102 : jSnd 38 102 (o_putI 105 14 (20)) := snd_putI (ci := 4) (k := 20) d_M_findOrder_102 rfl tm_in4 tm_D4 tm_ty4 tm_nm4 (by decide) wd_309 rfl rfl rfl
theorem g_M_findOrder_105 : jSnd 38 105 (o_iinc 108 3 (1)) := snd_iinc d_M_findOrder_105 (by decide)
theorem g_M_findOrder_108 : jSnd 38 108 (o_goto 7) := snd_goto d_M_findOrder_108 (by decide)
theorem g_M_findOrder_111 : jSnd 38 111 (o_vret) := snd_vret d_M_findOrder_111 rfl
set_option maxRecDepth 100000 in
theorem ga_M_findOrder : jAll 38 0 tmp_M_findOrder := ⟨g_M_findOrder_0, g_M_findOrder_1, g_M_findOrder_2, snd_bad _ _, snd_bad _ _, g_M_findOrder_5, g_M_findOrder_6, g_M_findOrder_7, g_M_findOrder_8, g_M_findOrder_9, snd_bad _ _, snd_bad _ _, g_M_findOrder_12, snd_bad _ _, snd_bad _ _, g_M_findOrder_15, g_M_findOrder_16, snd_bad _ _, snd_bad _ _, g_M_findOrder_19, g_M_findOrder_20, g_M_findOrder_21, g_M_findOrder_22, snd_bad _ _, snd_bad _ _, g_M_findOrder_25, g_M_findOrder_26, g_M_findOrder_27, g_M_findOrder_28, snd_bad _ _, snd_bad _ _, g_M_findOrder_31, snd_bad _ _, snd_bad _ _, g_M_findOrder_34, snd_bad _ _, snd_bad _ _, g_M_findOrder_37, g_M_findOrder_38, snd_bad _ _, snd_bad _ _, g_M_findOrder_41, snd_bad _ _, g_M_findOrder_43, snd_bad _ _, g_M_findOrder_45, snd_bad _ _, snd_bad _ _, g_M_findOrder_48, g_M_findOrder_49, g_M_findOrder_50, g_M_findOrder_51, snd_bad _ _, snd_bad _ _, g_M_findOrder_54, snd_bad _ _, g_M_findOrder_56, g_M_findOrder_57, g_M_findOrder_58, g_M_findOrder_59, snd_bad _ _, snd_bad _ _, g_M_findOrder_62, snd_bad _ _, snd_bad _ _, g_M_findOrder_65, g_M_findOrder_66, snd_bad _ _, snd_bad _ _, g_M_findOrder_69, snd_bad _ _, g_M_findOrder_71, g_M_findOrder_72, snd_bad _ _, snd_bad _ _, g_M_findOrder_75, snd_bad _ _, g_M_findOrder_77, g_M_findOrder_78, g_M_findOrder_79, g_M_findOrder_80, g_M_findOrder_81, snd_bad _ _, snd_bad _ _, g_M_findOrder_84, snd_bad _ _, snd_bad _ _, g_M_findOrder_87, g_M_findOrder_88, snd_bad _ _, snd_bad _ _, g_M_findOrder_91, snd_bad _ _, g_M_findOrder_93, g_M_findOrder_94, g_M_findOrder_95, g_M_findOrder_96, g_M_findOrder_97, snd_bad _ _, snd_bad _ _, g_M_findOrder_100, g_M_findOrder_101, g_M_findOrder_102, snd_bad _ _, snd_bad _ _, g_M_findOrder_105, snd_bad _ _, snd_bad _ _, g_M_findOrder_108, snd_bad _ _, snd_bad _ _, g_M_findOrder_111, trivial⟩
