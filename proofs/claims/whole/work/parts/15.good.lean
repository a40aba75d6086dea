theorem d_V_paragraphCount_0 : decode (tm_c 120) 0 = .ok (.iconst (1), 1) := by decide +kernel
theorem d_V_paragraphCount_1 : decode (tm_c 120) 1 = .ok (.istore_n 1, 1) := by decide +kernel
theorem d_V_paragraphCount_2 : decode (tm_c 120) 2 = .ok (.iconst (0), 1) := by decide +kernel
theorem d_V_paragraphCount_3 : decode (tm_c 120) 3 = .ok (.istore_n 2, 1) := by decide +kernel
theorem d_V_paragraphCount_4 : decode (tm_c 120) 4 = .ok (.iload_n 2, 1) := by decide +kernel
theorem d_V_paragraphCount_5 : decode (tm_c 120) 5 = .ok (.aload_n 0, 1) := by decide +kernel
theorem d_V_paragraphCount_6 : decode (tm_c 120) 6 = .ok (.getfield 38, 3) := by decide +kernel
theorem d_V_paragraphCount_9 : decode (tm_c 120) 9 = .ok (.if_icmp .ge (23), 3) := by decide +kernel
theorem d_V_paragraphCount_12 : decode (tm_c 120) 12 = .ok (.aload_n 0, 1) := by decide +kernel
theorem d_V_paragraphCount_13 : decode (tm_c 120) 13 = .ok (.getfield 15, 3) := by decide +kernel
theorem d_V_paragraphCount_16 : decode (tm_c 120) 16 = .ok (.iload_n 2, 1) := by decide +kernel
theorem d_V_paragraphCount_17 : decode (tm_c 120) 17 = .ok (.iaload, 1) := by decide +kernel
theorem d_V_paragraphCount_18 : decode (tm_c 120) 18 = .ok (.bipush (10), 2) := by decide +kernel
theorem d_V_paragraphCount_20 : decode (tm_c 120) 20 = .ok (.if_icmp .ne (6), 3) := by decide +kernel
theorem d_V_paragraphCount_23 : decode (tm_c 120) 23 = .ok (.iinc 1 (1), 3) := by decide +kernel
theorem d_V_paragraphCount_26 : decode (tm_c 120) 26 = .ok (.iinc 2 (1), 3) := by decide +kernel
theorem d_V_paragraphCount_29 : decode (tm_c 120) 29 = .ok (.goto (-25), 3) := by decide +kernel
theorem d_V_paragraphCount_32 : decode (tm_c 120) 32 = .ok (.iload_n 1, 1) := by decide +kernel
theorem d_V_paragraphCount_33 : decode (tm_c 120) 33 = .ok (.ireturn, 1) := by decide +kernel
theorem g_V_paragraphCount_0 : jSnd 120 0 (o_push 1 (1)) := snd_iconst (n := 1) (z := 1) d_V_paragraphCount_0 (by decide) (by unfold jrg; omega)
theorem g_V_paragraphCount_1 : jSnd 120 1 (o_istore 2 1) := snd_istore_n d_V_paragraphCount_1 rfl (by decide)
theorem g_V_paragraphCount_2 : jSnd 120 2 (o_push 3 (0)) := snd_iconst (n := 0) (z := 0) d_V_paragraphCount_2 (by decide) (by unfold jrg; omega)
theorem g_V_paragraphCount_3 : jSnd 120 3 (o_istore 4 2) := snd_istore_n d_V_paragraphCount_3 rfl (by decide)
theorem g_V_paragraphCount_4 : jSnd 120 4 (o_iload 5 2) := snd_iload_n d_V_paragraphCount_4 rfl
theorem g_V_paragraphCount_5 : jSnd 120 5 (o_aload 6 0) := snd_aload_n d_V_paragraphCount_5 rfl
theorem g_V_paragraphCount_6 : jSnd 120 6 (o_getI 9 12 (0)) := snd_getI (ci := 2) (k := 0) d_V_paragraphCount_6 rfl tm_in2 (by decide) wd_433 rfl
theorem g_V_paragraphCount_9 : jSnd 120 9 (o_ic_ge 12 32) := snd_ic_ge d_V_paragraphCount_9 (by decide)
theorem g_V_paragraphCount_12 : jSnd 120 12 (o_aload 13 0) := snd_aload_n d_V_paragraphCount_12 rfl
theorem g_V_paragraphCount_13 : jSnd 120 13 (o_getR 16 12 (2)) := snd_getR (ci := 2) (k := 2) d_V_paragraphCount_13 rfl tm_in2 (by decide) wd_424 rfl
theorem g_V_paragraphCount_16 : jSnd 120 16 (o_iload 17 2) := snd_iload_n d_V_paragraphCount_16 rfl
theorem g_V_paragraphCount_17 : jSnd 120 17 (o_nald 18 1) := snd_iald d_V_paragraphCount_17
theorem g_V_paragraphCount_18 : jSnd 120 18 (o_push 20 (10)) := snd_bipush (n := 10) (z := 10) d_V_paragraphCount_18 (by decide) (by unfold jrg; omega)
theorem g_V_paragraphCount_20 : jSnd 120 20 (o_ic_ne 23 26) := snd_ic_ne d_V_paragraphCount_20 (by decide)
theorem g_V_paragraphCount_23 : jSnd 120 23 (o_iinc 26 1 (1)) := snd_iinc d_V_paragraphCount_23 (by decide)
theorem g_V_paragraphCount_26 : jSnd 120 26 (o_iinc 29 2 (1)) := snd_iinc d_V_paragraphCount_26 (by decide)
theorem g_V_paragraphCount_29 : jSnd 120 29 (o_goto 4) := snd_goto d_V_paragraphCount_29 (by decide)
theorem g_V_paragraphCount_32 : jSnd 120 32 (o_iload 33 1) := snd_iload_n d_V_paragraphCount_32 rfl
theorem g_V_paragraphCount_33 : jSnd 120 33 (o_iret) := snd_iret d_V_paragraphCount_33 rfl
set_option maxRecDepth 100000 in
theorem ga_V_paragraphCount : jAll 120 0 tmp_V_paragraphCount := ⟨g_V_paragraphCount_0, g_V_paragraphCount_1, g_V_paragraphCount_2, g_V_paragraphCount_3, g_V_paragraphCount_4, g_V_paragraphCount_5, g_V_paragraphCount_6, snd_bad _ _, snd_bad _ _, g_V_paragraphCount_9, snd_bad _ _, snd_bad _ _, g_V_paragraphCount_12, g_V_paragraphCount_13, snd_bad _ _, snd_bad _ _, g_V_paragraphCount_16, g_V_paragraphCount_17, g_V_paragraphCount_18, snd_bad _ _, g_V_paragraphCount_20, snd_bad _ _, snd_bad _ _, g_V_paragraphCount_23, snd_bad _ _, snd_bad _ _, g_V_paragraphCount_26, snd_bad _ _, snd_bad _ _, g_V_paragraphCount_29, snd_bad _ _, snd_bad _ _, g_V_paragraphCount_32, g_V_paragraphCount_33, trivial⟩
theorem d_V_paragraphStart_0 : decode (tm_c 121) 0 = .ok (.iload_n 1, 1) := by decide +kernel
theorem d_V_paragraphStart_1 : decode (tm_c 121) 1 = .ok (.ifCond .ne (5), 3) := by decide +kernel
theorem d_V_paragraphStart_4 : decode (tm_c 121) 4 = .ok (.iconst (0), 1) := by decide +kernel
theorem d_V_paragraphStart_5 : decode (tm_c 121) 5 = .ok (.ireturn, 1) := by decide +kernel
theorem d_V_paragraphStart_6 : decode (tm_c 121) 6 = .ok (.iconst (0), 1) := by decide +kernel
theorem d_V_paragraphStart_7 : decode (tm_c 121) 7 = .ok (.istore_n 2, 1) := by decide +kernel
theorem d_V_paragraphStart_8 : decode (tm_c 121) 8 = .ok (.iconst (0), 1) := by decide +kernel
theorem d_V_paragraphStart_9 : decode (tm_c 121) 9 = .ok (.istore_n 3, 1) := by decide +kernel
theorem d_V_paragraphStart_10 : decode (tm_c 121) 10 = .ok (.iload_n 3, 1) := by decide +kernel
theorem d_V_paragraphStart_11 : decode (tm_c 121) 11 = .ok (.aload_n 0, 1) := by decide +kernel
theorem d_V_paragraphStart_12 : decode (tm_c 121) 12 = .ok (.getfield 38, 3) := by decide +kernel
theorem d_V_paragraphStart_15 : decode (tm_c 121) 15 = .ok (.if_icmp .ge (32), 3) := by decide +kernel
theorem d_V_paragraphStart_18 : decode (tm_c 121) 18 = .ok (.aload_n 0, 1) := by decide +kernel
theorem d_V_paragraphStart_19 : decode (tm_c 121) 19 = .ok (.getfield 15, 3) := by decide +kernel
theorem d_V_paragraphStart_22 : decode (tm_c 121) 22 = .ok (.iload_n 3, 1) := by decide +kernel
theorem d_V_paragraphStart_23 : decode (tm_c 121) 23 = .ok (.iaload, 1) := by decide +kernel
theorem d_V_paragraphStart_24 : decode (tm_c 121) 24 = .ok (.bipush (10), 2) := by decide +kernel
theorem d_V_paragraphStart_26 : decode (tm_c 121) 26 = .ok (.if_icmp .ne (15), 3) := by decide +kernel
theorem d_V_paragraphStart_29 : decode (tm_c 121) 29 = .ok (.iinc 2 (1), 3) := by decide +kernel
theorem d_V_paragraphStart_32 : decode (tm_c 121) 32 = .ok (.iload_n 2, 1) := by decide +kernel
theorem d_V_paragraphStart_33 : decode (tm_c 121) 33 = .ok (.iload_n 1, 1) := by decide +kernel
theorem d_V_paragraphStart_34 : decode (tm_c 121) 34 = .ok (.if_icmp .ne (7), 3) := by decide +kernel
theorem d_V_paragraphStart_37 : decode (tm_c 121) 37 = .ok (.iload_n 3, 1) := by decide +kernel
theorem d_V_paragraphStart_38 : decode (tm_c 121) 38 = .ok (.iconst (1), 1) := by decide +kernel
theorem d_V_paragraphStart_39 : decode (tm_c 121) 39 = .ok (.iadd, 1) := by decide +kernel
theorem d_V_paragraphStart_40 : decode (tm_c 121) 40 = .ok (.ireturn, 1) := by decide +kernel
theorem d_V_paragraphStart_41 : decode (tm_c 121) 41 = .ok (.iinc 3 (1), 3) := by decide +kernel
theorem d_V_paragraphStart_44 : decode (tm_c 121) 44 = .ok (.goto (-34), 3) := by decide +kernel
theorem d_V_paragraphStart_47 : decode (tm_c 121) 47 = .ok (.iconst (-1), 1) := by decide +kernel
theorem d_V_paragraphStart_48 : decode (tm_c 121) 48 = .ok (.ireturn, 1) := by decide +kernel
theorem g_V_paragraphStart_0 : jSnd 121 0 (o_iload 1 1) := snd_iload_n d_V_paragraphStart_0 rfl
theorem g_V_paragraphStart_1 : jSnd 121 1 (o_if_ne 4 6) := snd_if_ne d_V_paragraphStart_1 (by decide)
theorem g_V_paragraphStart_4 : jSnd 121 4 (o_push 5 (0)) := snd_iconst (n := 0) (z := 0) d_V_paragraphStart_4 (by decide) (by unfold jrg; omega)
theorem g_V_paragraphStart_5 : jSnd 121 5 (o_iret) := snd_iret d_V_paragraphStart_5 rfl
theorem g_V_paragraphStart_6 : jSnd 121 6 (o_push 7 (0)) := snd_iconst (n := 0) (z := 0) d_V_paragraphStart_6 (by decide) (by unfold jrg; omega)
theorem g_V_paragraphStart_7 : jSnd 121 7 (o_istore 8 2) := snd_istore_n d_V_paragraphStart_7 rfl (by decide)
theorem g_V_paragraphStart_8 : jSnd 121 8 (o_push 9 (0)) := snd_iconst (n := 0) (z := 0) d_V_paragraphStart_8 (by decide) (by unfold jrg; omega)
theorem g_V_paragraphStart_9 : jSnd 121 9 (o_istore 10 3) := snd_istore_n d_V_paragraphStart_9 rfl (by decide)
theorem g_V_paragraphStart_10 : jSnd 121 10 (o_iload 11 3) := snd_iload_n d_V_paragraphStart_10 rfl
theorem g_V_paragraphStart_11 : jSnd 121 11 (o_aload 12 0) := snd_aload_n d_V_paragraphStart_11 rfl
theorem g_V_paragraphStart_12 : jSnd 121 12 (o_getI 15 12 (0)) := snd_getI (ci := 2) (k := 0) d_V_paragraphStart_12 rfl tm_in2 (by decide) wd_433 rfl
theorem g_V_paragraphStart_15 : jSnd 121 15 (o_ic_ge 18 47) := snd_ic_ge d_V_paragraphStart_15 (by decide)
theorem g_V_paragraphStart_18 : jSnd 121 18 (o_aload 19 0) := snd_aload_n d_V_paragraphStart_18 rfl
theorem g_V_paragraphStart_19 : jSnd 121 19 (o_getR 22 12 (2)) := snd_getR (ci := 2) (k := 2) d_V_paragraphStart_19 rfl tm_in2 (by decide) wd_424 rfl
theorem g_V_paragraphStart_22 : jSnd 121 22 (o_iload 23 3) := snd_iload_n d_V_paragraphStart_22 rfl
theorem g_V_paragraphStart_23 : jSnd 121 23 (o_nald 24 1) := snd_iald d_V_paragraphStart_23
theorem g_V_paragraphStart_24 : jSnd 121 24 (o_push 26 (10)) := snd_bipush (n := 10) (z := 10) d_V_paragraphStart_24 (by decide) (by unfold jrg; omega)
theorem g_V_paragraphStart_26 : jSnd 121 26 (o_ic_ne 29 41) := snd_ic_ne d_V_paragraphStart_26 (by decide)
theorem g_V_paragraphStart_29 : jSnd 121 29 (o_iinc 32 2 (1)) := snd_iinc d_V_paragraphStart_29 (by decide)
theorem g_V_paragraphStart_32 : jSnd 121 32 (o_iload 33 2) := snd_iload_n d_V_paragraphStart_32 rfl
theorem g_V_paragraphStart_33 : jSnd 121 33 (o_iload 34 1) := snd_iload_n d_V_paragraphStart_33 rfl
theorem g_V_paragraphStart_34 : jSnd 121 34 (o_ic_ne 37 41) := snd_ic_ne d_V_paragraphStart_34 (by decide)
theorem g_V_paragraphStart_37 : jSnd 121 37 (o_iload 38 3) := snd_iload_n d_V_paragraphStart_37 rfl
theorem g_V_paragraphStart_38 : jSnd 121 38 (o_push 39 (1)) := snd_iconst (n := 1) (z := 1) d_V_paragraphStart_38 (by decide) (by unfold jrg; omega)
theorem g_V_paragraphStart_39 : jSnd 121 39 (o_bin 40 f_add) := snd_iadd d_V_paragraphStart_39
theorem g_V_paragraphStart_40 : jSnd 121 40 (o_iret) := snd_iret d_V_paragraphStart_40 rfl
theorem g_V_paragraphStart_41 : jSnd 121 41 (o_iinc 44 3 (1)) := snd_iinc d_V_paragraphStart_41 (by decide)
theorem g_V_paragraphStart_44 : jSnd 121 44 (o_goto 10) := snd_goto d_V_paragraphStart_44 (by decide)
theorem g_V_paragraphStart_47 : jSnd 121 47 (o_push 48 (-1)) := snd_iconst (n := -1) (z := -1) d_V_paragraphStart_47 (by decide) (by unfold jrg; omega)
theorem g_V_paragraphStart_48 : jSnd 121 48 (o_iret) := snd_iret d_V_paragraphStart_48 rfl
set_option maxRecDepth 100000 in
theorem ga_V_paragraphStart : jAll 121 0 tmp_V_paragraphStart := ⟨g_V_paragraphStart_0, g_V_paragraphStart_1, snd_bad _ _, snd_bad _ _, g_V_paragraphStart_4, g_V_paragraphStart_5, g_V_paragraphStart_6, g_V_paragraphStart_7, g_V_paragraphStart_8, g_V_paragraphStart_9, g_V_paragraphStart_10, g_V_paragraphStart_11, g_V_paragraphStart_12, snd_bad _ _, snd_bad _ _, g_V_paragraphStart_15, snd_bad _ _, snd_bad _ _, g_V_paragraphStart_18, g_V_paragraphStart_19, snd_bad _ _, snd_bad _ _, g_V_paragraphStart_22, g_V_paragraphStart_23, g_V_paragraphStart_24, snd_bad _ _, g_V_paragraphStart_26, snd_bad _ _, snd_bad _ _, g_V_paragraphStart_29, snd_bad _ _, snd_bad _ _, g_V_paragraphStart_32, g_V_paragraphStart_33, g_V_paragraphStart_34, snd_bad _ _, snd_bad _ _, g_V_paragraphStart_37, g_V_paragraphStart_38, g_V_paragraphStart_39, g_V_paragraphStart_40, g_V_paragraphStart_41, snd_bad _ _, snd_bad _ _, g_V_paragraphStart_44, snd_bad _ _, snd_bad _ _, g_V_paragraphStart_47, g_V_paragraphStart_48, trivial⟩
theorem d_V_paragraphEnd_0 : decode (tm_c 122) 0 = .ok (.iload_n 1, 1) := by decide +kernel
theorem d_V_paragraphEnd_1 : decode (tm_c 122) 1 = .ok (.istore_n 2, 1) := by decide +kernel
theorem d_V_paragraphEnd_2 : decode (tm_c 122) 2 = .ok (.iload_n 2, 1) := by decide +kernel
theorem d_V_paragraphEnd_3 : decode (tm_c 122) 3 = .ok (.aload_n 0, 1) := by decide +kernel
theorem d_V_paragraphEnd_4 : decode (tm_c 122) 4 = .ok (.getfield 38, 3) := by decide +kernel
theorem d_V_paragraphEnd_7 : decode (tm_c 122) 7 = .ok (.if_icmp .ge (20), 3) := by decide +kernel
theorem d_V_paragraphEnd_10 : decode (tm_c 122) 10 = .ok (.aload_n 0, 1) := by decide +kernel
theorem d_V_paragraphEnd_11 : decode (tm_c 122) 11 = .ok (.getfield 15, 3) := by decide +kernel
theorem d_V_paragraphEnd_14 : decode (tm_c 122) 14 = .ok (.iload_n 2, 1) := by decide +kernel
theorem d_V_paragraphEnd_15 : decode (tm_c 122) 15 = .ok (.iaload, 1) := by decide +kernel
theorem d_V_paragraphEnd_16 : decode (tm_c 122) 16 = .ok (.bipush (10), 2) := by decide +kernel
theorem d_V_paragraphEnd_18 : decode (tm_c 122) 18 = .ok (.if_icmp .eq (9), 3) := by decide +kernel
theorem d_V_paragraphEnd_21 : decode (tm_c 122) 21 = .ok (.iinc 2 (1), 3) := by decide +kernel
theorem d_V_paragraphEnd_24 : decode (tm_c 122) 24 = .ok (.goto (-22), 3) := by decide +kernel
theorem d_V_paragraphEnd_27 : decode (tm_c 122) 27 = .ok (.iload_n 2, 1) := by decide +kernel
theorem d_V_paragraphEnd_28 : decode (tm_c 122) 28 = .ok (.ireturn, 1) := by decide +kernel
theorem g_V_paragraphEnd_0 : jSnd 122 0 (o_iload 1 1) := snd_iload_n d_V_paragraphEnd_0 rfl
theorem g_V_paragraphEnd_1 : jSnd 122 1 (o_istore 2 2) := snd_istore_n d_V_paragraphEnd_1 rfl (by decide)
theorem g_V_paragraphEnd_2 : jSnd 122 2 (o_iload 3 2) := snd_iload_n d_V_paragraphEnd_2 rfl
theorem g_V_paragraphEnd_3 : jSnd 122 3 (o_aload 4 0) := snd_aload_n d_V_paragraphEnd_3 rfl
theorem g_V_paragraphEnd_4 : jSnd 122 4 (o_getI 7 12 (0)) := snd_getI (ci := 2) (k := 0) d_V_paragraphEnd_4 rfl tm_in2 (by decide) wd_433 rfl
theorem g_V_paragraphEnd_7 : jSnd 122 7 (o_ic_ge 10 27) := snd_ic_ge d_V_paragraphEnd_7 (by decide)
theorem g_V_paragraphEnd_10 : jSnd 122 10 (o_aload 11 0) := snd_aload_n d_V_paragraphEnd_10 rfl
theorem g_V_paragraphEnd_11 : jSnd 122 11 (o_getR 14 12 (2)) := snd_getR (ci := 2) (k := 2) d_V_paragraphEnd_11 rfl tm_in2 (by decide) wd_424 rfl
theorem g_V_paragraphEnd_14 : jSnd 122 14 (o_iload 15 2) := snd_iload_n d_V_paragraphEnd_14 rfl
theorem g_V_paragraphEnd_15 : jSnd 122 15 (o_nald 16 1) := snd_iald d_V_paragraphEnd_15
theorem g_V_paragraphEnd_16 : jSnd 122 16 (o_push 18 (10)) := snd_bipush (n := 10) (z := 10) d_V_paragraphEnd_16 (by decide) (by unfold jrg; omega)
theorem g_V_paragraphEnd_18 : jSnd 122 18 (o_ic_eq 21 27) := snd_ic_eq d_V_paragraphEnd_18 (by decide)
theorem g_V_paragraphEnd_21 : jSnd 122 21 (o_iinc 24 2 (1)) := snd_iinc d_V_paragraphEnd_21 (by decide)
theorem g_V_paragraphEnd_24 : jSnd 122 24 (o_goto 2) := snd_goto d_V_paragraphEnd_24 (by decide)
theorem g_V_paragraphEnd_27 : jSnd 122 27 (o_iload 28 2) := snd_iload_n d_V_paragraphEnd_27 rfl
theorem g_V_paragraphEnd_28 : jSnd 122 28 (o_iret) := snd_iret d_V_paragraphEnd_28 rfl
set_option maxRecDepth 100000 in
theorem ga_V_paragraphEnd : jAll 122 0 tmp_V_paragraphEnd := ⟨g_V_paragraphEnd_0, g_V_paragraphEnd_1, g_V_paragraphEnd_2, g_V_paragraphEnd_3, g_V_paragraphEnd_4, snd_bad _ _, snd_bad _ _, g_V_paragraphEnd_7, snd_bad _ _, snd_bad _ _, g_V_paragraphEnd_10, g_V_paragraphEnd_11, snd_bad _ _, snd_bad _ _, g_V_paragraphEnd_14, g_V_paragraphEnd_15, g_V_paragraphEnd_16, snd_bad _ _, g_V_paragraphEnd_18, snd_bad _ _, snd_bad _ _, g_V_paragraphEnd_21, snd_bad _ _, snd_bad _ _, g_V_paragraphEnd_24, snd_bad _ _, snd_bad _ _, g_V_paragraphEnd_27, g_V_paragraphEnd_28, trivial⟩
theorem d_V_tellKinds_0 : decode (tm_c 123) 0 = .ok (.iconst (0), 1) := by decide +kernel
theorem d_V_tellKinds_1 : decode (tm_c 123) 1 = .ok (.istore_n 2, 1) := by decide +kernel
theorem d_V_tellKinds_2 : decode (tm_c 123) 2 = .ok (.iload_n 2, 1) := by decide +kernel
theorem d_V_tellKinds_3 : decode (tm_c 123) 3 = .ok (.aload_n 0, 1) := by decide +kernel
theorem d_V_tellKinds_4 : decode (tm_c 123) 4 = .ok (.getfield 31, 3) := by decide +kernel
theorem d_V_tellKinds_7 : decode (tm_c 123) 7 = .ok (.arraylength, 1) := by decide +kernel
theorem d_V_tellKinds_8 : decode (tm_c 123) 8 = .ok (.if_icmp .ge (16), 3) := by decide +kernel
theorem d_V_tellKinds_11 : decode (tm_c 123) 11 = .ok (.aload_n 0, 1) := by decide +kernel
theorem d_V_tellKinds_12 : decode (tm_c 123) 12 = .ok (.getfield 31, 3) := by decide +kernel
theorem d_V_tellKinds_15 : decode (tm_c 123) 15 = .ok (.iload_n 2, 1) := by decide +kernel
theorem d_V_tellKinds_16 : decode (tm_c 123) 16 = .ok (.iconst (0), 1) := by decide +kernel
theorem d_V_tellKinds_17 : decode (tm_c 123) 17 = .ok (.iastore, 1) := by decide +kernel
theorem d_V_tellKinds_18 : decode (tm_c 123) 18 = .ok (.iinc 2 (1), 3) := by decide +kernel
theorem d_V_tellKinds_21 : decode (tm_c 123) 21 = .ok (.goto (-19), 3) := by decide +kernel
theorem d_V_tellKinds_24 : decode (tm_c 123) 24 = .ok (.iconst (0), 1) := by decide +kernel
theorem d_V_tellKinds_25 : decode (tm_c 123) 25 = .ok (.istore_n 2, 1) := by decide +kernel
theorem d_V_tellKinds_26 : decode (tm_c 123) 26 = .ok (.iload_n 2, 1) := by decide +kernel
theorem d_V_tellKinds_27 : decode (tm_c 123) 27 = .ok (.aload_n 1, 1) := by decide +kernel
theorem d_V_tellKinds_28 : decode (tm_c 123) 28 = .ok (.invokevirtual 56, 3) := by decide +kernel
theorem d_V_tellKinds_31 : decode (tm_c 123) 31 = .ok (.if_icmp .ge (49), 3) := by decide +kernel
theorem d_V_tellKinds_34 : decode (tm_c 123) 34 = .ok (.aload_n 1, 1) := by decide +kernel
theorem d_V_tellKinds_35 : decode (tm_c 123) 35 = .ok (.iload_n 2, 1) := by decide +kernel
theorem d_V_tellKinds_36 : decode (tm_c 123) 36 = .ok (.invokevirtual 87, 3) := by decide +kernel
theorem d_V_tellKinds_39 : decode (tm_c 123) 39 = .ok (.istore_n 3, 1) := by decide +kernel
theorem d_V_tellKinds_40 : decode (tm_c 123) 40 = .ok (.aload_n 0, 1) := by decide +kernel
theorem d_V_tellKinds_41 : decode (tm_c 123) 41 = .ok (.iload_n 3, 1) := by decide +kernel
theorem d_V_tellKinds_42 : decode (tm_c 123) 42 = .ok (.invokevirtual 90, 3) := by decide +kernel
theorem d_V_tellKinds_45 : decode (tm_c 123) 45 = .ok (.ifCond .eq (29), 3) := by decide +kernel
theorem d_V_tellKinds_48 : decode (tm_c 123) 48 = .ok (.aload_n 1, 1) := by decide +kernel
theorem d_V_tellKinds_49 : decode (tm_c 123) 49 = .ok (.iload_n 3, 1) := by decide +kernel
theorem d_V_tellKinds_50 : decode (tm_c 123) 50 = .ok (.iconst (0), 1) := by decide +kernel
theorem d_V_tellKinds_51 : decode (tm_c 123) 51 = .ok (.invokevirtual 52, 3) := by decide +kernel
theorem d_V_tellKinds_54 : decode (tm_c 123) 54 = .ok (.iconst (4), 1) := by decide +kernel
theorem d_V_tellKinds_55 : decode (tm_c 123) 55 = .ok (.if_icmp .ne (19), 3) := by decide +kernel
theorem d_V_tellKinds_58 : decode (tm_c 123) 58 = .ok (.aload_n 0, 1) := by decide +kernel
theorem d_V_tellKinds_59 : decode (tm_c 123) 59 = .ok (.aload_n 1, 1) := by decide +kernel
theorem d_V_tellKinds_60 : decode (tm_c 123) 60 = .ok (.iload_n 3, 1) := by decide +kernel
theorem d_V_tellKinds_61 : decode (tm_c 123) 61 = .ok (.iconst (5), 1) := by decide +kernel
theorem d_V_tellKinds_62 : decode (tm_c 123) 62 = .ok (.invokevirtual 52, 3) := by decide +kernel
theorem d_V_tellKinds_65 : decode (tm_c 123) 65 = .ok (.aload_n 1, 1) := by decide +kernel
theorem d_V_tellKinds_66 : decode (tm_c 123) 66 = .ok (.iload_n 3, 1) := by decide +kernel
theorem d_V_tellKinds_67 : decode (tm_c 123) 67 = .ok (.iconst (3), 1) := by decide +kernel
theorem d_V_tellKinds_68 : decode (tm_c 123) 68 = .ok (.invokevirtual 52, 3) := by decide +kernel
theorem d_V_tellKinds_71 : decode (tm_c 123) 71 = .ok (.invokevirtual 109, 3) := by decide +kernel
theorem d_V_tellKinds_74 : decode (tm_c 123) 74 = .ok (.iinc 2 (1), 3) := by decide +kernel
theorem d_V_tellKinds_77 : decode (tm_c 123) 77 = .ok (.goto (-51), 3) := by decide +kernel
theorem d_V_tellKinds_80 : decode (tm_c 123) 80 = .ok (.return_, 1) := by decide +kernel
theorem g_V_tellKinds_0 : jSnd 123 0 (o_push 1 (0)) := snd_iconst (n := 0) (z := 0) d_V_tellKinds_0 (by decide) (by unfold jrg; omega)
theorem g_V_tellKinds_1 : jSnd 123 1 (o_istore 2 2) := snd_istore_n d_V_tellKinds_1 rfl (by decide)
theorem g_V_tellKinds_2 : jSnd 123 2 (o_iload 3 2) := snd_iload_n d_V_tellKinds_2 rfl
theorem g_V_tellKinds_3 : jSnd 123 3 (o_aload 4 0) := snd_aload_n d_V_tellKinds_3 rfl
theorem g_V_tellKinds_4 : jSnd 123 4 (o_getR 7 12 (7)) := snd_getR (ci := 2) (k := 7) d_V_tellKinds_4 rfl tm_in2 (by decide) wd_429 rfl
theorem g_V_tellKinds_7 : jSnd 123 7 (o_alen 8 1) := snd_alen (t0 := 0) d_V_tellKinds_7 (by decide) (by decide) rfl
theorem g_V_tellKinds_8 : jSnd 123 8 (o_ic_ge 11 24) := snd_ic_ge d_V_tellKinds_8 (by decide)
theorem g_V_tellKinds_11 : jSnd 123 11 (o_aload 12 0) := snd_aload_n d_V_tellKinds_11 rfl
theorem g_V_tellKinds_12 : jSnd 123 12 (o_getR 15 12 (7)) := snd_getR (ci := 2) (k := 7) d_V_tellKinds_12 rfl tm_in2 (by decide) wd_429 rfl
theorem g_V_tellKinds_15 : jSnd 123 15 (o_iload 16 2) := snd_iload_n d_V_tellKinds_15 rfl
theorem g_V_tellKinds_16 : jSnd 123 16 (o_push 17 (0)) := snd_iconst (n := 0) (z := 0) d_V_tellKinds_16 (by decide) (by unfold jrg; omega)
theorem g_V_tellKinds_17 : jSnd 123 17 (o_iast 18) := snd_iast d_V_tellKinds_17
theorem g_V_tellKinds_18 : jSnd 123 18 (o_iinc 21 2 (1)) := snd_iinc d_V_tellKinds_18 (by decide)
theorem g_V_tellKinds_21 : jSnd 123 21 (o_goto 2) := snd_goto d_V_tellKinds_21 (by decide)
theorem g_V_tellKinds_24 : jSnd 123 24 (o_push 25 (0)) := snd_iconst (n := 0) (z := 0) d_V_tellKinds_24 (by decide) (by unfold jrg; omega)
theorem g_V_tellKinds_25 : jSnd 123 25 (o_istore 26 2) := snd_istore_n d_V_tellKinds_25 rfl (by decide)
theorem g_V_tellKinds_26 : jSnd 123 26 (o_iload 27 2) := snd_iload_n d_V_tellKinds_26 rfl
theorem g_V_tellKinds_27 : jSnd 123 27 (o_aload 28 1) := snd_aload_n d_V_tellKinds_27 rfl
theorem g_V_tellKinds_28 : jSnd 123 28 (o_call 31 84 1 1 11 false) := snd_callV (ci := 1) (n := 0) rfl d_V_tellKinds_28 (by decide) (by decide) (by decide) wc_84 wd_437 wd_185 wd_186 wd_122 (by decide +kernel) (by decide) (by decide)
theorem g_V_tellKinds_31 : jSnd 123 31 (o_ic_ge 34 80) := snd_ic_ge d_V_tellKinds_31 (by decide)
theorem g_V_tellKinds_34 : jSnd 123 34 (o_aload 35 1) := snd_aload_n d_V_tellKinds_34 rfl
theorem g_V_tellKinds_35 : jSnd 123 35 (o_iload 36 2) := snd_iload_n d_V_tellKinds_35 rfl
theorem g_V_tellKinds_36 : jSnd 123 36 (o_call 39 88 2 2 11 false) := snd_callV (ci := 1) (n := 1) rfl d_V_tellKinds_36 (by decide) (by decide) (by decide) wc_88 wd_452 wd_453 wd_454 wd_122 (by decide +kernel) (by decide) (by decide)
theorem g_V_tellKinds_39 : jSnd 123 39 (o_istore 40 3) := snd_istore_n d_V_tellKinds_39 rfl (by decide)
theorem g_V_tellKinds_40 : jSnd 123 40 (o_aload 41 0) := snd_aload_n d_V_tellKinds_40 rfl
theorem g_V_tellKinds_41 : jSnd 123 41 (o_iload 42 3) := snd_iload_n d_V_tellKinds_41 rfl
theorem g_V_tellKinds_42 : jSnd 123 42 (o_call 45 101 2 2 12 false) := snd_callV (ci := 2) (n := 1) rfl d_V_tellKinds_42 (by decide) (by decide) (by decide) wc_101 wd_455 wd_206 wd_207 wd_132 (by decide +kernel) (by decide) (by decide)
theorem g_V_tellKinds_45 : jSnd 123 45 (o_if_eq 48 74) := snd_if_eq d_V_tellKinds_45 (by decide)
theorem g_V_tellKinds_48 : jSnd 123 48 (o_aload 49 1) := snd_aload_n d_V_tellKinds_48 rfl
theorem g_V_tellKinds_49 : jSnd 123 49 (o_iload 50 3) := snd_iload_n d_V_tellKinds_49 rfl
theorem g_V_tellKinds_50 : jSnd 123 50 (o_push 51 (0)) := snd_iconst (n := 0) (z := 0) d_V_tellKinds_50 (by decide) (by unfold jrg; omega)
theorem g_V_tellKinds_51 : jSnd 123 51 (o_call 54 86 3 3 11 false) := snd_callV (ci := 1) (n := 2) rfl d_V_tellKinds_51 (by decide) (by decide) (by decide) wc_86 wd_436 wd_167 wd_168 wd_122 (by decide +kernel) (by decide) (by decide)
theorem g_V_tellKinds_54 : jSnd 123 54 (o_push 55 (4)) := snd_iconst (n := 4) (z := 4) d_V_tellKinds_54 (by decide) (by unfold jrg; omega)
theorem g_V_tellKinds_55 : jSnd 123 55 (o_ic_ne 58 74) := snd_ic_ne d_V_tellKinds_55 (by decide)
theorem g_V_tellKinds_58 : jSnd 123 58 (o_aload 59 0) := snd_aload_n d_V_tellKinds_58 rfl
theorem g_V_tellKinds_59 : jSnd 123 59 (o_aload 60 1) := snd_aload_n d_V_tellKinds_59 rfl
theorem g_V_tellKinds_60 : jSnd 123 60 (o_iload 61 3) := snd_iload_n d_V_tellKinds_60 rfl
theorem g_V_tellKinds_61 : jSnd 123 61 (o_push 62 (5)) := snd_iconst (n := 5) (z := 5) d_V_tellKinds_61 (by decide) (by unfold jrg; omega)
theorem g_V_tellKinds_62 : jSnd 123 62 (o_call 65 86 3 3 11 false) := snd_callV (ci := 1) (n := 2) rfl d_V_tellKinds_62 (by decide) (by decide) (by decide) wc_86 wd_436 wd_167 wd_168 wd_122 (by decide +kernel) (by decide) (by decide)
theorem g_V_tellKinds_65 : jSnd 123 65 (o_aload 66 1) := snd_aload_n d_V_tellKinds_65 rfl
theorem g_V_tellKinds_66 : jSnd 123 66 (o_iload 67 3) := snd_iload_n d_V_tellKinds_66 rfl
theorem g_V_tellKinds_67 : jSnd 123 67 (o_push 68 (3)) := snd_iconst (n := 3) (z := 3) d_V_tellKinds_67 (by decide) (by unfold jrg; omega)
theorem g_V_tellKinds_68 : jSnd 123 68 (o_call 71 86 3 3 11 false) := snd_callV (ci := 1) (n := 2) rfl d_V_tellKinds_68 (by decide) (by decide) (by decide) wc_86 wd_436 wd_167 wd_168 wd_122 (by decide +kernel) (by decide) (by decide)
theorem g_V_tellKinds_71 : jSnd 123 71 (o_call 74 124 3 3 12 true) := snd_callV (ci := 2) (n := 2) rfl d_V_tellKinds_71 (by decide) (by decide) (by decide) wc_124 wd_466 wd_467 wd_468 wd_132 (by decide +kernel) (by decide) (by decide)
theorem g_V_tellKinds_74 : jSnd 123 74 (o_iinc 77 2 (1)) := snd_iinc d_V_tellKinds_74 (by decide)
theorem g_V_tellKinds_77 : jSnd 123 77 (o_goto 26) := snd_goto d_V_tellKinds_77 (by decide)
theorem g_V_tellKinds_80 : jSnd 123 80 (o_vret) := snd_vret d_V_tellKinds_80 rfl
set_option maxRecDepth 100000 in
theorem ga_V_tellKinds : jAll 123 0 tmp_V_tellKinds := ⟨g_V_tellKinds_0, g_V_tellKinds_1, g_V_tellKinds_2, g_V_tellKinds_3, g_V_tellKinds_4, snd_bad _ _, snd_bad _ _, g_V_tellKinds_7, g_V_tellKinds_8, snd_bad _ _, snd_bad _ _, g_V_tellKinds_11, g_V_tellKinds_12, snd_bad _ _, snd_bad _ _, g_V_tellKinds_15, g_V_tellKinds_16, g_V_tellKinds_17, g_V_tellKinds_18, snd_bad _ _, snd_bad _ _, g_V_tellKinds_21, snd_bad _ _, snd_bad _ _, g_V_tellKinds_24, g_V_tellKinds_25, g_V_tellKinds_26, g_V_tellKinds_27, g_V_tellKinds_28, snd_bad _ _, snd_bad _ _, g_V_tellKinds_31, snd_bad _ _, snd_bad _ _, g_V_tellKinds_34, g_V_tellKinds_35, g_V_tellKinds_36, snd_bad _ _, snd_bad _ _, g_V_tellKinds_39, g_V_tellKinds_40, g_V_tellKinds_41, g_V_tellKinds_42, snd_bad _ _, snd_bad _ _, g_V_tellKinds_45, snd_bad _ _, snd_bad _ _, g_V_tellKinds_48, g_V_tellKinds_49, g_V_tellKinds_50, g_V_tellKinds_51, snd_bad _ _, snd_bad _ _, g_V_tellKinds_54, g_V_tellKinds_55, snd_bad _ _, snd_bad _ _, g_V_tellKinds_58, g_V_tellKinds_59, g_V_tellKinds_60, g_V_tellKinds_61, g_V_tellKinds_62, snd_bad _ _, snd_bad _ _, g_V_tellKinds_65, g_V_tellKinds_66, g_V_tellKinds_67, g_V_tellKinds_68, snd_bad _ _, snd_bad _ _, g_V_tellKinds_71, snd_bad _ _, snd_bad _ _, g_V_tellKinds_74, snd_bad _ _, snd_bad _ _, g_V_tellKinds_77, snd_bad _ _, snd_bad _ _, g_V_tellKinds_80, trivial⟩
theorem d_V_keepKind_0 : decode (tm_c 124) 0 = .ok (.iload_n 1, 1) := by decide +kernel
theorem d_V_keepKind_1 : decode (tm_c 124) 1 = .ok (.ifCond .lt (19), 3) := by decide +kernel
theorem d_V_keepKind_4 : decode (tm_c 124) 4 = .ok (.iload_n 1, 1) := by decide +kernel
theorem d_V_keepKind_5 : decode (tm_c 124) 5 = .ok (.aload_n 0, 1) := by decide +kernel
theorem d_V_keepKind_6 : decode (tm_c 124) 6 = .ok (.getfield 31, 3) := by decide +kernel
theorem d_V_keepKind_9 : decode (tm_c 124) 9 = .ok (.arraylength, 1) := by decide +kernel
theorem d_V_keepKind_10 : decode (tm_c 124) 10 = .ok (.if_icmp .ge (10), 3) := by decide +kernel
theorem d_V_keepKind_13 : decode (tm_c 124) 13 = .ok (.aload_n 0, 1) := by decide +kernel
theorem d_V_keepKind_14 : decode (tm_c 124) 14 = .ok (.getfield 31, 3) := by decide +kernel
theorem d_V_keepKind_17 : decode (tm_c 124) 17 = .ok (.iload_n 1, 1) := by decide +kernel
theorem d_V_keepKind_18 : decode (tm_c 124) 18 = .ok (.iload_n 2, 1) := by decide +kernel
theorem d_V_keepKind_19 : decode (tm_c 124) 19 = .ok (.iastore, 1) := by decide +kernel
theorem d_V_keepKind_20 : decode (tm_c 124) 20 = .ok (.return_, 1) := by decide +kernel
theorem g_V_keepKind_0 : jSnd 124 0 (o_iload 1 1) := snd_iload_n d_V_keepKind_0 rfl
theorem g_V_keepKind_1 : jSnd 124 1 (o_if_lt 4 20) := snd_if_lt d_V_keepKind_1 (by decide)
theorem g_V_keepKind_4 : jSnd 124 4 (o_iload 5 1) := snd_iload_n d_V_keepKind_4 rfl
theorem g_V_keepKind_5 : jSnd 124 5 (o_aload 6 0) := snd_aload_n d_V_keepKind_5 rfl
theorem g_V_keepKind_6 : jSnd 124 6 (o_getR 9 12 (7)) := snd_getR (ci := 2) (k := 7) d_V_keepKind_6 rfl tm_in2 (by decide) wd_429 rfl
theorem g_V_keepKind_9 : jSnd 124 9 (o_alen 10 1) := snd_alen (t0 := 0) d_V_keepKind_9 (by decide) (by decide) rfl
theorem g_V_keepKind_10 : jSnd 124 10 (o_ic_ge 13 20) := snd_ic_ge d_V_keepKind_10 (by decide)
theorem g_V_keepKind_13 : jSnd 124 13 (o_aload 14 0) := snd_aload_n d_V_keepKind_13 rfl
theorem g_V_keepKind_14 : jSnd 124 14 (o_getR 17 12 (7)) := snd_getR (ci := 2) (k := 7) d_V_keepKind_14 rfl tm_in2 (by decide) wd_429 rfl
theorem g_V_keepKind_17 : jSnd 124 17 (o_iload 18 1) := snd_iload_n d_V_keepKind_17 rfl
theorem g_V_keepKind_18 : jSnd 124 18 (o_iload 19 2) := snd_iload_n d_V_keepKind_18 rfl
theorem g_V_keepKind_19 : jSnd 124 19 (o_iast 20) := snd_iast d_V_keepKind_19
theorem g_V_keepKind_20 : jSnd 124 20 (o_vret) := snd_vret d_V_keepKind_20 rfl
set_option maxRecDepth 100000 in
theorem ga_V_keepKind : jAll 124 0 tmp_V_keepKind := ⟨g_V_keepKind_0, g_V_keepKind_1, snd_bad _ _, snd_bad _ _, g_V_keepKind_4, g_V_keepKind_5, g_V_keepKind_6, snd_bad _ _, snd_bad _ _, g_V_keepKind_9, g_V_keepKind_10, snd_bad _ _, snd_bad _ _, g_V_keepKind_13, g_V_keepKind_14, snd_bad _ _, snd_bad _ _, g_V_keepKind_17, g_V_keepKind_18, g_V_keepKind_19, g_V_keepKind_20, trivial⟩
theorem d_V_kindFrom_0 : decode (tm_c 125) 0 = .ok (.aload_n 0, 1) := by decide +kernel
theorem d_V_kindFrom_1 : decode (tm_c 125) 1 = .ok (.iload_n 1, 1) := by decide +kernel
theorem d_V_kindFrom_2 : decode (tm_c 125) 2 = .ok (.iconst (1), 1) := by decide +kernel
theorem d_V_kindFrom_3 : decode (tm_c 125) 3 = .ok (.isub, 1) := by decide +kernel
theorem d_V_kindFrom_4 : decode (tm_c 125) 4 = .ok (.invokevirtual 113, 3) := by decide +kernel
theorem d_V_kindFrom_7 : decode (tm_c 125) 7 = .ok (.istore_n 2, 1) := by decide +kernel
theorem d_V_kindFrom_8 : decode (tm_c 125) 8 = .ok (.iload_n 2, 1) := by decide +kernel
theorem d_V_kindFrom_9 : decode (tm_c 125) 9 = .ok (.ifCond .lt (21), 3) := by decide +kernel
theorem d_V_kindFrom_12 : decode (tm_c 125) 12 = .ok (.iload_n 2, 1) := by decide +kernel
theorem d_V_kindFrom_13 : decode (tm_c 125) 13 = .ok (.aload_n 0, 1) := by decide +kernel
theorem d_V_kindFrom_14 : decode (tm_c 125) 14 = .ok (.getfield 31, 3) := by decide +kernel
theorem d_V_kindFrom_17 : decode (tm_c 125) 17 = .ok (.arraylength, 1) := by decide +kernel
theorem d_V_kindFrom_18 : decode (tm_c 125) 18 = .ok (.if_icmp .ge (12), 3) := by decide +kernel
theorem d_V_kindFrom_21 : decode (tm_c 125) 21 = .ok (.aload_n 0, 1) := by decide +kernel
theorem d_V_kindFrom_22 : decode (tm_c 125) 22 = .ok (.getfield 31, 3) := by decide +kernel
theorem d_V_kindFrom_25 : decode (tm_c 125) 25 = .ok (.iload_n 2, 1) := by decide +kernel
theorem d_V_kindFrom_26 : decode (tm_c 125) 26 = .ok (.iaload, 1) := by decide +kernel
theorem d_V_kindFrom_27 : decode (tm_c 125) 27 = .ok (.goto (4), 3) := by decide +kernel
theorem d_V_kindFrom_30 : decode (tm_c 125) 30 = .ok (.iconst (0), 1) := by decide +kernel
theorem d_V_kindFrom_31 : decode (tm_c 125) 31 = .ok (.ireturn, 1) := by decide +kernel
theorem g_V_kindFrom_0 : jSnd 125 0 (o_aload 1 0) := snd_aload_n d_V_kindFrom_0 rfl
theorem g_V_kindFrom_1 : jSnd 125 1 (o_iload 2 1) := snd_iload_n d_V_kindFrom_1 rfl
theorem g_V_kindFrom_2 : jSnd 125 2 (o_push 3 (1)) := snd_iconst (n := 1) (z := 1) d_V_kindFrom_2 (by decide) (by unfold jrg; omega)
theorem g_V_kindFrom_3 : jSnd 125 3 (o_bin 4 f_sub) := snd_isub d_V_kindFrom_3
theorem g_V_kindFrom_4 : jSnd 125 4 (o_call 7 104 2 2 12 false) := snd_callV (ci := 2) (n := 1) rfl d_V_kindFrom_4 (by decide) (by decide) (by decide) wc_104 wd_469 wd_145 wd_146 wd_132 (by decide +kernel) (by decide) (by decide)
theorem g_V_kindFrom_7 : jSnd 125 7 (o_istore 8 2) := snd_istore_n d_V_kindFrom_7 rfl (by decide)
theorem g_V_kindFrom_8 : jSnd 125 8 (o_iload 9 2) := snd_iload_n d_V_kindFrom_8 rfl
theorem g_V_kindFrom_9 : jSnd 125 9 (o_if_lt 12 30) := snd_if_lt d_V_kindFrom_9 (by decide)
theorem g_V_kindFrom_12 : jSnd 125 12 (o_iload 13 2) := snd_iload_n d_V_kindFrom_12 rfl
theorem g_V_kindFrom_13 : jSnd 125 13 (o_aload 14 0) := snd_aload_n d_V_kindFrom_13 rfl
theorem g_V_kindFrom_14 : jSnd 125 14 (o_getR 17 12 (7)) := snd_getR (ci := 2) (k := 7) d_V_kindFrom_14 rfl tm_in2 (by decide) wd_429 rfl
theorem g_V_kindFrom_17 : jSnd 125 17 (o_alen 18 1) := snd_alen (t0 := 0) d_V_kindFrom_17 (by decide) (by decide) rfl
theorem g_V_kindFrom_18 : jSnd 125 18 (o_ic_ge 21 30) := snd_ic_ge d_V_kindFrom_18 (by decide)
theorem g_V_kindFrom_21 : jSnd 125 21 (o_aload 22 0) := snd_aload_n d_V_kindFrom_21 rfl
theorem g_V_kindFrom_22 : jSnd 125 22 (o_getR 25 12 (7)) := snd_getR (ci := 2) (k := 7) d_V_kindFrom_22 rfl tm_in2 (by decide) wd_429 rfl
theorem g_V_kindFrom_25 : jSnd 125 25 (o_iload 26 2) := snd_iload_n d_V_kindFrom_25 rfl
theorem g_V_kindFrom_26 : jSnd 125 26 (o_nald 27 1) := snd_iald d_V_kindFrom_26
theorem g_V_kindFrom_27 : jSnd 125 27 (o_goto 31) := snd_goto d_V_kindFrom_27 (by decide)
theorem g_V_kindFrom_30 : jSnd 125 30 (o_push 31 (0)) := snd_iconst (n := 0) (z := 0) d_V_kindFrom_30 (by decide) (by unfold jrg; omega)
theorem g_V_kindFrom_31 : jSnd 125 31 (o_iret) := snd_iret d_V_kindFrom_31 rfl
set_option maxRecDepth 100000 in
theorem ga_V_kindFrom : jAll 125 0 tmp_V_kindFrom := ⟨g_V_kindFrom_0, g_V_kindFrom_1, g_V_kindFrom_2, g_V_kindFrom_3, g_V_kindFrom_4, snd_bad _ _, snd_bad _ _, g_V_kindFrom_7, g_V_kindFrom_8, g_V_kindFrom_9, snd_bad _ _, snd_bad _ _, g_V_kindFrom_12, g_V_kindFrom_13, g_V_kindFrom_14, snd_bad _ _, snd_bad _ _, g_V_kindFrom_17, g_V_kindFrom_18, snd_bad _ _, snd_bad _ _, g_V_kindFrom_21, g_V_kindFrom_22, snd_bad _ _, snd_bad _ _, g_V_kindFrom_25, g_V_kindFrom_26, g_V_kindFrom_27, snd_bad _ _, snd_bad _ _, g_V_kindFrom_30, g_V_kindFrom_31, trivial⟩
theorem d_V_hasSameText_0 : decode (tm_c 126) 0 = .ok (.aload_n 0, 1) := by decide +kernel
theorem d_V_hasSameText_1 : decode (tm_c 126) 1 = .ok (.getfield 38, 3) := by decide +kernel
theorem d_V_hasSameText_4 : decode (tm_c 126) 4 = .ok (.aload_n 1, 1) := by decide +kernel
theorem d_V_hasSameText_5 : decode (tm_c 126) 5 = .ok (.getfield 38, 3) := by decide +kernel
theorem d_V_hasSameText_8 : decode (tm_c 126) 8 = .ok (.if_icmp .eq (5), 3) := by decide +kernel
theorem d_V_hasSameText_11 : decode (tm_c 126) 11 = .ok (.iconst (0), 1) := by decide +kernel
theorem d_V_hasSameText_12 : decode (tm_c 126) 12 = .ok (.ireturn, 1) := by decide +kernel
theorem d_V_hasSameText_13 : decode (tm_c 126) 13 = .ok (.iconst (0), 1) := by decide +kernel
theorem d_V_hasSameText_14 : decode (tm_c 126) 14 = .ok (.istore_n 2, 1) := by decide +kernel
theorem d_V_hasSameText_15 : decode (tm_c 126) 15 = .ok (.iload_n 2, 1) := by decide +kernel
theorem d_V_hasSameText_16 : decode (tm_c 126) 16 = .ok (.aload_n 0, 1) := by decide +kernel
theorem d_V_hasSameText_17 : decode (tm_c 126) 17 = .ok (.getfield 38, 3) := by decide +kernel
theorem d_V_hasSameText_20 : decode (tm_c 126) 20 = .ok (.if_icmp .ge (41), 3) := by decide +kernel
theorem d_V_hasSameText_23 : decode (tm_c 126) 23 = .ok (.aload_n 0, 1) := by decide +kernel
theorem d_V_hasSameText_24 : decode (tm_c 126) 24 = .ok (.getfield 15, 3) := by decide +kernel
theorem d_V_hasSameText_27 : decode (tm_c 126) 27 = .ok (.iload_n 2, 1) := by decide +kernel
theorem d_V_hasSameText_28 : decode (tm_c 126) 28 = .ok (.iaload, 1) := by decide +kernel
theorem d_V_hasSameText_29 : decode (tm_c 126) 29 = .ok (.aload_n 1, 1) := by decide +kernel
theorem d_V_hasSameText_30 : decode (tm_c 126) 30 = .ok (.getfield 15, 3) := by decide +kernel
theorem d_V_hasSameText_33 : decode (tm_c 126) 33 = .ok (.iload_n 2, 1) := by decide +kernel
theorem d_V_hasSameText_34 : decode (tm_c 126) 34 = .ok (.iaload, 1) := by decide +kernel
theorem d_V_hasSameText_35 : decode (tm_c 126) 35 = .ok (.if_icmp .ne (18), 3) := by decide +kernel
theorem d_V_hasSameText_38 : decode (tm_c 126) 38 = .ok (.aload_n 0, 1) := by decide +kernel
theorem d_V_hasSameText_39 : decode (tm_c 126) 39 = .ok (.getfield 18, 3) := by decide +kernel
theorem d_V_hasSameText_42 : decode (tm_c 126) 42 = .ok (.iload_n 2, 1) := by decide +kernel
theorem d_V_hasSameText_43 : decode (tm_c 126) 43 = .ok (.iaload, 1) := by decide +kernel
theorem d_V_hasSameText_44 : decode (tm_c 126) 44 = .ok (.aload_n 1, 1) := by decide +kernel
theorem d_V_hasSameText_45 : decode (tm_c 126) 45 = .ok (.getfield 18, 3) := by decide +kernel
theorem d_V_hasSameText_48 : decode (tm_c 126) 48 = .ok (.iload_n 2, 1) := by decide +kernel
theorem d_V_hasSameText_49 : decode (tm_c 126) 49 = .ok (.iaload, 1) := by decide +kernel
theorem d_V_hasSameText_50 : decode (tm_c 126) 50 = .ok (.if_icmp .eq (5), 3) := by decide +kernel
theorem d_V_hasSameText_53 : decode (tm_c 126) 53 = .ok (.iconst (0), 1) := by decide +kernel
theorem d_V_hasSameText_54 : decode (tm_c 126) 54 = .ok (.ireturn, 1) := by decide +kernel
theorem d_V_hasSameText_55 : decode (tm_c 126) 55 = .ok (.iinc 2 (1), 3) := by decide +kernel
theorem d_V_hasSameText_58 : decode (tm_c 126) 58 = .ok (.goto (-43), 3) := by decide +kernel
theorem d_V_hasSameText_61 : decode (tm_c 126) 61 = .ok (.iconst (1), 1) := by decide +kernel
theorem d_V_hasSameText_62 : decode (tm_c 126) 62 = .ok (.ireturn, 1) := by decide +kernel
theorem g_V_hasSameText_0 : jSnd 126 0 (o_aload 1 0) := snd_aload_n d_V_hasSameText_0 rfl
theorem g_V_hasSameText_1 : jSnd 126 1 (o_getI 4 12 (0)) := snd_getI (ci := 2) (k := 0) d_V_hasSameText_1 rfl tm_in2 (by decide) wd_433 rfl
theorem g_V_hasSameText_4 : jSnd 126 4 (o_aload 5 1) := snd_aload_n d_V_hasSameText_4 rfl
theorem g_V_hasSameText_5 : jSnd 126 5 (o_getI 8 12 (0)) := snd_getI (ci := 2) (k := 0) d_V_hasSameText_5 rfl tm_in2 (by decide) wd_433 rfl
theorem g_V_hasSameText_8 : jSnd 126 8 (o_ic_eq 11 13) := snd_ic_eq d_V_hasSameText_8 (by decide)
theorem g_V_hasSameText_11 : jSnd 126 11 (o_push 12 (0)) := snd_iconst (n := 0) (z := 0) d_V_hasSameText_11 (by decide) (by unfold jrg; omega)
theorem g_V_hasSameText_12 : jSnd 126 12 (o_zret) := snd_zret d_V_hasSameText_12 rfl
theorem g_V_hasSameText_13 : jSnd 126 13 (o_push 14 (0)) := snd_iconst (n := 0) (z := 0) d_V_hasSameText_13 (by decide) (by unfold jrg; omega)
theorem g_V_hasSameText_14 : jSnd 126 14 (o_istore 15 2) := snd_istore_n d_V_hasSameText_14 rfl (by decide)
theorem g_V_hasSameText_15 : jSnd 126 15 (o_iload 16 2) := snd_iload_n d_V_hasSameText_15 rfl
theorem g_V_hasSameText_16 : jSnd 126 16 (o_aload 17 0) := snd_aload_n d_V_hasSameText_16 rfl
theorem g_V_hasSameText_17 : jSnd 126 17 (o_getI 20 12 (0)) := snd_getI (ci := 2) (k := 0) d_V_hasSameText_17 rfl tm_in2 (by decide) wd_433 rfl
theorem g_V_hasSameText_20 : jSnd 126 20 (o_ic_ge 23 61) := snd_ic_ge d_V_hasSameText_20 (by decide)
theorem g_V_hasSameText_23 : jSnd 126 23 (o_aload 24 0) := snd_aload_n d_V_hasSameText_23 rfl
theorem g_V_hasSameText_24 : jSnd 126 24 (o_getR 27 12 (2)) := snd_getR (ci := 2) (k := 2) d_V_hasSameText_24 rfl tm_in2 (by decide) wd_424 rfl
theorem g_V_hasSameText_27 : jSnd 126 27 (o_iload 28 2) := snd_iload_n d_V_hasSameText_27 rfl
theorem g_V_hasSameText_28 : jSnd 126 28 (o_nald 29 1) := snd_iald d_V_hasSameText_28
theorem g_V_hasSameText_29 : jSnd 126 29 (o_aload 30 1) := snd_aload_n d_V_hasSameText_29 rfl
theorem g_V_hasSameText_30 : jSnd 126 30 (o_getR 33 12 (2)) := snd_getR (ci := 2) (k := 2) d_V_hasSameText_30 rfl tm_in2 (by decide) wd_424 rfl
theorem g_V_hasSameText_33 : jSnd 126 33 (o_iload 34 2) := snd_iload_n d_V_hasSameText_33 rfl
theorem g_V_hasSameText_34 : jSnd 126 34 (o_nald 35 1) := snd_iald d_V_hasSameText_34
theorem g_V_hasSameText_35 : jSnd 126 35 (o_ic_ne 38 53) := snd_ic_ne d_V_hasSameText_35 (by decide)
theorem g_V_hasSameText_38 : jSnd 126 38 (o_aload 39 0) := snd_aload_n d_V_hasSameText_38 rfl
theorem g_V_hasSameText_39 : jSnd 126 39 (o_getR 42 12 (3)) := snd_getR (ci := 2) (k := 3) d_V_hasSameText_39 rfl tm_in2 (by decide) wd_425 rfl
theorem g_V_hasSameText_42 : jSnd 126 42 (o_iload 43 2) := snd_iload_n d_V_hasSameText_42 rfl
theorem g_V_hasSameText_43 : jSnd 126 43 (o_nald 44 1) := snd_iald d_V_hasSameText_43
theorem g_V_hasSameText_44 : jSnd 126 44 (o_aload 45 1) := snd_aload_n d_V_hasSameText_44 rfl
theorem g_V_hasSameText_45 : jSnd 126 45 (o_getR 48 12 (3)) := snd_getR (ci := 2) (k := 3) d_V_hasSameText_45 rfl tm_in2 (by decide) wd_425 rfl
theorem g_V_hasSameText_48 : jSnd 126 48 (o_iload 49 2) := snd_iload_n d_V_hasSameText_48 rfl
theorem g_V_hasSameText_49 : jSnd 126 49 (o_nald 50 1) := snd_iald d_V_hasSameText_49
theorem g_V_hasSameText_50 : jSnd 126 50 (o_ic_eq 53 55) := snd_ic_eq d_V_hasSameText_50 (by decide)
theorem g_V_hasSameText_53 : jSnd 126 53 (o_push 54 (0)) := snd_iconst (n := 0) (z := 0) d_V_hasSameText_53 (by decide) (by unfold jrg; omega)
theorem g_V_hasSameText_54 : jSnd 126 54 (o_zret) := snd_zret d_V_hasSameText_54 rfl
theorem g_V_hasSameText_55 : jSnd 126 55 (o_iinc 58 2 (1)) := snd_iinc d_V_hasSameText_55 (by decide)
theorem g_V_hasSameText_58 : jSnd 126 58 (o_goto 15) := snd_goto d_V_hasSameText_58 (by decide)
theorem g_V_hasSameText_61 : jSnd 126 61 (o_push 62 (1)) := snd_iconst (n := 1) (z := 1) d_V_hasSameText_61 (by decide) (by unfold jrg; omega)
theorem g_V_hasSameText_62 : jSnd 126 62 (o_zret) := snd_zret d_V_hasSameText_62 rfl
set_option maxRecDepth 100000 in
theorem ga_V_hasSameText : jAll 126 0 tmp_V_hasSameText := ⟨g_V_hasSameText_0, g_V_hasSameText_1, snd_bad _ _, snd_bad _ _, g_V_hasSameText_4, g_V_hasSameText_5, snd_bad _ _, snd_bad _ _, g_V_hasSameText_8, snd_bad _ _, snd_bad _ _, g_V_hasSameText_11, g_V_hasSameText_12, g_V_hasSameText_13, g_V_hasSameText_14, g_V_hasSameText_15, g_V_hasSameText_16, g_V_hasSameText_17, snd_bad _ _, snd_bad _ _, g_V_hasSameText_20, snd_bad _ _, snd_bad _ _, g_V_hasSameText_23, g_V_hasSameText_24, snd_bad _ _, snd_bad _ _, g_V_hasSameText_27, g_V_hasSameText_28, g_V_hasSameText_29, g_V_hasSameText_30, snd_bad _ _, snd_bad _ _, g_V_hasSameText_33, g_V_hasSameText_34, g_V_hasSameText_35, snd_bad _ _, snd_bad _ _, g_V_hasSameText_38, g_V_hasSameText_39, snd_bad _ _, snd_bad _ _, g_V_hasSameText_42, g_V_hasSameText_43, g_V_hasSameText_44, g_V_hasSameText_45, snd_bad _ _, snd_bad _ _, g_V_hasSameText_48, g_V_hasSameText_49, g_V_hasSameText_50, snd_bad _ _, snd_bad _ _, g_V_hasSameText_53, g_V_hasSameText_54, g_V_hasSameText_55, snd_bad _ _, snd_bad _ _, g_V_hasSameText_58, snd_bad _ _, snd_bad _ _, g_V_hasSameText_61, g_V_hasSameText_62, trivial⟩
theorem d_V_hasSameKinds_0 : decode (tm_c 127) 0 = .ok (.aload_n 0, 1) := by decide +kernel
theorem d_V_hasSameKinds_1 : decode (tm_c 127) 1 = .ok (.iconst (0), 1) := by decide +kernel
theorem d_V_hasSameKinds_2 : decode (tm_c 127) 2 = .ok (.invokevirtual 116, 3) := by decide +kernel
theorem d_V_hasSameKinds_5 : decode (tm_c 127) 5 = .ok (.aload_n 1, 1) := by decide +kernel
theorem d_V_hasSameKinds_6 : decode (tm_c 127) 6 = .ok (.iconst (0), 1) := by decide +kernel
theorem d_V_hasSameKinds_7 : decode (tm_c 127) 7 = .ok (.invokevirtual 116, 3) := by decide +kernel
theorem d_V_hasSameKinds_10 : decode (tm_c 127) 10 = .ok (.if_icmp .eq (5), 3) := by decide +kernel
theorem d_V_hasSameKinds_13 : decode (tm_c 127) 13 = .ok (.iconst (0), 1) := by decide +kernel
theorem d_V_hasSameKinds_14 : decode (tm_c 127) 14 = .ok (.ireturn, 1) := by decide +kernel
theorem d_V_hasSameKinds_15 : decode (tm_c 127) 15 = .ok (.iconst (0), 1) := by decide +kernel
theorem d_V_hasSameKinds_16 : decode (tm_c 127) 16 = .ok (.istore_n 2, 1) := by decide +kernel
theorem d_V_hasSameKinds_17 : decode (tm_c 127) 17 = .ok (.iload_n 2, 1) := by decide +kernel
theorem d_V_hasSameKinds_18 : decode (tm_c 127) 18 = .ok (.aload_n 0, 1) := by decide +kernel
theorem d_V_hasSameKinds_19 : decode (tm_c 127) 19 = .ok (.getfield 38, 3) := by decide +kernel
theorem d_V_hasSameKinds_22 : decode (tm_c 127) 22 = .ok (.if_icmp .ge (39), 3) := by decide +kernel
theorem d_V_hasSameKinds_25 : decode (tm_c 127) 25 = .ok (.aload_n 0, 1) := by decide +kernel
theorem d_V_hasSameKinds_26 : decode (tm_c 127) 26 = .ok (.getfield 15, 3) := by decide +kernel
theorem d_V_hasSameKinds_29 : decode (tm_c 127) 29 = .ok (.iload_n 2, 1) := by decide +kernel
theorem d_V_hasSameKinds_30 : decode (tm_c 127) 30 = .ok (.iaload, 1) := by decide +kernel
theorem d_V_hasSameKinds_31 : decode (tm_c 127) 31 = .ok (.bipush (10), 2) := by decide +kernel
theorem d_V_hasSameKinds_33 : decode (tm_c 127) 33 = .ok (.if_icmp .ne (22), 3) := by decide +kernel
theorem d_V_hasSameKinds_36 : decode (tm_c 127) 36 = .ok (.aload_n 0, 1) := by decide +kernel
theorem d_V_hasSameKinds_37 : decode (tm_c 127) 37 = .ok (.iload_n 2, 1) := by decide +kernel
theorem d_V_hasSameKinds_38 : decode (tm_c 127) 38 = .ok (.iconst (1), 1) := by decide +kernel
theorem d_V_hasSameKinds_39 : decode (tm_c 127) 39 = .ok (.iadd, 1) := by decide +kernel
theorem d_V_hasSameKinds_40 : decode (tm_c 127) 40 = .ok (.invokevirtual 116, 3) := by decide +kernel
theorem d_V_hasSameKinds_43 : decode (tm_c 127) 43 = .ok (.aload_n 1, 1) := by decide +kernel
theorem d_V_hasSameKinds_44 : decode (tm_c 127) 44 = .ok (.iload_n 2, 1) := by decide +kernel
theorem d_V_hasSameKinds_45 : decode (tm_c 127) 45 = .ok (.iconst (1), 1) := by decide +kernel
theorem d_V_hasSameKinds_46 : decode (tm_c 127) 46 = .ok (.iadd, 1) := by decide +kernel
theorem d_V_hasSameKinds_47 : decode (tm_c 127) 47 = .ok (.invokevirtual 116, 3) := by decide +kernel
theorem d_V_hasSameKinds_50 : decode (tm_c 127) 50 = .ok (.if_icmp .eq (5), 3) := by decide +kernel
theorem d_V_hasSameKinds_53 : decode (tm_c 127) 53 = .ok (.iconst (0), 1) := by decide +kernel
theorem d_V_hasSameKinds_54 : decode (tm_c 127) 54 = .ok (.ireturn, 1) := by decide +kernel
theorem d_V_hasSameKinds_55 : decode (tm_c 127) 55 = .ok (.iinc 2 (1), 3) := by decide +kernel
theorem d_V_hasSameKinds_58 : decode (tm_c 127) 58 = .ok (.goto (-41), 3) := by decide +kernel
theorem d_V_hasSameKinds_61 : decode (tm_c 127) 61 = .ok (.iconst (1), 1) := by decide +kernel
theorem d_V_hasSameKinds_62 : decode (tm_c 127) 62 = .ok (.ireturn, 1) := by decide +kernel
theorem g_V_hasSameKinds_0 : jSnd 127 0 (o_aload 1 0) := snd_aload_n d_V_hasSameKinds_0 rfl
theorem g_V_hasSameKinds_1 : jSnd 127 1 (o_push 2 (0)) := snd_iconst (n := 0) (z := 0) d_V_hasSameKinds_1 (by decide) (by unfold jrg; omega)
theorem g_V_hasSameKinds_2 : jSnd 127 2 (o_call 5 125 2 3 12 false) := snd_callV (ci := 2) (n := 1) rfl d_V_hasSameKinds_2 (by decide) (by decide) (by decide) wc_125 wd_470 wd_221 wd_222 wd_132 (by decide +kernel) (by decide) (by decide)
theorem g_V_hasSameKinds_5 : jSnd 127 5 (o_aload 6 1) := snd_aload_n d_V_hasSameKinds_5 rfl
theorem g_V_hasSameKinds_6 : jSnd 127 6 (o_push 7 (0)) := snd_iconst (n := 0) (z := 0) d_V_hasSameKinds_6 (by decide) (by unfold jrg; omega)
theorem g_V_hasSameKinds_7 : jSnd 127 7 (o_call 10 125 2 3 12 false) := snd_callV (ci := 2) (n := 1) rfl d_V_hasSameKinds_7 (by decide) (by decide) (by decide) wc_125 wd_470 wd_221 wd_222 wd_132 (by decide +kernel) (by decide) (by decide)
theorem g_V_hasSameKinds_10 : jSnd 127 10 (o_ic_eq 13 15) := snd_ic_eq d_V_hasSameKinds_10 (by decide)
theorem g_V_hasSameKinds_13 : jSnd 127 13 (o_push 14 (0)) := snd_iconst (n := 0) (z := 0) d_V_hasSameKinds_13 (by decide) (by unfold jrg; omega)
theorem g_V_hasSameKinds_14 : jSnd 127 14 (o_zret) := snd_zret d_V_hasSameKinds_14 rfl
theorem g_V_hasSameKinds_15 : jSnd 127 15 (o_push 16 (0)) := snd_iconst (n := 0) (z := 0) d_V_hasSameKinds_15 (by decide) (by unfold jrg; omega)
theorem g_V_hasSameKinds_16 : jSnd 127 16 (o_istore 17 2) := snd_istore_n d_V_hasSameKinds_16 rfl (by decide)
theorem g_V_hasSameKinds_17 : jSnd 127 17 (o_iload 18 2) := snd_iload_n d_V_hasSameKinds_17 rfl
theorem g_V_hasSameKinds_18 : jSnd 127 18 (o_aload 19 0) := snd_aload_n d_V_hasSameKinds_18 rfl
theorem g_V_hasSameKinds_19 : jSnd 127 19 (o_getI 22 12 (0)) := snd_getI (ci := 2) (k := 0) d_V_hasSameKinds_19 rfl tm_in2 (by decide) wd_433 rfl
theorem g_V_hasSameKinds_22 : jSnd 127 22 (o_ic_ge 25 61) := snd_ic_ge d_V_hasSameKinds_22 (by decide)
theorem g_V_hasSameKinds_25 : jSnd 127 25 (o_aload 26 0) := snd_aload_n d_V_hasSameKinds_25 rfl
theorem g_V_hasSameKinds_26 : jSnd 127 26 (o_getR 29 12 (2)) := snd_getR (ci := 2) (k := 2) d_V_hasSameKinds_26 rfl tm_in2 (by decide) wd_424 rfl
theorem g_V_hasSameKinds_29 : jSnd 127 29 (o_iload 30 2) := snd_iload_n d_V_hasSameKinds_29 rfl
theorem g_V_hasSameKinds_30 : jSnd 127 30 (o_nald 31 1) := snd_iald d_V_hasSameKinds_30
theorem g_V_hasSameKinds_31 : jSnd 127 31 (o_push 33 (10)) := snd_bipush (n := 10) (z := 10) d_V_hasSameKinds_31 (by decide) (by unfold jrg; omega)
theorem g_V_hasSameKinds_33 : jSnd 127 33 (o_ic_ne 36 55) := snd_ic_ne d_V_hasSameKinds_33 (by decide)
theorem g_V_hasSameKinds_36 : jSnd 127 36 (o_aload 37 0) := snd_aload_n d_V_hasSameKinds_36 rfl
theorem g_V_hasSameKinds_37 : jSnd 127 37 (o_iload 38 2) := snd_iload_n d_V_hasSameKinds_37 rfl
theorem g_V_hasSameKinds_38 : jSnd 127 38 (o_push 39 (1)) := snd_iconst (n := 1) (z := 1) d_V_hasSameKinds_38 (by decide) (by unfold jrg; omega)
theorem g_V_hasSameKinds_39 : jSnd 127 39 (o_bin 40 f_add) := snd_iadd d_V_hasSameKinds_39
theorem g_V_hasSameKinds_40 : jSnd 127 40 (o_call 43 125 2 3 12 false) := snd_callV (ci := 2) (n := 1) rfl d_V_hasSameKinds_40 (by decide) (by decide) (by decide) wc_125 wd_470 wd_221 wd_222 wd_132 (by decide +kernel) (by decide) (by decide)
theorem g_V_hasSameKinds_43 : jSnd 127 43 (o_aload 44 1) := snd_aload_n d_V_hasSameKinds_43 rfl
theorem g_V_hasSameKinds_44 : jSnd 127 44 (o_iload 45 2) := snd_iload_n d_V_hasSameKinds_44 rfl
theorem g_V_hasSameKinds_45 : jSnd 127 45 (o_push 46 (1)) := snd_iconst (n := 1) (z := 1) d_V_hasSameKinds_45 (by decide) (by unfold jrg; omega)
theorem g_V_hasSameKinds_46 : jSnd 127 46 (o_bin 47 f_add) := snd_iadd d_V_hasSameKinds_46
theorem g_V_hasSameKinds_47 : jSnd 127 47 (o_call 50 125 2 3 12 false) := snd_callV (ci := 2) (n := 1) rfl d_V_hasSameKinds_47 (by decide) (by decide) (by decide) wc_125 wd_470 wd_221 wd_222 wd_132 (by decide +kernel) (by decide) (by decide)
theorem g_V_hasSameKinds_50 : jSnd 127 50 (o_ic_eq 53 55) := snd_ic_eq d_V_hasSameKinds_50 (by decide)
theorem g_V_hasSameKinds_53 : jSnd 127 53 (o_push 54 (0)) := snd_iconst (n := 0) (z := 0) d_V_hasSameKinds_53 (by decide) (by unfold jrg; omega)
theorem g_V_hasSameKinds_54 : jSnd 127 54 (o_zret) := snd_zret d_V_hasSameKinds_54 rfl
theorem g_V_hasSameKinds_55 : jSnd 127 55 (o_iinc 58 2 (1)) := snd_iinc d_V_hasSameKinds_55 (by decide)
theorem g_V_hasSameKinds_58 : jSnd 127 58 (o_goto 17) := snd_goto d_V_hasSameKinds_58 (by decide)
theorem g_V_hasSameKinds_61 : jSnd 127 61 (o_push 62 (1)) := snd_iconst (n := 1) (z := 1) d_V_hasSameKinds_61 (by decide) (by unfold jrg; omega)
theorem g_V_hasSameKinds_62 : jSnd 127 62 (o_zret) := snd_zret d_V_hasSameKinds_62 rfl
set_option maxRecDepth 100000 in
theorem ga_V_hasSameKinds : jAll 127 0 tmp_V_hasSameKinds := ⟨g_V_hasSameKinds_0, g_V_hasSameKinds_1, g_V_hasSameKinds_2, snd_bad _ _, snd_bad _ _, g_V_hasSameKinds_5, g_V_hasSameKinds_6, g_V_hasSameKinds_7, snd_bad _ _, snd_bad _ _, g_V_hasSameKinds_10, snd_bad _ _, snd_bad _ _, g_V_hasSameKinds_13, g_V_hasSameKinds_14, g_V_hasSameKinds_15, g_V_hasSameKinds_16, g_V_hasSameKinds_17, g_V_hasSameKinds_18, g_V_hasSameKinds_19, snd_bad _ _, snd_bad _ _, g_V_hasSameKinds_22, snd_bad _ _, snd_bad _ _, g_V_hasSameKinds_25, g_V_hasSameKinds_26, snd_bad _ _, snd_bad _ _, g_V_hasSameKinds_29, g_V_hasSameKinds_30, g_V_hasSameKinds_31, snd_bad _ _, g_V_hasSameKinds_33, snd_bad _ _, snd_bad _ _, g_V_hasSameKinds_36, g_V_hasSameKinds_37, g_V_hasSameKinds_38, g_V_hasSameKinds_39, g_V_hasSameKinds_40, snd_bad _ _, snd_bad _ _, g_V_hasSameKinds_43, g_V_hasSameKinds_44, g_V_hasSameKinds_45, g_V_hasSameKinds_46, g_V_hasSameKinds_47, snd_bad _ _, snd_bad _ _, g_V_hasSameKinds_50, snd_bad _ _, snd_bad _ _, g_V_hasSameKinds_53, g_V_hasSameKinds_54, g_V_hasSameKinds_55, snd_bad _ _, snd_bad _ _, g_V_hasSameKinds_58, snd_bad _ _, snd_bad _ _, g_V_hasSameKinds_61, g_V_hasSameKinds_62, trivial⟩
