theorem d_M_id_0 : decode (tm_c 59) 0 = .ok (.aload_n 0, 1) := by decide +kernel
theorem d_M_id_1 : decode (tm_c 59) 1 = .ok (.iconst (0), 1) := by decide +kernel
theorem d_M_id_2 : decode (tm_c 59) 2 = .ok (.putfield 78, 3) := by decide +kernel
theorem d_M_id_5 : decode (tm_c 59) 5 = .ok (.aload_n 0, 1) := by decide +kernel
theorem d_M_id_6 : decode (tm_c 59) 6 = .ok (.iload_n 1, 1) := by decide +kernel
theorem d_M_id_7 : decode (tm_c 59) 7 = .ok (.iload_n 2, 1) := by decide +kernel
theorem d_M_id_8 : decode (tm_c 59) 8 = .ok (.invokevirtual 148, 3) := by decide +kernel
theorem d_M_id_11 : decode (tm_c 59) 11 = .ok (.ifCond .eq (12), 3) := by decide +kernel
theorem d_M_id_14 : decode (tm_c 59) 14 = .ok (.aload_n 0, 1) := by decide +kernel
theorem d_M_id_15 : decode (tm_c 59) 15 = .ok (.getfield 54, 3) := by decide +kernel
theorem d_M_id_18 : decode (tm_c 59) 18 = .ok (.iload_n 2, 1) := by decide +kernel
theorem d_M_id_19 : decode (tm_c 59) 19 = .ok (.iaload, 1) := by decide +kernel
theorem d_M_id_20 : decode (tm_c 59) 20 = .ok (.goto (4), 3) := by decide +kernel
theorem d_M_id_23 : decode (tm_c 59) 23 = .ok (.iconst (-1), 1) := by decide +kernel
theorem d_M_id_24 : decode (tm_c 59) 24 = .ok (.ireturn, 1) := by decide +kernel
theorem g_M_id_0 : jSnd 59 0 (o_aload 1 0) := snd_aload_n d_M_id_0 rfl
theorem g_M_id_1 : jSnd 59 1 (o_push 2 (0)) := snd_iconst (n := 0) (z := 0) d_M_id_1 (by decide) (by unfold jrg; omega)
theorem g_M_id_2 : jSnd 59 2 (o_putI 5 14 (0)) := snd_putI (ci := 4) (k := 0) d_M_id_2 rfl tm_in4 tm_D4 tm_ty4 tm_nm4 (by decide) wd_338 rfl rfl rfl
theorem g_M_id_5 : jSnd 59 5 (o_aload 6 0) := snd_aload_n d_M_id_5 rfl
theorem g_M_id_6 : jSnd 59 6 (o_iload 7 1) := snd_iload_n d_M_id_6 rfl
theorem g_M_id_7 : jSnd 59 7 (o_iload 8 2) := snd_iload_n d_M_id_7 rfl
theorem g_M_id_8 : jSnd 59 8 (o_call 11 57 3 3 14 false) := snd_callV (ci := 4) (n := 2) rfl d_M_id_8 (by decide) (by decide) (by decide) wc_57 wd_355 wd_356 wd_357 wd_7 (by decide +kernel) (by decide) (by decide)
theorem g_M_id_11 : jSnd 59 11 (o_if_eq 14 23) := snd_if_eq d_M_id_11 (by decide)
theorem g_M_id_14 : jSnd 59 14 (o_aload 15 0) := snd_aload_n d_M_id_14 rfl
theorem g_M_id_15 : jSnd 59 15 (o_getR 18 14 (18)) := snd_getR (ci := 4) (k := 18) d_M_id_15 rfl tm_in4 (by decide) wd_297 rfl
theorem g_M_id_18 : jSnd 59 18 (o_iload 19 2) := snd_iload_n d_M_id_18 rfl
theorem g_M_id_19 : jSnd 59 19 (o_nald 20 1) := snd_iald d_M_id_19
theorem g_M_id_20 : jSnd 59 20 (o_goto 24) := snd_goto d_M_id_20 (by decide)
theorem g_M_id_23 : jSnd 59 23 (o_push 24 (-1)) := snd_iconst (n := -1) (z := -1) d_M_id_23 (by decide) (by unfold jrg; omega)
theorem g_M_id_24 : jSnd 59 24 (o_iret) := snd_iret d_M_id_24 rfl
set_option maxRecDepth 100000 in
theorem ga_M_id : jAll 59 0 tmp_M_id := ⟨g_M_id_0, g_M_id_1, g_M_id_2, snd_bad _ _, snd_bad _ _, g_M_id_5, g_M_id_6, g_M_id_7, g_M_id_8, snd_bad _ _, snd_bad _ _, g_M_id_11, snd_bad _ _, snd_bad _ _, g_M_id_14, g_M_id_15, snd_bad _ _, snd_bad _ _, g_M_id_18, g_M_id_19, g_M_id_20, snd_bad _ _, snd_bad _ _, g_M_id_23, g_M_id_24, trivial⟩
theorem d_M_unit_0 : decode (tm_c 60) 0 = .ok (.aload_n 0, 1) := by decide +kernel
theorem d_M_unit_1 : decode (tm_c 60) 1 = .ok (.iconst (0), 1) := by decide +kernel
theorem d_M_unit_2 : decode (tm_c 60) 2 = .ok (.putfield 78, 3) := by decide +kernel
theorem d_M_unit_5 : decode (tm_c 60) 5 = .ok (.iload_n 1, 1) := by decide +kernel
theorem d_M_unit_6 : decode (tm_c 60) 6 = .ok (.invokestatic 128, 3) := by decide +kernel
theorem d_M_unit_9 : decode (tm_c 60) 9 = .ok (.ifCond .eq (7), 3) := by decide +kernel
theorem d_M_unit_12 : decode (tm_c 60) 12 = .ok (.iload_n 2, 1) := by decide +kernel
theorem d_M_unit_13 : decode (tm_c 60) 13 = .ok (.ifCond .ge (5), 3) := by decide +kernel
theorem d_M_unit_16 : decode (tm_c 60) 16 = .ok (.iconst (-1), 1) := by decide +kernel
theorem d_M_unit_17 : decode (tm_c 60) 17 = .ok (.ireturn, 1) := by decide +kernel
theorem d_M_unit_18 : decode (tm_c 60) 18 = .ok (.aload_n 0, 1) := by decide +kernel
theorem d_M_unit_19 : decode (tm_c 60) 19 = .ok (.iload_n 1, 1) := by decide +kernel
theorem d_M_unit_20 : decode (tm_c 60) 20 = .ok (.invokevirtual 134, 3) := by decide +kernel
theorem d_M_unit_23 : decode (tm_c 60) 23 = .ok (.iload_n 2, 1) := by decide +kernel
theorem d_M_unit_24 : decode (tm_c 60) 24 = .ok (.istore_n 3, 1) := by decide +kernel
theorem d_M_unit_25 : decode (tm_c 60) 25 = .ok (.iconst (0), 1) := by decide +kernel
theorem d_M_unit_26 : decode (tm_c 60) 26 = .ok (.istore 4, 2) := by decide +kernel
theorem d_M_unit_28 : decode (tm_c 60) 28 = .ok (.iload 4, 2) := by decide +kernel
theorem d_M_unit_30 : decode (tm_c 60) 30 = .ok (.aload_n 0, 1) := by decide +kernel
theorem d_M_unit_31 : decode (tm_c 60) 31 = .ok (.getfield 101, 3) := by decide +kernel
theorem d_M_unit_34 : decode (tm_c 60) 34 = .ok (.if_icmp .ge (91), 3) := by decide +kernel
theorem d_M_unit_37 : decode (tm_c 60) 37 = .ok (.aload_n 0, 1) := by decide +kernel
theorem d_M_unit_38 : decode (tm_c 60) 38 = .ok (.getfield 19, 3) := by decide +kernel
theorem d_M_unit_41 : decode (tm_c 60) 41 = .ok (.aload_n 0, 1) := by decide +kernel
theorem d_M_unit_42 : decode (tm_c 60) 42 = .ok (.getfield 54, 3) := by decide +kernel
theorem d_M_unit_45 : decode (tm_c 60) 45 = .ok (.iload 4, 2) := by decide +kernel
theorem d_M_unit_47 : decode (tm_c 60) 47 = .ok (.iaload, 1) := by decide +kernel
theorem d_M_unit_48 : decode (tm_c 60) 48 = .ok (.iaload, 1) := by decide +kernel
theorem d_M_unit_49 : decode (tm_c 60) 49 = .ok (.istore 5, 2) := by decide +kernel
theorem d_M_unit_51 : decode (tm_c 60) 51 = .ok (.iload 5, 2) := by decide +kernel
theorem d_M_unit_53 : decode (tm_c 60) 53 = .ok (.ldc 151, 2) := by decide +kernel
theorem d_M_unit_55 : decode (tm_c 60) 55 = .ok (.if_icmp .le (7), 3) := by decide +kernel
theorem d_M_unit_58 : decode (tm_c 60) 58 = .ok (.iconst (2), 1) := by decide +kernel
theorem d_M_unit_59 : decode (tm_c 60) 59 = .ok (.goto (4), 3) := by decide +kernel
theorem d_M_unit_62 : decode (tm_c 60) 62 = .ok (.iconst (1), 1) := by decide +kernel
theorem d_M_unit_63 : decode (tm_c 60) 63 = .ok (.istore 6, 2) := by decide +kernel
theorem d_M_unit_65 : decode (tm_c 60) 65 = .ok (.iload_n 3, 1) := by decide +kernel
theorem d_M_unit_66 : decode (tm_c 60) 66 = .ok (.iload 6, 2) := by decide +kernel
theorem d_M_unit_68 : decode (tm_c 60) 68 = .ok (.if_icmp .ge (46), 3) := by decide +kernel
theorem d_M_unit_71 : decode (tm_c 60) 71 = .ok (.iload 6, 2) := by decide +kernel
theorem d_M_unit_73 : decode (tm_c 60) 73 = .ok (.iconst (1), 1) := by decide +kernel
theorem d_M_unit_74 : decode (tm_c 60) 74 = .ok (.if_icmp .ne (8), 3) := by decide +kernel
theorem d_M_unit_77 : decode (tm_c 60) 77 = .ok (.iload 5, 2) := by decide +kernel
theorem d_M_unit_79 : decode (tm_c 60) 79 = .ok (.goto (34), 3) := by decide +kernel
theorem d_M_unit_82 : decode (tm_c 60) 82 = .ok (.iload_n 3, 1) := by decide +kernel
theorem d_M_unit_83 : decode (tm_c 60) 83 = .ok (.ifCond .ne (18), 3) := by decide +kernel
theorem d_M_unit_86 : decode (tm_c 60) 86 = .ok (.ldc 152, 2) := by decide +kernel
theorem d_M_unit_88 : decode (tm_c 60) 88 = .ok (.iload 5, 2) := by decide +kernel
theorem d_M_unit_90 : decode (tm_c 60) 90 = .ok (.ldc 153, 2) := by decide +kernel
theorem d_M_unit_92 : decode (tm_c 60) 92 = .ok (.isub, 1) := by decide +kernel
theorem d_M_unit_93 : decode (tm_c 60) 93 = .ok (.sipush (1024), 3) := by decide +kernel
theorem d_M_unit_96 : decode (tm_c 60) 96 = .ok (.idiv, 1) := by decide +kernel
theorem d_M_unit_97 : decode (tm_c 60) 97 = .ok (.iadd, 1) := by decide +kernel
theorem d_M_unit_98 : decode (tm_c 60) 98 = .ok (.goto (15), 3) := by decide +kernel
theorem d_M_unit_101 : decode (tm_c 60) 101 = .ok (.ldc 154, 2) := by decide +kernel
theorem d_M_unit_103 : decode (tm_c 60) 103 = .ok (.iload 5, 2) := by decide +kernel
theorem d_M_unit_105 : decode (tm_c 60) 105 = .ok (.ldc 153, 2) := by decide +kernel
theorem d_M_unit_107 : decode (tm_c 60) 107 = .ok (.isub, 1) := by decide +kernel
theorem d_M_unit_108 : decode (tm_c 60) 108 = .ok (.sipush (1024), 3) := by decide +kernel
theorem d_M_unit_111 : decode (tm_c 60) 111 = .ok (.irem, 1) := by decide +kernel
theorem d_M_unit_112 : decode (tm_c 60) 112 = .ok (.iadd, 1) := by decide +kernel
theorem d_M_unit_113 : decode (tm_c 60) 113 = .ok (.ireturn, 1) := by decide +kernel
theorem d_M_unit_114 : decode (tm_c 60) 114 = .ok (.iload_n 3, 1) := by decide +kernel
theorem d_M_unit_115 : decode (tm_c 60) 115 = .ok (.iload 6, 2) := by decide +kernel
theorem d_M_unit_117 : decode (tm_c 60) 117 = .ok (.isub, 1) := by decide +kernel
theorem d_M_unit_118 : decode (tm_c 60) 118 = .ok (.istore_n 3, 1) := by decide +kernel
theorem d_M_unit_119 : decode (tm_c 60) 119 = .ok (.iinc 4 (1), 3) := by decide +kernel
theorem d_M_unit_122 : decode (tm_c 60) 122 = .ok (.goto (-94), 3) := by decide +kernel
theorem d_M_unit_125 : decode (tm_c 60) 125 = .ok (.iconst (-1), 1) := by decide +kernel
theorem d_M_unit_126 : decode (tm_c 60) 126 = .ok (.ireturn, 1) := by decide +kernel
theorem g_M_unit_0 : jSnd 60 0 (o_aload 1 0) := snd_aload_n d_M_unit_0 rfl
theorem g_M_unit_1 : jSnd 60 1 (o_push 2 (0)) := snd_iconst (n := 0) (z := 0) d_M_unit_1 (by decide) (by unfold jrg; omega)
theorem g_M_unit_2 : jSnd 60 2 (o_putI 5 14 (0)) := snd_putI (ci := 4) (k := 0) d_M_unit_2 rfl tm_in4 tm_D4 tm_ty4 tm_nm4 (by decide) wd_338 rfl rfl rfl
theorem g_M_unit_5 : jSnd 60 5 (o_iload 6 1) := snd_iload_n d_M_unit_5 rfl
theorem g_M_unit_6 : jSnd 60 6 (o_call 9 44 1 1 0 false) := snd_callS (n := 1) d_M_unit_6 (by decide) (by decide) (by decide) wc_44 wd_339 wd_340 wd_7 (by decide +kernel) (by decide) (by decide)
theorem g_M_unit_9 : jSnd 60 9 (o_if_eq 12 16) := snd_if_eq d_M_unit_9 (by decide)
theorem g_M_unit_12 : jSnd 60 12 (o_iload 13 2) := snd_iload_n d_M_unit_12 rfl
theorem g_M_unit_13 : jSnd 60 13 (o_if_ge 16 18) := snd_if_ge d_M_unit_13 (by decide)
theorem g_M_unit_16 : jSnd 60 16 (o_push 17 (-1)) := snd_iconst (n := -1) (z := -1) d_M_unit_16 (by decide) (by unfold jrg; omega)
theorem g_M_unit_17 : jSnd 60 17 (o_iret) := snd_iret d_M_unit_17 rfl
theorem g_M_unit_18 : jSnd 60 18 (o_aload 19 0) := snd_aload_n d_M_unit_18 rfl
theorem g_M_unit_19 : jSnd 60 19 (o_iload 20 1) := snd_iload_n d_M_unit_19 rfl
theorem g_M_unit_20 : jSnd 60 20 (o_call 23 43 2 4 14 true) := snd_callV (ci := 4) (n := 1) rfl d_M_unit_20 (by decide) (by decide) (by decide) wc_43 wd_343 wd_344 wd_345 wd_7 (by decide +kernel) (by decide) (by decide)
theorem g_M_unit_23 : jSnd 60 23 (o_iload 24 2) := snd_iload_n d_M_unit_23 rfl
theorem g_M_unit_24 : jSnd 60 24 (o_istore 25 3) := snd_istore_n d_M_unit_24 rfl (by decide)
theorem g_M_unit_25 : jSnd 60 25 (o_push 26 (0)) := snd_iconst (n := 0) (z := 0) d_M_unit_25 (by decide) (by unfold jrg; omega)
theorem g_M_unit_26 : jSnd 60 26 (o_istore 28 4) := snd_istore d_M_unit_26 (by decide)
theorem g_M_unit_28 : jSnd 60 28 (o_iload 30 4) := snd_iload d_M_unit_28
theorem g_M_unit_30 : jSnd 60 30 (o_aload 31 0) := snd_aload_n d_M_unit_30 rfl
theorem g_M_unit_31 : jSnd 60 31 (o_getI 34 14 (17)) := snd_getI (ci := 4) (k := 17) d_M_unit_31 rfl tm_in4 (by decide) wd_317 rfl
theorem g_M_unit_34 : jSnd 60 34 (o_ic_ge 37 125) := snd_ic_ge d_M_unit_34 (by decide)
theorem g_M_unit_37 : jSnd 60 37 (o_aload 38 0) := snd_aload_n d_M_unit_37 rfl
theorem g_M_unit_38 : jSnd 60 38 (o_getR 41 14 (5)) := snd_getR (ci := 4) (k := 5) d_M_unit_38 rfl tm_in4 (by decide) wd_285 rfl
theorem g_M_unit_41 : jSnd 60 41 (o_aload 42 0) := snd_aload_n d_M_unit_41 rfl
theorem g_M_unit_42 : jSnd 60 42 (o_getR 45 14 (18)) := snd_getR (ci := 4) (k := 18) d_M_unit_42 rfl tm_in4 (by decide) wd_297 rfl
theorem g_M_unit_45 : jSnd 60 45 (o_iload 47 4) := snd_iload d_M_unit_45
theorem g_M_unit_47 : jSnd 60 47 (o_nald 48 1) := snd_iald d_M_unit_47
theorem g_M_unit_48 : jSnd 60 48 (o_nald 49 1) := snd_iald d_M_unit_48
theorem g_M_unit_49 : jSnd 60 49 (o_istore 51 5) := snd_istore d_M_unit_49 (by decide)
theorem g_M_unit_51 : jSnd 60 51 (o_iload 53 5) := snd_iload d_M_unit_51
theorem g_M_unit_53 : jSnd 60 53 (o_push 55 (65535)) := snd_ldc (i := 151) (z := 65535) d_M_unit_53 wd_358 (by unfold jrg; omega)
theorem g_M_unit_55 : jSnd 60 55 (o_ic_le 58 62) := snd_ic_le d_M_unit_55 (by decide)
theorem g_M_unit_58 : jSnd 60 58 (o_push 59 (2)) := snd_iconst (n := 2) (z := 2) d_M_unit_58 (by decide) (by unfold jrg; omega)
theorem g_M_unit_59 : jSnd 60 59 (o_goto 63) := snd_goto d_M_unit_59 (by decide)
theorem g_M_unit_62 : jSnd 60 62 (o_push 63 (1)) := snd_iconst (n := 1) (z := 1) d_M_unit_62 (by decide) (by unfold jrg; omega)
theorem g_M_unit_63 : jSnd 60 63 (o_istore 65 6) := snd_istore d_M_unit_63 (by decide)
theorem g_M_unit_65 : jSnd 60 65 (o_iload 66 3) := snd_iload_n d_M_unit_65 rfl
theorem g_M_unit_66 : jSnd 60 66 (o_iload 68 6) := snd_iload d_M_unit_66
theorem g_M_unit_68 : jSnd 60 68 (o_ic_ge 71 114) := snd_ic_ge d_M_unit_68 (by decide)
theorem g_M_unit_71 : jSnd 60 71 (o_iload 73 6) := snd_iload d_M_unit_71
theorem g_M_unit_73 : jSnd 60 73 (o_push 74 (1)) := snd_iconst (n := 1) (z := 1) d_M_unit_73 (by decide) (by unfold jrg; omega)
theorem g_M_unit_74 : jSnd 60 74 (o_ic_ne 77 82) := snd_ic_ne d_M_unit_74 (by decide)
theorem g_M_unit_77 : jSnd 60 77 (o_iload 79 5) := snd_iload d_M_unit_77
theorem g_M_unit_79 : jSnd 60 79 (o_goto 113) := snd_goto d_M_unit_79 (by decide)
theorem g_M_unit_82 : jSnd 60 82 (o_iload 83 3) := snd_iload_n d_M_unit_82 rfl
theorem g_M_unit_83 : jSnd 60 83 (o_if_ne 86 101) := snd_if_ne d_M_unit_83 (by decide)
theorem g_M_unit_86 : jSnd 60 86 (o_push 88 (55296)) := snd_ldc (i := 152) (z := 55296) d_M_unit_86 wd_359 (by unfold jrg; omega)
theorem g_M_unit_88 : jSnd 60 88 (o_iload 90 5) := snd_iload d_M_unit_88
theorem g_M_unit_90 : jSnd 60 90 (o_push 92 (65536)) := snd_ldc (i := 153) (z := 65536) d_M_unit_90 wd_360 (by unfold jrg; omega)
theorem g_M_unit_92 : jSnd 60 92 (o_bin 93 f_sub) := snd_isub d_M_unit_92
theorem g_M_unit_93 : jSnd 60 93 (o_push 96 (1024)) := snd_sipush (n := 1024) (z := 1024) d_M_unit_93 (by decide) (by unfold jrg; omega)
theorem g_M_unit_96 : jSnd 60 96 (o_dv 97 f_div) := snd_idiv d_M_unit_96
theorem g_M_unit_97 : jSnd 60 97 (o_bin 98 f_add) := snd_iadd d_M_unit_97
theorem g_M_unit_98 : jSnd 60 98 (o_goto 113) := snd_goto d_M_unit_98 (by decide)
theorem g_M_unit_101 : jSnd 60 101 (o_push 103 (56320)) := snd_ldc (i := 154) (z := 56320) d_M_unit_101 wd_361 (by unfold jrg; omega)
theorem g_M_unit_103 : jSnd 60 103 (o_iload 105 5) := snd_iload d_M_unit_103
theorem g_M_unit_105 : jSnd 60 105 (o_push 107 (65536)) := snd_ldc (i := 153) (z := 65536) d_M_unit_105 wd_360 (by unfold jrg; omega)
theorem g_M_unit_107 : jSnd 60 107 (o_bin 108 f_sub) := snd_isub d_M_unit_107
theorem g_M_unit_108 : jSnd 60 108 (o_push 111 (1024)) := snd_sipush (n := 1024) (z := 1024) d_M_unit_108 (by decide) (by unfold jrg; omega)
theorem g_M_unit_111 : jSnd 60 111 (o_dv 112 f_rem) := snd_irem d_M_unit_111
theorem g_M_unit_112 : jSnd 60 112 (o_bin 113 f_add) := snd_iadd d_M_unit_112
theorem g_M_unit_113 : jSnd 60 113 (o_iret) := snd_iret d_M_unit_113 rfl
theorem g_M_unit_114 : jSnd 60 114 (o_iload 115 3) := snd_iload_n d_M_unit_114 rfl
theorem g_M_unit_115 : jSnd 60 115 (o_iload 117 6) := snd_iload d_M_unit_115
theorem g_M_unit_117 : jSnd 60 117 (o_bin 118 f_sub) := snd_isub d_M_unit_117
theorem g_M_unit_118 : jSnd 60 118 (o_istore 119 3) := snd_istore_n d_M_unit_118 rfl (by decide)
theorem g_M_unit_119 : jSnd 60 119 (o_iinc 122 4 (1)) := snd_iinc d_M_unit_119 (by decide)
theorem g_M_unit_122 : jSnd 60 122 (o_goto 28) := snd_goto d_M_unit_122 (by decide)
theorem g_M_unit_125 : jSnd 60 125 (o_push 126 (-1)) := snd_iconst (n := -1) (z := -1) d_M_unit_125 (by decide) (by unfold jrg; omega)
theorem g_M_unit_126 : jSnd 60 126 (o_iret) := snd_iret d_M_unit_126 rfl
set_option maxRecDepth 100000 in
theorem ga_M_unit : jAll 60 0 tmp_M_unit := ⟨g_M_unit_0, g_M_unit_1, g_M_unit_2, snd_bad _ _, snd_bad _ _, g_M_unit_5, g_M_unit_6, snd_bad _ _, snd_bad _ _, g_M_unit_9, snd_bad _ _, snd_bad _ _, g_M_unit_12, g_M_unit_13, snd_bad _ _, snd_bad _ _, g_M_unit_16, g_M_unit_17, g_M_unit_18, g_M_unit_19, g_M_unit_20, snd_bad _ _, snd_bad _ _, g_M_unit_23, g_M_unit_24, g_M_unit_25, g_M_unit_26, snd_bad _ _, g_M_unit_28, snd_bad _ _, g_M_unit_30, g_M_unit_31, snd_bad _ _, snd_bad _ _, g_M_unit_34, snd_bad _ _, snd_bad _ _, g_M_unit_37, g_M_unit_38, snd_bad _ _, snd_bad _ _, g_M_unit_41, g_M_unit_42, snd_bad _ _, snd_bad _ _, g_M_unit_45, snd_bad _ _, g_M_unit_47, g_M_unit_48, g_M_unit_49, snd_bad _ _, g_M_unit_51, snd_bad _ _, g_M_unit_53, snd_bad _ _, g_M_unit_55, snd_bad _ _, snd_bad _ _, g_M_unit_58, g_M_unit_59, snd_bad _ _, snd_bad _ _, g_M_unit_62, g_M_unit_63, snd_bad _ _, g_M_unit_65, g_M_unit_66, snd_bad _ _, g_M_unit_68, snd_bad _ _, snd_bad _ _, g_M_unit_71, snd_bad _ _, g_M_unit_73, g_M_unit_74, snd_bad _ _, snd_bad _ _, g_M_unit_77, snd_bad _ _, g_M_unit_79, snd_bad _ _, snd_bad _ _, g_M_unit_82, g_M_unit_83, snd_bad _ _, snd_bad _ _, g_M_unit_86, snd_bad _ _, g_M_unit_88, snd_bad _ _, g_M_unit_90, snd_bad _ _, g_M_unit_92, g_M_unit_93, snd_bad _ _, snd_bad _ _, g_M_unit_96, g_M_unit_97, g_M_unit_98, snd_bad _ _, snd_bad _ _, g_M_unit_101, snd_bad _ _, g_M_unit_103, snd_bad _ _, g_M_unit_105, snd_bad _ _, g_M_unit_107, g_M_unit_108, snd_bad _ _, snd_bad _ _, g_M_unit_111, g_M_unit_112, g_M_unit_113, g_M_unit_114, g_M_unit_115, snd_bad _ _, g_M_unit_117, g_M_unit_118, g_M_unit_119, snd_bad _ _, snd_bad _ _, g_M_unit_122, snd_bad _ _, snd_bad _ _, g_M_unit_125, g_M_unit_126, trivial⟩
theorem d_M_styled_0 : decode (tm_c 61) 0 = .ok (.aload_n 0, 1) := by decide +kernel
theorem d_M_styled_1 : decode (tm_c 61) 1 = .ok (.iconst (0), 1) := by decide +kernel
theorem d_M_styled_2 : decode (tm_c 61) 2 = .ok (.putfield 78, 3) := by decide +kernel
theorem d_M_styled_5 : decode (tm_c 61) 5 = .ok (.aload_n 0, 1) := by decide +kernel
theorem d_M_styled_6 : decode (tm_c 61) 6 = .ok (.iload_n 1, 1) := by decide +kernel
theorem d_M_styled_7 : decode (tm_c 61) 7 = .ok (.iload_n 2, 1) := by decide +kernel
theorem d_M_styled_8 : decode (tm_c 61) 8 = .ok (.invokevirtual 148, 3) := by decide +kernel
theorem d_M_styled_11 : decode (tm_c 61) 11 = .ok (.ifCond .eq (25), 3) := by decide +kernel
theorem d_M_styled_14 : decode (tm_c 61) 14 = .ok (.iload_n 3, 1) := by decide +kernel
theorem d_M_styled_15 : decode (tm_c 61) 15 = .ok (.iconst (0), 1) := by decide +kernel
theorem d_M_styled_16 : decode (tm_c 61) 16 = .ok (.iconst (3), 1) := by decide +kernel
theorem d_M_styled_17 : decode (tm_c 61) 17 = .ok (.invokestatic 121, 3) := by decide +kernel
theorem d_M_styled_20 : decode (tm_c 61) 20 = .ok (.ifCond .eq (16), 3) := by decide +kernel
theorem d_M_styled_23 : decode (tm_c 61) 23 = .ok (.aload_n 0, 1) := by decide +kernel
theorem d_M_styled_24 : decode (tm_c 61) 24 = .ok (.getfield 57, 3) := by decide +kernel
theorem d_M_styled_27 : decode (tm_c 61) 27 = .ok (.iconst (4), 1) := by decide +kernel
theorem d_M_styled_28 : decode (tm_c 61) 28 = .ok (.iload_n 2, 1) := by decide +kernel
theorem d_M_styled_29 : decode (tm_c 61) 29 = .ok (.imul, 1) := by decide +kernel
theorem d_M_styled_30 : decode (tm_c 61) 30 = .ok (.iload_n 3, 1) := by decide +kernel
theorem d_M_styled_31 : decode (tm_c 61) 31 = .ok (.iadd, 1) := by decide +kernel
theorem d_M_styled_32 : decode (tm_c 61) 32 = .ok (.iaload, 1) := by decide +kernel
theorem d_M_styled_33 : decode (tm_c 61) 33 = .ok (.goto (4), 3) := by decide +kernel
theorem d_M_styled_36 : decode (tm_c 61) 36 = .ok (.iconst (-1), 1) := by decide +kernel
theorem d_M_styled_37 : decode (tm_c 61) 37 = .ok (.ireturn, 1) := by decide +kernel
theorem g_M_styled_0 : jSnd 61 0 (o_aload 1 0) := snd_aload_n d_M_styled_0 rfl
theorem g_M_styled_1 : jSnd 61 1 (o_push 2 (0)) := snd_iconst (n := 0) (z := 0) d_M_styled_1 (by decide) (by unfold jrg; omega)
theorem g_M_styled_2 : jSnd 61 2 (o_putI 5 14 (0)) := snd_putI (ci := 4) (k := 0) d_M_styled_2 rfl tm_in4 tm_D4 tm_ty4 tm_nm4 (by decide) wd_338 rfl rfl rfl
theorem g_M_styled_5 : jSnd 61 5 (o_aload 6 0) := snd_aload_n d_M_styled_5 rfl
theorem g_M_styled_6 : jSnd 61 6 (o_iload 7 1) := snd_iload_n d_M_styled_6 rfl
theorem g_M_styled_7 : jSnd 61 7 (o_iload 8 2) := snd_iload_n d_M_styled_7 rfl
theorem g_M_styled_8 : jSnd 61 8 (o_call 11 57 3 3 14 false) := snd_callV (ci := 4) (n := 2) rfl d_M_styled_8 (by decide) (by decide) (by decide) wc_57 wd_355 wd_356 wd_357 wd_7 (by decide +kernel) (by decide) (by decide)
theorem g_M_styled_11 : jSnd 61 11 (o_if_eq 14 36) := snd_if_eq d_M_styled_11 (by decide)
theorem g_M_styled_14 : jSnd 61 14 (o_iload 15 3) := snd_iload_n d_M_styled_14 rfl
theorem g_M_styled_15 : jSnd 61 15 (o_push 16 (0)) := snd_iconst (n := 0) (z := 0) d_M_styled_15 (by decide) (by unfold jrg; omega)
theorem g_M_styled_16 : jSnd 61 16 (o_push 17 (3)) := snd_iconst (n := 3) (z := 3) d_M_styled_16 (by decide) (by unfold jrg; omega)
theorem g_M_styled_17 : jSnd 61 17 (o_call 20 34 3 3 0 false) := snd_callS (n := 3) d_M_styled_17 (by decide) (by decide) (by decide) wc_34 wd_333 wd_334 wd_7 (by decide +kernel) (by decide) (by decide)
theorem g_M_styled_20 : jSnd 61 20 (o_if_eq 23 36) := snd_if_eq d_M_styled_20 (by decide)
theorem g_M_styled_23 : jSnd 61 23 (o_aload 24 0) := snd_aload_n d_M_styled_23 rfl
theorem g_M_styled_24 : jSnd 61 24 (o_getR 27 14 (19)) := snd_getR (ci := 4) (k := 19) d_M_styled_24 rfl tm_in4 (by decide) wd_298 rfl
theorem g_M_styled_27 : jSnd 61 27 (o_push 28 (4)) := snd_iconst (n := 4) (z := 4) d_M_styled_27 (by decide) (by unfold jrg; omega)
theorem g_M_styled_28 : jSnd 61 28 (o_iload 29 2) := snd_iload_n d_M_styled_28 rfl
theorem g_M_styled_29 : jSnd 61 29 (o_bin 30 f_mul) := snd_imul d_M_styled_29
theorem g_M_styled_30 : jSnd 61 30 (o_iload 31 3) := snd_iload_n d_M_styled_30 rfl
theorem g_M_styled_31 : jSnd 61 31 (o_bin 32 f_add) := snd_iadd d_M_styled_31
theorem g_M_styled_32 : jSnd 61 32 (o_nald 33 1) := snd_iald d_M_styled_32
theorem g_M_styled_33 : jSnd 61 33 (o_goto 37) := snd_goto d_M_styled_33 (by decide)
theorem g_M_styled_36 : jSnd 61 36 (o_push 37 (-1)) := snd_iconst (n := -1) (z := -1) d_M_styled_36 (by decide) (by unfold jrg; omega)
theorem g_M_styled_37 : jSnd 61 37 (o_iret) := snd_iret d_M_styled_37 rfl
set_option maxRecDepth 100000 in
theorem ga_M_styled : jAll 61 0 tmp_M_styled := ⟨g_M_styled_0, g_M_styled_1, g_M_styled_2, snd_bad _ _, snd_bad _ _, g_M_styled_5, g_M_styled_6, g_M_styled_7, g_M_styled_8, snd_bad _ _, snd_bad _ _, g_M_styled_11, snd_bad _ _, snd_bad _ _, g_M_styled_14, g_M_styled_15, g_M_styled_16, g_M_styled_17, snd_bad _ _, snd_bad _ _, g_M_styled_20, snd_bad _ _, snd_bad _ _, g_M_styled_23, g_M_styled_24, snd_bad _ _, snd_bad _ _, g_M_styled_27, g_M_styled_28, g_M_styled_29, g_M_styled_30, g_M_styled_31, g_M_styled_32, g_M_styled_33, snd_bad _ _, snd_bad _ _, g_M_styled_36, g_M_styled_37, trivial⟩
theorem d_M_areAlike_0 : decode (tm_c 62) 0 = .ok (.iconst (0), 1) := by decide +kernel
theorem d_M_areAlike_1 : decode (tm_c 62) 1 = .ok (.istore_n 3, 1) := by decide +kernel
theorem d_M_areAlike_2 : decode (tm_c 62) 2 = .ok (.iload_n 3, 1) := by decide +kernel
theorem d_M_areAlike_3 : decode (tm_c 62) 3 = .ok (.iconst (4), 1) := by decide +kernel
theorem d_M_areAlike_4 : decode (tm_c 62) 4 = .ok (.if_icmp .ge (34), 3) := by decide +kernel
theorem d_M_areAlike_7 : decode (tm_c 62) 7 = .ok (.aload_n 0, 1) := by decide +kernel
theorem d_M_areAlike_8 : decode (tm_c 62) 8 = .ok (.getfield 57, 3) := by decide +kernel
theorem d_M_areAlike_11 : decode (tm_c 62) 11 = .ok (.iconst (4), 1) := by decide +kernel
theorem d_M_areAlike_12 : decode (tm_c 62) 12 = .ok (.iload_n 1, 1) := by decide +kernel
theorem d_M_areAlike_13 : decode (tm_c 62) 13 = .ok (.imul, 1) := by decide +kernel
theorem d_M_areAlike_14 : decode (tm_c 62) 14 = .ok (.iload_n 3, 1) := by decide +kernel
theorem d_M_areAlike_15 : decode (tm_c 62) 15 = .ok (.iadd, 1) := by decide +kernel
theorem d_M_areAlike_16 : decode (tm_c 62) 16 = .ok (.iaload, 1) := by decide +kernel
theorem d_M_areAlike_17 : decode (tm_c 62) 17 = .ok (.aload_n 0, 1) := by decide +kernel
theorem d_M_areAlike_18 : decode (tm_c 62) 18 = .ok (.getfield 57, 3) := by decide +kernel
theorem d_M_areAlike_21 : decode (tm_c 62) 21 = .ok (.iconst (4), 1) := by decide +kernel
theorem d_M_areAlike_22 : decode (tm_c 62) 22 = .ok (.iload_n 2, 1) := by decide +kernel
theorem d_M_areAlike_23 : decode (tm_c 62) 23 = .ok (.imul, 1) := by decide +kernel
theorem d_M_areAlike_24 : decode (tm_c 62) 24 = .ok (.iload_n 3, 1) := by decide +kernel
theorem d_M_areAlike_25 : decode (tm_c 62) 25 = .ok (.iadd, 1) := by decide +kernel
theorem d_M_areAlike_26 : decode (tm_c 62) 26 = .ok (.iaload, 1) := by decide +kernel
theorem d_M_areAlike_27 : decode (tm_c 62) 27 = .ok (.if_icmp .eq (5), 3) := by decide +kernel
theorem d_M_areAlike_30 : decode (tm_c 62) 30 = .ok (.iconst (0), 1) := by decide +kernel
theorem d_M_areAlike_31 : decode (tm_c 62) 31 = .ok (.ireturn, 1) := by decide +kernel
theorem d_M_areAlike_32 : decode (tm_c 62) 32 = .ok (.iinc 3 (1), 3) := by decide +kernel
theorem d_M_areAlike_35 : decode (tm_c 62) 35 = .ok (.goto (-33), 3) := by decide +kernel
theorem d_M_areAlike_38 : decode (tm_c 62) 38 = .ok (.iconst (1), 1) := by decide +kernel
theorem d_M_areAlike_39 : decode (tm_c 62) 39 = .ok (.ireturn, 1) := by decide +kernel
theorem g_M_areAlike_0 : jSnd 62 0 (o_push 1 (0)) := snd_iconst (n := 0) (z := 0) d_M_areAlike_0 (by decide) (by unfold jrg; omega)
theorem g_M_areAlike_1 : jSnd 62 1 (o_istore 2 3) := snd_istore_n d_M_areAlike_1 rfl (by decide)
theorem g_M_areAlike_2 : jSnd 62 2 (o_iload 3 3) := snd_iload_n d_M_areAlike_2 rfl
theorem g_M_areAlike_3 : jSnd 62 3 (o_push 4 (4)) := snd_iconst (n := 4) (z := 4) d_M_areAlike_3 (by decide) (by unfold jrg; omega)
theorem g_M_areAlike_4 : jSnd 62 4 (o_ic_ge 7 38) := snd_ic_ge d_M_areAlike_4 (by decide)
theorem g_M_areAlike_7 : jSnd 62 7 (o_aload 8 0) := snd_aload_n d_M_areAlike_7 rfl
theorem g_M_areAlike_8 : jSnd 62 8 (o_getR 11 14 (19)) := snd_getR (ci := 4) (k := 19) d_M_areAlike_8 rfl tm_in4 (by decide) wd_298 rfl
theorem g_M_areAlike_11 : jSnd 62 11 (o_push 12 (4)) := snd_iconst (n := 4) (z := 4) d_M_areAlike_11 (by decide) (by unfold jrg; omega)
theorem g_M_areAlike_12 : jSnd 62 12 (o_iload 13 1) := snd_iload_n d_M_areAlike_12 rfl
theorem g_M_areAlike_13 : jSnd 62 13 (o_bin 14 f_mul) := snd_imul d_M_areAlike_13
theorem g_M_areAlike_14 : jSnd 62 14 (o_iload 15 3) := snd_iload_n d_M_areAlike_14 rfl
theorem g_M_areAlike_15 : jSnd 62 15 (o_bin 16 f_add) := snd_iadd d_M_areAlike_15
theorem g_M_areAlike_16 : jSnd 62 16 (o_nald 17 1) := snd_iald d_M_areAlike_16
theorem g_M_areAlike_17 : jSnd 62 17 (o_aload 18 0) := snd_aload_n d_M_areAlike_17 rfl
theorem g_M_areAlike_18 : jSnd 62 18 (o_getR 21 14 (19)) := snd_getR (ci := 4) (k := 19) d_M_areAlike_18 rfl tm_in4 (by decide) wd_298 rfl
theorem g_M_areAlike_21 : jSnd 62 21 (o_push 22 (4)) := snd_iconst (n := 4) (z := 4) d_M_areAlike_21 (by decide) (by unfold jrg; omega)
theorem g_M_areAlike_22 : jSnd 62 22 (o_iload 23 2) := snd_iload_n d_M_areAlike_22 rfl
theorem g_M_areAlike_23 : jSnd 62 23 (o_bin 24 f_mul) := snd_imul d_M_areAlike_23
theorem g_M_areAlike_24 : jSnd 62 24 (o_iload 25 3) := snd_iload_n d_M_areAlike_24 rfl
theorem g_M_areAlike_25 : jSnd 62 25 (o_bin 26 f_add) := snd_iadd d_M_areAlike_25
theorem g_M_areAlike_26 : jSnd 62 26 (o_nald 27 1) := snd_iald d_M_areAlike_26
theorem g_M_areAlike_27 : jSnd 62 27 (o_ic_eq 30 32) := snd_ic_eq d_M_areAlike_27 (by decide)
theorem g_M_areAlike_30 : jSnd 62 30 (o_push 31 (0)) := snd_iconst (n := 0) (z := 0) d_M_areAlike_30 (by decide) (by unfold jrg; omega)
theorem g_M_areAlike_31 : jSnd 62 31 (o_zret) := snd_zret d_M_areAlike_31 rfl
theorem g_M_areAlike_32 : jSnd 62 32 (o_iinc 35 3 (1)) := snd_iinc d_M_areAlike_32 (by decide)
theorem g_M_areAlike_35 : jSnd 62 35 (o_goto 2) := snd_goto d_M_areAlike_35 (by decide)
theorem g_M_areAlike_38 : jSnd 62 38 (o_push 39 (1)) := snd_iconst (n := 1) (z := 1) d_M_areAlike_38 (by decide) (by unfold jrg; omega)
theorem g_M_areAlike_39 : jSnd 62 39 (o_zret) := snd_zret d_M_areAlike_39 rfl
set_option maxRecDepth 100000 in
theorem ga_M_areAlike : jAll 62 0 tmp_M_areAlike := ⟨g_M_areAlike_0, g_M_areAlike_1, g_M_areAlike_2, g_M_areAlike_3, g_M_areAlike_4, snd_bad _ _, snd_bad _ _, g_M_areAlike_7, g_M_areAlike_8, snd_bad _ _, snd_bad _ _, g_M_areAlike_11, g_M_areAlike_12, g_M_areAlike_13, g_M_areAlike_14, g_M_areAlike_15, g_M_areAlike_16, g_M_areAlike_17, g_M_areAlike_18, snd_bad _ _, snd_bad _ _, g_M_areAlike_21, g_M_areAlike_22, g_M_areAlike_23, g_M_areAlike_24, g_M_areAlike_25, g_M_areAlike_26, g_M_areAlike_27, snd_bad _ _, snd_bad _ _, g_M_areAlike_30, g_M_areAlike_31, g_M_areAlike_32, snd_bad _ _, snd_bad _ _, g_M_areAlike_35, snd_bad _ _, snd_bad _ _, g_M_areAlike_38, g_M_areAlike_39, trivial⟩
theorem d_M_findRun_0 : decode (tm_c 63) 0 = .ok (.iconst (0), 1) := by decide +kernel
theorem d_M_findRun_1 : decode (tm_c 63) 1 = .ok (.istore_n 2, 1) := by decide +kernel
theorem d_M_findRun_2 : decode (tm_c 63) 2 = .ok (.aload_n 0, 1) := by decide +kernel
theorem d_M_findRun_3 : decode (tm_c 63) 3 = .ok (.iconst (0), 1) := by decide +kernel
theorem d_M_findRun_4 : decode (tm_c 63) 4 = .ok (.putfield 155, 3) := by decide +kernel
theorem d_M_findRun_7 : decode (tm_c 63) 7 = .ok (.aload_n 0, 1) := by decide +kernel
theorem d_M_findRun_8 : decode (tm_c 63) 8 = .ok (.getfield 155, 3) := by decide +kernel
theorem d_M_findRun_11 : decode (tm_c 63) 11 = .ok (.aload_n 0, 1) := by decide +kernel
theorem d_M_findRun_12 : decode (tm_c 63) 12 = .ok (.getfield 101, 3) := by decide +kernel
theorem d_M_findRun_15 : decode (tm_c 63) 15 = .ok (.if_icmp .ge (63), 3) := by decide +kernel
theorem d_M_findRun_18 : decode (tm_c 63) 18 = .ok (.aload_n 0, 1) := by decide +kernel
theorem d_M_findRun_19 : decode (tm_c 63) 19 = .ok (.aload_n 0, 1) := by decide +kernel
theorem d_M_findRun_20 : decode (tm_c 63) 20 = .ok (.getfield 155, 3) := by decide +kernel
theorem d_M_findRun_23 : decode (tm_c 63) 23 = .ok (.putfield 158, 3) := by decide +kernel
theorem d_M_findRun_26 : decode (tm_c 63) 26 = .ok (.aload_n 0, 1) := by decide +kernel
theorem d_M_findRun_27 : decode (tm_c 63) 27 = .ok (.getfield 155, 3) := by decide +kernel
theorem d_M_findRun_30 : decode (tm_c 63) 30 = .ok (.aload_n 0, 1) := by decide +kernel
theorem d_M_findRun_31 : decode (tm_c 63) 31 = .ok (.getfield 101, 3) := by decide +kernel
theorem d_M_findRun_34 : decode (tm_c 63) 34 = .ok (.if_icmp .ge (31), 3) := by decide +kernel
theorem d_M_findRun_37 : decode (tm_c 63) 37 = .ok (.aload_n 0, 1) := by decide +kernel
theorem d_M_findRun_38 : decode (tm_c 63) 38 = .ok (.aload_n 0, 1) := by decide +kernel
theorem d_M_findRun_39 : decode (tm_c 63) 39 = .ok (.getfield 158, 3) := by decide +kernel
theorem d_M_findRun_42 : decode (tm_c 63) 42 = .ok (.aload_n 0, 1) := by decide +kernel
theorem d_M_findRun_43 : decode (tm_c 63) 43 = .ok (.getfield 155, 3) := by decide +kernel
theorem d_M_findRun_46 : decode (tm_c 63) 46 = .ok (.invokevirtual 161, 3) := by decide +kernel
theorem d_M_findRun_49 : decode (tm_c 63) 49 = .ok (.ifCond .eq (16), 3) := by decide +kernel
theorem d_M_findRun_52 : decode (tm_c 63) 52 = .ok (.aload_n 0, 1) := by decide +kernel
theorem d_M_findRun_53 : decode (tm_c 63) 53 = .ok (.dup, 1) := by decide +kernel
theorem d_M_findRun_54 : decode (tm_c 63) 54 = .ok (.getfield 155, 3) := by decide +kernel
theorem d_M_findRun_57 : decode (tm_c 63) 57 = .ok (.iconst (1), 1) := by decide +kernel
theorem d_M_findRun_58 : decode (tm_c 63) 58 = .ok (.iadd, 1) := by decide +kernel
theorem d_M_findRun_59 : decode (tm_c 63) 59 = .ok (.putfield 155, 3) := by decide +kernel
theorem d_M_findRun_62 : decode (tm_c 63) 62 = .ok (.goto (-36), 3) := by decide +kernel
theorem d_M_findRun_65 : decode (tm_c 63) 65 = .ok (.iload_n 2, 1) := by decide +kernel
theorem d_M_findRun_66 : decode (tm_c 63) 66 = .ok (.iload_n 1, 1) := by decide +kernel
theorem d_M_findRun_67 : decode (tm_c 63) 67 = .ok (.if_icmp .ne (5), 3) := by decide +kernel
theorem d_M_findRun_70 : decode (tm_c 63) 70 = .ok (.iload_n 1, 1) := by decide +kernel
theorem d_M_findRun_71 : decode (tm_c 63) 71 = .ok (.ireturn, 1) := by decide +kernel
theorem d_M_findRun_72 : decode (tm_c 63) 72 = .ok (.iinc 2 (1), 3) := by decide +kernel
theorem d_M_findRun_75 : decode (tm_c 63) 75 = .ok (.goto (-68), 3) := by decide +kernel
theorem d_M_findRun_78 : decode (tm_c 63) 78 = .ok (.iload_n 2, 1) := by decide +kernel
theorem d_M_findRun_79 : decode (tm_c 63) 79 = .ok (.ireturn, 1) := by decide +kernel
theorem g_M_findRun_0 : jSnd 63 0 (o_push 1 (0)) := snd_iconst (n := 0) (z := 0) d_M_findRun_0 (by decide) (by unfold jrg; omega)
theorem g_M_findRun_1 : jSnd 63 1 (o_istore 2 2) := snd_istore_n d_M_findRun_1 rfl (by decide)
theorem g_M_findRun_2 : jSnd 63 2 (o_aload 3 0) := snd_aload_n d_M_findRun_2 rfl
theorem g_M_findRun_3 : jSnd 63 3 (o_push 4 (0)) := snd_iconst (n := 0) (z := 0) d_M_findRun_3 (by decide) (by unfold jrg; omega)
theorem g_M_findRun_4 : jSnd 63 4 (o_putI 7 14 (23)) := snd_putI (ci := 4) (k := 23) d_M_findRun_4 rfl tm_in4 tm_D4 tm_ty4 tm_nm4 (by decide) wd_362 rfl rfl rfl
theorem g_M_findRun_7 : jSnd 63 7 (o_aload 8 0) := snd_aload_n d_M_findRun_7 rfl
theorem g_M_findRun_8 : jSnd 63 8 (o_getI 11 14 (23)) := snd_getI (ci := 4) (k := 23) d_M_findRun_8 rfl tm_in4 (by decide) wd_362 rfl
theorem g_M_findRun_11 : jSnd 63 11 (o_aload 12 0) := snd_aload_n d_M_findRun_11 rfl
theorem g_M_findRun_12 : jSnd 63 12 (o_getI 15 14 (17)) := snd_getI (ci := 4) (k := 17) d_M_findRun_12 rfl tm_in4 (by decide) wd_317 rfl
theorem g_M_findRun_15 : jSnd 63 15 (o_ic_ge 18 78) := snd_ic_ge d_M_findRun_15 (by decide)
theorem g_M_findRun_18 : jSnd 63 18 (o_aload 19 0) := snd_aload_n d_M_findRun_18 rfl
theorem g_M_findRun_19 : jSnd 63 19 (o_aload 20 0) := snd_aload_n d_M_findRun_19 rfl
theorem g_M_findRun_20 : jSnd 63 20 (o_getI 23 14 (23)) := snd_getI (ci := 4) (k := 23) d_M_findRun_20 rfl tm_in4 (by decide) wd_362 rfl
theorem g_M_findRun_23 : jSnd 63 23 (o_putI 26 14 (22)) := snd_putI (ci := 4) (k := 22) d_M_findRun_23 rfl tm_in4 tm_D4 tm_ty4 tm_nm4 (by decide) wd_363 rfl rfl rfl
theorem g_M_findRun_26 : jSnd 63 26 (o_aload 27 0) := snd_aload_n d_M_findRun_26 rfl
theorem g_M_findRun_27 : jSnd 63 27 (o_getI 30 14 (23)) := snd_getI (ci := 4) (k := 23) d_M_findRun_27 rfl tm_in4 (by decide) wd_362 rfl
theorem g_M_findRun_30 : jSnd 63 30 (o_aload 31 0) := snd_aload_n d_M_findRun_30 rfl
theorem g_M_findRun_31 : jSnd 63 31 (o_getI 34 14 (17)) := snd_getI (ci := 4) (k := 17) d_M_findRun_31 rfl tm_in4 (by decide) wd_317 rfl
theorem g_M_findRun_34 : jSnd 63 34 (o_ic_ge 37 65) := snd_ic_ge d_M_findRun_34 (by decide)
theorem g_M_findRun_37 : jSnd 63 37 (o_aload 38 0) := snd_aload_n d_M_findRun_37 rfl
theorem g_M_findRun_38 : jSnd 63 38 (o_aload 39 0) := snd_aload_n d_M_findRun_38 rfl
theorem g_M_findRun_39 : jSnd 63 39 (o_getI 42 14 (22)) := snd_getI (ci := 4) (k := 22) d_M_findRun_39 rfl tm_in4 (by decide) wd_363 rfl
theorem g_M_findRun_42 : jSnd 63 42 (o_aload 43 0) := snd_aload_n d_M_findRun_42 rfl
theorem g_M_findRun_43 : jSnd 63 43 (o_getI 46 14 (23)) := snd_getI (ci := 4) (k := 23) d_M_findRun_43 rfl tm_in4 (by decide) wd_362 rfl
theorem g_M_findRun_46 : jSnd 63 46 (o_call 49 62 3 4 14 false) := snd_callV (ci := 4) (n := 2) rfl d_M_findRun_46 (by decide) (by decide) (by decide) wc_62 wd_364 wd_365 wd_366 wd_7 (by decide +kernel) (by decide) (by decide)
theorem g_M_findRun_49 : jSnd 63 49 (o_if_eq 52 65) := snd_if_eq d_M_findRun_49 (by decide)
theorem g_M_findRun_52 : jSnd 63 52 (o_aload 53 0) := snd_aload_n d_M_findRun_52 rfl
theorem g_M_findRun_53 : jSnd 63 53 (o_dup 54) := snd_dup d_M_findRun_53
theorem g_M_findRun_54 : jSnd 63 54 (o_getI 57 14 (23)) := snd_getI (ci := 4) (k := 23) d_M_findRun_54 rfl tm_in4 (by decide) wd_362 rfl
theorem g_M_findRun_57 : jSnd 63 57 (o_push 58 (1)) := snd_iconst (n := 1) (z := 1) d_M_findRun_57 (by decide) (by unfold jrg; omega)
theorem g_M_findRun_58 : jSnd 63 58 (o_bin 59 f_add) := snd_iadd d_M_findRun_58
theorem g_M_findRun_59 : jSnd 63 59 (o_putI 62 14 (23)) := snd_putI (ci := 4) (k := 23) d_M_findRun_59 rfl tm_in4 tm_D4 tm_ty4 tm_nm4 (by decide) wd_362 rfl rfl rfl
theorem g_M_findRun_62 : jSnd 63 62 (o_goto 26) := snd_goto d_M_findRun_62 (by decide)
theorem g_M_findRun_65 : jSnd 63 65 (o_iload 66 2) := snd_iload_n d_M_findRun_65 rfl
theorem g_M_findRun_66 : jSnd 63 66 (o_iload 67 1) := snd_iload_n d_M_findRun_66 rfl
theorem g_M_findRun_67 : jSnd 63 67 (o_ic_ne 70 72) := snd_ic_ne d_M_findRun_67 (by decide)
theorem g_M_findRun_70 : jSnd 63 70 (o_iload 71 1) := snd_iload_n d_M_findRun_70 rfl
theorem g_M_findRun_71 : jSnd 63 71 (o_iret) := snd_iret d_M_findRun_71 rfl
theorem g_M_findRun_72 : jSnd 63 72 (o_iinc 75 2 (1)) := snd_iinc d_M_findRun_72 (by decide)
theorem g_M_findRun_75 : jSnd 63 75 (o_goto 7) := snd_goto d_M_findRun_75 (by decide)
theorem g_M_findRun_78 : jSnd 63 78 (o_iload 79 2) := snd_iload_n d_M_findRun_78 rfl
theorem g_M_findRun_79 : jSnd 63 79 (o_iret) := snd_iret d_M_findRun_79 rfl
set_option maxRecDepth 100000 in
theorem ga_M_findRun : jAll 63 0 tmp_M_findRun := ⟨g_M_findRun_0, g_M_findRun_1, g_M_findRun_2, g_M_findRun_3, g_M_findRun_4, snd_bad _ _, snd_bad _ _, g_M_findRun_7, g_M_findRun_8, snd_bad _ _, snd_bad _ _, g_M_findRun_11, g_M_findRun_12, snd_bad _ _, snd_bad _ _, g_M_findRun_15, snd_bad _ _, snd_bad _ _, g_M_findRun_18, g_M_findRun_19, g_M_findRun_20, snd_bad _ _, snd_bad _ _, g_M_findRun_23, snd_bad _ _, snd_bad _ _, g_M_findRun_26, g_M_findRun_27, snd_bad _ _, snd_bad _ _, g_M_findRun_30, g_M_findRun_31, snd_bad _ _, snd_bad _ _, g_M_findRun_34, snd_bad _ _, snd_bad _ _, g_M_findRun_37, g_M_findRun_38, g_M_findRun_39, snd_bad _ _, snd_bad _ _, g_M_findRun_42, g_M_findRun_43, snd_bad _ _, snd_bad _ _, g_M_findRun_46, snd_bad _ _, snd_bad _ _, g_M_findRun_49, snd_bad _ _, snd_bad _ _, g_M_findRun_52, g_M_findRun_53, g_M_findRun_54, snd_bad _ _, snd_bad _ _, g_M_findRun_57, g_M_findRun_58, g_M_findRun_59, snd_bad _ _, snd_bad _ _, g_M_findRun_62, snd_bad _ _, snd_bad _ _, g_M_findRun_65, g_M_findRun_66, g_M_findRun_67, snd_bad _ _, snd_bad _ _, g_M_findRun_70, g_M_findRun_71, g_M_findRun_72, snd_bad _ _, snd_bad _ _, g_M_findRun_75, snd_bad _ _, snd_bad _ _, g_M_findRun_78, g_M_findRun_79, trivial⟩
theorem d_M_run_0 : decode (tm_c 64) 0 = .ok (.aload_n 0, 1) := by decide +kernel
theorem d_M_run_1 : decode (tm_c 64) 1 = .ok (.iconst (0), 1) := by decide +kernel
theorem d_M_run_2 : decode (tm_c 64) 2 = .ok (.putfield 78, 3) := by decide +kernel
theorem d_M_run_5 : decode (tm_c 64) 5 = .ok (.iload_n 1, 1) := by decide +kernel
theorem d_M_run_6 : decode (tm_c 64) 6 = .ok (.invokestatic 128, 3) := by decide +kernel
theorem d_M_run_9 : decode (tm_c 64) 9 = .ok (.ifCond .eq (7), 3) := by decide +kernel
theorem d_M_run_12 : decode (tm_c 64) 12 = .ok (.iload_n 2, 1) := by decide +kernel
theorem d_M_run_13 : decode (tm_c 64) 13 = .ok (.ifCond .ge (5), 3) := by decide +kernel
theorem d_M_run_16 : decode (tm_c 64) 16 = .ok (.iconst (-1), 1) := by decide +kernel
theorem d_M_run_17 : decode (tm_c 64) 17 = .ok (.ireturn, 1) := by decide +kernel
theorem d_M_run_18 : decode (tm_c 64) 18 = .ok (.aload_n 0, 1) := by decide +kernel
theorem d_M_run_19 : decode (tm_c 64) 19 = .ok (.iload_n 1, 1) := by decide +kernel
theorem d_M_run_20 : decode (tm_c 64) 20 = .ok (.invokevirtual 134, 3) := by decide +kernel
theorem d_M_run_23 : decode (tm_c 64) 23 = .ok (.iload_n 2, 1) := by decide +kernel
theorem d_M_run_24 : decode (tm_c 64) 24 = .ok (.aload_n 0, 1) := by decide +kernel
theorem d_M_run_25 : decode (tm_c 64) 25 = .ok (.invokevirtual 164, 3) := by decide +kernel
theorem d_M_run_28 : decode (tm_c 64) 28 = .ok (.if_icmp .ge (21), 3) := by decide +kernel
theorem d_M_run_31 : decode (tm_c 64) 31 = .ok (.aload_n 0, 1) := by decide +kernel
theorem d_M_run_32 : decode (tm_c 64) 32 = .ok (.iload_n 2, 1) := by decide +kernel
theorem d_M_run_33 : decode (tm_c 64) 33 = .ok (.invokevirtual 168, 3) := by decide +kernel
theorem d_M_run_36 : decode (tm_c 64) 36 = .ok (.iload_n 2, 1) := by decide +kernel
theorem d_M_run_37 : decode (tm_c 64) 37 = .ok (.if_icmp .ne (12), 3) := by decide +kernel
theorem d_M_run_40 : decode (tm_c 64) 40 = .ok (.iload_n 3, 1) := by decide +kernel
theorem d_M_run_41 : decode (tm_c 64) 41 = .ok (.iconst (0), 1) := by decide +kernel
theorem d_M_run_42 : decode (tm_c 64) 42 = .ok (.iconst (5), 1) := by decide +kernel
theorem d_M_run_43 : decode (tm_c 64) 43 = .ok (.invokestatic 121, 3) := by decide +kernel
theorem d_M_run_46 : decode (tm_c 64) 46 = .ok (.ifCond .ne (5), 3) := by decide +kernel
theorem d_M_run_49 : decode (tm_c 64) 49 = .ok (.iconst (-1), 1) := by decide +kernel
theorem d_M_run_50 : decode (tm_c 64) 50 = .ok (.ireturn, 1) := by decide +kernel
theorem d_M_run_51 : decode (tm_c 64) 51 = .ok (.iload_n 3, 1) := by decide +kernel
theorem d_M_run_52 : decode (tm_c 64) 52 = .ok (.ifCond .ne (10), 3) := by decide +kernel
theorem d_M_run_55 : decode (tm_c 64) 55 = .ok (.aload_n 0, 1) := by decide +kernel
theorem d_M_run_56 : decode (tm_c 64) 56 = .ok (.getfield 158, 3) := by decide +kernel
theorem d_M_run_59 : decode (tm_c 64) 59 = .ok (.goto (35), 3) := by decide +kernel
theorem d_M_run_62 : decode (tm_c 64) 62 = .ok (.iload_n 3, 1) := by decide +kernel
theorem d_M_run_63 : decode (tm_c 64) 63 = .ok (.iconst (1), 1) := by decide +kernel
theorem d_M_run_64 : decode (tm_c 64) 64 = .ok (.if_icmp .ne (15), 3) := by decide +kernel
theorem d_M_run_67 : decode (tm_c 64) 67 = .ok (.aload_n 0, 1) := by decide +kernel
theorem d_M_run_68 : decode (tm_c 64) 68 = .ok (.getfield 155, 3) := by decide +kernel
theorem d_M_run_71 : decode (tm_c 64) 71 = .ok (.aload_n 0, 1) := by decide +kernel
theorem d_M_run_72 : decode (tm_c 64) 72 = .ok (.getfield 158, 3) := by decide +kernel
theorem d_M_run_75 : decode (tm_c 64) 75 = .ok (.isub, 1) := by decide +kernel
theorem d_M_run_76 : decode (tm_c 64) 76 = .ok (.goto (18), 3) := by decide +kernel
theorem d_M_run_79 : decode (tm_c 64) 79 = .ok (.aload_n 0, 1) := by decide +kernel
theorem d_M_run_80 : decode (tm_c 64) 80 = .ok (.getfield 57, 3) := by decide +kernel
theorem d_M_run_83 : decode (tm_c 64) 83 = .ok (.iconst (4), 1) := by decide +kernel
theorem d_M_run_84 : decode (tm_c 64) 84 = .ok (.aload_n 0, 1) := by decide +kernel
theorem d_M_run_85 : decode (tm_c 64) 85 = .ok (.getfield 158, 3) := by decide +kernel
theorem d_M_run_88 : decode (tm_c 64) 88 = .ok (.imul, 1) := by decide +kernel
theorem d_M_run_89 : decode (tm_c 64) 89 = .ok (.iload_n 3, 1) := by decide +kernel
theorem d_M_run_90 : decode (tm_c 64) 90 = .ok (.iadd, 1) := by decide +kernel
theorem d_M_run_91 : decode (tm_c 64) 91 = .ok (.iconst (2), 1) := by decide +kernel
theorem d_M_run_92 : decode (tm_c 64) 92 = .ok (.isub, 1) := by decide +kernel
theorem d_M_run_93 : decode (tm_c 64) 93 = .ok (.iaload, 1) := by decide +kernel
theorem d_M_run_94 : decode (tm_c 64) 94 = .ok (.ireturn, 1) := by decide +kernel
theorem g_M_run_0 : jSnd 64 0 (o_aload 1 0) := snd_aload_n d_M_run_0 rfl
theorem g_M_run_1 : jSnd 64 1 (o_push 2 (0)) := snd_iconst (n := 0) (z := 0) d_M_run_1 (by decide) (by unfold jrg; omega)
theorem g_M_run_2 : jSnd 64 2 (o_putI 5 14 (0)) := snd_putI (ci := 4) (k := 0) d_M_run_2 rfl tm_in4 tm_D4 tm_ty4 tm_nm4 (by decide) wd_338 rfl rfl rfl
theorem g_M_run_5 : jSnd 64 5 (o_iload 6 1) := snd_iload_n d_M_run_5 rfl
theorem g_M_run_6 : jSnd 64 6 (o_call 9 44 1 1 0 false) := snd_callS (n := 1) d_M_run_6 (by decide) (by decide) (by decide) wc_44 wd_339 wd_340 wd_7 (by decide +kernel) (by decide) (by decide)
theorem g_M_run_9 : jSnd 64 9 (o_if_eq 12 16) := snd_if_eq d_M_run_9 (by decide)
theorem g_M_run_12 : jSnd 64 12 (o_iload 13 2) := snd_iload_n d_M_run_12 rfl
theorem g_M_run_13 : jSnd 64 13 (o_if_ge 16 18) := snd_if_ge d_M_run_13 (by decide)
theorem g_M_run_16 : jSnd 64 16 (o_push 17 (-1)) := snd_iconst (n := -1) (z := -1) d_M_run_16 (by decide) (by unfold jrg; omega)
theorem g_M_run_17 : jSnd 64 17 (o_iret) := snd_iret d_M_run_17 rfl
theorem g_M_run_18 : jSnd 64 18 (o_aload 19 0) := snd_aload_n d_M_run_18 rfl
theorem g_M_run_19 : jSnd 64 19 (o_iload 20 1) := snd_iload_n d_M_run_19 rfl
theorem g_M_run_20 : jSnd 64 20 (o_call 23 43 2 4 14 true) := snd_callV (ci := 4) (n := 1) rfl d_M_run_20 (by decide) (by decide) (by decide) wc_43 wd_343 wd_344 wd_345 wd_7 (by decide +kernel) (by decide) (by decide)
theorem g_M_run_23 : jSnd 64 23 (o_iload 24 2) := snd_iload_n d_M_run_23 rfl
theorem g_M_run_24 : jSnd 64 24 (o_aload 25 0) := snd_aload_n d_M_run_24 rfl
theorem g_M_run_25 : jSnd 64 25 (o_call 28 65 1 1 14 false) := snd_callV (ci := 4) (n := 0) rfl d_M_run_25 (by decide) (by decide) (by decide) wc_65 wd_367 wd_368 wd_369 wd_7 (by decide +kernel) (by decide) (by decide)
theorem g_M_run_28 : jSnd 64 28 (o_ic_ge 31 49) := snd_ic_ge d_M_run_28 (by decide)
theorem g_M_run_31 : jSnd 64 31 (o_aload 32 0) := snd_aload_n d_M_run_31 rfl
theorem g_M_run_32 : jSnd 64 32 (o_iload 33 2) := snd_iload_n d_M_run_32 rfl
theorem g_M_run_33 : jSnd 64 33 (o_call 36 63 2 3 14 false) := snd_callV (ci := 4) (n := 1) rfl d_M_run_33 (by decide) (by decide) (by decide) wc_63 wd_370 wd_371 wd_372 wd_7 (by decide +kernel) (by decide) (by decide)
theorem g_M_run_36 : jSnd 64 36 (o_iload 37 2) := snd_iload_n d_M_run_36 rfl
theorem g_M_run_37 : jSnd 64 37 (o_ic_ne 40 49) := snd_ic_ne d_M_run_37 (by decide)
theorem g_M_run_40 : jSnd 64 40 (o_iload 41 3) := snd_iload_n d_M_run_40 rfl
theorem g_M_run_41 : jSnd 64 41 (o_push 42 (0)) := snd_iconst (n := 0) (z := 0) d_M_run_41 (by decide) (by unfold jrg; omega)
theorem g_M_run_42 : jSnd 64 42 (o_push 43 (5)) := snd_iconst (n := 5) (z := 5) d_M_run_42 (by decide) (by unfold jrg; omega)
theorem g_M_run_43 : jSnd 64 43 (o_call 46 34 3 3 0 false) := snd_callS (n := 3) d_M_run_43 (by decide) (by decide) (by decide) wc_34 wd_333 wd_334 wd_7 (by decide +kernel) (by decide) (by decide)
theorem g_M_run_46 : jSnd 64 46 (o_if_ne 49 51) := snd_if_ne d_M_run_46 (by decide)
theorem g_M_run_49 : jSnd 64 49 (o_push 50 (-1)) := snd_iconst (n := -1) (z := -1) d_M_run_49 (by decide) (by unfold jrg; omega)
theorem g_M_run_50 : jSnd 64 50 (o_iret) := snd_iret d_M_run_50 rfl
theorem g_M_run_51 : jSnd 64 51 (o_iload 52 3) := snd_iload_n d_M_run_51 rfl
theorem g_M_run_52 : jSnd 64 52 (o_if_ne 55 62) := snd_if_ne d_M_run_52 (by decide)
theorem g_M_run_55 : jSnd 64 55 (o_aload 56 0) := snd_aload_n d_M_run_55 rfl
theorem g_M_run_56 : jSnd 64 56 (o_getI 59 14 (22)) := snd_getI (ci := 4) (k := 22) d_M_run_56 rfl tm_in4 (by decide) wd_363 rfl
theorem g_M_run_59 : jSnd 64 59 (o_goto 94) := snd_goto d_M_run_59 (by decide)
theorem g_M_run_62 : jSnd 64 62 (o_iload 63 3) := snd_iload_n d_M_run_62 rfl
theorem g_M_run_63 : jSnd 64 63 (o_push 64 (1)) := snd_iconst (n := 1) (z := 1) d_M_run_63 (by decide) (by unfold jrg; omega)
theorem g_M_run_64 : jSnd 64 64 (o_ic_ne 67 79) := snd_ic_ne d_M_run_64 (by decide)
theorem g_M_run_67 : jSnd 64 67 (o_aload 68 0) := snd_aload_n d_M_run_67 rfl
theorem g_M_run_68 : jSnd 64 68 (o_getI 71 14 (23)) := snd_getI (ci := 4) (k := 23) d_M_run_68 rfl tm_in4 (by decide) wd_362 rfl
theorem g_M_run_71 : jSnd 64 71 (o_aload 72 0) := snd_aload_n d_M_run_71 rfl
theorem g_M_run_72 : jSnd 64 72 (o_getI 75 14 (22)) := snd_getI (ci := 4) (k := 22) d_M_run_72 rfl tm_in4 (by decide) wd_363 rfl
theorem g_M_run_75 : jSnd 64 75 (o_bin 76 f_sub) := snd_isub d_M_run_75
theorem g_M_run_76 : jSnd 64 76 (o_goto 94) := snd_goto d_M_run_76 (by decide)
theorem g_M_run_79 : jSnd 64 79 (o_aload 80 0) := snd_aload_n d_M_run_79 rfl
theorem g_M_run_80 : jSnd 64 80 (o_getR 83 14 (19)) := snd_getR (ci := 4) (k := 19) d_M_run_80 rfl tm_in4 (by decide) wd_298 rfl
theorem g_M_run_83 : jSnd 64 83 (o_push 84 (4)) := snd_iconst (n := 4) (z := 4) d_M_run_83 (by decide) (by unfold jrg; omega)
theorem g_M_run_84 : jSnd 64 84 (o_aload 85 0) := snd_aload_n d_M_run_84 rfl
theorem g_M_run_85 : jSnd 64 85 (o_getI 88 14 (22)) := snd_getI (ci := 4) (k := 22) d_M_run_85 rfl tm_in4 (by decide) wd_363 rfl
theorem g_M_run_88 : jSnd 64 88 (o_bin 89 f_mul) := snd_imul d_M_run_88
theorem g_M_run_89 : jSnd 64 89 (o_iload 90 3) := snd_iload_n d_M_run_89 rfl
theorem g_M_run_90 : jSnd 64 90 (o_bin 91 f_add) := snd_iadd d_M_run_90
theorem g_M_run_91 : jSnd 64 91 (o_push 92 (2)) := snd_iconst (n := 2) (z := 2) d_M_run_91 (by decide) (by unfold jrg; omega)
theorem g_M_run_92 : jSnd 64 92 (o_bin 93 f_sub) := snd_isub d_M_run_92
theorem g_M_run_93 : jSnd 64 93 (o_nald 94 1) := snd_iald d_M_run_93
theorem g_M_run_94 : jSnd 64 94 (o_iret) := snd_iret d_M_run_94 rfl
set_option maxRecDepth 100000 in
theorem ga_M_run : jAll 64 0 tmp_M_run := ⟨g_M_run_0, g_M_run_1, g_M_run_2, snd_bad _ _, snd_bad _ _, g_M_run_5, g_M_run_6, snd_bad _ _, snd_bad _ _, g_M_run_9, snd_bad _ _, snd_bad _ _, g_M_run_12, g_M_run_13, snd_bad _ _, snd_bad _ _, g_M_run_16, g_M_run_17, g_M_run_18, g_M_run_19, g_M_run_20, snd_bad _ _, snd_bad _ _, g_M_run_23, g_M_run_24, g_M_run_25, snd_bad _ _, snd_bad _ _, g_M_run_28, snd_bad _ _, snd_bad _ _, g_M_run_31, g_M_run_32, g_M_run_33, snd_bad _ _, snd_bad _ _, g_M_run_36, g_M_run_37, snd_bad _ _, snd_bad _ _, g_M_run_40, g_M_run_41, g_M_run_42, g_M_run_43, snd_bad _ _, snd_bad _ _, g_M_run_46, snd_bad _ _, snd_bad _ _, g_M_run_49, g_M_run_50, g_M_run_51, g_M_run_52, snd_bad _ _, snd_bad _ _, g_M_run_55, g_M_run_56, snd_bad _ _, snd_bad _ _, g_M_run_59, snd_bad _ _, snd_bad _ _, g_M_run_62, g_M_run_63, g_M_run_64, snd_bad _ _, snd_bad _ _, g_M_run_67, g_M_run_68, snd_bad _ _, snd_bad _ _, g_M_run_71, g_M_run_72, snd_bad _ _, snd_bad _ _, g_M_run_75, g_M_run_76, snd_bad _ _, snd_bad _ _, g_M_run_79, g_M_run_80, snd_bad _ _, snd_bad _ _, g_M_run_83, g_M_run_84, g_M_run_85, snd_bad _ _, snd_bad _ _, g_M_run_88, g_M_run_89, g_M_run_90, g_M_run_91, g_M_run_92, g_M_run_93, g_M_run_94, trivial⟩
theorem d_M_runs_0 : decode (tm_c 65) 0 = .ok (.aload_n 0, 1) := by decide +kernel
theorem d_M_runs_1 : decode (tm_c 65) 1 = .ok (.sipush (251), 3) := by decide +kernel
theorem d_M_runs_4 : decode (tm_c 65) 4 = .ok (.invokevirtual 168, 3) := by decide +kernel
theorem d_M_runs_7 : decode (tm_c 65) 7 = .ok (.ireturn, 1) := by decide +kernel
theorem g_M_runs_0 : jSnd 65 0 (o_aload 1 0) := snd_aload_n d_M_runs_0 rfl
theorem g_M_runs_1 : jSnd 65 1 (o_push 4 (251)) := snd_sipush (n := 251) (z := 251) d_M_runs_1 (by decide) (by unfold jrg; omega)
theorem g_M_runs_4 : jSnd 65 4 (o_call 7 63 2 3 14 false) := snd_callV (ci := 4) (n := 1) rfl d_M_runs_4 (by decide) (by decide) (by decide) wc_63 wd_370 wd_371 wd_372 wd_7 (by decide +kernel) (by decide) (by decide)
theorem g_M_runs_7 : jSnd 65 7 (o_iret) := snd_iret d_M_runs_7 rfl
set_option maxRecDepth 100000 in
theorem ga_M_runs : jAll 65 0 tmp_M_runs := ⟨g_M_runs_0, g_M_runs_1, snd_bad _ _, snd_bad _ _, g_M_runs_4, snd_bad _ _, snd_bad _ _, g_M_runs_7, trivial⟩
theorem d_M_lies_0 : decode (tm_c 66) 0 = .ok (.aload_n 0, 1) := by decide +kernel
theorem d_M_lies_1 : decode (tm_c 66) 1 = .ok (.iconst (0), 1) := by decide +kernel
theorem d_M_lies_2 : decode (tm_c 66) 2 = .ok (.putfield 78, 3) := by decide +kernel
theorem d_M_lies_5 : decode (tm_c 66) 5 = .ok (.iload_n 1, 1) := by decide +kernel
theorem d_M_lies_6 : decode (tm_c 66) 6 = .ok (.invokestatic 128, 3) := by decide +kernel
theorem d_M_lies_9 : decode (tm_c 66) 9 = .ok (.ifCond .eq (34), 3) := by decide +kernel
theorem d_M_lies_12 : decode (tm_c 66) 12 = .ok (.iload_n 2, 1) := by decide +kernel
theorem d_M_lies_13 : decode (tm_c 66) 13 = .ok (.iconst (1), 1) := by decide +kernel
theorem d_M_lies_14 : decode (tm_c 66) 14 = .ok (.aload_n 0, 1) := by decide +kernel
theorem d_M_lies_15 : decode (tm_c 66) 15 = .ok (.getfield 81, 3) := by decide +kernel
theorem d_M_lies_18 : decode (tm_c 66) 18 = .ok (.invokestatic 121, 3) := by decide +kernel
theorem d_M_lies_21 : decode (tm_c 66) 21 = .ok (.ifCond .eq (22), 3) := by decide +kernel
theorem d_M_lies_24 : decode (tm_c 66) 24 = .ok (.aload_n 0, 1) := by decide +kernel
theorem d_M_lies_25 : decode (tm_c 66) 25 = .ok (.getfield 7, 3) := by decide +kernel
theorem d_M_lies_28 : decode (tm_c 66) 28 = .ok (.iload_n 2, 1) := by decide +kernel
theorem d_M_lies_29 : decode (tm_c 66) 29 = .ok (.iaload, 1) := by decide +kernel
theorem d_M_lies_30 : decode (tm_c 66) 30 = .ok (.iconst (3), 1) := by decide +kernel
theorem d_M_lies_31 : decode (tm_c 66) 31 = .ok (.if_icmp .ne (12), 3) := by decide +kernel
theorem d_M_lies_34 : decode (tm_c 66) 34 = .ok (.iload_n 3, 1) := by decide +kernel
theorem d_M_lies_35 : decode (tm_c 66) 35 = .ok (.iconst (0), 1) := by decide +kernel
theorem d_M_lies_36 : decode (tm_c 66) 36 = .ok (.iconst (1), 1) := by decide +kernel
theorem d_M_lies_37 : decode (tm_c 66) 37 = .ok (.invokestatic 121, 3) := by decide +kernel
theorem d_M_lies_40 : decode (tm_c 66) 40 = .ok (.ifCond .ne (5), 3) := by decide +kernel
theorem d_M_lies_43 : decode (tm_c 66) 43 = .ok (.iconst (-1), 1) := by decide +kernel
theorem d_M_lies_44 : decode (tm_c 66) 44 = .ok (.ireturn, 1) := by decide +kernel
theorem d_M_lies_45 : decode (tm_c 66) 45 = .ok (.aload_n 0, 1) := by decide +kernel
theorem d_M_lies_46 : decode (tm_c 66) 46 = .ok (.iload_n 1, 1) := by decide +kernel
theorem d_M_lies_47 : decode (tm_c 66) 47 = .ok (.invokevirtual 134, 3) := by decide +kernel
theorem d_M_lies_50 : decode (tm_c 66) 50 = .ok (.aload_n 0, 1) := by decide +kernel
theorem d_M_lies_51 : decode (tm_c 66) 51 = .ok (.getfield 42, 3) := by decide +kernel
theorem d_M_lies_54 : decode (tm_c 66) 54 = .ok (.iload_n 2, 1) := by decide +kernel
theorem d_M_lies_55 : decode (tm_c 66) 55 = .ok (.baload, 1) := by decide +kernel
theorem d_M_lies_56 : decode (tm_c 66) 56 = .ok (.ifCond .eq (12), 3) := by decide +kernel
theorem d_M_lies_59 : decode (tm_c 66) 59 = .ok (.aload_n 0, 1) := by decide +kernel
theorem d_M_lies_60 : decode (tm_c 66) 60 = .ok (.iload_n 2, 1) := by decide +kernel
theorem d_M_lies_61 : decode (tm_c 66) 61 = .ok (.iload_n 3, 1) := by decide +kernel
theorem d_M_lies_62 : decode (tm_c 66) 62 = .ok (.invokevirtual 171, 3) := by decide +kernel
theorem d_M_lies_65 : decode (tm_c 66) 65 = .ok (.goto (4), 3) := by decide +kernel
theorem d_M_lies_68 : decode (tm_c 66) 68 = .ok (.iconst (-1), 1) := by decide +kernel
theorem d_M_lies_69 : decode (tm_c 66) 69 = .ok (.ireturn, 1) := by decide +kernel
theorem g_M_lies_0 : jSnd 66 0 (o_aload 1 0) := snd_aload_n d_M_lies_0 rfl
theorem g_M_lies_1 : jSnd 66 1 (o_push 2 (0)) := snd_iconst (n := 0) (z := 0) d_M_lies_1 (by decide) (by unfold jrg; omega)
theorem g_M_lies_2 : jSnd 66 2 (o_putI 5 14 (0)) := snd_putI (ci := 4) (k := 0) d_M_lies_2 rfl tm_in4 tm_D4 tm_ty4 tm_nm4 (by decide) wd_338 rfl rfl rfl
theorem g_M_lies_5 : jSnd 66 5 (o_iload 6 1) := snd_iload_n d_M_lies_5 rfl
theorem g_M_lies_6 : jSnd 66 6 (o_call 9 44 1 1 0 false) := snd_callS (n := 1) d_M_lies_6 (by decide) (by decide) (by decide) wc_44 wd_339 wd_340 wd_7 (by decide +kernel) (by decide) (by decide)
theorem g_M_lies_9 : jSnd 66 9 (o_if_eq 12 43) := snd_if_eq d_M_lies_9 (by decide)
theorem g_M_lies_12 : jSnd 66 12 (o_iload 13 2) := snd_iload_n d_M_lies_12 rfl
theorem g_M_lies_13 : jSnd 66 13 (o_push 14 (1)) := snd_iconst (n := 1) (z := 1) d_M_lies_13 (by decide) (by unfold jrg; omega)
theorem g_M_lies_14 : jSnd 66 14 (o_aload 15 0) := snd_aload_n d_M_lies_14 rfl
theorem g_M_lies_15 : jSnd 66 15 (o_getI 18 14 (1)) := snd_getI (ci := 4) (k := 1) d_M_lies_15 rfl tm_in4 (by decide) wd_305 rfl
theorem g_M_lies_18 : jSnd 66 18 (o_call 21 34 3 3 0 false) := snd_callS (n := 3) d_M_lies_18 (by decide) (by decide) (by decide) wc_34 wd_333 wd_334 wd_7 (by decide +kernel) (by decide) (by decide)
theorem g_M_lies_21 : jSnd 66 21 (o_if_eq 24 43) := snd_if_eq d_M_lies_21 (by decide)
theorem g_M_lies_24 : jSnd 66 24 (o_aload 25 0) := snd_aload_n d_M_lies_24 rfl
theorem g_M_lies_25 : jSnd 66 25 (o_getR 28 14 (2)) := snd_getR (ci := 4) (k := 2) d_M_lies_25 rfl tm_in4 (by decide) wd_282 rfl
theorem g_M_lies_28 : jSnd 66 28 (o_iload 29 2) := snd_iload_n d_M_lies_28 rfl
theorem g_M_lies_29 : jSnd 66 29 (o_nald 30 1) := snd_iald d_M_lies_29
theorem g_M_lies_30 : jSnd 66 30 (o_push 31 (3)) := snd_iconst (n := 3) (z := 3) d_M_lies_30 (by decide) (by unfold jrg; omega)
theorem g_M_lies_31 : jSnd 66 31 (o_ic_ne 34 43) := snd_ic_ne d_M_lies_31 (by decide)
theorem g_M_lies_34 : jSnd 66 34 (o_iload 35 3) := snd_iload_n d_M_lies_34 rfl
theorem g_M_lies_35 : jSnd 66 35 (o_push 36 (0)) := snd_iconst (n := 0) (z := 0) d_M_lies_35 (by decide) (by unfold jrg; omega)
theorem g_M_lies_36 : jSnd 66 36 (o_push 37 (1)) := snd_iconst (n := 1) (z := 1) d_M_lies_36 (by decide) (by unfold jrg; omega)
theorem g_M_lies_37 : jSnd 66 37 (o_call 40 34 3 3 0 false) := snd_callS (n := 3) d_M_lies_37 (by decide) (by decide) (by decide) wc_34 wd_333 wd_334 wd_7 (by decide +kernel) (by decide) (by decide)
theorem g_M_lies_40 : jSnd 66 40 (o_if_ne 43 45) := snd_if_ne d_M_lies_40 (by decide)
theorem g_M_lies_43 : jSnd 66 43 (o_push 44 (-1)) := snd_iconst (n := -1) (z := -1) d_M_lies_43 (by decide) (by unfold jrg; omega)
theorem g_M_lies_44 : jSnd 66 44 (o_iret) := snd_iret d_M_lies_44 rfl
theorem g_M_lies_45 : jSnd 66 45 (o_aload 46 0) := snd_aload_n d_M_lies_45 rfl
theorem g_M_lies_46 : jSnd 66 46 (o_iload 47 1) := snd_iload_n d_M_lies_46 rfl
theorem g_M_lies_47 : jSnd 66 47 (o_call 50 43 2 4 14 true) := snd_callV (ci := 4) (n := 1) rfl d_M_lies_47 (by decide) (by decide) (by decide) wc_43 wd_343 wd_344 wd_345 wd_7 (by decide +kernel) (by decide) (by decide)
theorem g_M_lies_50 : jSnd 66 50 (o_aload 51 0) := snd_aload_n d_M_lies_50 rfl
theorem g_M_lies_51 : jSnd 66 51 (o_getR 54 14 (12)) := snd_getR (ci := 4) (k := 12) d_M_lies_51 rfl tm_in4 (by decide) wd_293 rfl
theorem g_M_lies_54 : jSnd 66 54 (o_iload 55 2) := snd_iload_n d_M_lies_54 rfl
theorem g_M_lies_55 : jSnd 66 55 (o_nald 56 2) := snd_zald d_M_lies_55
theorem g_M_lies_56 : jSnd 66 56 (o_if_eq 59 68) := snd_if_eq d_M_lies_56 (by decide)
theorem g_M_lies_59 : jSnd 66 59 (o_aload 60 0) := snd_aload_n d_M_lies_59 rfl
theorem g_M_lies_60 : jSnd 66 60 (o_iload 61 2) := snd_iload_n d_M_lies_60 rfl
theorem g_M_lies_61 : jSnd 66 61 (o_iload 62 3) := snd_iload_n d_M_lies_61 rfl
theorem g_M_lies_62 : jSnd 66 62 (o_call 65 67 3 5 14 false) := snd_callV (ci := 4) (n := 2) rfl d_M_lies_62 (by decide) (by decide) (by decide) wc_67 wd_373 wd_374 wd_375 wd_7 (by decide +kernel) (by decide) (by decide)
theorem g_M_lies_65 : jSnd 66 65 (o_goto 69) := snd_goto d_M_lies_65 (by decide)
theorem g_M_lies_68 : jSnd 66 68 (o_push 69 (-1)) := snd_iconst (n := -1) (z := -1) d_M_lies_68 (by decide) (by unfold jrg; omega)
theorem g_M_lies_69 : jSnd 66 69 (o_iret) := snd_iret d_M_lies_69 rfl
set_option maxRecDepth 100000 in
theorem ga_M_lies : jAll 66 0 tmp_M_lies := ⟨g_M_lies_0, g_M_lies_1, g_M_lies_2, snd_bad _ _, snd_bad _ _, g_M_lies_5, g_M_lies_6, snd_bad _ _, snd_bad _ _, g_M_lies_9, snd_bad _ _, snd_bad _ _, g_M_lies_12, g_M_lies_13, g_M_lies_14, g_M_lies_15, snd_bad _ _, snd_bad _ _, g_M_lies_18, snd_bad _ _, snd_bad _ _, g_M_lies_21, snd_bad _ _, snd_bad _ _, g_M_lies_24, g_M_lies_25, snd_bad _ _, snd_bad _ _, g_M_lies_28, g_M_lies_29, g_M_lies_30, g_M_lies_31, snd_bad _ _, snd_bad _ _, g_M_lies_34, g_M_lies_35, g_M_lies_36, g_M_lies_37, snd_bad _ _, snd_bad _ _, g_M_lies_40, snd_bad _ _, snd_bad _ _, g_M_lies_43, g_M_lies_44, g_M_lies_45, g_M_lies_46, g_M_lies_47, snd_bad _ _, snd_bad _ _, g_M_lies_50, g_M_lies_51, snd_bad _ _, snd_bad _ _, g_M_lies_54, g_M_lies_55, g_M_lies_56, snd_bad _ _, snd_bad _ _, g_M_lies_59, g_M_lies_60, g_M_lies_61, g_M_lies_62, snd_bad _ _, snd_bad _ _, g_M_lies_65, snd_bad _ _, snd_bad _ _, g_M_lies_68, g_M_lies_69, trivial⟩
theorem d_M_lying_0 : decode (tm_c 67) 0 = .ok (.aload_n 0, 1) := by decide +kernel
theorem d_M_lying_1 : decode (tm_c 67) 1 = .ok (.getfield 51, 3) := by decide +kernel
theorem d_M_lying_4 : decode (tm_c 67) 4 = .ok (.aload_n 0, 1) := by decide +kernel
theorem d_M_lying_5 : decode (tm_c 67) 5 = .ok (.getfield 48, 3) := by decide +kernel
theorem d_M_lying_8 : decode (tm_c 67) 8 = .ok (.aload_n 0, 1) := by decide +kernel
theorem d_M_lying_9 : decode (tm_c 67) 9 = .ok (.getfield 25, 3) := by decide +kernel
theorem d_M_lying_12 : decode (tm_c 67) 12 = .ok (.iload_n 1, 1) := by decide +kernel
theorem d_M_lying_13 : decode (tm_c 67) 13 = .ok (.iaload, 1) := by decide +kernel
theorem d_M_lying_14 : decode (tm_c 67) 14 = .ok (.iaload, 1) := by decide +kernel
theorem d_M_lying_15 : decode (tm_c 67) 15 = .ok (.iaload, 1) := by decide +kernel
theorem d_M_lying_16 : decode (tm_c 67) 16 = .ok (.istore_n 3, 1) := by decide +kernel
theorem d_M_lying_17 : decode (tm_c 67) 17 = .ok (.aload_n 0, 1) := by decide +kernel
theorem d_M_lying_18 : decode (tm_c 67) 18 = .ok (.getfield 51, 3) := by decide +kernel
theorem d_M_lying_21 : decode (tm_c 67) 21 = .ok (.aload_n 0, 1) := by decide +kernel
theorem d_M_lying_22 : decode (tm_c 67) 22 = .ok (.getfield 48, 3) := by decide +kernel
theorem d_M_lying_25 : decode (tm_c 67) 25 = .ok (.aload_n 0, 1) := by decide +kernel
theorem d_M_lying_26 : decode (tm_c 67) 26 = .ok (.getfield 28, 3) := by decide +kernel
theorem d_M_lying_29 : decode (tm_c 67) 29 = .ok (.iload_n 1, 1) := by decide +kernel
theorem d_M_lying_30 : decode (tm_c 67) 30 = .ok (.iaload, 1) := by decide +kernel
theorem d_M_lying_31 : decode (tm_c 67) 31 = .ok (.iaload, 1) := by decide +kernel
theorem d_M_lying_32 : decode (tm_c 67) 32 = .ok (.iconst (1), 1) := by decide +kernel
theorem d_M_lying_33 : decode (tm_c 67) 33 = .ok (.iadd, 1) := by decide +kernel
theorem d_M_lying_34 : decode (tm_c 67) 34 = .ok (.iaload, 1) := by decide +kernel
theorem d_M_lying_35 : decode (tm_c 67) 35 = .ok (.istore 4, 2) := by decide +kernel
theorem d_M_lying_37 : decode (tm_c 67) 37 = .ok (.iload_n 2, 1) := by decide +kernel
theorem d_M_lying_38 : decode (tm_c 67) 38 = .ok (.ifCond .eq (9), 3) := by decide +kernel
theorem d_M_lying_41 : decode (tm_c 67) 41 = .ok (.iload 4, 2) := by decide +kernel
theorem d_M_lying_43 : decode (tm_c 67) 43 = .ok (.iload_n 3, 1) := by decide +kernel
theorem d_M_lying_44 : decode (tm_c 67) 44 = .ok (.if_icmp .ge (7), 3) := by decide +kernel
theorem d_M_lying_47 : decode (tm_c 67) 47 = .ok (.iload_n 3, 1) := by decide +kernel
theorem d_M_lying_48 : decode (tm_c 67) 48 = .ok (.goto (5), 3) := by decide +kernel
theorem d_M_lying_51 : decode (tm_c 67) 51 = .ok (.iload 4, 2) := by decide +kernel
theorem d_M_lying_53 : decode (tm_c 67) 53 = .ok (.ireturn, 1) := by decide +kernel
theorem g_M_lying_0 : jSnd 67 0 (o_aload 1 0) := snd_aload_n d_M_lying_0 rfl
theorem g_M_lying_1 : jSnd 67 1 (o_getR 4 14 (16)) := snd_getR (ci := 4) (k := 16) d_M_lying_1 rfl tm_in4 (by decide) wd_296 rfl
theorem g_M_lying_4 : jSnd 67 4 (o_aload 5 0) := snd_aload_n d_M_lying_4 rfl
theorem g_M_lying_5 : jSnd 67 5 (o_getR 8 14 (15)) := snd_getR (ci := 4) (k := 15) d_M_lying_5 rfl tm_in4 (by decide) wd_295 rfl
theorem g_M_lying_8 : jSnd 67 8 (o_aload 9 0) := snd_aload_n d_M_lying_8 rfl
theorem g_M_lying_9 : jSnd 67 9 (o_getR 12 14 (7)) := snd_getR (ci := 4) (k := 7) d_M_lying_9 rfl tm_in4 (by decide) wd_287 rfl
theorem g_M_lying_12 : jSnd 67 12 (o_iload 13 1) := snd_iload_n d_M_lying_12 rfl
theorem g_M_lying_13 : jSnd 67 13 (o_nald 14 1) := snd_iald d_M_lying_13
theorem g_M_lying_14 : jSnd 67 14 (o_nald 15 1) := snd_iald d_M_lying_14
theorem g_M_lying_15 : jSnd 67 15 (o_nald 16 1) := snd_iald d_M_lying_15
theorem g_M_lying_16 : jSnd 67 16 (o_istore 17 3) := snd_istore_n d_M_lying_16 rfl (by decide)
theorem g_M_lying_17 : jSnd 67 17 (o_aload 18 0) := snd_aload_n d_M_lying_17 rfl
theorem g_M_lying_18 : jSnd 67 18 (o_getR 21 14 (16)) := snd_getR (ci := 4) (k := 16) d_M_lying_18 rfl tm_in4 (by decide) wd_296 rfl
theorem g_M_lying_21 : jSnd 67 21 (o_aload 22 0) := snd_aload_n d_M_lying_21 rfl
theorem g_M_lying_22 : jSnd 67 22 (o_getR 25 14 (15)) := snd_getR (ci := 4) (k := 15) d_M_lying_22 rfl tm_in4 (by decide) wd_295 rfl
theorem g_M_lying_25 : jSnd 67 25 (o_aload 26 0) := snd_aload_n d_M_lying_25 rfl
theorem g_M_lying_26 : jSnd 67 26 (o_getR 29 14 (8)) := snd_getR (ci := 4) (k := 8) d_M_lying_26 rfl tm_in4 (by decide) wd_288 rfl
theorem g_M_lying_29 : jSnd 67 29 (o_iload 30 1) := snd_iload_n d_M_lying_29 rfl
theorem g_M_lying_30 : jSnd 67 30 (o_nald 31 1) := snd_iald d_M_lying_30
theorem g_M_lying_31 : jSnd 67 31 (o_nald 32 1) := snd_iald d_M_lying_31
theorem g_M_lying_32 : jSnd 67 32 (o_push 33 (1)) := snd_iconst (n := 1) (z := 1) d_M_lying_32 (by decide) (by unfold jrg; omega)
theorem g_M_lying_33 : jSnd 67 33 (o_bin 34 f_add) := snd_iadd d_M_lying_33
theorem g_M_lying_34 : jSnd 67 34 (o_nald 35 1) := snd_iald d_M_lying_34
theorem g_M_lying_35 : jSnd 67 35 (o_istore 37 4) := snd_istore d_M_lying_35 (by decide)
theorem g_M_lying_37 : jSnd 67 37 (o_iload 38 2) := snd_iload_n d_M_lying_37 rfl
theorem g_M_lying_38 : jSnd 67 38 (o_if_eq 41 47) := snd_if_eq d_M_lying_38 (by decide)
theorem g_M_lying_41 : jSnd 67 41 (o_iload 43 4) := snd_iload d_M_lying_41
theorem g_M_lying_43 : jSnd 67 43 (o_iload 44 3) := snd_iload_n d_M_lying_43 rfl
theorem g_M_lying_44 : jSnd 67 44 (o_ic_ge 47 51) := snd_ic_ge d_M_lying_44 (by decide)
theorem g_M_lying_47 : jSnd 67 47 (o_iload 48 3) := snd_iload_n d_M_lying_47 rfl
theorem g_M_lying_48 : jSnd 67 48 (o_goto 53) := snd_goto d_M_lying_48 (by decide)
theorem g_M_lying_51 : jSnd 67 51 (o_iload 53 4) := snd_iload d_M_lying_51
theorem g_M_lying_53 : jSnd 67 53 (o_iret) := snd_iret d_M_lying_53 rfl
set_option maxRecDepth 100000 in
theorem ga_M_lying : jAll 67 0 tmp_M_lying := ⟨g_M_lying_0, g_M_lying_1, snd_bad _ _, snd_bad _ _, g_M_lying_4, g_M_lying_5, snd_bad _ _, snd_bad _ _, g_M_lying_8, g_M_lying_9, snd_bad _ _, snd_bad _ _, g_M_lying_12, g_M_lying_13, g_M_lying_14, g_M_lying_15, g_M_lying_16, g_M_lying_17, g_M_lying_18, snd_bad _ _, snd_bad _ _, g_M_lying_21, g_M_lying_22, snd_bad _ _, snd_bad _ _, g_M_lying_25, g_M_lying_26, snd_bad _ _, snd_bad _ _, g_M_lying_29, g_M_lying_30, g_M_lying_31, g_M_lying_32, g_M_lying_33, g_M_lying_34, g_M_lying_35, snd_bad _ _, g_M_lying_37, g_M_lying_38, snd_bad _ _, snd_bad _ _, g_M_lying_41, snd_bad _ _, g_M_lying_43, g_M_lying_44, snd_bad _ _, snd_bad _ _, g_M_lying_47, g_M_lying_48, snd_bad _ _, snd_bad _ _, g_M_lying_51, snd_bad _ _, g_M_lying_53, trivial⟩
theorem d_M_kindOf_0 : decode (tm_c 68) 0 = .ok (.iconst (0), 1) := by decide +kernel
theorem d_M_kindOf_1 : decode (tm_c 68) 1 = .ok (.istore_n 3, 1) := by decide +kernel
theorem d_M_kindOf_2 : decode (tm_c 68) 2 = .ok (.iconst (1), 1) := by decide +kernel
theorem d_M_kindOf_3 : decode (tm_c 68) 3 = .ok (.istore 4, 2) := by decide +kernel
theorem d_M_kindOf_5 : decode (tm_c 68) 5 = .ok (.iload 4, 2) := by decide +kernel
theorem d_M_kindOf_7 : decode (tm_c 68) 7 = .ok (.aload_n 0, 1) := by decide +kernel
theorem d_M_kindOf_8 : decode (tm_c 68) 8 = .ok (.getfield 81, 3) := by decide +kernel
theorem d_M_kindOf_11 : decode (tm_c 68) 11 = .ok (.if_icmp .gt (58), 3) := by decide +kernel
theorem d_M_kindOf_14 : decode (tm_c 68) 14 = .ok (.aload_n 0, 1) := by decide +kernel
theorem d_M_kindOf_15 : decode (tm_c 68) 15 = .ok (.getfield 7, 3) := by decide +kernel
theorem d_M_kindOf_18 : decode (tm_c 68) 18 = .ok (.iload 4, 2) := by decide +kernel
theorem d_M_kindOf_20 : decode (tm_c 68) 20 = .ok (.iaload, 1) := by decide +kernel
theorem d_M_kindOf_21 : decode (tm_c 68) 21 = .ok (.iconst (4), 1) := by decide +kernel
theorem d_M_kindOf_22 : decode (tm_c 68) 22 = .ok (.if_icmp .ne (41), 3) := by decide +kernel
theorem d_M_kindOf_25 : decode (tm_c 68) 25 = .ok (.aload_n 0, 1) := by decide +kernel
theorem d_M_kindOf_26 : decode (tm_c 68) 26 = .ok (.getfield 25, 3) := by decide +kernel
theorem d_M_kindOf_29 : decode (tm_c 68) 29 = .ok (.iload 4, 2) := by decide +kernel
theorem d_M_kindOf_31 : decode (tm_c 68) 31 = .ok (.iaload, 1) := by decide +kernel
theorem d_M_kindOf_32 : decode (tm_c 68) 32 = .ok (.iload_n 2, 1) := by decide +kernel
theorem d_M_kindOf_33 : decode (tm_c 68) 33 = .ok (.if_icmp .ne (30), 3) := by decide +kernel
theorem d_M_kindOf_36 : decode (tm_c 68) 36 = .ok (.aload_n 0, 1) := by decide +kernel
theorem d_M_kindOf_37 : decode (tm_c 68) 37 = .ok (.getfield 42, 3) := by decide +kernel
theorem d_M_kindOf_40 : decode (tm_c 68) 40 = .ok (.iload 4, 2) := by decide +kernel
theorem d_M_kindOf_42 : decode (tm_c 68) 42 = .ok (.baload, 1) := by decide +kernel
theorem d_M_kindOf_43 : decode (tm_c 68) 43 = .ok (.ifCond .eq (20), 3) := by decide +kernel
theorem d_M_kindOf_46 : decode (tm_c 68) 46 = .ok (.iload_n 3, 1) := by decide +kernel
theorem d_M_kindOf_47 : decode (tm_c 68) 47 = .ok (.ifCond .eq (13), 3) := by decide +kernel
theorem d_M_kindOf_50 : decode (tm_c 68) 50 = .ok (.aload_n 0, 1) := by decide +kernel
theorem d_M_kindOf_51 : decode (tm_c 68) 51 = .ok (.iload_n 3, 1) := by decide +kernel
theorem d_M_kindOf_52 : decode (tm_c 68) 52 = .ok (.iload 4, 2) := by decide +kernel
theorem d_M_kindOf_54 : decode (tm_c 68) 54 = .ok (.invokevirtual 91, 3) := by decide +kernel
theorem d_M_kindOf_57 : decode (tm_c 68) 57 = .ok (.ifCond .eq (6), 3) := by decide +kernel
theorem d_M_kindOf_60 : decode (tm_c 68) 60 = .ok (.iload 4, 2) := by decide +kernel
theorem d_M_kindOf_62 : decode (tm_c 68) 62 = .ok (.istore_n 3, 1) := by decide +kernel
theorem d_M_kindOf_63 : decode (tm_c 68) 63 = .ok (.iinc 4 (1), 3) := by decide +kernel
theorem d_M_kindOf_66 : decode (tm_c 68) 66 = .ok (.goto (-61), 3) := by decide +kernel
theorem d_M_kindOf_69 : decode (tm_c 68) 69 = .ok (.iload_n 3, 1) := by decide +kernel
theorem d_M_kindOf_70 : decode (tm_c 68) 70 = .ok (.ifCond .ne (7), 3) := by decide +kernel
theorem d_M_kindOf_73 : decode (tm_c 68) 73 = .ok (.iconst (0), 1) := by decide +kernel
theorem d_M_kindOf_74 : decode (tm_c 68) 74 = .ok (.goto (9), 3) := by decide +kernel
theorem d_M_kindOf_77 : decode (tm_c 68) 77 = .ok (.aload_n 0, 1) := by decide +kernel
theorem d_M_kindOf_78 : decode (tm_c 68) 78 = .ok (.getfield 19, 3) := by decide +kernel
theorem d_M_kindOf_81 : decode (tm_c 68) 81 = .ok (.iload_n 3, 1) := by decide +kernel
theorem d_M_kindOf_82 : decode (tm_c 68) 82 = .ok (.iaload, 1) := by decide +kernel
theorem d_M_kindOf_83 : decode (tm_c 68) 83 = .ok (.ireturn, 1) := by decide +kernel
theorem g_M_kindOf_0 : jSnd 68 0 (o_push 1 (0)) := snd_iconst (n := 0) (z := 0) d_M_kindOf_0 (by decide) (by unfold jrg; omega)
theorem g_M_kindOf_1 : jSnd 68 1 (o_istore 2 3) := snd_istore_n d_M_kindOf_1 rfl (by decide)
theorem g_M_kindOf_2 : jSnd 68 2 (o_push 3 (1)) := snd_iconst (n := 1) (z := 1) d_M_kindOf_2 (by decide) (by unfold jrg; omega)
theorem g_M_kindOf_3 : jSnd 68 3 (o_istore 5 4) := snd_istore d_M_kindOf_3 (by decide)
theorem g_M_kindOf_5 : jSnd 68 5 (o_iload 7 4) := snd_iload d_M_kindOf_5
theorem g_M_kindOf_7 : jSnd 68 7 (o_aload 8 0) := snd_aload_n d_M_kindOf_7 rfl
theorem g_M_kindOf_8 : jSnd 68 8 (o_getI 11 14 (1)) := snd_getI (ci := 4) (k := 1) d_M_kindOf_8 rfl tm_in4 (by decide) wd_305 rfl
theorem g_M_kindOf_11 : jSnd 68 11 (o_ic_gt 14 69) := snd_ic_gt d_M_kindOf_11 (by decide)
theorem g_M_kindOf_14 : jSnd 68 14 (o_aload 15 0) := snd_aload_n d_M_kindOf_14 rfl
theorem g_M_kindOf_15 : jSnd 68 15 (o_getR 18 14 (2)) := snd_getR (ci := 4) (k := 2) d_M_kindOf_15 rfl tm_in4 (by decide) wd_282 rfl
theorem g_M_kindOf_18 : jSnd 68 18 (o_iload 20 4) := snd_iload d_M_kindOf_18
theorem g_M_kindOf_20 : jSnd 68 20 (o_nald 21 1) := snd_iald d_M_kindOf_20
theorem g_M_kindOf_21 : jSnd 68 21 (o_push 22 (4)) := snd_iconst (n := 4) (z := 4) d_M_kindOf_21 (by decide) (by unfold jrg; omega)
theorem g_M_kindOf_22 : jSnd 68 22 (o_ic_ne 25 63) := snd_ic_ne d_M_kindOf_22 (by decide)
theorem g_M_kindOf_25 : jSnd 68 25 (o_aload 26 0) := snd_aload_n d_M_kindOf_25 rfl
theorem g_M_kindOf_26 : jSnd 68 26 (o_getR 29 14 (7)) := snd_getR (ci := 4) (k := 7) d_M_kindOf_26 rfl tm_in4 (by decide) wd_287 rfl
theorem g_M_kindOf_29 : jSnd 68 29 (o_iload 31 4) := snd_iload d_M_kindOf_29
theorem g_M_kindOf_31 : jSnd 68 31 (o_nald 32 1) := snd_iald d_M_kindOf_31
theorem g_M_kindOf_32 : jSnd 68 32 (o_iload 33 2) := snd_iload_n d_M_kindOf_32 rfl
theorem g_M_kindOf_33 : jSnd 68 33 (o_ic_ne 36 63) := snd_ic_ne d_M_kindOf_33 (by decide)
theorem g_M_kindOf_36 : jSnd 68 36 (o_aload 37 0) := snd_aload_n d_M_kindOf_36 rfl
theorem g_M_kindOf_37 : jSnd 68 37 (o_getR 40 14 (12)) := snd_getR (ci := 4) (k := 12) d_M_kindOf_37 rfl tm_in4 (by decide) wd_293 rfl
theorem g_M_kindOf_40 : jSnd 68 40 (o_iload 42 4) := snd_iload d_M_kindOf_40
theorem g_M_kindOf_42 : jSnd 68 42 (o_nald 43 2) := snd_zald d_M_kindOf_42
theorem g_M_kindOf_43 : jSnd 68 43 (o_if_eq 46 63) := snd_if_eq d_M_kindOf_43 (by decide)
theorem g_M_kindOf_46 : jSnd 68 46 (o_iload 47 3) := snd_iload_n d_M_kindOf_46 rfl
theorem g_M_kindOf_47 : jSnd 68 47 (o_if_eq 50 60) := snd_if_eq d_M_kindOf_47 (by decide)
theorem g_M_kindOf_50 : jSnd 68 50 (o_aload 51 0) := snd_aload_n d_M_kindOf_50 rfl
theorem g_M_kindOf_51 : jSnd 68 51 (o_iload 52 3) := snd_iload_n d_M_kindOf_51 rfl
theorem g_M_kindOf_52 : jSnd 68 52 (o_iload 54 4) := snd_iload d_M_kindOf_52
theorem g_M_kindOf_54 : jSnd 68 54 (o_call 57 36 3 3 14 false) := snd_callV (ci := 4) (n := 2) rfl d_M_kindOf_54 (by decide) (by decide) (by decide) wc_36 wd_310 wd_311 wd_312 wd_7 (by decide +kernel) (by decide) (by decide)
theorem g_M_kindOf_57 : jSnd 68 57 (o_if_eq 60 63) := snd_if_eq d_M_kindOf_57 (by decide)
theorem g_M_kindOf_60 : jSnd 68 60 (o_iload 62 4) := snd_iload d_M_kindOf_60
theorem g_M_kindOf_62 : jSnd 68 62 (o_istore 63 3) := snd_istore_n d_M_kindOf_62 rfl (by decide)
theorem g_M_kindOf_63 : jSnd 68 63 (o_iinc 66 4 (1)) := snd_iinc d_M_kindOf_63 (by decide)
theorem g_M_kindOf_66 : jSnd 68 66 (o_goto 5) := snd_goto d_M_kindOf_66 (by decide)
theorem g_M_kindOf_69 : jSnd 68 69 (o_iload 70 3) := snd_iload_n d_M_kindOf_69 rfl
theorem g_M_kindOf_70 : jSnd 68 70 (o_if_ne 73 77) := snd_if_ne d_M_kindOf_70 (by decide)
theorem g_M_kindOf_73 : jSnd 68 73 (o_push 74 (0)) := snd_iconst (n := 0) (z := 0) d_M_kindOf_73 (by decide) (by unfold jrg; omega)
theorem g_M_kindOf_74 : jSnd 68 74 (o_goto 83) := snd_goto d_M_kindOf_74 (by decide)
theorem g_M_kindOf_77 : jSnd 68 77 (o_aload 78 0) := snd_aload_n d_M_kindOf_77 rfl
theorem g_M_kindOf_78 : jSnd 68 78 (o_getR 81 14 (5)) := snd_getR (ci := 4) (k := 5) d_M_kindOf_78 rfl tm_in4 (by decide) wd_285 rfl
theorem g_M_kindOf_81 : jSnd 68 81 (o_iload 82 3) := snd_iload_n d_M_kindOf_81 rfl
theorem g_M_kindOf_82 : jSnd 68 82 (o_nald 83 1) := snd_iald d_M_kindOf_82
theorem g_M_kindOf_83 : jSnd 68 83 (o_iret) := snd_iret d_M_kindOf_83 rfl
set_option maxRecDepth 100000 in
theorem ga_M_kindOf : jAll 68 0 tmp_M_kindOf := ⟨g_M_kindOf_0, g_M_kindOf_1, g_M_kindOf_2, g_M_kindOf_3, snd_bad _ _, g_M_kindOf_5, snd_bad _ _, g_M_kindOf_7, g_M_kindOf_8, snd_bad _ _, snd_bad _ _, g_M_kindOf_11, snd_bad _ _, snd_bad _ _, g_M_kindOf_14, g_M_kindOf_15, snd_bad _ _, snd_bad _ _, g_M_kindOf_18, snd_bad _ _, g_M_kindOf_20, g_M_kindOf_21, g_M_kindOf_22, snd_bad _ _, snd_bad _ _, g_M_kindOf_25, g_M_kindOf_26, snd_bad _ _, snd_bad _ _, g_M_kindOf_29, snd_bad _ _, g_M_kindOf_31, g_M_kindOf_32, g_M_kindOf_33, snd_bad _ _, snd_bad _ _, g_M_kindOf_36, g_M_kindOf_37, snd_bad _ _, snd_bad _ _, g_M_kindOf_40, snd_bad _ _, g_M_kindOf_42, g_M_kindOf_43, snd_bad _ _, snd_bad _ _, g_M_kindOf_46, g_M_kindOf_47, snd_bad _ _, snd_bad _ _, g_M_kindOf_50, g_M_kindOf_51, g_M_kindOf_52, snd_bad _ _, g_M_kindOf_54, snd_bad _ _, snd_bad _ _, g_M_kindOf_57, snd_bad _ _, snd_bad _ _, g_M_kindOf_60, snd_bad _ _, g_M_kindOf_62, g_M_kindOf_63, snd_bad _ _, snd_bad _ _, g_M_kindOf_66, snd_bad _ _, snd_bad _ _, g_M_kindOf_69, g_M_kindOf_70, snd_bad _ _, snd_bad _ _, g_M_kindOf_73, g_M_kindOf_74, snd_bad _ _, snd_bad _ _, g_M_kindOf_77, g_M_kindOf_78, snd_bad _ _, snd_bad _ _, g_M_kindOf_81, g_M_kindOf_82, g_M_kindOf_83, trivial⟩
theorem d_M_paragraph_0 : decode (tm_c 69) 0 = .ok (.aload_n 0, 1) := by decide +kernel
theorem d_M_paragraph_1 : decode (tm_c 69) 1 = .ok (.iconst (0), 1) := by decide +kernel
theorem d_M_paragraph_2 : decode (tm_c 69) 2 = .ok (.putfield 78, 3) := by decide +kernel
theorem d_M_paragraph_5 : decode (tm_c 69) 5 = .ok (.iload_n 1, 1) := by decide +kernel
theorem d_M_paragraph_6 : decode (tm_c 69) 6 = .ok (.invokestatic 128, 3) := by decide +kernel
theorem d_M_paragraph_9 : decode (tm_c 69) 9 = .ok (.ifCond .ne (5), 3) := by decide +kernel
theorem d_M_paragraph_12 : decode (tm_c 69) 12 = .ok (.iconst (-1), 1) := by decide +kernel
theorem d_M_paragraph_13 : decode (tm_c 69) 13 = .ok (.ireturn, 1) := by decide +kernel
theorem d_M_paragraph_14 : decode (tm_c 69) 14 = .ok (.aload_n 0, 1) := by decide +kernel
theorem d_M_paragraph_15 : decode (tm_c 69) 15 = .ok (.iload_n 1, 1) := by decide +kernel
theorem d_M_paragraph_16 : decode (tm_c 69) 16 = .ok (.invokevirtual 134, 3) := by decide +kernel
theorem d_M_paragraph_19 : decode (tm_c 69) 19 = .ok (.aload_n 0, 1) := by decide +kernel
theorem d_M_paragraph_20 : decode (tm_c 69) 20 = .ok (.iload_n 2, 1) := by decide +kernel
theorem d_M_paragraph_21 : decode (tm_c 69) 21 = .ok (.invokevirtual 141, 3) := by decide +kernel
theorem d_M_paragraph_24 : decode (tm_c 69) 24 = .ok (.istore 4, 2) := by decide +kernel
theorem d_M_paragraph_26 : decode (tm_c 69) 26 = .ok (.iload 4, 2) := by decide +kernel
theorem d_M_paragraph_28 : decode (tm_c 69) 28 = .ok (.bipush (-2), 2) := by decide +kernel
theorem d_M_paragraph_30 : decode (tm_c 69) 30 = .ok (.if_icmp .ne (5), 3) := by decide +kernel
theorem d_M_paragraph_33 : decode (tm_c 69) 33 = .ok (.iconst (-1), 1) := by decide +kernel
theorem d_M_paragraph_34 : decode (tm_c 69) 34 = .ok (.ireturn, 1) := by decide +kernel
theorem d_M_paragraph_35 : decode (tm_c 69) 35 = .ok (.iconst (0), 1) := by decide +kernel
theorem d_M_paragraph_36 : decode (tm_c 69) 36 = .ok (.istore 5, 2) := by decide +kernel
theorem d_M_paragraph_38 : decode (tm_c 69) 38 = .ok (.iload 4, 2) := by decide +kernel
theorem d_M_paragraph_40 : decode (tm_c 69) 40 = .ok (.iconst (1), 1) := by decide +kernel
theorem d_M_paragraph_41 : decode (tm_c 69) 41 = .ok (.iadd, 1) := by decide +kernel
theorem d_M_paragraph_42 : decode (tm_c 69) 42 = .ok (.iload 5, 2) := by decide +kernel
theorem d_M_paragraph_44 : decode (tm_c 69) 44 = .ok (.iadd, 1) := by decide +kernel
theorem d_M_paragraph_45 : decode (tm_c 69) 45 = .ok (.aload_n 0, 1) := by decide +kernel
theorem d_M_paragraph_46 : decode (tm_c 69) 46 = .ok (.getfield 101, 3) := by decide +kernel
theorem d_M_paragraph_49 : decode (tm_c 69) 49 = .ok (.if_icmp .ge (31), 3) := by decide +kernel
theorem d_M_paragraph_52 : decode (tm_c 69) 52 = .ok (.aload_n 0, 1) := by decide +kernel
theorem d_M_paragraph_53 : decode (tm_c 69) 53 = .ok (.getfield 19, 3) := by decide +kernel
theorem d_M_paragraph_56 : decode (tm_c 69) 56 = .ok (.aload_n 0, 1) := by decide +kernel
theorem d_M_paragraph_57 : decode (tm_c 69) 57 = .ok (.getfield 54, 3) := by decide +kernel
theorem d_M_paragraph_60 : decode (tm_c 69) 60 = .ok (.iload 4, 2) := by decide +kernel
theorem d_M_paragraph_62 : decode (tm_c 69) 62 = .ok (.iconst (1), 1) := by decide +kernel
theorem d_M_paragraph_63 : decode (tm_c 69) 63 = .ok (.iadd, 1) := by decide +kernel
theorem d_M_paragraph_64 : decode (tm_c 69) 64 = .ok (.iload 5, 2) := by decide +kernel
theorem d_M_paragraph_66 : decode (tm_c 69) 66 = .ok (.iadd, 1) := by decide +kernel
theorem d_M_paragraph_67 : decode (tm_c 69) 67 = .ok (.iaload, 1) := by decide +kernel
theorem d_M_paragraph_68 : decode (tm_c 69) 68 = .ok (.iaload, 1) := by decide +kernel
theorem d_M_paragraph_69 : decode (tm_c 69) 69 = .ok (.bipush (10), 2) := by decide +kernel
theorem d_M_paragraph_71 : decode (tm_c 69) 71 = .ok (.if_icmp .eq (9), 3) := by decide +kernel
theorem d_M_paragraph_74 : decode (tm_c 69) 74 = .ok (.iinc 5 (1), 3) := by decide +kernel
theorem d_M_paragraph_77 : decode (tm_c 69) 77 = .ok (.goto (-39), 3) := by decide +kernel
theorem d_M_paragraph_80 : decode (tm_c 69) 80 = .ok (.iload_n 3, 1) := by decide +kernel
theorem d_M_paragraph_81 : decode (tm_c 69) 81 = .ok (.ifCond .ne (10), 3) := by decide +kernel
theorem d_M_paragraph_84 : decode (tm_c 69) 84 = .ok (.iload 4, 2) := by decide +kernel
theorem d_M_paragraph_86 : decode (tm_c 69) 86 = .ok (.iconst (1), 1) := by decide +kernel
theorem d_M_paragraph_87 : decode (tm_c 69) 87 = .ok (.iadd, 1) := by decide +kernel
theorem d_M_paragraph_88 : decode (tm_c 69) 88 = .ok (.goto (44), 3) := by decide +kernel
theorem d_M_paragraph_91 : decode (tm_c 69) 91 = .ok (.iload_n 3, 1) := by decide +kernel
theorem d_M_paragraph_92 : decode (tm_c 69) 92 = .ok (.iconst (1), 1) := by decide +kernel
theorem d_M_paragraph_93 : decode (tm_c 69) 93 = .ok (.if_icmp .ne (8), 3) := by decide +kernel
theorem d_M_paragraph_96 : decode (tm_c 69) 96 = .ok (.iload 5, 2) := by decide +kernel
theorem d_M_paragraph_98 : decode (tm_c 69) 98 = .ok (.goto (34), 3) := by decide +kernel
theorem d_M_paragraph_101 : decode (tm_c 69) 101 = .ok (.iload_n 3, 1) := by decide +kernel
theorem d_M_paragraph_102 : decode (tm_c 69) 102 = .ok (.iconst (2), 1) := by decide +kernel
theorem d_M_paragraph_103 : decode (tm_c 69) 103 = .ok (.if_icmp .ne (28), 3) := by decide +kernel
theorem d_M_paragraph_106 : decode (tm_c 69) 106 = .ok (.aload_n 0, 1) := by decide +kernel
theorem d_M_paragraph_107 : decode (tm_c 69) 107 = .ok (.iload_n 1, 1) := by decide +kernel
theorem d_M_paragraph_108 : decode (tm_c 69) 108 = .ok (.iload 4, 2) := by decide +kernel
theorem d_M_paragraph_110 : decode (tm_c 69) 110 = .ok (.iconst (-1), 1) := by decide +kernel
theorem d_M_paragraph_111 : decode (tm_c 69) 111 = .ok (.if_icmp .ne (7), 3) := by decide +kernel
theorem d_M_paragraph_114 : decode (tm_c 69) 114 = .ok (.iconst (0), 1) := by decide +kernel
theorem d_M_paragraph_115 : decode (tm_c 69) 115 = .ok (.goto (10), 3) := by decide +kernel
theorem d_M_paragraph_118 : decode (tm_c 69) 118 = .ok (.aload_n 0, 1) := by decide +kernel
theorem d_M_paragraph_119 : decode (tm_c 69) 119 = .ok (.getfield 54, 3) := by decide +kernel
theorem d_M_paragraph_122 : decode (tm_c 69) 122 = .ok (.iload 4, 2) := by decide +kernel
theorem d_M_paragraph_124 : decode (tm_c 69) 124 = .ok (.iaload, 1) := by decide +kernel
theorem d_M_paragraph_125 : decode (tm_c 69) 125 = .ok (.invokevirtual 175, 3) := by decide +kernel
theorem d_M_paragraph_128 : decode (tm_c 69) 128 = .ok (.goto (4), 3) := by decide +kernel
theorem d_M_paragraph_131 : decode (tm_c 69) 131 = .ok (.iconst (-1), 1) := by decide +kernel
theorem d_M_paragraph_132 : decode (tm_c 69) 132 = .ok (.ireturn, 1) := by decide +kernel
theorem g_M_paragraph_0 : jSnd 69 0 (o_aload 1 0) := snd_aload_n d_M_paragraph_0 rfl
theorem g_M_paragraph_1 : jSnd 69 1 (o_push 2 (0)) := snd_iconst (n := 0) (z := 0) d_M_paragraph_1 (by decide) (by unfold jrg; omega)
theorem g_M_paragraph_2 : jSnd 69 2 (o_putI 5 14 (0)) := snd_putI (ci := 4) (k := 0) d_M_paragraph_2 rfl tm_in4 tm_D4 tm_ty4 tm_nm4 (by decide) wd_338 rfl rfl rfl
theorem g_M_paragraph_5 : jSnd 69 5 (o_iload 6 1) := snd_iload_n d_M_paragraph_5 rfl
theorem g_M_paragraph_6 : jSnd 69 6 (o_call 9 44 1 1 0 false) := snd_callS (n := 1) d_M_paragraph_6 (by decide) (by decide) (by decide) wc_44 wd_339 wd_340 wd_7 (by decide +kernel) (by decide) (by decide)
theorem g_M_paragraph_9 : jSnd 69 9 (o_if_ne 12 14) := snd_if_ne d_M_paragraph_9 (by decide)
theorem g_M_paragraph_12 : jSnd 69 12 (o_push 13 (-1)) := snd_iconst (n := -1) (z := -1) d_M_paragraph_12 (by decide) (by unfold jrg; omega)
theorem g_M_paragraph_13 : jSnd 69 13 (o_iret) := snd_iret d_M_paragraph_13 rfl
theorem g_M_paragraph_14 : jSnd 69 14 (o_aload 15 0) := snd_aload_n d_M_paragraph_14 rfl
theorem g_M_paragraph_15 : jSnd 69 15 (o_iload 16 1) := snd_iload_n d_M_paragraph_15 rfl
theorem g_M_paragraph_16 : jSnd 69 16 (o_call 19 43 2 4 14 true) := snd_callV (ci := 4) (n := 1) rfl d_M_paragraph_16 (by decide) (by decide) (by decide) wc_43 wd_343 wd_344 wd_345 wd_7 (by decide +kernel) (by decide) (by decide)
theorem g_M_paragraph_19 : jSnd 69 19 (o_aload 20 0) := snd_aload_n d_M_paragraph_19 rfl
theorem g_M_paragraph_20 : jSnd 69 20 (o_iload 21 2) := snd_iload_n d_M_paragraph_20 rfl
theorem g_M_paragraph_21 : jSnd 69 21 (o_call 24 51 2 4 14 false) := snd_callV (ci := 4) (n := 1) rfl d_M_paragraph_21 (by decide) (by decide) (by decide) wc_51 wd_349 wd_350 wd_351 wd_7 (by decide +kernel) (by decide) (by decide)
theorem g_M_paragraph_24 : jSnd 69 24 (o_istore 26 4) := snd_istore d_M_paragraph_24 (by decide)
theorem g_M_paragraph_26 : jSnd 69 26 (o_iload 28 4) := snd_iload d_M_paragraph_26
theorem g_M_paragraph_28 : jSnd 69 28 (o_push 30 (-2)) := snd_bipush (n := -2) (z := -2) d_M_paragraph_28 (by decide) (by unfold jrg; omega)
theorem g_M_paragraph_30 : jSnd 69 30 (o_ic_ne 33 35) := snd_ic_ne d_M_paragraph_30 (by decide)
theorem g_M_paragraph_33 : jSnd 69 33 (o_push 34 (-1)) := snd_iconst (n := -1) (z := -1) d_M_paragraph_33 (by decide) (by unfold jrg; omega)
theorem g_M_paragraph_34 : jSnd 69 34 (o_iret) := snd_iret d_M_paragraph_34 rfl
theorem g_M_paragraph_35 : jSnd 69 35 (o_push 36 (0)) := snd_iconst (n := 0) (z := 0) d_M_paragraph_35 (by decide) (by unfold jrg; omega)
theorem g_M_paragraph_36 : jSnd 69 36 (o_istore 38 5) := snd_istore d_M_paragraph_36 (by decide)
theorem g_M_paragraph_38 : jSnd 69 38 (o_iload 40 4) := snd_iload d_M_paragraph_38
theorem g_M_paragraph_40 : jSnd 69 40 (o_push 41 (1)) := snd_iconst (n := 1) (z := 1) d_M_paragraph_40 (by decide) (by unfold jrg; omega)
theorem g_M_paragraph_41 : jSnd 69 41 (o_bin 42 f_add) := snd_iadd d_M_paragraph_41
theorem g_M_paragraph_42 : jSnd 69 42 (o_iload 44 5) := snd_iload d_M_paragraph_42
theorem g_M_paragraph_44 : jSnd 69 44 (o_bin 45 f_add) := snd_iadd d_M_paragraph_44
theorem g_M_paragraph_45 : jSnd 69 45 (o_aload 46 0) := snd_aload_n d_M_paragraph_45 rfl
theorem g_M_paragraph_46 : jSnd 69 46 (o_getI 49 14 (17)) := snd_getI (ci := 4) (k := 17) d_M_paragraph_46 rfl tm_in4 (by decide) wd_317 rfl
theorem g_M_paragraph_49 : jSnd 69 49 (o_ic_ge 52 80) := snd_ic_ge d_M_paragraph_49 (by decide)
theorem g_M_paragraph_52 : jSnd 69 52 (o_aload 53 0) := snd_aload_n d_M_paragraph_52 rfl
theorem g_M_paragraph_53 : jSnd 69 53 (o_getR 56 14 (5)) := snd_getR (ci := 4) (k := 5) d_M_paragraph_53 rfl tm_in4 (by decide) wd_285 rfl
theorem g_M_paragraph_56 : jSnd 69 56 (o_aload 57 0) := snd_aload_n d_M_paragraph_56 rfl
theorem g_M_paragraph_57 : jSnd 69 57 (o_getR 60 14 (18)) := snd_getR (ci := 4) (k := 18) d_M_paragraph_57 rfl tm_in4 (by decide) wd_297 rfl
theorem g_M_paragraph_60 : jSnd 69 60 (o_iload 62 4) := snd_iload d_M_paragraph_60
theorem g_M_paragraph_62 : jSnd 69 62 (o_push 63 (1)) := snd_iconst (n := 1) (z := 1) d_M_paragraph_62 (by decide) (by unfold jrg; omega)
theorem g_M_paragraph_63 : jSnd 69 63 (o_bin 64 f_add) := snd_iadd d_M_paragraph_63
theorem g_M_paragraph_64 : jSnd 69 64 (o_iload 66 5) := snd_iload d_M_paragraph_64
theorem g_M_paragraph_66 : jSnd 69 66 (o_bin 67 f_add) := snd_iadd d_M_paragraph_66
theorem g_M_paragraph_67 : jSnd 69 67 (o_nald 68 1) := snd_iald d_M_paragraph_67
theorem g_M_paragraph_68 : jSnd 69 68 (o_nald 69 1) := snd_iald d_M_paragraph_68
theorem g_M_paragraph_69 : jSnd 69 69 (o_push 71 (10)) := snd_bipush (n := 10) (z := 10) d_M_paragraph_69 (by decide) (by unfold jrg; omega)
theorem g_M_paragraph_71 : jSnd 69 71 (o_ic_eq 74 80) := snd_ic_eq d_M_paragraph_71 (by decide)
theorem g_M_paragraph_74 : jSnd 69 74 (o_iinc 77 5 (1)) := snd_iinc d_M_paragraph_74 (by decide)
theorem g_M_paragraph_77 : jSnd 69 77 (o_goto 38) := snd_goto d_M_paragraph_77 (by decide)
theorem g_M_paragraph_80 : jSnd 69 80 (o_iload 81 3) := snd_iload_n d_M_paragraph_80 rfl
theorem g_M_paragraph_81 : jSnd 69 81 (o_if_ne 84 91) := snd_if_ne d_M_paragraph_81 (by decide)
theorem g_M_paragraph_84 : jSnd 69 84 (o_iload 86 4) := snd_iload d_M_paragraph_84
theorem g_M_paragraph_86 : jSnd 69 86 (o_push 87 (1)) := snd_iconst (n := 1) (z := 1) d_M_paragraph_86 (by decide) (by unfold jrg; omega)
theorem g_M_paragraph_87 : jSnd 69 87 (o_bin 88 f_add) := snd_iadd d_M_paragraph_87
theorem g_M_paragraph_88 : jSnd 69 88 (o_goto 132) := snd_goto d_M_paragraph_88 (by decide)
theorem g_M_paragraph_91 : jSnd 69 91 (o_iload 92 3) := snd_iload_n d_M_paragraph_91 rfl
theorem g_M_paragraph_92 : jSnd 69 92 (o_push 93 (1)) := snd_iconst (n := 1) (z := 1) d_M_paragraph_92 (by decide) (by unfold jrg; omega)
theorem g_M_paragraph_93 : jSnd 69 93 (o_ic_ne 96 101) := snd_ic_ne d_M_paragraph_93 (by decide)
theorem g_M_paragraph_96 : jSnd 69 96 (o_iload 98 5) := snd_iload d_M_paragraph_96
theorem g_M_paragraph_98 : jSnd 69 98 (o_goto 132) := snd_goto d_M_paragraph_98 (by decide)
theorem g_M_paragraph_101 : jSnd 69 101 (o_iload 102 3) := snd_iload_n d_M_paragraph_101 rfl
theorem g_M_paragraph_102 : jSnd 69 102 (o_push 103 (2)) := snd_iconst (n := 2) (z := 2) d_M_paragraph_102 (by decide) (by unfold jrg; omega)
theorem g_M_paragraph_103 : jSnd 69 103 (o_ic_ne 106 131) := snd_ic_ne d_M_paragraph_103 (by decide)
theorem g_M_paragraph_106 : jSnd 69 106 (o_aload 107 0) := snd_aload_n d_M_paragraph_106 rfl
theorem g_M_paragraph_107 : jSnd 69 107 (o_iload 108 1) := snd_iload_n d_M_paragraph_107 rfl
theorem g_M_paragraph_108 : jSnd 69 108 (o_iload 110 4) := snd_iload d_M_paragraph_108
theorem g_M_paragraph_110 : jSnd 69 110 (o_push 111 (-1)) := snd_iconst (n := -1) (z := -1) d_M_paragraph_110 (by decide) (by unfold jrg; omega)
theorem g_M_paragraph_111 : jSnd 69 111 (o_ic_ne 114 118) := snd_ic_ne d_M_paragraph_111 (by decide)
theorem g_M_paragraph_114 : jSnd 69 114 (o_push 115 (0)) := snd_iconst (n := 0) (z := 0) d_M_paragraph_114 (by decide) (by unfold jrg; omega)
theorem g_M_paragraph_115 : jSnd 69 115 (o_goto 125) := snd_goto d_M_paragraph_115 (by decide)
theorem g_M_paragraph_118 : jSnd 69 118 (o_aload 119 0) := snd_aload_n d_M_paragraph_118 rfl
theorem g_M_paragraph_119 : jSnd 69 119 (o_getR 122 14 (18)) := snd_getR (ci := 4) (k := 18) d_M_paragraph_119 rfl tm_in4 (by decide) wd_297 rfl
theorem g_M_paragraph_122 : jSnd 69 122 (o_iload 124 4) := snd_iload d_M_paragraph_122
theorem g_M_paragraph_124 : jSnd 69 124 (o_nald 125 1) := snd_iald d_M_paragraph_124
theorem g_M_paragraph_125 : jSnd 69 125 (o_call 128 68 3 5 14 false) := snd_callV (ci := 4) (n := 2) rfl d_M_paragraph_125 (by decide) (by decide) (by decide) wc_68 wd_376 wd_377 wd_378 wd_7 (by decide +kernel) (by decide) (by decide)
theorem g_M_paragraph_128 : jSnd 69 128 (o_goto 132) := snd_goto d_M_paragraph_128 (by decide)
theorem g_M_paragraph_131 : jSnd 69 131 (o_push 132 (-1)) := snd_iconst (n := -1) (z := -1) d_M_paragraph_131 (by decide) (by unfold jrg; omega)
theorem g_M_paragraph_132 : jSnd 69 132 (o_iret) := snd_iret d_M_paragraph_132 rfl
set_option maxRecDepth 100000 in
theorem ga_M_paragraph : jAll 69 0 tmp_M_paragraph := ⟨g_M_paragraph_0, g_M_paragraph_1, g_M_paragraph_2, snd_bad _ _, snd_bad _ _, g_M_paragraph_5, g_M_paragraph_6, snd_bad _ _, snd_bad _ _, g_M_paragraph_9, snd_bad _ _, snd_bad _ _, g_M_paragraph_12, g_M_paragraph_13, g_M_paragraph_14, g_M_paragraph_15, g_M_paragraph_16, snd_bad _ _, snd_bad _ _, g_M_paragraph_19, g_M_paragraph_20, g_M_paragraph_21, snd_bad _ _, snd_bad _ _, g_M_paragraph_24, snd_bad _ _, g_M_paragraph_26, snd_bad _ _, g_M_paragraph_28, snd_bad _ _, g_M_paragraph_30, snd_bad _ _, snd_bad _ _, g_M_paragraph_33, g_M_paragraph_34, g_M_paragraph_35, g_M_paragraph_36, snd_bad _ _, g_M_paragraph_38, snd_bad _ _, g_M_paragraph_40, g_M_paragraph_41, g_M_paragraph_42, snd_bad _ _, g_M_paragraph_44, g_M_paragraph_45, g_M_paragraph_46, snd_bad _ _, snd_bad _ _, g_M_paragraph_49, snd_bad _ _, snd_bad _ _, g_M_paragraph_52, g_M_paragraph_53, snd_bad _ _, snd_bad _ _, g_M_paragraph_56, g_M_paragraph_57, snd_bad _ _, snd_bad _ _, g_M_paragraph_60, snd_bad _ _, g_M_paragraph_62, g_M_paragraph_63, g_M_paragraph_64, snd_bad _ _, g_M_paragraph_66, g_M_paragraph_67, g_M_paragraph_68, g_M_paragraph_69, snd_bad _ _, g_M_paragraph_71, snd_bad _ _, snd_bad _ _, g_M_paragraph_74, snd_bad _ _, snd_bad _ _, g_M_paragraph_77, snd_bad _ _, snd_bad _ _, g_M_paragraph_80, g_M_paragraph_81, snd_bad _ _, snd_bad _ _, g_M_paragraph_84, snd_bad _ _, g_M_paragraph_86, g_M_paragraph_87, g_M_paragraph_88, snd_bad _ _, snd_bad _ _, g_M_paragraph_91, g_M_paragraph_92, g_M_paragraph_93, snd_bad _ _, snd_bad _ _, g_M_paragraph_96, snd_bad _ _, g_M_paragraph_98, snd_bad _ _, snd_bad _ _, g_M_paragraph_101, g_M_paragraph_102, g_M_paragraph_103, snd_bad _ _, snd_bad _ _, g_M_paragraph_106, g_M_paragraph_107, g_M_paragraph_108, snd_bad _ _, g_M_paragraph_110, g_M_paragraph_111, snd_bad _ _, snd_bad _ _, g_M_paragraph_114, g_M_paragraph_115, snd_bad _ _, snd_bad _ _, g_M_paragraph_118, g_M_paragraph_119, snd_bad _ _, snd_bad _ _, g_M_paragraph_122, snd_bad _ _, g_M_paragraph_124, g_M_paragraph_125, snd_bad _ _, snd_bad _ _, g_M_paragraph_128, snd_bad _ _, snd_bad _ _, g_M_paragraph_131, g_M_paragraph_132, trivial⟩
theorem d_M_row_0 : decode (tm_c 70) 0 = .ok (.aload_n 0, 1) := by decide +kernel
theorem d_M_row_1 : decode (tm_c 70) 1 = .ok (.iconst (0), 1) := by decide +kernel
theorem d_M_row_2 : decode (tm_c 70) 2 = .ok (.putfield 78, 3) := by decide +kernel
theorem d_M_row_5 : decode (tm_c 70) 5 = .ok (.iload_n 1, 1) := by decide +kernel
theorem d_M_row_6 : decode (tm_c 70) 6 = .ok (.iconst (1), 1) := by decide +kernel
theorem d_M_row_7 : decode (tm_c 70) 7 = .ok (.aload_n 0, 1) := by decide +kernel
theorem d_M_row_8 : decode (tm_c 70) 8 = .ok (.getfield 81, 3) := by decide +kernel
theorem d_M_row_11 : decode (tm_c 70) 11 = .ok (.invokestatic 121, 3) := by decide +kernel
theorem d_M_row_14 : decode (tm_c 70) 14 = .ok (.ifCond .ne (5), 3) := by decide +kernel
theorem d_M_row_17 : decode (tm_c 70) 17 = .ok (.iconst (-1), 1) := by decide +kernel
theorem d_M_row_18 : decode (tm_c 70) 18 = .ok (.ireturn, 1) := by decide +kernel
theorem d_M_row_19 : decode (tm_c 70) 19 = .ok (.iload_n 2, 1) := by decide +kernel
theorem d_M_row_20 : decode (tm_c 70) 20 = .ok (.tableswitch (93) (0) (6) #[44, 51, 58, 65, 72, 79, 86], 44) := by decide +kernel
theorem d_M_row_64 : decode (tm_c 70) 64 = .ok (.aload_n 0, 1) := by decide +kernel
theorem d_M_row_65 : decode (tm_c 70) 65 = .ok (.getfield 7, 3) := by decide +kernel
theorem d_M_row_68 : decode (tm_c 70) 68 = .ok (.iload_n 1, 1) := by decide +kernel
theorem d_M_row_69 : decode (tm_c 70) 69 = .ok (.iaload, 1) := by decide +kernel
theorem d_M_row_70 : decode (tm_c 70) 70 = .ok (.ireturn, 1) := by decide +kernel
theorem d_M_row_71 : decode (tm_c 70) 71 = .ok (.aload_n 0, 1) := by decide +kernel
theorem d_M_row_72 : decode (tm_c 70) 72 = .ok (.getfield 13, 3) := by decide +kernel
theorem d_M_row_75 : decode (tm_c 70) 75 = .ok (.iload_n 1, 1) := by decide +kernel
theorem d_M_row_76 : decode (tm_c 70) 76 = .ok (.iaload, 1) := by decide +kernel
theorem d_M_row_77 : decode (tm_c 70) 77 = .ok (.ireturn, 1) := by decide +kernel
theorem d_M_row_78 : decode (tm_c 70) 78 = .ok (.aload_n 0, 1) := by decide +kernel
theorem d_M_row_79 : decode (tm_c 70) 79 = .ok (.getfield 16, 3) := by decide +kernel
theorem d_M_row_82 : decode (tm_c 70) 82 = .ok (.iload_n 1, 1) := by decide +kernel
theorem d_M_row_83 : decode (tm_c 70) 83 = .ok (.iaload, 1) := by decide +kernel
theorem d_M_row_84 : decode (tm_c 70) 84 = .ok (.ireturn, 1) := by decide +kernel
theorem d_M_row_85 : decode (tm_c 70) 85 = .ok (.aload_n 0, 1) := by decide +kernel
theorem d_M_row_86 : decode (tm_c 70) 86 = .ok (.getfield 19, 3) := by decide +kernel
theorem d_M_row_89 : decode (tm_c 70) 89 = .ok (.iload_n 1, 1) := by decide +kernel
theorem d_M_row_90 : decode (tm_c 70) 90 = .ok (.iaload, 1) := by decide +kernel
theorem d_M_row_91 : decode (tm_c 70) 91 = .ok (.ireturn, 1) := by decide +kernel
theorem d_M_row_92 : decode (tm_c 70) 92 = .ok (.aload_n 0, 1) := by decide +kernel
theorem d_M_row_93 : decode (tm_c 70) 93 = .ok (.getfield 22, 3) := by decide +kernel
theorem d_M_row_96 : decode (tm_c 70) 96 = .ok (.iload_n 1, 1) := by decide +kernel
theorem d_M_row_97 : decode (tm_c 70) 97 = .ok (.iaload, 1) := by decide +kernel
theorem d_M_row_98 : decode (tm_c 70) 98 = .ok (.ireturn, 1) := by decide +kernel
theorem d_M_row_99 : decode (tm_c 70) 99 = .ok (.aload_n 0, 1) := by decide +kernel
theorem d_M_row_100 : decode (tm_c 70) 100 = .ok (.getfield 25, 3) := by decide +kernel
theorem d_M_row_103 : decode (tm_c 70) 103 = .ok (.iload_n 1, 1) := by decide +kernel
theorem d_M_row_104 : decode (tm_c 70) 104 = .ok (.iaload, 1) := by decide +kernel
theorem d_M_row_105 : decode (tm_c 70) 105 = .ok (.ireturn, 1) := by decide +kernel
theorem d_M_row_106 : decode (tm_c 70) 106 = .ok (.aload_n 0, 1) := by decide +kernel
theorem d_M_row_107 : decode (tm_c 70) 107 = .ok (.getfield 28, 3) := by decide +kernel
theorem d_M_row_110 : decode (tm_c 70) 110 = .ok (.iload_n 1, 1) := by decide +kernel
theorem d_M_row_111 : decode (tm_c 70) 111 = .ok (.iaload, 1) := by decide +kernel
theorem d_M_row_112 : decode (tm_c 70) 112 = .ok (.ireturn, 1) := by decide +kernel
theorem d_M_row_113 : decode (tm_c 70) 113 = .ok (.iconst (-1), 1) := by decide +kernel
theorem d_M_row_114 : decode (tm_c 70) 114 = .ok (.ireturn, 1) := by decide +kernel
theorem g_M_row_0 : jSnd 70 0 (o_aload 1 0) := snd_aload_n d_M_row_0 rfl
theorem g_M_row_1 : jSnd 70 1 (o_push 2 (0)) := snd_iconst (n := 0) (z := 0) d_M_row_1 (by decide) (by unfold jrg; omega)
theorem g_M_row_2 : jSnd 70 2 (o_putI 5 14 (0)) := snd_putI (ci := 4) (k := 0) d_M_row_2 rfl tm_in4 tm_D4 tm_ty4 tm_nm4 (by decide) wd_338 rfl rfl rfl
theorem g_M_row_5 : jSnd 70 5 (o_iload 6 1) := snd_iload_n d_M_row_5 rfl
theorem g_M_row_6 : jSnd 70 6 (o_push 7 (1)) := snd_iconst (n := 1) (z := 1) d_M_row_6 (by decide) (by unfold jrg; omega)
theorem g_M_row_7 : jSnd 70 7 (o_aload 8 0) := snd_aload_n d_M_row_7 rfl
theorem g_M_row_8 : jSnd 70 8 (o_getI 11 14 (1)) := snd_getI (ci := 4) (k := 1) d_M_row_8 rfl tm_in4 (by decide) wd_305 rfl
theorem g_M_row_11 : jSnd 70 11 (o_call 14 34 3 3 0 false) := snd_callS (n := 3) d_M_row_11 (by decide) (by decide) (by decide) wc_34 wd_333 wd_334 wd_7 (by decide +kernel) (by decide) (by decide)
theorem g_M_row_14 : jSnd 70 14 (o_if_ne 17 19) := snd_if_ne d_M_row_14 (by decide)
theorem g_M_row_17 : jSnd 70 17 (o_push 18 (-1)) := snd_iconst (n := -1) (z := -1) d_M_row_17 (by decide) (by unfold jrg; omega)
theorem g_M_row_18 : jSnd 70 18 (o_iret) := snd_iret d_M_row_18 rfl
theorem g_M_row_19 : jSnd 70 19 (o_iload 20 2) := snd_iload_n d_M_row_19 rfl
theorem g_M_row_20 : jSnd 70 20 (o_switch 113 [(0, 64), (1, 71), (2, 78), (3, 85), (4, 92), (5, 99), (6, 106)]) := snd_table (t := [(0, 64), (1, 71), (2, 78), (3, 85), (4, 92), (5, 99), (6, 106)]) d_M_row_20 (by decide) (fun x h1 h2 => by rcases (show x = 0 ∨ x = 1 ∨ x = 2 ∨ x = 3 ∨ x = 4 ∨ x = 5 ∨ x = 6 by omega) with rfl | rfl | rfl | rfl | rfl | rfl | rfl <;> exact ⟨_, rfl, rfl⟩) (fun x h => by simp only [jsw]; rw [if_neg (by omega)]; rw [if_neg (by omega)]; rw [if_neg (by omega)]; rw [if_neg (by omega)]; rw [if_neg (by omega)]; rw [if_neg (by omega)]; rw [if_neg (by omega)])
theorem g_M_row_64 : jSnd 70 64 (o_aload 65 0) := snd_aload_n d_M_row_64 rfl
theorem g_M_row_65 : jSnd 70 65 (o_getR 68 14 (2)) := snd_getR (ci := 4) (k := 2) d_M_row_65 rfl tm_in4 (by decide) wd_282 rfl
theorem g_M_row_68 : jSnd 70 68 (o_iload 69 1) := snd_iload_n d_M_row_68 rfl
theorem g_M_row_69 : jSnd 70 69 (o_nald 70 1) := snd_iald d_M_row_69
theorem g_M_row_70 : jSnd 70 70 (o_iret) := snd_iret d_M_row_70 rfl
theorem g_M_row_71 : jSnd 70 71 (o_aload 72 0) := snd_aload_n d_M_row_71 rfl
theorem g_M_row_72 : jSnd 70 72 (o_getR 75 14 (3)) := snd_getR (ci := 4) (k := 3) d_M_row_72 rfl tm_in4 (by decide) wd_283 rfl
theorem g_M_row_75 : jSnd 70 75 (o_iload 76 1) := snd_iload_n d_M_row_75 rfl
theorem g_M_row_76 : jSnd 70 76 (o_nald 77 1) := snd_iald d_M_row_76
theorem g_M_row_77 : jSnd 70 77 (o_iret) := snd_iret d_M_row_77 rfl
theorem g_M_row_78 : jSnd 70 78 (o_aload 79 0) := snd_aload_n d_M_row_78 rfl
theorem g_M_row_79 : jSnd 70 79 (o_getR 82 14 (4)) := snd_getR (ci := 4) (k := 4) d_M_row_79 rfl tm_in4 (by decide) wd_284 rfl
theorem g_M_row_82 : jSnd 70 82 (o_iload 83 1) := snd_iload_n d_M_row_82 rfl
theorem g_M_row_83 : jSnd 70 83 (o_nald 84 1) := snd_iald d_M_row_83
theorem g_M_row_84 : jSnd 70 84 (o_iret) := snd_iret d_M_row_84 rfl
theorem g_M_row_85 : jSnd 70 85 (o_aload 86 0) := snd_aload_n d_M_row_85 rfl
theorem g_M_row_86 : jSnd 70 86 (o_getR 89 14 (5)) := snd_getR (ci := 4) (k := 5) d_M_row_86 rfl tm_in4 (by decide) wd_285 rfl
theorem g_M_row_89 : jSnd 70 89 (o_iload 90 1) := snd_iload_n d_M_row_89 rfl
theorem g_M_row_90 : jSnd 70 90 (o_nald 91 1) := snd_iald d_M_row_90
theorem g_M_row_91 : jSnd 70 91 (o_iret) := snd_iret d_M_row_91 rfl
theorem g_M_row_92 : jSnd 70 92 (o_aload 93 0) := snd_aload_n d_M_row_92 rfl
theorem g_M_row_93 : jSnd 70 93 (o_getR 96 14 (6)) := snd_getR (ci := 4) (k := 6) d_M_row_93 rfl tm_in4 (by decide) wd_286 rfl
theorem g_M_row_96 : jSnd 70 96 (o_iload 97 1) := snd_iload_n d_M_row_96 rfl
theorem g_M_row_97 : jSnd 70 97 (o_nald 98 1) := snd_iald d_M_row_97
theorem g_M_row_98 : jSnd 70 98 (o_iret) := snd_iret d_M_row_98 rfl
theorem g_M_row_99 : jSnd 70 99 (o_aload 100 0) := snd_aload_n d_M_row_99 rfl
theorem g_M_row_100 : jSnd 70 100 (o_getR 103 14 (7)) := snd_getR (ci := 4) (k := 7) d_M_row_100 rfl tm_in4 (by decide) wd_287 rfl
theorem g_M_row_103 : jSnd 70 103 (o_iload 104 1) := snd_iload_n d_M_row_103 rfl
theorem g_M_row_104 : jSnd 70 104 (o_nald 105 1) := snd_iald d_M_row_104
theorem g_M_row_105 : jSnd 70 105 (o_iret) := snd_iret d_M_row_105 rfl
theorem g_M_row_106 : jSnd 70 106 (o_aload 107 0) := snd_aload_n d_M_row_106 rfl
theorem g_M_row_107 : jSnd 70 107 (o_getR 110 14 (8)) := snd_getR (ci := 4) (k := 8) d_M_row_107 rfl tm_in4 (by decide) wd_288 rfl
theorem g_M_row_110 : jSnd 70 110 (o_iload 111 1) := snd_iload_n d_M_row_110 rfl
theorem g_M_row_111 : jSnd 70 111 (o_nald 112 1) := snd_iald d_M_row_111
theorem g_M_row_112 : jSnd 70 112 (o_iret) := snd_iret d_M_row_112 rfl
theorem g_M_row_113 : jSnd 70 113 (o_push 114 (-1)) := snd_iconst (n := -1) (z := -1) d_M_row_113 (by decide) (by unfold jrg; omega)
theorem g_M_row_114 : jSnd 70 114 (o_iret) := snd_iret d_M_row_114 rfl
set_option maxRecDepth 100000 in
theorem ga_M_row : jAll 70 0 tmp_M_row := ⟨g_M_row_0, g_M_row_1, g_M_row_2, snd_bad _ _, snd_bad _ _, g_M_row_5, g_M_row_6, g_M_row_7, g_M_row_8, snd_bad _ _, snd_bad _ _, g_M_row_11, snd_bad _ _, snd_bad _ _, g_M_row_14, snd_bad _ _, snd_bad _ _, g_M_row_17, g_M_row_18, g_M_row_19, g_M_row_20, snd_bad _ _, snd_bad _ _, snd_bad _ _, snd_bad _ _, snd_bad _ _, snd_bad _ _, snd_bad _ _, snd_bad _ _, snd_bad _ _, snd_bad _ _, snd_bad _ _, snd_bad _ _, snd_bad _ _, snd_bad _ _, snd_bad _ _, snd_bad _ _, snd_bad _ _, snd_bad _ _, snd_bad _ _, snd_bad _ _, snd_bad _ _, snd_bad _ _, snd_bad _ _, snd_bad _ _, snd_bad _ _, snd_bad _ _, snd_bad _ _, snd_bad _ _, snd_bad _ _, snd_bad _ _, snd_bad _ _, snd_bad _ _, snd_bad _ _, snd_bad _ _, snd_bad _ _, snd_bad _ _, snd_bad _ _, snd_bad _ _, snd_bad _ _, snd_bad _ _, snd_bad _ _, snd_bad _ _, snd_bad _ _, g_M_row_64, g_M_row_65, snd_bad _ _, snd_bad _ _, g_M_row_68, g_M_row_69, g_M_row_70, g_M_row_71, g_M_row_72, snd_bad _ _, snd_bad _ _, g_M_row_75, g_M_row_76, g_M_row_77, g_M_row_78, g_M_row_79, snd_bad _ _, snd_bad _ _, g_M_row_82, g_M_row_83, g_M_row_84, g_M_row_85, g_M_row_86, snd_bad _ _, snd_bad _ _, g_M_row_89, g_M_row_90, g_M_row_91, g_M_row_92, g_M_row_93, snd_bad _ _, snd_bad _ _, g_M_row_96, g_M_row_97, g_M_row_98, g_M_row_99, g_M_row_100, snd_bad _ _, snd_bad _ _, g_M_row_103, g_M_row_104, g_M_row_105, g_M_row_106, g_M_row_107, snd_bad _ _, snd_bad _ _, g_M_row_110, g_M_row_111, g_M_row_112, g_M_row_113, g_M_row_114, trivial⟩
theorem d_M_paragraphs_0 : decode (tm_c 71) 0 = .ok (.iconst (1), 1) := by decide +kernel
theorem d_M_paragraphs_1 : decode (tm_c 71) 1 = .ok (.istore_n 1, 1) := by decide +kernel
theorem d_M_paragraphs_2 : decode (tm_c 71) 2 = .ok (.iconst (0), 1) := by decide +kernel
theorem d_M_paragraphs_3 : decode (tm_c 71) 3 = .ok (.istore_n 2, 1) := by decide +kernel
theorem d_M_paragraphs_4 : decode (tm_c 71) 4 = .ok (.iload_n 2, 1) := by decide +kernel
theorem d_M_paragraphs_5 : decode (tm_c 71) 5 = .ok (.aload_n 0, 1) := by decide +kernel
theorem d_M_paragraphs_6 : decode (tm_c 71) 6 = .ok (.getfield 101, 3) := by decide +kernel
theorem d_M_paragraphs_9 : decode (tm_c 71) 9 = .ok (.if_icmp .ge (33), 3) := by decide +kernel
theorem d_M_paragraphs_12 : decode (tm_c 71) 12 = .ok (.iload_n 1, 1) := by decide +kernel
theorem d_M_paragraphs_13 : decode (tm_c 71) 13 = .ok (.aload_n 0, 1) := by decide +kernel
theorem d_M_paragraphs_14 : decode (tm_c 71) 14 = .ok (.getfield 19, 3) := by decide +kernel
theorem d_M_paragraphs_17 : decode (tm_c 71) 17 = .ok (.aload_n 0, 1) := by decide +kernel
theorem d_M_paragraphs_18 : decode (tm_c 71) 18 = .ok (.getfield 54, 3) := by decide +kernel
theorem d_M_paragraphs_21 : decode (tm_c 71) 21 = .ok (.iload_n 2, 1) := by decide +kernel
theorem d_M_paragraphs_22 : decode (tm_c 71) 22 = .ok (.iaload, 1) := by decide +kernel
theorem d_M_paragraphs_23 : decode (tm_c 71) 23 = .ok (.iaload, 1) := by decide +kernel
theorem d_M_paragraphs_24 : decode (tm_c 71) 24 = .ok (.bipush (10), 2) := by decide +kernel
theorem d_M_paragraphs_26 : decode (tm_c 71) 26 = .ok (.if_icmp .ne (7), 3) := by decide +kernel
theorem d_M_paragraphs_29 : decode (tm_c 71) 29 = .ok (.iconst (1), 1) := by decide +kernel
theorem d_M_paragraphs_30 : decode (tm_c 71) 30 = .ok (.goto (4), 3) := by decide +kernel
theorem d_M_paragraphs_33 : decode (tm_c 71) 33 = .ok (.iconst (0), 1) := by decide +kernel
theorem d_M_paragraphs_34 : decode (tm_c 71) 34 = .ok (.iadd, 1) := by decide +kernel
theorem d_M_paragraphs_35 : decode (tm_c 71) 35 = .ok (.istore_n 1, 1) := by decide +kernel
theorem d_M_paragraphs_36 : decode (tm_c 71) 36 = .ok (.iinc 2 (1), 3) := by decide +kernel
theorem d_M_paragraphs_39 : decode (tm_c 71) 39 = .ok (.goto (-35), 3) := by decide +kernel
theorem d_M_paragraphs_42 : decode (tm_c 71) 42 = .ok (.iload_n 1, 1) := by decide +kernel
theorem d_M_paragraphs_43 : decode (tm_c 71) 43 = .ok (.ireturn, 1) := by decide +kernel
theorem g_M_paragraphs_0 : jSnd 71 0 (o_push 1 (1)) := snd_iconst (n := 1) (z := 1) d_M_paragraphs_0 (by decide) (by unfold jrg; omega)
theorem g_M_paragraphs_1 : jSnd 71 1 (o_istore 2 1) := snd_istore_n d_M_paragraphs_1 rfl (by decide)
theorem g_M_paragraphs_2 : jSnd 71 2 (o_push 3 (0)) := snd_iconst (n := 0) (z := 0) d_M_paragraphs_2 (by decide) (by unfold jrg; omega)
theorem g_M_paragraphs_3 : jSnd 71 3 (o_istore 4 2) := snd_istore_n d_M_paragraphs_3 rfl (by decide)
theorem g_M_paragraphs_4 : jSnd 71 4 (o_iload 5 2) := snd_iload_n d_M_paragraphs_4 rfl
theorem g_M_paragraphs_5 : jSnd 71 5 (o_aload 6 0) := snd_aload_n d_M_paragraphs_5 rfl
theorem g_M_paragraphs_6 : jSnd 71 6 (o_getI 9 14 (17)) := snd_getI (ci := 4) (k := 17) d_M_paragraphs_6 rfl tm_in4 (by decide) wd_317 rfl
theorem g_M_paragraphs_9 : jSnd 71 9 (o_ic_ge 12 42) := snd_ic_ge d_M_paragraphs_9 (by decide)
theorem g_M_paragraphs_12 : jSnd 71 12 (o_iload 13 1) := snd_iload_n d_M_paragraphs_12 rfl
theorem g_M_paragraphs_13 : jSnd 71 13 (o_aload 14 0) := snd_aload_n d_M_paragraphs_13 rfl
theorem g_M_paragraphs_14 : jSnd 71 14 (o_getR 17 14 (5)) := snd_getR (ci := 4) (k := 5) d_M_paragraphs_14 rfl tm_in4 (by decide) wd_285 rfl
theorem g_M_paragraphs_17 : jSnd 71 17 (o_aload 18 0) := snd_aload_n d_M_paragraphs_17 rfl
theorem g_M_paragraphs_18 : jSnd 71 18 (o_getR 21 14 (18)) := snd_getR (ci := 4) (k := 18) d_M_paragraphs_18 rfl tm_in4 (by decide) wd_297 rfl
theorem g_M_paragraphs_21 : jSnd 71 21 (o_iload 22 2) := snd_iload_n d_M_paragraphs_21 rfl
theorem g_M_paragraphs_22 : jSnd 71 22 (o_nald 23 1) := snd_iald d_M_paragraphs_22
theorem g_M_paragraphs_23 : jSnd 71 23 (o_nald 24 1) := snd_iald d_M_paragraphs_23
theorem g_M_paragraphs_24 : jSnd 71 24 (o_push 26 (10)) := snd_bipush (n := 10) (z := 10) d_M_paragraphs_24 (by decide) (by unfold jrg; omega)
theorem g_M_paragraphs_26 : jSnd 71 26 (o_ic_ne 29 33) := snd_ic_ne d_M_paragraphs_26 (by decide)
theorem g_M_paragraphs_29 : jSnd 71 29 (o_push 30 (1)) := snd_iconst (n := 1) (z := 1) d_M_paragraphs_29 (by decide) (by unfold jrg; omega)
theorem g_M_paragraphs_30 : jSnd 71 30 (o_goto 34) := snd_goto d_M_paragraphs_30 (by decide)
theorem g_M_paragraphs_33 : jSnd 71 33 (o_push 34 (0)) := snd_iconst (n := 0) (z := 0) d_M_paragraphs_33 (by decide) (by unfold jrg; omega)
theorem g_M_paragraphs_34 : jSnd 71 34 (o_bin 35 f_add) := snd_iadd d_M_paragraphs_34
theorem g_M_paragraphs_35 : jSnd 71 35 (o_istore 36 1) := snd_istore_n d_M_paragraphs_35 rfl (by decide)
theorem g_M_paragraphs_36 : jSnd 71 36 (o_iinc 39 2 (1)) := snd_iinc d_M_paragraphs_36 (by decide)
theorem g_M_paragraphs_39 : jSnd 71 39 (o_goto 4) := snd_goto d_M_paragraphs_39 (by decide)
theorem g_M_paragraphs_42 : jSnd 71 42 (o_iload 43 1) := snd_iload_n d_M_paragraphs_42 rfl
theorem g_M_paragraphs_43 : jSnd 71 43 (o_iret) := snd_iret d_M_paragraphs_43 rfl
set_option maxRecDepth 100000 in
theorem ga_M_paragraphs : jAll 71 0 tmp_M_paragraphs := ⟨g_M_paragraphs_0, g_M_paragraphs_1, g_M_paragraphs_2, g_M_paragraphs_3, g_M_paragraphs_4, g_M_paragraphs_5, g_M_paragraphs_6, snd_bad _ _, snd_bad _ _, g_M_paragraphs_9, snd_bad _ _, snd_bad _ _, g_M_paragraphs_12, g_M_paragraphs_13, g_M_paragraphs_14, snd_bad _ _, snd_bad _ _, g_M_paragraphs_17, g_M_paragraphs_18, snd_bad _ _, snd_bad _ _, g_M_paragraphs_21, g_M_paragraphs_22, g_M_paragraphs_23, g_M_paragraphs_24, snd_bad _ _, g_M_paragraphs_26, snd_bad _ _, snd_bad _ _, g_M_paragraphs_29, g_M_paragraphs_30, snd_bad _ _, snd_bad _ _, g_M_paragraphs_33, g_M_paragraphs_34, g_M_paragraphs_35, g_M_paragraphs_36, snd_bad _ _, snd_bad _ _, g_M_paragraphs_39, snd_bad _ _, snd_bad _ _, g_M_paragraphs_42, g_M_paragraphs_43, trivial⟩
theorem d_M_kindAt_0 : decode (tm_c 72) 0 = .ok (.aload_n 0, 1) := by decide +kernel
theorem d_M_kindAt_1 : decode (tm_c 72) 1 = .ok (.iload_n 2, 1) := by decide +kernel
theorem d_M_kindAt_2 : decode (tm_c 72) 2 = .ok (.invokevirtual 141, 3) := by decide +kernel
theorem d_M_kindAt_5 : decode (tm_c 72) 5 = .ok (.istore_n 3, 1) := by decide +kernel
theorem d_M_kindAt_6 : decode (tm_c 72) 6 = .ok (.aload_n 0, 1) := by decide +kernel
theorem d_M_kindAt_7 : decode (tm_c 72) 7 = .ok (.iload_n 1, 1) := by decide +kernel
theorem d_M_kindAt_8 : decode (tm_c 72) 8 = .ok (.iload_n 3, 1) := by decide +kernel
theorem d_M_kindAt_9 : decode (tm_c 72) 9 = .ok (.iconst (-1), 1) := by decide +kernel
theorem d_M_kindAt_10 : decode (tm_c 72) 10 = .ok (.if_icmp .ne (7), 3) := by decide +kernel
theorem d_M_kindAt_13 : decode (tm_c 72) 13 = .ok (.iconst (0), 1) := by decide +kernel
theorem d_M_kindAt_14 : decode (tm_c 72) 14 = .ok (.goto (9), 3) := by decide +kernel
theorem d_M_kindAt_17 : decode (tm_c 72) 17 = .ok (.aload_n 0, 1) := by decide +kernel
theorem d_M_kindAt_18 : decode (tm_c 72) 18 = .ok (.getfield 54, 3) := by decide +kernel
theorem d_M_kindAt_21 : decode (tm_c 72) 21 = .ok (.iload_n 3, 1) := by decide +kernel
theorem d_M_kindAt_22 : decode (tm_c 72) 22 = .ok (.iaload, 1) := by decide +kernel
theorem d_M_kindAt_23 : decode (tm_c 72) 23 = .ok (.invokevirtual 175, 3) := by decide +kernel
theorem d_M_kindAt_26 : decode (tm_c 72) 26 = .ok (.ireturn, 1) := by decide +kernel
theorem g_M_kindAt_0 : jSnd 72 0 (o_aload 1 0) := snd_aload_n d_M_kindAt_0 rfl
theorem g_M_kindAt_1 : jSnd 72 1 (o_iload 2 2) := snd_iload_n d_M_kindAt_1 rfl
theorem g_M_kindAt_2 : jSnd 72 2 (o_call 5 51 2 4 14 false) := snd_callV (ci := 4) (n := 1) rfl d_M_kindAt_2 (by decide) (by decide) (by decide) wc_51 wd_349 wd_350 wd_351 wd_7 (by decide +kernel) (by decide) (by decide)
theorem g_M_kindAt_5 : jSnd 72 5 (o_istore 6 3) := snd_istore_n d_M_kindAt_5 rfl (by decide)
theorem g_M_kindAt_6 : jSnd 72 6 (o_aload 7 0) := snd_aload_n d_M_kindAt_6 rfl
theorem g_M_kindAt_7 : jSnd 72 7 (o_iload 8 1) := snd_iload_n d_M_kindAt_7 rfl
theorem g_M_kindAt_8 : jSnd 72 8 (o_iload 9 3) := snd_iload_n d_M_kindAt_8 rfl
theorem g_M_kindAt_9 : jSnd 72 9 (o_push 10 (-1)) := snd_iconst (n := -1) (z := -1) d_M_kindAt_9 (by decide) (by unfold jrg; omega)
theorem g_M_kindAt_10 : jSnd 72 10 (o_ic_ne 13 17) := snd_ic_ne d_M_kindAt_10 (by decide)
theorem g_M_kindAt_13 : jSnd 72 13 (o_push 14 (0)) := snd_iconst (n := 0) (z := 0) d_M_kindAt_13 (by decide) (by unfold jrg; omega)
theorem g_M_kindAt_14 : jSnd 72 14 (o_goto 23) := snd_goto d_M_kindAt_14 (by decide)
theorem g_M_kindAt_17 : jSnd 72 17 (o_aload 18 0) := snd_aload_n d_M_kindAt_17 rfl
theorem g_M_kindAt_18 : jSnd 72 18 (o_getR 21 14 (18)) := snd_getR (ci := 4) (k := 18) d_M_kindAt_18 rfl tm_in4 (by decide) wd_297 rfl
theorem g_M_kindAt_21 : jSnd 72 21 (o_iload 22 3) := snd_iload_n d_M_kindAt_21 rfl
theorem g_M_kindAt_22 : jSnd 72 22 (o_nald 23 1) := snd_iald d_M_kindAt_22
theorem g_M_kindAt_23 : jSnd 72 23 (o_call 26 68 3 5 14 false) := snd_callV (ci := 4) (n := 2) rfl d_M_kindAt_23 (by decide) (by decide) (by decide) wc_68 wd_376 wd_377 wd_378 wd_7 (by decide +kernel) (by decide) (by decide)
theorem g_M_kindAt_26 : jSnd 72 26 (o_iret) := snd_iret d_M_kindAt_26 rfl
set_option maxRecDepth 100000 in
theorem ga_M_kindAt : jAll 72 0 tmp_M_kindAt := ⟨g_M_kindAt_0, g_M_kindAt_1, g_M_kindAt_2, snd_bad _ _, snd_bad _ _, g_M_kindAt_5, g_M_kindAt_6, g_M_kindAt_7, g_M_kindAt_8, g_M_kindAt_9, g_M_kindAt_10, snd_bad _ _, snd_bad _ _, g_M_kindAt_13, g_M_kindAt_14, snd_bad _ _, snd_bad _ _, g_M_kindAt_17, g_M_kindAt_18, snd_bad _ _, snd_bad _ _, g_M_kindAt_21, g_M_kindAt_22, g_M_kindAt_23, snd_bad _ _, snd_bad _ _, g_M_kindAt_26, trivial⟩
theorem d_M_keep_0 : decode (tm_c 73) 0 = .ok (.aload_n 0, 1) := by decide +kernel
theorem d_M_keep_1 : decode (tm_c 73) 1 = .ok (.iload_n 1, 1) := by decide +kernel
theorem d_M_keep_2 : decode (tm_c 73) 2 = .ok (.invokevirtual 134, 3) := by decide +kernel
theorem d_M_keep_5 : decode (tm_c 73) 5 = .ok (.aload_n 0, 1) := by decide +kernel
theorem d_M_keep_6 : decode (tm_c 73) 6 = .ok (.aload_n 0, 1) := by decide +kernel
theorem d_M_keep_7 : decode (tm_c 73) 7 = .ok (.getfield 101, 3) := by decide +kernel
theorem d_M_keep_10 : decode (tm_c 73) 10 = .ok (.putfield 178, 3) := by decide +kernel
theorem d_M_keep_13 : decode (tm_c 73) 13 = .ok (.iconst (0), 1) := by decide +kernel
theorem d_M_keep_14 : decode (tm_c 73) 14 = .ok (.istore_n 2, 1) := by decide +kernel
theorem d_M_keep_15 : decode (tm_c 73) 15 = .ok (.iload_n 2, 1) := by decide +kernel
theorem d_M_keep_16 : decode (tm_c 73) 16 = .ok (.aload_n 0, 1) := by decide +kernel
theorem d_M_keep_17 : decode (tm_c 73) 17 = .ok (.getfield 101, 3) := by decide +kernel
theorem d_M_keep_20 : decode (tm_c 73) 20 = .ok (.if_icmp .ge (26), 3) := by decide +kernel
theorem d_M_keep_23 : decode (tm_c 73) 23 = .ok (.aload_n 0, 1) := by decide +kernel
theorem d_M_keep_24 : decode (tm_c 73) 24 = .ok (.getfield 63, 3) := by decide +kernel
theorem d_M_keep_27 : decode (tm_c 73) 27 = .ok (.iload_n 2, 1) := by decide +kernel
theorem d_M_keep_28 : decode (tm_c 73) 28 = .ok (.aload_n 0, 1) := by decide +kernel
theorem d_M_keep_29 : decode (tm_c 73) 29 = .ok (.getfield 19, 3) := by decide +kernel
theorem d_M_keep_32 : decode (tm_c 73) 32 = .ok (.aload_n 0, 1) := by decide +kernel
theorem d_M_keep_33 : decode (tm_c 73) 33 = .ok (.getfield 54, 3) := by decide +kernel
theorem d_M_keep_36 : decode (tm_c 73) 36 = .ok (.iload_n 2, 1) := by decide +kernel
theorem d_M_keep_37 : decode (tm_c 73) 37 = .ok (.iaload, 1) := by decide +kernel
theorem d_M_keep_38 : decode (tm_c 73) 38 = .ok (.iaload, 1) := by decide +kernel
theorem d_M_keep_39 : decode (tm_c 73) 39 = .ok (.iastore, 1) := by decide +kernel
theorem d_M_keep_40 : decode (tm_c 73) 40 = .ok (.iinc 2 (1), 3) := by decide +kernel
theorem d_M_keep_43 : decode (tm_c 73) 43 = .ok (.goto (-28), 3) := by decide +kernel
theorem d_M_keep_46 : decode (tm_c 73) 46 = .ok (.iconst (0), 1) := by decide +kernel
theorem d_M_keep_47 : decode (tm_c 73) 47 = .ok (.istore_n 2, 1) := by decide +kernel
theorem d_M_keep_48 : decode (tm_c 73) 48 = .ok (.iload_n 2, 1) := by decide +kernel
theorem d_M_keep_49 : decode (tm_c 73) 49 = .ok (.iconst (4), 1) := by decide +kernel
theorem d_M_keep_50 : decode (tm_c 73) 50 = .ok (.aload_n 0, 1) := by decide +kernel
theorem d_M_keep_51 : decode (tm_c 73) 51 = .ok (.getfield 101, 3) := by decide +kernel
theorem d_M_keep_54 : decode (tm_c 73) 54 = .ok (.imul, 1) := by decide +kernel
theorem d_M_keep_55 : decode (tm_c 73) 55 = .ok (.if_icmp .ge (21), 3) := by decide +kernel
theorem d_M_keep_58 : decode (tm_c 73) 58 = .ok (.aload_n 0, 1) := by decide +kernel
theorem d_M_keep_59 : decode (tm_c 73) 59 = .ok (.getfield 66, 3) := by decide +kernel
theorem d_M_keep_62 : decode (tm_c 73) 62 = .ok (.iload_n 2, 1) := by decide +kernel
theorem d_M_keep_63 : decode (tm_c 73) 63 = .ok (.aload_n 0, 1) := by decide +kernel
theorem d_M_keep_64 : decode (tm_c 73) 64 = .ok (.getfield 57, 3) := by decide +kernel
theorem d_M_keep_67 : decode (tm_c 73) 67 = .ok (.iload_n 2, 1) := by decide +kernel
theorem d_M_keep_68 : decode (tm_c 73) 68 = .ok (.iaload, 1) := by decide +kernel
theorem d_M_keep_69 : decode (tm_c 73) 69 = .ok (.iastore, 1) := by decide +kernel
theorem d_M_keep_70 : decode (tm_c 73) 70 = .ok (.iinc 2 (1), 3) := by decide +kernel
theorem d_M_keep_73 : decode (tm_c 73) 73 = .ok (.goto (-25), 3) := by decide +kernel
theorem d_M_keep_76 : decode (tm_c 73) 76 = .ok (.iconst (1), 1) := by decide +kernel
theorem d_M_keep_77 : decode (tm_c 73) 77 = .ok (.istore_n 2, 1) := by decide +kernel
theorem d_M_keep_78 : decode (tm_c 73) 78 = .ok (.iload_n 2, 1) := by decide +kernel
theorem d_M_keep_79 : decode (tm_c 73) 79 = .ok (.aload_n 0, 1) := by decide +kernel
theorem d_M_keep_80 : decode (tm_c 73) 80 = .ok (.getfield 81, 3) := by decide +kernel
theorem d_M_keep_83 : decode (tm_c 73) 83 = .ok (.if_icmp .gt (74), 3) := by decide +kernel
theorem d_M_keep_86 : decode (tm_c 73) 86 = .ok (.aload_n 0, 1) := by decide +kernel
theorem d_M_keep_87 : decode (tm_c 73) 87 = .ok (.getfield 7, 3) := by decide +kernel
theorem d_M_keep_90 : decode (tm_c 73) 90 = .ok (.iload_n 2, 1) := by decide +kernel
theorem d_M_keep_91 : decode (tm_c 73) 91 = .ok (.iaload, 1) := by decide +kernel
theorem d_M_keep_92 : decode (tm_c 73) 92 = .ok (.iconst (3), 1) := by decide +kernel
theorem d_M_keep_93 : decode (tm_c 73) 93 = .ok (.if_icmp .ne (16), 3) := by decide +kernel
theorem d_M_keep_96 : decode (tm_c 73) 96 = .ok (.aload_n 0, 1) := by decide +kernel
theorem d_M_keep_97 : decode (tm_c 73) 97 = .ok (.getfield 42, 3) := by decide +kernel
theorem d_M_keep_100 : decode (tm_c 73) 100 = .ok (.iload_n 2, 1) := by decide +kernel
theorem d_M_keep_101 : decode (tm_c 73) 101 = .ok (.baload, 1) := by decide +kernel
theorem d_M_keep_102 : decode (tm_c 73) 102 = .ok (.ifCond .eq (7), 3) := by decide +kernel
theorem d_M_keep_105 : decode (tm_c 73) 105 = .ok (.iconst (1), 1) := by decide +kernel
theorem d_M_keep_106 : decode (tm_c 73) 106 = .ok (.goto (4), 3) := by decide +kernel
theorem d_M_keep_109 : decode (tm_c 73) 109 = .ok (.iconst (0), 1) := by decide +kernel
theorem d_M_keep_110 : decode (tm_c 73) 110 = .ok (.istore_n 3, 1) := by decide +kernel
theorem d_M_keep_111 : decode (tm_c 73) 111 = .ok (.aload_n 0, 1) := by decide +kernel
theorem d_M_keep_112 : decode (tm_c 73) 112 = .ok (.getfield 69, 3) := by decide +kernel
theorem d_M_keep_115 : decode (tm_c 73) 115 = .ok (.iload_n 2, 1) := by decide +kernel
theorem d_M_keep_116 : decode (tm_c 73) 116 = .ok (.iload_n 3, 1) := by decide +kernel
theorem d_M_keep_117 : decode (tm_c 73) 117 = .ok (.ifCond .eq (12), 3) := by decide +kernel
theorem d_M_keep_120 : decode (tm_c 73) 120 = .ok (.aload_n 0, 1) := by decide +kernel
theorem d_M_keep_121 : decode (tm_c 73) 121 = .ok (.iload_n 2, 1) := by decide +kernel
theorem d_M_keep_122 : decode (tm_c 73) 122 = .ok (.iconst (0), 1) := by decide +kernel
theorem d_M_keep_123 : decode (tm_c 73) 123 = .ok (.invokevirtual 171, 3) := by decide +kernel
theorem d_M_keep_126 : decode (tm_c 73) 126 = .ok (.goto (4), 3) := by decide +kernel
theorem d_M_keep_129 : decode (tm_c 73) 129 = .ok (.iconst (-1), 1) := by decide +kernel
theorem d_M_keep_130 : decode (tm_c 73) 130 = .ok (.iastore, 1) := by decide +kernel
theorem d_M_keep_131 : decode (tm_c 73) 131 = .ok (.aload_n 0, 1) := by decide +kernel
theorem d_M_keep_132 : decode (tm_c 73) 132 = .ok (.getfield 72, 3) := by decide +kernel
theorem d_M_keep_135 : decode (tm_c 73) 135 = .ok (.iload_n 2, 1) := by decide +kernel
theorem d_M_keep_136 : decode (tm_c 73) 136 = .ok (.iload_n 3, 1) := by decide +kernel
theorem d_M_keep_137 : decode (tm_c 73) 137 = .ok (.ifCond .eq (12), 3) := by decide +kernel
theorem d_M_keep_140 : decode (tm_c 73) 140 = .ok (.aload_n 0, 1) := by decide +kernel
theorem d_M_keep_141 : decode (tm_c 73) 141 = .ok (.iload_n 2, 1) := by decide +kernel
theorem d_M_keep_142 : decode (tm_c 73) 142 = .ok (.iconst (1), 1) := by decide +kernel
theorem d_M_keep_143 : decode (tm_c 73) 143 = .ok (.invokevirtual 171, 3) := by decide +kernel
theorem d_M_keep_146 : decode (tm_c 73) 146 = .ok (.goto (4), 3) := by decide +kernel
theorem d_M_keep_149 : decode (tm_c 73) 149 = .ok (.iconst (-1), 1) := by decide +kernel
theorem d_M_keep_150 : decode (tm_c 73) 150 = .ok (.iastore, 1) := by decide +kernel
theorem d_M_keep_151 : decode (tm_c 73) 151 = .ok (.iinc 2 (1), 3) := by decide +kernel
theorem d_M_keep_154 : decode (tm_c 73) 154 = .ok (.goto (-76), 3) := by decide +kernel
theorem d_M_keep_157 : decode (tm_c 73) 157 = .ok (.aload_n 0, 1) := by decide +kernel
theorem d_M_keep_158 : decode (tm_c 73) 158 = .ok (.aload_n 0, 1) := by decide +kernel
theorem d_M_keep_159 : decode (tm_c 73) 159 = .ok (.invokevirtual 181, 3) := by decide +kernel
theorem d_M_keep_162 : decode (tm_c 73) 162 = .ok (.putfield 184, 3) := by decide +kernel
theorem d_M_keep_165 : decode (tm_c 73) 165 = .ok (.iconst (0), 1) := by decide +kernel
theorem d_M_keep_166 : decode (tm_c 73) 166 = .ok (.istore_n 2, 1) := by decide +kernel
theorem d_M_keep_167 : decode (tm_c 73) 167 = .ok (.iload_n 2, 1) := by decide +kernel
theorem d_M_keep_168 : decode (tm_c 73) 168 = .ok (.aload_n 0, 1) := by decide +kernel
theorem d_M_keep_169 : decode (tm_c 73) 169 = .ok (.getfield 184, 3) := by decide +kernel
theorem d_M_keep_172 : decode (tm_c 73) 172 = .ok (.if_icmp .ge (21), 3) := by decide +kernel
theorem d_M_keep_175 : decode (tm_c 73) 175 = .ok (.aload_n 0, 1) := by decide +kernel
theorem d_M_keep_176 : decode (tm_c 73) 176 = .ok (.getfield 75, 3) := by decide +kernel
theorem d_M_keep_179 : decode (tm_c 73) 179 = .ok (.iload_n 2, 1) := by decide +kernel
theorem d_M_keep_180 : decode (tm_c 73) 180 = .ok (.aload_n 0, 1) := by decide +kernel
theorem d_M_keep_181 : decode (tm_c 73) 181 = .ok (.iload_n 1, 1) := by decide +kernel
theorem d_M_keep_182 : decode (tm_c 73) 182 = .ok (.iload_n 2, 1) := by decide +kernel
theorem d_M_keep_183 : decode (tm_c 73) 183 = .ok (.invokevirtual 187, 3) := by decide +kernel
theorem d_M_keep_186 : decode (tm_c 73) 186 = .ok (.iastore, 1) := by decide +kernel
theorem d_M_keep_187 : decode (tm_c 73) 187 = .ok (.iinc 2 (1), 3) := by decide +kernel
theorem d_M_keep_190 : decode (tm_c 73) 190 = .ok (.goto (-23), 3) := by decide +kernel
theorem d_M_keep_193 : decode (tm_c 73) 193 = .ok (.return_, 1) := by decide +kernel
theorem g_M_keep_0 : jSnd 73 0 (o_aload 1 0) := snd_aload_n d_M_keep_0 rfl
theorem g_M_keep_1 : jSnd 73 1 (o_iload 2 1) := snd_iload_n d_M_keep_1 rfl
theorem g_M_keep_2 : jSnd 73 2 (o_call 5 43 2 4 14 true) := snd_callV (ci := 4) (n := 1) rfl d_M_keep_2 (by decide) (by decide) (by decide) wc_43 wd_343 wd_344 wd_345 wd_7 (by decide +kernel) (by decide) (by decide)
theorem g_M_keep_5 : jSnd 73 5 (o_aload 6 0) := snd_aload_n d_M_keep_5 rfl
theorem g_M_keep_6 : jSnd 73 6 (o_aload 7 0) := snd_aload_n d_M_keep_6 rfl
theorem g_M_keep_7 : jSnd 73 7 (o_getI 10 14 (17)) := snd_getI (ci := 4) (k := 17) d_M_keep_7 rfl tm_in4 (by decide) wd_317 rfl
theorem g_M_keep_10 : jSnd 73 10 (o_putI 13 14 (24)) := snd_putI (ci := 4) (k := 24) d_M_keep_10 rfl tm_in4 tm_D4 tm_ty4 tm_nm4 (by decide) wd_379 rfl rfl rfl
theorem g_M_keep_13 : jSnd 73 13 (o_push 14 (0)) := snd_iconst (n := 0) (z := 0) d_M_keep_13 (by decide) (by unfold jrg; omega)
theorem g_M_keep_14 : jSnd 73 14 (o_istore 15 2) := snd_istore_n d_M_keep_14 rfl (by decide)
theorem g_M_keep_15 : jSnd 73 15 (o_iload 16 2) := snd_iload_n d_M_keep_15 rfl
theorem g_M_keep_16 : jSnd 73 16 (o_aload 17 0) := snd_aload_n d_M_keep_16 rfl
theorem g_M_keep_17 : jSnd 73 17 (o_getI 20 14 (17)) := snd_getI (ci := 4) (k := 17) d_M_keep_17 rfl tm_in4 (by decide) wd_317 rfl
theorem g_M_keep_20 : jSnd 73 20 (o_ic_ge 23 46) := snd_ic_ge d_M_keep_20 (by decide)
theorem g_M_keep_23 : jSnd 73 23 (o_aload 24 0) := snd_aload_n d_M_keep_23 rfl
theorem g_M_keep_24 : jSnd 73 24 (o_getR 27 14 (25)) := snd_getR (ci := 4) (k := 25) d_M_keep_24 rfl tm_in4 (by decide) wd_300 rfl
theorem g_M_keep_27 : jSnd 73 27 (o_iload 28 2) := snd_iload_n d_M_keep_27 rfl
theorem g_M_keep_28 : jSnd 73 28 (o_aload 29 0) := snd_aload_n d_M_keep_28 rfl
theorem g_M_keep_29 : jSnd 73 29 (o_getR 32 14 (5)) := snd_getR (ci := 4) (k := 5) d_M_keep_29 rfl tm_in4 (by decide) wd_285 rfl
theorem g_M_keep_32 : jSnd 73 32 (o_aload 33 0) := snd_aload_n d_M_keep_32 rfl
theorem g_M_keep_33 : jSnd 73 33 (o_getR 36 14 (18)) := snd_getR (ci := 4) (k := 18) d_M_keep_33 rfl tm_in4 (by decide) wd_297 rfl
theorem g_M_keep_36 : jSnd 73 36 (o_iload 37 2) := snd_iload_n d_M_keep_36 rfl
theorem g_M_keep_37 : jSnd 73 37 (o_nald 38 1) := snd_iald d_M_keep_37
theorem g_M_keep_38 : jSnd 73 38 (o_nald 39 1) := snd_iald d_M_keep_38
theorem g_M_keep_39 : jSnd 73 39 (o_iast 40) := snd_iast d_M_keep_39
theorem g_M_keep_40 : jSnd 73 40 (o_iinc 43 2 (1)) := snd_iinc d_M_keep_40 (by decide)
theorem g_M_keep_43 : jSnd 73 43 (o_goto 15) := snd_goto d_M_keep_43 (by decide)
theorem g_M_keep_46 : jSnd 73 46 (o_push 47 (0)) := snd_iconst (n := 0) (z := 0) d_M_keep_46 (by decide) (by unfold jrg; omega)
theorem g_M_keep_47 : jSnd 73 47 (o_istore 48 2) := snd_istore_n d_M_keep_47 rfl (by decide)
theorem g_M_keep_48 : jSnd 73 48 (o_iload 49 2) := snd_iload_n d_M_keep_48 rfl
theorem g_M_keep_49 : jSnd 73 49 (o_push 50 (4)) := snd_iconst (n := 4) (z := 4) d_M_keep_49 (by decide) (by unfold jrg; omega)
theorem g_M_keep_50 : jSnd 73 50 (o_aload 51 0) := snd_aload_n d_M_keep_50 rfl
theorem g_M_keep_51 : jSnd 73 51 (o_getI 54 14 (17)) := snd_getI (ci := 4) (k := 17) d_M_keep_51 rfl tm_in4 (by decide) wd_317 rfl
theorem g_M_keep_54 : jSnd 73 54 (o_bin 55 f_mul) := snd_imul d_M_keep_54
theorem g_M_keep_55 : jSnd 73 55 (o_ic_ge 58 76) := snd_ic_ge d_M_keep_55 (by decide)
theorem g_M_keep_58 : jSnd 73 58 (o_aload 59 0) := snd_aload_n d_M_keep_58 rfl
theorem g_M_keep_59 : jSnd 73 59 (o_getR 62 14 (26)) := snd_getR (ci := 4) (k := 26) d_M_keep_59 rfl tm_in4 (by decide) wd_301 rfl
theorem g_M_keep_62 : jSnd 73 62 (o_iload 63 2) := snd_iload_n d_M_keep_62 rfl
theorem g_M_keep_63 : jSnd 73 63 (o_aload 64 0) := snd_aload_n d_M_keep_63 rfl
theorem g_M_keep_64 : jSnd 73 64 (o_getR 67 14 (19)) := snd_getR (ci := 4) (k := 19) d_M_keep_64 rfl tm_in4 (by decide) wd_298 rfl
theorem g_M_keep_67 : jSnd 73 67 (o_iload 68 2) := snd_iload_n d_M_keep_67 rfl
theorem g_M_keep_68 : jSnd 73 68 (o_nald 69 1) := snd_iald d_M_keep_68
theorem g_M_keep_69 : jSnd 73 69 (o_iast 70) := snd_iast d_M_keep_69
theorem g_M_keep_70 : jSnd 73 70 (o_iinc 73 2 (1)) := snd_iinc d_M_keep_70 (by decide)
theorem g_M_keep_73 : jSnd 73 73 (o_goto 48) := snd_goto d_M_keep_73 (by decide)
theorem g_M_keep_76 : jSnd 73 76 (o_push 77 (1)) := snd_iconst (n := 1) (z := 1) d_M_keep_76 (by decide) (by unfold jrg; omega)
theorem g_M_keep_77 : jSnd 73 77 (o_istore 78 2) := snd_istore_n d_M_keep_77 rfl (by decide)
theorem g_M_keep_78 : jSnd 73 78 (o_iload 79 2) := snd_iload_n d_M_keep_78 rfl
theorem g_M_keep_79 : jSnd 73 79 (o_aload 80 0) := snd_aload_n d_M_keep_79 rfl
theorem g_M_keep_80 : jSnd 73 80 (o_getI 83 14 (1)) := snd_getI (ci := 4) (k := 1) d_M_keep_80 rfl tm_in4 (by decide) wd_305 rfl
theorem g_M_keep_83 : jSnd 73 83 (o_ic_gt 86 157) := snd_ic_gt d_M_keep_83 (by decide)
theorem g_M_keep_86 : jSnd 73 86 (o_aload 87 0) := snd_aload_n d_M_keep_86 rfl
theorem g_M_keep_87 : jSnd 73 87 (o_getR 90 14 (2)) := snd_getR (ci := 4) (k := 2) d_M_keep_87 rfl tm_in4 (by decide) wd_282 rfl
theorem g_M_keep_90 : jSnd 73 90 (o_iload 91 2) := snd_iload_n d_M_keep_90 rfl
theorem g_M_keep_91 : jSnd 73 91 (o_nald 92 1) := snd_iald d_M_keep_91
theorem g_M_keep_92 : jSnd 73 92 (o_push 93 (3)) := snd_iconst (n := 3) (z := 3) d_M_keep_92 (by decide) (by unfold jrg; omega)
theorem g_M_keep_93 : jSnd 73 93 (o_ic_ne 96 109) := snd_ic_ne d_M_keep_93 (by decide)
theorem g_M_keep_96 : jSnd 73 96 (o_aload 97 0) := snd_aload_n d_M_keep_96 rfl
theorem g_M_keep_97 : jSnd 73 97 (o_getR 100 14 (12)) := snd_getR (ci := 4) (k := 12) d_M_keep_97 rfl tm_in4 (by decide) wd_293 rfl
theorem g_M_keep_100 : jSnd 73 100 (o_iload 101 2) := snd_iload_n d_M_keep_100 rfl
theorem g_M_keep_101 : jSnd 73 101 (o_nald 102 2) := snd_zald d_M_keep_101
theorem g_M_keep_102 : jSnd 73 102 (o_if_eq 105 109) := snd_if_eq d_M_keep_102 (by decide)
theorem g_M_keep_105 : jSnd 73 105 (o_push 106 (1)) := snd_iconst (n := 1) (z := 1) d_M_keep_105 (by decide) (by unfold jrg; omega)
theorem g_M_keep_106 : jSnd 73 106 (o_goto 110) := snd_goto d_M_keep_106 (by decide)
theorem g_M_keep_109 : jSnd 73 109 (o_push 110 (0)) := snd_iconst (n := 0) (z := 0) d_M_keep_109 (by decide) (by unfold jrg; omega)
theorem g_M_keep_110 : jSnd 73 110 (o_istore 111 3) := snd_istore_n d_M_keep_110 rfl (by decide)
theorem g_M_keep_111 : jSnd 73 111 (o_aload 112 0) := snd_aload_n d_M_keep_111 rfl
theorem g_M_keep_112 : jSnd 73 112 (o_getR 115 14 (27)) := snd_getR (ci := 4) (k := 27) d_M_keep_112 rfl tm_in4 (by decide) wd_302 rfl
theorem g_M_keep_115 : jSnd 73 115 (o_iload 116 2) := snd_iload_n d_M_keep_115 rfl
theorem g_M_keep_116 : jSnd 73 116 (o_iload 117 3) := snd_iload_n d_M_keep_116 rfl
theorem g_M_keep_117 : jSnd 73 117 (o_if_eq 120 129) := snd_if_eq d_M_keep_117 (by decide)
theorem g_M_keep_120 : jSnd 73 120 (o_aload 121 0) := snd_aload_n d_M_keep_120 rfl
theorem g_M_keep_121 : jSnd 73 121 (o_iload 122 2) := snd_iload_n d_M_keep_121 rfl
theorem g_M_keep_122 : jSnd 73 122 (o_push 123 (0)) := snd_iconst (n := 0) (z := 0) d_M_keep_122 (by decide) (by unfold jrg; omega)
theorem g_M_keep_123 : jSnd 73 123 (o_call 126 67 3 5 14 false) := snd_callV (ci := 4) (n := 2) rfl d_M_keep_123 (by decide) (by decide) (by decide) wc_67 wd_373 wd_374 wd_375 wd_7 (by decide +kernel) (by decide) (by decide)
theorem g_M_keep_126 : jSnd 73 126 (o_goto 130) := snd_goto d_M_keep_126 (by decide)
theorem g_M_keep_129 : jSnd 73 129 (o_push 130 (-1)) := snd_iconst (n := -1) (z := -1) d_M_keep_129 (by decide) (by unfold jrg; omega)
theorem g_M_keep_130 : jSnd 73 130 (o_iast 131) := snd_iast d_M_keep_130
theorem g_M_keep_131 : jSnd 73 131 (o_aload 132 0) := snd_aload_n d_M_keep_131 rfl
theorem g_M_keep_132 : jSnd 73 132 (o_getR 135 14 (28)) := snd_getR (ci := 4) (k := 28) d_M_keep_132 rfl tm_in4 (by decide) wd_303 rfl
theorem g_M_keep_135 : jSnd 73 135 (o_iload 136 2) := snd_iload_n d_M_keep_135 rfl
theorem g_M_keep_136 : jSnd 73 136 (o_iload 137 3) := snd_iload_n d_M_keep_136 rfl
theorem g_M_keep_137 : jSnd 73 137 (o_if_eq 140 149) := snd_if_eq d_M_keep_137 (by decide)
theorem g_M_keep_140 : jSnd 73 140 (o_aload 141 0) := snd_aload_n d_M_keep_140 rfl
theorem g_M_keep_141 : jSnd 73 141 (o_iload 142 2) := snd_iload_n d_M_keep_141 rfl
theorem g_M_keep_142 : jSnd 73 142 (o_push 143 (1)) := snd_iconst (n := 1) (z := 1) d_M_keep_142 (by decide) (by unfold jrg; omega)
theorem g_M_keep_143 : jSnd 73 143 (o_call 146 67 3 5 14 false) := snd_callV (ci := 4) (n := 2) rfl d_M_keep_143 (by decide) (by decide) (by decide) wc_67 wd_373 wd_374 wd_375 wd_7 (by decide +kernel) (by decide) (by decide)
theorem g_M_keep_146 : jSnd 73 146 (o_goto 150) := snd_goto d_M_keep_146 (by decide)
theorem g_M_keep_149 : jSnd 73 149 (o_push 150 (-1)) := snd_iconst (n := -1) (z := -1) d_M_keep_149 (by decide) (by unfold jrg; omega)
theorem g_M_keep_150 : jSnd 73 150 (o_iast 151) := snd_iast d_M_keep_150
theorem g_M_keep_151 : jSnd 73 151 (o_iinc 154 2 (1)) := snd_iinc d_M_keep_151 (by decide)
theorem g_M_keep_154 : jSnd 73 154 (o_goto 78) := snd_goto d_M_keep_154 (by decide)
theorem g_M_keep_157 : jSnd 73 157 (o_aload 158 0) := snd_aload_n d_M_keep_157 rfl
theorem g_M_keep_158 : jSnd 73 158 (o_aload 159 0) := snd_aload_n d_M_keep_158 rfl
theorem g_M_keep_159 : jSnd 73 159 (o_call 162 71 1 3 14 false) := snd_callV (ci := 4) (n := 0) rfl d_M_keep_159 (by decide) (by decide) (by decide) wc_71 wd_380 wd_381 wd_382 wd_7 (by decide +kernel) (by decide) (by decide)
theorem g_M_keep_162 : jSnd 73 162 (o_putI 165 14 (29)) := snd_putI (ci := 4) (k := 29) d_M_keep_162 rfl tm_in4 tm_D4 tm_ty4 tm_nm4 (by decide) wd_383 rfl rfl rfl
theorem g_M_keep_165 : jSnd 73 165 (o_push 166 (0)) := snd_iconst (n := 0) (z := 0) d_M_keep_165 (by decide) (by unfold jrg; omega)
theorem g_M_keep_166 : jSnd 73 166 (o_istore 167 2) := snd_istore_n d_M_keep_166 rfl (by decide)
theorem g_M_keep_167 : jSnd 73 167 (o_iload 168 2) := snd_iload_n d_M_keep_167 rfl
theorem g_M_keep_168 : jSnd 73 168 (o_aload 169 0) := snd_aload_n d_M_keep_168 rfl
theorem g_M_keep_169 : jSnd 73 169 (o_getI 172 14 (29)) := snd_getI (ci := 4) (k := 29) d_M_keep_169 rfl tm_in4 (by decide) wd_383 rfl
theorem g_M_keep_172 : jSnd 73 172 (o_ic_ge 175 193) := snd_ic_ge d_M_keep_172 (by decide)
theorem g_M_keep_175 : jSnd 73 175 (o_aload 176 0) := snd_aload_n d_M_keep_175 rfl
theorem g_M_keep_176 : jSnd 73 176 (o_getR 179 14 (30)) := snd_getR (ci := 4) (k := 30) d_M_keep_176 rfl tm_in4 (by decide) wd_304 rfl
theorem g_M_keep_179 : jSnd 73 179 (o_iload 180 2) := snd_iload_n d_M_keep_179 rfl
theorem g_M_keep_180 : jSnd 73 180 (o_aload 181 0) := snd_aload_n d_M_keep_180 rfl
theorem g_M_keep_181 : jSnd 73 181 (o_iload 182 1) := snd_iload_n d_M_keep_181 rfl
theorem g_M_keep_182 : jSnd 73 182 (o_iload 183 2) := snd_iload_n d_M_keep_182 rfl
theorem g_M_keep_183 : jSnd 73 183 (o_call 186 72 3 4 14 false) := snd_callV (ci := 4) (n := 2) rfl d_M_keep_183 (by decide) (by decide) (by decide) wc_72 wd_384 wd_385 wd_386 wd_7 (by decide +kernel) (by decide) (by decide)
theorem g_M_keep_186 : jSnd 73 186 (o_iast 187) := snd_iast d_M_keep_186
theorem g_M_keep_187 : jSnd 73 187 (o_iinc 190 2 (1)) := snd_iinc d_M_keep_187 (by decide)
theorem g_M_keep_190 : jSnd 73 190 (o_goto 167) := snd_goto d_M_keep_190 (by decide)
theorem g_M_keep_193 : jSnd 73 193 (o_vret) := snd_vret d_M_keep_193 rfl
set_option maxRecDepth 100000 in
theorem ga_M_keep : jAll 73 0 tmp_M_keep := ⟨g_M_keep_0, g_M_keep_1, g_M_keep_2, snd_bad _ _, snd_bad _ _, g_M_keep_5, g_M_keep_6, g_M_keep_7, snd_bad _ _, snd_bad _ _, g_M_keep_10, snd_bad _ _, snd_bad _ _, g_M_keep_13, g_M_keep_14, g_M_keep_15, g_M_keep_16, g_M_keep_17, snd_bad _ _, snd_bad _ _, g_M_keep_20, snd_bad _ _, snd_bad _ _, g_M_keep_23, g_M_keep_24, snd_bad _ _, snd_bad _ _, g_M_keep_27, g_M_keep_28, g_M_keep_29, snd_bad _ _, snd_bad _ _, g_M_keep_32, g_M_keep_33, snd_bad _ _, snd_bad _ _, g_M_keep_36, g_M_keep_37, g_M_keep_38, g_M_keep_39, g_M_keep_40, snd_bad _ _, snd_bad _ _, g_M_keep_43, snd_bad _ _, snd_bad _ _, g_M_keep_46, g_M_keep_47, g_M_keep_48, g_M_keep_49, g_M_keep_50, g_M_keep_51, snd_bad _ _, snd_bad _ _, g_M_keep_54, g_M_keep_55, snd_bad _ _, snd_bad _ _, g_M_keep_58, g_M_keep_59, snd_bad _ _, snd_bad _ _, g_M_keep_62, g_M_keep_63, g_M_keep_64, snd_bad _ _, snd_bad _ _, g_M_keep_67, g_M_keep_68, g_M_keep_69, g_M_keep_70, snd_bad _ _, snd_bad _ _, g_M_keep_73, snd_bad _ _, snd_bad _ _, g_M_keep_76, g_M_keep_77, g_M_keep_78, g_M_keep_79, g_M_keep_80, snd_bad _ _, snd_bad _ _, g_M_keep_83, snd_bad _ _, snd_bad _ _, g_M_keep_86, g_M_keep_87, snd_bad _ _, snd_bad _ _, g_M_keep_90, g_M_keep_91, g_M_keep_92, g_M_keep_93, snd_bad _ _, snd_bad _ _, g_M_keep_96, g_M_keep_97, snd_bad _ _, snd_bad _ _, g_M_keep_100, g_M_keep_101, g_M_keep_102, snd_bad _ _, snd_bad _ _, g_M_keep_105, g_M_keep_106, snd_bad _ _, snd_bad _ _, g_M_keep_109, g_M_keep_110, g_M_keep_111, g_M_keep_112, snd_bad _ _, snd_bad _ _, g_M_keep_115, g_M_keep_116, g_M_keep_117, snd_bad _ _, snd_bad _ _, g_M_keep_120, g_M_keep_121, g_M_keep_122, g_M_keep_123, snd_bad _ _, snd_bad _ _, g_M_keep_126, snd_bad _ _, snd_bad _ _, g_M_keep_129, g_M_keep_130, g_M_keep_131, g_M_keep_132, snd_bad _ _, snd_bad _ _, g_M_keep_135, g_M_keep_136, g_M_keep_137, snd_bad _ _, snd_bad _ _, g_M_keep_140, g_M_keep_141, g_M_keep_142, g_M_keep_143, snd_bad _ _, snd_bad _ _, g_M_keep_146, snd_bad _ _, snd_bad _ _, g_M_keep_149, g_M_keep_150, g_M_keep_151, snd_bad _ _, snd_bad _ _, g_M_keep_154, snd_bad _ _, snd_bad _ _, g_M_keep_157, g_M_keep_158, g_M_keep_159, snd_bad _ _, snd_bad _ _, g_M_keep_162, snd_bad _ _, snd_bad _ _, g_M_keep_165, g_M_keep_166, g_M_keep_167, g_M_keep_168, g_M_keep_169, snd_bad _ _, snd_bad _ _, g_M_keep_172, snd_bad _ _, snd_bad _ _, g_M_keep_175, g_M_keep_176, snd_bad _ _, snd_bad _ _, g_M_keep_179, g_M_keep_180, g_M_keep_181, g_M_keep_182, g_M_keep_183, snd_bad _ _, snd_bad _ _, g_M_keep_186, g_M_keep_187, snd_bad _ _, snd_bad _ _, g_M_keep_190, snd_bad _ _, snd_bad _ _, g_M_keep_193, trivial⟩
theorem d_M_alike_0 : decode (tm_c 74) 0 = .ok (.aload_n 0, 1) := by decide +kernel
theorem d_M_alike_1 : decode (tm_c 74) 1 = .ok (.iconst (0), 1) := by decide +kernel
theorem d_M_alike_2 : decode (tm_c 74) 2 = .ok (.putfield 78, 3) := by decide +kernel
theorem d_M_alike_5 : decode (tm_c 74) 5 = .ok (.iload_n 1, 1) := by decide +kernel
theorem d_M_alike_6 : decode (tm_c 74) 6 = .ok (.invokestatic 128, 3) := by decide +kernel
theorem d_M_alike_9 : decode (tm_c 74) 9 = .ok (.ifCond .eq (10), 3) := by decide +kernel
theorem d_M_alike_12 : decode (tm_c 74) 12 = .ok (.iload_n 2, 1) := by decide +kernel
theorem d_M_alike_13 : decode (tm_c 74) 13 = .ok (.invokestatic 128, 3) := by decide +kernel
theorem d_M_alike_16 : decode (tm_c 74) 16 = .ok (.ifCond .ne (5), 3) := by decide +kernel
theorem d_M_alike_19 : decode (tm_c 74) 19 = .ok (.iconst (0), 1) := by decide +kernel
theorem d_M_alike_20 : decode (tm_c 74) 20 = .ok (.ireturn, 1) := by decide +kernel
theorem d_M_alike_21 : decode (tm_c 74) 21 = .ok (.aload_n 0, 1) := by decide +kernel
theorem d_M_alike_22 : decode (tm_c 74) 22 = .ok (.iload_n 1, 1) := by decide +kernel
theorem d_M_alike_23 : decode (tm_c 74) 23 = .ok (.invokevirtual 190, 3) := by decide +kernel
theorem d_M_alike_26 : decode (tm_c 74) 26 = .ok (.aload_n 0, 1) := by decide +kernel
theorem d_M_alike_27 : decode (tm_c 74) 27 = .ok (.iload_n 2, 1) := by decide +kernel
theorem d_M_alike_28 : decode (tm_c 74) 28 = .ok (.invokevirtual 134, 3) := by decide +kernel
theorem d_M_alike_31 : decode (tm_c 74) 31 = .ok (.aload_n 0, 1) := by decide +kernel
theorem d_M_alike_32 : decode (tm_c 74) 32 = .ok (.getfield 101, 3) := by decide +kernel
theorem d_M_alike_35 : decode (tm_c 74) 35 = .ok (.aload_n 0, 1) := by decide +kernel
theorem d_M_alike_36 : decode (tm_c 74) 36 = .ok (.getfield 178, 3) := by decide +kernel
theorem d_M_alike_39 : decode (tm_c 74) 39 = .ok (.if_icmp .eq (5), 3) := by decide +kernel
theorem d_M_alike_42 : decode (tm_c 74) 42 = .ok (.iconst (0), 1) := by decide +kernel
theorem d_M_alike_43 : decode (tm_c 74) 43 = .ok (.ireturn, 1) := by decide +kernel
theorem d_M_alike_44 : decode (tm_c 74) 44 = .ok (.iconst (0), 1) := by decide +kernel
theorem d_M_alike_45 : decode (tm_c 74) 45 = .ok (.istore_n 3, 1) := by decide +kernel
theorem d_M_alike_46 : decode (tm_c 74) 46 = .ok (.iload_n 3, 1) := by decide +kernel
theorem d_M_alike_47 : decode (tm_c 74) 47 = .ok (.aload_n 0, 1) := by decide +kernel
theorem d_M_alike_48 : decode (tm_c 74) 48 = .ok (.getfield 101, 3) := by decide +kernel
theorem d_M_alike_51 : decode (tm_c 74) 51 = .ok (.if_icmp .ge (31), 3) := by decide +kernel
theorem d_M_alike_54 : decode (tm_c 74) 54 = .ok (.aload_n 0, 1) := by decide +kernel
theorem d_M_alike_55 : decode (tm_c 74) 55 = .ok (.getfield 63, 3) := by decide +kernel
theorem d_M_alike_58 : decode (tm_c 74) 58 = .ok (.iload_n 3, 1) := by decide +kernel
theorem d_M_alike_59 : decode (tm_c 74) 59 = .ok (.iaload, 1) := by decide +kernel
theorem d_M_alike_60 : decode (tm_c 74) 60 = .ok (.aload_n 0, 1) := by decide +kernel
theorem d_M_alike_61 : decode (tm_c 74) 61 = .ok (.getfield 19, 3) := by decide +kernel
theorem d_M_alike_64 : decode (tm_c 74) 64 = .ok (.aload_n 0, 1) := by decide +kernel
theorem d_M_alike_65 : decode (tm_c 74) 65 = .ok (.getfield 54, 3) := by decide +kernel
theorem d_M_alike_68 : decode (tm_c 74) 68 = .ok (.iload_n 3, 1) := by decide +kernel
theorem d_M_alike_69 : decode (tm_c 74) 69 = .ok (.iaload, 1) := by decide +kernel
theorem d_M_alike_70 : decode (tm_c 74) 70 = .ok (.iaload, 1) := by decide +kernel
theorem d_M_alike_71 : decode (tm_c 74) 71 = .ok (.if_icmp .eq (5), 3) := by decide +kernel
theorem d_M_alike_74 : decode (tm_c 74) 74 = .ok (.iconst (0), 1) := by decide +kernel
theorem d_M_alike_75 : decode (tm_c 74) 75 = .ok (.ireturn, 1) := by decide +kernel
theorem d_M_alike_76 : decode (tm_c 74) 76 = .ok (.iinc 3 (1), 3) := by decide +kernel
theorem d_M_alike_79 : decode (tm_c 74) 79 = .ok (.goto (-33), 3) := by decide +kernel
theorem d_M_alike_82 : decode (tm_c 74) 82 = .ok (.iconst (0), 1) := by decide +kernel
theorem d_M_alike_83 : decode (tm_c 74) 83 = .ok (.istore_n 3, 1) := by decide +kernel
theorem d_M_alike_84 : decode (tm_c 74) 84 = .ok (.iload_n 3, 1) := by decide +kernel
theorem d_M_alike_85 : decode (tm_c 74) 85 = .ok (.iconst (4), 1) := by decide +kernel
theorem d_M_alike_86 : decode (tm_c 74) 86 = .ok (.aload_n 0, 1) := by decide +kernel
theorem d_M_alike_87 : decode (tm_c 74) 87 = .ok (.getfield 101, 3) := by decide +kernel
theorem d_M_alike_90 : decode (tm_c 74) 90 = .ok (.imul, 1) := by decide +kernel
theorem d_M_alike_91 : decode (tm_c 74) 91 = .ok (.if_icmp .ge (26), 3) := by decide +kernel
theorem d_M_alike_94 : decode (tm_c 74) 94 = .ok (.aload_n 0, 1) := by decide +kernel
theorem d_M_alike_95 : decode (tm_c 74) 95 = .ok (.getfield 66, 3) := by decide +kernel
theorem d_M_alike_98 : decode (tm_c 74) 98 = .ok (.iload_n 3, 1) := by decide +kernel
theorem d_M_alike_99 : decode (tm_c 74) 99 = .ok (.iaload, 1) := by decide +kernel
theorem d_M_alike_100 : decode (tm_c 74) 100 = .ok (.aload_n 0, 1) := by decide +kernel
theorem d_M_alike_101 : decode (tm_c 74) 101 = .ok (.getfield 57, 3) := by decide +kernel
theorem d_M_alike_104 : decode (tm_c 74) 104 = .ok (.iload_n 3, 1) := by decide +kernel
theorem d_M_alike_105 : decode (tm_c 74) 105 = .ok (.iaload, 1) := by decide +kernel
theorem d_M_alike_106 : decode (tm_c 74) 106 = .ok (.if_icmp .eq (5), 3) := by decide +kernel
theorem d_M_alike_109 : decode (tm_c 74) 109 = .ok (.iconst (0), 1) := by decide +kernel
theorem d_M_alike_110 : decode (tm_c 74) 110 = .ok (.ireturn, 1) := by decide +kernel
theorem d_M_alike_111 : decode (tm_c 74) 111 = .ok (.iinc 3 (1), 3) := by decide +kernel
theorem d_M_alike_114 : decode (tm_c 74) 114 = .ok (.goto (-30), 3) := by decide +kernel
theorem d_M_alike_117 : decode (tm_c 74) 117 = .ok (.iconst (1), 1) := by decide +kernel
theorem d_M_alike_118 : decode (tm_c 74) 118 = .ok (.istore_n 3, 1) := by decide +kernel
theorem d_M_alike_119 : decode (tm_c 74) 119 = .ok (.iload_n 3, 1) := by decide +kernel
theorem d_M_alike_120 : decode (tm_c 74) 120 = .ok (.aload_n 0, 1) := by decide +kernel
theorem d_M_alike_121 : decode (tm_c 74) 121 = .ok (.getfield 81, 3) := by decide +kernel
theorem d_M_alike_124 : decode (tm_c 74) 124 = .ok (.if_icmp .gt (85), 3) := by decide +kernel
theorem d_M_alike_127 : decode (tm_c 74) 127 = .ok (.aload_n 0, 1) := by decide +kernel
theorem d_M_alike_128 : decode (tm_c 74) 128 = .ok (.getfield 7, 3) := by decide +kernel
theorem d_M_alike_131 : decode (tm_c 74) 131 = .ok (.iload_n 3, 1) := by decide +kernel
theorem d_M_alike_132 : decode (tm_c 74) 132 = .ok (.iaload, 1) := by decide +kernel
theorem d_M_alike_133 : decode (tm_c 74) 133 = .ok (.iconst (3), 1) := by decide +kernel
theorem d_M_alike_134 : decode (tm_c 74) 134 = .ok (.if_icmp .ne (16), 3) := by decide +kernel
theorem d_M_alike_137 : decode (tm_c 74) 137 = .ok (.aload_n 0, 1) := by decide +kernel
theorem d_M_alike_138 : decode (tm_c 74) 138 = .ok (.getfield 42, 3) := by decide +kernel
theorem d_M_alike_141 : decode (tm_c 74) 141 = .ok (.iload_n 3, 1) := by decide +kernel
theorem d_M_alike_142 : decode (tm_c 74) 142 = .ok (.baload, 1) := by decide +kernel
theorem d_M_alike_143 : decode (tm_c 74) 143 = .ok (.ifCond .eq (7), 3) := by decide +kernel
theorem d_M_alike_146 : decode (tm_c 74) 146 = .ok (.iconst (1), 1) := by decide +kernel
theorem d_M_alike_147 : decode (tm_c 74) 147 = .ok (.goto (4), 3) := by decide +kernel
theorem d_M_alike_150 : decode (tm_c 74) 150 = .ok (.iconst (0), 1) := by decide +kernel
theorem d_M_alike_151 : decode (tm_c 74) 151 = .ok (.istore 4, 2) := by decide +kernel
theorem d_M_alike_153 : decode (tm_c 74) 153 = .ok (.aload_n 0, 1) := by decide +kernel
theorem d_M_alike_154 : decode (tm_c 74) 154 = .ok (.getfield 69, 3) := by decide +kernel
theorem d_M_alike_157 : decode (tm_c 74) 157 = .ok (.iload_n 3, 1) := by decide +kernel
theorem d_M_alike_158 : decode (tm_c 74) 158 = .ok (.iaload, 1) := by decide +kernel
theorem d_M_alike_159 : decode (tm_c 74) 159 = .ok (.iload 4, 2) := by decide +kernel
theorem d_M_alike_161 : decode (tm_c 74) 161 = .ok (.ifCond .eq (12), 3) := by decide +kernel
theorem d_M_alike_164 : decode (tm_c 74) 164 = .ok (.aload_n 0, 1) := by decide +kernel
theorem d_M_alike_165 : decode (tm_c 74) 165 = .ok (.iload_n 3, 1) := by decide +kernel
theorem d_M_alike_166 : decode (tm_c 74) 166 = .ok (.iconst (0), 1) := by decide +kernel
theorem d_M_alike_167 : decode (tm_c 74) 167 = .ok (.invokevirtual 171, 3) := by decide +kernel
theorem d_M_alike_170 : decode (tm_c 74) 170 = .ok (.goto (4), 3) := by decide +kernel
theorem d_M_alike_173 : decode (tm_c 74) 173 = .ok (.iconst (-1), 1) := by decide +kernel
theorem d_M_alike_174 : decode (tm_c 74) 174 = .ok (.if_icmp .ne (27), 3) := by decide +kernel
theorem d_M_alike_177 : decode (tm_c 74) 177 = .ok (.aload_n 0, 1) := by decide +kernel
theorem d_M_alike_178 : decode (tm_c 74) 178 = .ok (.getfield 72, 3) := by decide +kernel
theorem d_M_alike_181 : decode (tm_c 74) 181 = .ok (.iload_n 3, 1) := by decide +kernel
theorem d_M_alike_182 : decode (tm_c 74) 182 = .ok (.iaload, 1) := by decide +kernel
theorem d_M_alike_183 : decode (tm_c 74) 183 = .ok (.iload 4, 2) := by decide +kernel
theorem d_M_alike_185 : decode (tm_c 74) 185 = .ok (.ifCond .eq (12), 3) := by decide +kernel
theorem d_M_alike_188 : decode (tm_c 74) 188 = .ok (.aload_n 0, 1) := by decide +kernel
theorem d_M_alike_189 : decode (tm_c 74) 189 = .ok (.iload_n 3, 1) := by decide +kernel
theorem d_M_alike_190 : decode (tm_c 74) 190 = .ok (.iconst (1), 1) := by decide +kernel
theorem d_M_alike_191 : decode (tm_c 74) 191 = .ok (.invokevirtual 171, 3) := by decide +kernel
theorem d_M_alike_194 : decode (tm_c 74) 194 = .ok (.goto (4), 3) := by decide +kernel
theorem d_M_alike_197 : decode (tm_c 74) 197 = .ok (.iconst (-1), 1) := by decide +kernel
theorem d_M_alike_198 : decode (tm_c 74) 198 = .ok (.if_icmp .eq (5), 3) := by decide +kernel
theorem d_M_alike_201 : decode (tm_c 74) 201 = .ok (.iconst (0), 1) := by decide +kernel
theorem d_M_alike_202 : decode (tm_c 74) 202 = .ok (.ireturn, 1) := by decide +kernel
theorem d_M_alike_203 : decode (tm_c 74) 203 = .ok (.iinc 3 (1), 3) := by decide +kernel
theorem d_M_alike_206 : decode (tm_c 74) 206 = .ok (.goto (-87), 3) := by decide +kernel
theorem d_M_alike_209 : decode (tm_c 74) 209 = .ok (.iconst (0), 1) := by decide +kernel
theorem d_M_alike_210 : decode (tm_c 74) 210 = .ok (.istore_n 3, 1) := by decide +kernel
theorem d_M_alike_211 : decode (tm_c 74) 211 = .ok (.iload_n 3, 1) := by decide +kernel
theorem d_M_alike_212 : decode (tm_c 74) 212 = .ok (.aload_n 0, 1) := by decide +kernel
theorem d_M_alike_213 : decode (tm_c 74) 213 = .ok (.getfield 184, 3) := by decide +kernel
theorem d_M_alike_216 : decode (tm_c 74) 216 = .ok (.if_icmp .ge (26), 3) := by decide +kernel
theorem d_M_alike_219 : decode (tm_c 74) 219 = .ok (.aload_n 0, 1) := by decide +kernel
theorem d_M_alike_220 : decode (tm_c 74) 220 = .ok (.getfield 75, 3) := by decide +kernel
theorem d_M_alike_223 : decode (tm_c 74) 223 = .ok (.iload_n 3, 1) := by decide +kernel
theorem d_M_alike_224 : decode (tm_c 74) 224 = .ok (.iaload, 1) := by decide +kernel
theorem d_M_alike_225 : decode (tm_c 74) 225 = .ok (.aload_n 0, 1) := by decide +kernel
theorem d_M_alike_226 : decode (tm_c 74) 226 = .ok (.iload_n 2, 1) := by decide +kernel
theorem d_M_alike_227 : decode (tm_c 74) 227 = .ok (.iload_n 3, 1) := by decide +kernel
theorem d_M_alike_228 : decode (tm_c 74) 228 = .ok (.invokevirtual 187, 3) := by decide +kernel
theorem d_M_alike_231 : decode (tm_c 74) 231 = .ok (.if_icmp .eq (5), 3) := by decide +kernel
theorem d_M_alike_234 : decode (tm_c 74) 234 = .ok (.iconst (0), 1) := by decide +kernel
theorem d_M_alike_235 : decode (tm_c 74) 235 = .ok (.ireturn, 1) := by decide +kernel
theorem d_M_alike_236 : decode (tm_c 74) 236 = .ok (.iinc 3 (1), 3) := by decide +kernel
theorem d_M_alike_239 : decode (tm_c 74) 239 = .ok (.goto (-28), 3) := by decide +kernel
theorem d_M_alike_242 : decode (tm_c 74) 242 = .ok (.iconst (1), 1) := by decide +kernel
theorem d_M_alike_243 : decode (tm_c 74) 243 = .ok (.ireturn, 1) := by decide +kernel
theorem g_M_alike_0 : jSnd 74 0 (o_aload 1 0) := snd_aload_n d_M_alike_0 rfl
theorem g_M_alike_1 : jSnd 74 1 (o_push 2 (0)) := snd_iconst (n := 0) (z := 0) d_M_alike_1 (by decide) (by unfold jrg; omega)
theorem g_M_alike_2 : jSnd 74 2 (o_putI 5 14 (0)) := snd_putI (ci := 4) (k := 0) d_M_alike_2 rfl tm_in4 tm_D4 tm_ty4 tm_nm4 (by decide) wd_338 rfl rfl rfl
theorem g_M_alike_5 : jSnd 74 5 (o_iload 6 1) := snd_iload_n d_M_alike_5 rfl
theorem g_M_alike_6 : jSnd 74 6 (o_call 9 44 1 1 0 false) := snd_callS (n := 1) d_M_alike_6 (by decide) (by decide) (by decide) wc_44 wd_339 wd_340 wd_7 (by decide +kernel) (by decide) (by decide)
theorem g_M_alike_9 : jSnd 74 9 (o_if_eq 12 19) := snd_if_eq d_M_alike_9 (by decide)
theorem g_M_alike_12 : jSnd 74 12 (o_iload 13 2) := snd_iload_n d_M_alike_12 rfl
theorem g_M_alike_13 : jSnd 74 13 (o_call 16 44 1 1 0 false) := snd_callS (n := 1) d_M_alike_13 (by decide) (by decide) (by decide) wc_44 wd_339 wd_340 wd_7 (by decide +kernel) (by decide) (by decide)
theorem g_M_alike_16 : jSnd 74 16 (o_if_ne 19 21) := snd_if_ne d_M_alike_16 (by decide)
theorem g_M_alike_19 : jSnd 74 19 (o_push 20 (0)) := snd_iconst (n := 0) (z := 0) d_M_alike_19 (by decide) (by unfold jrg; omega)
theorem g_M_alike_20 : jSnd 74 20 (o_zret) := snd_zret d_M_alike_20 rfl
theorem g_M_alike_21 : jSnd 74 21 (o_aload 22 0) := snd_aload_n d_M_alike_21 rfl
theorem g_M_alike_22 : jSnd 74 22 (o_iload 23 1) := snd_iload_n d_M_alike_22 rfl
theorem g_M_alike_23 : jSnd 74 23 (o_call 26 73 2 4 14 true) := snd_callV (ci := 4) (n := 1) rfl d_M_alike_23 (by decide) (by decide) (by decide) wc_73 wd_387 wd_388 wd_389 wd_7 (by decide +kernel) (by decide) (by decide)
theorem g_M_alike_26 : jSnd 74 26 (o_aload 27 0) := snd_aload_n d_M_alike_26 rfl
theorem g_M_alike_27 : jSnd 74 27 (o_iload 28 2) := snd_iload_n d_M_alike_27 rfl
theorem g_M_alike_28 : jSnd 74 28 (o_call 31 43 2 4 14 true) := snd_callV (ci := 4) (n := 1) rfl d_M_alike_28 (by decide) (by decide) (by decide) wc_43 wd_343 wd_344 wd_345 wd_7 (by decide +kernel) (by decide) (by decide)
theorem g_M_alike_31 : jSnd 74 31 (o_aload 32 0) := snd_aload_n d_M_alike_31 rfl
theorem g_M_alike_32 : jSnd 74 32 (o_getI 35 14 (17)) := snd_getI (ci := 4) (k := 17) d_M_alike_32 rfl tm_in4 (by decide) wd_317 rfl
theorem g_M_alike_35 : jSnd 74 35 (o_aload 36 0) := snd_aload_n d_M_alike_35 rfl
theorem g_M_alike_36 : jSnd 74 36 (o_getI 39 14 (24)) := snd_getI (ci := 4) (k := 24) d_M_alike_36 rfl tm_in4 (by decide) wd_379 rfl
theorem g_M_alike_39 : jSnd 74 39 (o_ic_eq 42 44) := snd_ic_eq d_M_alike_39 (by decide)
theorem g_M_alike_42 : jSnd 74 42 (o_push 43 (0)) := snd_iconst (n := 0) (z := 0) d_M_alike_42 (by decide) (by unfold jrg; omega)
theorem g_M_alike_43 : jSnd 74 43 (o_zret) := snd_zret d_M_alike_43 rfl
theorem g_M_alike_44 : jSnd 74 44 (o_push 45 (0)) := snd_iconst (n := 0) (z := 0) d_M_alike_44 (by decide) (by unfold jrg; omega)
theorem g_M_alike_45 : jSnd 74 45 (o_istore 46 3) := snd_istore_n d_M_alike_45 rfl (by decide)
theorem g_M_alike_46 : jSnd 74 46 (o_iload 47 3) := snd_iload_n d_M_alike_46 rfl
theorem g_M_alike_47 : jSnd 74 47 (o_aload 48 0) := snd_aload_n d_M_alike_47 rfl
theorem g_M_alike_48 : jSnd 74 48 (o_getI 51 14 (17)) := snd_getI (ci := 4) (k := 17) d_M_alike_48 rfl tm_in4 (by decide) wd_317 rfl
theorem g_M_alike_51 : jSnd 74 51 (o_ic_ge 54 82) := snd_ic_ge d_M_alike_51 (by decide)
theorem g_M_alike_54 : jSnd 74 54 (o_aload 55 0) := snd_aload_n d_M_alike_54 rfl
theorem g_M_alike_55 : jSnd 74 55 (o_getR 58 14 (25)) := snd_getR (ci := 4) (k := 25) d_M_alike_55 rfl tm_in4 (by decide) wd_300 rfl
theorem g_M_alike_58 : jSnd 74 58 (o_iload 59 3) := snd_iload_n d_M_alike_58 rfl
theorem g_M_alike_59 : jSnd 74 59 (o_nald 60 1) := snd_iald d_M_alike_59
theorem g_M_alike_60 : jSnd 74 60 (o_aload 61 0) := snd_aload_n d_M_alike_60 rfl
theorem g_M_alike_61 : jSnd 74 61 (o_getR 64 14 (5)) := snd_getR (ci := 4) (k := 5) d_M_alike_61 rfl tm_in4 (by decide) wd_285 rfl
theorem g_M_alike_64 : jSnd 74 64 (o_aload 65 0) := snd_aload_n d_M_alike_64 rfl
theorem g_M_alike_65 : jSnd 74 65 (o_getR 68 14 (18)) := snd_getR (ci := 4) (k := 18) d_M_alike_65 rfl tm_in4 (by decide) wd_297 rfl
theorem g_M_alike_68 : jSnd 74 68 (o_iload 69 3) := snd_iload_n d_M_alike_68 rfl
theorem g_M_alike_69 : jSnd 74 69 (o_nald 70 1) := snd_iald d_M_alike_69
theorem g_M_alike_70 : jSnd 74 70 (o_nald 71 1) := snd_iald d_M_alike_70
theorem g_M_alike_71 : jSnd 74 71 (o_ic_eq 74 76) := snd_ic_eq d_M_alike_71 (by decide)
theorem g_M_alike_74 : jSnd 74 74 (o_push 75 (0)) := snd_iconst (n := 0) (z := 0) d_M_alike_74 (by decide) (by unfold jrg; omega)
theorem g_M_alike_75 : jSnd 74 75 (o_zret) := snd_zret d_M_alike_75 rfl
theorem g_M_alike_76 : jSnd 74 76 (o_iinc 79 3 (1)) := snd_iinc d_M_alike_76 (by decide)
theorem g_M_alike_79 : jSnd 74 79 (o_goto 46) := snd_goto d_M_alike_79 (by decide)
theorem g_M_alike_82 : jSnd 74 82 (o_push 83 (0)) := snd_iconst (n := 0) (z := 0) d_M_alike_82 (by decide) (by unfold jrg; omega)
theorem g_M_alike_83 : jSnd 74 83 (o_istore 84 3) := snd_istore_n d_M_alike_83 rfl (by decide)
theorem g_M_alike_84 : jSnd 74 84 (o_iload 85 3) := snd_iload_n d_M_alike_84 rfl
theorem g_M_alike_85 : jSnd 74 85 (o_push 86 (4)) := snd_iconst (n := 4) (z := 4) d_M_alike_85 (by decide) (by unfold jrg; omega)
theorem g_M_alike_86 : jSnd 74 86 (o_aload 87 0) := snd_aload_n d_M_alike_86 rfl
theorem g_M_alike_87 : jSnd 74 87 (o_getI 90 14 (17)) := snd_getI (ci := 4) (k := 17) d_M_alike_87 rfl tm_in4 (by decide) wd_317 rfl
theorem g_M_alike_90 : jSnd 74 90 (o_bin 91 f_mul) := snd_imul d_M_alike_90
theorem g_M_alike_91 : jSnd 74 91 (o_ic_ge 94 117) := snd_ic_ge d_M_alike_91 (by decide)
theorem g_M_alike_94 : jSnd 74 94 (o_aload 95 0) := snd_aload_n d_M_alike_94 rfl
theorem g_M_alike_95 : jSnd 74 95 (o_getR 98 14 (26)) := snd_getR (ci := 4) (k := 26) d_M_alike_95 rfl tm_in4 (by decide) wd_301 rfl
theorem g_M_alike_98 : jSnd 74 98 (o_iload 99 3) := snd_iload_n d_M_alike_98 rfl
theorem g_M_alike_99 : jSnd 74 99 (o_nald 100 1) := snd_iald d_M_alike_99
theorem g_M_alike_100 : jSnd 74 100 (o_aload 101 0) := snd_aload_n d_M_alike_100 rfl
theorem g_M_alike_101 : jSnd 74 101 (o_getR 104 14 (19)) := snd_getR (ci := 4) (k := 19) d_M_alike_101 rfl tm_in4 (by decide) wd_298 rfl
theorem g_M_alike_104 : jSnd 74 104 (o_iload 105 3) := snd_iload_n d_M_alike_104 rfl
theorem g_M_alike_105 : jSnd 74 105 (o_nald 106 1) := snd_iald d_M_alike_105
theorem g_M_alike_106 : jSnd 74 106 (o_ic_eq 109 111) := snd_ic_eq d_M_alike_106 (by decide)
theorem g_M_alike_109 : jSnd 74 109 (o_push 110 (0)) := snd_iconst (n := 0) (z := 0) d_M_alike_109 (by decide) (by unfold jrg; omega)
theorem g_M_alike_110 : jSnd 74 110 (o_zret) := snd_zret d_M_alike_110 rfl
theorem g_M_alike_111 : jSnd 74 111 (o_iinc 114 3 (1)) := snd_iinc d_M_alike_111 (by decide)
theorem g_M_alike_114 : jSnd 74 114 (o_goto 84) := snd_goto d_M_alike_114 (by decide)
theorem g_M_alike_117 : jSnd 74 117 (o_push 118 (1)) := snd_iconst (n := 1) (z := 1) d_M_alike_117 (by decide) (by unfold jrg; omega)
theorem g_M_alike_118 : jSnd 74 118 (o_istore 119 3) := snd_istore_n d_M_alike_118 rfl (by decide)
theorem g_M_alike_119 : jSnd 74 119 (o_iload 120 3) := snd_iload_n d_M_alike_119 rfl
theorem g_M_alike_120 : jSnd 74 120 (o_aload 121 0) := snd_aload_n d_M_alike_120 rfl
theorem g_M_alike_121 : jSnd 74 121 (o_getI 124 14 (1)) := snd_getI (ci := 4) (k := 1) d_M_alike_121 rfl tm_in4 (by decide) wd_305 rfl
theorem g_M_alike_124 : jSnd 74 124 (o_ic_gt 127 209) := snd_ic_gt d_M_alike_124 (by decide)
theorem g_M_alike_127 : jSnd 74 127 (o_aload 128 0) := snd_aload_n d_M_alike_127 rfl
theorem g_M_alike_128 : jSnd 74 128 (o_getR 131 14 (2)) := snd_getR (ci := 4) (k := 2) d_M_alike_128 rfl tm_in4 (by decide) wd_282 rfl
theorem g_M_alike_131 : jSnd 74 131 (o_iload 132 3) := snd_iload_n d_M_alike_131 rfl
theorem g_M_alike_132 : jSnd 74 132 (o_nald 133 1) := snd_iald d_M_alike_132
theorem g_M_alike_133 : jSnd 74 133 (o_push 134 (3)) := snd_iconst (n := 3) (z := 3) d_M_alike_133 (by decide) (by unfold jrg; omega)
theorem g_M_alike_134 : jSnd 74 134 (o_ic_ne 137 150) := snd_ic_ne d_M_alike_134 (by decide)
theorem g_M_alike_137 : jSnd 74 137 (o_aload 138 0) := snd_aload_n d_M_alike_137 rfl
theorem g_M_alike_138 : jSnd 74 138 (o_getR 141 14 (12)) := snd_getR (ci := 4) (k := 12) d_M_alike_138 rfl tm_in4 (by decide) wd_293 rfl
theorem g_M_alike_141 : jSnd 74 141 (o_iload 142 3) := snd_iload_n d_M_alike_141 rfl
theorem g_M_alike_142 : jSnd 74 142 (o_nald 143 2) := snd_zald d_M_alike_142
theorem g_M_alike_143 : jSnd 74 143 (o_if_eq 146 150) := snd_if_eq d_M_alike_143 (by decide)
theorem g_M_alike_146 : jSnd 74 146 (o_push 147 (1)) := snd_iconst (n := 1) (z := 1) d_M_alike_146 (by decide) (by unfold jrg; omega)
theorem g_M_alike_147 : jSnd 74 147 (o_goto 151) := snd_goto d_M_alike_147 (by decide)
theorem g_M_alike_150 : jSnd 74 150 (o_push 151 (0)) := snd_iconst (n := 0) (z := 0) d_M_alike_150 (by decide) (by unfold jrg; omega)
theorem g_M_alike_151 : jSnd 74 151 (o_istore 153 4) := snd_istore d_M_alike_151 (by decide)
theorem g_M_alike_153 : jSnd 74 153 (o_aload 154 0) := snd_aload_n d_M_alike_153 rfl
theorem g_M_alike_154 : jSnd 74 154 (o_getR 157 14 (27)) := snd_getR (ci := 4) (k := 27) d_M_alike_154 rfl tm_in4 (by decide) wd_302 rfl
theorem g_M_alike_157 : jSnd 74 157 (o_iload 158 3) := snd_iload_n d_M_alike_157 rfl
theorem g_M_alike_158 : jSnd 74 158 (o_nald 159 1) := snd_iald d_M_alike_158
theorem g_M_alike_159 : jSnd 74 159 (o_iload 161 4) := snd_iload d_M_alike_159
theorem g_M_alike_161 : jSnd 74 161 (o_if_eq 164 173) := snd_if_eq d_M_alike_161 (by decide)
theorem g_M_alike_164 : jSnd 74 164 (o_aload 165 0) := snd_aload_n d_M_alike_164 rfl
theorem g_M_alike_165 : jSnd 74 165 (o_iload 166 3) := snd_iload_n d_M_alike_165 rfl
theorem g_M_alike_166 : jSnd 74 166 (o_push 167 (0)) := snd_iconst (n := 0) (z := 0) d_M_alike_166 (by decide) (by unfold jrg; omega)
theorem g_M_alike_167 : jSnd 74 167 (o_call 170 67 3 5 14 false) := snd_callV (ci := 4) (n := 2) rfl d_M_alike_167 (by decide) (by decide) (by decide) wc_67 wd_373 wd_374 wd_375 wd_7 (by decide +kernel) (by decide) (by decide)
theorem g_M_alike_170 : jSnd 74 170 (o_goto 174) := snd_goto d_M_alike_170 (by decide)
theorem g_M_alike_173 : jSnd 74 173 (o_push 174 (-1)) := snd_iconst (n := -1) (z := -1) d_M_alike_173 (by decide) (by unfold jrg; omega)
theorem g_M_alike_174 : jSnd 74 174 (o_ic_ne 177 201) := snd_ic_ne d_M_alike_174 (by decide)
theorem g_M_alike_177 : jSnd 74 177 (o_aload 178 0) := snd_aload_n d_M_alike_177 rfl
theorem g_M_alike_178 : jSnd 74 178 (o_getR 181 14 (28)) := snd_getR (ci := 4) (k := 28) d_M_alike_178 rfl tm_in4 (by decide) wd_303 rfl
theorem g_M_alike_181 : jSnd 74 181 (o_iload 182 3) := snd_iload_n d_M_alike_181 rfl
theorem g_M_alike_182 : jSnd 74 182 (o_nald 183 1) := snd_iald d_M_alike_182
theorem g_M_alike_183 : jSnd 74 183 (o_iload 185 4) := snd_iload d_M_alike_183
theorem g_M_alike_185 : jSnd 74 185 (o_if_eq 188 197) := snd_if_eq d_M_alike_185 (by decide)
theorem g_M_alike_188 : jSnd 74 188 (o_aload 189 0) := snd_aload_n d_M_alike_188 rfl
theorem g_M_alike_189 : jSnd 74 189 (o_iload 190 3) := snd_iload_n d_M_alike_189 rfl
theorem g_M_alike_190 : jSnd 74 190 (o_push 191 (1)) := snd_iconst (n := 1) (z := 1) d_M_alike_190 (by decide) (by unfold jrg; omega)
theorem g_M_alike_191 : jSnd 74 191 (o_call 194 67 3 5 14 false) := snd_callV (ci := 4) (n := 2) rfl d_M_alike_191 (by decide) (by decide) (by decide) wc_67 wd_373 wd_374 wd_375 wd_7 (by decide +kernel) (by decide) (by decide)
theorem g_M_alike_194 : jSnd 74 194 (o_goto 198) := snd_goto d_M_alike_194 (by decide)
theorem g_M_alike_197 : jSnd 74 197 (o_push 198 (-1)) := snd_iconst (n := -1) (z := -1) d_M_alike_197 (by decide) (by unfold jrg; omega)
theorem g_M_alike_198 : jSnd 74 198 (o_ic_eq 201 203) := snd_ic_eq d_M_alike_198 (by decide)
theorem g_M_alike_201 : jSnd 74 201 (o_push 202 (0)) := snd_iconst (n := 0) (z := 0) d_M_alike_201 (by decide) (by unfold jrg; omega)
theorem g_M_alike_202 : jSnd 74 202 (o_zret) := snd_zret d_M_alike_202 rfl
theorem g_M_alike_203 : jSnd 74 203 (o_iinc 206 3 (1)) := snd_iinc d_M_alike_203 (by decide)
theorem g_M_alike_206 : jSnd 74 206 (o_goto 119) := snd_goto d_M_alike_206 (by decide)
theorem g_M_alike_209 : jSnd 74 209 (o_push 210 (0)) := snd_iconst (n := 0) (z := 0) d_M_alike_209 (by decide) (by unfold jrg; omega)
theorem g_M_alike_210 : jSnd 74 210 (o_istore 211 3) := snd_istore_n d_M_alike_210 rfl (by decide)
theorem g_M_alike_211 : jSnd 74 211 (o_iload 212 3) := snd_iload_n d_M_alike_211 rfl
theorem g_M_alike_212 : jSnd 74 212 (o_aload 213 0) := snd_aload_n d_M_alike_212 rfl
theorem g_M_alike_213 : jSnd 74 213 (o_getI 216 14 (29)) := snd_getI (ci := 4) (k := 29) d_M_alike_213 rfl tm_in4 (by decide) wd_383 rfl
theorem g_M_alike_216 : jSnd 74 216 (o_ic_ge 219 242) := snd_ic_ge d_M_alike_216 (by decide)
theorem g_M_alike_219 : jSnd 74 219 (o_aload 220 0) := snd_aload_n d_M_alike_219 rfl
theorem g_M_alike_220 : jSnd 74 220 (o_getR 223 14 (30)) := snd_getR (ci := 4) (k := 30) d_M_alike_220 rfl tm_in4 (by decide) wd_304 rfl
theorem g_M_alike_223 : jSnd 74 223 (o_iload 224 3) := snd_iload_n d_M_alike_223 rfl
theorem g_M_alike_224 : jSnd 74 224 (o_nald 225 1) := snd_iald d_M_alike_224
theorem g_M_alike_225 : jSnd 74 225 (o_aload 226 0) := snd_aload_n d_M_alike_225 rfl
theorem g_M_alike_226 : jSnd 74 226 (o_iload 227 2) := snd_iload_n d_M_alike_226 rfl
theorem g_M_alike_227 : jSnd 74 227 (o_iload 228 3) := snd_iload_n d_M_alike_227 rfl
theorem g_M_alike_228 : jSnd 74 228 (o_call 231 72 3 4 14 false) := snd_callV (ci := 4) (n := 2) rfl d_M_alike_228 (by decide) (by decide) (by decide) wc_72 wd_384 wd_385 wd_386 wd_7 (by decide +kernel) (by decide) (by decide)
theorem g_M_alike_231 : jSnd 74 231 (o_ic_eq 234 236) := snd_ic_eq d_M_alike_231 (by decide)
theorem g_M_alike_234 : jSnd 74 234 (o_push 235 (0)) := snd_iconst (n := 0) (z := 0) d_M_alike_234 (by decide) (by unfold jrg; omega)
theorem g_M_alike_235 : jSnd 74 235 (o_zret) := snd_zret d_M_alike_235 rfl
theorem g_M_alike_236 : jSnd 74 236 (o_iinc 239 3 (1)) := snd_iinc d_M_alike_236 (by decide)
theorem g_M_alike_239 : jSnd 74 239 (o_goto 211) := snd_goto d_M_alike_239 (by decide)
theorem g_M_alike_242 : jSnd 74 242 (o_push 243 (1)) := snd_iconst (n := 1) (z := 1) d_M_alike_242 (by decide) (by unfold jrg; omega)
theorem g_M_alike_243 : jSnd 74 243 (o_zret) := snd_zret d_M_alike_243 rfl
set_option maxRecDepth 100000 in
theorem ga_M_alike : jAll 74 0 tmp_M_alike := ⟨g_M_alike_0, g_M_alike_1, g_M_alike_2, snd_bad _ _, snd_bad _ _, g_M_alike_5, g_M_alike_6, snd_bad _ _, snd_bad _ _, g_M_alike_9, snd_bad _ _, snd_bad _ _, g_M_alike_12, g_M_alike_13, snd_bad _ _, snd_bad _ _, g_M_alike_16, snd_bad _ _, snd_bad _ _, g_M_alike_19, g_M_alike_20, g_M_alike_21, g_M_alike_22, g_M_alike_23, snd_bad _ _, snd_bad _ _, g_M_alike_26, g_M_alike_27, g_M_alike_28, snd_bad _ _, snd_bad _ _, g_M_alike_31, g_M_alike_32, snd_bad _ _, snd_bad _ _, g_M_alike_35, g_M_alike_36, snd_bad _ _, snd_bad _ _, g_M_alike_39, snd_bad _ _, snd_bad _ _, g_M_alike_42, g_M_alike_43, g_M_alike_44, g_M_alike_45, g_M_alike_46, g_M_alike_47, g_M_alike_48, snd_bad _ _, snd_bad _ _, g_M_alike_51, snd_bad _ _, snd_bad _ _, g_M_alike_54, g_M_alike_55, snd_bad _ _, snd_bad _ _, g_M_alike_58, g_M_alike_59, g_M_alike_60, g_M_alike_61, snd_bad _ _, snd_bad _ _, g_M_alike_64, g_M_alike_65, snd_bad _ _, snd_bad _ _, g_M_alike_68, g_M_alike_69, g_M_alike_70, g_M_alike_71, snd_bad _ _, snd_bad _ _, g_M_alike_74, g_M_alike_75, g_M_alike_76, snd_bad _ _, snd_bad _ _, g_M_alike_79, snd_bad _ _, snd_bad _ _, g_M_alike_82, g_M_alike_83, g_M_alike_84, g_M_alike_85, g_M_alike_86, g_M_alike_87, snd_bad _ _, snd_bad _ _, g_M_alike_90, g_M_alike_91, snd_bad _ _, snd_bad _ _, g_M_alike_94, g_M_alike_95, snd_bad _ _, snd_bad _ _, g_M_alike_98, g_M_alike_99, g_M_alike_100, g_M_alike_101, snd_bad _ _, snd_bad _ _, g_M_alike_104, g_M_alike_105, g_M_alike_106, snd_bad _ _, snd_bad _ _, g_M_alike_109, g_M_alike_110, g_M_alike_111, snd_bad _ _, snd_bad _ _, g_M_alike_114, snd_bad _ _, snd_bad _ _, g_M_alike_117, g_M_alike_118, g_M_alike_119, g_M_alike_120, g_M_alike_121, snd_bad _ _, snd_bad _ _, g_M_alike_124, snd_bad _ _, snd_bad _ _, g_M_alike_127, g_M_alike_128, snd_bad _ _, snd_bad _ _, g_M_alike_131, g_M_alike_132, g_M_alike_133, g_M_alike_134, snd_bad _ _, snd_bad _ _, g_M_alike_137, g_M_alike_138, snd_bad _ _, snd_bad _ _, g_M_alike_141, g_M_alike_142, g_M_alike_143, snd_bad _ _, snd_bad _ _, g_M_alike_146, g_M_alike_147, snd_bad _ _, snd_bad _ _, g_M_alike_150, g_M_alike_151, snd_bad _ _, g_M_alike_153, g_M_alike_154, snd_bad _ _, snd_bad _ _, g_M_alike_157, g_M_alike_158, g_M_alike_159, snd_bad _ _, g_M_alike_161, snd_bad _ _, snd_bad _ _, g_M_alike_164, g_M_alike_165, g_M_alike_166, g_M_alike_167, snd_bad _ _, snd_bad _ _, g_M_alike_170, snd_bad _ _, snd_bad _ _, g_M_alike_173, g_M_alike_174, snd_bad _ _, snd_bad _ _, g_M_alike_177, g_M_alike_178, snd_bad _ _, snd_bad _ _, g_M_alike_181, g_M_alike_182, g_M_alike_183, snd_bad _ _, g_M_alike_185, snd_bad _ _, snd_bad _ _, g_M_alike_188, g_M_alike_189, g_M_alike_190, g_M_alike_191, snd_bad _ _, snd_bad _ _, g_M_alike_194, snd_bad _ _, snd_bad _ _, g_M_alike_197, g_M_alike_198, snd_bad _ _, snd_bad _ _, g_M_alike_201, g_M_alike_202, g_M_alike_203, snd_bad _ _, snd_bad _ _, g_M_alike_206, snd_bad _ _, snd_bad _ _, g_M_alike_209, g_M_alike_210, g_M_alike_211, g_M_alike_212, g_M_alike_213, snd_bad _ _, snd_bad _ _, g_M_alike_216, snd_bad _ _, snd_bad _ _, g_M_alike_219, g_M_alike_220, snd_bad _ _, snd_bad _ _, g_M_alike_223, g_M_alike_224, g_M_alike_225, g_M_alike_226, g_M_alike_227, g_M_alike_228, snd_bad _ _, snd_bad _ _, g_M_alike_231, snd_bad _ _, snd_bad _ _, g_M_alike_234, g_M_alike_235, g_M_alike_236, snd_bad _ _, snd_bad _ _, g_M_alike_239, snd_bad _ _, snd_bad _ _, g_M_alike_242, g_M_alike_243, trivial⟩
theorem d_M_units_0 : decode (tm_c 75) 0 = .ok (.iconst (0), 1) := by decide +kernel
theorem d_M_units_1 : decode (tm_c 75) 1 = .ok (.istore_n 1, 1) := by decide +kernel
theorem d_M_units_2 : decode (tm_c 75) 2 = .ok (.iconst (0), 1) := by decide +kernel
theorem d_M_units_3 : decode (tm_c 75) 3 = .ok (.istore_n 2, 1) := by decide +kernel
theorem d_M_units_4 : decode (tm_c 75) 4 = .ok (.iload_n 2, 1) := by decide +kernel
theorem d_M_units_5 : decode (tm_c 75) 5 = .ok (.aload_n 0, 1) := by decide +kernel
theorem d_M_units_6 : decode (tm_c 75) 6 = .ok (.getfield 101, 3) := by decide +kernel
theorem d_M_units_9 : decode (tm_c 75) 9 = .ok (.if_icmp .ge (33), 3) := by decide +kernel
theorem d_M_units_12 : decode (tm_c 75) 12 = .ok (.iload_n 1, 1) := by decide +kernel
theorem d_M_units_13 : decode (tm_c 75) 13 = .ok (.aload_n 0, 1) := by decide +kernel
theorem d_M_units_14 : decode (tm_c 75) 14 = .ok (.getfield 19, 3) := by decide +kernel
theorem d_M_units_17 : decode (tm_c 75) 17 = .ok (.aload_n 0, 1) := by decide +kernel
theorem d_M_units_18 : decode (tm_c 75) 18 = .ok (.getfield 54, 3) := by decide +kernel
theorem d_M_units_21 : decode (tm_c 75) 21 = .ok (.iload_n 2, 1) := by decide +kernel
theorem d_M_units_22 : decode (tm_c 75) 22 = .ok (.iaload, 1) := by decide +kernel
theorem d_M_units_23 : decode (tm_c 75) 23 = .ok (.iaload, 1) := by decide +kernel
theorem d_M_units_24 : decode (tm_c 75) 24 = .ok (.ldc 151, 2) := by decide +kernel
theorem d_M_units_26 : decode (tm_c 75) 26 = .ok (.if_icmp .le (7), 3) := by decide +kernel
theorem d_M_units_29 : decode (tm_c 75) 29 = .ok (.iconst (2), 1) := by decide +kernel
theorem d_M_units_30 : decode (tm_c 75) 30 = .ok (.goto (4), 3) := by decide +kernel
theorem d_M_units_33 : decode (tm_c 75) 33 = .ok (.iconst (1), 1) := by decide +kernel
theorem d_M_units_34 : decode (tm_c 75) 34 = .ok (.iadd, 1) := by decide +kernel
theorem d_M_units_35 : decode (tm_c 75) 35 = .ok (.istore_n 1, 1) := by decide +kernel
theorem d_M_units_36 : decode (tm_c 75) 36 = .ok (.iinc 2 (1), 3) := by decide +kernel
theorem d_M_units_39 : decode (tm_c 75) 39 = .ok (.goto (-35), 3) := by decide +kernel
theorem d_M_units_42 : decode (tm_c 75) 42 = .ok (.iload_n 1, 1) := by decide +kernel
theorem d_M_units_43 : decode (tm_c 75) 43 = .ok (.ireturn, 1) := by decide +kernel
theorem g_M_units_0 : jSnd 75 0 (o_push 1 (0)) := snd_iconst (n := 0) (z := 0) d_M_units_0 (by decide) (by unfold jrg; omega)
theorem g_M_units_1 : jSnd 75 1 (o_istore 2 1) := snd_istore_n d_M_units_1 rfl (by decide)
theorem g_M_units_2 : jSnd 75 2 (o_push 3 (0)) := snd_iconst (n := 0) (z := 0) d_M_units_2 (by decide) (by unfold jrg; omega)
theorem g_M_units_3 : jSnd 75 3 (o_istore 4 2) := snd_istore_n d_M_units_3 rfl (by decide)
theorem g_M_units_4 : jSnd 75 4 (o_iload 5 2) := snd_iload_n d_M_units_4 rfl
theorem g_M_units_5 : jSnd 75 5 (o_aload 6 0) := snd_aload_n d_M_units_5 rfl
theorem g_M_units_6 : jSnd 75 6 (o_getI 9 14 (17)) := snd_getI (ci := 4) (k := 17) d_M_units_6 rfl tm_in4 (by decide) wd_317 rfl
theorem g_M_units_9 : jSnd 75 9 (o_ic_ge 12 42) := snd_ic_ge d_M_units_9 (by decide)
theorem g_M_units_12 : jSnd 75 12 (o_iload 13 1) := snd_iload_n d_M_units_12 rfl
theorem g_M_units_13 : jSnd 75 13 (o_aload 14 0) := snd_aload_n d_M_units_13 rfl
theorem g_M_units_14 : jSnd 75 14 (o_getR 17 14 (5)) := snd_getR (ci := 4) (k := 5) d_M_units_14 rfl tm_in4 (by decide) wd_285 rfl
theorem g_M_units_17 : jSnd 75 17 (o_aload 18 0) := snd_aload_n d_M_units_17 rfl
theorem g_M_units_18 : jSnd 75 18 (o_getR 21 14 (18)) := snd_getR (ci := 4) (k := 18) d_M_units_18 rfl tm_in4 (by decide) wd_297 rfl
theorem g_M_units_21 : jSnd 75 21 (o_iload 22 2) := snd_iload_n d_M_units_21 rfl
theorem g_M_units_22 : jSnd 75 22 (o_nald 23 1) := snd_iald d_M_units_22
theorem g_M_units_23 : jSnd 75 23 (o_nald 24 1) := snd_iald d_M_units_23
theorem g_M_units_24 : jSnd 75 24 (o_push 26 (65535)) := snd_ldc (i := 151) (z := 65535) d_M_units_24 wd_358 (by unfold jrg; omega)
theorem g_M_units_26 : jSnd 75 26 (o_ic_le 29 33) := snd_ic_le d_M_units_26 (by decide)
theorem g_M_units_29 : jSnd 75 29 (o_push 30 (2)) := snd_iconst (n := 2) (z := 2) d_M_units_29 (by decide) (by unfold jrg; omega)
theorem g_M_units_30 : jSnd 75 30 (o_goto 34) := snd_goto d_M_units_30 (by decide)
theorem g_M_units_33 : jSnd 75 33 (o_push 34 (1)) := snd_iconst (n := 1) (z := 1) d_M_units_33 (by decide) (by unfold jrg; omega)
theorem g_M_units_34 : jSnd 75 34 (o_bin 35 f_add) := snd_iadd d_M_units_34
theorem g_M_units_35 : jSnd 75 35 (o_istore 36 1) := snd_istore_n d_M_units_35 rfl (by decide)
theorem g_M_units_36 : jSnd 75 36 (o_iinc 39 2 (1)) := snd_iinc d_M_units_36 (by decide)
theorem g_M_units_39 : jSnd 75 39 (o_goto 4) := snd_goto d_M_units_39 (by decide)
theorem g_M_units_42 : jSnd 75 42 (o_iload 43 1) := snd_iload_n d_M_units_42 rfl
theorem g_M_units_43 : jSnd 75 43 (o_iret) := snd_iret d_M_units_43 rfl
set_option maxRecDepth 100000 in
theorem ga_M_units : jAll 75 0 tmp_M_units := ⟨g_M_units_0, g_M_units_1, g_M_units_2, g_M_units_3, g_M_units_4, g_M_units_5, g_M_units_6, snd_bad _ _, snd_bad _ _, g_M_units_9, snd_bad _ _, snd_bad _ _, g_M_units_12, g_M_units_13, g_M_units_14, snd_bad _ _, snd_bad _ _, g_M_units_17, g_M_units_18, snd_bad _ _, snd_bad _ _, g_M_units_21, g_M_units_22, g_M_units_23, g_M_units_24, snd_bad _ _, g_M_units_26, snd_bad _ _, snd_bad _ _, g_M_units_29, g_M_units_30, snd_bad _ _, snd_bad _ _, g_M_units_33, g_M_units_34, g_M_units_35, g_M_units_36, snd_bad _ _, snd_bad _ _, g_M_units_39, snd_bad _ _, snd_bad _ _, g_M_units_42, g_M_units_43, trivial⟩
theorem d_M_knownRows_0 : decode (tm_c 76) 0 = .ok (.iconst (0), 1) := by decide +kernel
theorem d_M_knownRows_1 : decode (tm_c 76) 1 = .ok (.istore_n 2, 1) := by decide +kernel
theorem d_M_knownRows_2 : decode (tm_c 76) 2 = .ok (.iconst (1), 1) := by decide +kernel
theorem d_M_knownRows_3 : decode (tm_c 76) 3 = .ok (.istore_n 3, 1) := by decide +kernel
theorem d_M_knownRows_4 : decode (tm_c 76) 4 = .ok (.iload_n 3, 1) := by decide +kernel
theorem d_M_knownRows_5 : decode (tm_c 76) 5 = .ok (.aload_n 0, 1) := by decide +kernel
theorem d_M_knownRows_6 : decode (tm_c 76) 6 = .ok (.getfield 81, 3) := by decide +kernel
theorem d_M_knownRows_9 : decode (tm_c 76) 9 = .ok (.if_icmp .gt (26), 3) := by decide +kernel
theorem d_M_knownRows_12 : decode (tm_c 76) 12 = .ok (.iload_n 2, 1) := by decide +kernel
theorem d_M_knownRows_13 : decode (tm_c 76) 13 = .ok (.aload_n 0, 1) := by decide +kernel
theorem d_M_knownRows_14 : decode (tm_c 76) 14 = .ok (.iload_n 1, 1) := by decide +kernel
theorem d_M_knownRows_15 : decode (tm_c 76) 15 = .ok (.iload_n 3, 1) := by decide +kernel
theorem d_M_knownRows_16 : decode (tm_c 76) 16 = .ok (.invokevirtual 84, 3) := by decide +kernel
theorem d_M_knownRows_19 : decode (tm_c 76) 19 = .ok (.ifCond .eq (7), 3) := by decide +kernel
theorem d_M_knownRows_22 : decode (tm_c 76) 22 = .ok (.iconst (1), 1) := by decide +kernel
theorem d_M_knownRows_23 : decode (tm_c 76) 23 = .ok (.goto (4), 3) := by decide +kernel
theorem d_M_knownRows_26 : decode (tm_c 76) 26 = .ok (.iconst (0), 1) := by decide +kernel
theorem d_M_knownRows_27 : decode (tm_c 76) 27 = .ok (.iadd, 1) := by decide +kernel
theorem d_M_knownRows_28 : decode (tm_c 76) 28 = .ok (.istore_n 2, 1) := by decide +kernel
theorem d_M_knownRows_29 : decode (tm_c 76) 29 = .ok (.iinc 3 (1), 3) := by decide +kernel
theorem d_M_knownRows_32 : decode (tm_c 76) 32 = .ok (.goto (-28), 3) := by decide +kernel
theorem d_M_knownRows_35 : decode (tm_c 76) 35 = .ok (.iload_n 2, 1) := by decide +kernel
theorem d_M_knownRows_36 : decode (tm_c 76) 36 = .ok (.ireturn, 1) := by decide +kernel
theorem g_M_knownRows_0 : jSnd 76 0 (o_push 1 (0)) := snd_iconst (n := 0) (z := 0) d_M_knownRows_0 (by decide) (by unfold jrg; omega)
theorem g_M_knownRows_1 : jSnd 76 1 (o_istore 2 2) := snd_istore_n d_M_knownRows_1 rfl (by decide)
theorem g_M_knownRows_2 : jSnd 76 2 (o_push 3 (1)) := snd_iconst (n := 1) (z := 1) d_M_knownRows_2 (by decide) (by unfold jrg; omega)
theorem g_M_knownRows_3 : jSnd 76 3 (o_istore 4 3) := snd_istore_n d_M_knownRows_3 rfl (by decide)
theorem g_M_knownRows_4 : jSnd 76 4 (o_iload 5 3) := snd_iload_n d_M_knownRows_4 rfl
theorem g_M_knownRows_5 : jSnd 76 5 (o_aload 6 0) := snd_aload_n d_M_knownRows_5 rfl
theorem g_M_knownRows_6 : jSnd 76 6 (o_getI 9 14 (1)) := snd_getI (ci := 4) (k := 1) d_M_knownRows_6 rfl tm_in4 (by decide) wd_305 rfl
theorem g_M_knownRows_9 : jSnd 76 9 (o_ic_gt 12 35) := snd_ic_gt d_M_knownRows_9 (by decide)
theorem g_M_knownRows_12 : jSnd 76 12 (o_iload 13 2) := snd_iload_n d_M_knownRows_12 rfl
theorem g_M_knownRows_13 : jSnd 76 13 (o_aload 14 0) := snd_aload_n d_M_knownRows_13 rfl
theorem g_M_knownRows_14 : jSnd 76 14 (o_iload 15 1) := snd_iload_n d_M_knownRows_14 rfl
theorem g_M_knownRows_15 : jSnd 76 15 (o_iload 16 3) := snd_iload_n d_M_knownRows_15 rfl
theorem g_M_knownRows_16 : jSnd 76 16 (o_call 19 35 3 3 14 false) := snd_callV (ci := 4) (n := 2) rfl d_M_knownRows_16 (by decide) (by decide) (by decide) wc_35 wd_306 wd_307 wd_308 wd_7 (by decide +kernel) (by decide) (by decide)
theorem g_M_knownRows_19 : jSnd 76 19 (o_if_eq 22 26) := snd_if_eq d_M_knownRows_19 (by decide)
theorem g_M_knownRows_22 : jSnd 76 22 (o_push 23 (1)) := snd_iconst (n := 1) (z := 1) d_M_knownRows_22 (by decide) (by unfold jrg; omega)
theorem g_M_knownRows_23 : jSnd 76 23 (o_goto 27) := snd_goto d_M_knownRows_23 (by decide)
theorem g_M_knownRows_26 : jSnd 76 26 (o_push 27 (0)) := snd_iconst (n := 0) (z := 0) d_M_knownRows_26 (by decide) (by unfold jrg; omega)
theorem g_M_knownRows_27 : jSnd 76 27 (o_bin 28 f_add) := snd_iadd d_M_knownRows_27
theorem g_M_knownRows_28 : jSnd 76 28 (o_istore 29 2) := snd_istore_n d_M_knownRows_28 rfl (by decide)
theorem g_M_knownRows_29 : jSnd 76 29 (o_iinc 32 3 (1)) := snd_iinc d_M_knownRows_29 (by decide)
theorem g_M_knownRows_32 : jSnd 76 32 (o_goto 4) := snd_goto d_M_knownRows_32 (by decide)
theorem g_M_knownRows_35 : jSnd 76 35 (o_iload 36 2) := snd_iload_n d_M_knownRows_35 rfl
theorem g_M_knownRows_36 : jSnd 76 36 (o_iret) := snd_iret d_M_knownRows_36 rfl
set_option maxRecDepth 100000 in
theorem ga_M_knownRows : jAll 76 0 tmp_M_knownRows := ⟨g_M_knownRows_0, g_M_knownRows_1, g_M_knownRows_2, g_M_knownRows_3, g_M_knownRows_4, g_M_knownRows_5, g_M_knownRows_6, snd_bad _ _, snd_bad _ _, g_M_knownRows_9, snd_bad _ _, snd_bad _ _, g_M_knownRows_12, g_M_knownRows_13, g_M_knownRows_14, g_M_knownRows_15, g_M_knownRows_16, snd_bad _ _, snd_bad _ _, g_M_knownRows_19, snd_bad _ _, snd_bad _ _, g_M_knownRows_22, g_M_knownRows_23, snd_bad _ _, snd_bad _ _, g_M_knownRows_26, g_M_knownRows_27, g_M_knownRows_28, g_M_knownRows_29, snd_bad _ _, snd_bad _ _, g_M_knownRows_32, snd_bad _ _, snd_bad _ _, g_M_knownRows_35, g_M_knownRows_36, trivial⟩
theorem d_M_total_0 : decode (tm_c 77) 0 = .ok (.aload_n 0, 1) := by decide +kernel
theorem d_M_total_1 : decode (tm_c 77) 1 = .ok (.iconst (0), 1) := by decide +kernel
theorem d_M_total_2 : decode (tm_c 77) 2 = .ok (.putfield 78, 3) := by decide +kernel
theorem d_M_total_5 : decode (tm_c 77) 5 = .ok (.iload_n 1, 1) := by decide +kernel
theorem d_M_total_6 : decode (tm_c 77) 6 = .ok (.invokestatic 128, 3) := by decide +kernel
theorem d_M_total_9 : decode (tm_c 77) 9 = .ok (.ifCond .ne (5), 3) := by decide +kernel
theorem d_M_total_12 : decode (tm_c 77) 12 = .ok (.iconst (-1), 1) := by decide +kernel
theorem d_M_total_13 : decode (tm_c 77) 13 = .ok (.ireturn, 1) := by decide +kernel
theorem d_M_total_14 : decode (tm_c 77) 14 = .ok (.aload_n 0, 1) := by decide +kernel
theorem d_M_total_15 : decode (tm_c 77) 15 = .ok (.iload_n 1, 1) := by decide +kernel
theorem d_M_total_16 : decode (tm_c 77) 16 = .ok (.invokevirtual 134, 3) := by decide +kernel
theorem d_M_total_19 : decode (tm_c 77) 19 = .ok (.iload_n 2, 1) := by decide +kernel
theorem d_M_total_20 : decode (tm_c 77) 20 = .ok (.tableswitch (82) (0) (6) #[44, 49, 54, 59, 64, 69, 75], 44) := by decide +kernel
theorem d_M_total_64 : decode (tm_c 77) 64 = .ok (.aload_n 0, 1) := by decide +kernel
theorem d_M_total_65 : decode (tm_c 77) 65 = .ok (.getfield 101, 3) := by decide +kernel
theorem d_M_total_68 : decode (tm_c 77) 68 = .ok (.ireturn, 1) := by decide +kernel
theorem d_M_total_69 : decode (tm_c 77) 69 = .ok (.aload_n 0, 1) := by decide +kernel
theorem d_M_total_70 : decode (tm_c 77) 70 = .ok (.invokevirtual 193, 3) := by decide +kernel
theorem d_M_total_73 : decode (tm_c 77) 73 = .ok (.ireturn, 1) := by decide +kernel
theorem d_M_total_74 : decode (tm_c 77) 74 = .ok (.aload_n 0, 1) := by decide +kernel
theorem d_M_total_75 : decode (tm_c 77) 75 = .ok (.invokevirtual 164, 3) := by decide +kernel
theorem d_M_total_78 : decode (tm_c 77) 78 = .ok (.ireturn, 1) := by decide +kernel
theorem d_M_total_79 : decode (tm_c 77) 79 = .ok (.aload_n 0, 1) := by decide +kernel
theorem d_M_total_80 : decode (tm_c 77) 80 = .ok (.invokevirtual 181, 3) := by decide +kernel
theorem d_M_total_83 : decode (tm_c 77) 83 = .ok (.ireturn, 1) := by decide +kernel
theorem d_M_total_84 : decode (tm_c 77) 84 = .ok (.aload_n 0, 1) := by decide +kernel
theorem d_M_total_85 : decode (tm_c 77) 85 = .ok (.getfield 98, 3) := by decide +kernel
theorem d_M_total_88 : decode (tm_c 77) 88 = .ok (.ireturn, 1) := by decide +kernel
theorem d_M_total_89 : decode (tm_c 77) 89 = .ok (.aload_n 0, 1) := by decide +kernel
theorem d_M_total_90 : decode (tm_c 77) 90 = .ok (.iload_n 1, 1) := by decide +kernel
theorem d_M_total_91 : decode (tm_c 77) 91 = .ok (.invokevirtual 196, 3) := by decide +kernel
theorem d_M_total_94 : decode (tm_c 77) 94 = .ok (.ireturn, 1) := by decide +kernel
theorem d_M_total_95 : decode (tm_c 77) 95 = .ok (.aload_n 0, 1) := by decide +kernel
theorem d_M_total_96 : decode (tm_c 77) 96 = .ok (.getfield 35, 3) := by decide +kernel
theorem d_M_total_99 : decode (tm_c 77) 99 = .ok (.iload_n 1, 1) := by decide +kernel
theorem d_M_total_100 : decode (tm_c 77) 100 = .ok (.iaload, 1) := by decide +kernel
theorem d_M_total_101 : decode (tm_c 77) 101 = .ok (.ireturn, 1) := by decide +kernel
theorem d_M_total_102 : decode (tm_c 77) 102 = .ok (.iconst (-1), 1) := by decide +kernel
theorem d_M_total_103 : decode (tm_c 77) 103 = .ok (.ireturn, 1) := by decide +kernel
theorem g_M_total_0 : jSnd 77 0 (o_aload 1 0) := snd_aload_n d_M_total_0 rfl
theorem g_M_total_1 : jSnd 77 1 (o_push 2 (0)) := snd_iconst (n := 0) (z := 0) d_M_total_1 (by decide) (by unfold jrg; omega)
theorem g_M_total_2 : jSnd 77 2 (o_putI 5 14 (0)) := snd_putI (ci := 4) (k := 0) d_M_total_2 rfl tm_in4 tm_D4 tm_ty4 tm_nm4 (by decide) wd_338 rfl rfl rfl
theorem g_M_total_5 : jSnd 77 5 (o_iload 6 1) := snd_iload_n d_M_total_5 rfl
theorem g_M_total_6 : jSnd 77 6 (o_call 9 44 1 1 0 false) := snd_callS (n := 1) d_M_total_6 (by decide) (by decide) (by decide) wc_44 wd_339 wd_340 wd_7 (by decide +kernel) (by decide) (by decide)
theorem g_M_total_9 : jSnd 77 9 (o_if_ne 12 14) := snd_if_ne d_M_total_9 (by decide)
theorem g_M_total_12 : jSnd 77 12 (o_push 13 (-1)) := snd_iconst (n := -1) (z := -1) d_M_total_12 (by decide) (by unfold jrg; omega)
theorem g_M_total_13 : jSnd 77 13 (o_iret) := snd_iret d_M_total_13 rfl
theorem g_M_total_14 : jSnd 77 14 (o_aload 15 0) := snd_aload_n d_M_total_14 rfl
theorem g_M_total_15 : jSnd 77 15 (o_iload 16 1) := snd_iload_n d_M_total_15 rfl
theorem g_M_total_16 : jSnd 77 16 (o_call 19 43 2 4 14 true) := snd_callV (ci := 4) (n := 1) rfl d_M_total_16 (by decide) (by decide) (by decide) wc_43 wd_343 wd_344 wd_345 wd_7 (by decide +kernel) (by decide) (by decide)
theorem g_M_total_19 : jSnd 77 19 (o_iload 20 2) := snd_iload_n d_M_total_19 rfl
theorem g_M_total_20 : jSnd 77 20 (o_switch 102 [(0, 64), (1, 69), (2, 74), (3, 79), (4, 84), (5, 89), (6, 95)]) := snd_table (t := [(0, 64), (1, 69), (2, 74), (3, 79), (4, 84), (5, 89), (6, 95)]) d_M_total_20 (by decide) (fun x h1 h2 => by rcases (show x = 0 ∨ x = 1 ∨ x = 2 ∨ x = 3 ∨ x = 4 ∨ x = 5 ∨ x = 6 by omega) with rfl | rfl | rfl | rfl | rfl | rfl | rfl <;> exact ⟨_, rfl, rfl⟩) (fun x h => by simp only [jsw]; rw [if_neg (by omega)]; rw [if_neg (by omega)]; rw [if_neg (by omega)]; rw [if_neg (by omega)]; rw [if_neg (by omega)]; rw [if_neg (by omega)]; rw [if_neg (by omega)])
theorem g_M_total_64 : jSnd 77 64 (o_aload 65 0) := snd_aload_n d_M_total_64 rfl
theorem g_M_total_65 : jSnd 77 65 (o_getI 68 14 (17)) := snd_getI (ci := 4) (k := 17) d_M_total_65 rfl tm_in4 (by decide) wd_317 rfl
theorem g_M_total_68 : jSnd 77 68 (o_iret) := snd_iret d_M_total_68 rfl
theorem g_M_total_69 : jSnd 77 69 (o_aload 70 0) := snd_aload_n d_M_total_69 rfl
theorem g_M_total_70 : jSnd 77 70 (o_call 73 75 1 3 14 false) := snd_callV (ci := 4) (n := 0) rfl d_M_total_70 (by decide) (by decide) (by decide) wc_75 wd_390 wd_391 wd_392 wd_7 (by decide +kernel) (by decide) (by decide)
theorem g_M_total_73 : jSnd 77 73 (o_iret) := snd_iret d_M_total_73 rfl
theorem g_M_total_74 : jSnd 77 74 (o_aload 75 0) := snd_aload_n d_M_total_74 rfl
theorem g_M_total_75 : jSnd 77 75 (o_call 78 65 1 1 14 false) := snd_callV (ci := 4) (n := 0) rfl d_M_total_75 (by decide) (by decide) (by decide) wc_65 wd_367 wd_368 wd_369 wd_7 (by decide +kernel) (by decide) (by decide)
theorem g_M_total_78 : jSnd 77 78 (o_iret) := snd_iret d_M_total_78 rfl
theorem g_M_total_79 : jSnd 77 79 (o_aload 80 0) := snd_aload_n d_M_total_79 rfl
theorem g_M_total_80 : jSnd 77 80 (o_call 83 71 1 3 14 false) := snd_callV (ci := 4) (n := 0) rfl d_M_total_80 (by decide) (by decide) (by decide) wc_71 wd_380 wd_381 wd_382 wd_7 (by decide +kernel) (by decide) (by decide)
theorem g_M_total_83 : jSnd 77 83 (o_iret) := snd_iret d_M_total_83 rfl
theorem g_M_total_84 : jSnd 77 84 (o_aload 85 0) := snd_aload_n d_M_total_84 rfl
theorem g_M_total_85 : jSnd 77 85 (o_getI 88 14 (13)) := snd_getI (ci := 4) (k := 13) d_M_total_85 rfl tm_in4 (by decide) wd_316 rfl
theorem g_M_total_88 : jSnd 77 88 (o_iret) := snd_iret d_M_total_88 rfl
theorem g_M_total_89 : jSnd 77 89 (o_aload 90 0) := snd_aload_n d_M_total_89 rfl
theorem g_M_total_90 : jSnd 77 90 (o_iload 91 1) := snd_iload_n d_M_total_90 rfl
theorem g_M_total_91 : jSnd 77 91 (o_call 94 76 2 4 14 false) := snd_callV (ci := 4) (n := 1) rfl d_M_total_91 (by decide) (by decide) (by decide) wc_76 wd_393 wd_394 wd_395 wd_7 (by decide +kernel) (by decide) (by decide)
theorem g_M_total_94 : jSnd 77 94 (o_iret) := snd_iret d_M_total_94 rfl
theorem g_M_total_95 : jSnd 77 95 (o_aload 96 0) := snd_aload_n d_M_total_95 rfl
theorem g_M_total_96 : jSnd 77 96 (o_getR 99 14 (10)) := snd_getR (ci := 4) (k := 10) d_M_total_96 rfl tm_in4 (by decide) wd_291 rfl
theorem g_M_total_99 : jSnd 77 99 (o_iload 100 1) := snd_iload_n d_M_total_99 rfl
theorem g_M_total_100 : jSnd 77 100 (o_nald 101 1) := snd_iald d_M_total_100
theorem g_M_total_101 : jSnd 77 101 (o_iret) := snd_iret d_M_total_101 rfl
theorem g_M_total_102 : jSnd 77 102 (o_push 103 (-1)) := snd_iconst (n := -1) (z := -1) d_M_total_102 (by decide) (by unfold jrg; omega)
theorem g_M_total_103 : jSnd 77 103 (o_iret) := snd_iret d_M_total_103 rfl
set_option maxRecDepth 100000 in
theorem ga_M_total : jAll 77 0 tmp_M_total := ⟨g_M_total_0, g_M_total_1, g_M_total_2, snd_bad _ _, snd_bad _ _, g_M_total_5, g_M_total_6, snd_bad _ _, snd_bad _ _, g_M_total_9, snd_bad _ _, snd_bad _ _, g_M_total_12, g_M_total_13, g_M_total_14, g_M_total_15, g_M_total_16, snd_bad _ _, snd_bad _ _, g_M_total_19, g_M_total_20, snd_bad _ _, snd_bad _ _, snd_bad _ _, snd_bad _ _, snd_bad _ _, snd_bad _ _, snd_bad _ _, snd_bad _ _, snd_bad _ _, snd_bad _ _, snd_bad _ _, snd_bad _ _, snd_bad _ _, snd_bad _ _, snd_bad _ _, snd_bad _ _, snd_bad _ _, snd_bad _ _, snd_bad _ _, snd_bad _ _, snd_bad _ _, snd_bad _ _, snd_bad _ _, snd_bad _ _, snd_bad _ _, snd_bad _ _, snd_bad _ _, snd_bad _ _, snd_bad _ _, snd_bad _ _, snd_bad _ _, snd_bad _ _, snd_bad _ _, snd_bad _ _, snd_bad _ _, snd_bad _ _, snd_bad _ _, snd_bad _ _, snd_bad _ _, snd_bad _ _, snd_bad _ _, snd_bad _ _, snd_bad _ _, g_M_total_64, g_M_total_65, snd_bad _ _, snd_bad _ _, g_M_total_68, g_M_total_69, g_M_total_70, snd_bad _ _, snd_bad _ _, g_M_total_73, g_M_total_74, g_M_total_75, snd_bad _ _, snd_bad _ _, g_M_total_78, g_M_total_79, g_M_total_80, snd_bad _ _, snd_bad _ _, g_M_total_83, g_M_total_84, g_M_total_85, snd_bad _ _, snd_bad _ _, g_M_total_88, g_M_total_89, g_M_total_90, g_M_total_91, snd_bad _ _, snd_bad _ _, g_M_total_94, g_M_total_95, g_M_total_96, snd_bad _ _, snd_bad _ _, g_M_total_99, g_M_total_100, g_M_total_101, g_M_total_102, g_M_total_103, trivial⟩
theorem d_N_init_0 : decode (tm_c 78) 0 = .ok (.aload_n 0, 1) := by decide +kernel
theorem d_N_init_1 : decode (tm_c 78) 1 = .ok (.invokespecial 3, 3) := by decide +kernel
theorem d_N_init_4 : decode (tm_c 78) 4 = .ok (.aload_n 0, 1) := by decide +kernel
theorem d_N_init_5 : decode (tm_c 78) 5 = .ok (.sipush (251), 3) := by decide +kernel
theorem d_N_init_8 : decode (tm_c 78) 8 = .ok (.newarray .boolean, 2) := by decide +kernel
theorem d_N_init_10 : decode (tm_c 78) 10 = .ok (.putfield 9, 3) := by decide +kernel
theorem d_N_init_13 : decode (tm_c 78) 13 = .ok (.return_, 1) := by decide +kernel
theorem g_N_init_0 : jSnd 78 0 (o_aload 1 0) := snd_aload_n d_N_init_0 rfl
theorem g_N_init_1 : jSnd 78 1 (o_objinit 4) := snd_objinit d_N_init_1 wd_396 wd_119 wo_obj (by decide) (by decide)
theorem g_N_init_4 : jSnd 78 4 (o_aload 5 0) := snd_aload_n d_N_init_4 rfl
theorem g_N_init_5 : jSnd 78 5 (o_push 8 (251)) := snd_sipush (n := 251) (z := 251) d_N_init_5 (by decide) (by unfold jrg; omega)
theorem g_N_init_8 : jSnd 78 8 (o_newa 10 2) := snd_newZ d_N_init_8 wd_289
theorem g_N_init_10 : jSnd 78 10 (o_putR 13 10 (0)) := snd_putRF (ci := 0) (k := 0) d_N_init_10 rfl tm_in0 tm_D0 tm_ty0 tm_nm0 (by decide) wd_397 rfl rfl rfl (fun o => by cases o <;> exact ⟨rfl, rfl⟩) rfl
theorem g_N_init_13 : jSnd 78 13 (o_vret) := snd_vret d_N_init_13 rfl
set_option maxRecDepth 100000 in
theorem ga_N_init : jAll 78 0 tmp_N_init := ⟨g_N_init_0, g_N_init_1, snd_bad _ _, snd_bad _ _, g_N_init_4, g_N_init_5, snd_bad _ _, snd_bad _ _, g_N_init_8, snd_bad _ _, g_N_init_10, snd_bad _ _, snd_bad _ _, g_N_init_13, trivial⟩
theorem d_N_known_0 : decode (tm_c 79) 0 = .ok (.aload_n 0, 1) := by decide +kernel
theorem d_N_known_1 : decode (tm_c 79) 1 = .ok (.getfield 15, 3) := by decide +kernel
theorem d_N_known_4 : decode (tm_c 79) 4 = .ok (.ireturn, 1) := by decide +kernel
theorem g_N_known_0 : jSnd 79 0 (o_aload 1 0) := snd_aload_n d_N_known_0 rfl
theorem g_N_known_1 : jSnd 79 1 (o_getI 4 10 (1)) := snd_getI (ci := 0) (k := 1) d_N_known_1 rfl tm_in0 (by decide) wd_398 rfl
theorem g_N_known_4 : jSnd 79 4 (o_iret) := snd_iret d_N_known_4 rfl
set_option maxRecDepth 100000 in
theorem ga_N_known : jAll 79 0 tmp_N_known := ⟨g_N_known_0, g_N_known_1, snd_bad _ _, snd_bad _ _, g_N_known_4, trivial⟩
theorem d_N_time_0 : decode (tm_c 80) 0 = .ok (.aload_n 0, 1) := by decide +kernel
theorem d_N_time_1 : decode (tm_c 80) 1 = .ok (.getfield 19, 3) := by decide +kernel
theorem d_N_time_4 : decode (tm_c 80) 4 = .ok (.ireturn, 1) := by decide +kernel
theorem g_N_time_0 : jSnd 80 0 (o_aload 1 0) := snd_aload_n d_N_time_0 rfl
theorem g_N_time_1 : jSnd 80 1 (o_getI 4 10 (2)) := snd_getI (ci := 0) (k := 2) d_N_time_1 rfl tm_in0 (by decide) wd_399 rfl
theorem g_N_time_4 : jSnd 80 4 (o_iret) := snd_iret d_N_time_4 rfl
set_option maxRecDepth 100000 in
theorem ga_N_time : jAll 80 0 tmp_N_time := ⟨g_N_time_0, g_N_time_1, snd_bad _ _, snd_bad _ _, g_N_time_4, trivial⟩
theorem d_N_knows_0 : decode (tm_c 81) 0 = .ok (.iload_n 1, 1) := by decide +kernel
theorem d_N_knows_1 : decode (tm_c 81) 1 = .ok (.ifCond .lt (25), 3) := by decide +kernel
theorem d_N_knows_4 : decode (tm_c 81) 4 = .ok (.iload_n 1, 1) := by decide +kernel
theorem d_N_knows_5 : decode (tm_c 81) 5 = .ok (.aload_n 0, 1) := by decide +kernel
theorem d_N_knows_6 : decode (tm_c 81) 6 = .ok (.getfield 9, 3) := by decide +kernel
theorem d_N_knows_9 : decode (tm_c 81) 9 = .ok (.arraylength, 1) := by decide +kernel
theorem d_N_knows_10 : decode (tm_c 81) 10 = .ok (.if_icmp .ge (16), 3) := by decide +kernel
theorem d_N_knows_13 : decode (tm_c 81) 13 = .ok (.aload_n 0, 1) := by decide +kernel
theorem d_N_knows_14 : decode (tm_c 81) 14 = .ok (.getfield 9, 3) := by decide +kernel
theorem d_N_knows_17 : decode (tm_c 81) 17 = .ok (.iload_n 1, 1) := by decide +kernel
theorem d_N_knows_18 : decode (tm_c 81) 18 = .ok (.baload, 1) := by decide +kernel
theorem d_N_knows_19 : decode (tm_c 81) 19 = .ok (.ifCond .eq (7), 3) := by decide +kernel
theorem d_N_knows_22 : decode (tm_c 81) 22 = .ok (.iconst (1), 1) := by decide +kernel
theorem d_N_knows_23 : decode (tm_c 81) 23 = .ok (.goto (4), 3) := by decide +kernel
theorem d_N_knows_26 : decode (tm_c 81) 26 = .ok (.iconst (0), 1) := by decide +kernel
theorem d_N_knows_27 : decode (tm_c 81) 27 = .ok (.ireturn, 1) := by decide +kernel
theorem g_N_knows_0 : jSnd 81 0 (o_iload 1 1) := snd_iload_n d_N_knows_0 rfl
theorem g_N_knows_1 : jSnd 81 1 (o_if_lt 4 26) := snd_if_lt d_N_knows_1 (by decide)
theorem g_N_knows_4 : jSnd 81 4 (o_iload 5 1) := snd_iload_n d_N_knows_4 rfl
theorem g_N_knows_5 : jSnd 81 5 (o_aload 6 0) := snd_aload_n d_N_knows_5 rfl
theorem g_N_knows_6 : jSnd 81 6 (o_getR 9 10 (0)) := snd_getR (ci := 0) (k := 0) d_N_knows_6 rfl tm_in0 (by decide) wd_397 rfl
theorem g_N_knows_9 : jSnd 81 9 (o_alen 10 2) := snd_alen (t0 := 1) d_N_knows_9 (by decide) (by decide) rfl
theorem g_N_knows_10 : jSnd 81 10 (o_ic_ge 13 26) := snd_ic_ge d_N_knows_10 (by decide)
theorem g_N_knows_13 : jSnd 81 13 (o_aload 14 0) := snd_aload_n d_N_knows_13 rfl
theorem g_N_knows_14 : jSnd 81 14 (o_getR 17 10 (0)) := snd_getR (ci := 0) (k := 0) d_N_knows_14 rfl tm_in0 (by decide) wd_397 rfl
theorem g_N_knows_17 : jSnd 81 17 (o_iload 18 1) := snd_iload_n d_N_knows_17 rfl
theorem g_N_knows_18 : jSnd 81 18 (o_nald 19 2) := snd_zald d_N_knows_18
theorem g_N_knows_19 : jSnd 81 19 (o_if_eq 22 26) := snd_if_eq d_N_knows_19 (by decide)
theorem g_N_knows_22 : jSnd 81 22 (o_push 23 (1)) := snd_iconst (n := 1) (z := 1) d_N_knows_22 (by decide) (by unfold jrg; omega)
theorem g_N_knows_23 : jSnd 81 23 (o_goto 27) := snd_goto d_N_knows_23 (by decide)
theorem g_N_knows_26 : jSnd 81 26 (o_push 27 (0)) := snd_iconst (n := 0) (z := 0) d_N_knows_26 (by decide) (by unfold jrg; omega)
theorem g_N_knows_27 : jSnd 81 27 (o_zret) := snd_zret d_N_knows_27 rfl
set_option maxRecDepth 100000 in
theorem ga_N_knows : jAll 81 0 tmp_N_knows := ⟨g_N_knows_0, g_N_knows_1, snd_bad _ _, snd_bad _ _, g_N_knows_4, g_N_knows_5, g_N_knows_6, snd_bad _ _, snd_bad _ _, g_N_knows_9, g_N_knows_10, snd_bad _ _, snd_bad _ _, g_N_knows_13, g_N_knows_14, snd_bad _ _, snd_bad _ _, g_N_knows_17, g_N_knows_18, g_N_knows_19, snd_bad _ _, snd_bad _ _, g_N_knows_22, g_N_knows_23, snd_bad _ _, snd_bad _ _, g_N_knows_26, g_N_knows_27, trivial⟩
