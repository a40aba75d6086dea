theorem d_N_learn_0 : decode (tm_c 82) 0 = .ok (.iload_n 1, 1) := by decide +kernel
theorem d_N_learn_1 : decode (tm_c 82) 1 = .ok (.iconst (1), 1) := by decide +kernel
theorem d_N_learn_2 : decode (tm_c 82) 2 = .ok (.if_icmp .lt (21), 3) := by decide +kernel
theorem d_N_learn_5 : decode (tm_c 82) 5 = .ok (.iload_n 1, 1) := by decide +kernel
theorem d_N_learn_6 : decode (tm_c 82) 6 = .ok (.aload_n 0, 1) := by decide +kernel
theorem d_N_learn_7 : decode (tm_c 82) 7 = .ok (.getfield 9, 3) := by decide +kernel
theorem d_N_learn_10 : decode (tm_c 82) 10 = .ok (.arraylength, 1) := by decide +kernel
theorem d_N_learn_11 : decode (tm_c 82) 11 = .ok (.if_icmp .ge (12), 3) := by decide +kernel
theorem d_N_learn_14 : decode (tm_c 82) 14 = .ok (.aload_n 0, 1) := by decide +kernel
theorem d_N_learn_15 : decode (tm_c 82) 15 = .ok (.getfield 9, 3) := by decide +kernel
theorem d_N_learn_18 : decode (tm_c 82) 18 = .ok (.iload_n 1, 1) := by decide +kernel
theorem d_N_learn_19 : decode (tm_c 82) 19 = .ok (.baload, 1) := by decide +kernel
theorem d_N_learn_20 : decode (tm_c 82) 20 = .ok (.ifCond .eq (4), 3) := by decide +kernel
theorem d_N_learn_23 : decode (tm_c 82) 23 = .ok (.return_, 1) := by decide +kernel
theorem d_N_learn_24 : decode (tm_c 82) 24 = .ok (.aload_n 0, 1) := by decide +kernel
theorem d_N_learn_25 : decode (tm_c 82) 25 = .ok (.getfield 9, 3) := by decide +kernel
theorem d_N_learn_28 : decode (tm_c 82) 28 = .ok (.iload_n 1, 1) := by decide +kernel
theorem d_N_learn_29 : decode (tm_c 82) 29 = .ok (.iconst (1), 1) := by decide +kernel
theorem d_N_learn_30 : decode (tm_c 82) 30 = .ok (.bastore, 1) := by decide +kernel
theorem d_N_learn_31 : decode (tm_c 82) 31 = .ok (.aload_n 0, 1) := by decide +kernel
theorem d_N_learn_32 : decode (tm_c 82) 32 = .ok (.dup, 1) := by decide +kernel
theorem d_N_learn_33 : decode (tm_c 82) 33 = .ok (.getfield 15, 3) := by decide +kernel
theorem d_N_learn_36 : decode (tm_c 82) 36 = .ok (.iconst (1), 1) := by decide +kernel
theorem d_N_learn_37 : decode (tm_c 82) 37 = .ok (.iadd, 1) := by decide +kernel
theorem d_N_learn_38 : decode (tm_c 82) 38 = .ok (.putfield 15, 3) := by decide +kernel
theorem d_N_learn_41 : decode (tm_c 82) 41 = .ok (.aload_n 0, 1) := by decide +kernel
theorem d_N_learn_42 : decode (tm_c 82) 42 = .ok (.aload_n 0, 1) := by decide +kernel
theorem d_N_learn_43 : decode (tm_c 82) 43 = .ok (.getfield 19, 3) := by decide +kernel
theorem d_N_learn_46 : decode (tm_c 82) 46 = .ok (.iload_n 2, 1) := by decide +kernel
theorem d_N_learn_47 : decode (tm_c 82) 47 = .ok (.invokestatic 22, 3) := by decide +kernel
theorem d_N_learn_50 : decode (tm_c 82) 50 = .ok (.putfield 19, 3) := by decide +kernel
theorem d_N_learn_53 : decode (tm_c 82) 53 = .ok (.return_, 1) := by decide +kernel
theorem g_N_learn_0 : jSnd 82 0 (o_iload 1 1) := snd_iload_n d_N_learn_0 rfl
theorem g_N_learn_1 : jSnd 82 1 (o_push 2 (1)) := snd_iconst (n := 1) (z := 1) d_N_learn_1 (by decide) (by unfold jrg; omega)
theorem g_N_learn_2 : jSnd 82 2 (o_ic_lt 5 23) := snd_ic_lt d_N_learn_2 (by decide)
theorem g_N_learn_5 : jSnd 82 5 (o_iload 6 1) := snd_iload_n d_N_learn_5 rfl
theorem g_N_learn_6 : jSnd 82 6 (o_aload 7 0) := snd_aload_n d_N_learn_6 rfl
theorem g_N_learn_7 : jSnd 82 7 (o_getR 10 10 (0)) := snd_getR (ci := 0) (k := 0) d_N_learn_7 rfl tm_in0 (by decide) wd_397 rfl
theorem g_N_learn_10 : jSnd 82 10 (o_alen 11 2) := snd_alen (t0 := 1) d_N_learn_10 (by decide) (by decide) rfl
theorem g_N_learn_11 : jSnd 82 11 (o_ic_ge 14 23) := snd_ic_ge d_N_learn_11 (by decide)
theorem g_N_learn_14 : jSnd 82 14 (o_aload 15 0) := snd_aload_n d_N_learn_14 rfl
theorem g_N_learn_15 : jSnd 82 15 (o_getR 18 10 (0)) := snd_getR (ci := 0) (k := 0) d_N_learn_15 rfl tm_in0 (by decide) wd_397 rfl
theorem g_N_learn_18 : jSnd 82 18 (o_iload 19 1) := snd_iload_n d_N_learn_18 rfl
theorem g_N_learn_19 : jSnd 82 19 (o_nald 20 2) := snd_zald d_N_learn_19
theorem g_N_learn_20 : jSnd 82 20 (o_if_eq 23 24) := snd_if_eq d_N_learn_20 (by decide)
theorem g_N_learn_23 : jSnd 82 23 (o_vret) := snd_vret d_N_learn_23 rfl
theorem g_N_learn_24 : jSnd 82 24 (o_aload 25 0) := snd_aload_n d_N_learn_24 rfl
theorem g_N_learn_25 : jSnd 82 25 (o_getR 28 10 (0)) := snd_getR (ci := 0) (k := 0) d_N_learn_25 rfl tm_in0 (by decide) wd_397 rfl
theorem g_N_learn_28 : jSnd 82 28 (o_iload 29 1) := snd_iload_n d_N_learn_28 rfl
theorem g_N_learn_29 : jSnd 82 29 (o_push 30 (1)) := snd_iconst (n := 1) (z := 1) d_N_learn_29 (by decide) (by unfold jrg; omega)
theorem g_N_learn_30 : jSnd 82 30 (o_zast 31) := snd_zast d_N_learn_30
theorem g_N_learn_31 : jSnd 82 31 (o_aload 32 0) := snd_aload_n d_N_learn_31 rfl
theorem g_N_learn_32 : jSnd 82 32 (o_dup 33) := snd_dup d_N_learn_32
theorem g_N_learn_33 : jSnd 82 33 (o_getI 36 10 (1)) := snd_getI (ci := 0) (k := 1) d_N_learn_33 rfl tm_in0 (by decide) wd_398 rfl
theorem g_N_learn_36 : jSnd 82 36 (o_push 37 (1)) := snd_iconst (n := 1) (z := 1) d_N_learn_36 (by decide) (by unfold jrg; omega)
theorem g_N_learn_37 : jSnd 82 37 (o_bin 38 f_add) := snd_iadd d_N_learn_37
theorem g_N_learn_38 : jSnd 82 38 (o_putI 41 10 (1)) := snd_putI (ci := 0) (k := 1) d_N_learn_38 rfl tm_in0 tm_D0 tm_ty0 tm_nm0 (by decide) wd_398 rfl rfl rfl
theorem g_N_learn_41 : jSnd 82 41 (o_aload 42 0) := snd_aload_n d_N_learn_41 rfl
theorem g_N_learn_42 : jSnd 82 42 (o_aload 43 0) := snd_aload_n d_N_learn_42 rfl
theorem g_N_learn_43 : jSnd 82 43 (o_getI 46 10 (2)) := snd_getI (ci := 0) (k := 2) d_N_learn_43 rfl tm_in0 (by decide) wd_399 rfl
theorem g_N_learn_46 : jSnd 82 46 (o_iload 47 2) := snd_iload_n d_N_learn_46 rfl
theorem g_N_learn_47 : jSnd 82 47 (o_mm 50 f_max) := snd_mm d_N_learn_47 wd_400 wd_275 wd_276 wo_max (by decide) (by decide)
theorem g_N_learn_50 : jSnd 82 50 (o_putI 53 10 (2)) := snd_putI (ci := 0) (k := 2) d_N_learn_50 rfl tm_in0 tm_D0 tm_ty0 tm_nm0 (by decide) wd_399 rfl rfl rfl
theorem g_N_learn_53 : jSnd 82 53 (o_vret) := snd_vret d_N_learn_53 rfl
set_option maxRecDepth 100000 in
theorem ga_N_learn : jAll 82 0 tmp_N_learn := ⟨g_N_learn_0, g_N_learn_1, g_N_learn_2, snd_bad _ _, snd_bad _ _, g_N_learn_5, g_N_learn_6, g_N_learn_7, snd_bad _ _, snd_bad _ _, g_N_learn_10, g_N_learn_11, snd_bad _ _, snd_bad _ _, g_N_learn_14, g_N_learn_15, snd_bad _ _, snd_bad _ _, g_N_learn_18, g_N_learn_19, g_N_learn_20, snd_bad _ _, snd_bad _ _, g_N_learn_23, g_N_learn_24, g_N_learn_25, snd_bad _ _, snd_bad _ _, g_N_learn_28, g_N_learn_29, g_N_learn_30, g_N_learn_31, g_N_learn_32, g_N_learn_33, snd_bad _ _, snd_bad _ _, g_N_learn_36, g_N_learn_37, g_N_learn_38, snd_bad _ _, snd_bad _ _, g_N_learn_41, g_N_learn_42, g_N_learn_43, snd_bad _ _, snd_bad _ _, g_N_learn_46, g_N_learn_47, snd_bad _ _, snd_bad _ _, g_N_learn_50, snd_bad _ _, snd_bad _ _, g_N_learn_53, trivial⟩
theorem d_R_init_0 : decode (tm_c 83) 0 = .ok (.aload_n 0, 1) := by decide +kernel
theorem d_R_init_1 : decode (tm_c 83) 1 = .ok (.invokespecial 3, 3) := by decide +kernel
theorem d_R_init_4 : decode (tm_c 83) 4 = .ok (.aload_n 0, 1) := by decide +kernel
theorem d_R_init_5 : decode (tm_c 83) 5 = .ok (.sipush (1757), 3) := by decide +kernel
theorem d_R_init_8 : decode (tm_c 83) 8 = .ok (.newarray .int, 2) := by decide +kernel
theorem d_R_init_10 : decode (tm_c 83) 10 = .ok (.putfield 9, 3) := by decide +kernel
theorem d_R_init_13 : decode (tm_c 83) 13 = .ok (.aload_n 0, 1) := by decide +kernel
theorem d_R_init_14 : decode (tm_c 83) 14 = .ok (.sipush (251), 3) := by decide +kernel
theorem d_R_init_17 : decode (tm_c 83) 17 = .ok (.newarray .int, 2) := by decide +kernel
theorem d_R_init_19 : decode (tm_c 83) 19 = .ok (.putfield 15, 3) := by decide +kernel
theorem d_R_init_22 : decode (tm_c 83) 22 = .ok (.aload_n 0, 1) := by decide +kernel
theorem d_R_init_23 : decode (tm_c 83) 23 = .ok (.sipush (250), 3) := by decide +kernel
theorem d_R_init_26 : decode (tm_c 83) 26 = .ok (.newarray .int, 2) := by decide +kernel
theorem d_R_init_28 : decode (tm_c 83) 28 = .ok (.putfield 18, 3) := by decide +kernel
theorem d_R_init_31 : decode (tm_c 83) 31 = .ok (.aload_n 0, 1) := by decide +kernel
theorem d_R_init_32 : decode (tm_c 83) 32 = .ok (.sipush (250), 3) := by decide +kernel
theorem d_R_init_35 : decode (tm_c 83) 35 = .ok (.newarray .int, 2) := by decide +kernel
theorem d_R_init_37 : decode (tm_c 83) 37 = .ok (.putfield 21, 3) := by decide +kernel
theorem d_R_init_40 : decode (tm_c 83) 40 = .ok (.return_, 1) := by decide +kernel
theorem g_R_init_0 : jSnd 83 0 (o_aload 1 0) := snd_aload_n d_R_init_0 rfl
theorem g_R_init_1 : jSnd 83 1 (o_objinit 4) := snd_objinit d_R_init_1 wd_401 wd_119 wo_obj (by decide) (by decide)
theorem g_R_init_4 : jSnd 83 4 (o_aload 5 0) := snd_aload_n d_R_init_4 rfl
theorem g_R_init_5 : jSnd 83 5 (o_push 8 (1757)) := snd_sipush (n := 1757) (z := 1757) d_R_init_5 (by decide) (by unfold jrg; omega)
theorem g_R_init_8 : jSnd 83 8 (o_newa 10 1) := snd_newI d_R_init_8 wd_281
theorem g_R_init_10 : jSnd 83 10 (o_putR 13 11 (1)) := snd_putRF (ci := 1) (k := 1) d_R_init_10 rfl tm_in1 tm_D1 tm_ty1 tm_nm1 (by decide) wd_402 rfl rfl rfl (fun o => by cases o <;> exact ⟨rfl, rfl⟩) rfl
theorem g_R_init_13 : jSnd 83 13 (o_aload 14 0) := snd_aload_n d_R_init_13 rfl
theorem g_R_init_14 : jSnd 83 14 (o_push 17 (251)) := snd_sipush (n := 251) (z := 251) d_R_init_14 (by decide) (by unfold jrg; omega)
theorem g_R_init_17 : jSnd 83 17 (o_newa 19 1) := snd_newI d_R_init_17 wd_281
theorem g_R_init_19 : jSnd 83 19 (o_putR 22 11 (2)) := snd_putRF (ci := 1) (k := 2) d_R_init_19 rfl tm_in1 tm_D1 tm_ty1 tm_nm1 (by decide) wd_403 rfl rfl rfl (fun o => by cases o <;> exact ⟨rfl, rfl⟩) rfl
theorem g_R_init_22 : jSnd 83 22 (o_aload 23 0) := snd_aload_n d_R_init_22 rfl
theorem g_R_init_23 : jSnd 83 23 (o_push 26 (250)) := snd_sipush (n := 250) (z := 250) d_R_init_23 (by decide) (by unfold jrg; omega)
theorem g_R_init_26 : jSnd 83 26 (o_newa 28 1) := snd_newI d_R_init_26 wd_281
theorem g_R_init_28 : jSnd 83 28 (o_putR 31 11 (3)) := snd_putRF (ci := 1) (k := 3) d_R_init_28 rfl tm_in1 tm_D1 tm_ty1 tm_nm1 (by decide) wd_404 rfl rfl rfl (fun o => by cases o <;> exact ⟨rfl, rfl⟩) rfl
theorem g_R_init_31 : jSnd 83 31 (o_aload 32 0) := snd_aload_n d_R_init_31 rfl
theorem g_R_init_32 : jSnd 83 32 (o_push 35 (250)) := snd_sipush (n := 250) (z := 250) d_R_init_32 (by decide) (by unfold jrg; omega)
theorem g_R_init_35 : jSnd 83 35 (o_newa 37 1) := snd_newI d_R_init_35 wd_281
theorem g_R_init_37 : jSnd 83 37 (o_putR 40 11 (4)) := snd_putRF (ci := 1) (k := 4) d_R_init_37 rfl tm_in1 tm_D1 tm_ty1 tm_nm1 (by decide) wd_405 rfl rfl rfl (fun o => by cases o <;> exact ⟨rfl, rfl⟩) rfl
theorem g_R_init_40 : jSnd 83 40 (o_vret) := snd_vret d_R_init_40 rfl
set_option maxRecDepth 100000 in
theorem ga_R_init : jAll 83 0 tmp_R_init := ⟨g_R_init_0, g_R_init_1, snd_bad _ _, snd_bad _ _, g_R_init_4, g_R_init_5, snd_bad _ _, snd_bad _ _, g_R_init_8, snd_bad _ _, g_R_init_10, snd_bad _ _, snd_bad _ _, g_R_init_13, g_R_init_14, snd_bad _ _, snd_bad _ _, g_R_init_17, snd_bad _ _, g_R_init_19, snd_bad _ _, snd_bad _ _, g_R_init_22, g_R_init_23, snd_bad _ _, snd_bad _ _, g_R_init_26, snd_bad _ _, g_R_init_28, snd_bad _ _, snd_bad _ _, g_R_init_31, g_R_init_32, snd_bad _ _, snd_bad _ _, g_R_init_35, snd_bad _ _, g_R_init_37, snd_bad _ _, snd_bad _ _, g_R_init_40, trivial⟩
theorem d_R_count_0 : decode (tm_c 84) 0 = .ok (.aload_n 0, 1) := by decide +kernel
theorem d_R_count_1 : decode (tm_c 84) 1 = .ok (.getfield 24, 3) := by decide +kernel
theorem d_R_count_4 : decode (tm_c 84) 4 = .ok (.ireturn, 1) := by decide +kernel
theorem g_R_count_0 : jSnd 84 0 (o_aload 1 0) := snd_aload_n d_R_count_0 rfl
theorem g_R_count_1 : jSnd 84 1 (o_getI 4 11 (0)) := snd_getI (ci := 1) (k := 0) d_R_count_1 rfl tm_in1 (by decide) wd_406 rfl
theorem g_R_count_4 : jSnd 84 4 (o_iret) := snd_iret d_R_count_4 rfl
set_option maxRecDepth 100000 in
theorem ga_R_count : jAll 84 0 tmp_R_count := ⟨g_R_count_0, g_R_count_1, snd_bad _ _, snd_bad _ _, g_R_count_4, trivial⟩
theorem d_R_has_0 : decode (tm_c 85) 0 = .ok (.iload_n 1, 1) := by decide +kernel
theorem d_R_has_1 : decode (tm_c 85) 1 = .ok (.iconst (1), 1) := by decide +kernel
theorem d_R_has_2 : decode (tm_c 85) 2 = .ok (.if_icmp .lt (15), 3) := by decide +kernel
theorem d_R_has_5 : decode (tm_c 85) 5 = .ok (.iload_n 1, 1) := by decide +kernel
theorem d_R_has_6 : decode (tm_c 85) 6 = .ok (.aload_n 0, 1) := by decide +kernel
theorem d_R_has_7 : decode (tm_c 85) 7 = .ok (.getfield 24, 3) := by decide +kernel
theorem d_R_has_10 : decode (tm_c 85) 10 = .ok (.if_icmp .gt (7), 3) := by decide +kernel
theorem d_R_has_13 : decode (tm_c 85) 13 = .ok (.iconst (1), 1) := by decide +kernel
theorem d_R_has_14 : decode (tm_c 85) 14 = .ok (.goto (4), 3) := by decide +kernel
theorem d_R_has_17 : decode (tm_c 85) 17 = .ok (.iconst (0), 1) := by decide +kernel
theorem d_R_has_18 : decode (tm_c 85) 18 = .ok (.ireturn, 1) := by decide +kernel
theorem g_R_has_0 : jSnd 85 0 (o_iload 1 1) := snd_iload_n d_R_has_0 rfl
theorem g_R_has_1 : jSnd 85 1 (o_push 2 (1)) := snd_iconst (n := 1) (z := 1) d_R_has_1 (by decide) (by unfold jrg; omega)
theorem g_R_has_2 : jSnd 85 2 (o_ic_lt 5 17) := snd_ic_lt d_R_has_2 (by decide)
theorem g_R_has_5 : jSnd 85 5 (o_iload 6 1) := snd_iload_n d_R_has_5 rfl
theorem g_R_has_6 : jSnd 85 6 (o_aload 7 0) := snd_aload_n d_R_has_6 rfl
theorem g_R_has_7 : jSnd 85 7 (o_getI 10 11 (0)) := snd_getI (ci := 1) (k := 0) d_R_has_7 rfl tm_in1 (by decide) wd_406 rfl
theorem g_R_has_10 : jSnd 85 10 (o_ic_gt 13 17) := snd_ic_gt d_R_has_10 (by decide)
theorem g_R_has_13 : jSnd 85 13 (o_push 14 (1)) := snd_iconst (n := 1) (z := 1) d_R_has_13 (by decide) (by unfold jrg; omega)
theorem g_R_has_14 : jSnd 85 14 (o_goto 18) := snd_goto d_R_has_14 (by decide)
theorem g_R_has_17 : jSnd 85 17 (o_push 18 (0)) := snd_iconst (n := 0) (z := 0) d_R_has_17 (by decide) (by unfold jrg; omega)
theorem g_R_has_18 : jSnd 85 18 (o_zret) := snd_zret d_R_has_18 rfl
set_option maxRecDepth 100000 in
theorem ga_R_has : jAll 85 0 tmp_R_has := ⟨g_R_has_0, g_R_has_1, g_R_has_2, snd_bad _ _, snd_bad _ _, g_R_has_5, g_R_has_6, g_R_has_7, snd_bad _ _, snd_bad _ _, g_R_has_10, snd_bad _ _, snd_bad _ _, g_R_has_13, g_R_has_14, snd_bad _ _, snd_bad _ _, g_R_has_17, g_R_has_18, trivial⟩
theorem d_R_cell_0 : decode (tm_c 86) 0 = .ok (.aload_n 0, 1) := by decide +kernel
theorem d_R_cell_1 : decode (tm_c 86) 1 = .ok (.iload_n 1, 1) := by decide +kernel
theorem d_R_cell_2 : decode (tm_c 86) 2 = .ok (.invokevirtual 28, 3) := by decide +kernel
theorem d_R_cell_5 : decode (tm_c 86) 5 = .ok (.ifCond .eq (27), 3) := by decide +kernel
theorem d_R_cell_8 : decode (tm_c 86) 8 = .ok (.iload_n 2, 1) := by decide +kernel
theorem d_R_cell_9 : decode (tm_c 86) 9 = .ok (.ifCond .lt (23), 3) := by decide +kernel
theorem d_R_cell_12 : decode (tm_c 86) 12 = .ok (.iload_n 2, 1) := by decide +kernel
theorem d_R_cell_13 : decode (tm_c 86) 13 = .ok (.bipush (7), 2) := by decide +kernel
theorem d_R_cell_15 : decode (tm_c 86) 15 = .ok (.if_icmp .ge (17), 3) := by decide +kernel
theorem d_R_cell_18 : decode (tm_c 86) 18 = .ok (.aload_n 0, 1) := by decide +kernel
theorem d_R_cell_19 : decode (tm_c 86) 19 = .ok (.getfield 9, 3) := by decide +kernel
theorem d_R_cell_22 : decode (tm_c 86) 22 = .ok (.iload_n 1, 1) := by decide +kernel
theorem d_R_cell_23 : decode (tm_c 86) 23 = .ok (.bipush (7), 2) := by decide +kernel
theorem d_R_cell_25 : decode (tm_c 86) 25 = .ok (.imul, 1) := by decide +kernel
theorem d_R_cell_26 : decode (tm_c 86) 26 = .ok (.iload_n 2, 1) := by decide +kernel
theorem d_R_cell_27 : decode (tm_c 86) 27 = .ok (.iadd, 1) := by decide +kernel
theorem d_R_cell_28 : decode (tm_c 86) 28 = .ok (.iaload, 1) := by decide +kernel
theorem d_R_cell_29 : decode (tm_c 86) 29 = .ok (.goto (4), 3) := by decide +kernel
theorem d_R_cell_32 : decode (tm_c 86) 32 = .ok (.iconst (-1), 1) := by decide +kernel
theorem d_R_cell_33 : decode (tm_c 86) 33 = .ok (.ireturn, 1) := by decide +kernel
theorem g_R_cell_0 : jSnd 86 0 (o_aload 1 0) := snd_aload_n d_R_cell_0 rfl
theorem g_R_cell_1 : jSnd 86 1 (o_iload 2 1) := snd_iload_n d_R_cell_1 rfl
theorem g_R_cell_2 : jSnd 86 2 (o_call 5 85 2 2 11 false) := snd_callV (ci := 1) (n := 1) rfl d_R_cell_2 (by decide) (by decide) (by decide) wc_85 wd_407 wd_164 wd_165 wd_122 (by decide +kernel) (by decide) (by decide)
theorem g_R_cell_5 : jSnd 86 5 (o_if_eq 8 32) := snd_if_eq d_R_cell_5 (by decide)
theorem g_R_cell_8 : jSnd 86 8 (o_iload 9 2) := snd_iload_n d_R_cell_8 rfl
theorem g_R_cell_9 : jSnd 86 9 (o_if_lt 12 32) := snd_if_lt d_R_cell_9 (by decide)
theorem g_R_cell_12 : jSnd 86 12 (o_iload 13 2) := snd_iload_n d_R_cell_12 rfl
theorem g_R_cell_13 : jSnd 86 13 (o_push 15 (7)) := snd_bipush (n := 7) (z := 7) d_R_cell_13 (by decide) (by unfold jrg; omega)
theorem g_R_cell_15 : jSnd 86 15 (o_ic_ge 18 32) := snd_ic_ge d_R_cell_15 (by decide)
theorem g_R_cell_18 : jSnd 86 18 (o_aload 19 0) := snd_aload_n d_R_cell_18 rfl
theorem g_R_cell_19 : jSnd 86 19 (o_getR 22 11 (1)) := snd_getR (ci := 1) (k := 1) d_R_cell_19 rfl tm_in1 (by decide) wd_402 rfl
theorem g_R_cell_22 : jSnd 86 22 (o_iload 23 1) := snd_iload_n d_R_cell_22 rfl
theorem g_R_cell_23 : jSnd 86 23 (o_push 25 (7)) := snd_bipush (n := 7) (z := 7) d_R_cell_23 (by decide) (by unfold jrg; omega)
theorem g_R_cell_25 : jSnd 86 25 (o_bin 26 f_mul) := snd_imul d_R_cell_25
theorem g_R_cell_26 : jSnd 86 26 (o_iload 27 2) := snd_iload_n d_R_cell_26 rfl
theorem g_R_cell_27 : jSnd 86 27 (o_bin 28 f_add) := snd_iadd d_R_cell_27
theorem g_R_cell_28 : jSnd 86 28 (o_nald 29 1) := snd_iald d_R_cell_28
theorem g_R_cell_29 : jSnd 86 29 (o_goto 33) := snd_goto d_R_cell_29 (by decide)
theorem g_R_cell_32 : jSnd 86 32 (o_push 33 (-1)) := snd_iconst (n := -1) (z := -1) d_R_cell_32 (by decide) (by unfold jrg; omega)
theorem g_R_cell_33 : jSnd 86 33 (o_iret) := snd_iret d_R_cell_33 rfl
set_option maxRecDepth 100000 in
theorem ga_R_cell : jAll 86 0 tmp_R_cell := ⟨g_R_cell_0, g_R_cell_1, g_R_cell_2, snd_bad _ _, snd_bad _ _, g_R_cell_5, snd_bad _ _, snd_bad _ _, g_R_cell_8, g_R_cell_9, snd_bad _ _, snd_bad _ _, g_R_cell_12, g_R_cell_13, snd_bad _ _, g_R_cell_15, snd_bad _ _, snd_bad _ _, g_R_cell_18, g_R_cell_19, snd_bad _ _, snd_bad _ _, g_R_cell_22, g_R_cell_23, snd_bad _ _, g_R_cell_25, g_R_cell_26, g_R_cell_27, g_R_cell_28, g_R_cell_29, snd_bad _ _, snd_bad _ _, g_R_cell_32, g_R_cell_33, trivial⟩
theorem d_R_undoOf_0 : decode (tm_c 87) 0 = .ok (.aload_n 0, 1) := by decide +kernel
theorem d_R_undoOf_1 : decode (tm_c 87) 1 = .ok (.iload_n 1, 1) := by decide +kernel
theorem d_R_undoOf_2 : decode (tm_c 87) 2 = .ok (.invokevirtual 28, 3) := by decide +kernel
theorem d_R_undoOf_5 : decode (tm_c 87) 5 = .ok (.ifCond .eq (12), 3) := by decide +kernel
theorem d_R_undoOf_8 : decode (tm_c 87) 8 = .ok (.aload_n 0, 1) := by decide +kernel
theorem d_R_undoOf_9 : decode (tm_c 87) 9 = .ok (.getfield 15, 3) := by decide +kernel
theorem d_R_undoOf_12 : decode (tm_c 87) 12 = .ok (.iload_n 1, 1) := by decide +kernel
theorem d_R_undoOf_13 : decode (tm_c 87) 13 = .ok (.iaload, 1) := by decide +kernel
theorem d_R_undoOf_14 : decode (tm_c 87) 14 = .ok (.goto (4), 3) := by decide +kernel
theorem d_R_undoOf_17 : decode (tm_c 87) 17 = .ok (.iconst (0), 1) := by decide +kernel
theorem d_R_undoOf_18 : decode (tm_c 87) 18 = .ok (.ireturn, 1) := by decide +kernel
theorem g_R_undoOf_0 : jSnd 87 0 (o_aload 1 0) := snd_aload_n d_R_undoOf_0 rfl
theorem g_R_undoOf_1 : jSnd 87 1 (o_iload 2 1) := snd_iload_n d_R_undoOf_1 rfl
theorem g_R_undoOf_2 : jSnd 87 2 (o_call 5 85 2 2 11 false) := snd_callV (ci := 1) (n := 1) rfl d_R_undoOf_2 (by decide) (by decide) (by decide) wc_85 wd_407 wd_164 wd_165 wd_122 (by decide +kernel) (by decide) (by decide)
theorem g_R_undoOf_5 : jSnd 87 5 (o_if_eq 8 17) := snd_if_eq d_R_undoOf_5 (by decide)
theorem g_R_undoOf_8 : jSnd 87 8 (o_aload 9 0) := snd_aload_n d_R_undoOf_8 rfl
theorem g_R_undoOf_9 : jSnd 87 9 (o_getR 12 11 (2)) := snd_getR (ci := 1) (k := 2) d_R_undoOf_9 rfl tm_in1 (by decide) wd_403 rfl
theorem g_R_undoOf_12 : jSnd 87 12 (o_iload 13 1) := snd_iload_n d_R_undoOf_12 rfl
theorem g_R_undoOf_13 : jSnd 87 13 (o_nald 14 1) := snd_iald d_R_undoOf_13
theorem g_R_undoOf_14 : jSnd 87 14 (o_goto 18) := snd_goto d_R_undoOf_14 (by decide)
theorem g_R_undoOf_17 : jSnd 87 17 (o_push 18 (0)) := snd_iconst (n := 0) (z := 0) d_R_undoOf_17 (by decide) (by unfold jrg; omega)
theorem g_R_undoOf_18 : jSnd 87 18 (o_iret) := snd_iret d_R_undoOf_18 rfl
set_option maxRecDepth 100000 in
theorem ga_R_undoOf : jAll 87 0 tmp_R_undoOf := ⟨g_R_undoOf_0, g_R_undoOf_1, g_R_undoOf_2, snd_bad _ _, snd_bad _ _, g_R_undoOf_5, snd_bad _ _, snd_bad _ _, g_R_undoOf_8, g_R_undoOf_9, snd_bad _ _, snd_bad _ _, g_R_undoOf_12, g_R_undoOf_13, g_R_undoOf_14, snd_bad _ _, snd_bad _ _, g_R_undoOf_17, g_R_undoOf_18, trivial⟩
theorem d_R_inOrderAt_0 : decode (tm_c 88) 0 = .ok (.iload_n 1, 1) := by decide +kernel
theorem d_R_inOrderAt_1 : decode (tm_c 88) 1 = .ok (.ifCond .lt (20), 3) := by decide +kernel
theorem d_R_inOrderAt_4 : decode (tm_c 88) 4 = .ok (.iload_n 1, 1) := by decide +kernel
theorem d_R_inOrderAt_5 : decode (tm_c 88) 5 = .ok (.aload_n 0, 1) := by decide +kernel
theorem d_R_inOrderAt_6 : decode (tm_c 88) 6 = .ok (.getfield 24, 3) := by decide +kernel
theorem d_R_inOrderAt_9 : decode (tm_c 88) 9 = .ok (.if_icmp .ge (12), 3) := by decide +kernel
theorem d_R_inOrderAt_12 : decode (tm_c 88) 12 = .ok (.aload_n 0, 1) := by decide +kernel
theorem d_R_inOrderAt_13 : decode (tm_c 88) 13 = .ok (.getfield 18, 3) := by decide +kernel
theorem d_R_inOrderAt_16 : decode (tm_c 88) 16 = .ok (.iload_n 1, 1) := by decide +kernel
theorem d_R_inOrderAt_17 : decode (tm_c 88) 17 = .ok (.iaload, 1) := by decide +kernel
theorem d_R_inOrderAt_18 : decode (tm_c 88) 18 = .ok (.goto (4), 3) := by decide +kernel
theorem d_R_inOrderAt_21 : decode (tm_c 88) 21 = .ok (.iconst (0), 1) := by decide +kernel
theorem d_R_inOrderAt_22 : decode (tm_c 88) 22 = .ok (.ireturn, 1) := by decide +kernel
theorem g_R_inOrderAt_0 : jSnd 88 0 (o_iload 1 1) := snd_iload_n d_R_inOrderAt_0 rfl
theorem g_R_inOrderAt_1 : jSnd 88 1 (o_if_lt 4 21) := snd_if_lt d_R_inOrderAt_1 (by decide)
theorem g_R_inOrderAt_4 : jSnd 88 4 (o_iload 5 1) := snd_iload_n d_R_inOrderAt_4 rfl
theorem g_R_inOrderAt_5 : jSnd 88 5 (o_aload 6 0) := snd_aload_n d_R_inOrderAt_5 rfl
theorem g_R_inOrderAt_6 : jSnd 88 6 (o_getI 9 11 (0)) := snd_getI (ci := 1) (k := 0) d_R_inOrderAt_6 rfl tm_in1 (by decide) wd_406 rfl
theorem g_R_inOrderAt_9 : jSnd 88 9 (o_ic_ge 12 21) := snd_ic_ge d_R_inOrderAt_9 (by decide)
theorem g_R_inOrderAt_12 : jSnd 88 12 (o_aload 13 0) := snd_aload_n d_R_inOrderAt_12 rfl
theorem g_R_inOrderAt_13 : jSnd 88 13 (o_getR 16 11 (3)) := snd_getR (ci := 1) (k := 3) d_R_inOrderAt_13 rfl tm_in1 (by decide) wd_404 rfl
theorem g_R_inOrderAt_16 : jSnd 88 16 (o_iload 17 1) := snd_iload_n d_R_inOrderAt_16 rfl
theorem g_R_inOrderAt_17 : jSnd 88 17 (o_nald 18 1) := snd_iald d_R_inOrderAt_17
theorem g_R_inOrderAt_18 : jSnd 88 18 (o_goto 22) := snd_goto d_R_inOrderAt_18 (by decide)
theorem g_R_inOrderAt_21 : jSnd 88 21 (o_push 22 (0)) := snd_iconst (n := 0) (z := 0) d_R_inOrderAt_21 (by decide) (by unfold jrg; omega)
theorem g_R_inOrderAt_22 : jSnd 88 22 (o_iret) := snd_iret d_R_inOrderAt_22 rfl
set_option maxRecDepth 100000 in
theorem ga_R_inOrderAt : jAll 88 0 tmp_R_inOrderAt := ⟨g_R_inOrderAt_0, g_R_inOrderAt_1, snd_bad _ _, snd_bad _ _, g_R_inOrderAt_4, g_R_inOrderAt_5, g_R_inOrderAt_6, snd_bad _ _, snd_bad _ _, g_R_inOrderAt_9, snd_bad _ _, snd_bad _ _, g_R_inOrderAt_12, g_R_inOrderAt_13, snd_bad _ _, snd_bad _ _, g_R_inOrderAt_16, g_R_inOrderAt_17, g_R_inOrderAt_18, snd_bad _ _, snd_bad _ _, g_R_inOrderAt_21, g_R_inOrderAt_22, trivial⟩
theorem d_R_placeCount_0 : decode (tm_c 89) 0 = .ok (.aload_n 0, 1) := by decide +kernel
theorem d_R_placeCount_1 : decode (tm_c 89) 1 = .ok (.getfield 32, 3) := by decide +kernel
theorem d_R_placeCount_4 : decode (tm_c 89) 4 = .ok (.ireturn, 1) := by decide +kernel
theorem g_R_placeCount_0 : jSnd 89 0 (o_aload 1 0) := snd_aload_n d_R_placeCount_0 rfl
theorem g_R_placeCount_1 : jSnd 89 1 (o_getI 4 11 (5)) := snd_getI (ci := 1) (k := 5) d_R_placeCount_1 rfl tm_in1 (by decide) wd_408 rfl
theorem g_R_placeCount_4 : jSnd 89 4 (o_iret) := snd_iret d_R_placeCount_4 rfl
set_option maxRecDepth 100000 in
theorem ga_R_placeCount : jAll 89 0 tmp_R_placeCount := ⟨g_R_placeCount_0, g_R_placeCount_1, snd_bad _ _, snd_bad _ _, g_R_placeCount_4, trivial⟩
theorem d_R_placeAt_0 : decode (tm_c 90) 0 = .ok (.iload_n 1, 1) := by decide +kernel
theorem d_R_placeAt_1 : decode (tm_c 90) 1 = .ok (.ifCond .lt (20), 3) := by decide +kernel
theorem d_R_placeAt_4 : decode (tm_c 90) 4 = .ok (.iload_n 1, 1) := by decide +kernel
theorem d_R_placeAt_5 : decode (tm_c 90) 5 = .ok (.aload_n 0, 1) := by decide +kernel
theorem d_R_placeAt_6 : decode (tm_c 90) 6 = .ok (.getfield 32, 3) := by decide +kernel
theorem d_R_placeAt_9 : decode (tm_c 90) 9 = .ok (.if_icmp .ge (12), 3) := by decide +kernel
theorem d_R_placeAt_12 : decode (tm_c 90) 12 = .ok (.aload_n 0, 1) := by decide +kernel
theorem d_R_placeAt_13 : decode (tm_c 90) 13 = .ok (.getfield 21, 3) := by decide +kernel
theorem d_R_placeAt_16 : decode (tm_c 90) 16 = .ok (.iload_n 1, 1) := by decide +kernel
theorem d_R_placeAt_17 : decode (tm_c 90) 17 = .ok (.iaload, 1) := by decide +kernel
theorem d_R_placeAt_18 : decode (tm_c 90) 18 = .ok (.goto (4), 3) := by decide +kernel
theorem d_R_placeAt_21 : decode (tm_c 90) 21 = .ok (.iconst (0), 1) := by decide +kernel
theorem d_R_placeAt_22 : decode (tm_c 90) 22 = .ok (.ireturn, 1) := by decide +kernel
theorem g_R_placeAt_0 : jSnd 90 0 (o_iload 1 1) := snd_iload_n d_R_placeAt_0 rfl
theorem g_R_placeAt_1 : jSnd 90 1 (o_if_lt 4 21) := snd_if_lt d_R_placeAt_1 (by decide)
theorem g_R_placeAt_4 : jSnd 90 4 (o_iload 5 1) := snd_iload_n d_R_placeAt_4 rfl
theorem g_R_placeAt_5 : jSnd 90 5 (o_aload 6 0) := snd_aload_n d_R_placeAt_5 rfl
theorem g_R_placeAt_6 : jSnd 90 6 (o_getI 9 11 (5)) := snd_getI (ci := 1) (k := 5) d_R_placeAt_6 rfl tm_in1 (by decide) wd_408 rfl
theorem g_R_placeAt_9 : jSnd 90 9 (o_ic_ge 12 21) := snd_ic_ge d_R_placeAt_9 (by decide)
theorem g_R_placeAt_12 : jSnd 90 12 (o_aload 13 0) := snd_aload_n d_R_placeAt_12 rfl
theorem g_R_placeAt_13 : jSnd 90 13 (o_getR 16 11 (4)) := snd_getR (ci := 1) (k := 4) d_R_placeAt_13 rfl tm_in1 (by decide) wd_405 rfl
theorem g_R_placeAt_16 : jSnd 90 16 (o_iload 17 1) := snd_iload_n d_R_placeAt_16 rfl
theorem g_R_placeAt_17 : jSnd 90 17 (o_nald 18 1) := snd_iald d_R_placeAt_17
theorem g_R_placeAt_18 : jSnd 90 18 (o_goto 22) := snd_goto d_R_placeAt_18 (by decide)
theorem g_R_placeAt_21 : jSnd 90 21 (o_push 22 (0)) := snd_iconst (n := 0) (z := 0) d_R_placeAt_21 (by decide) (by unfold jrg; omega)
theorem g_R_placeAt_22 : jSnd 90 22 (o_iret) := snd_iret d_R_placeAt_22 rfl
set_option maxRecDepth 100000 in
theorem ga_R_placeAt : jAll 90 0 tmp_R_placeAt := ⟨g_R_placeAt_0, g_R_placeAt_1, snd_bad _ _, snd_bad _ _, g_R_placeAt_4, g_R_placeAt_5, g_R_placeAt_6, snd_bad _ _, snd_bad _ _, g_R_placeAt_9, snd_bad _ _, snd_bad _ _, g_R_placeAt_12, g_R_placeAt_13, snd_bad _ _, snd_bad _ _, g_R_placeAt_16, g_R_placeAt_17, g_R_placeAt_18, snd_bad _ _, snd_bad _ _, g_R_placeAt_21, g_R_placeAt_22, trivial⟩
theorem d_R_add_0 : decode (tm_c 91) 0 = .ok (.aload_n 0, 1) := by decide +kernel
theorem d_R_add_1 : decode (tm_c 91) 1 = .ok (.getfield 24, 3) := by decide +kernel
theorem d_R_add_4 : decode (tm_c 91) 4 = .ok (.sipush (250), 3) := by decide +kernel
theorem d_R_add_7 : decode (tm_c 91) 7 = .ok (.if_icmp .lt (5), 3) := by decide +kernel
theorem d_R_add_10 : decode (tm_c 91) 10 = .ok (.iconst (-1), 1) := by decide +kernel
theorem d_R_add_11 : decode (tm_c 91) 11 = .ok (.ireturn, 1) := by decide +kernel
theorem d_R_add_12 : decode (tm_c 91) 12 = .ok (.aload_n 0, 1) := by decide +kernel
theorem d_R_add_13 : decode (tm_c 91) 13 = .ok (.dup, 1) := by decide +kernel
theorem d_R_add_14 : decode (tm_c 91) 14 = .ok (.getfield 24, 3) := by decide +kernel
theorem d_R_add_17 : decode (tm_c 91) 17 = .ok (.iconst (1), 1) := by decide +kernel
theorem d_R_add_18 : decode (tm_c 91) 18 = .ok (.iadd, 1) := by decide +kernel
theorem d_R_add_19 : decode (tm_c 91) 19 = .ok (.putfield 24, 3) := by decide +kernel
theorem d_R_add_22 : decode (tm_c 91) 22 = .ok (.aload_n 0, 1) := by decide +kernel
theorem d_R_add_23 : decode (tm_c 91) 23 = .ok (.getfield 24, 3) := by decide +kernel
theorem d_R_add_26 : decode (tm_c 91) 26 = .ok (.bipush (7), 2) := by decide +kernel
theorem d_R_add_28 : decode (tm_c 91) 28 = .ok (.imul, 1) := by decide +kernel
theorem d_R_add_29 : decode (tm_c 91) 29 = .ok (.istore 8, 2) := by decide +kernel
theorem d_R_add_31 : decode (tm_c 91) 31 = .ok (.aload_n 0, 1) := by decide +kernel
theorem d_R_add_32 : decode (tm_c 91) 32 = .ok (.getfield 9, 3) := by decide +kernel
theorem d_R_add_35 : decode (tm_c 91) 35 = .ok (.iload 8, 2) := by decide +kernel
theorem d_R_add_37 : decode (tm_c 91) 37 = .ok (.iconst (0), 1) := by decide +kernel
theorem d_R_add_38 : decode (tm_c 91) 38 = .ok (.iadd, 1) := by decide +kernel
theorem d_R_add_39 : decode (tm_c 91) 39 = .ok (.iload_n 3, 1) := by decide +kernel
theorem d_R_add_40 : decode (tm_c 91) 40 = .ok (.iastore, 1) := by decide +kernel
theorem d_R_add_41 : decode (tm_c 91) 41 = .ok (.aload_n 0, 1) := by decide +kernel
theorem d_R_add_42 : decode (tm_c 91) 42 = .ok (.getfield 9, 3) := by decide +kernel
theorem d_R_add_45 : decode (tm_c 91) 45 = .ok (.iload 8, 2) := by decide +kernel
theorem d_R_add_47 : decode (tm_c 91) 47 = .ok (.iconst (1), 1) := by decide +kernel
theorem d_R_add_48 : decode (tm_c 91) 48 = .ok (.iadd, 1) := by decide +kernel
theorem d_R_add_49 : decode (tm_c 91) 49 = .ok (.iload_n 1, 1) := by decide +kernel
theorem d_R_add_50 : decode (tm_c 91) 50 = .ok (.iastore, 1) := by decide +kernel
theorem d_R_add_51 : decode (tm_c 91) 51 = .ok (.aload_n 0, 1) := by decide +kernel
theorem d_R_add_52 : decode (tm_c 91) 52 = .ok (.getfield 9, 3) := by decide +kernel
theorem d_R_add_55 : decode (tm_c 91) 55 = .ok (.iload 8, 2) := by decide +kernel
theorem d_R_add_57 : decode (tm_c 91) 57 = .ok (.iconst (2), 1) := by decide +kernel
theorem d_R_add_58 : decode (tm_c 91) 58 = .ok (.iadd, 1) := by decide +kernel
theorem d_R_add_59 : decode (tm_c 91) 59 = .ok (.iload_n 2, 1) := by decide +kernel
theorem d_R_add_60 : decode (tm_c 91) 60 = .ok (.iastore, 1) := by decide +kernel
theorem d_R_add_61 : decode (tm_c 91) 61 = .ok (.aload_n 0, 1) := by decide +kernel
theorem d_R_add_62 : decode (tm_c 91) 62 = .ok (.getfield 9, 3) := by decide +kernel
theorem d_R_add_65 : decode (tm_c 91) 65 = .ok (.iload 8, 2) := by decide +kernel
theorem d_R_add_67 : decode (tm_c 91) 67 = .ok (.iconst (3), 1) := by decide +kernel
theorem d_R_add_68 : decode (tm_c 91) 68 = .ok (.iadd, 1) := by decide +kernel
theorem d_R_add_69 : decode (tm_c 91) 69 = .ok (.iload 4, 2) := by decide +kernel
theorem d_R_add_71 : decode (tm_c 91) 71 = .ok (.iastore, 1) := by decide +kernel
theorem d_R_add_72 : decode (tm_c 91) 72 = .ok (.aload_n 0, 1) := by decide +kernel
theorem d_R_add_73 : decode (tm_c 91) 73 = .ok (.getfield 9, 3) := by decide +kernel
theorem d_R_add_76 : decode (tm_c 91) 76 = .ok (.iload 8, 2) := by decide +kernel
theorem d_R_add_78 : decode (tm_c 91) 78 = .ok (.iconst (4), 1) := by decide +kernel
theorem d_R_add_79 : decode (tm_c 91) 79 = .ok (.iadd, 1) := by decide +kernel
theorem d_R_add_80 : decode (tm_c 91) 80 = .ok (.iload 5, 2) := by decide +kernel
theorem d_R_add_82 : decode (tm_c 91) 82 = .ok (.iastore, 1) := by decide +kernel
theorem d_R_add_83 : decode (tm_c 91) 83 = .ok (.aload_n 0, 1) := by decide +kernel
theorem d_R_add_84 : decode (tm_c 91) 84 = .ok (.getfield 9, 3) := by decide +kernel
theorem d_R_add_87 : decode (tm_c 91) 87 = .ok (.iload 8, 2) := by decide +kernel
theorem d_R_add_89 : decode (tm_c 91) 89 = .ok (.iconst (5), 1) := by decide +kernel
theorem d_R_add_90 : decode (tm_c 91) 90 = .ok (.iadd, 1) := by decide +kernel
theorem d_R_add_91 : decode (tm_c 91) 91 = .ok (.iload 6, 2) := by decide +kernel
theorem d_R_add_93 : decode (tm_c 91) 93 = .ok (.iastore, 1) := by decide +kernel
theorem d_R_add_94 : decode (tm_c 91) 94 = .ok (.aload_n 0, 1) := by decide +kernel
theorem d_R_add_95 : decode (tm_c 91) 95 = .ok (.getfield 9, 3) := by decide +kernel
theorem d_R_add_98 : decode (tm_c 91) 98 = .ok (.iload 8, 2) := by decide +kernel
theorem d_R_add_100 : decode (tm_c 91) 100 = .ok (.bipush (6), 2) := by decide +kernel
theorem d_R_add_102 : decode (tm_c 91) 102 = .ok (.iadd, 1) := by decide +kernel
theorem d_R_add_103 : decode (tm_c 91) 103 = .ok (.iload 7, 2) := by decide +kernel
theorem d_R_add_105 : decode (tm_c 91) 105 = .ok (.iastore, 1) := by decide +kernel
theorem d_R_add_106 : decode (tm_c 91) 106 = .ok (.aload_n 0, 1) := by decide +kernel
theorem d_R_add_107 : decode (tm_c 91) 107 = .ok (.aload_n 0, 1) := by decide +kernel
theorem d_R_add_108 : decode (tm_c 91) 108 = .ok (.getfield 24, 3) := by decide +kernel
theorem d_R_add_111 : decode (tm_c 91) 111 = .ok (.invokevirtual 35, 3) := by decide +kernel
theorem d_R_add_114 : decode (tm_c 91) 114 = .ok (.iload_n 3, 1) := by decide +kernel
theorem d_R_add_115 : decode (tm_c 91) 115 = .ok (.ifCond .ne (13), 3) := by decide +kernel
theorem d_R_add_118 : decode (tm_c 91) 118 = .ok (.aload_n 0, 1) := by decide +kernel
theorem d_R_add_119 : decode (tm_c 91) 119 = .ok (.aload_n 0, 1) := by decide +kernel
theorem d_R_add_120 : decode (tm_c 91) 120 = .ok (.getfield 24, 3) := by decide +kernel
theorem d_R_add_123 : decode (tm_c 91) 123 = .ok (.iload 6, 2) := by decide +kernel
theorem d_R_add_125 : decode (tm_c 91) 125 = .ok (.invokevirtual 39, 3) := by decide +kernel
theorem d_R_add_128 : decode (tm_c 91) 128 = .ok (.iload_n 3, 1) := by decide +kernel
theorem d_R_add_129 : decode (tm_c 91) 129 = .ok (.iconst (5), 1) := by decide +kernel
theorem d_R_add_130 : decode (tm_c 91) 130 = .ok (.if_icmp .ne (23), 3) := by decide +kernel
theorem d_R_add_133 : decode (tm_c 91) 133 = .ok (.aload_n 0, 1) := by decide +kernel
theorem d_R_add_134 : decode (tm_c 91) 134 = .ok (.iload 6, 2) := by decide +kernel
theorem d_R_add_136 : decode (tm_c 91) 136 = .ok (.invokevirtual 28, 3) := by decide +kernel
theorem d_R_add_139 : decode (tm_c 91) 139 = .ok (.ifCond .eq (14), 3) := by decide +kernel
theorem d_R_add_142 : decode (tm_c 91) 142 = .ok (.aload_n 0, 1) := by decide +kernel
theorem d_R_add_143 : decode (tm_c 91) 143 = .ok (.getfield 15, 3) := by decide +kernel
theorem d_R_add_146 : decode (tm_c 91) 146 = .ok (.iload 6, 2) := by decide +kernel
theorem d_R_add_148 : decode (tm_c 91) 148 = .ok (.aload_n 0, 1) := by decide +kernel
theorem d_R_add_149 : decode (tm_c 91) 149 = .ok (.getfield 24, 3) := by decide +kernel
theorem d_R_add_152 : decode (tm_c 91) 152 = .ok (.iastore, 1) := by decide +kernel
theorem d_R_add_153 : decode (tm_c 91) 153 = .ok (.aload_n 0, 1) := by decide +kernel
theorem d_R_add_154 : decode (tm_c 91) 154 = .ok (.getfield 24, 3) := by decide +kernel
theorem d_R_add_157 : decode (tm_c 91) 157 = .ok (.ireturn, 1) := by decide +kernel
theorem g_R_add_0 : jSnd 91 0 (o_aload 1 0) := snd_aload_n d_R_add_0 rfl
theorem g_R_add_1 : jSnd 91 1 (o_getI 4 11 (0)) := snd_getI (ci := 1) (k := 0) d_R_add_1 rfl tm_in1 (by decide) wd_406 rfl
theorem g_R_add_4 : jSnd 91 4 (o_push 7 (250)) := snd_sipush (n := 250) (z := 250) d_R_add_4 (by decide) (by unfold jrg; omega)
theorem g_R_add_7 : jSnd 91 7 (o_ic_lt 10 12) := snd_ic_lt d_R_add_7 (by decide)
theorem g_R_add_10 : jSnd 91 10 (o_push 11 (-1)) := snd_iconst (n := -1) (z := -1) d_R_add_10 (by decide) (by unfold jrg; omega)
theorem g_R_add_11 : jSnd 91 11 (o_iret) := snd_iret d_R_add_11 rfl
theorem g_R_add_12 : jSnd 91 12 (o_aload 13 0) := snd_aload_n d_R_add_12 rfl
theorem g_R_add_13 : jSnd 91 13 (o_dup 14) := snd_dup d_R_add_13
theorem g_R_add_14 : jSnd 91 14 (o_getI 17 11 (0)) := snd_getI (ci := 1) (k := 0) d_R_add_14 rfl tm_in1 (by decide) wd_406 rfl
theorem g_R_add_17 : jSnd 91 17 (o_push 18 (1)) := snd_iconst (n := 1) (z := 1) d_R_add_17 (by decide) (by unfold jrg; omega)
theorem g_R_add_18 : jSnd 91 18 (o_bin 19 f_add) := snd_iadd d_R_add_18
theorem g_R_add_19 : jSnd 91 19 (o_putI 22 11 (0)) := snd_putI (ci := 1) (k := 0) d_R_add_19 rfl tm_in1 tm_D1 tm_ty1 tm_nm1 (by decide) wd_406 rfl rfl rfl
theorem g_R_add_22 : jSnd 91 22 (o_aload 23 0) := snd_aload_n d_R_add_22 rfl
theorem g_R_add_23 : jSnd 91 23 (o_getI 26 11 (0)) := snd_getI (ci := 1) (k := 0) d_R_add_23 rfl tm_in1 (by decide) wd_406 rfl
theorem g_R_add_26 : jSnd 91 26 (o_push 28 (7)) := snd_bipush (n := 7) (z := 7) d_R_add_26 (by decide) (by unfold jrg; omega)
theorem g_R_add_28 : jSnd 91 28 (o_bin 29 f_mul) := snd_imul d_R_add_28
theorem g_R_add_29 : jSnd 91 29 (o_istore 31 8) := snd_istore d_R_add_29 (by decide)
theorem g_R_add_31 : jSnd 91 31 (o_aload 32 0) := snd_aload_n d_R_add_31 rfl
theorem g_R_add_32 : jSnd 91 32 (o_getR 35 11 (1)) := snd_getR (ci := 1) (k := 1) d_R_add_32 rfl tm_in1 (by decide) wd_402 rfl
theorem g_R_add_35 : jSnd 91 35 (o_iload 37 8) := snd_iload d_R_add_35
theorem g_R_add_37 : jSnd 91 37 (o_push 38 (0)) := snd_iconst (n := 0) (z := 0) d_R_add_37 (by decide) (by unfold jrg; omega)
theorem g_R_add_38 : jSnd 91 38 (o_bin 39 f_add) := snd_iadd d_R_add_38
theorem g_R_add_39 : jSnd 91 39 (o_iload 40 3) := snd_iload_n d_R_add_39 rfl
theorem g_R_add_40 : jSnd 91 40 (o_iast 41) := snd_iast d_R_add_40
theorem g_R_add_41 : jSnd 91 41 (o_aload 42 0) := snd_aload_n d_R_add_41 rfl
theorem g_R_add_42 : jSnd 91 42 (o_getR 45 11 (1)) := snd_getR (ci := 1) (k := 1) d_R_add_42 rfl tm_in1 (by decide) wd_402 rfl
theorem g_R_add_45 : jSnd 91 45 (o_iload 47 8) := snd_iload d_R_add_45
theorem g_R_add_47 : jSnd 91 47 (o_push 48 (1)) := snd_iconst (n := 1) (z := 1) d_R_add_47 (by decide) (by unfold jrg; omega)
theorem g_R_add_48 : jSnd 91 48 (o_bin 49 f_add) := snd_iadd d_R_add_48
theorem g_R_add_49 : jSnd 91 49 (o_iload 50 1) := snd_iload_n d_R_add_49 rfl
theorem g_R_add_50 : jSnd 91 50 (o_iast 51) := snd_iast d_R_add_50
theorem g_R_add_51 : jSnd 91 51 (o_aload 52 0) := snd_aload_n d_R_add_51 rfl
theorem g_R_add_52 : jSnd 91 52 (o_getR 55 11 (1)) := snd_getR (ci := 1) (k := 1) d_R_add_52 rfl tm_in1 (by decide) wd_402 rfl
theorem g_R_add_55 : jSnd 91 55 (o_iload 57 8) := snd_iload d_R_add_55
theorem g_R_add_57 : jSnd 91 57 (o_push 58 (2)) := snd_iconst (n := 2) (z := 2) d_R_add_57 (by decide) (by unfold jrg; omega)
theorem g_R_add_58 : jSnd 91 58 (o_bin 59 f_add) := snd_iadd d_R_add_58
theorem g_R_add_59 : jSnd 91 59 (o_iload 60 2) := snd_iload_n d_R_add_59 rfl
theorem g_R_add_60 : jSnd 91 60 (o_iast 61) := snd_iast d_R_add_60
theorem g_R_add_61 : jSnd 91 61 (o_aload 62 0) := snd_aload_n d_R_add_61 rfl
theorem g_R_add_62 : jSnd 91 62 (o_getR 65 11 (1)) := snd_getR (ci := 1) (k := 1) d_R_add_62 rfl tm_in1 (by decide) wd_402 rfl
theorem g_R_add_65 : jSnd 91 65 (o_iload 67 8) := snd_iload d_R_add_65
theorem g_R_add_67 : jSnd 91 67 (o_push 68 (3)) := snd_iconst (n := 3) (z := 3) d_R_add_67 (by decide) (by unfold jrg; omega)
theorem g_R_add_68 : jSnd 91 68 (o_bin 69 f_add) := snd_iadd d_R_add_68
theorem g_R_add_69 : jSnd 91 69 (o_iload 71 4) := snd_iload d_R_add_69
theorem g_R_add_71 : jSnd 91 71 (o_iast 72) := snd_iast d_R_add_71
theorem g_R_add_72 : jSnd 91 72 (o_aload 73 0) := snd_aload_n d_R_add_72 rfl
theorem g_R_add_73 : jSnd 91 73 (o_getR 76 11 (1)) := snd_getR (ci := 1) (k := 1) d_R_add_73 rfl tm_in1 (by decide) wd_402 rfl
theorem g_R_add_76 : jSnd 91 76 (o_iload 78 8) := snd_iload d_R_add_76
theorem g_R_add_78 : jSnd 91 78 (o_push 79 (4)) := snd_iconst (n := 4) (z := 4) d_R_add_78 (by decide) (by unfold jrg; omega)
theorem g_R_add_79 : jSnd 91 79 (o_bin 80 f_add) := snd_iadd d_R_add_79
theorem g_R_add_80 : jSnd 91 80 (o_iload 82 5) := snd_iload d_R_add_80
theorem g_R_add_82 : jSnd 91 82 (o_iast 83) := snd_iast d_R_add_82
theorem g_R_add_83 : jSnd 91 83 (o_aload 84 0) := snd_aload_n d_R_add_83 rfl
theorem g_R_add_84 : jSnd 91 84 (o_getR 87 11 (1)) := snd_getR (ci := 1) (k := 1) d_R_add_84 rfl tm_in1 (by decide) wd_402 rfl
theorem g_R_add_87 : jSnd 91 87 (o_iload 89 8) := snd_iload d_R_add_87
theorem g_R_add_89 : jSnd 91 89 (o_push 90 (5)) := snd_iconst (n := 5) (z := 5) d_R_add_89 (by decide) (by unfold jrg; omega)
theorem g_R_add_90 : jSnd 91 90 (o_bin 91 f_add) := snd_iadd d_R_add_90
theorem g_R_add_91 : jSnd 91 91 (o_iload 93 6) := snd_iload d_R_add_91
theorem g_R_add_93 : jSnd 91 93 (o_iast 94) := snd_iast d_R_add_93
theorem g_R_add_94 : jSnd 91 94 (o_aload 95 0) := snd_aload_n d_R_add_94 rfl
theorem g_R_add_95 : jSnd 91 95 (o_getR 98 11 (1)) := snd_getR (ci := 1) (k := 1) d_R_add_95 rfl tm_in1 (by decide) wd_402 rfl
theorem g_R_add_98 : jSnd 91 98 (o_iload 100 8) := snd_iload d_R_add_98
theorem g_R_add_100 : jSnd 91 100 (o_push 102 (6)) := snd_bipush (n := 6) (z := 6) d_R_add_100 (by decide) (by unfold jrg; omega)
theorem g_R_add_102 : jSnd 91 102 (o_bin 103 f_add) := snd_iadd d_R_add_102
theorem g_R_add_103 : jSnd 91 103 (o_iload 105 7) := snd_iload d_R_add_103
theorem g_R_add_105 : jSnd 91 105 (o_iast 106) := snd_iast d_R_add_105
theorem g_R_add_106 : jSnd 91 106 (o_aload 107 0) := snd_aload_n d_R_add_106 rfl
theorem g_R_add_107 : jSnd 91 107 (o_aload 108 0) := snd_aload_n d_R_add_107 rfl
theorem g_R_add_108 : jSnd 91 108 (o_getI 111 11 (0)) := snd_getI (ci := 1) (k := 0) d_R_add_108 rfl tm_in1 (by decide) wd_406 rfl
theorem g_R_add_111 : jSnd 91 111 (o_call 114 93 2 3 11 true) := snd_callV (ci := 1) (n := 1) rfl d_R_add_111 (by decide) (by decide) (by decide) wc_93 wd_409 wd_410 wd_411 wd_122 (by decide +kernel) (by decide) (by decide)
theorem g_R_add_114 : jSnd 91 114 (o_iload 115 3) := snd_iload_n d_R_add_114 rfl
theorem g_R_add_115 : jSnd 91 115 (o_if_ne 118 128) := snd_if_ne d_R_add_115 (by decide)
theorem g_R_add_118 : jSnd 91 118 (o_aload 119 0) := snd_aload_n d_R_add_118 rfl
theorem g_R_add_119 : jSnd 91 119 (o_aload 120 0) := snd_aload_n d_R_add_119 rfl
theorem g_R_add_120 : jSnd 91 120 (o_getI 123 11 (0)) := snd_getI (ci := 1) (k := 0) d_R_add_120 rfl tm_in1 (by decide) wd_406 rfl
theorem g_R_add_123 : jSnd 91 123 (o_iload 125 6) := snd_iload d_R_add_123
theorem g_R_add_125 : jSnd 91 125 (o_call 128 94 3 5 11 true) := snd_callV (ci := 1) (n := 2) rfl d_R_add_125 (by decide) (by decide) (by decide) wc_94 wd_412 wd_413 wd_414 wd_122 (by decide +kernel) (by decide) (by decide)
theorem g_R_add_128 : jSnd 91 128 (o_iload 129 3) := snd_iload_n d_R_add_128 rfl
theorem g_R_add_129 : jSnd 91 129 (o_push 130 (5)) := snd_iconst (n := 5) (z := 5) d_R_add_129 (by decide) (by unfold jrg; omega)
theorem g_R_add_130 : jSnd 91 130 (o_ic_ne 133 153) := snd_ic_ne d_R_add_130 (by decide)
theorem g_R_add_133 : jSnd 91 133 (o_aload 134 0) := snd_aload_n d_R_add_133 rfl
theorem g_R_add_134 : jSnd 91 134 (o_iload 136 6) := snd_iload d_R_add_134
theorem g_R_add_136 : jSnd 91 136 (o_call 139 85 2 2 11 false) := snd_callV (ci := 1) (n := 1) rfl d_R_add_136 (by decide) (by decide) (by decide) wc_85 wd_407 wd_164 wd_165 wd_122 (by decide +kernel) (by decide) (by decide)
theorem g_R_add_139 : jSnd 91 139 (o_if_eq 142 153) := snd_if_eq d_R_add_139 (by decide)
theorem g_R_add_142 : jSnd 91 142 (o_aload 143 0) := snd_aload_n d_R_add_142 rfl
theorem g_R_add_143 : jSnd 91 143 (o_getR 146 11 (2)) := snd_getR (ci := 1) (k := 2) d_R_add_143 rfl tm_in1 (by decide) wd_403 rfl
theorem g_R_add_146 : jSnd 91 146 (o_iload 148 6) := snd_iload d_R_add_146
theorem g_R_add_148 : jSnd 91 148 (o_aload 149 0) := snd_aload_n d_R_add_148 rfl
theorem g_R_add_149 : jSnd 91 149 (o_getI 152 11 (0)) := snd_getI (ci := 1) (k := 0) d_R_add_149 rfl tm_in1 (by decide) wd_406 rfl
theorem g_R_add_152 : jSnd 91 152 (o_iast 153) := snd_iast d_R_add_152
theorem g_R_add_153 : jSnd 91 153 (o_aload 154 0) := snd_aload_n d_R_add_153 rfl
theorem g_R_add_154 : jSnd 91 154 (o_getI 157 11 (0)) := snd_getI (ci := 1) (k := 0) d_R_add_154 rfl tm_in1 (by decide) wd_406 rfl
theorem g_R_add_157 : jSnd 91 157 (o_iret) := snd_iret d_R_add_157 rfl
set_option maxRecDepth 100000 in
theorem ga_R_add : jAll 91 0 tmp_R_add := ⟨g_R_add_0, g_R_add_1, snd_bad _ _, snd_bad _ _, g_R_add_4, snd_bad _ _, snd_bad _ _, g_R_add_7, snd_bad _ _, snd_bad _ _, g_R_add_10, g_R_add_11, g_R_add_12, g_R_add_13, g_R_add_14, snd_bad _ _, snd_bad _ _, g_R_add_17, g_R_add_18, g_R_add_19, snd_bad _ _, snd_bad _ _, g_R_add_22, g_R_add_23, snd_bad _ _, snd_bad _ _, g_R_add_26, snd_bad _ _, g_R_add_28, g_R_add_29, snd_bad _ _, g_R_add_31, g_R_add_32, snd_bad _ _, snd_bad _ _, g_R_add_35, snd_bad _ _, g_R_add_37, g_R_add_38, g_R_add_39, g_R_add_40, g_R_add_41, g_R_add_42, snd_bad _ _, snd_bad _ _, g_R_add_45, snd_bad _ _, g_R_add_47, g_R_add_48, g_R_add_49, g_R_add_50, g_R_add_51, g_R_add_52, snd_bad _ _, snd_bad _ _, g_R_add_55, snd_bad _ _, g_R_add_57, g_R_add_58, g_R_add_59, g_R_add_60, g_R_add_61, g_R_add_62, snd_bad _ _, snd_bad _ _, g_R_add_65, snd_bad _ _, g_R_add_67, g_R_add_68, g_R_add_69, snd_bad _ _, g_R_add_71, g_R_add_72, g_R_add_73, snd_bad _ _, snd_bad _ _, g_R_add_76, snd_bad _ _, g_R_add_78, g_R_add_79, g_R_add_80, snd_bad _ _, g_R_add_82, g_R_add_83, g_R_add_84, snd_bad _ _, snd_bad _ _, g_R_add_87, snd_bad _ _, g_R_add_89, g_R_add_90, g_R_add_91, snd_bad _ _, g_R_add_93, g_R_add_94, g_R_add_95, snd_bad _ _, snd_bad _ _, g_R_add_98, snd_bad _ _, g_R_add_100, snd_bad _ _, g_R_add_102, g_R_add_103, snd_bad _ _, g_R_add_105, g_R_add_106, g_R_add_107, g_R_add_108, snd_bad _ _, snd_bad _ _, g_R_add_111, snd_bad _ _, snd_bad _ _, g_R_add_114, g_R_add_115, snd_bad _ _, snd_bad _ _, g_R_add_118, g_R_add_119, g_R_add_120, snd_bad _ _, snd_bad _ _, g_R_add_123, snd_bad _ _, g_R_add_125, snd_bad _ _, snd_bad _ _, g_R_add_128, g_R_add_129, g_R_add_130, snd_bad _ _, snd_bad _ _, g_R_add_133, g_R_add_134, snd_bad _ _, g_R_add_136, snd_bad _ _, snd_bad _ _, g_R_add_139, snd_bad _ _, snd_bad _ _, g_R_add_142, g_R_add_143, snd_bad _ _, snd_bad _ _, g_R_add_146, snd_bad _ _, g_R_add_148, g_R_add_149, snd_bad _ _, snd_bad _ _, g_R_add_152, g_R_add_153, g_R_add_154, snd_bad _ _, snd_bad _ _, g_R_add_157, trivial⟩
theorem d_R_isLater_0 : decode (tm_c 92) 0 = .ok (.aload_n 0, 1) := by decide +kernel
theorem d_R_isLater_1 : decode (tm_c 92) 1 = .ok (.iload_n 1, 1) := by decide +kernel
theorem d_R_isLater_2 : decode (tm_c 92) 2 = .ok (.iconst (2), 1) := by decide +kernel
theorem d_R_isLater_3 : decode (tm_c 92) 3 = .ok (.invokevirtual 43, 3) := by decide +kernel
theorem d_R_isLater_6 : decode (tm_c 92) 6 = .ok (.istore_n 3, 1) := by decide +kernel
theorem d_R_isLater_7 : decode (tm_c 92) 7 = .ok (.aload_n 0, 1) := by decide +kernel
theorem d_R_isLater_8 : decode (tm_c 92) 8 = .ok (.iload_n 2, 1) := by decide +kernel
theorem d_R_isLater_9 : decode (tm_c 92) 9 = .ok (.iconst (2), 1) := by decide +kernel
theorem d_R_isLater_10 : decode (tm_c 92) 10 = .ok (.invokevirtual 43, 3) := by decide +kernel
theorem d_R_isLater_13 : decode (tm_c 92) 13 = .ok (.istore 4, 2) := by decide +kernel
theorem d_R_isLater_15 : decode (tm_c 92) 15 = .ok (.iload_n 3, 1) := by decide +kernel
theorem d_R_isLater_16 : decode (tm_c 92) 16 = .ok (.iload 4, 2) := by decide +kernel
theorem d_R_isLater_18 : decode (tm_c 92) 18 = .ok (.if_icmp .gt (24), 3) := by decide +kernel
theorem d_R_isLater_21 : decode (tm_c 92) 21 = .ok (.iload_n 3, 1) := by decide +kernel
theorem d_R_isLater_22 : decode (tm_c 92) 22 = .ok (.iload 4, 2) := by decide +kernel
theorem d_R_isLater_24 : decode (tm_c 92) 24 = .ok (.if_icmp .ne (22), 3) := by decide +kernel
theorem d_R_isLater_27 : decode (tm_c 92) 27 = .ok (.aload_n 0, 1) := by decide +kernel
theorem d_R_isLater_28 : decode (tm_c 92) 28 = .ok (.iload_n 1, 1) := by decide +kernel
theorem d_R_isLater_29 : decode (tm_c 92) 29 = .ok (.iconst (1), 1) := by decide +kernel
theorem d_R_isLater_30 : decode (tm_c 92) 30 = .ok (.invokevirtual 43, 3) := by decide +kernel
theorem d_R_isLater_33 : decode (tm_c 92) 33 = .ok (.aload_n 0, 1) := by decide +kernel
theorem d_R_isLater_34 : decode (tm_c 92) 34 = .ok (.iload_n 2, 1) := by decide +kernel
theorem d_R_isLater_35 : decode (tm_c 92) 35 = .ok (.iconst (1), 1) := by decide +kernel
theorem d_R_isLater_36 : decode (tm_c 92) 36 = .ok (.invokevirtual 43, 3) := by decide +kernel
theorem d_R_isLater_39 : decode (tm_c 92) 39 = .ok (.if_icmp .le (7), 3) := by decide +kernel
theorem d_R_isLater_42 : decode (tm_c 92) 42 = .ok (.iconst (1), 1) := by decide +kernel
theorem d_R_isLater_43 : decode (tm_c 92) 43 = .ok (.goto (4), 3) := by decide +kernel
theorem d_R_isLater_46 : decode (tm_c 92) 46 = .ok (.iconst (0), 1) := by decide +kernel
theorem d_R_isLater_47 : decode (tm_c 92) 47 = .ok (.ireturn, 1) := by decide +kernel
theorem g_R_isLater_0 : jSnd 92 0 (o_aload 1 0) := snd_aload_n d_R_isLater_0 rfl
theorem g_R_isLater_1 : jSnd 92 1 (o_iload 2 1) := snd_iload_n d_R_isLater_1 rfl
theorem g_R_isLater_2 : jSnd 92 2 (o_push 3 (2)) := snd_iconst (n := 2) (z := 2) d_R_isLater_2 (by decide) (by unfold jrg; omega)
theorem g_R_isLater_3 : jSnd 92 3 (o_call 6 86 3 3 11 false) := snd_callV (ci := 1) (n := 2) rfl d_R_isLater_3 (by decide) (by decide) (by decide) wc_86 wd_415 wd_167 wd_168 wd_122 (by decide +kernel) (by decide) (by decide)
theorem g_R_isLater_6 : jSnd 92 6 (o_istore 7 3) := snd_istore_n d_R_isLater_6 rfl (by decide)
theorem g_R_isLater_7 : jSnd 92 7 (o_aload 8 0) := snd_aload_n d_R_isLater_7 rfl
theorem g_R_isLater_8 : jSnd 92 8 (o_iload 9 2) := snd_iload_n d_R_isLater_8 rfl
theorem g_R_isLater_9 : jSnd 92 9 (o_push 10 (2)) := snd_iconst (n := 2) (z := 2) d_R_isLater_9 (by decide) (by unfold jrg; omega)
theorem g_R_isLater_10 : jSnd 92 10 (o_call 13 86 3 3 11 false) := snd_callV (ci := 1) (n := 2) rfl d_R_isLater_10 (by decide) (by decide) (by decide) wc_86 wd_415 wd_167 wd_168 wd_122 (by decide +kernel) (by decide) (by decide)
theorem g_R_isLater_13 : jSnd 92 13 (o_istore 15 4) := snd_istore d_R_isLater_13 (by decide)
theorem g_R_isLater_15 : jSnd 92 15 (o_iload 16 3) := snd_iload_n d_R_isLater_15 rfl
theorem g_R_isLater_16 : jSnd 92 16 (o_iload 18 4) := snd_iload d_R_isLater_16
theorem g_R_isLater_18 : jSnd 92 18 (o_ic_gt 21 42) := snd_ic_gt d_R_isLater_18 (by decide)
theorem g_R_isLater_21 : jSnd 92 21 (o_iload 22 3) := snd_iload_n d_R_isLater_21 rfl
theorem g_R_isLater_22 : jSnd 92 22 (o_iload 24 4) := snd_iload d_R_isLater_22
theorem g_R_isLater_24 : jSnd 92 24 (o_ic_ne 27 46) := snd_ic_ne d_R_isLater_24 (by decide)
theorem g_R_isLater_27 : jSnd 92 27 (o_aload 28 0) := snd_aload_n d_R_isLater_27 rfl
theorem g_R_isLater_28 : jSnd 92 28 (o_iload 29 1) := snd_iload_n d_R_isLater_28 rfl
theorem g_R_isLater_29 : jSnd 92 29 (o_push 30 (1)) := snd_iconst (n := 1) (z := 1) d_R_isLater_29 (by decide) (by unfold jrg; omega)
theorem g_R_isLater_30 : jSnd 92 30 (o_call 33 86 3 3 11 false) := snd_callV (ci := 1) (n := 2) rfl d_R_isLater_30 (by decide) (by decide) (by decide) wc_86 wd_415 wd_167 wd_168 wd_122 (by decide +kernel) (by decide) (by decide)
theorem g_R_isLater_33 : jSnd 92 33 (o_aload 34 0) := snd_aload_n d_R_isLater_33 rfl
theorem g_R_isLater_34 : jSnd 92 34 (o_iload 35 2) := snd_iload_n d_R_isLater_34 rfl
theorem g_R_isLater_35 : jSnd 92 35 (o_push 36 (1)) := snd_iconst (n := 1) (z := 1) d_R_isLater_35 (by decide) (by unfold jrg; omega)
theorem g_R_isLater_36 : jSnd 92 36 (o_call 39 86 3 3 11 false) := snd_callV (ci := 1) (n := 2) rfl d_R_isLater_36 (by decide) (by decide) (by decide) wc_86 wd_415 wd_167 wd_168 wd_122 (by decide +kernel) (by decide) (by decide)
theorem g_R_isLater_39 : jSnd 92 39 (o_ic_le 42 46) := snd_ic_le d_R_isLater_39 (by decide)
theorem g_R_isLater_42 : jSnd 92 42 (o_push 43 (1)) := snd_iconst (n := 1) (z := 1) d_R_isLater_42 (by decide) (by unfold jrg; omega)
theorem g_R_isLater_43 : jSnd 92 43 (o_goto 47) := snd_goto d_R_isLater_43 (by decide)
theorem g_R_isLater_46 : jSnd 92 46 (o_push 47 (0)) := snd_iconst (n := 0) (z := 0) d_R_isLater_46 (by decide) (by unfold jrg; omega)
theorem g_R_isLater_47 : jSnd 92 47 (o_zret) := snd_zret d_R_isLater_47 rfl
set_option maxRecDepth 100000 in
theorem ga_R_isLater : jAll 92 0 tmp_R_isLater := ⟨g_R_isLater_0, g_R_isLater_1, g_R_isLater_2, g_R_isLater_3, snd_bad _ _, snd_bad _ _, g_R_isLater_6, g_R_isLater_7, g_R_isLater_8, g_R_isLater_9, g_R_isLater_10, snd_bad _ _, snd_bad _ _, g_R_isLater_13, snd_bad _ _, g_R_isLater_15, g_R_isLater_16, snd_bad _ _, g_R_isLater_18, snd_bad _ _, snd_bad _ _, g_R_isLater_21, g_R_isLater_22, snd_bad _ _, g_R_isLater_24, snd_bad _ _, snd_bad _ _, g_R_isLater_27, g_R_isLater_28, g_R_isLater_29, g_R_isLater_30, snd_bad _ _, snd_bad _ _, g_R_isLater_33, g_R_isLater_34, g_R_isLater_35, g_R_isLater_36, snd_bad _ _, snd_bad _ _, g_R_isLater_39, snd_bad _ _, snd_bad _ _, g_R_isLater_42, g_R_isLater_43, snd_bad _ _, snd_bad _ _, g_R_isLater_46, g_R_isLater_47, trivial⟩
theorem d_R_fileInOrder_0 : decode (tm_c 93) 0 = .ok (.aload_n 0, 1) := by decide +kernel
theorem d_R_fileInOrder_1 : decode (tm_c 93) 1 = .ok (.getfield 24, 3) := by decide +kernel
theorem d_R_fileInOrder_4 : decode (tm_c 93) 4 = .ok (.iconst (1), 1) := by decide +kernel
theorem d_R_fileInOrder_5 : decode (tm_c 93) 5 = .ok (.isub, 1) := by decide +kernel
theorem d_R_fileInOrder_6 : decode (tm_c 93) 6 = .ok (.istore_n 2, 1) := by decide +kernel
theorem d_R_fileInOrder_7 : decode (tm_c 93) 7 = .ok (.iload_n 2, 1) := by decide +kernel
theorem d_R_fileInOrder_8 : decode (tm_c 93) 8 = .ok (.ifCond .le (39), 3) := by decide +kernel
theorem d_R_fileInOrder_11 : decode (tm_c 93) 11 = .ok (.aload_n 0, 1) := by decide +kernel
theorem d_R_fileInOrder_12 : decode (tm_c 93) 12 = .ok (.aload_n 0, 1) := by decide +kernel
theorem d_R_fileInOrder_13 : decode (tm_c 93) 13 = .ok (.getfield 18, 3) := by decide +kernel
theorem d_R_fileInOrder_16 : decode (tm_c 93) 16 = .ok (.iload_n 2, 1) := by decide +kernel
theorem d_R_fileInOrder_17 : decode (tm_c 93) 17 = .ok (.iconst (1), 1) := by decide +kernel
theorem d_R_fileInOrder_18 : decode (tm_c 93) 18 = .ok (.isub, 1) := by decide +kernel
theorem d_R_fileInOrder_19 : decode (tm_c 93) 19 = .ok (.iaload, 1) := by decide +kernel
theorem d_R_fileInOrder_20 : decode (tm_c 93) 20 = .ok (.iload_n 1, 1) := by decide +kernel
theorem d_R_fileInOrder_21 : decode (tm_c 93) 21 = .ok (.invokevirtual 47, 3) := by decide +kernel
theorem d_R_fileInOrder_24 : decode (tm_c 93) 24 = .ok (.ifCond .eq (23), 3) := by decide +kernel
theorem d_R_fileInOrder_27 : decode (tm_c 93) 27 = .ok (.aload_n 0, 1) := by decide +kernel
theorem d_R_fileInOrder_28 : decode (tm_c 93) 28 = .ok (.getfield 18, 3) := by decide +kernel
theorem d_R_fileInOrder_31 : decode (tm_c 93) 31 = .ok (.iload_n 2, 1) := by decide +kernel
theorem d_R_fileInOrder_32 : decode (tm_c 93) 32 = .ok (.aload_n 0, 1) := by decide +kernel
theorem d_R_fileInOrder_33 : decode (tm_c 93) 33 = .ok (.getfield 18, 3) := by decide +kernel
theorem d_R_fileInOrder_36 : decode (tm_c 93) 36 = .ok (.iload_n 2, 1) := by decide +kernel
theorem d_R_fileInOrder_37 : decode (tm_c 93) 37 = .ok (.iconst (1), 1) := by decide +kernel
theorem d_R_fileInOrder_38 : decode (tm_c 93) 38 = .ok (.isub, 1) := by decide +kernel
theorem d_R_fileInOrder_39 : decode (tm_c 93) 39 = .ok (.iaload, 1) := by decide +kernel
theorem d_R_fileInOrder_40 : decode (tm_c 93) 40 = .ok (.iastore, 1) := by decide +kernel
theorem d_R_fileInOrder_41 : decode (tm_c 93) 41 = .ok (.iinc 2 (-1), 3) := by decide +kernel
theorem d_R_fileInOrder_44 : decode (tm_c 93) 44 = .ok (.goto (-37), 3) := by decide +kernel
theorem d_R_fileInOrder_47 : decode (tm_c 93) 47 = .ok (.aload_n 0, 1) := by decide +kernel
theorem d_R_fileInOrder_48 : decode (tm_c 93) 48 = .ok (.getfield 18, 3) := by decide +kernel
theorem d_R_fileInOrder_51 : decode (tm_c 93) 51 = .ok (.iload_n 2, 1) := by decide +kernel
theorem d_R_fileInOrder_52 : decode (tm_c 93) 52 = .ok (.iload_n 1, 1) := by decide +kernel
theorem d_R_fileInOrder_53 : decode (tm_c 93) 53 = .ok (.iastore, 1) := by decide +kernel
theorem d_R_fileInOrder_54 : decode (tm_c 93) 54 = .ok (.return_, 1) := by decide +kernel
theorem g_R_fileInOrder_0 : jSnd 93 0 (o_aload 1 0) := snd_aload_n d_R_fileInOrder_0 rfl
theorem g_R_fileInOrder_1 : jSnd 93 1 (o_getI 4 11 (0)) := snd_getI (ci := 1) (k := 0) d_R_fileInOrder_1 rfl tm_in1 (by decide) wd_406 rfl
theorem g_R_fileInOrder_4 : jSnd 93 4 (o_push 5 (1)) := snd_iconst (n := 1) (z := 1) d_R_fileInOrder_4 (by decide) (by unfold jrg; omega)
theorem g_R_fileInOrder_5 : jSnd 93 5 (o_bin 6 f_sub) := snd_isub d_R_fileInOrder_5
theorem g_R_fileInOrder_6 : jSnd 93 6 (o_istore 7 2) := snd_istore_n d_R_fileInOrder_6 rfl (by decide)
theorem g_R_fileInOrder_7 : jSnd 93 7 (o_iload 8 2) := snd_iload_n d_R_fileInOrder_7 rfl
theorem g_R_fileInOrder_8 : jSnd 93 8 (o_if_le 11 47) := snd_if_le d_R_fileInOrder_8 (by decide)
theorem g_R_fileInOrder_11 : jSnd 93 11 (o_aload 12 0) := snd_aload_n d_R_fileInOrder_11 rfl
theorem g_R_fileInOrder_12 : jSnd 93 12 (o_aload 13 0) := snd_aload_n d_R_fileInOrder_12 rfl
theorem g_R_fileInOrder_13 : jSnd 93 13 (o_getR 16 11 (3)) := snd_getR (ci := 1) (k := 3) d_R_fileInOrder_13 rfl tm_in1 (by decide) wd_404 rfl
theorem g_R_fileInOrder_16 : jSnd 93 16 (o_iload 17 2) := snd_iload_n d_R_fileInOrder_16 rfl
theorem g_R_fileInOrder_17 : jSnd 93 17 (o_push 18 (1)) := snd_iconst (n := 1) (z := 1) d_R_fileInOrder_17 (by decide) (by unfold jrg; omega)
theorem g_R_fileInOrder_18 : jSnd 93 18 (o_bin 19 f_sub) := snd_isub d_R_fileInOrder_18
theorem g_R_fileInOrder_19 : jSnd 93 19 (o_nald 20 1) := snd_iald d_R_fileInOrder_19
theorem g_R_fileInOrder_20 : jSnd 93 20 (o_iload 21 1) := snd_iload_n d_R_fileInOrder_20 rfl
theorem g_R_fileInOrder_21 : jSnd 93 21 (o_call 24 92 3 5 11 false) := snd_callV (ci := 1) (n := 2) rfl d_R_fileInOrder_21 (by decide) (by decide) (by decide) wc_92 wd_416 wd_417 wd_418 wd_122 (by decide +kernel) (by decide) (by decide)
theorem g_R_fileInOrder_24 : jSnd 93 24 (o_if_eq 27 47) := snd_if_eq d_R_fileInOrder_24 (by decide)
theorem g_R_fileInOrder_27 : jSnd 93 27 (o_aload 28 0) := snd_aload_n d_R_fileInOrder_27 rfl
theorem g_R_fileInOrder_28 : jSnd 93 28 (o_getR 31 11 (3)) := snd_getR (ci := 1) (k := 3) d_R_fileInOrder_28 rfl tm_in1 (by decide) wd_404 rfl
theorem g_R_fileInOrder_31 : jSnd 93 31 (o_iload 32 2) := snd_iload_n d_R_fileInOrder_31 rfl
theorem g_R_fileInOrder_32 : jSnd 93 32 (o_aload 33 0) := snd_aload_n d_R_fileInOrder_32 rfl
theorem g_R_fileInOrder_33 : jSnd 93 33 (o_getR 36 11 (3)) := snd_getR (ci := 1) (k := 3) d_R_fileInOrder_33 rfl tm_in1 (by decide) wd_404 rfl
theorem g_R_fileInOrder_36 : jSnd 93 36 (o_iload 37 2) := snd_iload_n d_R_fileInOrder_36 rfl
theorem g_R_fileInOrder_37 : jSnd 93 37 (o_push 38 (1)) := snd_iconst (n := 1) (z := 1) d_R_fileInOrder_37 (by decide) (by unfold jrg; omega)
theorem g_R_fileInOrder_38 : jSnd 93 38 (o_bin 39 f_sub) := snd_isub d_R_fileInOrder_38
theorem g_R_fileInOrder_39 : jSnd 93 39 (o_nald 40 1) := snd_iald d_R_fileInOrder_39
theorem g_R_fileInOrder_40 : jSnd 93 40 (o_iast 41) := snd_iast d_R_fileInOrder_40
theorem g_R_fileInOrder_41 : jSnd 93 41 (o_iinc 44 2 (-1)) := snd_iinc d_R_fileInOrder_41 (by decide)
theorem g_R_fileInOrder_44 : jSnd 93 44 (o_goto 7) := snd_goto d_R_fileInOrder_44 (by decide)
theorem g_R_fileInOrder_47 : jSnd 93 47 (o_aload 48 0) := snd_aload_n d_R_fileInOrder_47 rfl
theorem g_R_fileInOrder_48 : jSnd 93 48 (o_getR 51 11 (3)) := snd_getR (ci := 1) (k := 3) d_R_fileInOrder_48 rfl tm_in1 (by decide) wd_404 rfl
theorem g_R_fileInOrder_51 : jSnd 93 51 (o_iload 52 2) := snd_iload_n d_R_fileInOrder_51 rfl
theorem g_R_fileInOrder_52 : jSnd 93 52 (o_iload 53 1) := snd_iload_n d_R_fileInOrder_52 rfl
theorem g_R_fileInOrder_53 : jSnd 93 53 (o_iast 54) := snd_iast d_R_fileInOrder_53
theorem g_R_fileInOrder_54 : jSnd 93 54 (o_vret) := snd_vret d_R_fileInOrder_54 rfl
set_option maxRecDepth 100000 in
theorem ga_R_fileInOrder : jAll 93 0 tmp_R_fileInOrder := ⟨g_R_fileInOrder_0, g_R_fileInOrder_1, snd_bad _ _, snd_bad _ _, g_R_fileInOrder_4, g_R_fileInOrder_5, g_R_fileInOrder_6, g_R_fileInOrder_7, g_R_fileInOrder_8, snd_bad _ _, snd_bad _ _, g_R_fileInOrder_11, g_R_fileInOrder_12, g_R_fileInOrder_13, snd_bad _ _, snd_bad _ _, g_R_fileInOrder_16, g_R_fileInOrder_17, g_R_fileInOrder_18, g_R_fileInOrder_19, g_R_fileInOrder_20, g_R_fileInOrder_21, snd_bad _ _, snd_bad _ _, g_R_fileInOrder_24, snd_bad _ _, snd_bad _ _, g_R_fileInOrder_27, g_R_fileInOrder_28, snd_bad _ _, snd_bad _ _, g_R_fileInOrder_31, g_R_fileInOrder_32, g_R_fileInOrder_33, snd_bad _ _, snd_bad _ _, g_R_fileInOrder_36, g_R_fileInOrder_37, g_R_fileInOrder_38, g_R_fileInOrder_39, g_R_fileInOrder_40, g_R_fileInOrder_41, snd_bad _ _, snd_bad _ _, g_R_fileInOrder_44, snd_bad _ _, snd_bad _ _, g_R_fileInOrder_47, g_R_fileInOrder_48, snd_bad _ _, snd_bad _ _, g_R_fileInOrder_51, g_R_fileInOrder_52, g_R_fileInOrder_53, g_R_fileInOrder_54, trivial⟩
theorem d_R_fileInPlaces_0 : decode (tm_c 94) 0 = .ok (.aload_n 0, 1) := by decide +kernel
theorem d_R_fileInPlaces_1 : decode (tm_c 94) 1 = .ok (.iload_n 2, 1) := by decide +kernel
theorem d_R_fileInPlaces_2 : decode (tm_c 94) 2 = .ok (.invokevirtual 51, 3) := by decide +kernel
theorem d_R_fileInPlaces_5 : decode (tm_c 94) 5 = .ok (.istore_n 3, 1) := by decide +kernel
theorem d_R_fileInPlaces_6 : decode (tm_c 94) 6 = .ok (.iload_n 3, 1) := by decide +kernel
theorem d_R_fileInPlaces_7 : decode (tm_c 94) 7 = .ok (.aload_n 0, 1) := by decide +kernel
theorem d_R_fileInPlaces_8 : decode (tm_c 94) 8 = .ok (.getfield 32, 3) := by decide +kernel
theorem d_R_fileInPlaces_11 : decode (tm_c 94) 11 = .ok (.if_icmp .ge (23), 3) := by decide +kernel
theorem d_R_fileInPlaces_14 : decode (tm_c 94) 14 = .ok (.aload_n 0, 1) := by decide +kernel
theorem d_R_fileInPlaces_15 : decode (tm_c 94) 15 = .ok (.aload_n 0, 1) := by decide +kernel
theorem d_R_fileInPlaces_16 : decode (tm_c 94) 16 = .ok (.getfield 21, 3) := by decide +kernel
theorem d_R_fileInPlaces_19 : decode (tm_c 94) 19 = .ok (.iload_n 3, 1) := by decide +kernel
theorem d_R_fileInPlaces_20 : decode (tm_c 94) 20 = .ok (.iaload, 1) := by decide +kernel
theorem d_R_fileInPlaces_21 : decode (tm_c 94) 21 = .ok (.iload_n 1, 1) := by decide +kernel
theorem d_R_fileInPlaces_22 : decode (tm_c 94) 22 = .ok (.invokevirtual 47, 3) := by decide +kernel
theorem d_R_fileInPlaces_25 : decode (tm_c 94) 25 = .ok (.ifCond .eq (9), 3) := by decide +kernel
theorem d_R_fileInPlaces_28 : decode (tm_c 94) 28 = .ok (.iinc 3 (1), 3) := by decide +kernel
theorem d_R_fileInPlaces_31 : decode (tm_c 94) 31 = .ok (.goto (-25), 3) := by decide +kernel
theorem d_R_fileInPlaces_34 : decode (tm_c 94) 34 = .ok (.aload_n 0, 1) := by decide +kernel
theorem d_R_fileInPlaces_35 : decode (tm_c 94) 35 = .ok (.getfield 32, 3) := by decide +kernel
theorem d_R_fileInPlaces_38 : decode (tm_c 94) 38 = .ok (.istore 4, 2) := by decide +kernel
theorem d_R_fileInPlaces_40 : decode (tm_c 94) 40 = .ok (.iload 4, 2) := by decide +kernel
theorem d_R_fileInPlaces_42 : decode (tm_c 94) 42 = .ok (.iload_n 3, 1) := by decide +kernel
theorem d_R_fileInPlaces_43 : decode (tm_c 94) 43 = .ok (.if_icmp .le (25), 3) := by decide +kernel
theorem d_R_fileInPlaces_46 : decode (tm_c 94) 46 = .ok (.aload_n 0, 1) := by decide +kernel
theorem d_R_fileInPlaces_47 : decode (tm_c 94) 47 = .ok (.getfield 21, 3) := by decide +kernel
theorem d_R_fileInPlaces_50 : decode (tm_c 94) 50 = .ok (.iload 4, 2) := by decide +kernel
theorem d_R_fileInPlaces_52 : decode (tm_c 94) 52 = .ok (.aload_n 0, 1) := by decide +kernel
theorem d_R_fileInPlaces_53 : decode (tm_c 94) 53 = .ok (.getfield 21, 3) := by decide +kernel
theorem d_R_fileInPlaces_56 : decode (tm_c 94) 56 = .ok (.iload 4, 2) := by decide +kernel
theorem d_R_fileInPlaces_58 : decode (tm_c 94) 58 = .ok (.iconst (1), 1) := by decide +kernel
theorem d_R_fileInPlaces_59 : decode (tm_c 94) 59 = .ok (.isub, 1) := by decide +kernel
theorem d_R_fileInPlaces_60 : decode (tm_c 94) 60 = .ok (.iaload, 1) := by decide +kernel
theorem d_R_fileInPlaces_61 : decode (tm_c 94) 61 = .ok (.iastore, 1) := by decide +kernel
theorem d_R_fileInPlaces_62 : decode (tm_c 94) 62 = .ok (.iinc 4 (-1), 3) := by decide +kernel
theorem d_R_fileInPlaces_65 : decode (tm_c 94) 65 = .ok (.goto (-25), 3) := by decide +kernel
theorem d_R_fileInPlaces_68 : decode (tm_c 94) 68 = .ok (.aload_n 0, 1) := by decide +kernel
theorem d_R_fileInPlaces_69 : decode (tm_c 94) 69 = .ok (.getfield 21, 3) := by decide +kernel
theorem d_R_fileInPlaces_72 : decode (tm_c 94) 72 = .ok (.iload_n 3, 1) := by decide +kernel
theorem d_R_fileInPlaces_73 : decode (tm_c 94) 73 = .ok (.iload_n 1, 1) := by decide +kernel
theorem d_R_fileInPlaces_74 : decode (tm_c 94) 74 = .ok (.iastore, 1) := by decide +kernel
theorem d_R_fileInPlaces_75 : decode (tm_c 94) 75 = .ok (.aload_n 0, 1) := by decide +kernel
theorem d_R_fileInPlaces_76 : decode (tm_c 94) 76 = .ok (.dup, 1) := by decide +kernel
theorem d_R_fileInPlaces_77 : decode (tm_c 94) 77 = .ok (.getfield 32, 3) := by decide +kernel
theorem d_R_fileInPlaces_80 : decode (tm_c 94) 80 = .ok (.iconst (1), 1) := by decide +kernel
theorem d_R_fileInPlaces_81 : decode (tm_c 94) 81 = .ok (.iadd, 1) := by decide +kernel
theorem d_R_fileInPlaces_82 : decode (tm_c 94) 82 = .ok (.putfield 32, 3) := by decide +kernel
theorem d_R_fileInPlaces_85 : decode (tm_c 94) 85 = .ok (.return_, 1) := by decide +kernel
theorem g_R_fileInPlaces_0 : jSnd 94 0 (o_aload 1 0) := snd_aload_n d_R_fileInPlaces_0 rfl
theorem g_R_fileInPlaces_1 : jSnd 94 1 (o_iload 2 2) := snd_iload_n d_R_fileInPlaces_1 rfl
theorem g_R_fileInPlaces_2 : jSnd 94 2 (o_call 5 95 2 3 11 false) := snd_callV (ci := 1) (n := 1) rfl d_R_fileInPlaces_2 (by decide) (by decide) (by decide) wc_95 wd_419 wd_420 wd_421 wd_122 (by decide +kernel) (by decide) (by decide)
theorem g_R_fileInPlaces_5 : jSnd 94 5 (o_istore 6 3) := snd_istore_n d_R_fileInPlaces_5 rfl (by decide)
theorem g_R_fileInPlaces_6 : jSnd 94 6 (o_iload 7 3) := snd_iload_n d_R_fileInPlaces_6 rfl
theorem g_R_fileInPlaces_7 : jSnd 94 7 (o_aload 8 0) := snd_aload_n d_R_fileInPlaces_7 rfl
theorem g_R_fileInPlaces_8 : jSnd 94 8 (o_getI 11 11 (5)) := snd_getI (ci := 1) (k := 5) d_R_fileInPlaces_8 rfl tm_in1 (by decide) wd_408 rfl
theorem g_R_fileInPlaces_11 : jSnd 94 11 (o_ic_ge 14 34) := snd_ic_ge d_R_fileInPlaces_11 (by decide)
theorem g_R_fileInPlaces_14 : jSnd 94 14 (o_aload 15 0) := snd_aload_n d_R_fileInPlaces_14 rfl
theorem g_R_fileInPlaces_15 : jSnd 94 15 (o_aload 16 0) := snd_aload_n d_R_fileInPlaces_15 rfl
theorem g_R_fileInPlaces_16 : jSnd 94 16 (o_getR 19 11 (4)) := snd_getR (ci := 1) (k := 4) d_R_fileInPlaces_16 rfl tm_in1 (by decide) wd_405 rfl
theorem g_R_fileInPlaces_19 : jSnd 94 19 (o_iload 20 3) := snd_iload_n d_R_fileInPlaces_19 rfl
theorem g_R_fileInPlaces_20 : jSnd 94 20 (o_nald 21 1) := snd_iald d_R_fileInPlaces_20
theorem g_R_fileInPlaces_21 : jSnd 94 21 (o_iload 22 1) := snd_iload_n d_R_fileInPlaces_21 rfl
theorem g_R_fileInPlaces_22 : jSnd 94 22 (o_call 25 92 3 5 11 false) := snd_callV (ci := 1) (n := 2) rfl d_R_fileInPlaces_22 (by decide) (by decide) (by decide) wc_92 wd_416 wd_417 wd_418 wd_122 (by decide +kernel) (by decide) (by decide)
theorem g_R_fileInPlaces_25 : jSnd 94 25 (o_if_eq 28 34) := snd_if_eq d_R_fileInPlaces_25 (by decide)
theorem g_R_fileInPlaces_28 : jSnd 94 28 (o_iinc 31 3 (1)) := snd_iinc d_R_fileInPlaces_28 (by decide)
theorem g_R_fileInPlaces_31 : jSnd 94 31 (o_goto 6) := snd_goto d_R_fileInPlaces_31 (by decide)
theorem g_R_fileInPlaces_34 : jSnd 94 34 (o_aload 35 0) := snd_aload_n d_R_fileInPlaces_34 rfl
theorem g_R_fileInPlaces_35 : jSnd 94 35 (o_getI 38 11 (5)) := snd_getI (ci := 1) (k := 5) d_R_fileInPlaces_35 rfl tm_in1 (by decide) wd_408 rfl
theorem g_R_fileInPlaces_38 : jSnd 94 38 (o_istore 40 4) := snd_istore d_R_fileInPlaces_38 (by decide)
theorem g_R_fileInPlaces_40 : jSnd 94 40 (o_iload 42 4) := snd_iload d_R_fileInPlaces_40
theorem g_R_fileInPlaces_42 : jSnd 94 42 (o_iload 43 3) := snd_iload_n d_R_fileInPlaces_42 rfl
theorem g_R_fileInPlaces_43 : jSnd 94 43 (o_ic_le 46 68) := snd_ic_le d_R_fileInPlaces_43 (by decide)
theorem g_R_fileInPlaces_46 : jSnd 94 46 (o_aload 47 0) := snd_aload_n d_R_fileInPlaces_46 rfl
theorem g_R_fileInPlaces_47 : jSnd 94 47 (o_getR 50 11 (4)) := snd_getR (ci := 1) (k := 4) d_R_fileInPlaces_47 rfl tm_in1 (by decide) wd_405 rfl
theorem g_R_fileInPlaces_50 : jSnd 94 50 (o_iload 52 4) := snd_iload d_R_fileInPlaces_50
theorem g_R_fileInPlaces_52 : jSnd 94 52 (o_aload 53 0) := snd_aload_n d_R_fileInPlaces_52 rfl
theorem g_R_fileInPlaces_53 : jSnd 94 53 (o_getR 56 11 (4)) := snd_getR (ci := 1) (k := 4) d_R_fileInPlaces_53 rfl tm_in1 (by decide) wd_405 rfl
theorem g_R_fileInPlaces_56 : jSnd 94 56 (o_iload 58 4) := snd_iload d_R_fileInPlaces_56
theorem g_R_fileInPlaces_58 : jSnd 94 58 (o_push 59 (1)) := snd_iconst (n := 1) (z := 1) d_R_fileInPlaces_58 (by decide) (by unfold jrg; omega)
theorem g_R_fileInPlaces_59 : jSnd 94 59 (o_bin 60 f_sub) := snd_isub d_R_fileInPlaces_59
theorem g_R_fileInPlaces_60 : jSnd 94 60 (o_nald 61 1) := snd_iald d_R_fileInPlaces_60
theorem g_R_fileInPlaces_61 : jSnd 94 61 (o_iast 62) := snd_iast d_R_fileInPlaces_61
theorem g_R_fileInPlaces_62 : jSnd 94 62 (o_iinc 65 4 (-1)) := snd_iinc d_R_fileInPlaces_62 (by decide)
theorem g_R_fileInPlaces_65 : jSnd 94 65 (o_goto 40) := snd_goto d_R_fileInPlaces_65 (by decide)
theorem g_R_fileInPlaces_68 : jSnd 94 68 (o_aload 69 0) := snd_aload_n d_R_fileInPlaces_68 rfl
theorem g_R_fileInPlaces_69 : jSnd 94 69 (o_getR 72 11 (4)) := snd_getR (ci := 1) (k := 4) d_R_fileInPlaces_69 rfl tm_in1 (by decide) wd_405 rfl
theorem g_R_fileInPlaces_72 : jSnd 94 72 (o_iload 73 3) := snd_iload_n d_R_fileInPlaces_72 rfl
theorem g_R_fileInPlaces_73 : jSnd 94 73 (o_iload 74 1) := snd_iload_n d_R_fileInPlaces_73 rfl
theorem g_R_fileInPlaces_74 : jSnd 94 74 (o_iast 75) := snd_iast d_R_fileInPlaces_74
theorem g_R_fileInPlaces_75 : jSnd 94 75 (o_aload 76 0) := snd_aload_n d_R_fileInPlaces_75 rfl
theorem g_R_fileInPlaces_76 : jSnd 94 76 (o_dup 77) := snd_dup d_R_fileInPlaces_76
theorem g_R_fileInPlaces_77 : jSnd 94 77 (o_getI 80 11 (5)) := snd_getI (ci := 1) (k := 5) d_R_fileInPlaces_77 rfl tm_in1 (by decide) wd_408 rfl
theorem g_R_fileInPlaces_80 : jSnd 94 80 (o_push 81 (1)) := snd_iconst (n := 1) (z := 1) d_R_fileInPlaces_80 (by decide) (by unfold jrg; omega)
theorem g_R_fileInPlaces_81 : jSnd 94 81 (o_bin 82 f_add) := snd_iadd d_R_fileInPlaces_81
theorem g_R_fileInPlaces_82 : jSnd 94 82 (o_putI 85 11 (5)) := snd_putI (ci := 1) (k := 5) d_R_fileInPlaces_82 rfl tm_in1 tm_D1 tm_ty1 tm_nm1 (by decide) wd_408 rfl rfl rfl
theorem g_R_fileInPlaces_85 : jSnd 94 85 (o_vret) := snd_vret d_R_fileInPlaces_85 rfl
set_option maxRecDepth 100000 in
theorem ga_R_fileInPlaces : jAll 94 0 tmp_R_fileInPlaces := ⟨g_R_fileInPlaces_0, g_R_fileInPlaces_1, g_R_fileInPlaces_2, snd_bad _ _, snd_bad _ _, g_R_fileInPlaces_5, g_R_fileInPlaces_6, g_R_fileInPlaces_7, g_R_fileInPlaces_8, snd_bad _ _, snd_bad _ _, g_R_fileInPlaces_11, snd_bad _ _, snd_bad _ _, g_R_fileInPlaces_14, g_R_fileInPlaces_15, g_R_fileInPlaces_16, snd_bad _ _, snd_bad _ _, g_R_fileInPlaces_19, g_R_fileInPlaces_20, g_R_fileInPlaces_21, g_R_fileInPlaces_22, snd_bad _ _, snd_bad _ _, g_R_fileInPlaces_25, snd_bad _ _, snd_bad _ _, g_R_fileInPlaces_28, snd_bad _ _, snd_bad _ _, g_R_fileInPlaces_31, snd_bad _ _, snd_bad _ _, g_R_fileInPlaces_34, g_R_fileInPlaces_35, snd_bad _ _, snd_bad _ _, g_R_fileInPlaces_38, snd_bad _ _, g_R_fileInPlaces_40, snd_bad _ _, g_R_fileInPlaces_42, g_R_fileInPlaces_43, snd_bad _ _, snd_bad _ _, g_R_fileInPlaces_46, g_R_fileInPlaces_47, snd_bad _ _, snd_bad _ _, g_R_fileInPlaces_50, snd_bad _ _, g_R_fileInPlaces_52, g_R_fileInPlaces_53, snd_bad _ _, snd_bad _ _, g_R_fileInPlaces_56, snd_bad _ _, g_R_fileInPlaces_58, g_R_fileInPlaces_59, g_R_fileInPlaces_60, g_R_fileInPlaces_61, g_R_fileInPlaces_62, snd_bad _ _, snd_bad _ _, g_R_fileInPlaces_65, snd_bad _ _, snd_bad _ _, g_R_fileInPlaces_68, g_R_fileInPlaces_69, snd_bad _ _, snd_bad _ _, g_R_fileInPlaces_72, g_R_fileInPlaces_73, g_R_fileInPlaces_74, g_R_fileInPlaces_75, g_R_fileInPlaces_76, g_R_fileInPlaces_77, snd_bad _ _, snd_bad _ _, g_R_fileInPlaces_80, g_R_fileInPlaces_81, g_R_fileInPlaces_82, snd_bad _ _, snd_bad _ _, g_R_fileInPlaces_85, trivial⟩
theorem d_R_firstPlaceBehind_0 : decode (tm_c 95) 0 = .ok (.iconst (0), 1) := by decide +kernel
theorem d_R_firstPlaceBehind_1 : decode (tm_c 95) 1 = .ok (.istore_n 2, 1) := by decide +kernel
theorem d_R_firstPlaceBehind_2 : decode (tm_c 95) 2 = .ok (.iload_n 2, 1) := by decide +kernel
theorem d_R_firstPlaceBehind_3 : decode (tm_c 95) 3 = .ok (.aload_n 0, 1) := by decide +kernel
theorem d_R_firstPlaceBehind_4 : decode (tm_c 95) 4 = .ok (.getfield 32, 3) := by decide +kernel
theorem d_R_firstPlaceBehind_7 : decode (tm_c 95) 7 = .ok (.if_icmp .ge (23), 3) := by decide +kernel
theorem d_R_firstPlaceBehind_10 : decode (tm_c 95) 10 = .ok (.aload_n 0, 1) := by decide +kernel
theorem d_R_firstPlaceBehind_11 : decode (tm_c 95) 11 = .ok (.getfield 21, 3) := by decide +kernel
theorem d_R_firstPlaceBehind_14 : decode (tm_c 95) 14 = .ok (.iload_n 2, 1) := by decide +kernel
theorem d_R_firstPlaceBehind_15 : decode (tm_c 95) 15 = .ok (.iaload, 1) := by decide +kernel
theorem d_R_firstPlaceBehind_16 : decode (tm_c 95) 16 = .ok (.iload_n 1, 1) := by decide +kernel
theorem d_R_firstPlaceBehind_17 : decode (tm_c 95) 17 = .ok (.if_icmp .ne (7), 3) := by decide +kernel
theorem d_R_firstPlaceBehind_20 : decode (tm_c 95) 20 = .ok (.iload_n 2, 1) := by decide +kernel
theorem d_R_firstPlaceBehind_21 : decode (tm_c 95) 21 = .ok (.iconst (1), 1) := by decide +kernel
theorem d_R_firstPlaceBehind_22 : decode (tm_c 95) 22 = .ok (.iadd, 1) := by decide +kernel
theorem d_R_firstPlaceBehind_23 : decode (tm_c 95) 23 = .ok (.ireturn, 1) := by decide +kernel
theorem d_R_firstPlaceBehind_24 : decode (tm_c 95) 24 = .ok (.iinc 2 (1), 3) := by decide +kernel
theorem d_R_firstPlaceBehind_27 : decode (tm_c 95) 27 = .ok (.goto (-25), 3) := by decide +kernel
theorem d_R_firstPlaceBehind_30 : decode (tm_c 95) 30 = .ok (.iconst (0), 1) := by decide +kernel
theorem d_R_firstPlaceBehind_31 : decode (tm_c 95) 31 = .ok (.ireturn, 1) := by decide +kernel
theorem g_R_firstPlaceBehind_0 : jSnd 95 0 (o_push 1 (0)) := snd_iconst (n := 0) (z := 0) d_R_firstPlaceBehind_0 (by decide) (by unfold jrg; omega)
theorem g_R_firstPlaceBehind_1 : jSnd 95 1 (o_istore 2 2) := snd_istore_n d_R_firstPlaceBehind_1 rfl (by decide)
theorem g_R_firstPlaceBehind_2 : jSnd 95 2 (o_iload 3 2) := snd_iload_n d_R_firstPlaceBehind_2 rfl
theorem g_R_firstPlaceBehind_3 : jSnd 95 3 (o_aload 4 0) := snd_aload_n d_R_firstPlaceBehind_3 rfl
theorem g_R_firstPlaceBehind_4 : jSnd 95 4 (o_getI 7 11 (5)) := snd_getI (ci := 1) (k := 5) d_R_firstPlaceBehind_4 rfl tm_in1 (by decide) wd_408 rfl
theorem g_R_firstPlaceBehind_7 : jSnd 95 7 (o_ic_ge 10 30) := snd_ic_ge d_R_firstPlaceBehind_7 (by decide)
theorem g_R_firstPlaceBehind_10 : jSnd 95 10 (o_aload 11 0) := snd_aload_n d_R_firstPlaceBehind_10 rfl
theorem g_R_firstPlaceBehind_11 : jSnd 95 11 (o_getR 14 11 (4)) := snd_getR (ci := 1) (k := 4) d_R_firstPlaceBehind_11 rfl tm_in1 (by decide) wd_405 rfl
theorem g_R_firstPlaceBehind_14 : jSnd 95 14 (o_iload 15 2) := snd_iload_n d_R_firstPlaceBehind_14 rfl
theorem g_R_firstPlaceBehind_15 : jSnd 95 15 (o_nald 16 1) := snd_iald d_R_firstPlaceBehind_15
theorem g_R_firstPlaceBehind_16 : jSnd 95 16 (o_iload 17 1) := snd_iload_n d_R_firstPlaceBehind_16 rfl
theorem g_R_firstPlaceBehind_17 : jSnd 95 17 (o_ic_ne 20 24) := snd_ic_ne d_R_firstPlaceBehind_17 (by decide)
theorem g_R_firstPlaceBehind_20 : jSnd 95 20 (o_iload 21 2) := snd_iload_n d_R_firstPlaceBehind_20 rfl
theorem g_R_firstPlaceBehind_21 : jSnd 95 21 (o_push 22 (1)) := snd_iconst (n := 1) (z := 1) d_R_firstPlaceBehind_21 (by decide) (by unfold jrg; omega)
theorem g_R_firstPlaceBehind_22 : jSnd 95 22 (o_bin 23 f_add) := snd_iadd d_R_firstPlaceBehind_22
theorem g_R_firstPlaceBehind_23 : jSnd 95 23 (o_iret) := snd_iret d_R_firstPlaceBehind_23 rfl
theorem g_R_firstPlaceBehind_24 : jSnd 95 24 (o_iinc 27 2 (1)) := snd_iinc d_R_firstPlaceBehind_24 (by decide)
theorem g_R_firstPlaceBehind_27 : jSnd 95 27 (o_goto 2) := snd_goto d_R_firstPlaceBehind_27 (by decide)
theorem g_R_firstPlaceBehind_30 : jSnd 95 30 (o_push 31 (0)) := snd_iconst (n := 0) (z := 0) d_R_firstPlaceBehind_30 (by decide) (by unfold jrg; omega)
theorem g_R_firstPlaceBehind_31 : jSnd 95 31 (o_iret) := snd_iret d_R_firstPlaceBehind_31 rfl
set_option maxRecDepth 100000 in
theorem ga_R_firstPlaceBehind : jAll 95 0 tmp_R_firstPlaceBehind := ⟨g_R_firstPlaceBehind_0, g_R_firstPlaceBehind_1, g_R_firstPlaceBehind_2, g_R_firstPlaceBehind_3, g_R_firstPlaceBehind_4, snd_bad _ _, snd_bad _ _, g_R_firstPlaceBehind_7, snd_bad _ _, snd_bad _ _, g_R_firstPlaceBehind_10, g_R_firstPlaceBehind_11, snd_bad _ _, snd_bad _ _, g_R_firstPlaceBehind_14, g_R_firstPlaceBehind_15, g_R_firstPlaceBehind_16, g_R_firstPlaceBehind_17, snd_bad _ _, snd_bad _ _, g_R_firstPlaceBehind_20, g_R_firstPlaceBehind_21, g_R_firstPlaceBehind_22, g_R_firstPlaceBehind_23, g_R_firstPlaceBehind_24, snd_bad _ _, snd_bad _ _, g_R_firstPlaceBehind_27, snd_bad _ _, snd_bad _ _, g_R_firstPlaceBehind_30, g_R_firstPlaceBehind_31, trivial⟩
theorem d_V_init_0 : decode (tm_c 96) 0 = .ok (.aload_n 0, 1) := by decide +kernel
theorem d_V_init_1 : decode (tm_c 96) 1 = .ok (.invokespecial 3, 3) := by decide +kernel
theorem d_V_init_4 : decode (tm_c 96) 4 = .ok (.aload_n 0, 1) := by decide +kernel
theorem d_V_init_5 : decode (tm_c 96) 5 = .ok (.sipush (250), 3) := by decide +kernel
theorem d_V_init_8 : decode (tm_c 96) 8 = .ok (.newarray .int, 2) := by decide +kernel
theorem d_V_init_10 : decode (tm_c 96) 10 = .ok (.putfield 9, 3) := by decide +kernel
theorem d_V_init_13 : decode (tm_c 96) 13 = .ok (.aload_n 0, 1) := by decide +kernel
theorem d_V_init_14 : decode (tm_c 96) 14 = .ok (.sipush (250), 3) := by decide +kernel
theorem d_V_init_17 : decode (tm_c 96) 17 = .ok (.newarray .int, 2) := by decide +kernel
theorem d_V_init_19 : decode (tm_c 96) 19 = .ok (.putfield 15, 3) := by decide +kernel
theorem d_V_init_22 : decode (tm_c 96) 22 = .ok (.aload_n 0, 1) := by decide +kernel
theorem d_V_init_23 : decode (tm_c 96) 23 = .ok (.sipush (250), 3) := by decide +kernel
theorem d_V_init_26 : decode (tm_c 96) 26 = .ok (.newarray .int, 2) := by decide +kernel
theorem d_V_init_28 : decode (tm_c 96) 28 = .ok (.putfield 18, 3) := by decide +kernel
theorem d_V_init_31 : decode (tm_c 96) 31 = .ok (.aload_n 0, 1) := by decide +kernel
theorem d_V_init_32 : decode (tm_c 96) 32 = .ok (.sipush (251), 3) := by decide +kernel
theorem d_V_init_35 : decode (tm_c 96) 35 = .ok (.newarray .boolean, 2) := by decide +kernel
theorem d_V_init_37 : decode (tm_c 96) 37 = .ok (.putfield 21, 3) := by decide +kernel
theorem d_V_init_40 : decode (tm_c 96) 40 = .ok (.aload_n 0, 1) := by decide +kernel
theorem d_V_init_41 : decode (tm_c 96) 41 = .ok (.sipush (251), 3) := by decide +kernel
theorem d_V_init_44 : decode (tm_c 96) 44 = .ok (.newarray .boolean, 2) := by decide +kernel
theorem d_V_init_46 : decode (tm_c 96) 46 = .ok (.putfield 25, 3) := by decide +kernel
theorem d_V_init_49 : decode (tm_c 96) 49 = .ok (.aload_n 0, 1) := by decide +kernel
theorem d_V_init_50 : decode (tm_c 96) 50 = .ok (.sipush (251), 3) := by decide +kernel
theorem d_V_init_53 : decode (tm_c 96) 53 = .ok (.newarray .int, 2) := by decide +kernel
theorem d_V_init_55 : decode (tm_c 96) 55 = .ok (.putfield 28, 3) := by decide +kernel
theorem d_V_init_58 : decode (tm_c 96) 58 = .ok (.aload_n 0, 1) := by decide +kernel
theorem d_V_init_59 : decode (tm_c 96) 59 = .ok (.sipush (251), 3) := by decide +kernel
theorem d_V_init_62 : decode (tm_c 96) 62 = .ok (.newarray .int, 2) := by decide +kernel
theorem d_V_init_64 : decode (tm_c 96) 64 = .ok (.putfield 31, 3) := by decide +kernel
theorem d_V_init_67 : decode (tm_c 96) 67 = .ok (.return_, 1) := by decide +kernel
theorem g_V_init_0 : jSnd 96 0 (o_aload 1 0) := snd_aload_n d_V_init_0 rfl
theorem g_V_init_1 : jSnd 96 1 (o_objinit 4) := snd_objinit d_V_init_1 wd_422 wd_119 wo_obj (by decide) (by decide)
theorem g_V_init_4 : jSnd 96 4 (o_aload 5 0) := snd_aload_n d_V_init_4 rfl
theorem g_V_init_5 : jSnd 96 5 (o_push 8 (250)) := snd_sipush (n := 250) (z := 250) d_V_init_5 (by decide) (by unfold jrg; omega)
theorem g_V_init_8 : jSnd 96 8 (o_newa 10 1) := snd_newI d_V_init_8 wd_281
theorem g_V_init_10 : jSnd 96 10 (o_putR 13 12 (1)) := snd_putRF (ci := 2) (k := 1) d_V_init_10 rfl tm_in2 tm_D2 tm_ty2 tm_nm2 (by decide) wd_423 rfl rfl rfl (fun o => by cases o <;> exact ⟨rfl, rfl⟩) rfl
theorem g_V_init_13 : jSnd 96 13 (o_aload 14 0) := snd_aload_n d_V_init_13 rfl
theorem g_V_init_14 : jSnd 96 14 (o_push 17 (250)) := snd_sipush (n := 250) (z := 250) d_V_init_14 (by decide) (by unfold jrg; omega)
theorem g_V_init_17 : jSnd 96 17 (o_newa 19 1) := snd_newI d_V_init_17 wd_281
theorem g_V_init_19 : jSnd 96 19 (o_putR 22 12 (2)) := snd_putRF (ci := 2) (k := 2) d_V_init_19 rfl tm_in2 tm_D2 tm_ty2 tm_nm2 (by decide) wd_424 rfl rfl rfl (fun o => by cases o <;> exact ⟨rfl, rfl⟩) rfl
theorem g_V_init_22 : jSnd 96 22 (o_aload 23 0) := snd_aload_n d_V_init_22 rfl
theorem g_V_init_23 : jSnd 96 23 (o_push 26 (250)) := snd_sipush (n := 250) (z := 250) d_V_init_23 (by decide) (by unfold jrg; omega)
theorem g_V_init_26 : jSnd 96 26 (o_newa 28 1) := snd_newI d_V_init_26 wd_281
theorem g_V_init_28 : jSnd 96 28 (o_putR 31 12 (3)) := snd_putRF (ci := 2) (k := 3) d_V_init_28 rfl tm_in2 tm_D2 tm_ty2 tm_nm2 (by decide) wd_425 rfl rfl rfl (fun o => by cases o <;> exact ⟨rfl, rfl⟩) rfl
theorem g_V_init_31 : jSnd 96 31 (o_aload 32 0) := snd_aload_n d_V_init_31 rfl
theorem g_V_init_32 : jSnd 96 32 (o_push 35 (251)) := snd_sipush (n := 251) (z := 251) d_V_init_32 (by decide) (by unfold jrg; omega)
theorem g_V_init_35 : jSnd 96 35 (o_newa 37 2) := snd_newZ d_V_init_35 wd_289
theorem g_V_init_37 : jSnd 96 37 (o_putR 40 12 (4)) := snd_putRF (ci := 2) (k := 4) d_V_init_37 rfl tm_in2 tm_D2 tm_ty2 tm_nm2 (by decide) wd_426 rfl rfl rfl (fun o => by cases o <;> exact ⟨rfl, rfl⟩) rfl
theorem g_V_init_40 : jSnd 96 40 (o_aload 41 0) := snd_aload_n d_V_init_40 rfl
theorem g_V_init_41 : jSnd 96 41 (o_push 44 (251)) := snd_sipush (n := 251) (z := 251) d_V_init_41 (by decide) (by unfold jrg; omega)
theorem g_V_init_44 : jSnd 96 44 (o_newa 46 2) := snd_newZ d_V_init_44 wd_289
theorem g_V_init_46 : jSnd 96 46 (o_putR 49 12 (5)) := snd_putRF (ci := 2) (k := 5) d_V_init_46 rfl tm_in2 tm_D2 tm_ty2 tm_nm2 (by decide) wd_427 rfl rfl rfl (fun o => by cases o <;> exact ⟨rfl, rfl⟩) rfl
theorem g_V_init_49 : jSnd 96 49 (o_aload 50 0) := snd_aload_n d_V_init_49 rfl
theorem g_V_init_50 : jSnd 96 50 (o_push 53 (251)) := snd_sipush (n := 251) (z := 251) d_V_init_50 (by decide) (by unfold jrg; omega)
theorem g_V_init_53 : jSnd 96 53 (o_newa 55 1) := snd_newI d_V_init_53 wd_281
theorem g_V_init_55 : jSnd 96 55 (o_putR 58 12 (6)) := snd_putRF (ci := 2) (k := 6) d_V_init_55 rfl tm_in2 tm_D2 tm_ty2 tm_nm2 (by decide) wd_428 rfl rfl rfl (fun o => by cases o <;> exact ⟨rfl, rfl⟩) rfl
theorem g_V_init_58 : jSnd 96 58 (o_aload 59 0) := snd_aload_n d_V_init_58 rfl
theorem g_V_init_59 : jSnd 96 59 (o_push 62 (251)) := snd_sipush (n := 251) (z := 251) d_V_init_59 (by decide) (by unfold jrg; omega)
theorem g_V_init_62 : jSnd 96 62 (o_newa 64 1) := snd_newI d_V_init_62 wd_281
theorem g_V_init_64 : jSnd 96 64 (o_putR 67 12 (7)) := snd_putRF (ci := 2) (k := 7) d_V_init_64 rfl tm_in2 tm_D2 tm_ty2 tm_nm2 (by decide) wd_429 rfl rfl rfl (fun o => by cases o <;> exact ⟨rfl, rfl⟩) rfl
theorem g_V_init_67 : jSnd 96 67 (o_vret) := snd_vret d_V_init_67 rfl
set_option maxRecDepth 100000 in
theorem ga_V_init : jAll 96 0 tmp_V_init := ⟨g_V_init_0, g_V_init_1, snd_bad _ _, snd_bad _ _, g_V_init_4, g_V_init_5, snd_bad _ _, snd_bad _ _, g_V_init_8, snd_bad _ _, g_V_init_10, snd_bad _ _, snd_bad _ _, g_V_init_13, g_V_init_14, snd_bad _ _, snd_bad _ _, g_V_init_17, snd_bad _ _, g_V_init_19, snd_bad _ _, snd_bad _ _, g_V_init_22, g_V_init_23, snd_bad _ _, snd_bad _ _, g_V_init_26, snd_bad _ _, g_V_init_28, snd_bad _ _, snd_bad _ _, g_V_init_31, g_V_init_32, snd_bad _ _, snd_bad _ _, g_V_init_35, snd_bad _ _, g_V_init_37, snd_bad _ _, snd_bad _ _, g_V_init_40, g_V_init_41, snd_bad _ _, snd_bad _ _, g_V_init_44, snd_bad _ _, g_V_init_46, snd_bad _ _, snd_bad _ _, g_V_init_49, g_V_init_50, snd_bad _ _, snd_bad _ _, g_V_init_53, snd_bad _ _, g_V_init_55, snd_bad _ _, snd_bad _ _, g_V_init_58, g_V_init_59, snd_bad _ _, snd_bad _ _, g_V_init_62, snd_bad _ _, g_V_init_64, snd_bad _ _, snd_bad _ _, g_V_init_67, trivial⟩
theorem d_V_show_0 : decode (tm_c 97) 0 = .ok (.aload_n 0, 1) := by decide +kernel
theorem d_V_show_1 : decode (tm_c 97) 1 = .ok (.aload_n 1, 1) := by decide +kernel
theorem d_V_show_2 : decode (tm_c 97) 2 = .ok (.aload_n 2, 1) := by decide +kernel
theorem d_V_show_3 : decode (tm_c 97) 3 = .ok (.invokevirtual 34, 3) := by decide +kernel
theorem d_V_show_6 : decode (tm_c 97) 6 = .ok (.aload_n 0, 1) := by decide +kernel
theorem d_V_show_7 : decode (tm_c 97) 7 = .ok (.iconst (0), 1) := by decide +kernel
theorem d_V_show_8 : decode (tm_c 97) 8 = .ok (.putfield 38, 3) := by decide +kernel
theorem d_V_show_11 : decode (tm_c 97) 11 = .ok (.iconst (0), 1) := by decide +kernel
theorem d_V_show_12 : decode (tm_c 97) 12 = .ok (.istore_n 3, 1) := by decide +kernel
theorem d_V_show_13 : decode (tm_c 97) 13 = .ok (.iload_n 3, 1) := by decide +kernel
theorem d_V_show_14 : decode (tm_c 97) 14 = .ok (.aload_n 1, 1) := by decide +kernel
theorem d_V_show_15 : decode (tm_c 97) 15 = .ok (.invokevirtual 42, 3) := by decide +kernel
theorem d_V_show_18 : decode (tm_c 97) 18 = .ok (.if_icmp .ge (74), 3) := by decide +kernel
theorem d_V_show_21 : decode (tm_c 97) 21 = .ok (.aload_n 1, 1) := by decide +kernel
theorem d_V_show_22 : decode (tm_c 97) 22 = .ok (.iload_n 3, 1) := by decide +kernel
theorem d_V_show_23 : decode (tm_c 97) 23 = .ok (.invokevirtual 48, 3) := by decide +kernel
theorem d_V_show_26 : decode (tm_c 97) 26 = .ok (.istore 4, 2) := by decide +kernel
theorem d_V_show_28 : decode (tm_c 97) 28 = .ok (.aload_n 0, 1) := by decide +kernel
theorem d_V_show_29 : decode (tm_c 97) 29 = .ok (.getfield 28, 3) := by decide +kernel
theorem d_V_show_32 : decode (tm_c 97) 32 = .ok (.iload 4, 2) := by decide +kernel
theorem d_V_show_34 : decode (tm_c 97) 34 = .ok (.aload_n 0, 1) := by decide +kernel
theorem d_V_show_35 : decode (tm_c 97) 35 = .ok (.getfield 38, 3) := by decide +kernel
theorem d_V_show_38 : decode (tm_c 97) 38 = .ok (.iastore, 1) := by decide +kernel
theorem d_V_show_39 : decode (tm_c 97) 39 = .ok (.aload_n 0, 1) := by decide +kernel
theorem d_V_show_40 : decode (tm_c 97) 40 = .ok (.getfield 25, 3) := by decide +kernel
theorem d_V_show_43 : decode (tm_c 97) 43 = .ok (.iload 4, 2) := by decide +kernel
theorem d_V_show_45 : decode (tm_c 97) 45 = .ok (.baload, 1) := by decide +kernel
theorem d_V_show_46 : decode (tm_c 97) 46 = .ok (.ifCond .eq (40), 3) := by decide +kernel
theorem d_V_show_49 : decode (tm_c 97) 49 = .ok (.aload_n 0, 1) := by decide +kernel
theorem d_V_show_50 : decode (tm_c 97) 50 = .ok (.getfield 9, 3) := by decide +kernel
theorem d_V_show_53 : decode (tm_c 97) 53 = .ok (.aload_n 0, 1) := by decide +kernel
theorem d_V_show_54 : decode (tm_c 97) 54 = .ok (.getfield 38, 3) := by decide +kernel
theorem d_V_show_57 : decode (tm_c 97) 57 = .ok (.iload 4, 2) := by decide +kernel
theorem d_V_show_59 : decode (tm_c 97) 59 = .ok (.iastore, 1) := by decide +kernel
theorem d_V_show_60 : decode (tm_c 97) 60 = .ok (.aload_n 0, 1) := by decide +kernel
theorem d_V_show_61 : decode (tm_c 97) 61 = .ok (.getfield 15, 3) := by decide +kernel
theorem d_V_show_64 : decode (tm_c 97) 64 = .ok (.aload_n 0, 1) := by decide +kernel
theorem d_V_show_65 : decode (tm_c 97) 65 = .ok (.getfield 38, 3) := by decide +kernel
theorem d_V_show_68 : decode (tm_c 97) 68 = .ok (.aload_n 1, 1) := by decide +kernel
theorem d_V_show_69 : decode (tm_c 97) 69 = .ok (.iload 4, 2) := by decide +kernel
theorem d_V_show_71 : decode (tm_c 97) 71 = .ok (.iconst (3), 1) := by decide +kernel
theorem d_V_show_72 : decode (tm_c 97) 72 = .ok (.invokevirtual 52, 3) := by decide +kernel
theorem d_V_show_75 : decode (tm_c 97) 75 = .ok (.iastore, 1) := by decide +kernel
theorem d_V_show_76 : decode (tm_c 97) 76 = .ok (.aload_n 0, 1) := by decide +kernel
theorem d_V_show_77 : decode (tm_c 97) 77 = .ok (.dup, 1) := by decide +kernel
theorem d_V_show_78 : decode (tm_c 97) 78 = .ok (.getfield 38, 3) := by decide +kernel
theorem d_V_show_81 : decode (tm_c 97) 81 = .ok (.iconst (1), 1) := by decide +kernel
theorem d_V_show_82 : decode (tm_c 97) 82 = .ok (.iadd, 1) := by decide +kernel
theorem d_V_show_83 : decode (tm_c 97) 83 = .ok (.putfield 38, 3) := by decide +kernel
theorem d_V_show_86 : decode (tm_c 97) 86 = .ok (.iinc 3 (1), 3) := by decide +kernel
theorem d_V_show_89 : decode (tm_c 97) 89 = .ok (.goto (-76), 3) := by decide +kernel
theorem d_V_show_92 : decode (tm_c 97) 92 = .ok (.return_, 1) := by decide +kernel
theorem g_V_show_0 : jSnd 97 0 (o_aload 1 0) := snd_aload_n d_V_show_0 rfl
theorem g_V_show_1 : jSnd 97 1 (o_aload 2 1) := snd_aload_n d_V_show_1 rfl
theorem g_V_show_2 : jSnd 97 2 (o_aload 3 2) := snd_aload_n d_V_show_2 rfl
theorem g_V_show_3 : jSnd 97 3 (o_call 6 98 3 5 12 true) := snd_callV (ci := 2) (n := 2) rfl d_V_show_3 (by decide) (by decide) (by decide) wc_98 wd_430 wd_431 wd_432 wd_132 (by decide +kernel) (by decide) (by decide)
theorem g_V_show_6 : jSnd 97 6 (o_aload 7 0) := snd_aload_n d_V_show_6 rfl
theorem g_V_show_7 : jSnd 97 7 (o_push 8 (0)) := snd_iconst (n := 0) (z := 0) d_V_show_7 (by decide) (by unfold jrg; omega)
theorem g_V_show_8 : jSnd 97 8 (o_putI 11 12 (0)) := snd_putI (ci := 2) (k := 0) d_V_show_8 rfl tm_in2 tm_D2 tm_ty2 tm_nm2 (by decide) wd_433 rfl rfl rfl
theorem g_V_show_11 : jSnd 97 11 (o_push 12 (0)) := snd_iconst (n := 0) (z := 0) d_V_show_11 (by decide) (by unfold jrg; omega)
theorem g_V_show_12 : jSnd 97 12 (o_istore 13 3) := snd_istore_n d_V_show_12 rfl (by decide)
theorem g_V_show_13 : jSnd 97 13 (o_iload 14 3) := snd_iload_n d_V_show_13 rfl
theorem g_V_show_14 : jSnd 97 14 (o_aload 15 1) := snd_aload_n d_V_show_14 rfl
theorem g_V_show_15 : jSnd 97 15 (o_call 18 89 1 1 11 false) := snd_callV (ci := 1) (n := 0) rfl d_V_show_15 (by decide) (by decide) (by decide) wc_89 wd_434 wd_263 wd_264 wd_122 (by decide +kernel) (by decide) (by decide)
theorem g_V_show_18 : jSnd 97 18 (o_ic_ge 21 92) := snd_ic_ge d_V_show_18 (by decide)
theorem g_V_show_21 : jSnd 97 21 (o_aload 22 1) := snd_aload_n d_V_show_21 rfl
theorem g_V_show_22 : jSnd 97 22 (o_iload 23 3) := snd_iload_n d_V_show_22 rfl
theorem g_V_show_23 : jSnd 97 23 (o_call 26 90 2 2 11 false) := snd_callV (ci := 1) (n := 1) rfl d_V_show_23 (by decide) (by decide) (by decide) wc_90 wd_435 wd_266 wd_267 wd_122 (by decide +kernel) (by decide) (by decide)
theorem g_V_show_26 : jSnd 97 26 (o_istore 28 4) := snd_istore d_V_show_26 (by decide)
theorem g_V_show_28 : jSnd 97 28 (o_aload 29 0) := snd_aload_n d_V_show_28 rfl
theorem g_V_show_29 : jSnd 97 29 (o_getR 32 12 (6)) := snd_getR (ci := 2) (k := 6) d_V_show_29 rfl tm_in2 (by decide) wd_428 rfl
theorem g_V_show_32 : jSnd 97 32 (o_iload 34 4) := snd_iload d_V_show_32
theorem g_V_show_34 : jSnd 97 34 (o_aload 35 0) := snd_aload_n d_V_show_34 rfl
theorem g_V_show_35 : jSnd 97 35 (o_getI 38 12 (0)) := snd_getI (ci := 2) (k := 0) d_V_show_35 rfl tm_in2 (by decide) wd_433 rfl
theorem g_V_show_38 : jSnd 97 38 (o_iast 39) := snd_iast d_V_show_38
theorem g_V_show_39 : jSnd 97 39 (o_aload 40 0) := snd_aload_n d_V_show_39 rfl
theorem g_V_show_40 : jSnd 97 40 (o_getR 43 12 (5)) := snd_getR (ci := 2) (k := 5) d_V_show_40 rfl tm_in2 (by decide) wd_427 rfl
theorem g_V_show_43 : jSnd 97 43 (o_iload 45 4) := snd_iload d_V_show_43
theorem g_V_show_45 : jSnd 97 45 (o_nald 46 2) := snd_zald d_V_show_45
theorem g_V_show_46 : jSnd 97 46 (o_if_eq 49 86) := snd_if_eq d_V_show_46 (by decide)
theorem g_V_show_49 : jSnd 97 49 (o_aload 50 0) := snd_aload_n d_V_show_49 rfl
theorem g_V_show_50 : jSnd 97 50 (o_getR 53 12 (1)) := snd_getR (ci := 2) (k := 1) d_V_show_50 rfl tm_in2 (by decide) wd_423 rfl
theorem g_V_show_53 : jSnd 97 53 (o_aload 54 0) := snd_aload_n d_V_show_53 rfl
theorem g_V_show_54 : jSnd 97 54 (o_getI 57 12 (0)) := snd_getI (ci := 2) (k := 0) d_V_show_54 rfl tm_in2 (by decide) wd_433 rfl
theorem g_V_show_57 : jSnd 97 57 (o_iload 59 4) := snd_iload d_V_show_57
theorem g_V_show_59 : jSnd 97 59 (o_iast 60) := snd_iast d_V_show_59
theorem g_V_show_60 : jSnd 97 60 (o_aload 61 0) := snd_aload_n d_V_show_60 rfl
theorem g_V_show_61 : jSnd 97 61 (o_getR 64 12 (2)) := snd_getR (ci := 2) (k := 2) d_V_show_61 rfl tm_in2 (by decide) wd_424 rfl
theorem g_V_show_64 : jSnd 97 64 (o_aload 65 0) := snd_aload_n d_V_show_64 rfl
theorem g_V_show_65 : jSnd 97 65 (o_getI 68 12 (0)) := snd_getI (ci := 2) (k := 0) d_V_show_65 rfl tm_in2 (by decide) wd_433 rfl
theorem g_V_show_68 : jSnd 97 68 (o_aload 69 1) := snd_aload_n d_V_show_68 rfl
theorem g_V_show_69 : jSnd 97 69 (o_iload 71 4) := snd_iload d_V_show_69
theorem g_V_show_71 : jSnd 97 71 (o_push 72 (3)) := snd_iconst (n := 3) (z := 3) d_V_show_71 (by decide) (by unfold jrg; omega)
theorem g_V_show_72 : jSnd 97 72 (o_call 75 86 3 3 11 false) := snd_callV (ci := 1) (n := 2) rfl d_V_show_72 (by decide) (by decide) (by decide) wc_86 wd_436 wd_167 wd_168 wd_122 (by decide +kernel) (by decide) (by decide)
theorem g_V_show_75 : jSnd 97 75 (o_iast 76) := snd_iast d_V_show_75
theorem g_V_show_76 : jSnd 97 76 (o_aload 77 0) := snd_aload_n d_V_show_76 rfl
theorem g_V_show_77 : jSnd 97 77 (o_dup 78) := snd_dup d_V_show_77
theorem g_V_show_78 : jSnd 97 78 (o_getI 81 12 (0)) := snd_getI (ci := 2) (k := 0) d_V_show_78 rfl tm_in2 (by decide) wd_433 rfl
theorem g_V_show_81 : jSnd 97 81 (o_push 82 (1)) := snd_iconst (n := 1) (z := 1) d_V_show_81 (by decide) (by unfold jrg; omega)
theorem g_V_show_82 : jSnd 97 82 (o_bin 83 f_add) := snd_iadd d_V_show_82
theorem g_V_show_83 : jSnd 97 83 (o_putI 86 12 (0)) := snd_putI (ci := 2) (k := 0) d_V_show_83 rfl tm_in2 tm_D2 tm_ty2 tm_nm2 (by decide) wd_433 rfl rfl rfl
theorem g_V_show_86 : jSnd 97 86 (o_iinc 89 3 (1)) := snd_iinc d_V_show_86 (by decide)
theorem g_V_show_89 : jSnd 97 89 (o_goto 13) := snd_goto d_V_show_89 (by decide)
theorem g_V_show_92 : jSnd 97 92 (o_vret) := snd_vret d_V_show_92 rfl
set_option maxRecDepth 100000 in
theorem ga_V_show : jAll 97 0 tmp_V_show := ⟨g_V_show_0, g_V_show_1, g_V_show_2, g_V_show_3, snd_bad _ _, snd_bad _ _, g_V_show_6, g_V_show_7, g_V_show_8, snd_bad _ _, snd_bad _ _, g_V_show_11, g_V_show_12, g_V_show_13, g_V_show_14, g_V_show_15, snd_bad _ _, snd_bad _ _, g_V_show_18, snd_bad _ _, snd_bad _ _, g_V_show_21, g_V_show_22, g_V_show_23, snd_bad _ _, snd_bad _ _, g_V_show_26, snd_bad _ _, g_V_show_28, g_V_show_29, snd_bad _ _, snd_bad _ _, g_V_show_32, snd_bad _ _, g_V_show_34, g_V_show_35, snd_bad _ _, snd_bad _ _, g_V_show_38, g_V_show_39, g_V_show_40, snd_bad _ _, snd_bad _ _, g_V_show_43, snd_bad _ _, g_V_show_45, g_V_show_46, snd_bad _ _, snd_bad _ _, g_V_show_49, g_V_show_50, snd_bad _ _, snd_bad _ _, g_V_show_53, g_V_show_54, snd_bad _ _, snd_bad _ _, g_V_show_57, snd_bad _ _, g_V_show_59, g_V_show_60, g_V_show_61, snd_bad _ _, snd_bad _ _, g_V_show_64, g_V_show_65, snd_bad _ _, snd_bad _ _, g_V_show_68, g_V_show_69, snd_bad _ _, g_V_show_71, g_V_show_72, snd_bad _ _, snd_bad _ _, g_V_show_75, g_V_show_76, g_V_show_77, g_V_show_78, snd_bad _ _, snd_bad _ _, g_V_show_81, g_V_show_82, g_V_show_83, snd_bad _ _, snd_bad _ _, g_V_show_86, snd_bad _ _, snd_bad _ _, g_V_show_89, snd_bad _ _, snd_bad _ _, g_V_show_92, trivial⟩
theorem d_V_markGoodAndSeen_0 : decode (tm_c 98) 0 = .ok (.iconst (1), 1) := by decide +kernel
theorem d_V_markGoodAndSeen_1 : decode (tm_c 98) 1 = .ok (.istore_n 3, 1) := by decide +kernel
theorem d_V_markGoodAndSeen_2 : decode (tm_c 98) 2 = .ok (.iload_n 3, 1) := by decide +kernel
theorem d_V_markGoodAndSeen_3 : decode (tm_c 98) 3 = .ok (.aload_n 1, 1) := by decide +kernel
theorem d_V_markGoodAndSeen_4 : decode (tm_c 98) 4 = .ok (.invokevirtual 56, 3) := by decide +kernel
theorem d_V_markGoodAndSeen_7 : decode (tm_c 98) 7 = .ok (.if_icmp .gt (98), 3) := by decide +kernel
theorem d_V_markGoodAndSeen_10 : decode (tm_c 98) 10 = .ok (.aload_n 1, 1) := by decide +kernel
theorem d_V_markGoodAndSeen_11 : decode (tm_c 98) 11 = .ok (.iload_n 3, 1) := by decide +kernel
theorem d_V_markGoodAndSeen_12 : decode (tm_c 98) 12 = .ok (.iconst (0), 1) := by decide +kernel
theorem d_V_markGoodAndSeen_13 : decode (tm_c 98) 13 = .ok (.invokevirtual 52, 3) := by decide +kernel
theorem d_V_markGoodAndSeen_16 : decode (tm_c 98) 16 = .ok (.istore 4, 2) := by decide +kernel
theorem d_V_markGoodAndSeen_18 : decode (tm_c 98) 18 = .ok (.aload_n 0, 1) := by decide +kernel
theorem d_V_markGoodAndSeen_19 : decode (tm_c 98) 19 = .ok (.getfield 21, 3) := by decide +kernel
theorem d_V_markGoodAndSeen_22 : decode (tm_c 98) 22 = .ok (.iload_n 3, 1) := by decide +kernel
theorem d_V_markGoodAndSeen_23 : decode (tm_c 98) 23 = .ok (.aload_n 2, 1) := by decide +kernel
theorem d_V_markGoodAndSeen_24 : decode (tm_c 98) 24 = .ok (.iload_n 3, 1) := by decide +kernel
theorem d_V_markGoodAndSeen_25 : decode (tm_c 98) 25 = .ok (.invokevirtual 59, 3) := by decide +kernel
theorem d_V_markGoodAndSeen_28 : decode (tm_c 98) 28 = .ok (.ifCond .eq (19), 3) := by decide +kernel
theorem d_V_markGoodAndSeen_31 : decode (tm_c 98) 31 = .ok (.aload_n 2, 1) := by decide +kernel
theorem d_V_markGoodAndSeen_32 : decode (tm_c 98) 32 = .ok (.aload_n 1, 1) := by decide +kernel
theorem d_V_markGoodAndSeen_33 : decode (tm_c 98) 33 = .ok (.iload_n 3, 1) := by decide +kernel
theorem d_V_markGoodAndSeen_34 : decode (tm_c 98) 34 = .ok (.invokevirtual 65, 3) := by decide +kernel
theorem d_V_markGoodAndSeen_37 : decode (tm_c 98) 37 = .ok (.invokevirtual 59, 3) := by decide +kernel
theorem d_V_markGoodAndSeen_40 : decode (tm_c 98) 40 = .ok (.ifCond .ne (7), 3) := by decide +kernel
theorem d_V_markGoodAndSeen_43 : decode (tm_c 98) 43 = .ok (.iconst (1), 1) := by decide +kernel
theorem d_V_markGoodAndSeen_44 : decode (tm_c 98) 44 = .ok (.goto (4), 3) := by decide +kernel
theorem d_V_markGoodAndSeen_47 : decode (tm_c 98) 47 = .ok (.iconst (0), 1) := by decide +kernel
theorem d_V_markGoodAndSeen_48 : decode (tm_c 98) 48 = .ok (.bastore, 1) := by decide +kernel
theorem d_V_markGoodAndSeen_49 : decode (tm_c 98) 49 = .ok (.aload_n 0, 1) := by decide +kernel
theorem d_V_markGoodAndSeen_50 : decode (tm_c 98) 50 = .ok (.getfield 25, 3) := by decide +kernel
theorem d_V_markGoodAndSeen_53 : decode (tm_c 98) 53 = .ok (.iload_n 3, 1) := by decide +kernel
theorem d_V_markGoodAndSeen_54 : decode (tm_c 98) 54 = .ok (.aload_n 0, 1) := by decide +kernel
theorem d_V_markGoodAndSeen_55 : decode (tm_c 98) 55 = .ok (.getfield 21, 3) := by decide +kernel
theorem d_V_markGoodAndSeen_58 : decode (tm_c 98) 58 = .ok (.iload_n 3, 1) := by decide +kernel
theorem d_V_markGoodAndSeen_59 : decode (tm_c 98) 59 = .ok (.baload, 1) := by decide +kernel
theorem d_V_markGoodAndSeen_60 : decode (tm_c 98) 60 = .ok (.ifCond .eq (12), 3) := by decide +kernel
theorem d_V_markGoodAndSeen_63 : decode (tm_c 98) 63 = .ok (.iload 4, 2) := by decide +kernel
theorem d_V_markGoodAndSeen_65 : decode (tm_c 98) 65 = .ok (.ifCond .ne (7), 3) := by decide +kernel
theorem d_V_markGoodAndSeen_68 : decode (tm_c 98) 68 = .ok (.iconst (1), 1) := by decide +kernel
theorem d_V_markGoodAndSeen_69 : decode (tm_c 98) 69 = .ok (.goto (4), 3) := by decide +kernel
theorem d_V_markGoodAndSeen_72 : decode (tm_c 98) 72 = .ok (.iconst (0), 1) := by decide +kernel
theorem d_V_markGoodAndSeen_73 : decode (tm_c 98) 73 = .ok (.bastore, 1) := by decide +kernel
theorem d_V_markGoodAndSeen_74 : decode (tm_c 98) 74 = .ok (.aload_n 0, 1) := by decide +kernel
theorem d_V_markGoodAndSeen_75 : decode (tm_c 98) 75 = .ok (.getfield 21, 3) := by decide +kernel
theorem d_V_markGoodAndSeen_78 : decode (tm_c 98) 78 = .ok (.iload_n 3, 1) := by decide +kernel
theorem d_V_markGoodAndSeen_79 : decode (tm_c 98) 79 = .ok (.baload, 1) := by decide +kernel
theorem d_V_markGoodAndSeen_80 : decode (tm_c 98) 80 = .ok (.ifCond .eq (19), 3) := by decide +kernel
theorem d_V_markGoodAndSeen_83 : decode (tm_c 98) 83 = .ok (.iload 4, 2) := by decide +kernel
theorem d_V_markGoodAndSeen_85 : decode (tm_c 98) 85 = .ok (.iconst (1), 1) := by decide +kernel
theorem d_V_markGoodAndSeen_86 : decode (tm_c 98) 86 = .ok (.if_icmp .ne (13), 3) := by decide +kernel
theorem d_V_markGoodAndSeen_89 : decode (tm_c 98) 89 = .ok (.aload_n 0, 1) := by decide +kernel
theorem d_V_markGoodAndSeen_90 : decode (tm_c 98) 90 = .ok (.aload_n 1, 1) := by decide +kernel
theorem d_V_markGoodAndSeen_91 : decode (tm_c 98) 91 = .ok (.iload_n 3, 1) := by decide +kernel
theorem d_V_markGoodAndSeen_92 : decode (tm_c 98) 92 = .ok (.iconst (5), 1) := by decide +kernel
theorem d_V_markGoodAndSeen_93 : decode (tm_c 98) 93 = .ok (.invokevirtual 52, 3) := by decide +kernel
theorem d_V_markGoodAndSeen_96 : decode (tm_c 98) 96 = .ok (.invokevirtual 68, 3) := by decide +kernel
theorem d_V_markGoodAndSeen_99 : decode (tm_c 98) 99 = .ok (.iinc 3 (1), 3) := by decide +kernel
theorem d_V_markGoodAndSeen_102 : decode (tm_c 98) 102 = .ok (.goto (-100), 3) := by decide +kernel
theorem d_V_markGoodAndSeen_105 : decode (tm_c 98) 105 = .ok (.return_, 1) := by decide +kernel
theorem g_V_markGoodAndSeen_0 : jSnd 98 0 (o_push 1 (1)) := snd_iconst (n := 1) (z := 1) d_V_markGoodAndSeen_0 (by decide) (by unfold jrg; omega)
theorem g_V_markGoodAndSeen_1 : jSnd 98 1 (o_istore 2 3) := snd_istore_n d_V_markGoodAndSeen_1 rfl (by decide)
theorem g_V_markGoodAndSeen_2 : jSnd 98 2 (o_iload 3 3) := snd_iload_n d_V_markGoodAndSeen_2 rfl
theorem g_V_markGoodAndSeen_3 : jSnd 98 3 (o_aload 4 1) := snd_aload_n d_V_markGoodAndSeen_3 rfl
theorem g_V_markGoodAndSeen_4 : jSnd 98 4 (o_call 7 84 1 1 11 false) := snd_callV (ci := 1) (n := 0) rfl d_V_markGoodAndSeen_4 (by decide) (by decide) (by decide) wc_84 wd_437 wd_185 wd_186 wd_122 (by decide +kernel) (by decide) (by decide)
theorem g_V_markGoodAndSeen_7 : jSnd 98 7 (o_ic_gt 10 105) := snd_ic_gt d_V_markGoodAndSeen_7 (by decide)
theorem g_V_markGoodAndSeen_10 : jSnd 98 10 (o_aload 11 1) := snd_aload_n d_V_markGoodAndSeen_10 rfl
theorem g_V_markGoodAndSeen_11 : jSnd 98 11 (o_iload 12 3) := snd_iload_n d_V_markGoodAndSeen_11 rfl
theorem g_V_markGoodAndSeen_12 : jSnd 98 12 (o_push 13 (0)) := snd_iconst (n := 0) (z := 0) d_V_markGoodAndSeen_12 (by decide) (by unfold jrg; omega)
theorem g_V_markGoodAndSeen_13 : jSnd 98 13 (o_call 16 86 3 3 11 false) := snd_callV (ci := 1) (n := 2) rfl d_V_markGoodAndSeen_13 (by decide) (by decide) (by decide) wc_86 wd_436 wd_167 wd_168 wd_122 (by decide +kernel) (by decide) (by decide)
theorem g_V_markGoodAndSeen_16 : jSnd 98 16 (o_istore 18 4) := snd_istore d_V_markGoodAndSeen_16 (by decide)
theorem g_V_markGoodAndSeen_18 : jSnd 98 18 (o_aload 19 0) := snd_aload_n d_V_markGoodAndSeen_18 rfl
theorem g_V_markGoodAndSeen_19 : jSnd 98 19 (o_getR 22 12 (4)) := snd_getR (ci := 2) (k := 4) d_V_markGoodAndSeen_19 rfl tm_in2 (by decide) wd_426 rfl
theorem g_V_markGoodAndSeen_22 : jSnd 98 22 (o_iload 23 3) := snd_iload_n d_V_markGoodAndSeen_22 rfl
theorem g_V_markGoodAndSeen_23 : jSnd 98 23 (o_aload 24 2) := snd_aload_n d_V_markGoodAndSeen_23 rfl
theorem g_V_markGoodAndSeen_24 : jSnd 98 24 (o_iload 25 3) := snd_iload_n d_V_markGoodAndSeen_24 rfl
theorem g_V_markGoodAndSeen_25 : jSnd 98 25 (o_call 28 81 2 2 10 false) := snd_callV (ci := 0) (n := 1) rfl d_V_markGoodAndSeen_25 (by decide) (by decide) (by decide) wc_81 wd_438 wd_176 wd_177 wd_128 (by decide +kernel) (by decide) (by decide)
theorem g_V_markGoodAndSeen_28 : jSnd 98 28 (o_if_eq 31 47) := snd_if_eq d_V_markGoodAndSeen_28 (by decide)
theorem g_V_markGoodAndSeen_31 : jSnd 98 31 (o_aload 32 2) := snd_aload_n d_V_markGoodAndSeen_31 rfl
theorem g_V_markGoodAndSeen_32 : jSnd 98 32 (o_aload 33 1) := snd_aload_n d_V_markGoodAndSeen_32 rfl
theorem g_V_markGoodAndSeen_33 : jSnd 98 33 (o_iload 34 3) := snd_iload_n d_V_markGoodAndSeen_33 rfl
theorem g_V_markGoodAndSeen_34 : jSnd 98 34 (o_call 37 87 2 2 11 false) := snd_callV (ci := 1) (n := 1) rfl d_V_markGoodAndSeen_34 (by decide) (by decide) (by decide) wc_87 wd_439 wd_170 wd_171 wd_122 (by decide +kernel) (by decide) (by decide)
theorem g_V_markGoodAndSeen_37 : jSnd 98 37 (o_call 40 81 2 2 10 false) := snd_callV (ci := 0) (n := 1) rfl d_V_markGoodAndSeen_37 (by decide) (by decide) (by decide) wc_81 wd_438 wd_176 wd_177 wd_128 (by decide +kernel) (by decide) (by decide)
theorem g_V_markGoodAndSeen_40 : jSnd 98 40 (o_if_ne 43 47) := snd_if_ne d_V_markGoodAndSeen_40 (by decide)
theorem g_V_markGoodAndSeen_43 : jSnd 98 43 (o_push 44 (1)) := snd_iconst (n := 1) (z := 1) d_V_markGoodAndSeen_43 (by decide) (by unfold jrg; omega)
theorem g_V_markGoodAndSeen_44 : jSnd 98 44 (o_goto 48) := snd_goto d_V_markGoodAndSeen_44 (by decide)
theorem g_V_markGoodAndSeen_47 : jSnd 98 47 (o_push 48 (0)) := snd_iconst (n := 0) (z := 0) d_V_markGoodAndSeen_47 (by decide) (by unfold jrg; omega)
theorem g_V_markGoodAndSeen_48 : jSnd 98 48 (o_zast 49) := snd_zast d_V_markGoodAndSeen_48
theorem g_V_markGoodAndSeen_49 : jSnd 98 49 (o_aload 50 0) := snd_aload_n d_V_markGoodAndSeen_49 rfl
theorem g_V_markGoodAndSeen_50 : jSnd 98 50 (o_getR 53 12 (5)) := snd_getR (ci := 2) (k := 5) d_V_markGoodAndSeen_50 rfl tm_in2 (by decide) wd_427 rfl
theorem g_V_markGoodAndSeen_53 : jSnd 98 53 (o_iload 54 3) := snd_iload_n d_V_markGoodAndSeen_53 rfl
theorem g_V_markGoodAndSeen_54 : jSnd 98 54 (o_aload 55 0) := snd_aload_n d_V_markGoodAndSeen_54 rfl
theorem g_V_markGoodAndSeen_55 : jSnd 98 55 (o_getR 58 12 (4)) := snd_getR (ci := 2) (k := 4) d_V_markGoodAndSeen_55 rfl tm_in2 (by decide) wd_426 rfl
theorem g_V_markGoodAndSeen_58 : jSnd 98 58 (o_iload 59 3) := snd_iload_n d_V_markGoodAndSeen_58 rfl
theorem g_V_markGoodAndSeen_59 : jSnd 98 59 (o_nald 60 2) := snd_zald d_V_markGoodAndSeen_59
theorem g_V_markGoodAndSeen_60 : jSnd 98 60 (o_if_eq 63 72) := snd_if_eq d_V_markGoodAndSeen_60 (by decide)
theorem g_V_markGoodAndSeen_63 : jSnd 98 63 (o_iload 65 4) := snd_iload d_V_markGoodAndSeen_63
theorem g_V_markGoodAndSeen_65 : jSnd 98 65 (o_if_ne 68 72) := snd_if_ne d_V_markGoodAndSeen_65 (by decide)
theorem g_V_markGoodAndSeen_68 : jSnd 98 68 (o_push 69 (1)) := snd_iconst (n := 1) (z := 1) d_V_markGoodAndSeen_68 (by decide) (by unfold jrg; omega)
theorem g_V_markGoodAndSeen_69 : jSnd 98 69 (o_goto 73) := snd_goto d_V_markGoodAndSeen_69 (by decide)
theorem g_V_markGoodAndSeen_72 : jSnd 98 72 (o_push 73 (0)) := snd_iconst (n := 0) (z := 0) d_V_markGoodAndSeen_72 (by decide) (by unfold jrg; omega)
theorem g_V_markGoodAndSeen_73 : jSnd 98 73 (o_zast 74) := snd_zast d_V_markGoodAndSeen_73
theorem g_V_markGoodAndSeen_74 : jSnd 98 74 (o_aload 75 0) := snd_aload_n d_V_markGoodAndSeen_74 rfl
theorem g_V_markGoodAndSeen_75 : jSnd 98 75 (o_getR 78 12 (4)) := snd_getR (ci := 2) (k := 4) d_V_markGoodAndSeen_75 rfl tm_in2 (by decide) wd_426 rfl
theorem g_V_markGoodAndSeen_78 : jSnd 98 78 (o_iload 79 3) := snd_iload_n d_V_markGoodAndSeen_78 rfl
theorem g_V_markGoodAndSeen_79 : jSnd 98 79 (o_nald 80 2) := snd_zald d_V_markGoodAndSeen_79
theorem g_V_markGoodAndSeen_80 : jSnd 98 80 (o_if_eq 83 99) := snd_if_eq d_V_markGoodAndSeen_80 (by decide)
theorem g_V_markGoodAndSeen_83 : jSnd 98 83 (o_iload 85 4) := snd_iload d_V_markGoodAndSeen_83
theorem g_V_markGoodAndSeen_85 : jSnd 98 85 (o_push 86 (1)) := snd_iconst (n := 1) (z := 1) d_V_markGoodAndSeen_85 (by decide) (by unfold jrg; omega)
theorem g_V_markGoodAndSeen_86 : jSnd 98 86 (o_ic_ne 89 99) := snd_ic_ne d_V_markGoodAndSeen_86 (by decide)
theorem g_V_markGoodAndSeen_89 : jSnd 98 89 (o_aload 90 0) := snd_aload_n d_V_markGoodAndSeen_89 rfl
theorem g_V_markGoodAndSeen_90 : jSnd 98 90 (o_aload 91 1) := snd_aload_n d_V_markGoodAndSeen_90 rfl
theorem g_V_markGoodAndSeen_91 : jSnd 98 91 (o_iload 92 3) := snd_iload_n d_V_markGoodAndSeen_91 rfl
theorem g_V_markGoodAndSeen_92 : jSnd 98 92 (o_push 93 (5)) := snd_iconst (n := 5) (z := 5) d_V_markGoodAndSeen_92 (by decide) (by unfold jrg; omega)
theorem g_V_markGoodAndSeen_93 : jSnd 98 93 (o_call 96 86 3 3 11 false) := snd_callV (ci := 1) (n := 2) rfl d_V_markGoodAndSeen_93 (by decide) (by decide) (by decide) wc_86 wd_436 wd_167 wd_168 wd_122 (by decide +kernel) (by decide) (by decide)
theorem g_V_markGoodAndSeen_96 : jSnd 98 96 (o_call 99 99 2 2 12 true) := snd_callV (ci := 2) (n := 1) rfl d_V_markGoodAndSeen_96 (by decide) (by decide) (by decide) wc_99 wd_440 wd_441 wd_442 wd_132 (by decide +kernel) (by decide) (by decide)
theorem g_V_markGoodAndSeen_99 : jSnd 98 99 (o_iinc 102 3 (1)) := snd_iinc d_V_markGoodAndSeen_99 (by decide)
theorem g_V_markGoodAndSeen_102 : jSnd 98 102 (o_goto 2) := snd_goto d_V_markGoodAndSeen_102 (by decide)
theorem g_V_markGoodAndSeen_105 : jSnd 98 105 (o_vret) := snd_vret d_V_markGoodAndSeen_105 rfl
set_option maxRecDepth 100000 in
theorem ga_V_markGoodAndSeen : jAll 98 0 tmp_V_markGoodAndSeen := ⟨g_V_markGoodAndSeen_0, g_V_markGoodAndSeen_1, g_V_markGoodAndSeen_2, g_V_markGoodAndSeen_3, g_V_markGoodAndSeen_4, snd_bad _ _, snd_bad _ _, g_V_markGoodAndSeen_7, snd_bad _ _, snd_bad _ _, g_V_markGoodAndSeen_10, g_V_markGoodAndSeen_11, g_V_markGoodAndSeen_12, g_V_markGoodAndSeen_13, snd_bad _ _, snd_bad _ _, g_V_markGoodAndSeen_16, snd_bad _ _, g_V_markGoodAndSeen_18, g_V_markGoodAndSeen_19, snd_bad _ _, snd_bad _ _, g_V_markGoodAndSeen_22, g_V_markGoodAndSeen_23, g_V_markGoodAndSeen_24, g_V_markGoodAndSeen_25, snd_bad _ _, snd_bad _ _, g_V_markGoodAndSeen_28, snd_bad _ _, snd_bad _ _, g_V_markGoodAndSeen_31, g_V_markGoodAndSeen_32, g_V_markGoodAndSeen_33, g_V_markGoodAndSeen_34, snd_bad _ _, snd_bad _ _, g_V_markGoodAndSeen_37, snd_bad _ _, snd_bad _ _, g_V_markGoodAndSeen_40, snd_bad _ _, snd_bad _ _, g_V_markGoodAndSeen_43, g_V_markGoodAndSeen_44, snd_bad _ _, snd_bad _ _, g_V_markGoodAndSeen_47, g_V_markGoodAndSeen_48, g_V_markGoodAndSeen_49, g_V_markGoodAndSeen_50, snd_bad _ _, snd_bad _ _, g_V_markGoodAndSeen_53, g_V_markGoodAndSeen_54, g_V_markGoodAndSeen_55, snd_bad _ _, snd_bad _ _, g_V_markGoodAndSeen_58, g_V_markGoodAndSeen_59, g_V_markGoodAndSeen_60, snd_bad _ _, snd_bad _ _, g_V_markGoodAndSeen_63, snd_bad _ _, g_V_markGoodAndSeen_65, snd_bad _ _, snd_bad _ _, g_V_markGoodAndSeen_68, g_V_markGoodAndSeen_69, snd_bad _ _, snd_bad _ _, g_V_markGoodAndSeen_72, g_V_markGoodAndSeen_73, g_V_markGoodAndSeen_74, g_V_markGoodAndSeen_75, snd_bad _ _, snd_bad _ _, g_V_markGoodAndSeen_78, g_V_markGoodAndSeen_79, g_V_markGoodAndSeen_80, snd_bad _ _, snd_bad _ _, g_V_markGoodAndSeen_83, snd_bad _ _, g_V_markGoodAndSeen_85, g_V_markGoodAndSeen_86, snd_bad _ _, snd_bad _ _, g_V_markGoodAndSeen_89, g_V_markGoodAndSeen_90, g_V_markGoodAndSeen_91, g_V_markGoodAndSeen_92, g_V_markGoodAndSeen_93, snd_bad _ _, snd_bad _ _, g_V_markGoodAndSeen_96, snd_bad _ _, snd_bad _ _, g_V_markGoodAndSeen_99, snd_bad _ _, snd_bad _ _, g_V_markGoodAndSeen_102, snd_bad _ _, snd_bad _ _, g_V_markGoodAndSeen_105, trivial⟩
theorem d_V_hide_0 : decode (tm_c 99) 0 = .ok (.iload_n 1, 1) := by decide +kernel
theorem d_V_hide_1 : decode (tm_c 99) 1 = .ok (.ifCond .lt (19), 3) := by decide +kernel
theorem d_V_hide_4 : decode (tm_c 99) 4 = .ok (.iload_n 1, 1) := by decide +kernel
theorem d_V_hide_5 : decode (tm_c 99) 5 = .ok (.aload_n 0, 1) := by decide +kernel
theorem d_V_hide_6 : decode (tm_c 99) 6 = .ok (.getfield 25, 3) := by decide +kernel
theorem d_V_hide_9 : decode (tm_c 99) 9 = .ok (.arraylength, 1) := by decide +kernel
theorem d_V_hide_10 : decode (tm_c 99) 10 = .ok (.if_icmp .ge (10), 3) := by decide +kernel
theorem d_V_hide_13 : decode (tm_c 99) 13 = .ok (.aload_n 0, 1) := by decide +kernel
theorem d_V_hide_14 : decode (tm_c 99) 14 = .ok (.getfield 25, 3) := by decide +kernel
theorem d_V_hide_17 : decode (tm_c 99) 17 = .ok (.iload_n 1, 1) := by decide +kernel
theorem d_V_hide_18 : decode (tm_c 99) 18 = .ok (.iconst (0), 1) := by decide +kernel
theorem d_V_hide_19 : decode (tm_c 99) 19 = .ok (.bastore, 1) := by decide +kernel
theorem d_V_hide_20 : decode (tm_c 99) 20 = .ok (.return_, 1) := by decide +kernel
theorem g_V_hide_0 : jSnd 99 0 (o_iload 1 1) := snd_iload_n d_V_hide_0 rfl
theorem g_V_hide_1 : jSnd 99 1 (o_if_lt 4 20) := snd_if_lt d_V_hide_1 (by decide)
theorem g_V_hide_4 : jSnd 99 4 (o_iload 5 1) := snd_iload_n d_V_hide_4 rfl
theorem g_V_hide_5 : jSnd 99 5 (o_aload 6 0) := snd_aload_n d_V_hide_5 rfl
theorem g_V_hide_6 : jSnd 99 6 (o_getR 9 12 (5)) := snd_getR (ci := 2) (k := 5) d_V_hide_6 rfl tm_in2 (by decide) wd_427 rfl
theorem g_V_hide_9 : jSnd 99 9 (o_alen 10 2) := snd_alen (t0 := 1) d_V_hide_9 (by decide) (by decide) rfl
theorem g_V_hide_10 : jSnd 99 10 (o_ic_ge 13 20) := snd_ic_ge d_V_hide_10 (by decide)
theorem g_V_hide_13 : jSnd 99 13 (o_aload 14 0) := snd_aload_n d_V_hide_13 rfl
theorem g_V_hide_14 : jSnd 99 14 (o_getR 17 12 (5)) := snd_getR (ci := 2) (k := 5) d_V_hide_14 rfl tm_in2 (by decide) wd_427 rfl
theorem g_V_hide_17 : jSnd 99 17 (o_iload 18 1) := snd_iload_n d_V_hide_17 rfl
theorem g_V_hide_18 : jSnd 99 18 (o_push 19 (0)) := snd_iconst (n := 0) (z := 0) d_V_hide_18 (by decide) (by unfold jrg; omega)
theorem g_V_hide_19 : jSnd 99 19 (o_zast 20) := snd_zast d_V_hide_19
theorem g_V_hide_20 : jSnd 99 20 (o_vret) := snd_vret d_V_hide_20 rfl
set_option maxRecDepth 100000 in
theorem ga_V_hide : jAll 99 0 tmp_V_hide := ⟨g_V_hide_0, g_V_hide_1, snd_bad _ _, snd_bad _ _, g_V_hide_4, g_V_hide_5, g_V_hide_6, snd_bad _ _, snd_bad _ _, g_V_hide_9, g_V_hide_10, snd_bad _ _, snd_bad _ _, g_V_hide_13, g_V_hide_14, snd_bad _ _, snd_bad _ _, g_V_hide_17, g_V_hide_18, g_V_hide_19, g_V_hide_20, trivial⟩
theorem d_V_size_0 : decode (tm_c 100) 0 = .ok (.aload_n 0, 1) := by decide +kernel
theorem d_V_size_1 : decode (tm_c 100) 1 = .ok (.getfield 38, 3) := by decide +kernel
theorem d_V_size_4 : decode (tm_c 100) 4 = .ok (.ireturn, 1) := by decide +kernel
theorem g_V_size_0 : jSnd 100 0 (o_aload 1 0) := snd_aload_n d_V_size_0 rfl
theorem g_V_size_1 : jSnd 100 1 (o_getI 4 12 (0)) := snd_getI (ci := 2) (k := 0) d_V_size_1 rfl tm_in2 (by decide) wd_433 rfl
theorem g_V_size_4 : jSnd 100 4 (o_iret) := snd_iret d_V_size_4 rfl
set_option maxRecDepth 100000 in
theorem ga_V_size : jAll 100 0 tmp_V_size := ⟨g_V_size_0, g_V_size_1, snd_bad _ _, snd_bad _ _, g_V_size_4, trivial⟩
theorem d_V_isGood_0 : decode (tm_c 101) 0 = .ok (.iload_n 1, 1) := by decide +kernel
theorem d_V_isGood_1 : decode (tm_c 101) 1 = .ok (.ifCond .lt (25), 3) := by decide +kernel
theorem d_V_isGood_4 : decode (tm_c 101) 4 = .ok (.iload_n 1, 1) := by decide +kernel
theorem d_V_isGood_5 : decode (tm_c 101) 5 = .ok (.aload_n 0, 1) := by decide +kernel
theorem d_V_isGood_6 : decode (tm_c 101) 6 = .ok (.getfield 21, 3) := by decide +kernel
theorem d_V_isGood_9 : decode (tm_c 101) 9 = .ok (.arraylength, 1) := by decide +kernel
theorem d_V_isGood_10 : decode (tm_c 101) 10 = .ok (.if_icmp .ge (16), 3) := by decide +kernel
theorem d_V_isGood_13 : decode (tm_c 101) 13 = .ok (.aload_n 0, 1) := by decide +kernel
theorem d_V_isGood_14 : decode (tm_c 101) 14 = .ok (.getfield 21, 3) := by decide +kernel
theorem d_V_isGood_17 : decode (tm_c 101) 17 = .ok (.iload_n 1, 1) := by decide +kernel
theorem d_V_isGood_18 : decode (tm_c 101) 18 = .ok (.baload, 1) := by decide +kernel
theorem d_V_isGood_19 : decode (tm_c 101) 19 = .ok (.ifCond .eq (7), 3) := by decide +kernel
theorem d_V_isGood_22 : decode (tm_c 101) 22 = .ok (.iconst (1), 1) := by decide +kernel
theorem d_V_isGood_23 : decode (tm_c 101) 23 = .ok (.goto (4), 3) := by decide +kernel
theorem d_V_isGood_26 : decode (tm_c 101) 26 = .ok (.iconst (0), 1) := by decide +kernel
theorem d_V_isGood_27 : decode (tm_c 101) 27 = .ok (.ireturn, 1) := by decide +kernel
theorem g_V_isGood_0 : jSnd 101 0 (o_iload 1 1) := snd_iload_n d_V_isGood_0 rfl
theorem g_V_isGood_1 : jSnd 101 1 (o_if_lt 4 26) := snd_if_lt d_V_isGood_1 (by decide)
theorem g_V_isGood_4 : jSnd 101 4 (o_iload 5 1) := snd_iload_n d_V_isGood_4 rfl
theorem g_V_isGood_5 : jSnd 101 5 (o_aload 6 0) := snd_aload_n d_V_isGood_5 rfl
theorem g_V_isGood_6 : jSnd 101 6 (o_getR 9 12 (4)) := snd_getR (ci := 2) (k := 4) d_V_isGood_6 rfl tm_in2 (by decide) wd_426 rfl
theorem g_V_isGood_9 : jSnd 101 9 (o_alen 10 2) := snd_alen (t0 := 1) d_V_isGood_9 (by decide) (by decide) rfl
theorem g_V_isGood_10 : jSnd 101 10 (o_ic_ge 13 26) := snd_ic_ge d_V_isGood_10 (by decide)
theorem g_V_isGood_13 : jSnd 101 13 (o_aload 14 0) := snd_aload_n d_V_isGood_13 rfl
theorem g_V_isGood_14 : jSnd 101 14 (o_getR 17 12 (4)) := snd_getR (ci := 2) (k := 4) d_V_isGood_14 rfl tm_in2 (by decide) wd_426 rfl
theorem g_V_isGood_17 : jSnd 101 17 (o_iload 18 1) := snd_iload_n d_V_isGood_17 rfl
theorem g_V_isGood_18 : jSnd 101 18 (o_nald 19 2) := snd_zald d_V_isGood_18
theorem g_V_isGood_19 : jSnd 101 19 (o_if_eq 22 26) := snd_if_eq d_V_isGood_19 (by decide)
theorem g_V_isGood_22 : jSnd 101 22 (o_push 23 (1)) := snd_iconst (n := 1) (z := 1) d_V_isGood_22 (by decide) (by unfold jrg; omega)
theorem g_V_isGood_23 : jSnd 101 23 (o_goto 27) := snd_goto d_V_isGood_23 (by decide)
theorem g_V_isGood_26 : jSnd 101 26 (o_push 27 (0)) := snd_iconst (n := 0) (z := 0) d_V_isGood_26 (by decide) (by unfold jrg; omega)
theorem g_V_isGood_27 : jSnd 101 27 (o_zret) := snd_zret d_V_isGood_27 rfl
set_option maxRecDepth 100000 in
theorem ga_V_isGood : jAll 101 0 tmp_V_isGood := ⟨g_V_isGood_0, g_V_isGood_1, snd_bad _ _, snd_bad _ _, g_V_isGood_4, g_V_isGood_5, g_V_isGood_6, snd_bad _ _, snd_bad _ _, g_V_isGood_9, g_V_isGood_10, snd_bad _ _, snd_bad _ _, g_V_isGood_13, g_V_isGood_14, snd_bad _ _, snd_bad _ _, g_V_isGood_17, g_V_isGood_18, g_V_isGood_19, snd_bad _ _, snd_bad _ _, g_V_isGood_22, g_V_isGood_23, snd_bad _ _, snd_bad _ _, g_V_isGood_26, g_V_isGood_27, trivial⟩
theorem d_V_hasPlace_0 : decode (tm_c 102) 0 = .ok (.iload_n 1, 1) := by decide +kernel
theorem d_V_hasPlace_1 : decode (tm_c 102) 1 = .ok (.ifCond .lt (15), 3) := by decide +kernel
theorem d_V_hasPlace_4 : decode (tm_c 102) 4 = .ok (.iload_n 1, 1) := by decide +kernel
theorem d_V_hasPlace_5 : decode (tm_c 102) 5 = .ok (.aload_n 0, 1) := by decide +kernel
theorem d_V_hasPlace_6 : decode (tm_c 102) 6 = .ok (.getfield 38, 3) := by decide +kernel
theorem d_V_hasPlace_9 : decode (tm_c 102) 9 = .ok (.if_icmp .ge (7), 3) := by decide +kernel
theorem d_V_hasPlace_12 : decode (tm_c 102) 12 = .ok (.iconst (1), 1) := by decide +kernel
theorem d_V_hasPlace_13 : decode (tm_c 102) 13 = .ok (.goto (4), 3) := by decide +kernel
theorem d_V_hasPlace_16 : decode (tm_c 102) 16 = .ok (.iconst (0), 1) := by decide +kernel
theorem d_V_hasPlace_17 : decode (tm_c 102) 17 = .ok (.ireturn, 1) := by decide +kernel
theorem g_V_hasPlace_0 : jSnd 102 0 (o_iload 1 1) := snd_iload_n d_V_hasPlace_0 rfl
theorem g_V_hasPlace_1 : jSnd 102 1 (o_if_lt 4 16) := snd_if_lt d_V_hasPlace_1 (by decide)
theorem g_V_hasPlace_4 : jSnd 102 4 (o_iload 5 1) := snd_iload_n d_V_hasPlace_4 rfl
theorem g_V_hasPlace_5 : jSnd 102 5 (o_aload 6 0) := snd_aload_n d_V_hasPlace_5 rfl
theorem g_V_hasPlace_6 : jSnd 102 6 (o_getI 9 12 (0)) := snd_getI (ci := 2) (k := 0) d_V_hasPlace_6 rfl tm_in2 (by decide) wd_433 rfl
theorem g_V_hasPlace_9 : jSnd 102 9 (o_ic_ge 12 16) := snd_ic_ge d_V_hasPlace_9 (by decide)
theorem g_V_hasPlace_12 : jSnd 102 12 (o_push 13 (1)) := snd_iconst (n := 1) (z := 1) d_V_hasPlace_12 (by decide) (by unfold jrg; omega)
theorem g_V_hasPlace_13 : jSnd 102 13 (o_goto 17) := snd_goto d_V_hasPlace_13 (by decide)
theorem g_V_hasPlace_16 : jSnd 102 16 (o_push 17 (0)) := snd_iconst (n := 0) (z := 0) d_V_hasPlace_16 (by decide) (by unfold jrg; omega)
theorem g_V_hasPlace_17 : jSnd 102 17 (o_zret) := snd_zret d_V_hasPlace_17 rfl
set_option maxRecDepth 100000 in
theorem ga_V_hasPlace : jAll 102 0 tmp_V_hasPlace := ⟨g_V_hasPlace_0, g_V_hasPlace_1, snd_bad _ _, snd_bad _ _, g_V_hasPlace_4, g_V_hasPlace_5, g_V_hasPlace_6, snd_bad _ _, snd_bad _ _, g_V_hasPlace_9, snd_bad _ _, snd_bad _ _, g_V_hasPlace_12, g_V_hasPlace_13, snd_bad _ _, snd_bad _ _, g_V_hasPlace_16, g_V_hasPlace_17, trivial⟩
theorem d_V_hasRange_0 : decode (tm_c 103) 0 = .ok (.iload_n 1, 1) := by decide +kernel
theorem d_V_hasRange_1 : decode (tm_c 103) 1 = .ok (.ifCond .lt (20), 3) := by decide +kernel
theorem d_V_hasRange_4 : decode (tm_c 103) 4 = .ok (.iload_n 1, 1) := by decide +kernel
theorem d_V_hasRange_5 : decode (tm_c 103) 5 = .ok (.iload_n 2, 1) := by decide +kernel
theorem d_V_hasRange_6 : decode (tm_c 103) 6 = .ok (.if_icmp .ge (15), 3) := by decide +kernel
theorem d_V_hasRange_9 : decode (tm_c 103) 9 = .ok (.iload_n 2, 1) := by decide +kernel
theorem d_V_hasRange_10 : decode (tm_c 103) 10 = .ok (.aload_n 0, 1) := by decide +kernel
theorem d_V_hasRange_11 : decode (tm_c 103) 11 = .ok (.getfield 38, 3) := by decide +kernel
theorem d_V_hasRange_14 : decode (tm_c 103) 14 = .ok (.if_icmp .gt (7), 3) := by decide +kernel
theorem d_V_hasRange_17 : decode (tm_c 103) 17 = .ok (.iconst (1), 1) := by decide +kernel
theorem d_V_hasRange_18 : decode (tm_c 103) 18 = .ok (.goto (4), 3) := by decide +kernel
theorem d_V_hasRange_21 : decode (tm_c 103) 21 = .ok (.iconst (0), 1) := by decide +kernel
theorem d_V_hasRange_22 : decode (tm_c 103) 22 = .ok (.ireturn, 1) := by decide +kernel
theorem g_V_hasRange_0 : jSnd 103 0 (o_iload 1 1) := snd_iload_n d_V_hasRange_0 rfl
theorem g_V_hasRange_1 : jSnd 103 1 (o_if_lt 4 21) := snd_if_lt d_V_hasRange_1 (by decide)
theorem g_V_hasRange_4 : jSnd 103 4 (o_iload 5 1) := snd_iload_n d_V_hasRange_4 rfl
theorem g_V_hasRange_5 : jSnd 103 5 (o_iload 6 2) := snd_iload_n d_V_hasRange_5 rfl
theorem g_V_hasRange_6 : jSnd 103 6 (o_ic_ge 9 21) := snd_ic_ge d_V_hasRange_6 (by decide)
theorem g_V_hasRange_9 : jSnd 103 9 (o_iload 10 2) := snd_iload_n d_V_hasRange_9 rfl
theorem g_V_hasRange_10 : jSnd 103 10 (o_aload 11 0) := snd_aload_n d_V_hasRange_10 rfl
theorem g_V_hasRange_11 : jSnd 103 11 (o_getI 14 12 (0)) := snd_getI (ci := 2) (k := 0) d_V_hasRange_11 rfl tm_in2 (by decide) wd_433 rfl
theorem g_V_hasRange_14 : jSnd 103 14 (o_ic_gt 17 21) := snd_ic_gt d_V_hasRange_14 (by decide)
theorem g_V_hasRange_17 : jSnd 103 17 (o_push 18 (1)) := snd_iconst (n := 1) (z := 1) d_V_hasRange_17 (by decide) (by unfold jrg; omega)
theorem g_V_hasRange_18 : jSnd 103 18 (o_goto 22) := snd_goto d_V_hasRange_18 (by decide)
theorem g_V_hasRange_21 : jSnd 103 21 (o_push 22 (0)) := snd_iconst (n := 0) (z := 0) d_V_hasRange_21 (by decide) (by unfold jrg; omega)
theorem g_V_hasRange_22 : jSnd 103 22 (o_zret) := snd_zret d_V_hasRange_22 rfl
set_option maxRecDepth 100000 in
theorem ga_V_hasRange : jAll 103 0 tmp_V_hasRange := ⟨g_V_hasRange_0, g_V_hasRange_1, snd_bad _ _, snd_bad _ _, g_V_hasRange_4, g_V_hasRange_5, g_V_hasRange_6, snd_bad _ _, snd_bad _ _, g_V_hasRange_9, g_V_hasRange_10, g_V_hasRange_11, snd_bad _ _, snd_bad _ _, g_V_hasRange_14, snd_bad _ _, snd_bad _ _, g_V_hasRange_17, g_V_hasRange_18, snd_bad _ _, snd_bad _ _, g_V_hasRange_21, g_V_hasRange_22, trivial⟩
theorem d_V_insertAt_0 : decode (tm_c 104) 0 = .ok (.aload_n 0, 1) := by decide +kernel
theorem d_V_insertAt_1 : decode (tm_c 104) 1 = .ok (.iload_n 1, 1) := by decide +kernel
theorem d_V_insertAt_2 : decode (tm_c 104) 2 = .ok (.invokevirtual 72, 3) := by decide +kernel
theorem d_V_insertAt_5 : decode (tm_c 104) 5 = .ok (.ifCond .eq (12), 3) := by decide +kernel
theorem d_V_insertAt_8 : decode (tm_c 104) 8 = .ok (.aload_n 0, 1) := by decide +kernel
theorem d_V_insertAt_9 : decode (tm_c 104) 9 = .ok (.getfield 9, 3) := by decide +kernel
theorem d_V_insertAt_12 : decode (tm_c 104) 12 = .ok (.iload_n 1, 1) := by decide +kernel
theorem d_V_insertAt_13 : decode (tm_c 104) 13 = .ok (.iaload, 1) := by decide +kernel
theorem d_V_insertAt_14 : decode (tm_c 104) 14 = .ok (.goto (4), 3) := by decide +kernel
theorem d_V_insertAt_17 : decode (tm_c 104) 17 = .ok (.iconst (0), 1) := by decide +kernel
theorem d_V_insertAt_18 : decode (tm_c 104) 18 = .ok (.ireturn, 1) := by decide +kernel
theorem g_V_insertAt_0 : jSnd 104 0 (o_aload 1 0) := snd_aload_n d_V_insertAt_0 rfl
theorem g_V_insertAt_1 : jSnd 104 1 (o_iload 2 1) := snd_iload_n d_V_insertAt_1 rfl
theorem g_V_insertAt_2 : jSnd 104 2 (o_call 5 102 2 2 12 false) := snd_callV (ci := 2) (n := 1) rfl d_V_insertAt_2 (by decide) (by decide) (by decide) wc_102 wd_443 wd_151 wd_152 wd_132 (by decide +kernel) (by decide) (by decide)
theorem g_V_insertAt_5 : jSnd 104 5 (o_if_eq 8 17) := snd_if_eq d_V_insertAt_5 (by decide)
theorem g_V_insertAt_8 : jSnd 104 8 (o_aload 9 0) := snd_aload_n d_V_insertAt_8 rfl
theorem g_V_insertAt_9 : jSnd 104 9 (o_getR 12 12 (1)) := snd_getR (ci := 2) (k := 1) d_V_insertAt_9 rfl tm_in2 (by decide) wd_423 rfl
theorem g_V_insertAt_12 : jSnd 104 12 (o_iload 13 1) := snd_iload_n d_V_insertAt_12 rfl
theorem g_V_insertAt_13 : jSnd 104 13 (o_nald 14 1) := snd_iald d_V_insertAt_13
theorem g_V_insertAt_14 : jSnd 104 14 (o_goto 18) := snd_goto d_V_insertAt_14 (by decide)
theorem g_V_insertAt_17 : jSnd 104 17 (o_push 18 (0)) := snd_iconst (n := 0) (z := 0) d_V_insertAt_17 (by decide) (by unfold jrg; omega)
theorem g_V_insertAt_18 : jSnd 104 18 (o_iret) := snd_iret d_V_insertAt_18 rfl
set_option maxRecDepth 100000 in
theorem ga_V_insertAt : jAll 104 0 tmp_V_insertAt := ⟨g_V_insertAt_0, g_V_insertAt_1, g_V_insertAt_2, snd_bad _ _, snd_bad _ _, g_V_insertAt_5, snd_bad _ _, snd_bad _ _, g_V_insertAt_8, g_V_insertAt_9, snd_bad _ _, snd_bad _ _, g_V_insertAt_12, g_V_insertAt_13, g_V_insertAt_14, snd_bad _ _, snd_bad _ _, g_V_insertAt_17, g_V_insertAt_18, trivial⟩
theorem d_V_signAt_0 : decode (tm_c 105) 0 = .ok (.aload_n 0, 1) := by decide +kernel
theorem d_V_signAt_1 : decode (tm_c 105) 1 = .ok (.iload_n 1, 1) := by decide +kernel
theorem d_V_signAt_2 : decode (tm_c 105) 2 = .ok (.invokevirtual 72, 3) := by decide +kernel
theorem d_V_signAt_5 : decode (tm_c 105) 5 = .ok (.ifCond .eq (12), 3) := by decide +kernel
theorem d_V_signAt_8 : decode (tm_c 105) 8 = .ok (.aload_n 0, 1) := by decide +kernel
theorem d_V_signAt_9 : decode (tm_c 105) 9 = .ok (.getfield 15, 3) := by decide +kernel
theorem d_V_signAt_12 : decode (tm_c 105) 12 = .ok (.iload_n 1, 1) := by decide +kernel
theorem d_V_signAt_13 : decode (tm_c 105) 13 = .ok (.iaload, 1) := by decide +kernel
theorem d_V_signAt_14 : decode (tm_c 105) 14 = .ok (.goto (4), 3) := by decide +kernel
theorem d_V_signAt_17 : decode (tm_c 105) 17 = .ok (.iconst (-1), 1) := by decide +kernel
theorem d_V_signAt_18 : decode (tm_c 105) 18 = .ok (.ireturn, 1) := by decide +kernel
theorem g_V_signAt_0 : jSnd 105 0 (o_aload 1 0) := snd_aload_n d_V_signAt_0 rfl
theorem g_V_signAt_1 : jSnd 105 1 (o_iload 2 1) := snd_iload_n d_V_signAt_1 rfl
theorem g_V_signAt_2 : jSnd 105 2 (o_call 5 102 2 2 12 false) := snd_callV (ci := 2) (n := 1) rfl d_V_signAt_2 (by decide) (by decide) (by decide) wc_102 wd_443 wd_151 wd_152 wd_132 (by decide +kernel) (by decide) (by decide)
theorem g_V_signAt_5 : jSnd 105 5 (o_if_eq 8 17) := snd_if_eq d_V_signAt_5 (by decide)
theorem g_V_signAt_8 : jSnd 105 8 (o_aload 9 0) := snd_aload_n d_V_signAt_8 rfl
theorem g_V_signAt_9 : jSnd 105 9 (o_getR 12 12 (2)) := snd_getR (ci := 2) (k := 2) d_V_signAt_9 rfl tm_in2 (by decide) wd_424 rfl
theorem g_V_signAt_12 : jSnd 105 12 (o_iload 13 1) := snd_iload_n d_V_signAt_12 rfl
theorem g_V_signAt_13 : jSnd 105 13 (o_nald 14 1) := snd_iald d_V_signAt_13
theorem g_V_signAt_14 : jSnd 105 14 (o_goto 18) := snd_goto d_V_signAt_14 (by decide)
theorem g_V_signAt_17 : jSnd 105 17 (o_push 18 (-1)) := snd_iconst (n := -1) (z := -1) d_V_signAt_17 (by decide) (by unfold jrg; omega)
theorem g_V_signAt_18 : jSnd 105 18 (o_iret) := snd_iret d_V_signAt_18 rfl
set_option maxRecDepth 100000 in
theorem ga_V_signAt : jAll 105 0 tmp_V_signAt := ⟨g_V_signAt_0, g_V_signAt_1, g_V_signAt_2, snd_bad _ _, snd_bad _ _, g_V_signAt_5, snd_bad _ _, snd_bad _ _, g_V_signAt_8, g_V_signAt_9, snd_bad _ _, snd_bad _ _, g_V_signAt_12, g_V_signAt_13, g_V_signAt_14, snd_bad _ _, snd_bad _ _, g_V_signAt_17, g_V_signAt_18, trivial⟩
theorem d_V_aheadOf_0 : decode (tm_c 106) 0 = .ok (.iload_n 1, 1) := by decide +kernel
theorem d_V_aheadOf_1 : decode (tm_c 106) 1 = .ok (.ifCond .lt (21), 3) := by decide +kernel
theorem d_V_aheadOf_4 : decode (tm_c 106) 4 = .ok (.iload_n 1, 1) := by decide +kernel
theorem d_V_aheadOf_5 : decode (tm_c 106) 5 = .ok (.aload_n 0, 1) := by decide +kernel
theorem d_V_aheadOf_6 : decode (tm_c 106) 6 = .ok (.getfield 28, 3) := by decide +kernel
theorem d_V_aheadOf_9 : decode (tm_c 106) 9 = .ok (.arraylength, 1) := by decide +kernel
theorem d_V_aheadOf_10 : decode (tm_c 106) 10 = .ok (.if_icmp .ge (12), 3) := by decide +kernel
theorem d_V_aheadOf_13 : decode (tm_c 106) 13 = .ok (.aload_n 0, 1) := by decide +kernel
theorem d_V_aheadOf_14 : decode (tm_c 106) 14 = .ok (.getfield 28, 3) := by decide +kernel
theorem d_V_aheadOf_17 : decode (tm_c 106) 17 = .ok (.iload_n 1, 1) := by decide +kernel
theorem d_V_aheadOf_18 : decode (tm_c 106) 18 = .ok (.iaload, 1) := by decide +kernel
theorem d_V_aheadOf_19 : decode (tm_c 106) 19 = .ok (.goto (4), 3) := by decide +kernel
theorem d_V_aheadOf_22 : decode (tm_c 106) 22 = .ok (.iconst (0), 1) := by decide +kernel
theorem d_V_aheadOf_23 : decode (tm_c 106) 23 = .ok (.ireturn, 1) := by decide +kernel
theorem g_V_aheadOf_0 : jSnd 106 0 (o_iload 1 1) := snd_iload_n d_V_aheadOf_0 rfl
theorem g_V_aheadOf_1 : jSnd 106 1 (o_if_lt 4 22) := snd_if_lt d_V_aheadOf_1 (by decide)
theorem g_V_aheadOf_4 : jSnd 106 4 (o_iload 5 1) := snd_iload_n d_V_aheadOf_4 rfl
theorem g_V_aheadOf_5 : jSnd 106 5 (o_aload 6 0) := snd_aload_n d_V_aheadOf_5 rfl
theorem g_V_aheadOf_6 : jSnd 106 6 (o_getR 9 12 (6)) := snd_getR (ci := 2) (k := 6) d_V_aheadOf_6 rfl tm_in2 (by decide) wd_428 rfl
theorem g_V_aheadOf_9 : jSnd 106 9 (o_alen 10 1) := snd_alen (t0 := 0) d_V_aheadOf_9 (by decide) (by decide) rfl
theorem g_V_aheadOf_10 : jSnd 106 10 (o_ic_ge 13 22) := snd_ic_ge d_V_aheadOf_10 (by decide)
theorem g_V_aheadOf_13 : jSnd 106 13 (o_aload 14 0) := snd_aload_n d_V_aheadOf_13 rfl
theorem g_V_aheadOf_14 : jSnd 106 14 (o_getR 17 12 (6)) := snd_getR (ci := 2) (k := 6) d_V_aheadOf_14 rfl tm_in2 (by decide) wd_428 rfl
theorem g_V_aheadOf_17 : jSnd 106 17 (o_iload 18 1) := snd_iload_n d_V_aheadOf_17 rfl
theorem g_V_aheadOf_18 : jSnd 106 18 (o_nald 19 1) := snd_iald d_V_aheadOf_18
theorem g_V_aheadOf_19 : jSnd 106 19 (o_goto 23) := snd_goto d_V_aheadOf_19 (by decide)
theorem g_V_aheadOf_22 : jSnd 106 22 (o_push 23 (0)) := snd_iconst (n := 0) (z := 0) d_V_aheadOf_22 (by decide) (by unfold jrg; omega)
theorem g_V_aheadOf_23 : jSnd 106 23 (o_iret) := snd_iret d_V_aheadOf_23 rfl
set_option maxRecDepth 100000 in
theorem ga_V_aheadOf : jAll 106 0 tmp_V_aheadOf := ⟨g_V_aheadOf_0, g_V_aheadOf_1, snd_bad _ _, snd_bad _ _, g_V_aheadOf_4, g_V_aheadOf_5, g_V_aheadOf_6, snd_bad _ _, snd_bad _ _, g_V_aheadOf_9, g_V_aheadOf_10, snd_bad _ _, snd_bad _ _, g_V_aheadOf_13, g_V_aheadOf_14, snd_bad _ _, snd_bad _ _, g_V_aheadOf_17, g_V_aheadOf_18, g_V_aheadOf_19, snd_bad _ _, snd_bad _ _, g_V_aheadOf_22, g_V_aheadOf_23, trivial⟩
theorem d_V_aheadBehind_0 : decode (tm_c 107) 0 = .ok (.iload_n 1, 1) := by decide +kernel
theorem d_V_aheadBehind_1 : decode (tm_c 107) 1 = .ok (.ifCond .lt (25), 3) := by decide +kernel
theorem d_V_aheadBehind_4 : decode (tm_c 107) 4 = .ok (.iload_n 1, 1) := by decide +kernel
theorem d_V_aheadBehind_5 : decode (tm_c 107) 5 = .ok (.aload_n 0, 1) := by decide +kernel
theorem d_V_aheadBehind_6 : decode (tm_c 107) 6 = .ok (.getfield 25, 3) := by decide +kernel
theorem d_V_aheadBehind_9 : decode (tm_c 107) 9 = .ok (.arraylength, 1) := by decide +kernel
theorem d_V_aheadBehind_10 : decode (tm_c 107) 10 = .ok (.if_icmp .ge (16), 3) := by decide +kernel
theorem d_V_aheadBehind_13 : decode (tm_c 107) 13 = .ok (.aload_n 0, 1) := by decide +kernel
theorem d_V_aheadBehind_14 : decode (tm_c 107) 14 = .ok (.getfield 25, 3) := by decide +kernel
theorem d_V_aheadBehind_17 : decode (tm_c 107) 17 = .ok (.iload_n 1, 1) := by decide +kernel
theorem d_V_aheadBehind_18 : decode (tm_c 107) 18 = .ok (.baload, 1) := by decide +kernel
theorem d_V_aheadBehind_19 : decode (tm_c 107) 19 = .ok (.ifCond .eq (7), 3) := by decide +kernel
theorem d_V_aheadBehind_22 : decode (tm_c 107) 22 = .ok (.iconst (1), 1) := by decide +kernel
theorem d_V_aheadBehind_23 : decode (tm_c 107) 23 = .ok (.goto (4), 3) := by decide +kernel
theorem d_V_aheadBehind_26 : decode (tm_c 107) 26 = .ok (.iconst (0), 1) := by decide +kernel
theorem d_V_aheadBehind_27 : decode (tm_c 107) 27 = .ok (.istore_n 2, 1) := by decide +kernel
theorem d_V_aheadBehind_28 : decode (tm_c 107) 28 = .ok (.aload_n 0, 1) := by decide +kernel
theorem d_V_aheadBehind_29 : decode (tm_c 107) 29 = .ok (.iload_n 1, 1) := by decide +kernel
theorem d_V_aheadBehind_30 : decode (tm_c 107) 30 = .ok (.invokevirtual 75, 3) := by decide +kernel
theorem d_V_aheadBehind_33 : decode (tm_c 107) 33 = .ok (.iload_n 2, 1) := by decide +kernel
theorem d_V_aheadBehind_34 : decode (tm_c 107) 34 = .ok (.iadd, 1) := by decide +kernel
theorem d_V_aheadBehind_35 : decode (tm_c 107) 35 = .ok (.ireturn, 1) := by decide +kernel
theorem g_V_aheadBehind_0 : jSnd 107 0 (o_iload 1 1) := snd_iload_n d_V_aheadBehind_0 rfl
theorem g_V_aheadBehind_1 : jSnd 107 1 (o_if_lt 4 26) := snd_if_lt d_V_aheadBehind_1 (by decide)
theorem g_V_aheadBehind_4 : jSnd 107 4 (o_iload 5 1) := snd_iload_n d_V_aheadBehind_4 rfl
theorem g_V_aheadBehind_5 : jSnd 107 5 (o_aload 6 0) := snd_aload_n d_V_aheadBehind_5 rfl
theorem g_V_aheadBehind_6 : jSnd 107 6 (o_getR 9 12 (5)) := snd_getR (ci := 2) (k := 5) d_V_aheadBehind_6 rfl tm_in2 (by decide) wd_427 rfl
theorem g_V_aheadBehind_9 : jSnd 107 9 (o_alen 10 2) := snd_alen (t0 := 1) d_V_aheadBehind_9 (by decide) (by decide) rfl
theorem g_V_aheadBehind_10 : jSnd 107 10 (o_ic_ge 13 26) := snd_ic_ge d_V_aheadBehind_10 (by decide)
theorem g_V_aheadBehind_13 : jSnd 107 13 (o_aload 14 0) := snd_aload_n d_V_aheadBehind_13 rfl
theorem g_V_aheadBehind_14 : jSnd 107 14 (o_getR 17 12 (5)) := snd_getR (ci := 2) (k := 5) d_V_aheadBehind_14 rfl tm_in2 (by decide) wd_427 rfl
theorem g_V_aheadBehind_17 : jSnd 107 17 (o_iload 18 1) := snd_iload_n d_V_aheadBehind_17 rfl
theorem g_V_aheadBehind_18 : jSnd 107 18 (o_nald 19 2) := snd_zald d_V_aheadBehind_18
theorem g_V_aheadBehind_19 : jSnd 107 19 (o_if_eq 22 26) := snd_if_eq d_V_aheadBehind_19 (by decide)
theorem g_V_aheadBehind_22 : jSnd 107 22 (o_push 23 (1)) := snd_iconst (n := 1) (z := 1) d_V_aheadBehind_22 (by decide) (by unfold jrg; omega)
theorem g_V_aheadBehind_23 : jSnd 107 23 (o_goto 27) := snd_goto d_V_aheadBehind_23 (by decide)
theorem g_V_aheadBehind_26 : jSnd 107 26 (o_push 27 (0)) := snd_iconst (n := 0) (z := 0) d_V_aheadBehind_26 (by decide) (by unfold jrg; omega)
theorem g_V_aheadBehind_27 : jSnd 107 27 (o_istore 28 2) := snd_istore_n d_V_aheadBehind_27 rfl (by decide)
theorem g_V_aheadBehind_28 : jSnd 107 28 (o_aload 29 0) := snd_aload_n d_V_aheadBehind_28 rfl
theorem g_V_aheadBehind_29 : jSnd 107 29 (o_iload 30 1) := snd_iload_n d_V_aheadBehind_29 rfl
theorem g_V_aheadBehind_30 : jSnd 107 30 (o_call 33 106 2 2 12 false) := snd_callV (ci := 2) (n := 1) rfl d_V_aheadBehind_30 (by decide) (by decide) (by decide) wc_106 wd_444 wd_269 wd_270 wd_132 (by decide +kernel) (by decide) (by decide)
theorem g_V_aheadBehind_33 : jSnd 107 33 (o_iload 34 2) := snd_iload_n d_V_aheadBehind_33 rfl
theorem g_V_aheadBehind_34 : jSnd 107 34 (o_bin 35 f_add) := snd_iadd d_V_aheadBehind_34
theorem g_V_aheadBehind_35 : jSnd 107 35 (o_iret) := snd_iret d_V_aheadBehind_35 rfl
set_option maxRecDepth 100000 in
theorem ga_V_aheadBehind : jAll 107 0 tmp_V_aheadBehind := ⟨g_V_aheadBehind_0, g_V_aheadBehind_1, snd_bad _ _, snd_bad _ _, g_V_aheadBehind_4, g_V_aheadBehind_5, g_V_aheadBehind_6, snd_bad _ _, snd_bad _ _, g_V_aheadBehind_9, g_V_aheadBehind_10, snd_bad _ _, snd_bad _ _, g_V_aheadBehind_13, g_V_aheadBehind_14, snd_bad _ _, snd_bad _ _, g_V_aheadBehind_17, g_V_aheadBehind_18, g_V_aheadBehind_19, snd_bad _ _, snd_bad _ _, g_V_aheadBehind_22, g_V_aheadBehind_23, snd_bad _ _, snd_bad _ _, g_V_aheadBehind_26, g_V_aheadBehind_27, g_V_aheadBehind_28, g_V_aheadBehind_29, g_V_aheadBehind_30, snd_bad _ _, snd_bad _ _, g_V_aheadBehind_33, g_V_aheadBehind_34, g_V_aheadBehind_35, trivial⟩
theorem d_V_unitCount_0 : decode (tm_c 108) 0 = .ok (.iconst (0), 1) := by decide +kernel
theorem d_V_unitCount_1 : decode (tm_c 108) 1 = .ok (.istore_n 1, 1) := by decide +kernel
theorem d_V_unitCount_2 : decode (tm_c 108) 2 = .ok (.iconst (0), 1) := by decide +kernel
theorem d_V_unitCount_3 : decode (tm_c 108) 3 = .ok (.istore_n 2, 1) := by decide +kernel
theorem d_V_unitCount_4 : decode (tm_c 108) 4 = .ok (.iload_n 2, 1) := by decide +kernel
theorem d_V_unitCount_5 : decode (tm_c 108) 5 = .ok (.aload_n 0, 1) := by decide +kernel
theorem d_V_unitCount_6 : decode (tm_c 108) 6 = .ok (.getfield 38, 3) := by decide +kernel
theorem d_V_unitCount_9 : decode (tm_c 108) 9 = .ok (.if_icmp .ge (21), 3) := by decide +kernel
theorem d_V_unitCount_12 : decode (tm_c 108) 12 = .ok (.iload_n 1, 1) := by decide +kernel
theorem d_V_unitCount_13 : decode (tm_c 108) 13 = .ok (.aload_n 0, 1) := by decide +kernel
theorem d_V_unitCount_14 : decode (tm_c 108) 14 = .ok (.getfield 15, 3) := by decide +kernel
theorem d_V_unitCount_17 : decode (tm_c 108) 17 = .ok (.iload_n 2, 1) := by decide +kernel
theorem d_V_unitCount_18 : decode (tm_c 108) 18 = .ok (.iaload, 1) := by decide +kernel
theorem d_V_unitCount_19 : decode (tm_c 108) 19 = .ok (.invokestatic 78, 3) := by decide +kernel
theorem d_V_unitCount_22 : decode (tm_c 108) 22 = .ok (.iadd, 1) := by decide +kernel
theorem d_V_unitCount_23 : decode (tm_c 108) 23 = .ok (.istore_n 1, 1) := by decide +kernel
theorem d_V_unitCount_24 : decode (tm_c 108) 24 = .ok (.iinc 2 (1), 3) := by decide +kernel
theorem d_V_unitCount_27 : decode (tm_c 108) 27 = .ok (.goto (-23), 3) := by decide +kernel
theorem d_V_unitCount_30 : decode (tm_c 108) 30 = .ok (.iload_n 1, 1) := by decide +kernel
theorem d_V_unitCount_31 : decode (tm_c 108) 31 = .ok (.ireturn, 1) := by decide +kernel
theorem g_V_unitCount_0 : jSnd 108 0 (o_push 1 (0)) := snd_iconst (n := 0) (z := 0) d_V_unitCount_0 (by decide) (by unfold jrg; omega)
theorem g_V_unitCount_1 : jSnd 108 1 (o_istore 2 1) := snd_istore_n d_V_unitCount_1 rfl (by decide)
theorem g_V_unitCount_2 : jSnd 108 2 (o_push 3 (0)) := snd_iconst (n := 0) (z := 0) d_V_unitCount_2 (by decide) (by unfold jrg; omega)
theorem g_V_unitCount_3 : jSnd 108 3 (o_istore 4 2) := snd_istore_n d_V_unitCount_3 rfl (by decide)
theorem g_V_unitCount_4 : jSnd 108 4 (o_iload 5 2) := snd_iload_n d_V_unitCount_4 rfl
theorem g_V_unitCount_5 : jSnd 108 5 (o_aload 6 0) := snd_aload_n d_V_unitCount_5 rfl
theorem g_V_unitCount_6 : jSnd 108 6 (o_getI 9 12 (0)) := snd_getI (ci := 2) (k := 0) d_V_unitCount_6 rfl tm_in2 (by decide) wd_433 rfl
theorem g_V_unitCount_9 : jSnd 108 9 (o_ic_ge 12 30) := snd_ic_ge d_V_unitCount_9 (by decide)
theorem g_V_unitCount_12 : jSnd 108 12 (o_iload 13 1) := snd_iload_n d_V_unitCount_12 rfl
theorem g_V_unitCount_13 : jSnd 108 13 (o_aload 14 0) := snd_aload_n d_V_unitCount_13 rfl
theorem g_V_unitCount_14 : jSnd 108 14 (o_getR 17 12 (2)) := snd_getR (ci := 2) (k := 2) d_V_unitCount_14 rfl tm_in2 (by decide) wd_424 rfl
theorem g_V_unitCount_17 : jSnd 108 17 (o_iload 18 2) := snd_iload_n d_V_unitCount_17 rfl
theorem g_V_unitCount_18 : jSnd 108 18 (o_nald 19 1) := snd_iald d_V_unitCount_18
theorem g_V_unitCount_19 : jSnd 108 19 (o_call 22 110 1 1 0 false) := snd_callS (n := 1) d_V_unitCount_19 (by decide) (by decide) (by decide) wc_110 wd_445 wd_446 wd_132 (by decide +kernel) (by decide) (by decide)
theorem g_V_unitCount_22 : jSnd 108 22 (o_bin 23 f_add) := snd_iadd d_V_unitCount_22
theorem g_V_unitCount_23 : jSnd 108 23 (o_istore 24 1) := snd_istore_n d_V_unitCount_23 rfl (by decide)
theorem g_V_unitCount_24 : jSnd 108 24 (o_iinc 27 2 (1)) := snd_iinc d_V_unitCount_24 (by decide)
theorem g_V_unitCount_27 : jSnd 108 27 (o_goto 4) := snd_goto d_V_unitCount_27 (by decide)
theorem g_V_unitCount_30 : jSnd 108 30 (o_iload 31 1) := snd_iload_n d_V_unitCount_30 rfl
theorem g_V_unitCount_31 : jSnd 108 31 (o_iret) := snd_iret d_V_unitCount_31 rfl
set_option maxRecDepth 100000 in
theorem ga_V_unitCount : jAll 108 0 tmp_V_unitCount := ⟨g_V_unitCount_0, g_V_unitCount_1, g_V_unitCount_2, g_V_unitCount_3, g_V_unitCount_4, g_V_unitCount_5, g_V_unitCount_6, snd_bad _ _, snd_bad _ _, g_V_unitCount_9, snd_bad _ _, snd_bad _ _, g_V_unitCount_12, g_V_unitCount_13, g_V_unitCount_14, snd_bad _ _, snd_bad _ _, g_V_unitCount_17, g_V_unitCount_18, g_V_unitCount_19, snd_bad _ _, snd_bad _ _, g_V_unitCount_22, g_V_unitCount_23, g_V_unitCount_24, snd_bad _ _, snd_bad _ _, g_V_unitCount_27, snd_bad _ _, snd_bad _ _, g_V_unitCount_30, g_V_unitCount_31, trivial⟩
theorem d_V_unitAt_0 : decode (tm_c 109) 0 = .ok (.iload_n 1, 1) := by decide +kernel
theorem d_V_unitAt_1 : decode (tm_c 109) 1 = .ok (.ifCond .ge (5), 3) := by decide +kernel
theorem d_V_unitAt_4 : decode (tm_c 109) 4 = .ok (.iconst (-1), 1) := by decide +kernel
theorem d_V_unitAt_5 : decode (tm_c 109) 5 = .ok (.ireturn, 1) := by decide +kernel
theorem d_V_unitAt_6 : decode (tm_c 109) 6 = .ok (.iload_n 1, 1) := by decide +kernel
theorem d_V_unitAt_7 : decode (tm_c 109) 7 = .ok (.istore_n 2, 1) := by decide +kernel
theorem d_V_unitAt_8 : decode (tm_c 109) 8 = .ok (.iconst (0), 1) := by decide +kernel
theorem d_V_unitAt_9 : decode (tm_c 109) 9 = .ok (.istore_n 3, 1) := by decide +kernel
theorem d_V_unitAt_10 : decode (tm_c 109) 10 = .ok (.iload_n 3, 1) := by decide +kernel
theorem d_V_unitAt_11 : decode (tm_c 109) 11 = .ok (.aload_n 0, 1) := by decide +kernel
theorem d_V_unitAt_12 : decode (tm_c 109) 12 = .ok (.getfield 38, 3) := by decide +kernel
theorem d_V_unitAt_15 : decode (tm_c 109) 15 = .ok (.if_icmp .ge (42), 3) := by decide +kernel
theorem d_V_unitAt_18 : decode (tm_c 109) 18 = .ok (.aload_n 0, 1) := by decide +kernel
theorem d_V_unitAt_19 : decode (tm_c 109) 19 = .ok (.getfield 15, 3) := by decide +kernel
theorem d_V_unitAt_22 : decode (tm_c 109) 22 = .ok (.iload_n 3, 1) := by decide +kernel
theorem d_V_unitAt_23 : decode (tm_c 109) 23 = .ok (.iaload, 1) := by decide +kernel
theorem d_V_unitAt_24 : decode (tm_c 109) 24 = .ok (.invokestatic 78, 3) := by decide +kernel
theorem d_V_unitAt_27 : decode (tm_c 109) 27 = .ok (.istore 4, 2) := by decide +kernel
theorem d_V_unitAt_29 : decode (tm_c 109) 29 = .ok (.iload_n 2, 1) := by decide +kernel
theorem d_V_unitAt_30 : decode (tm_c 109) 30 = .ok (.iload 4, 2) := by decide +kernel
theorem d_V_unitAt_32 : decode (tm_c 109) 32 = .ok (.if_icmp .ge (14), 3) := by decide +kernel
theorem d_V_unitAt_35 : decode (tm_c 109) 35 = .ok (.aload_n 0, 1) := by decide +kernel
theorem d_V_unitAt_36 : decode (tm_c 109) 36 = .ok (.getfield 15, 3) := by decide +kernel
theorem d_V_unitAt_39 : decode (tm_c 109) 39 = .ok (.iload_n 3, 1) := by decide +kernel
theorem d_V_unitAt_40 : decode (tm_c 109) 40 = .ok (.iaload, 1) := by decide +kernel
theorem d_V_unitAt_41 : decode (tm_c 109) 41 = .ok (.iload_n 2, 1) := by decide +kernel
theorem d_V_unitAt_42 : decode (tm_c 109) 42 = .ok (.invokestatic 81, 3) := by decide +kernel
theorem d_V_unitAt_45 : decode (tm_c 109) 45 = .ok (.ireturn, 1) := by decide +kernel
theorem d_V_unitAt_46 : decode (tm_c 109) 46 = .ok (.iload_n 2, 1) := by decide +kernel
theorem d_V_unitAt_47 : decode (tm_c 109) 47 = .ok (.iload 4, 2) := by decide +kernel
theorem d_V_unitAt_49 : decode (tm_c 109) 49 = .ok (.isub, 1) := by decide +kernel
theorem d_V_unitAt_50 : decode (tm_c 109) 50 = .ok (.istore_n 2, 1) := by decide +kernel
theorem d_V_unitAt_51 : decode (tm_c 109) 51 = .ok (.iinc 3 (1), 3) := by decide +kernel
theorem d_V_unitAt_54 : decode (tm_c 109) 54 = .ok (.goto (-44), 3) := by decide +kernel
theorem d_V_unitAt_57 : decode (tm_c 109) 57 = .ok (.iconst (-1), 1) := by decide +kernel
theorem d_V_unitAt_58 : decode (tm_c 109) 58 = .ok (.ireturn, 1) := by decide +kernel
theorem g_V_unitAt_0 : jSnd 109 0 (o_iload 1 1) := snd_iload_n d_V_unitAt_0 rfl
theorem g_V_unitAt_1 : jSnd 109 1 (o_if_ge 4 6) := snd_if_ge d_V_unitAt_1 (by decide)
theorem g_V_unitAt_4 : jSnd 109 4 (o_push 5 (-1)) := snd_iconst (n := -1) (z := -1) d_V_unitAt_4 (by decide) (by unfold jrg; omega)
theorem g_V_unitAt_5 : jSnd 109 5 (o_iret) := snd_iret d_V_unitAt_5 rfl
theorem g_V_unitAt_6 : jSnd 109 6 (o_iload 7 1) := snd_iload_n d_V_unitAt_6 rfl
theorem g_V_unitAt_7 : jSnd 109 7 (o_istore 8 2) := snd_istore_n d_V_unitAt_7 rfl (by decide)
theorem g_V_unitAt_8 : jSnd 109 8 (o_push 9 (0)) := snd_iconst (n := 0) (z := 0) d_V_unitAt_8 (by decide) (by unfold jrg; omega)
theorem g_V_unitAt_9 : jSnd 109 9 (o_istore 10 3) := snd_istore_n d_V_unitAt_9 rfl (by decide)
theorem g_V_unitAt_10 : jSnd 109 10 (o_iload 11 3) := snd_iload_n d_V_unitAt_10 rfl
theorem g_V_unitAt_11 : jSnd 109 11 (o_aload 12 0) := snd_aload_n d_V_unitAt_11 rfl
theorem g_V_unitAt_12 : jSnd 109 12 (o_getI 15 12 (0)) := snd_getI (ci := 2) (k := 0) d_V_unitAt_12 rfl tm_in2 (by decide) wd_433 rfl
theorem g_V_unitAt_15 : jSnd 109 15 (o_ic_ge 18 57) := snd_ic_ge d_V_unitAt_15 (by decide)
theorem g_V_unitAt_18 : jSnd 109 18 (o_aload 19 0) := snd_aload_n d_V_unitAt_18 rfl
theorem g_V_unitAt_19 : jSnd 109 19 (o_getR 22 12 (2)) := snd_getR (ci := 2) (k := 2) d_V_unitAt_19 rfl tm_in2 (by decide) wd_424 rfl
theorem g_V_unitAt_22 : jSnd 109 22 (o_iload 23 3) := snd_iload_n d_V_unitAt_22 rfl
theorem g_V_unitAt_23 : jSnd 109 23 (o_nald 24 1) := snd_iald d_V_unitAt_23
theorem g_V_unitAt_24 : jSnd 109 24 (o_call 27 110 1 1 0 false) := snd_callS (n := 1) d_V_unitAt_24 (by decide) (by decide) (by decide) wc_110 wd_445 wd_446 wd_132 (by decide +kernel) (by decide) (by decide)
theorem g_V_unitAt_27 : jSnd 109 27 (o_istore 29 4) := snd_istore d_V_unitAt_27 (by decide)
theorem g_V_unitAt_29 : jSnd 109 29 (o_iload 30 2) := snd_iload_n d_V_unitAt_29 rfl
theorem g_V_unitAt_30 : jSnd 109 30 (o_iload 32 4) := snd_iload d_V_unitAt_30
theorem g_V_unitAt_32 : jSnd 109 32 (o_ic_ge 35 46) := snd_ic_ge d_V_unitAt_32 (by decide)
theorem g_V_unitAt_35 : jSnd 109 35 (o_aload 36 0) := snd_aload_n d_V_unitAt_35 rfl
theorem g_V_unitAt_36 : jSnd 109 36 (o_getR 39 12 (2)) := snd_getR (ci := 2) (k := 2) d_V_unitAt_36 rfl tm_in2 (by decide) wd_424 rfl
theorem g_V_unitAt_39 : jSnd 109 39 (o_iload 40 3) := snd_iload_n d_V_unitAt_39 rfl
theorem g_V_unitAt_40 : jSnd 109 40 (o_nald 41 1) := snd_iald d_V_unitAt_40
theorem g_V_unitAt_41 : jSnd 109 41 (o_iload 42 2) := snd_iload_n d_V_unitAt_41 rfl
theorem g_V_unitAt_42 : jSnd 109 42 (o_call 45 111 2 3 0 false) := snd_callS (n := 2) d_V_unitAt_42 (by decide) (by decide) (by decide) wc_111 wd_447 wd_448 wd_132 (by decide +kernel) (by decide) (by decide)
theorem g_V_unitAt_45 : jSnd 109 45 (o_iret) := snd_iret d_V_unitAt_45 rfl
theorem g_V_unitAt_46 : jSnd 109 46 (o_iload 47 2) := snd_iload_n d_V_unitAt_46 rfl
theorem g_V_unitAt_47 : jSnd 109 47 (o_iload 49 4) := snd_iload d_V_unitAt_47
theorem g_V_unitAt_49 : jSnd 109 49 (o_bin 50 f_sub) := snd_isub d_V_unitAt_49
theorem g_V_unitAt_50 : jSnd 109 50 (o_istore 51 2) := snd_istore_n d_V_unitAt_50 rfl (by decide)
theorem g_V_unitAt_51 : jSnd 109 51 (o_iinc 54 3 (1)) := snd_iinc d_V_unitAt_51 (by decide)
theorem g_V_unitAt_54 : jSnd 109 54 (o_goto 10) := snd_goto d_V_unitAt_54 (by decide)
theorem g_V_unitAt_57 : jSnd 109 57 (o_push 58 (-1)) := snd_iconst (n := -1) (z := -1) d_V_unitAt_57 (by decide) (by unfold jrg; omega)
theorem g_V_unitAt_58 : jSnd 109 58 (o_iret) := snd_iret d_V_unitAt_58 rfl
set_option maxRecDepth 100000 in
theorem ga_V_unitAt : jAll 109 0 tmp_V_unitAt := ⟨g_V_unitAt_0, g_V_unitAt_1, snd_bad _ _, snd_bad _ _, g_V_unitAt_4, g_V_unitAt_5, g_V_unitAt_6, g_V_unitAt_7, g_V_unitAt_8, g_V_unitAt_9, g_V_unitAt_10, g_V_unitAt_11, g_V_unitAt_12, snd_bad _ _, snd_bad _ _, g_V_unitAt_15, snd_bad _ _, snd_bad _ _, g_V_unitAt_18, g_V_unitAt_19, snd_bad _ _, snd_bad _ _, g_V_unitAt_22, g_V_unitAt_23, g_V_unitAt_24, snd_bad _ _, snd_bad _ _, g_V_unitAt_27, snd_bad _ _, g_V_unitAt_29, g_V_unitAt_30, snd_bad _ _, g_V_unitAt_32, snd_bad _ _, snd_bad _ _, g_V_unitAt_35, g_V_unitAt_36, snd_bad _ _, snd_bad _ _, g_V_unitAt_39, g_V_unitAt_40, g_V_unitAt_41, g_V_unitAt_42, snd_bad _ _, snd_bad _ _, g_V_unitAt_45, g_V_unitAt_46, g_V_unitAt_47, snd_bad _ _, g_V_unitAt_49, g_V_unitAt_50, g_V_unitAt_51, snd_bad _ _, snd_bad _ _, g_V_unitAt_54, snd_bad _ _, snd_bad _ _, g_V_unitAt_57, g_V_unitAt_58, trivial⟩
theorem d_V_widthOf_0 : decode (tm_c 110) 0 = .ok (.iload_n 0, 1) := by decide +kernel
theorem d_V_widthOf_1 : decode (tm_c 110) 1 = .ok (.ldc 84, 2) := by decide +kernel
theorem d_V_widthOf_3 : decode (tm_c 110) 3 = .ok (.if_icmp .lt (7), 3) := by decide +kernel
theorem d_V_widthOf_6 : decode (tm_c 110) 6 = .ok (.iconst (2), 1) := by decide +kernel
theorem d_V_widthOf_7 : decode (tm_c 110) 7 = .ok (.goto (4), 3) := by decide +kernel
theorem d_V_widthOf_10 : decode (tm_c 110) 10 = .ok (.iconst (1), 1) := by decide +kernel
theorem d_V_widthOf_11 : decode (tm_c 110) 11 = .ok (.ireturn, 1) := by decide +kernel
theorem g_V_widthOf_0 : jSnd 110 0 (o_iload 1 0) := snd_iload_n d_V_widthOf_0 rfl
theorem g_V_widthOf_1 : jSnd 110 1 (o_push 3 (65536)) := snd_ldc (i := 84) (z := 65536) d_V_widthOf_1 wd_449 (by unfold jrg; omega)
theorem g_V_widthOf_3 : jSnd 110 3 (o_ic_lt 6 10) := snd_ic_lt d_V_widthOf_3 (by decide)
theorem g_V_widthOf_6 : jSnd 110 6 (o_push 7 (2)) := snd_iconst (n := 2) (z := 2) d_V_widthOf_6 (by decide) (by unfold jrg; omega)
theorem g_V_widthOf_7 : jSnd 110 7 (o_goto 11) := snd_goto d_V_widthOf_7 (by decide)
theorem g_V_widthOf_10 : jSnd 110 10 (o_push 11 (1)) := snd_iconst (n := 1) (z := 1) d_V_widthOf_10 (by decide) (by unfold jrg; omega)
theorem g_V_widthOf_11 : jSnd 110 11 (o_iret) := snd_iret d_V_widthOf_11 rfl
set_option maxRecDepth 100000 in
theorem ga_V_widthOf : jAll 110 0 tmp_V_widthOf := ⟨g_V_widthOf_0, g_V_widthOf_1, snd_bad _ _, g_V_widthOf_3, snd_bad _ _, snd_bad _ _, g_V_widthOf_6, g_V_widthOf_7, snd_bad _ _, snd_bad _ _, g_V_widthOf_10, g_V_widthOf_11, trivial⟩
theorem d_V_partOf_0 : decode (tm_c 111) 0 = .ok (.iload_n 0, 1) := by decide +kernel
theorem d_V_partOf_1 : decode (tm_c 111) 1 = .ok (.ldc 84, 2) := by decide +kernel
theorem d_V_partOf_3 : decode (tm_c 111) 3 = .ok (.if_icmp .ge (5), 3) := by decide +kernel
theorem d_V_partOf_6 : decode (tm_c 111) 6 = .ok (.iload_n 0, 1) := by decide +kernel
theorem d_V_partOf_7 : decode (tm_c 111) 7 = .ok (.ireturn, 1) := by decide +kernel
theorem d_V_partOf_8 : decode (tm_c 111) 8 = .ok (.iload_n 0, 1) := by decide +kernel
theorem d_V_partOf_9 : decode (tm_c 111) 9 = .ok (.ldc 84, 2) := by decide +kernel
theorem d_V_partOf_11 : decode (tm_c 111) 11 = .ok (.isub, 1) := by decide +kernel
theorem d_V_partOf_12 : decode (tm_c 111) 12 = .ok (.istore_n 2, 1) := by decide +kernel
theorem d_V_partOf_13 : decode (tm_c 111) 13 = .ok (.iload_n 1, 1) := by decide +kernel
theorem d_V_partOf_14 : decode (tm_c 111) 14 = .ok (.ifCond .ne (14), 3) := by decide +kernel
theorem d_V_partOf_17 : decode (tm_c 111) 17 = .ok (.ldc 85, 2) := by decide +kernel
theorem d_V_partOf_19 : decode (tm_c 111) 19 = .ok (.iload_n 2, 1) := by decide +kernel
theorem d_V_partOf_20 : decode (tm_c 111) 20 = .ok (.sipush (1024), 3) := by decide +kernel
theorem d_V_partOf_23 : decode (tm_c 111) 23 = .ok (.idiv, 1) := by decide +kernel
theorem d_V_partOf_24 : decode (tm_c 111) 24 = .ok (.iadd, 1) := by decide +kernel
theorem d_V_partOf_25 : decode (tm_c 111) 25 = .ok (.goto (11), 3) := by decide +kernel
theorem d_V_partOf_28 : decode (tm_c 111) 28 = .ok (.ldc 86, 2) := by decide +kernel
theorem d_V_partOf_30 : decode (tm_c 111) 30 = .ok (.iload_n 2, 1) := by decide +kernel
theorem d_V_partOf_31 : decode (tm_c 111) 31 = .ok (.sipush (1024), 3) := by decide +kernel
theorem d_V_partOf_34 : decode (tm_c 111) 34 = .ok (.irem, 1) := by decide +kernel
theorem d_V_partOf_35 : decode (tm_c 111) 35 = .ok (.iadd, 1) := by decide +kernel
theorem d_V_partOf_36 : decode (tm_c 111) 36 = .ok (.ireturn, 1) := by decide +kernel
theorem g_V_partOf_0 : jSnd 111 0 (o_iload 1 0) := snd_iload_n d_V_partOf_0 rfl
theorem g_V_partOf_1 : jSnd 111 1 (o_push 3 (65536)) := snd_ldc (i := 84) (z := 65536) d_V_partOf_1 wd_449 (by unfold jrg; omega)
theorem g_V_partOf_3 : jSnd 111 3 (o_ic_ge 6 8) := snd_ic_ge d_V_partOf_3 (by decide)
theorem g_V_partOf_6 : jSnd 111 6 (o_iload 7 0) := snd_iload_n d_V_partOf_6 rfl
theorem g_V_partOf_7 : jSnd 111 7 (o_iret) := snd_iret d_V_partOf_7 rfl
theorem g_V_partOf_8 : jSnd 111 8 (o_iload 9 0) := snd_iload_n d_V_partOf_8 rfl
theorem g_V_partOf_9 : jSnd 111 9 (o_push 11 (65536)) := snd_ldc (i := 84) (z := 65536) d_V_partOf_9 wd_449 (by unfold jrg; omega)
theorem g_V_partOf_11 : jSnd 111 11 (o_bin 12 f_sub) := snd_isub d_V_partOf_11
theorem g_V_partOf_12 : jSnd 111 12 (o_istore 13 2) := snd_istore_n d_V_partOf_12 rfl (by decide)
theorem g_V_partOf_13 : jSnd 111 13 (o_iload 14 1) := snd_iload_n d_V_partOf_13 rfl
theorem g_V_partOf_14 : jSnd 111 14 (o_if_ne 17 28) := snd_if_ne d_V_partOf_14 (by decide)
theorem g_V_partOf_17 : jSnd 111 17 (o_push 19 (55296)) := snd_ldc (i := 85) (z := 55296) d_V_partOf_17 wd_450 (by unfold jrg; omega)
theorem g_V_partOf_19 : jSnd 111 19 (o_iload 20 2) := snd_iload_n d_V_partOf_19 rfl
theorem g_V_partOf_20 : jSnd 111 20 (o_push 23 (1024)) := snd_sipush (n := 1024) (z := 1024) d_V_partOf_20 (by decide) (by unfold jrg; omega)
theorem g_V_partOf_23 : jSnd 111 23 (o_dv 24 f_div) := snd_idiv d_V_partOf_23
theorem g_V_partOf_24 : jSnd 111 24 (o_bin 25 f_add) := snd_iadd d_V_partOf_24
theorem g_V_partOf_25 : jSnd 111 25 (o_goto 36) := snd_goto d_V_partOf_25 (by decide)
theorem g_V_partOf_28 : jSnd 111 28 (o_push 30 (56320)) := snd_ldc (i := 86) (z := 56320) d_V_partOf_28 wd_451 (by unfold jrg; omega)
theorem g_V_partOf_30 : jSnd 111 30 (o_iload 31 2) := snd_iload_n d_V_partOf_30 rfl
theorem g_V_partOf_31 : jSnd 111 31 (o_push 34 (1024)) := snd_sipush (n := 1024) (z := 1024) d_V_partOf_31 (by decide) (by unfold jrg; omega)
theorem g_V_partOf_34 : jSnd 111 34 (o_dv 35 f_rem) := snd_irem d_V_partOf_34
theorem g_V_partOf_35 : jSnd 111 35 (o_bin 36 f_add) := snd_iadd d_V_partOf_35
theorem g_V_partOf_36 : jSnd 111 36 (o_iret) := snd_iret d_V_partOf_36 rfl
set_option maxRecDepth 100000 in
theorem ga_V_partOf : jAll 111 0 tmp_V_partOf := ⟨g_V_partOf_0, g_V_partOf_1, snd_bad _ _, g_V_partOf_3, snd_bad _ _, snd_bad _ _, g_V_partOf_6, g_V_partOf_7, g_V_partOf_8, g_V_partOf_9, snd_bad _ _, g_V_partOf_11, g_V_partOf_12, g_V_partOf_13, g_V_partOf_14, snd_bad _ _, snd_bad _ _, g_V_partOf_17, snd_bad _ _, g_V_partOf_19, g_V_partOf_20, snd_bad _ _, snd_bad _ _, g_V_partOf_23, g_V_partOf_24, g_V_partOf_25, snd_bad _ _, snd_bad _ _, g_V_partOf_28, snd_bad _ _, g_V_partOf_30, g_V_partOf_31, snd_bad _ _, snd_bad _ _, g_V_partOf_34, g_V_partOf_35, g_V_partOf_36, trivial⟩
theorem d_V_paint_0 : decode (tm_c 112) 0 = .ok (.iconst (0), 1) := by decide +kernel
theorem d_V_paint_1 : decode (tm_c 112) 1 = .ok (.istore_n 2, 1) := by decide +kernel
theorem d_V_paint_2 : decode (tm_c 112) 2 = .ok (.iload_n 2, 1) := by decide +kernel
theorem d_V_paint_3 : decode (tm_c 112) 3 = .ok (.aload_n 0, 1) := by decide +kernel
theorem d_V_paint_4 : decode (tm_c 112) 4 = .ok (.getfield 38, 3) := by decide +kernel
theorem d_V_paint_7 : decode (tm_c 112) 7 = .ok (.if_icmp .ge (16), 3) := by decide +kernel
theorem d_V_paint_10 : decode (tm_c 112) 10 = .ok (.aload_n 0, 1) := by decide +kernel
theorem d_V_paint_11 : decode (tm_c 112) 11 = .ok (.getfield 18, 3) := by decide +kernel
theorem d_V_paint_14 : decode (tm_c 112) 14 = .ok (.iload_n 2, 1) := by decide +kernel
theorem d_V_paint_15 : decode (tm_c 112) 15 = .ok (.iconst (0), 1) := by decide +kernel
theorem d_V_paint_16 : decode (tm_c 112) 16 = .ok (.iastore, 1) := by decide +kernel
theorem d_V_paint_17 : decode (tm_c 112) 17 = .ok (.iinc 2 (1), 3) := by decide +kernel
theorem d_V_paint_20 : decode (tm_c 112) 20 = .ok (.goto (-18), 3) := by decide +kernel
theorem d_V_paint_23 : decode (tm_c 112) 23 = .ok (.iconst (0), 1) := by decide +kernel
theorem d_V_paint_24 : decode (tm_c 112) 24 = .ok (.istore_n 2, 1) := by decide +kernel
theorem d_V_paint_25 : decode (tm_c 112) 25 = .ok (.iload_n 2, 1) := by decide +kernel
theorem d_V_paint_26 : decode (tm_c 112) 26 = .ok (.aload_n 1, 1) := by decide +kernel
theorem d_V_paint_27 : decode (tm_c 112) 27 = .ok (.invokevirtual 56, 3) := by decide +kernel
theorem d_V_paint_30 : decode (tm_c 112) 30 = .ok (.if_icmp .ge (39), 3) := by decide +kernel
theorem d_V_paint_33 : decode (tm_c 112) 33 = .ok (.aload_n 1, 1) := by decide +kernel
theorem d_V_paint_34 : decode (tm_c 112) 34 = .ok (.iload_n 2, 1) := by decide +kernel
theorem d_V_paint_35 : decode (tm_c 112) 35 = .ok (.invokevirtual 87, 3) := by decide +kernel
theorem d_V_paint_38 : decode (tm_c 112) 38 = .ok (.istore_n 3, 1) := by decide +kernel
theorem d_V_paint_39 : decode (tm_c 112) 39 = .ok (.aload_n 0, 1) := by decide +kernel
theorem d_V_paint_40 : decode (tm_c 112) 40 = .ok (.iload_n 3, 1) := by decide +kernel
theorem d_V_paint_41 : decode (tm_c 112) 41 = .ok (.invokevirtual 90, 3) := by decide +kernel
theorem d_V_paint_44 : decode (tm_c 112) 44 = .ok (.ifCond .eq (19), 3) := by decide +kernel
theorem d_V_paint_47 : decode (tm_c 112) 47 = .ok (.aload_n 1, 1) := by decide +kernel
theorem d_V_paint_48 : decode (tm_c 112) 48 = .ok (.iload_n 3, 1) := by decide +kernel
theorem d_V_paint_49 : decode (tm_c 112) 49 = .ok (.iconst (0), 1) := by decide +kernel
theorem d_V_paint_50 : decode (tm_c 112) 50 = .ok (.invokevirtual 52, 3) := by decide +kernel
theorem d_V_paint_53 : decode (tm_c 112) 53 = .ok (.iconst (2), 1) := by decide +kernel
theorem d_V_paint_54 : decode (tm_c 112) 54 = .ok (.if_icmp .ne (9), 3) := by decide +kernel
theorem d_V_paint_57 : decode (tm_c 112) 57 = .ok (.aload_n 0, 1) := by decide +kernel
theorem d_V_paint_58 : decode (tm_c 112) 58 = .ok (.aload_n 1, 1) := by decide +kernel
theorem d_V_paint_59 : decode (tm_c 112) 59 = .ok (.iload_n 3, 1) := by decide +kernel
theorem d_V_paint_60 : decode (tm_c 112) 60 = .ok (.invokevirtual 93, 3) := by decide +kernel
theorem d_V_paint_63 : decode (tm_c 112) 63 = .ok (.iinc 2 (1), 3) := by decide +kernel
theorem d_V_paint_66 : decode (tm_c 112) 66 = .ok (.goto (-41), 3) := by decide +kernel
theorem d_V_paint_69 : decode (tm_c 112) 69 = .ok (.return_, 1) := by decide +kernel
theorem g_V_paint_0 : jSnd 112 0 (o_push 1 (0)) := snd_iconst (n := 0) (z := 0) d_V_paint_0 (by decide) (by unfold jrg; omega)
theorem g_V_paint_1 : jSnd 112 1 (o_istore 2 2) := snd_istore_n d_V_paint_1 rfl (by decide)
theorem g_V_paint_2 : jSnd 112 2 (o_iload 3 2) := snd_iload_n d_V_paint_2 rfl
theorem g_V_paint_3 : jSnd 112 3 (o_aload 4 0) := snd_aload_n d_V_paint_3 rfl
theorem g_V_paint_4 : jSnd 112 4 (o_getI 7 12 (0)) := snd_getI (ci := 2) (k := 0) d_V_paint_4 rfl tm_in2 (by decide) wd_433 rfl
theorem g_V_paint_7 : jSnd 112 7 (o_ic_ge 10 23) := snd_ic_ge d_V_paint_7 (by decide)
theorem g_V_paint_10 : jSnd 112 10 (o_aload 11 0) := snd_aload_n d_V_paint_10 rfl
theorem g_V_paint_11 : jSnd 112 11 (o_getR 14 12 (3)) := snd_getR (ci := 2) (k := 3) d_V_paint_11 rfl tm_in2 (by decide) wd_425 rfl
theorem g_V_paint_14 : jSnd 112 14 (o_iload 15 2) := snd_iload_n d_V_paint_14 rfl
theorem g_V_paint_15 : jSnd 112 15 (o_push 16 (0)) := snd_iconst (n := 0) (z := 0) d_V_paint_15 (by decide) (by unfold jrg; omega)
theorem g_V_paint_16 : jSnd 112 16 (o_iast 17) := snd_iast d_V_paint_16
theorem g_V_paint_17 : jSnd 112 17 (o_iinc 20 2 (1)) := snd_iinc d_V_paint_17 (by decide)
theorem g_V_paint_20 : jSnd 112 20 (o_goto 2) := snd_goto d_V_paint_20 (by decide)
theorem g_V_paint_23 : jSnd 112 23 (o_push 24 (0)) := snd_iconst (n := 0) (z := 0) d_V_paint_23 (by decide) (by unfold jrg; omega)
theorem g_V_paint_24 : jSnd 112 24 (o_istore 25 2) := snd_istore_n d_V_paint_24 rfl (by decide)
theorem g_V_paint_25 : jSnd 112 25 (o_iload 26 2) := snd_iload_n d_V_paint_25 rfl
theorem g_V_paint_26 : jSnd 112 26 (o_aload 27 1) := snd_aload_n d_V_paint_26 rfl
theorem g_V_paint_27 : jSnd 112 27 (o_call 30 84 1 1 11 false) := snd_callV (ci := 1) (n := 0) rfl d_V_paint_27 (by decide) (by decide) (by decide) wc_84 wd_437 wd_185 wd_186 wd_122 (by decide +kernel) (by decide) (by decide)
theorem g_V_paint_30 : jSnd 112 30 (o_ic_ge 33 69) := snd_ic_ge d_V_paint_30 (by decide)
theorem g_V_paint_33 : jSnd 112 33 (o_aload 34 1) := snd_aload_n d_V_paint_33 rfl
theorem g_V_paint_34 : jSnd 112 34 (o_iload 35 2) := snd_iload_n d_V_paint_34 rfl
theorem g_V_paint_35 : jSnd 112 35 (o_call 38 88 2 2 11 false) := snd_callV (ci := 1) (n := 1) rfl d_V_paint_35 (by decide) (by decide) (by decide) wc_88 wd_452 wd_453 wd_454 wd_122 (by decide +kernel) (by decide) (by decide)
theorem g_V_paint_38 : jSnd 112 38 (o_istore 39 3) := snd_istore_n d_V_paint_38 rfl (by decide)
theorem g_V_paint_39 : jSnd 112 39 (o_aload 40 0) := snd_aload_n d_V_paint_39 rfl
theorem g_V_paint_40 : jSnd 112 40 (o_iload 41 3) := snd_iload_n d_V_paint_40 rfl
theorem g_V_paint_41 : jSnd 112 41 (o_call 44 101 2 2 12 false) := snd_callV (ci := 2) (n := 1) rfl d_V_paint_41 (by decide) (by decide) (by decide) wc_101 wd_455 wd_206 wd_207 wd_132 (by decide +kernel) (by decide) (by decide)
theorem g_V_paint_44 : jSnd 112 44 (o_if_eq 47 63) := snd_if_eq d_V_paint_44 (by decide)
theorem g_V_paint_47 : jSnd 112 47 (o_aload 48 1) := snd_aload_n d_V_paint_47 rfl
theorem g_V_paint_48 : jSnd 112 48 (o_iload 49 3) := snd_iload_n d_V_paint_48 rfl
theorem g_V_paint_49 : jSnd 112 49 (o_push 50 (0)) := snd_iconst (n := 0) (z := 0) d_V_paint_49 (by decide) (by unfold jrg; omega)
theorem g_V_paint_50 : jSnd 112 50 (o_call 53 86 3 3 11 false) := snd_callV (ci := 1) (n := 2) rfl d_V_paint_50 (by decide) (by decide) (by decide) wc_86 wd_436 wd_167 wd_168 wd_122 (by decide +kernel) (by decide) (by decide)
theorem g_V_paint_53 : jSnd 112 53 (o_push 54 (2)) := snd_iconst (n := 2) (z := 2) d_V_paint_53 (by decide) (by unfold jrg; omega)
theorem g_V_paint_54 : jSnd 112 54 (o_ic_ne 57 63) := snd_ic_ne d_V_paint_54 (by decide)
theorem g_V_paint_57 : jSnd 112 57 (o_aload 58 0) := snd_aload_n d_V_paint_57 rfl
theorem g_V_paint_58 : jSnd 112 58 (o_aload 59 1) := snd_aload_n d_V_paint_58 rfl
theorem g_V_paint_59 : jSnd 112 59 (o_iload 60 3) := snd_iload_n d_V_paint_59 rfl
theorem g_V_paint_60 : jSnd 112 60 (o_call 63 113 3 9 12 true) := snd_callV (ci := 2) (n := 2) rfl d_V_paint_60 (by decide) (by decide) (by decide) wc_113 wd_456 wd_457 wd_458 wd_132 (by decide +kernel) (by decide) (by decide)
theorem g_V_paint_63 : jSnd 112 63 (o_iinc 66 2 (1)) := snd_iinc d_V_paint_63 (by decide)
theorem g_V_paint_66 : jSnd 112 66 (o_goto 25) := snd_goto d_V_paint_66 (by decide)
theorem g_V_paint_69 : jSnd 112 69 (o_vret) := snd_vret d_V_paint_69 rfl
set_option maxRecDepth 100000 in
theorem ga_V_paint : jAll 112 0 tmp_V_paint := ⟨g_V_paint_0, g_V_paint_1, g_V_paint_2, g_V_paint_3, g_V_paint_4, snd_bad _ _, snd_bad _ _, g_V_paint_7, snd_bad _ _, snd_bad _ _, g_V_paint_10, g_V_paint_11, snd_bad _ _, snd_bad _ _, g_V_paint_14, g_V_paint_15, g_V_paint_16, g_V_paint_17, snd_bad _ _, snd_bad _ _, g_V_paint_20, snd_bad _ _, snd_bad _ _, g_V_paint_23, g_V_paint_24, g_V_paint_25, g_V_paint_26, g_V_paint_27, snd_bad _ _, snd_bad _ _, g_V_paint_30, snd_bad _ _, snd_bad _ _, g_V_paint_33, g_V_paint_34, g_V_paint_35, snd_bad _ _, snd_bad _ _, g_V_paint_38, g_V_paint_39, g_V_paint_40, g_V_paint_41, snd_bad _ _, snd_bad _ _, g_V_paint_44, snd_bad _ _, snd_bad _ _, g_V_paint_47, g_V_paint_48, g_V_paint_49, g_V_paint_50, snd_bad _ _, snd_bad _ _, g_V_paint_53, g_V_paint_54, snd_bad _ _, snd_bad _ _, g_V_paint_57, g_V_paint_58, g_V_paint_59, g_V_paint_60, snd_bad _ _, snd_bad _ _, g_V_paint_63, snd_bad _ _, snd_bad _ _, g_V_paint_66, snd_bad _ _, snd_bad _ _, g_V_paint_69, trivial⟩
theorem d_V_paintOne_0 : decode (tm_c 113) 0 = .ok (.aload_n 1, 1) := by decide +kernel
theorem d_V_paintOne_1 : decode (tm_c 113) 1 = .ok (.iload_n 2, 1) := by decide +kernel
theorem d_V_paintOne_2 : decode (tm_c 113) 2 = .ok (.iconst (3), 1) := by decide +kernel
theorem d_V_paintOne_3 : decode (tm_c 113) 3 = .ok (.invokevirtual 52, 3) := by decide +kernel
theorem d_V_paintOne_6 : decode (tm_c 113) 6 = .ok (.istore_n 3, 1) := by decide +kernel
theorem d_V_paintOne_7 : decode (tm_c 113) 7 = .ok (.iload_n 3, 1) := by decide +kernel
theorem d_V_paintOne_8 : decode (tm_c 113) 8 = .ok (.iconst (4), 1) := by decide +kernel
theorem d_V_paintOne_9 : decode (tm_c 113) 9 = .ok (.imul, 1) := by decide +kernel
theorem d_V_paintOne_10 : decode (tm_c 113) 10 = .ok (.istore 4, 2) := by decide +kernel
theorem d_V_paintOne_12 : decode (tm_c 113) 12 = .ok (.aload_n 1, 1) := by decide +kernel
theorem d_V_paintOne_13 : decode (tm_c 113) 13 = .ok (.iload_n 2, 1) := by decide +kernel
theorem d_V_paintOne_14 : decode (tm_c 113) 14 = .ok (.iconst (4), 1) := by decide +kernel
theorem d_V_paintOne_15 : decode (tm_c 113) 15 = .ok (.invokevirtual 52, 3) := by decide +kernel
theorem d_V_paintOne_18 : decode (tm_c 113) 18 = .ok (.iload 4, 2) := by decide +kernel
theorem d_V_paintOne_20 : decode (tm_c 113) 20 = .ok (.ishl, 1) := by decide +kernel
theorem d_V_paintOne_21 : decode (tm_c 113) 21 = .ok (.istore 5, 2) := by decide +kernel
theorem d_V_paintOne_23 : decode (tm_c 113) 23 = .ok (.bipush (15), 2) := by decide +kernel
theorem d_V_paintOne_25 : decode (tm_c 113) 25 = .ok (.iload 4, 2) := by decide +kernel
theorem d_V_paintOne_27 : decode (tm_c 113) 27 = .ok (.ishl, 1) := by decide +kernel
theorem d_V_paintOne_28 : decode (tm_c 113) 28 = .ok (.iconst (-1), 1) := by decide +kernel
theorem d_V_paintOne_29 : decode (tm_c 113) 29 = .ok (.ixor, 1) := by decide +kernel
theorem d_V_paintOne_30 : decode (tm_c 113) 30 = .ok (.istore 6, 2) := by decide +kernel
theorem d_V_paintOne_32 : decode (tm_c 113) 32 = .ok (.aload_n 0, 1) := by decide +kernel
theorem d_V_paintOne_33 : decode (tm_c 113) 33 = .ok (.iload_n 3, 1) := by decide +kernel
theorem d_V_paintOne_34 : decode (tm_c 113) 34 = .ok (.aload_n 1, 1) := by decide +kernel
theorem d_V_paintOne_35 : decode (tm_c 113) 35 = .ok (.iload_n 2, 1) := by decide +kernel
theorem d_V_paintOne_36 : decode (tm_c 113) 36 = .ok (.bipush (6), 2) := by decide +kernel
theorem d_V_paintOne_38 : decode (tm_c 113) 38 = .ok (.invokevirtual 52, 3) := by decide +kernel
theorem d_V_paintOne_41 : decode (tm_c 113) 41 = .ok (.invokevirtual 97, 3) := by decide +kernel
theorem d_V_paintOne_44 : decode (tm_c 113) 44 = .ok (.istore 7, 2) := by decide +kernel
theorem d_V_paintOne_46 : decode (tm_c 113) 46 = .ok (.aload_n 0, 1) := by decide +kernel
theorem d_V_paintOne_47 : decode (tm_c 113) 47 = .ok (.aload_n 1, 1) := by decide +kernel
theorem d_V_paintOne_48 : decode (tm_c 113) 48 = .ok (.iload_n 2, 1) := by decide +kernel
theorem d_V_paintOne_49 : decode (tm_c 113) 49 = .ok (.iconst (5), 1) := by decide +kernel
theorem d_V_paintOne_50 : decode (tm_c 113) 50 = .ok (.invokevirtual 52, 3) := by decide +kernel
theorem d_V_paintOne_53 : decode (tm_c 113) 53 = .ok (.invokevirtual 75, 3) := by decide +kernel
theorem d_V_paintOne_56 : decode (tm_c 113) 56 = .ok (.istore 8, 2) := by decide +kernel
theorem d_V_paintOne_58 : decode (tm_c 113) 58 = .ok (.iload 8, 2) := by decide +kernel
theorem d_V_paintOne_60 : decode (tm_c 113) 60 = .ok (.iload 7, 2) := by decide +kernel
theorem d_V_paintOne_62 : decode (tm_c 113) 62 = .ok (.if_icmp .ge (29), 3) := by decide +kernel
theorem d_V_paintOne_65 : decode (tm_c 113) 65 = .ok (.aload_n 0, 1) := by decide +kernel
theorem d_V_paintOne_66 : decode (tm_c 113) 66 = .ok (.getfield 18, 3) := by decide +kernel
theorem d_V_paintOne_69 : decode (tm_c 113) 69 = .ok (.iload 8, 2) := by decide +kernel
theorem d_V_paintOne_71 : decode (tm_c 113) 71 = .ok (.aload_n 0, 1) := by decide +kernel
theorem d_V_paintOne_72 : decode (tm_c 113) 72 = .ok (.getfield 18, 3) := by decide +kernel
theorem d_V_paintOne_75 : decode (tm_c 113) 75 = .ok (.iload 8, 2) := by decide +kernel
theorem d_V_paintOne_77 : decode (tm_c 113) 77 = .ok (.iaload, 1) := by decide +kernel
theorem d_V_paintOne_78 : decode (tm_c 113) 78 = .ok (.iload 6, 2) := by decide +kernel
theorem d_V_paintOne_80 : decode (tm_c 113) 80 = .ok (.iand, 1) := by decide +kernel
theorem d_V_paintOne_81 : decode (tm_c 113) 81 = .ok (.iload 5, 2) := by decide +kernel
theorem d_V_paintOne_83 : decode (tm_c 113) 83 = .ok (.ior, 1) := by decide +kernel
theorem d_V_paintOne_84 : decode (tm_c 113) 84 = .ok (.iastore, 1) := by decide +kernel
theorem d_V_paintOne_85 : decode (tm_c 113) 85 = .ok (.iinc 8 (1), 3) := by decide +kernel
theorem d_V_paintOne_88 : decode (tm_c 113) 88 = .ok (.goto (-30), 3) := by decide +kernel
theorem d_V_paintOne_91 : decode (tm_c 113) 91 = .ok (.return_, 1) := by decide +kernel
theorem g_V_paintOne_0 : jSnd 113 0 (o_aload 1 1) := snd_aload_n d_V_paintOne_0 rfl
theorem g_V_paintOne_1 : jSnd 113 1 (o_iload 2 2) := snd_iload_n d_V_paintOne_1 rfl
theorem g_V_paintOne_2 : jSnd 113 2 (o_push 3 (3)) := snd_iconst (n := 3) (z := 3) d_V_paintOne_2 (by decide) (by unfold jrg; omega)
theorem g_V_paintOne_3 : jSnd 113 3 (o_call 6 86 3 3 11 false) := snd_callV (ci := 1) (n := 2) rfl d_V_paintOne_3 (by decide) (by decide) (by decide) wc_86 wd_436 wd_167 wd_168 wd_122 (by decide +kernel) (by decide) (by decide)
theorem g_V_paintOne_6 : jSnd 113 6 (o_istore 7 3) := snd_istore_n d_V_paintOne_6 rfl (by decide)
theorem g_V_paintOne_7 : jSnd 113 7 (o_iload 8 3) := snd_iload_n d_V_paintOne_7 rfl
theorem g_V_paintOne_8 : jSnd 113 8 (o_push 9 (4)) := snd_iconst (n := 4) (z := 4) d_V_paintOne_8 (by decide) (by unfold jrg; omega)
theorem g_V_paintOne_9 : jSnd 113 9 (o_bin 10 f_mul) := snd_imul d_V_paintOne_9
theorem g_V_paintOne_10 : jSnd 113 10 (o_istore 12 4) := snd_istore d_V_paintOne_10 (by decide)
theorem g_V_paintOne_12 : jSnd 113 12 (o_aload 13 1) := snd_aload_n d_V_paintOne_12 rfl
theorem g_V_paintOne_13 : jSnd 113 13 (o_iload 14 2) := snd_iload_n d_V_paintOne_13 rfl
theorem g_V_paintOne_14 : jSnd 113 14 (o_push 15 (4)) := snd_iconst (n := 4) (z := 4) d_V_paintOne_14 (by decide) (by unfold jrg; omega)
theorem g_V_paintOne_15 : jSnd 113 15 (o_call 18 86 3 3 11 false) := snd_callV (ci := 1) (n := 2) rfl d_V_paintOne_15 (by decide) (by decide) (by decide) wc_86 wd_436 wd_167 wd_168 wd_122 (by decide +kernel) (by decide) (by decide)
theorem g_V_paintOne_18 : jSnd 113 18 (o_iload 20 4) := snd_iload d_V_paintOne_18
theorem g_V_paintOne_20 : jSnd 113 20 (o_bin 21 f_shl) := snd_ishl d_V_paintOne_20
theorem g_V_paintOne_21 : jSnd 113 21 (o_istore 23 5) := snd_istore d_V_paintOne_21 (by decide)
theorem g_V_paintOne_23 : jSnd 113 23 (o_push 25 (15)) := snd_bipush (n := 15) (z := 15) d_V_paintOne_23 (by decide) (by unfold jrg; omega)
theorem g_V_paintOne_25 : jSnd 113 25 (o_iload 27 4) := snd_iload d_V_paintOne_25
theorem g_V_paintOne_27 : jSnd 113 27 (o_bin 28 f_shl) := snd_ishl d_V_paintOne_27
theorem g_V_paintOne_28 : jSnd 113 28 (o_push 29 (-1)) := snd_iconst (n := -1) (z := -1) d_V_paintOne_28 (by decide) (by unfold jrg; omega)
theorem g_V_paintOne_29 : jSnd 113 29 (o_bin 30 f_xor) := snd_ixor d_V_paintOne_29
theorem g_V_paintOne_30 : jSnd 113 30 (o_istore 32 6) := snd_istore d_V_paintOne_30 (by decide)
theorem g_V_paintOne_32 : jSnd 113 32 (o_aload 33 0) := snd_aload_n d_V_paintOne_32 rfl
theorem g_V_paintOne_33 : jSnd 113 33 (o_iload 34 3) := snd_iload_n d_V_paintOne_33 rfl
theorem g_V_paintOne_34 : jSnd 113 34 (o_aload 35 1) := snd_aload_n d_V_paintOne_34 rfl
theorem g_V_paintOne_35 : jSnd 113 35 (o_iload 36 2) := snd_iload_n d_V_paintOne_35 rfl
theorem g_V_paintOne_36 : jSnd 113 36 (o_push 38 (6)) := snd_bipush (n := 6) (z := 6) d_V_paintOne_36 (by decide) (by unfold jrg; omega)
theorem g_V_paintOne_38 : jSnd 113 38 (o_call 41 86 3 3 11 false) := snd_callV (ci := 1) (n := 2) rfl d_V_paintOne_38 (by decide) (by decide) (by decide) wc_86 wd_436 wd_167 wd_168 wd_122 (by decide +kernel) (by decide) (by decide)
theorem g_V_paintOne_41 : jSnd 113 41 (o_call 44 114 3 3 12 false) := snd_callV (ci := 2) (n := 2) rfl d_V_paintOne_41 (by decide) (by decide) (by decide) wc_114 wd_459 wd_460 wd_461 wd_132 (by decide +kernel) (by decide) (by decide)
theorem g_V_paintOne_44 : jSnd 113 44 (o_istore 46 7) := snd_istore d_V_paintOne_44 (by decide)
theorem g_V_paintOne_46 : jSnd 113 46 (o_aload 47 0) := snd_aload_n d_V_paintOne_46 rfl
theorem g_V_paintOne_47 : jSnd 113 47 (o_aload 48 1) := snd_aload_n d_V_paintOne_47 rfl
theorem g_V_paintOne_48 : jSnd 113 48 (o_iload 49 2) := snd_iload_n d_V_paintOne_48 rfl
theorem g_V_paintOne_49 : jSnd 113 49 (o_push 50 (5)) := snd_iconst (n := 5) (z := 5) d_V_paintOne_49 (by decide) (by unfold jrg; omega)
theorem g_V_paintOne_50 : jSnd 113 50 (o_call 53 86 3 3 11 false) := snd_callV (ci := 1) (n := 2) rfl d_V_paintOne_50 (by decide) (by decide) (by decide) wc_86 wd_436 wd_167 wd_168 wd_122 (by decide +kernel) (by decide) (by decide)
theorem g_V_paintOne_53 : jSnd 113 53 (o_call 56 106 2 2 12 false) := snd_callV (ci := 2) (n := 1) rfl d_V_paintOne_53 (by decide) (by decide) (by decide) wc_106 wd_444 wd_269 wd_270 wd_132 (by decide +kernel) (by decide) (by decide)
theorem g_V_paintOne_56 : jSnd 113 56 (o_istore 58 8) := snd_istore d_V_paintOne_56 (by decide)
theorem g_V_paintOne_58 : jSnd 113 58 (o_iload 60 8) := snd_iload d_V_paintOne_58
theorem g_V_paintOne_60 : jSnd 113 60 (o_iload 62 7) := snd_iload d_V_paintOne_60
theorem g_V_paintOne_62 : jSnd 113 62 (o_ic_ge 65 91) := snd_ic_ge d_V_paintOne_62 (by decide)
theorem g_V_paintOne_65 : jSnd 113 65 (o_aload 66 0) := snd_aload_n d_V_paintOne_65 rfl
theorem g_V_paintOne_66 : jSnd 113 66 (o_getR 69 12 (3)) := snd_getR (ci := 2) (k := 3) d_V_paintOne_66 rfl tm_in2 (by decide) wd_425 rfl
theorem g_V_paintOne_69 : jSnd 113 69 (o_iload 71 8) := snd_iload d_V_paintOne_69
theorem g_V_paintOne_71 : jSnd 113 71 (o_aload 72 0) := snd_aload_n d_V_paintOne_71 rfl
theorem g_V_paintOne_72 : jSnd 113 72 (o_getR 75 12 (3)) := snd_getR (ci := 2) (k := 3) d_V_paintOne_72 rfl tm_in2 (by decide) wd_425 rfl
theorem g_V_paintOne_75 : jSnd 113 75 (o_iload 77 8) := snd_iload d_V_paintOne_75
theorem g_V_paintOne_77 : jSnd 113 77 (o_nald 78 1) := snd_iald d_V_paintOne_77
theorem g_V_paintOne_78 : jSnd 113 78 (o_iload 80 6) := snd_iload d_V_paintOne_78
theorem g_V_paintOne_80 : jSnd 113 80 (o_bin 81 f_and) := snd_iand d_V_paintOne_80
theorem g_V_paintOne_81 : jSnd 113 81 (o_iload 83 5) := snd_iload d_V_paintOne_81
theorem g_V_paintOne_83 : jSnd 113 83 (o_bin 84 f_or) := snd_ior d_V_paintOne_83
theorem g_V_paintOne_84 : jSnd 113 84 (o_iast 85) := snd_iast d_V_paintOne_84
theorem g_V_paintOne_85 : jSnd 113 85 (o_iinc 88 8 (1)) := snd_iinc d_V_paintOne_85 (by decide)
theorem g_V_paintOne_88 : jSnd 113 88 (o_goto 58) := snd_goto d_V_paintOne_88 (by decide)
theorem g_V_paintOne_91 : jSnd 113 91 (o_vret) := snd_vret d_V_paintOne_91 rfl
set_option maxRecDepth 100000 in
theorem ga_V_paintOne : jAll 113 0 tmp_V_paintOne := ⟨g_V_paintOne_0, g_V_paintOne_1, g_V_paintOne_2, g_V_paintOne_3, snd_bad _ _, snd_bad _ _, g_V_paintOne_6, g_V_paintOne_7, g_V_paintOne_8, g_V_paintOne_9, g_V_paintOne_10, snd_bad _ _, g_V_paintOne_12, g_V_paintOne_13, g_V_paintOne_14, g_V_paintOne_15, snd_bad _ _, snd_bad _ _, g_V_paintOne_18, snd_bad _ _, g_V_paintOne_20, g_V_paintOne_21, snd_bad _ _, g_V_paintOne_23, snd_bad _ _, g_V_paintOne_25, snd_bad _ _, g_V_paintOne_27, g_V_paintOne_28, g_V_paintOne_29, g_V_paintOne_30, snd_bad _ _, g_V_paintOne_32, g_V_paintOne_33, g_V_paintOne_34, g_V_paintOne_35, g_V_paintOne_36, snd_bad _ _, g_V_paintOne_38, snd_bad _ _, snd_bad _ _, g_V_paintOne_41, snd_bad _ _, snd_bad _ _, g_V_paintOne_44, snd_bad _ _, g_V_paintOne_46, g_V_paintOne_47, g_V_paintOne_48, g_V_paintOne_49, g_V_paintOne_50, snd_bad _ _, snd_bad _ _, g_V_paintOne_53, snd_bad _ _, snd_bad _ _, g_V_paintOne_56, snd_bad _ _, g_V_paintOne_58, snd_bad _ _, g_V_paintOne_60, snd_bad _ _, g_V_paintOne_62, snd_bad _ _, snd_bad _ _, g_V_paintOne_65, g_V_paintOne_66, snd_bad _ _, snd_bad _ _, g_V_paintOne_69, snd_bad _ _, g_V_paintOne_71, g_V_paintOne_72, snd_bad _ _, snd_bad _ _, g_V_paintOne_75, snd_bad _ _, g_V_paintOne_77, g_V_paintOne_78, snd_bad _ _, g_V_paintOne_80, g_V_paintOne_81, snd_bad _ _, g_V_paintOne_83, g_V_paintOne_84, g_V_paintOne_85, snd_bad _ _, snd_bad _ _, g_V_paintOne_88, snd_bad _ _, snd_bad _ _, g_V_paintOne_91, trivial⟩
theorem d_V_endOf_0 : decode (tm_c 114) 0 = .ok (.iload_n 1, 1) := by decide +kernel
theorem d_V_endOf_1 : decode (tm_c 114) 1 = .ok (.invokestatic 100, 3) := by decide +kernel
theorem d_V_endOf_4 : decode (tm_c 114) 4 = .ok (.ifCond .ne (9), 3) := by decide +kernel
theorem d_V_endOf_7 : decode (tm_c 114) 7 = .ok (.aload_n 0, 1) := by decide +kernel
theorem d_V_endOf_8 : decode (tm_c 114) 8 = .ok (.iload_n 2, 1) := by decide +kernel
theorem d_V_endOf_9 : decode (tm_c 114) 9 = .ok (.invokevirtual 103, 3) := by decide +kernel
theorem d_V_endOf_12 : decode (tm_c 114) 12 = .ok (.ireturn, 1) := by decide +kernel
theorem d_V_endOf_13 : decode (tm_c 114) 13 = .ok (.iload_n 2, 1) := by decide +kernel
theorem d_V_endOf_14 : decode (tm_c 114) 14 = .ok (.ifCond .ne (10), 3) := by decide +kernel
theorem d_V_endOf_17 : decode (tm_c 114) 17 = .ok (.aload_n 0, 1) := by decide +kernel
theorem d_V_endOf_18 : decode (tm_c 114) 18 = .ok (.getfield 38, 3) := by decide +kernel
theorem d_V_endOf_21 : decode (tm_c 114) 21 = .ok (.goto (8), 3) := by decide +kernel
theorem d_V_endOf_24 : decode (tm_c 114) 24 = .ok (.aload_n 0, 1) := by decide +kernel
theorem d_V_endOf_25 : decode (tm_c 114) 25 = .ok (.iload_n 2, 1) := by decide +kernel
theorem d_V_endOf_26 : decode (tm_c 114) 26 = .ok (.invokevirtual 75, 3) := by decide +kernel
theorem d_V_endOf_29 : decode (tm_c 114) 29 = .ok (.ireturn, 1) := by decide +kernel
theorem g_V_endOf_0 : jSnd 114 0 (o_iload 1 1) := snd_iload_n d_V_endOf_0 rfl
theorem g_V_endOf_1 : jSnd 114 1 (o_call 4 23 1 1 0 false) := snd_callSN (n := 1) d_V_endOf_1 (by decide) (by decide) (by decide) wc_23 wn_74_2 wd_159 wd_2 (by decide +kernel) (by decide) (by decide)
theorem g_V_endOf_4 : jSnd 114 4 (o_if_ne 7 13) := snd_if_ne d_V_endOf_4 (by decide)
theorem g_V_endOf_7 : jSnd 114 7 (o_aload 8 0) := snd_aload_n d_V_endOf_7 rfl
theorem g_V_endOf_8 : jSnd 114 8 (o_iload 9 2) := snd_iload_n d_V_endOf_8 rfl
theorem g_V_endOf_9 : jSnd 114 9 (o_call 12 107 2 3 12 false) := snd_callV (ci := 2) (n := 1) rfl d_V_endOf_9 (by decide) (by decide) (by decide) wc_107 wd_462 wd_272 wd_273 wd_132 (by decide +kernel) (by decide) (by decide)
theorem g_V_endOf_12 : jSnd 114 12 (o_iret) := snd_iret d_V_endOf_12 rfl
theorem g_V_endOf_13 : jSnd 114 13 (o_iload 14 2) := snd_iload_n d_V_endOf_13 rfl
theorem g_V_endOf_14 : jSnd 114 14 (o_if_ne 17 24) := snd_if_ne d_V_endOf_14 (by decide)
theorem g_V_endOf_17 : jSnd 114 17 (o_aload 18 0) := snd_aload_n d_V_endOf_17 rfl
theorem g_V_endOf_18 : jSnd 114 18 (o_getI 21 12 (0)) := snd_getI (ci := 2) (k := 0) d_V_endOf_18 rfl tm_in2 (by decide) wd_433 rfl
theorem g_V_endOf_21 : jSnd 114 21 (o_goto 29) := snd_goto d_V_endOf_21 (by decide)
theorem g_V_endOf_24 : jSnd 114 24 (o_aload 25 0) := snd_aload_n d_V_endOf_24 rfl
theorem g_V_endOf_25 : jSnd 114 25 (o_iload 26 2) := snd_iload_n d_V_endOf_25 rfl
theorem g_V_endOf_26 : jSnd 114 26 (o_call 29 106 2 2 12 false) := snd_callV (ci := 2) (n := 1) rfl d_V_endOf_26 (by decide) (by decide) (by decide) wc_106 wd_444 wd_269 wd_270 wd_132 (by decide +kernel) (by decide) (by decide)
theorem g_V_endOf_29 : jSnd 114 29 (o_iret) := snd_iret d_V_endOf_29 rfl
set_option maxRecDepth 100000 in
theorem ga_V_endOf : jAll 114 0 tmp_V_endOf := ⟨g_V_endOf_0, g_V_endOf_1, snd_bad _ _, snd_bad _ _, g_V_endOf_4, snd_bad _ _, snd_bad _ _, g_V_endOf_7, g_V_endOf_8, g_V_endOf_9, snd_bad _ _, snd_bad _ _, g_V_endOf_12, g_V_endOf_13, g_V_endOf_14, snd_bad _ _, snd_bad _ _, g_V_endOf_17, g_V_endOf_18, snd_bad _ _, snd_bad _ _, g_V_endOf_21, snd_bad _ _, snd_bad _ _, g_V_endOf_24, g_V_endOf_25, g_V_endOf_26, snd_bad _ _, snd_bad _ _, g_V_endOf_29, trivial⟩
theorem d_V_valueAt_0 : decode (tm_c 115) 0 = .ok (.aload_n 0, 1) := by decide +kernel
theorem d_V_valueAt_1 : decode (tm_c 115) 1 = .ok (.iload_n 1, 1) := by decide +kernel
theorem d_V_valueAt_2 : decode (tm_c 115) 2 = .ok (.invokevirtual 72, 3) := by decide +kernel
theorem d_V_valueAt_5 : decode (tm_c 115) 5 = .ok (.ifCond .eq (19), 3) := by decide +kernel
theorem d_V_valueAt_8 : decode (tm_c 115) 8 = .ok (.aload_n 0, 1) := by decide +kernel
theorem d_V_valueAt_9 : decode (tm_c 115) 9 = .ok (.getfield 18, 3) := by decide +kernel
theorem d_V_valueAt_12 : decode (tm_c 115) 12 = .ok (.iload_n 1, 1) := by decide +kernel
theorem d_V_valueAt_13 : decode (tm_c 115) 13 = .ok (.iaload, 1) := by decide +kernel
theorem d_V_valueAt_14 : decode (tm_c 115) 14 = .ok (.iload_n 2, 1) := by decide +kernel
theorem d_V_valueAt_15 : decode (tm_c 115) 15 = .ok (.iconst (4), 1) := by decide +kernel
theorem d_V_valueAt_16 : decode (tm_c 115) 16 = .ok (.imul, 1) := by decide +kernel
theorem d_V_valueAt_17 : decode (tm_c 115) 17 = .ok (.ishr, 1) := by decide +kernel
theorem d_V_valueAt_18 : decode (tm_c 115) 18 = .ok (.bipush (15), 2) := by decide +kernel
theorem d_V_valueAt_20 : decode (tm_c 115) 20 = .ok (.iand, 1) := by decide +kernel
theorem d_V_valueAt_21 : decode (tm_c 115) 21 = .ok (.goto (4), 3) := by decide +kernel
theorem d_V_valueAt_24 : decode (tm_c 115) 24 = .ok (.iconst (-1), 1) := by decide +kernel
theorem d_V_valueAt_25 : decode (tm_c 115) 25 = .ok (.ireturn, 1) := by decide +kernel
theorem g_V_valueAt_0 : jSnd 115 0 (o_aload 1 0) := snd_aload_n d_V_valueAt_0 rfl
theorem g_V_valueAt_1 : jSnd 115 1 (o_iload 2 1) := snd_iload_n d_V_valueAt_1 rfl
theorem g_V_valueAt_2 : jSnd 115 2 (o_call 5 102 2 2 12 false) := snd_callV (ci := 2) (n := 1) rfl d_V_valueAt_2 (by decide) (by decide) (by decide) wc_102 wd_443 wd_151 wd_152 wd_132 (by decide +kernel) (by decide) (by decide)
theorem g_V_valueAt_5 : jSnd 115 5 (o_if_eq 8 24) := snd_if_eq d_V_valueAt_5 (by decide)
theorem g_V_valueAt_8 : jSnd 115 8 (o_aload 9 0) := snd_aload_n d_V_valueAt_8 rfl
theorem g_V_valueAt_9 : jSnd 115 9 (o_getR 12 12 (3)) := snd_getR (ci := 2) (k := 3) d_V_valueAt_9 rfl tm_in2 (by decide) wd_425 rfl
theorem g_V_valueAt_12 : jSnd 115 12 (o_iload 13 1) := snd_iload_n d_V_valueAt_12 rfl
theorem g_V_valueAt_13 : jSnd 115 13 (o_nald 14 1) := snd_iald d_V_valueAt_13
theorem g_V_valueAt_14 : jSnd 115 14 (o_iload 15 2) := snd_iload_n d_V_valueAt_14 rfl
theorem g_V_valueAt_15 : jSnd 115 15 (o_push 16 (4)) := snd_iconst (n := 4) (z := 4) d_V_valueAt_15 (by decide) (by unfold jrg; omega)
theorem g_V_valueAt_16 : jSnd 115 16 (o_bin 17 f_mul) := snd_imul d_V_valueAt_16
theorem g_V_valueAt_17 : jSnd 115 17 (o_bin 18 f_shr) := snd_ishr d_V_valueAt_17
theorem g_V_valueAt_18 : jSnd 115 18 (o_push 20 (15)) := snd_bipush (n := 15) (z := 15) d_V_valueAt_18 (by decide) (by unfold jrg; omega)
theorem g_V_valueAt_20 : jSnd 115 20 (o_bin 21 f_and) := snd_iand d_V_valueAt_20
theorem g_V_valueAt_21 : jSnd 115 21 (o_goto 25) := snd_goto d_V_valueAt_21 (by decide)
theorem g_V_valueAt_24 : jSnd 115 24 (o_push 25 (-1)) := snd_iconst (n := -1) (z := -1) d_V_valueAt_24 (by decide) (by unfold jrg; omega)
theorem g_V_valueAt_25 : jSnd 115 25 (o_iret) := snd_iret d_V_valueAt_25 rfl
set_option maxRecDepth 100000 in
theorem ga_V_valueAt : jAll 115 0 tmp_V_valueAt := ⟨g_V_valueAt_0, g_V_valueAt_1, g_V_valueAt_2, snd_bad _ _, snd_bad _ _, g_V_valueAt_5, snd_bad _ _, snd_bad _ _, g_V_valueAt_8, g_V_valueAt_9, snd_bad _ _, snd_bad _ _, g_V_valueAt_12, g_V_valueAt_13, g_V_valueAt_14, g_V_valueAt_15, g_V_valueAt_16, g_V_valueAt_17, g_V_valueAt_18, snd_bad _ _, g_V_valueAt_20, g_V_valueAt_21, snd_bad _ _, snd_bad _ _, g_V_valueAt_24, g_V_valueAt_25, trivial⟩
theorem d_V_startsRun_0 : decode (tm_c 116) 0 = .ok (.iload_n 1, 1) := by decide +kernel
theorem d_V_startsRun_1 : decode (tm_c 116) 1 = .ok (.ifCond .eq (20), 3) := by decide +kernel
theorem d_V_startsRun_4 : decode (tm_c 116) 4 = .ok (.aload_n 0, 1) := by decide +kernel
theorem d_V_startsRun_5 : decode (tm_c 116) 5 = .ok (.getfield 18, 3) := by decide +kernel
theorem d_V_startsRun_8 : decode (tm_c 116) 8 = .ok (.iload_n 1, 1) := by decide +kernel
theorem d_V_startsRun_9 : decode (tm_c 116) 9 = .ok (.iaload, 1) := by decide +kernel
theorem d_V_startsRun_10 : decode (tm_c 116) 10 = .ok (.aload_n 0, 1) := by decide +kernel
theorem d_V_startsRun_11 : decode (tm_c 116) 11 = .ok (.getfield 18, 3) := by decide +kernel
theorem d_V_startsRun_14 : decode (tm_c 116) 14 = .ok (.iload_n 1, 1) := by decide +kernel
theorem d_V_startsRun_15 : decode (tm_c 116) 15 = .ok (.iconst (1), 1) := by decide +kernel
theorem d_V_startsRun_16 : decode (tm_c 116) 16 = .ok (.isub, 1) := by decide +kernel
theorem d_V_startsRun_17 : decode (tm_c 116) 17 = .ok (.iaload, 1) := by decide +kernel
theorem d_V_startsRun_18 : decode (tm_c 116) 18 = .ok (.if_icmp .eq (7), 3) := by decide +kernel
theorem d_V_startsRun_21 : decode (tm_c 116) 21 = .ok (.iconst (1), 1) := by decide +kernel
theorem d_V_startsRun_22 : decode (tm_c 116) 22 = .ok (.goto (4), 3) := by decide +kernel
theorem d_V_startsRun_25 : decode (tm_c 116) 25 = .ok (.iconst (0), 1) := by decide +kernel
theorem d_V_startsRun_26 : decode (tm_c 116) 26 = .ok (.ireturn, 1) := by decide +kernel
theorem g_V_startsRun_0 : jSnd 116 0 (o_iload 1 1) := snd_iload_n d_V_startsRun_0 rfl
theorem g_V_startsRun_1 : jSnd 116 1 (o_if_eq 4 21) := snd_if_eq d_V_startsRun_1 (by decide)
theorem g_V_startsRun_4 : jSnd 116 4 (o_aload 5 0) := snd_aload_n d_V_startsRun_4 rfl
theorem g_V_startsRun_5 : jSnd 116 5 (o_getR 8 12 (3)) := snd_getR (ci := 2) (k := 3) d_V_startsRun_5 rfl tm_in2 (by decide) wd_425 rfl
theorem g_V_startsRun_8 : jSnd 116 8 (o_iload 9 1) := snd_iload_n d_V_startsRun_8 rfl
theorem g_V_startsRun_9 : jSnd 116 9 (o_nald 10 1) := snd_iald d_V_startsRun_9
theorem g_V_startsRun_10 : jSnd 116 10 (o_aload 11 0) := snd_aload_n d_V_startsRun_10 rfl
theorem g_V_startsRun_11 : jSnd 116 11 (o_getR 14 12 (3)) := snd_getR (ci := 2) (k := 3) d_V_startsRun_11 rfl tm_in2 (by decide) wd_425 rfl
theorem g_V_startsRun_14 : jSnd 116 14 (o_iload 15 1) := snd_iload_n d_V_startsRun_14 rfl
theorem g_V_startsRun_15 : jSnd 116 15 (o_push 16 (1)) := snd_iconst (n := 1) (z := 1) d_V_startsRun_15 (by decide) (by unfold jrg; omega)
theorem g_V_startsRun_16 : jSnd 116 16 (o_bin 17 f_sub) := snd_isub d_V_startsRun_16
theorem g_V_startsRun_17 : jSnd 116 17 (o_nald 18 1) := snd_iald d_V_startsRun_17
theorem g_V_startsRun_18 : jSnd 116 18 (o_ic_eq 21 25) := snd_ic_eq d_V_startsRun_18 (by decide)
theorem g_V_startsRun_21 : jSnd 116 21 (o_push 22 (1)) := snd_iconst (n := 1) (z := 1) d_V_startsRun_21 (by decide) (by unfold jrg; omega)
theorem g_V_startsRun_22 : jSnd 116 22 (o_goto 26) := snd_goto d_V_startsRun_22 (by decide)
theorem g_V_startsRun_25 : jSnd 116 25 (o_push 26 (0)) := snd_iconst (n := 0) (z := 0) d_V_startsRun_25 (by decide) (by unfold jrg; omega)
theorem g_V_startsRun_26 : jSnd 116 26 (o_zret) := snd_zret d_V_startsRun_26 rfl
set_option maxRecDepth 100000 in
theorem ga_V_startsRun : jAll 116 0 tmp_V_startsRun := ⟨g_V_startsRun_0, g_V_startsRun_1, snd_bad _ _, snd_bad _ _, g_V_startsRun_4, g_V_startsRun_5, snd_bad _ _, snd_bad _ _, g_V_startsRun_8, g_V_startsRun_9, g_V_startsRun_10, g_V_startsRun_11, snd_bad _ _, snd_bad _ _, g_V_startsRun_14, g_V_startsRun_15, g_V_startsRun_16, g_V_startsRun_17, g_V_startsRun_18, snd_bad _ _, snd_bad _ _, g_V_startsRun_21, g_V_startsRun_22, snd_bad _ _, snd_bad _ _, g_V_startsRun_25, g_V_startsRun_26, trivial⟩
theorem d_V_runCount_0 : decode (tm_c 117) 0 = .ok (.iconst (0), 1) := by decide +kernel
theorem d_V_runCount_1 : decode (tm_c 117) 1 = .ok (.istore_n 1, 1) := by decide +kernel
theorem d_V_runCount_2 : decode (tm_c 117) 2 = .ok (.iconst (0), 1) := by decide +kernel
theorem d_V_runCount_3 : decode (tm_c 117) 3 = .ok (.istore_n 2, 1) := by decide +kernel
theorem d_V_runCount_4 : decode (tm_c 117) 4 = .ok (.iload_n 2, 1) := by decide +kernel
theorem d_V_runCount_5 : decode (tm_c 117) 5 = .ok (.aload_n 0, 1) := by decide +kernel
theorem d_V_runCount_6 : decode (tm_c 117) 6 = .ok (.getfield 38, 3) := by decide +kernel
theorem d_V_runCount_9 : decode (tm_c 117) 9 = .ok (.if_icmp .ge (20), 3) := by decide +kernel
theorem d_V_runCount_12 : decode (tm_c 117) 12 = .ok (.aload_n 0, 1) := by decide +kernel
theorem d_V_runCount_13 : decode (tm_c 117) 13 = .ok (.iload_n 2, 1) := by decide +kernel
theorem d_V_runCount_14 : decode (tm_c 117) 14 = .ok (.invokevirtual 106, 3) := by decide +kernel
theorem d_V_runCount_17 : decode (tm_c 117) 17 = .ok (.ifCond .eq (6), 3) := by decide +kernel
theorem d_V_runCount_20 : decode (tm_c 117) 20 = .ok (.iinc 1 (1), 3) := by decide +kernel
theorem d_V_runCount_23 : decode (tm_c 117) 23 = .ok (.iinc 2 (1), 3) := by decide +kernel
theorem d_V_runCount_26 : decode (tm_c 117) 26 = .ok (.goto (-22), 3) := by decide +kernel
theorem d_V_runCount_29 : decode (tm_c 117) 29 = .ok (.iload_n 1, 1) := by decide +kernel
theorem d_V_runCount_30 : decode (tm_c 117) 30 = .ok (.ireturn, 1) := by decide +kernel
theorem g_V_runCount_0 : jSnd 117 0 (o_push 1 (0)) := snd_iconst (n := 0) (z := 0) d_V_runCount_0 (by decide) (by unfold jrg; omega)
theorem g_V_runCount_1 : jSnd 117 1 (o_istore 2 1) := snd_istore_n d_V_runCount_1 rfl (by decide)
theorem g_V_runCount_2 : jSnd 117 2 (o_push 3 (0)) := snd_iconst (n := 0) (z := 0) d_V_runCount_2 (by decide) (by unfold jrg; omega)
theorem g_V_runCount_3 : jSnd 117 3 (o_istore 4 2) := snd_istore_n d_V_runCount_3 rfl (by decide)
theorem g_V_runCount_4 : jSnd 117 4 (o_iload 5 2) := snd_iload_n d_V_runCount_4 rfl
theorem g_V_runCount_5 : jSnd 117 5 (o_aload 6 0) := snd_aload_n d_V_runCount_5 rfl
theorem g_V_runCount_6 : jSnd 117 6 (o_getI 9 12 (0)) := snd_getI (ci := 2) (k := 0) d_V_runCount_6 rfl tm_in2 (by decide) wd_433 rfl
theorem g_V_runCount_9 : jSnd 117 9 (o_ic_ge 12 29) := snd_ic_ge d_V_runCount_9 (by decide)
theorem g_V_runCount_12 : jSnd 117 12 (o_aload 13 0) := snd_aload_n d_V_runCount_12 rfl
theorem g_V_runCount_13 : jSnd 117 13 (o_iload 14 2) := snd_iload_n d_V_runCount_13 rfl
theorem g_V_runCount_14 : jSnd 117 14 (o_call 17 116 2 2 12 false) := snd_callV (ci := 2) (n := 1) rfl d_V_runCount_14 (by decide) (by decide) (by decide) wc_116 wd_463 wd_464 wd_465 wd_132 (by decide +kernel) (by decide) (by decide)
theorem g_V_runCount_17 : jSnd 117 17 (o_if_eq 20 23) := snd_if_eq d_V_runCount_17 (by decide)
theorem g_V_runCount_20 : jSnd 117 20 (o_iinc 23 1 (1)) := snd_iinc d_V_runCount_20 (by decide)
theorem g_V_runCount_23 : jSnd 117 23 (o_iinc 26 2 (1)) := snd_iinc d_V_runCount_23 (by decide)
theorem g_V_runCount_26 : jSnd 117 26 (o_goto 4) := snd_goto d_V_runCount_26 (by decide)
theorem g_V_runCount_29 : jSnd 117 29 (o_iload 30 1) := snd_iload_n d_V_runCount_29 rfl
theorem g_V_runCount_30 : jSnd 117 30 (o_iret) := snd_iret d_V_runCount_30 rfl
set_option maxRecDepth 100000 in
theorem ga_V_runCount : jAll 117 0 tmp_V_runCount := ⟨g_V_runCount_0, g_V_runCount_1, g_V_runCount_2, g_V_runCount_3, g_V_runCount_4, g_V_runCount_5, g_V_runCount_6, snd_bad _ _, snd_bad _ _, g_V_runCount_9, snd_bad _ _, snd_bad _ _, g_V_runCount_12, g_V_runCount_13, g_V_runCount_14, snd_bad _ _, snd_bad _ _, g_V_runCount_17, snd_bad _ _, snd_bad _ _, g_V_runCount_20, snd_bad _ _, snd_bad _ _, g_V_runCount_23, snd_bad _ _, snd_bad _ _, g_V_runCount_26, snd_bad _ _, snd_bad _ _, g_V_runCount_29, g_V_runCount_30, trivial⟩
theorem d_V_runStart_0 : decode (tm_c 118) 0 = .ok (.iconst (0), 1) := by decide +kernel
theorem d_V_runStart_1 : decode (tm_c 118) 1 = .ok (.istore_n 2, 1) := by decide +kernel
theorem d_V_runStart_2 : decode (tm_c 118) 2 = .ok (.iconst (0), 1) := by decide +kernel
theorem d_V_runStart_3 : decode (tm_c 118) 3 = .ok (.istore_n 3, 1) := by decide +kernel
theorem d_V_runStart_4 : decode (tm_c 118) 4 = .ok (.iload_n 3, 1) := by decide +kernel
theorem d_V_runStart_5 : decode (tm_c 118) 5 = .ok (.aload_n 0, 1) := by decide +kernel
theorem d_V_runStart_6 : decode (tm_c 118) 6 = .ok (.getfield 38, 3) := by decide +kernel
theorem d_V_runStart_9 : decode (tm_c 118) 9 = .ok (.if_icmp .ge (27), 3) := by decide +kernel
theorem d_V_runStart_12 : decode (tm_c 118) 12 = .ok (.aload_n 0, 1) := by decide +kernel
theorem d_V_runStart_13 : decode (tm_c 118) 13 = .ok (.iload_n 3, 1) := by decide +kernel
theorem d_V_runStart_14 : decode (tm_c 118) 14 = .ok (.invokevirtual 106, 3) := by decide +kernel
theorem d_V_runStart_17 : decode (tm_c 118) 17 = .ok (.ifCond .eq (13), 3) := by decide +kernel
theorem d_V_runStart_20 : decode (tm_c 118) 20 = .ok (.iload_n 2, 1) := by decide +kernel
theorem d_V_runStart_21 : decode (tm_c 118) 21 = .ok (.iload_n 1, 1) := by decide +kernel
theorem d_V_runStart_22 : decode (tm_c 118) 22 = .ok (.if_icmp .ne (5), 3) := by decide +kernel
theorem d_V_runStart_25 : decode (tm_c 118) 25 = .ok (.iload_n 3, 1) := by decide +kernel
theorem d_V_runStart_26 : decode (tm_c 118) 26 = .ok (.ireturn, 1) := by decide +kernel
theorem d_V_runStart_27 : decode (tm_c 118) 27 = .ok (.iinc 2 (1), 3) := by decide +kernel
theorem d_V_runStart_30 : decode (tm_c 118) 30 = .ok (.iinc 3 (1), 3) := by decide +kernel
theorem d_V_runStart_33 : decode (tm_c 118) 33 = .ok (.goto (-29), 3) := by decide +kernel
theorem d_V_runStart_36 : decode (tm_c 118) 36 = .ok (.iconst (-1), 1) := by decide +kernel
theorem d_V_runStart_37 : decode (tm_c 118) 37 = .ok (.ireturn, 1) := by decide +kernel
theorem g_V_runStart_0 : jSnd 118 0 (o_push 1 (0)) := snd_iconst (n := 0) (z := 0) d_V_runStart_0 (by decide) (by unfold jrg; omega)
theorem g_V_runStart_1 : jSnd 118 1 (o_istore 2 2) := snd_istore_n d_V_runStart_1 rfl (by decide)
theorem g_V_runStart_2 : jSnd 118 2 (o_push 3 (0)) := snd_iconst (n := 0) (z := 0) d_V_runStart_2 (by decide) (by unfold jrg; omega)
theorem g_V_runStart_3 : jSnd 118 3 (o_istore 4 3) := snd_istore_n d_V_runStart_3 rfl (by decide)
theorem g_V_runStart_4 : jSnd 118 4 (o_iload 5 3) := snd_iload_n d_V_runStart_4 rfl
theorem g_V_runStart_5 : jSnd 118 5 (o_aload 6 0) := snd_aload_n d_V_runStart_5 rfl
theorem g_V_runStart_6 : jSnd 118 6 (o_getI 9 12 (0)) := snd_getI (ci := 2) (k := 0) d_V_runStart_6 rfl tm_in2 (by decide) wd_433 rfl
theorem g_V_runStart_9 : jSnd 118 9 (o_ic_ge 12 36) := snd_ic_ge d_V_runStart_9 (by decide)
theorem g_V_runStart_12 : jSnd 118 12 (o_aload 13 0) := snd_aload_n d_V_runStart_12 rfl
theorem g_V_runStart_13 : jSnd 118 13 (o_iload 14 3) := snd_iload_n d_V_runStart_13 rfl
theorem g_V_runStart_14 : jSnd 118 14 (o_call 17 116 2 2 12 false) := snd_callV (ci := 2) (n := 1) rfl d_V_runStart_14 (by decide) (by decide) (by decide) wc_116 wd_463 wd_464 wd_465 wd_132 (by decide +kernel) (by decide) (by decide)
theorem g_V_runStart_17 : jSnd 118 17 (o_if_eq 20 30) := snd_if_eq d_V_runStart_17 (by decide)
theorem g_V_runStart_20 : jSnd 118 20 (o_iload 21 2) := snd_iload_n d_V_runStart_20 rfl
theorem g_V_runStart_21 : jSnd 118 21 (o_iload 22 1) := snd_iload_n d_V_runStart_21 rfl
theorem g_V_runStart_22 : jSnd 118 22 (o_ic_ne 25 27) := snd_ic_ne d_V_runStart_22 (by decide)
theorem g_V_runStart_25 : jSnd 118 25 (o_iload 26 3) := snd_iload_n d_V_runStart_25 rfl
theorem g_V_runStart_26 : jSnd 118 26 (o_iret) := snd_iret d_V_runStart_26 rfl
theorem g_V_runStart_27 : jSnd 118 27 (o_iinc 30 2 (1)) := snd_iinc d_V_runStart_27 (by decide)
theorem g_V_runStart_30 : jSnd 118 30 (o_iinc 33 3 (1)) := snd_iinc d_V_runStart_30 (by decide)
theorem g_V_runStart_33 : jSnd 118 33 (o_goto 4) := snd_goto d_V_runStart_33 (by decide)
theorem g_V_runStart_36 : jSnd 118 36 (o_push 37 (-1)) := snd_iconst (n := -1) (z := -1) d_V_runStart_36 (by decide) (by unfold jrg; omega)
theorem g_V_runStart_37 : jSnd 118 37 (o_iret) := snd_iret d_V_runStart_37 rfl
set_option maxRecDepth 100000 in
theorem ga_V_runStart : jAll 118 0 tmp_V_runStart := ⟨g_V_runStart_0, g_V_runStart_1, g_V_runStart_2, g_V_runStart_3, g_V_runStart_4, g_V_runStart_5, g_V_runStart_6, snd_bad _ _, snd_bad _ _, g_V_runStart_9, snd_bad _ _, snd_bad _ _, g_V_runStart_12, g_V_runStart_13, g_V_runStart_14, snd_bad _ _, snd_bad _ _, g_V_runStart_17, snd_bad _ _, snd_bad _ _, g_V_runStart_20, g_V_runStart_21, g_V_runStart_22, snd_bad _ _, snd_bad _ _, g_V_runStart_25, g_V_runStart_26, g_V_runStart_27, snd_bad _ _, snd_bad _ _, g_V_runStart_30, snd_bad _ _, snd_bad _ _, g_V_runStart_33, snd_bad _ _, snd_bad _ _, g_V_runStart_36, g_V_runStart_37, trivial⟩
theorem d_V_runEnd_0 : decode (tm_c 119) 0 = .ok (.iload_n 1, 1) := by decide +kernel
theorem d_V_runEnd_1 : decode (tm_c 119) 1 = .ok (.iconst (1), 1) := by decide +kernel
theorem d_V_runEnd_2 : decode (tm_c 119) 2 = .ok (.iadd, 1) := by decide +kernel
theorem d_V_runEnd_3 : decode (tm_c 119) 3 = .ok (.istore_n 2, 1) := by decide +kernel
theorem d_V_runEnd_4 : decode (tm_c 119) 4 = .ok (.iload_n 2, 1) := by decide +kernel
theorem d_V_runEnd_5 : decode (tm_c 119) 5 = .ok (.aload_n 0, 1) := by decide +kernel
theorem d_V_runEnd_6 : decode (tm_c 119) 6 = .ok (.getfield 38, 3) := by decide +kernel
theorem d_V_runEnd_9 : decode (tm_c 119) 9 = .ok (.if_icmp .ge (17), 3) := by decide +kernel
theorem d_V_runEnd_12 : decode (tm_c 119) 12 = .ok (.aload_n 0, 1) := by decide +kernel
theorem d_V_runEnd_13 : decode (tm_c 119) 13 = .ok (.iload_n 2, 1) := by decide +kernel
theorem d_V_runEnd_14 : decode (tm_c 119) 14 = .ok (.invokevirtual 106, 3) := by decide +kernel
theorem d_V_runEnd_17 : decode (tm_c 119) 17 = .ok (.ifCond .ne (9), 3) := by decide +kernel
theorem d_V_runEnd_20 : decode (tm_c 119) 20 = .ok (.iinc 2 (1), 3) := by decide +kernel
theorem d_V_runEnd_23 : decode (tm_c 119) 23 = .ok (.goto (-19), 3) := by decide +kernel
theorem d_V_runEnd_26 : decode (tm_c 119) 26 = .ok (.iload_n 2, 1) := by decide +kernel
theorem d_V_runEnd_27 : decode (tm_c 119) 27 = .ok (.ireturn, 1) := by decide +kernel
theorem g_V_runEnd_0 : jSnd 119 0 (o_iload 1 1) := snd_iload_n d_V_runEnd_0 rfl
theorem g_V_runEnd_1 : jSnd 119 1 (o_push 2 (1)) := snd_iconst (n := 1) (z := 1) d_V_runEnd_1 (by decide) (by unfold jrg; omega)
theorem g_V_runEnd_2 : jSnd 119 2 (o_bin 3 f_add) := snd_iadd d_V_runEnd_2
theorem g_V_runEnd_3 : jSnd 119 3 (o_istore 4 2) := snd_istore_n d_V_runEnd_3 rfl (by decide)
theorem g_V_runEnd_4 : jSnd 119 4 (o_iload 5 2) := snd_iload_n d_V_runEnd_4 rfl
theorem g_V_runEnd_5 : jSnd 119 5 (o_aload 6 0) := snd_aload_n d_V_runEnd_5 rfl
theorem g_V_runEnd_6 : jSnd 119 6 (o_getI 9 12 (0)) := snd_getI (ci := 2) (k := 0) d_V_runEnd_6 rfl tm_in2 (by decide) wd_433 rfl
theorem g_V_runEnd_9 : jSnd 119 9 (o_ic_ge 12 26) := snd_ic_ge d_V_runEnd_9 (by decide)
theorem g_V_runEnd_12 : jSnd 119 12 (o_aload 13 0) := snd_aload_n d_V_runEnd_12 rfl
theorem g_V_runEnd_13 : jSnd 119 13 (o_iload 14 2) := snd_iload_n d_V_runEnd_13 rfl
theorem g_V_runEnd_14 : jSnd 119 14 (o_call 17 116 2 2 12 false) := snd_callV (ci := 2) (n := 1) rfl d_V_runEnd_14 (by decide) (by decide) (by decide) wc_116 wd_463 wd_464 wd_465 wd_132 (by decide +kernel) (by decide) (by decide)
theorem g_V_runEnd_17 : jSnd 119 17 (o_if_ne 20 26) := snd_if_ne d_V_runEnd_17 (by decide)
theorem g_V_runEnd_20 : jSnd 119 20 (o_iinc 23 2 (1)) := snd_iinc d_V_runEnd_20 (by decide)
theorem g_V_runEnd_23 : jSnd 119 23 (o_goto 4) := snd_goto d_V_runEnd_23 (by decide)
theorem g_V_runEnd_26 : jSnd 119 26 (o_iload 27 2) := snd_iload_n d_V_runEnd_26 rfl
theorem g_V_runEnd_27 : jSnd 119 27 (o_iret) := snd_iret d_V_runEnd_27 rfl
set_option maxRecDepth 100000 in
theorem ga_V_runEnd : jAll 119 0 tmp_V_runEnd := ⟨g_V_runEnd_0, g_V_runEnd_1, g_V_runEnd_2, g_V_runEnd_3, g_V_runEnd_4, g_V_runEnd_5, g_V_runEnd_6, snd_bad _ _, snd_bad _ _, g_V_runEnd_9, snd_bad _ _, snd_bad _ _, g_V_runEnd_12, g_V_runEnd_13, g_V_runEnd_14, snd_bad _ _, snd_bad _ _, g_V_runEnd_17, snd_bad _ _, snd_bad _ _, g_V_runEnd_20, snd_bad _ _, snd_bad _ _, g_V_runEnd_23, snd_bad _ _, snd_bad _ _, g_V_runEnd_26, g_V_runEnd_27, trivial⟩
