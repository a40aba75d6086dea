/-! the constructors, and the whole law -/
theorem jur_ap (r : Nat → Int → Option Nat) (a : Nat) (i : Int) (v : Option Nat) (b : Nat) (j : Int) : jur r a i v b j = if b = a ∧ j = i then v else r b j := rfl
theorem lw_new (L : Nat) (m : jM) (Q : jV → jG → jM → Prop) (h : wp 0 18 [jO (some 0), jO (some 1), jO (some 32), jI 0] [] (g0 L) (jup m 32 11 (-1)) Q) : wp 0 0 [jO (some 0), jU, jU, jU] [] ([(9, L)], fun _ _ => none) m Q := by
  simp only [x_L_law_0, x_L_law_3, x_L_law_4, x_L_law_7, x_T_init_0, x_T_init_1, x_T_init_4, x_T_init_5, x_T_init_8, x_T_init_9, x_T_init_12, x_T_init_15, x_T_init_16, x_T_init_17, x_T_init_20, x_T_init_23, x_T_init_24, x_T_init_25, x_T_init_26, x_T_init_27, x_T_init_30, x_T_init_31, x_T_init_34, x_T_init_35, x_T_init_38, x_T_init_39, x_T_init_42, x_T_init_43, x_T_init_46, x_T_init_49, x_T_init_50, x_T_init_53, x_T_init_54, x_T_init_57, x_T_init_60, x_T_init_61, x_T_init_64, x_T_init_65, x_T_init_68, x_T_init_71, x_R_init_0, x_R_init_1, x_R_init_4, x_R_init_5, x_R_init_8, x_R_init_10, x_R_init_13, x_R_init_14, x_R_init_17, x_R_init_19, x_R_init_22, x_R_init_23, x_R_init_26, x_R_init_28, x_R_init_31, x_R_init_32, x_R_init_35, x_R_init_37, x_R_init_40, x_N_init_0, x_N_init_1, x_N_init_4, x_N_init_5, x_N_init_8, x_N_init_10, x_N_init_13, x_V_init_0, x_V_init_1, x_V_init_4, x_V_init_5, x_V_init_8, x_V_init_10, x_V_init_13, x_V_init_14, x_V_init_17, x_V_init_19, x_V_init_22, x_V_init_23, x_V_init_26, x_V_init_28, x_V_init_31, x_V_init_32, x_V_init_35, x_V_init_37, x_V_init_40, x_V_init_41, x_V_init_44, x_V_init_46, x_V_init_49, x_V_init_50, x_V_init_53, x_V_init_55, x_V_init_58, x_V_init_59, x_V_init_62, x_V_init_64, x_V_init_67, jur_ap, jsh, List.cons_append, List.nil_append, List.length_cons, List.length_nil, List.getD_cons_zero, List.getD_cons_succ, Int.reduceToNat, Int.reduceAdd, show jwr 1 = 1 from rfl, show jwr 2 = 2 from rfl, show jwr 3 = 3 from rfl, show jwr 4 = 4 from rfl, true_and, and_true, true_or, or_true, or_false, false_or, false_and, and_false, not_true, not_false_iff, ne_eq, and_self, eq_self, if_true, if_false, ite_true, ite_false, Nat.reduceLeDiff, Int.cast_ofNat_Int, Int.reduceLT, Int.reduceLE, Int.reduceEq, Int.reduceNeg, reduceCtorEq, jup_ap, Nat.reduceEqDiff, Nat.reduceAdd]
  simp only [x_L_law_8, x_L_law_11, x_L_law_12, x_L_law_15, x_L_law_16, x_L_law_17, x_M_init_0, x_M_init_1, x_M_init_4, x_M_init_5, x_M_init_8, x_M_init_10, x_M_init_13, x_M_init_14, x_M_init_17, x_M_init_19, x_M_init_22, x_M_init_23, x_M_init_26, x_M_init_28, x_M_init_31, x_M_init_32, x_M_init_35, x_M_init_37, x_M_init_40, x_M_init_41, x_M_init_44, x_M_init_46, x_M_init_49, x_M_init_50, x_M_init_53, x_M_init_55, x_M_init_58, x_M_init_59, x_M_init_62, x_M_init_64, x_M_init_67, x_M_init_68, x_M_init_71, x_M_init_73, x_M_init_76, x_M_init_77, x_M_init_78, x_M_init_80, x_M_init_83, x_M_init_84, x_M_init_85, x_M_init_88, x_M_init_89, x_M_init_92, x_M_init_94, x_M_init_97, x_M_init_98, x_M_init_101, x_M_init_103, x_M_init_106, x_M_init_107, x_M_init_110, x_M_init_112, x_M_init_115, x_M_init_116, x_M_init_119, x_M_init_121, x_M_init_124, x_M_init_125, x_M_init_128, x_M_init_130, x_M_init_133, x_M_init_134, x_M_init_137, x_M_init_139, x_M_init_142, x_M_init_143, x_M_init_146, x_M_init_148, x_M_init_151, x_M_init_152, x_M_init_155, x_M_init_157, x_M_init_160, x_M_init_161, x_M_init_164, x_M_init_166, x_M_init_169, x_M_init_170, x_M_init_173, x_M_init_175, x_M_init_178, x_M_init_179, x_M_init_182, x_M_init_184, x_M_init_187, x_M_init_188, x_M_init_191, x_M_init_193, x_M_init_196, jur_ap, jsh, List.cons_append, List.nil_append, List.length_cons, List.length_nil, List.getD_cons_zero, List.getD_cons_succ, Int.reduceToNat, Int.reduceAdd, true_and, and_true, true_or, or_true, or_false, false_or, false_and, and_false, not_true, not_false_iff, ne_eq, and_self, eq_self, if_true, if_false, ite_true, ite_false, Nat.reduceLeDiff, Int.cast_ofNat_Int, Int.reduceLT, Int.reduceLE, Int.reduceEq, Int.reduceNeg, reduceCtorEq, jup_ap, Nat.reduceEqDiff, Nat.reduceAdd]
  exact h
theorem b2i_f0 {m : jM} {a : Nat} (h : ∀ j, m (a + 1) j = 0) (r : Int) : kb m a r = false := kb_false (h r)
theorem IN_0 {m : jM} (h : ∀ a j, a ≠ 0 → m a j = 0) : IN (jup m 32 11 (-1)) 0 := by
  have e : ∀ b, b ≠ 0 → b < 32 → ∀ j, (jup m 32 11 (-1)) b j = 0 := fun b hb h2 j => by
    rw [jup_ap, if_neg (by omega)]
    exact h b j hb
  have e2 : ∀ b j, b ≠ 0 → ¬ (b = 32 ∧ j = 11) → (jup m 32 11 (-1)) b j = 0 := fun b j hb h2 => by
    rw [jup_ap, if_neg h2]
    exact h b j hb
  have e3 : (jup m 32 11 (-1)) 32 11 = -1 := by rw [jup_ap, if_pos ⟨rfl, rfl⟩]
  generalize jup m 32 11 (-1) = m1 at *
  have hP : PLm m1 = [] := by
    unfold PLm
    rw [e 2 (by decide) (by decide)]
    rfl
  refine ⟨⟨e 2 (by decide) (by decide) 0, by decide, fun r a b => by omega, fun r r' a b => by omega, ?_, ?_, ?_, fun r a b => by omega, fun r a => e 4 (by decide) (by decide) r, fun p p1 p2 => ?_⟩, ⟨⟨e2 32 1 (by decide) (by omega), fun r a b => by omega, fun p r p1 p2 r1 r2 => ?_, fun p p1 p2 => ?_⟩, Or.inl e3⟩⟩
  · rw [e 2 (by decide) (by decide)]
    rfl
  · rw [hP]
    rfl
  · rfl
  · have hl := nc_lt ⟨p1, p2⟩
    refine ⟨fun r a b => Or.inl (e _ (by omega) (by omega) r), fun r a b c => e _ (by omega) (by omega) r, fun r a b => by omega, fun r a b => by omega, ?_, ?_⟩
    · rw [e _ (by omega) (by omega)]
      rfl
    · rw [e _ (by omega) (by omega)]
      omega
  · have hl := nc_lt ⟨p1, p2⟩
    rw [e2 40 _ (by decide) (by omega), e _ (by omega) (by omega)]
  · have hl := nc_lt ⟨p1, p2⟩
    rw [e2 41 _ (by decide) (by omega), e _ (by omega) (by omega)]
theorem lw_all {L : Nat} (hL : L ≤ 100000) {m : jM} (h : ∀ a j, a ≠ 0 → m a j = 0) (hs : ∀ j, m 0 j < 2147483648) : wp 0 0 [jO (some 0), jU, jU, jU] [] ([(9, L)], fun _ _ => none) m (fun r g _ => r = jI 1 ∧ g = g0 L) := by
  refine lw_new L m _ (lw_loop hL _ (fun _ => ⟨rfl, rfl⟩) (L + 7) 0 _ 0 (by omega) (by omega) (by omega) (IN_0 h) (fun j => ?_))
  rw [jup_ap, if_neg (by omega)]
  exact hs j
