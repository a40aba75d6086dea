theorem w_M_insert {c m : jM} {n : Nat} (h : CI c n) (hI : MI c m n) (L : Nat) (p i x : Int) (Q : jV → jG → jM → Prop)
    (h0 : (¬ okI c p i x ∨ n = 250) → ∀ m', MK m m' → MI c m' n → Q (jI (-1)) (g0 L) m')
    (hQ : okI c p i x → n < 250 → ∀ m', LoF m m' → MAdd c m' n p 0 x 0 (getI (visL c (nc p)) (i - 1) 0) 0 → Q (jI ((n : Int) + 1)) (g0 L) m') : wp 47 0 [jO (some 32), jI p, jI i, jI x] [] (g0 L) m Q := by
  have hn := h.2.1
  have hK0 : MK m (jup m 32 0 0) := MK.rf.upf (by decide)
  have n0 := fun q => h0 q _ hK0 hI.thr
  have hIt := hI.thr
  rw [x_M_insert_0, x_M_insert_1, x_M_insert_2]
  refine ⟨rfl, ?_⟩
  generalize jup m 32 0 0 = m0 at *
  have e1 : m0 32 1 = (n : Int) := hIt.1.1
  simp only [x_M_insert_0, x_M_insert_1, x_M_insert_2, x_M_insert_5, x_M_insert_6, x_M_insert_9, x_M_insert_12, x_M_insert_13, x_M_insert_16, x_M_insert_19, x_M_insert_20, x_M_insert_23, x_M_insert_26, x_M_insert_29, x_M_insert_30, x_M_insert_31, x_M_insert_32, x_M_insert_33, x_M_insert_36, x_M_insert_37, x_M_insert_38, x_M_insert_39, x_M_insert_42, x_M_insert_45, x_M_insert_48, x_M_insert_49, x_M_insert_50, x_M_insert_51, x_M_insert_52, x_M_insert_53, x_M_insert_54, x_M_insert_57, x_M_insert_58, x_M_insert_61, x_M_insert_62, x_M_insert_65, x_M_insert_66, x_M_insert_67, x_M_insert_68, x_M_insert_69, x_M_insert_70, x_M_insert_73, x_M_insert_76, x_M_insert_77, w_M_isNode, w_M_isSign, e1, b01_0, sk_0, sk_1, sk_2, sk_3, sk_4, sk_5, sk_6, sk_7, sk_8, sk_9, sk_10, sk_11, sk_12, sk_13, sk_14, sk_15, sk_16, sk_17, sk_18, sk_19, sk_20, sk_21, sk_22, sk_23, sk_24, sk_25, sk_26, sk_27, sk_28, sk_29, sk_30, sk_31, sk_32, sk_33, sk_34, sk_35, sk_36, sk_37, sk_38, sk_39, sk_40, sk_41, sk_42, sk_43, sk_44, sk_45, sk_46, sk_47, sk_48, sk_49, sk_50, sk_51, sk_52, sk_53, sn_0, sn_1, sn_2, sn_3, sn_4, sn_5, sn_6, sn_7, sn_8, sn_9, sn_10, sn_11, sn_12, sn_13, sn_14, sn_15, sn_16, sn_17, sn_18, sn_19, sn_20, sn_21, sn_22, sn_23, sn_24, sn_25, sn_26, sn_27, sn_28, sn_29, sn_30, sn_31, sn_32, sn_33, sn_34, sn_35, sn_36, sn_37, sn_38, sn_39, sn_40, sn_41, sn_42, sn_43, sn_44, sn_45, sn_46, sn_47, sn_48, sn_49, sn_50, sn_51, sn_52, sn_53, rf_2_1, rf_2_2, rf_2_3, rf_2_4, rf_1_0, rf_1_1, rf_8_0, rf_7_0, rf_10_0, rf_7_1, rf_12_0, rf_7_2, rf_14_0, rf_7_3, rf_16_1, rf_16_2, rf_16_3, rf_16_4, rf_16_5, rf_16_6, rf_16_7, rf_1_2, rf_24_1, rf_24_2, rf_24_3, rf_24_4, rf_24_5, rf_24_6, rf_24_7, rf_1_3, rf_32_2, rf_32_3, rf_32_4, rf_32_5, rf_32_6, rf_32_7, rf_32_8, rf_32_9, rf_32_10, rf_32_12, rf_32_14, rf_32_15, rf_32_16, rf_32_18, rf_32_19, rf_32_21, rf_32_25, rf_32_26, rf_32_27, rf_32_28, rf_32_30, true_and, and_true, true_or, or_true, or_false, false_or, false_and, and_false, not_true, not_false_iff, ne_eq, and_self, eq_self, if_true, if_false, ite_true, ite_false, Nat.reduceLeDiff, Int.cast_ofNat_Int, Int.reduceLT, Int.reduceLE, Int.reduceEq, Int.reduceNeg, reduceCtorEq, jup_ap, Nat.reduceEqDiff, Nat.reduceAdd]
  by_cases hp : 0 ≤ p ∧ p < 4
  · rw [if_neg (fun q => q hp)]
    by_cases hx : x = 10 ∨ (32 ≤ x ∧ x ≤ 55295) ∨ (57344 ≤ x ∧ x ≤ 1114111)
    · rw [if_neg (fun q => q hx)]
      by_cases hz : (n : Int) = 250
      · rw [if_neg (fun q => q hz)]
        exact n0 (Or.inr (by omega))
      · rw [if_pos hz]
        refine w_M_look h hIt L hp _ (fun m1 N s hK e hL => ?_)
        have l := hL.len
        have hI1 := MI.of hIt.1 hp hK e hL
        have hK1 := hK0.trans hK
        simp only [x_M_insert_0, x_M_insert_1, x_M_insert_2, x_M_insert_5, x_M_insert_6, x_M_insert_9, x_M_insert_12, x_M_insert_13, x_M_insert_16, x_M_insert_19, x_M_insert_20, x_M_insert_23, x_M_insert_26, x_M_insert_29, x_M_insert_30, x_M_insert_31, x_M_insert_32, x_M_insert_33, x_M_insert_36, x_M_insert_37, x_M_insert_38, x_M_insert_39, x_M_insert_42, x_M_insert_45, x_M_insert_48, x_M_insert_49, x_M_insert_50, x_M_insert_51, x_M_insert_52, x_M_insert_53, x_M_insert_54, x_M_insert_57, x_M_insert_58, x_M_insert_61, x_M_insert_62, x_M_insert_65, x_M_insert_66, x_M_insert_67, x_M_insert_68, x_M_insert_69, x_M_insert_70, x_M_insert_73, x_M_insert_76, x_M_insert_77, w_M_within, l.2.2.1, b01_0, sk_0, sk_1, sk_2, sk_3, sk_4, sk_5, sk_6, sk_7, sk_8, sk_9, sk_10, sk_11, sk_12, sk_13, sk_14, sk_15, sk_16, sk_17, sk_18, sk_19, sk_20, sk_21, sk_22, sk_23, sk_24, sk_25, sk_26, sk_27, sk_28, sk_29, sk_30, sk_31, sk_32, sk_33, sk_34, sk_35, sk_36, sk_37, sk_38, sk_39, sk_40, sk_41, sk_42, sk_43, sk_44, sk_45, sk_46, sk_47, sk_48, sk_49, sk_50, sk_51, sk_52, sk_53, sn_0, sn_1, sn_2, sn_3, sn_4, sn_5, sn_6, sn_7, sn_8, sn_9, sn_10, sn_11, sn_12, sn_13, sn_14, sn_15, sn_16, sn_17, sn_18, sn_19, sn_20, sn_21, sn_22, sn_23, sn_24, sn_25, sn_26, sn_27, sn_28, sn_29, sn_30, sn_31, sn_32, sn_33, sn_34, sn_35, sn_36, sn_37, sn_38, sn_39, sn_40, sn_41, sn_42, sn_43, sn_44, sn_45, sn_46, sn_47, sn_48, sn_49, sn_50, sn_51, sn_52, sn_53, rf_2_1, rf_2_2, rf_2_3, rf_2_4, rf_1_0, rf_1_1, rf_8_0, rf_7_0, rf_10_0, rf_7_1, rf_12_0, rf_7_2, rf_14_0, rf_7_3, rf_16_1, rf_16_2, rf_16_3, rf_16_4, rf_16_5, rf_16_6, rf_16_7, rf_1_2, rf_24_1, rf_24_2, rf_24_3, rf_24_4, rf_24_5, rf_24_6, rf_24_7, rf_1_3, rf_32_2, rf_32_3, rf_32_4, rf_32_5, rf_32_6, rf_32_7, rf_32_8, rf_32_9, rf_32_10, rf_32_12, rf_32_14, rf_32_15, rf_32_16, rf_32_18, rf_32_19, rf_32_21, rf_32_25, rf_32_26, rf_32_27, rf_32_28, rf_32_30, true_and, and_true, true_or, or_true, or_false, false_or, false_and, and_false, not_true, not_false_iff, ne_eq, and_self, eq_self, if_true, if_false, ite_true, ite_false, Nat.reduceLeDiff, Int.cast_ofNat_Int, Int.reduceLT, Int.reduceLE, Int.reduceEq, Int.reduceNeg, reduceCtorEq, jup_ap, Nat.reduceEqDiff, Nat.reduceAdd]
        by_cases hi : 0 ≤ i ∧ i ≤ (s : Int)
        · rw [if_neg (fun q => q hi)]
          have g := hQ ⟨⟨hx, hp⟩, by rw [l.1]; exact hi⟩ (by omega)
          by_cases i0 : i = 0
          · rw [if_neg (fun q => q i0)]
            rw [getI_out (Or.inl (by omega))] at g
            refine w_M_add h hI1.1 (by omega) L hp _ _ _ _ _ _ (fun m2 hF hA => ?_)
            simp only [x_M_insert_0, x_M_insert_1, x_M_insert_2, x_M_insert_5, x_M_insert_6, x_M_insert_9, x_M_insert_12, x_M_insert_13, x_M_insert_16, x_M_insert_19, x_M_insert_20, x_M_insert_23, x_M_insert_26, x_M_insert_29, x_M_insert_30, x_M_insert_31, x_M_insert_32, x_M_insert_33, x_M_insert_36, x_M_insert_37, x_M_insert_38, x_M_insert_39, x_M_insert_42, x_M_insert_45, x_M_insert_48, x_M_insert_49, x_M_insert_50, x_M_insert_51, x_M_insert_52, x_M_insert_53, x_M_insert_54, x_M_insert_57, x_M_insert_58, x_M_insert_61, x_M_insert_62, x_M_insert_65, x_M_insert_66, x_M_insert_67, x_M_insert_68, x_M_insert_69, x_M_insert_70, x_M_insert_73, x_M_insert_76, x_M_insert_77]
            exact g m2 (hK1.lo.trans hF) hA
          · rw [if_pos i0, show jwr (i - 1) = i - 1 from jw1 (by omega) (by omega), jand_t (by omega)]
            rw [(hL.at h hI1.1 (i := i - 1) (by omega)).2.2 0]
            refine w_M_add h hI1.1 (by omega) L hp _ _ _ _ _ _ (fun m2 hF hA => ?_)
            simp only [x_M_insert_0, x_M_insert_1, x_M_insert_2, x_M_insert_5, x_M_insert_6, x_M_insert_9, x_M_insert_12, x_M_insert_13, x_M_insert_16, x_M_insert_19, x_M_insert_20, x_M_insert_23, x_M_insert_26, x_M_insert_29, x_M_insert_30, x_M_insert_31, x_M_insert_32, x_M_insert_33, x_M_insert_36, x_M_insert_37, x_M_insert_38, x_M_insert_39, x_M_insert_42, x_M_insert_45, x_M_insert_48, x_M_insert_49, x_M_insert_50, x_M_insert_51, x_M_insert_52, x_M_insert_53, x_M_insert_54, x_M_insert_57, x_M_insert_58, x_M_insert_61, x_M_insert_62, x_M_insert_65, x_M_insert_66, x_M_insert_67, x_M_insert_68, x_M_insert_69, x_M_insert_70, x_M_insert_73, x_M_insert_76, x_M_insert_77]
            exact g m2 (hK1.lo.trans hF) hA
        · rw [if_pos hi]
          exact h0 (Or.inl (fun q => hi (by have := q.2; rw [l.1] at this; exact this))) m1 hK1 hI1
    · rw [if_pos hx]
      exact n0 (Or.inl (fun q => hx q.1.1))
  · rw [if_pos hp]
    exact n0 (Or.inl (fun q => hp q.1.2))
theorem w_M_delete {c m : jM} {n : Nat} (h : CI c n) (hI : MI c m n) (L : Nat) (p i : Int) (Q : jV → jG → jM → Prop)
    (h0 : (¬ okD c p i ∨ n = 250) → ∀ m', MK m m' → MI c m' n → Q (jI (-1)) (g0 L) m')
    (hQ : okD c p i → n < 250 → ∀ m', LoF m m' → MAdd c m' n p 1 0 0 (getI (visL c (nc p)) i 0) 0 → Q (jI ((n : Int) + 1)) (g0 L) m') : wp 48 0 [jO (some 32), jI p, jI i] [] (g0 L) m Q := by
  have hn := h.2.1
  have hK0 : MK m (jup m 32 0 0) := MK.rf.upf (by decide)
  have n0 := fun q => h0 q _ hK0 hI.thr
  have hIt := hI.thr
  rw [x_M_delete_0, x_M_delete_1, x_M_delete_2]
  refine ⟨rfl, ?_⟩
  generalize jup m 32 0 0 = m0 at *
  have e1 : m0 32 1 = (n : Int) := hIt.1.1
  simp only [x_M_delete_0, x_M_delete_1, x_M_delete_2, x_M_delete_5, x_M_delete_6, x_M_delete_9, x_M_delete_12, x_M_delete_13, x_M_delete_16, x_M_delete_19, x_M_delete_22, x_M_delete_23, x_M_delete_24, x_M_delete_25, x_M_delete_26, x_M_delete_29, x_M_delete_30, x_M_delete_31, x_M_delete_32, x_M_delete_35, x_M_delete_36, x_M_delete_37, x_M_delete_40, x_M_delete_43, x_M_delete_44, x_M_delete_45, x_M_delete_46, x_M_delete_47, x_M_delete_48, x_M_delete_49, x_M_delete_52, x_M_delete_53, x_M_delete_54, x_M_delete_55, x_M_delete_58, x_M_delete_61, x_M_delete_62, w_M_isNode, e1, b01_0, sk_0, sk_1, sk_2, sk_3, sk_4, sk_5, sk_6, sk_7, sk_8, sk_9, sk_10, sk_11, sk_12, sk_13, sk_14, sk_15, sk_16, sk_17, sk_18, sk_19, sk_20, sk_21, sk_22, sk_23, sk_24, sk_25, sk_26, sk_27, sk_28, sk_29, sk_30, sk_31, sk_32, sk_33, sk_34, sk_35, sk_36, sk_37, sk_38, sk_39, sk_40, sk_41, sk_42, sk_43, sk_44, sk_45, sk_46, sk_47, sk_48, sk_49, sk_50, sk_51, sk_52, sk_53, sn_0, sn_1, sn_2, sn_3, sn_4, sn_5, sn_6, sn_7, sn_8, sn_9, sn_10, sn_11, sn_12, sn_13, sn_14, sn_15, sn_16, sn_17, sn_18, sn_19, sn_20, sn_21, sn_22, sn_23, sn_24, sn_25, sn_26, sn_27, sn_28, sn_29, sn_30, sn_31, sn_32, sn_33, sn_34, sn_35, sn_36, sn_37, sn_38, sn_39, sn_40, sn_41, sn_42, sn_43, sn_44, sn_45, sn_46, sn_47, sn_48, sn_49, sn_50, sn_51, sn_52, sn_53, rf_2_1, rf_2_2, rf_2_3, rf_2_4, rf_1_0, rf_1_1, rf_8_0, rf_7_0, rf_10_0, rf_7_1, rf_12_0, rf_7_2, rf_14_0, rf_7_3, rf_16_1, rf_16_2, rf_16_3, rf_16_4, rf_16_5, rf_16_6, rf_16_7, rf_1_2, rf_24_1, rf_24_2, rf_24_3, rf_24_4, rf_24_5, rf_24_6, rf_24_7, rf_1_3, rf_32_2, rf_32_3, rf_32_4, rf_32_5, rf_32_6, rf_32_7, rf_32_8, rf_32_9, rf_32_10, rf_32_12, rf_32_14, rf_32_15, rf_32_16, rf_32_18, rf_32_19, rf_32_21, rf_32_25, rf_32_26, rf_32_27, rf_32_28, rf_32_30, true_and, and_true, true_or, or_true, or_false, false_or, false_and, and_false, not_true, not_false_iff, ne_eq, and_self, eq_self, if_true, if_false, ite_true, ite_false, Nat.reduceLeDiff, Int.cast_ofNat_Int, Int.reduceLT, Int.reduceLE, Int.reduceEq, Int.reduceNeg, reduceCtorEq, jup_ap, Nat.reduceEqDiff, Nat.reduceAdd]
  by_cases hp : 0 ≤ p ∧ p < 4
  · rw [if_neg (fun q => q hp)]
    by_cases hz : (n : Int) = 250
    · rw [if_neg (fun q => q hz)]
      exact n0 (Or.inr (by omega))
    · rw [if_pos hz]
      refine w_M_look h hIt L hp _ (fun m1 N s hK e hL => ?_)
      have l := hL.len
      have hI1 := MI.of hIt.1 hp hK e hL
      have hK1 := hK0.trans hK
      simp only [x_M_delete_0, x_M_delete_1, x_M_delete_2, x_M_delete_5, x_M_delete_6, x_M_delete_9, x_M_delete_12, x_M_delete_13, x_M_delete_16, x_M_delete_19, x_M_delete_22, x_M_delete_23, x_M_delete_24, x_M_delete_25, x_M_delete_26, x_M_delete_29, x_M_delete_30, x_M_delete_31, x_M_delete_32, x_M_delete_35, x_M_delete_36, x_M_delete_37, x_M_delete_40, x_M_delete_43, x_M_delete_44, x_M_delete_45, x_M_delete_46, x_M_delete_47, x_M_delete_48, x_M_delete_49, x_M_delete_52, x_M_delete_53, x_M_delete_54, x_M_delete_55, x_M_delete_58, x_M_delete_61, x_M_delete_62, w_M_within, l.2.2.1, b01_0, show jwr ((s : Int) - 1) = (s : Int) - 1 from jw1 (by omega) (by omega), sk_0, sk_1, sk_2, sk_3, sk_4, sk_5, sk_6, sk_7, sk_8, sk_9, sk_10, sk_11, sk_12, sk_13, sk_14, sk_15, sk_16, sk_17, sk_18, sk_19, sk_20, sk_21, sk_22, sk_23, sk_24, sk_25, sk_26, sk_27, sk_28, sk_29, sk_30, sk_31, sk_32, sk_33, sk_34, sk_35, sk_36, sk_37, sk_38, sk_39, sk_40, sk_41, sk_42, sk_43, sk_44, sk_45, sk_46, sk_47, sk_48, sk_49, sk_50, sk_51, sk_52, sk_53, sn_0, sn_1, sn_2, sn_3, sn_4, sn_5, sn_6, sn_7, sn_8, sn_9, sn_10, sn_11, sn_12, sn_13, sn_14, sn_15, sn_16, sn_17, sn_18, sn_19, sn_20, sn_21, sn_22, sn_23, sn_24, sn_25, sn_26, sn_27, sn_28, sn_29, sn_30, sn_31, sn_32, sn_33, sn_34, sn_35, sn_36, sn_37, sn_38, sn_39, sn_40, sn_41, sn_42, sn_43, sn_44, sn_45, sn_46, sn_47, sn_48, sn_49, sn_50, sn_51, sn_52, sn_53, rf_2_1, rf_2_2, rf_2_3, rf_2_4, rf_1_0, rf_1_1, rf_8_0, rf_7_0, rf_10_0, rf_7_1, rf_12_0, rf_7_2, rf_14_0, rf_7_3, rf_16_1, rf_16_2, rf_16_3, rf_16_4, rf_16_5, rf_16_6, rf_16_7, rf_1_2, rf_24_1, rf_24_2, rf_24_3, rf_24_4, rf_24_5, rf_24_6, rf_24_7, rf_1_3, rf_32_2, rf_32_3, rf_32_4, rf_32_5, rf_32_6, rf_32_7, rf_32_8, rf_32_9, rf_32_10, rf_32_12, rf_32_14, rf_32_15, rf_32_16, rf_32_18, rf_32_19, rf_32_21, rf_32_25, rf_32_26, rf_32_27, rf_32_28, rf_32_30, true_and, and_true, true_or, or_true, or_false, false_or, false_and, and_false, not_true, not_false_iff, ne_eq, and_self, eq_self, if_true, if_false, ite_true, ite_false, Nat.reduceLeDiff, Int.cast_ofNat_Int, Int.reduceLT, Int.reduceLE, Int.reduceEq, Int.reduceNeg, reduceCtorEq, jup_ap, Nat.reduceEqDiff, Nat.reduceAdd]
      by_cases hi : 0 ≤ i ∧ i ≤ (s : Int) - 1
      · rw [if_neg (fun q => q hi)]
        have g := hQ ⟨hp, by rw [l.1]; omega⟩ (by omega)
        rw [jand_t (by omega), (hL.at h hI1.1 (i := i) (by omega)).2.2 0]
        refine w_M_add h hI1.1 (by omega) L hp _ _ _ _ _ _ (fun m2 hF hA => ?_)
        simp only [x_M_delete_0, x_M_delete_1, x_M_delete_2, x_M_delete_5, x_M_delete_6, x_M_delete_9, x_M_delete_12, x_M_delete_13, x_M_delete_16, x_M_delete_19, x_M_delete_22, x_M_delete_23, x_M_delete_24, x_M_delete_25, x_M_delete_26, x_M_delete_29, x_M_delete_30, x_M_delete_31, x_M_delete_32, x_M_delete_35, x_M_delete_36, x_M_delete_37, x_M_delete_40, x_M_delete_43, x_M_delete_44, x_M_delete_45, x_M_delete_46, x_M_delete_47, x_M_delete_48, x_M_delete_49, x_M_delete_52, x_M_delete_53, x_M_delete_54, x_M_delete_55, x_M_delete_58, x_M_delete_61, x_M_delete_62]
        exact g m2 (hK1.lo.trans hF) hA
      · rw [if_pos hi]
        exact h0 (Or.inl (fun q => hi (by have := q.2; rw [l.1] at this; omega))) m1 hK1 hI1
  · rw [if_pos hp]
    exact n0 (Or.inl (fun q => hp q.1))
theorem w_M_comment {c m : jM} {n : Nat} (h : CI c n) (hI : MI c m n) (L : Nat) (p i j : Int) (Q : jV → jG → jM → Prop)
    (h0 : (¬ okR c p i j ∨ n = 250) → ∀ m', MK m m' → MI c m' n → Q (jI (-1)) (g0 L) m')
    (hQ : okR c p i j → n < 250 → ∀ m', LoF m m' → MAdd c m' n p 3 0 0 (getI (visL c (nc p)) i 0) (getI (visL c (nc p)) (j - 1) 0) → Q (jI ((n : Int) + 1)) (g0 L) m') : wp 50 0 [jO (some 32), jI p, jI i, jI j] [] (g0 L) m Q := by
  have hn := h.2.1
  have hK0 : MK m (jup m 32 0 0) := MK.rf.upf (by decide)
  have n0 := fun q => h0 q _ hK0 hI.thr
  have hIt := hI.thr
  rw [x_M_comment_0, x_M_comment_1, x_M_comment_2]
  refine ⟨rfl, ?_⟩
  generalize jup m 32 0 0 = m0 at *
  have e1 : m0 32 1 = (n : Int) := hIt.1.1
  simp only [x_M_comment_0, x_M_comment_1, x_M_comment_2, x_M_comment_5, x_M_comment_6, x_M_comment_9, x_M_comment_12, x_M_comment_13, x_M_comment_16, x_M_comment_19, x_M_comment_22, x_M_comment_23, x_M_comment_24, x_M_comment_25, x_M_comment_26, x_M_comment_29, x_M_comment_30, x_M_comment_33, x_M_comment_34, x_M_comment_35, x_M_comment_38, x_M_comment_39, x_M_comment_40, x_M_comment_43, x_M_comment_46, x_M_comment_47, x_M_comment_50, x_M_comment_51, x_M_comment_52, x_M_comment_53, x_M_comment_54, x_M_comment_55, x_M_comment_56, x_M_comment_59, x_M_comment_60, x_M_comment_61, x_M_comment_62, x_M_comment_65, x_M_comment_66, x_M_comment_67, x_M_comment_68, x_M_comment_69, x_M_comment_72, w_M_isNode, e1, b01_0, sk_0, sk_1, sk_2, sk_3, sk_4, sk_5, sk_6, sk_7, sk_8, sk_9, sk_10, sk_11, sk_12, sk_13, sk_14, sk_15, sk_16, sk_17, sk_18, sk_19, sk_20, sk_21, sk_22, sk_23, sk_24, sk_25, sk_26, sk_27, sk_28, sk_29, sk_30, sk_31, sk_32, sk_33, sk_34, sk_35, sk_36, sk_37, sk_38, sk_39, sk_40, sk_41, sk_42, sk_43, sk_44, sk_45, sk_46, sk_47, sk_48, sk_49, sk_50, sk_51, sk_52, sk_53, sn_0, sn_1, sn_2, sn_3, sn_4, sn_5, sn_6, sn_7, sn_8, sn_9, sn_10, sn_11, sn_12, sn_13, sn_14, sn_15, sn_16, sn_17, sn_18, sn_19, sn_20, sn_21, sn_22, sn_23, sn_24, sn_25, sn_26, sn_27, sn_28, sn_29, sn_30, sn_31, sn_32, sn_33, sn_34, sn_35, sn_36, sn_37, sn_38, sn_39, sn_40, sn_41, sn_42, sn_43, sn_44, sn_45, sn_46, sn_47, sn_48, sn_49, sn_50, sn_51, sn_52, sn_53, rf_2_1, rf_2_2, rf_2_3, rf_2_4, rf_1_0, rf_1_1, rf_8_0, rf_7_0, rf_10_0, rf_7_1, rf_12_0, rf_7_2, rf_14_0, rf_7_3, rf_16_1, rf_16_2, rf_16_3, rf_16_4, rf_16_5, rf_16_6, rf_16_7, rf_1_2, rf_24_1, rf_24_2, rf_24_3, rf_24_4, rf_24_5, rf_24_6, rf_24_7, rf_1_3, rf_32_2, rf_32_3, rf_32_4, rf_32_5, rf_32_6, rf_32_7, rf_32_8, rf_32_9, rf_32_10, rf_32_12, rf_32_14, rf_32_15, rf_32_16, rf_32_18, rf_32_19, rf_32_21, rf_32_25, rf_32_26, rf_32_27, rf_32_28, rf_32_30, true_and, and_true, true_or, or_true, or_false, false_or, false_and, and_false, not_true, not_false_iff, ne_eq, and_self, eq_self, if_true, if_false, ite_true, ite_false, Nat.reduceLeDiff, Int.cast_ofNat_Int, Int.reduceLT, Int.reduceLE, Int.reduceEq, Int.reduceNeg, reduceCtorEq, jup_ap, Nat.reduceEqDiff, Nat.reduceAdd]
  by_cases hp : 0 ≤ p ∧ p < 4
  · rw [if_neg (fun q => q hp)]
    by_cases hz : (n : Int) = 250
    · rw [if_neg (fun q => q hz)]
      exact n0 (Or.inr (by omega))
    · rw [if_pos hz]
      refine w_M_look h hIt L hp _ (fun m1 N s hK e hL => ?_)
      have l := hL.len
      have hI1 := MI.of hIt.1 hp hK e hL
      have hK1 := hK0.trans hK
      have no : ¬ (0 ≤ i ∧ i < j ∧ j ≤ (s : Int)) → Q (jI (-1)) (g0 L) m1 := fun hi => h0 (Or.inl (fun q => hi (by have := q.2; rw [l.1] at this; exact this))) m1 hK1 hI1
      simp only [x_M_comment_0, x_M_comment_1, x_M_comment_2, x_M_comment_5, x_M_comment_6, x_M_comment_9, x_M_comment_12, x_M_comment_13, x_M_comment_16, x_M_comment_19, x_M_comment_22, x_M_comment_23, x_M_comment_24, x_M_comment_25, x_M_comment_26, x_M_comment_29, x_M_comment_30, x_M_comment_33, x_M_comment_34, x_M_comment_35, x_M_comment_38, x_M_comment_39, x_M_comment_40, x_M_comment_43, x_M_comment_46, x_M_comment_47, x_M_comment_50, x_M_comment_51, x_M_comment_52, x_M_comment_53, x_M_comment_54, x_M_comment_55, x_M_comment_56, x_M_comment_59, x_M_comment_60, x_M_comment_61, x_M_comment_62, x_M_comment_65, x_M_comment_66, x_M_comment_67, x_M_comment_68, x_M_comment_69, x_M_comment_72, l.2.2.1, sk_0, sk_1, sk_2, sk_3, sk_4, sk_5, sk_6, sk_7, sk_8, sk_9, sk_10, sk_11, sk_12, sk_13, sk_14, sk_15, sk_16, sk_17, sk_18, sk_19, sk_20, sk_21, sk_22, sk_23, sk_24, sk_25, sk_26, sk_27, sk_28, sk_29, sk_30, sk_31, sk_32, sk_33, sk_34, sk_35, sk_36, sk_37, sk_38, sk_39, sk_40, sk_41, sk_42, sk_43, sk_44, sk_45, sk_46, sk_47, sk_48, sk_49, sk_50, sk_51, sk_52, sk_53, sn_0, sn_1, sn_2, sn_3, sn_4, sn_5, sn_6, sn_7, sn_8, sn_9, sn_10, sn_11, sn_12, sn_13, sn_14, sn_15, sn_16, sn_17, sn_18, sn_19, sn_20, sn_21, sn_22, sn_23, sn_24, sn_25, sn_26, sn_27, sn_28, sn_29, sn_30, sn_31, sn_32, sn_33, sn_34, sn_35, sn_36, sn_37, sn_38, sn_39, sn_40, sn_41, sn_42, sn_43, sn_44, sn_45, sn_46, sn_47, sn_48, sn_49, sn_50, sn_51, sn_52, sn_53, rf_2_1, rf_2_2, rf_2_3, rf_2_4, rf_1_0, rf_1_1, rf_8_0, rf_7_0, rf_10_0, rf_7_1, rf_12_0, rf_7_2, rf_14_0, rf_7_3, rf_16_1, rf_16_2, rf_16_3, rf_16_4, rf_16_5, rf_16_6, rf_16_7, rf_1_2, rf_24_1, rf_24_2, rf_24_3, rf_24_4, rf_24_5, rf_24_6, rf_24_7, rf_1_3, rf_32_2, rf_32_3, rf_32_4, rf_32_5, rf_32_6, rf_32_7, rf_32_8, rf_32_9, rf_32_10, rf_32_12, rf_32_14, rf_32_15, rf_32_16, rf_32_18, rf_32_19, rf_32_21, rf_32_25, rf_32_26, rf_32_27, rf_32_28, rf_32_30, true_and, and_true, true_or, or_true, or_false, false_or, false_and, and_false, not_true, not_false_iff, ne_eq, and_self, eq_self, if_true, if_false, ite_true, ite_false, Nat.reduceLeDiff, Int.cast_ofNat_Int, Int.reduceLT, Int.reduceLE, Int.reduceEq, Int.reduceNeg, reduceCtorEq, jup_ap, Nat.reduceEqDiff, Nat.reduceAdd]
      by_cases i0 : i < 0
      · rw [if_pos i0]
        exact no (by omega)
      rw [if_neg i0]
      by_cases ij : j ≤ i
      · rw [if_pos ij]
        exact no (by omega)
      rw [if_neg ij]
      by_cases js : j ≤ (s : Int)
      · rw [if_pos js]
        have g := hQ ⟨hp, by rw [l.1]; omega⟩ (by omega)
        rw [jand_t (by omega), (hL.at h hI1.1 (i := i) (by omega)).2.2 0, show jwr (j - 1) = j - 1 from jw1 (by omega) (by omega), jand_t (by omega), (hL.at h hI1.1 (i := j - 1) (by omega)).2.2 0]
        refine w_M_add h hI1.1 (by omega) L hp _ _ _ _ _ _ (fun m2 hF hA => ?_)
        simp only [x_M_comment_0, x_M_comment_1, x_M_comment_2, x_M_comment_5, x_M_comment_6, x_M_comment_9, x_M_comment_12, x_M_comment_13, x_M_comment_16, x_M_comment_19, x_M_comment_22, x_M_comment_23, x_M_comment_24, x_M_comment_25, x_M_comment_26, x_M_comment_29, x_M_comment_30, x_M_comment_33, x_M_comment_34, x_M_comment_35, x_M_comment_38, x_M_comment_39, x_M_comment_40, x_M_comment_43, x_M_comment_46, x_M_comment_47, x_M_comment_50, x_M_comment_51, x_M_comment_52, x_M_comment_53, x_M_comment_54, x_M_comment_55, x_M_comment_56, x_M_comment_59, x_M_comment_60, x_M_comment_61, x_M_comment_62, x_M_comment_65, x_M_comment_66, x_M_comment_67, x_M_comment_68, x_M_comment_69, x_M_comment_72]
        exact g m2 (hK1.lo.trans hF) hA
      · rw [if_neg js]
        exact no (by omega)
  · rw [if_pos hp]
    exact n0 (Or.inl (fun q => hp q.1))
theorem w_M_style {c m : jM} {n : Nat} (h : CI c n) (hI : MI c m n) (L : Nat) (p i j k v : Int) (Q : jV → jG → jM → Prop)
    (h0 : (¬ okS c p i j k v ∨ n = 250) → ∀ m', MK m m' → MI c m' n → Q (jI (-1)) (g0 L) m')
    (hQ : okS c p i j k v → n < 250 → ∀ m', LoF m m' → MAdd c m' n p 2 k v (getI (visL c (nc p)) i 0) (endS c p j k) → Q (jI ((n : Int) + 1)) (g0 L) m') : wp 49 0 [jO (some 32), jI p, jI i, jI j, jI k, jI v, jU] [] (g0 L) m Q := by
  have hn := h.2.1
  have hK0 : MK m (jup m 32 0 0) := MK.rf.upf (by decide)
  have n0 := fun q => h0 q _ hK0 hI.thr
  have hIt := hI.thr
  rw [x_M_style_0, x_M_style_1, x_M_style_2]
  refine ⟨rfl, ?_⟩
  generalize jup m 32 0 0 = m0 at *
  have e1 : m0 32 1 = (n : Int) := hIt.1.1
  simp only [x_M_style_0, x_M_style_1, x_M_style_2, x_M_style_5, x_M_style_6, x_M_style_9, x_M_style_12, x_M_style_14, x_M_style_15, x_M_style_16, x_M_style_19, x_M_style_22, x_M_style_24, x_M_style_25, x_M_style_27, x_M_style_30, x_M_style_33, x_M_style_34, x_M_style_37, x_M_style_40, x_M_style_43, x_M_style_44, x_M_style_45, x_M_style_46, x_M_style_47, x_M_style_50, x_M_style_51, x_M_style_54, x_M_style_55, x_M_style_56, x_M_style_59, x_M_style_60, x_M_style_61, x_M_style_64, x_M_style_67, x_M_style_68, x_M_style_69, x_M_style_71, x_M_style_72, x_M_style_75, x_M_style_76, x_M_style_79, x_M_style_80, x_M_style_81, x_M_style_82, x_M_style_83, x_M_style_86, x_M_style_87, x_M_style_88, x_M_style_91, x_M_style_94, x_M_style_95, x_M_style_98, x_M_style_99, x_M_style_102, x_M_style_103, x_M_style_106, x_M_style_107, x_M_style_108, x_M_style_109, x_M_style_111, x_M_style_113, x_M_style_114, x_M_style_117, x_M_style_118, x_M_style_119, x_M_style_121, x_M_style_124, w_M_isNode, w_M_within, e1, b01_0, sk_0, sk_1, sk_2, sk_3, sk_4, sk_5, sk_6, sk_7, sk_8, sk_9, sk_10, sk_11, sk_12, sk_13, sk_14, sk_15, sk_16, sk_17, sk_18, sk_19, sk_20, sk_21, sk_22, sk_23, sk_24, sk_25, sk_26, sk_27, sk_28, sk_29, sk_30, sk_31, sk_32, sk_33, sk_34, sk_35, sk_36, sk_37, sk_38, sk_39, sk_40, sk_41, sk_42, sk_43, sk_44, sk_45, sk_46, sk_47, sk_48, sk_49, sk_50, sk_51, sk_52, sk_53, sn_0, sn_1, sn_2, sn_3, sn_4, sn_5, sn_6, sn_7, sn_8, sn_9, sn_10, sn_11, sn_12, sn_13, sn_14, sn_15, sn_16, sn_17, sn_18, sn_19, sn_20, sn_21, sn_22, sn_23, sn_24, sn_25, sn_26, sn_27, sn_28, sn_29, sn_30, sn_31, sn_32, sn_33, sn_34, sn_35, sn_36, sn_37, sn_38, sn_39, sn_40, sn_41, sn_42, sn_43, sn_44, sn_45, sn_46, sn_47, sn_48, sn_49, sn_50, sn_51, sn_52, sn_53, rf_2_1, rf_2_2, rf_2_3, rf_2_4, rf_1_0, rf_1_1, rf_8_0, rf_7_0, rf_10_0, rf_7_1, rf_12_0, rf_7_2, rf_14_0, rf_7_3, rf_16_1, rf_16_2, rf_16_3, rf_16_4, rf_16_5, rf_16_6, rf_16_7, rf_1_2, rf_24_1, rf_24_2, rf_24_3, rf_24_4, rf_24_5, rf_24_6, rf_24_7, rf_1_3, rf_32_2, rf_32_3, rf_32_4, rf_32_5, rf_32_6, rf_32_7, rf_32_8, rf_32_9, rf_32_10, rf_32_12, rf_32_14, rf_32_15, rf_32_16, rf_32_18, rf_32_19, rf_32_21, rf_32_25, rf_32_26, rf_32_27, rf_32_28, rf_32_30, true_and, and_true, true_or, or_true, or_false, false_or, false_and, and_false, not_true, not_false_iff, ne_eq, and_self, eq_self, if_true, if_false, ite_true, ite_false, Nat.reduceLeDiff, Int.cast_ofNat_Int, Int.reduceLT, Int.reduceLE, Int.reduceEq, Int.reduceNeg, reduceCtorEq, jup_ap, Nat.reduceEqDiff, Nat.reduceAdd]
  by_cases hp : 0 ≤ p ∧ p < 4
  · rw [if_neg (fun q => q hp)]
    by_cases hk : 0 ≤ k ∧ k ≤ 3
    · rw [if_neg (fun q => q hk)]
      by_cases hv : 0 ≤ v ∧ v ≤ 9
      · rw [if_neg (fun q => q hv)]
        by_cases hz : (n : Int) = 250
        · rw [if_neg (fun q => q hz)]
          exact n0 (Or.inr (by omega))
        · rw [if_pos hz]
          refine w_M_look h hIt L hp _ (fun m1 N s hK e hL => ?_)
          have l := hL.len
          have hI1 := MI.of hIt.1 hp hK e hL
          have hK1 := hK0.trans hK
          have no : ¬ (0 ≤ i ∧ i < j ∧ j ≤ (s : Int)) → Q (jI (-1)) (g0 L) m1 := fun hi => h0 (Or.inl (fun q => hi (by have := q.2.2; rw [l.1] at this; exact this))) m1 hK1 hI1
          simp only [x_M_style_0, x_M_style_1, x_M_style_2, x_M_style_5, x_M_style_6, x_M_style_9, x_M_style_12, x_M_style_14, x_M_style_15, x_M_style_16, x_M_style_19, x_M_style_22, x_M_style_24, x_M_style_25, x_M_style_27, x_M_style_30, x_M_style_33, x_M_style_34, x_M_style_37, x_M_style_40, x_M_style_43, x_M_style_44, x_M_style_45, x_M_style_46, x_M_style_47, x_M_style_50, x_M_style_51, x_M_style_54, x_M_style_55, x_M_style_56, x_M_style_59, x_M_style_60, x_M_style_61, x_M_style_64, x_M_style_67, x_M_style_68, x_M_style_69, x_M_style_71, x_M_style_72, x_M_style_75, x_M_style_76, x_M_style_79, x_M_style_80, x_M_style_81, x_M_style_82, x_M_style_83, x_M_style_86, x_M_style_87, x_M_style_88, x_M_style_91, x_M_style_94, x_M_style_95, x_M_style_98, x_M_style_99, x_M_style_102, x_M_style_103, x_M_style_106, x_M_style_107, x_M_style_108, x_M_style_109, x_M_style_111, x_M_style_113, x_M_style_114, x_M_style_117, x_M_style_118, x_M_style_119, x_M_style_121, x_M_style_124, l.2.2.1, sk_0, sk_1, sk_2, sk_3, sk_4, sk_5, sk_6, sk_7, sk_8, sk_9, sk_10, sk_11, sk_12, sk_13, sk_14, sk_15, sk_16, sk_17, sk_18, sk_19, sk_20, sk_21, sk_22, sk_23, sk_24, sk_25, sk_26, sk_27, sk_28, sk_29, sk_30, sk_31, sk_32, sk_33, sk_34, sk_35, sk_36, sk_37, sk_38, sk_39, sk_40, sk_41, sk_42, sk_43, sk_44, sk_45, sk_46, sk_47, sk_48, sk_49, sk_50, sk_51, sk_52, sk_53, sn_0, sn_1, sn_2, sn_3, sn_4, sn_5, sn_6, sn_7, sn_8, sn_9, sn_10, sn_11, sn_12, sn_13, sn_14, sn_15, sn_16, sn_17, sn_18, sn_19, sn_20, sn_21, sn_22, sn_23, sn_24, sn_25, sn_26, sn_27, sn_28, sn_29, sn_30, sn_31, sn_32, sn_33, sn_34, sn_35, sn_36, sn_37, sn_38, sn_39, sn_40, sn_41, sn_42, sn_43, sn_44, sn_45, sn_46, sn_47, sn_48, sn_49, sn_50, sn_51, sn_52, sn_53, rf_2_1, rf_2_2, rf_2_3, rf_2_4, rf_1_0, rf_1_1, rf_8_0, rf_7_0, rf_10_0, rf_7_1, rf_12_0, rf_7_2, rf_14_0, rf_7_3, rf_16_1, rf_16_2, rf_16_3, rf_16_4, rf_16_5, rf_16_6, rf_16_7, rf_1_2, rf_24_1, rf_24_2, rf_24_3, rf_24_4, rf_24_5, rf_24_6, rf_24_7, rf_1_3, rf_32_2, rf_32_3, rf_32_4, rf_32_5, rf_32_6, rf_32_7, rf_32_8, rf_32_9, rf_32_10, rf_32_12, rf_32_14, rf_32_15, rf_32_16, rf_32_18, rf_32_19, rf_32_21, rf_32_25, rf_32_26, rf_32_27, rf_32_28, rf_32_30, true_and, and_true, true_or, or_true, or_false, false_or, false_and, and_false, not_true, not_false_iff, ne_eq, and_self, eq_self, if_true, if_false, ite_true, ite_false, Nat.reduceLeDiff, Int.cast_ofNat_Int, Int.reduceLT, Int.reduceLE, Int.reduceEq, Int.reduceNeg, reduceCtorEq, jup_ap, Nat.reduceEqDiff, Nat.reduceAdd]
          by_cases i0 : i < 0
          · rw [if_pos i0]
            exact no (by omega)
          rw [if_neg i0]
          by_cases ij : j ≤ i
          · rw [if_pos ij]
            exact no (by omega)
          rw [if_neg ij]
          by_cases js : j ≤ (s : Int)
          · rw [if_pos js]
            have g := hQ ⟨⟨by omega, hv⟩, hp, by rw [l.1]; omega⟩ (by omega)
            unfold endS at g
            have fin : ∀ z, (∀ m', LoF m m' → MAdd c m' n p 2 k v (getI (visL c (nc p)) i 0) z → Q (jI ((n : Int) + 1)) (g0 L) m') → wp 49 104 [jO (some 32), jI p, jI i, jI j, jI k, jI v, jU] [jI z] (g0 L) m1 Q := fun z hg => by
              have hib : 0 ≤ i ∧ i < 251 := by omega
              simp only [x_M_style_0, x_M_style_1, x_M_style_2, x_M_style_5, x_M_style_6, x_M_style_9, x_M_style_12, x_M_style_14, x_M_style_15, x_M_style_16, x_M_style_19, x_M_style_22, x_M_style_24, x_M_style_25, x_M_style_27, x_M_style_30, x_M_style_33, x_M_style_34, x_M_style_37, x_M_style_40, x_M_style_43, x_M_style_44, x_M_style_45, x_M_style_46, x_M_style_47, x_M_style_50, x_M_style_51, x_M_style_54, x_M_style_55, x_M_style_56, x_M_style_59, x_M_style_60, x_M_style_61, x_M_style_64, x_M_style_67, x_M_style_68, x_M_style_69, x_M_style_71, x_M_style_72, x_M_style_75, x_M_style_76, x_M_style_79, x_M_style_80, x_M_style_81, x_M_style_82, x_M_style_83, x_M_style_86, x_M_style_87, x_M_style_88, x_M_style_91, x_M_style_94, x_M_style_95, x_M_style_98, x_M_style_99, x_M_style_102, x_M_style_103, x_M_style_104, x_M_style_106, x_M_style_107, x_M_style_108, x_M_style_109, x_M_style_111, x_M_style_113, x_M_style_114, x_M_style_117, x_M_style_118, x_M_style_119, x_M_style_121, x_M_style_124, hib, sk_0, sk_1, sk_2, sk_3, sk_4, sk_5, sk_6, sk_7, sk_8, sk_9, sk_10, sk_11, sk_12, sk_13, sk_14, sk_15, sk_16, sk_17, sk_18, sk_19, sk_20, sk_21, sk_22, sk_23, sk_24, sk_25, sk_26, sk_27, sk_28, sk_29, sk_30, sk_31, sk_32, sk_33, sk_34, sk_35, sk_36, sk_37, sk_38, sk_39, sk_40, sk_41, sk_42, sk_43, sk_44, sk_45, sk_46, sk_47, sk_48, sk_49, sk_50, sk_51, sk_52, sk_53, sn_0, sn_1, sn_2, sn_3, sn_4, sn_5, sn_6, sn_7, sn_8, sn_9, sn_10, sn_11, sn_12, sn_13, sn_14, sn_15, sn_16, sn_17, sn_18, sn_19, sn_20, sn_21, sn_22, sn_23, sn_24, sn_25, sn_26, sn_27, sn_28, sn_29, sn_30, sn_31, sn_32, sn_33, sn_34, sn_35, sn_36, sn_37, sn_38, sn_39, sn_40, sn_41, sn_42, sn_43, sn_44, sn_45, sn_46, sn_47, sn_48, sn_49, sn_50, sn_51, sn_52, sn_53, rf_2_1, rf_2_2, rf_2_3, rf_2_4, rf_1_0, rf_1_1, rf_8_0, rf_7_0, rf_10_0, rf_7_1, rf_12_0, rf_7_2, rf_14_0, rf_7_3, rf_16_1, rf_16_2, rf_16_3, rf_16_4, rf_16_5, rf_16_6, rf_16_7, rf_1_2, rf_24_1, rf_24_2, rf_24_3, rf_24_4, rf_24_5, rf_24_6, rf_24_7, rf_1_3, rf_32_2, rf_32_3, rf_32_4, rf_32_5, rf_32_6, rf_32_7, rf_32_8, rf_32_9, rf_32_10, rf_32_12, rf_32_14, rf_32_15, rf_32_16, rf_32_18, rf_32_19, rf_32_21, rf_32_25, rf_32_26, rf_32_27, rf_32_28, rf_32_30, true_and, and_true, true_or, or_true, or_false, false_or, false_and, and_false, not_true, not_false_iff, ne_eq, and_self, eq_self, if_true, if_false, ite_true, ite_false, Nat.reduceLeDiff, Int.cast_ofNat_Int, Int.reduceLT, Int.reduceLE, Int.reduceEq, Int.reduceNeg, reduceCtorEq, jup_ap, Nat.reduceEqDiff, Nat.reduceAdd]
              rw [(hL.at h hI1.1 (i := i) (by omega)).2.2 0]
              refine w_M_add h hI1.1 (by omega) L hp _ _ _ _ _ _ (fun m2 hF hA => ?_)
              simp only [x_M_style_0, x_M_style_1, x_M_style_2, x_M_style_5, x_M_style_6, x_M_style_9, x_M_style_12, x_M_style_14, x_M_style_15, x_M_style_16, x_M_style_19, x_M_style_22, x_M_style_24, x_M_style_25, x_M_style_27, x_M_style_30, x_M_style_33, x_M_style_34, x_M_style_37, x_M_style_40, x_M_style_43, x_M_style_44, x_M_style_45, x_M_style_46, x_M_style_47, x_M_style_50, x_M_style_51, x_M_style_54, x_M_style_55, x_M_style_56, x_M_style_59, x_M_style_60, x_M_style_61, x_M_style_64, x_M_style_67, x_M_style_68, x_M_style_69, x_M_style_71, x_M_style_72, x_M_style_75, x_M_style_76, x_M_style_79, x_M_style_80, x_M_style_81, x_M_style_82, x_M_style_83, x_M_style_86, x_M_style_87, x_M_style_88, x_M_style_91, x_M_style_94, x_M_style_95, x_M_style_98, x_M_style_99, x_M_style_102, x_M_style_103, x_M_style_104, x_M_style_106, x_M_style_107, x_M_style_108, x_M_style_109, x_M_style_111, x_M_style_113, x_M_style_114, x_M_style_117, x_M_style_118, x_M_style_119, x_M_style_121, x_M_style_124]
              exact hg m2 (hK1.lo.trans hF) hA
            by_cases k1 : k ≤ 1
            · rw [if_pos k1]
              rw [if_pos (by omega)] at g
              by_cases je : j = (s : Int)
              · rw [if_neg (fun q => q je)]
                rw [getI_out (l := visL c (nc p)) (i := j) (d := 0) (Or.inr (by rw [l.1]; omega))] at g
                exact fin 0 g
              · rw [if_pos je, jand_t (by omega), (hL.at h hI1.1 (i := j) (by omega)).2.2 0]
                exact fin _ g
            · rw [if_neg k1, show jwr (j - 1) = j - 1 from jw1 (by omega) (by omega), jand_t (by omega), (hL.at h hI1.1 (i := j - 1) (by omega)).2.2 0]
              rw [if_neg (by omega)] at g
              exact fin _ g
          · rw [if_neg js]
            exact no (by omega)
      · rw [if_pos hv]
        exact n0 (Or.inl (fun q => hv q.1.2))
    · rw [if_pos hk]
      exact n0 (Or.inl (fun q => hk (by have := q.1.1; omega)))
  · rw [if_pos hp]
    exact n0 (Or.inl (fun q => hp q.2.1))
