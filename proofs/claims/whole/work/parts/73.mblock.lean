theorem psP_bd2 {c : jM} {p k : Int} (hz : psP c p k ≠ -1) : 0 ≤ psP c p k ∧ psP c p k ≤ ((visL c (nc p)).length : Int) := by
  unfold psP pSt0 at hz ⊢
  by_cases e : k = 0
  · rw [if_pos e]; omega
  · rw [if_neg e] at hz ⊢
    rcases pSt_bd (f := tx c (nc p)) (k := k) (visL c (nc p)).length 0 0 (by omega) with q | q
    · exact absurd q hz
    · omega
theorem w_M_block {c m : jM} {n : Nat} (h : CI c n) (hI : MI c m n) (L : Nat) (p k kind : Int) (hk : k < 2147483648) (Q : jV → jG → jM → Prop)
    (h0 : (¬ okB c p k kind ∨ n = 250) → ∀ m', MK m m' → MI c m' n → Q (jI (-1)) (g0 L) m')
    (hQ : okB c p k kind → n < 250 → ∀ m', LoF m m' → MAdd c m' n p 4 kind 0 (getI (visL c (nc p)) (psP c p k - 1) 0) 0 → Q (jI ((n : Int) + 1)) (g0 L) m') : wp 52 0 [jO (some 32), jI p, jI k, jI kind, jU] [] (g0 L) m Q := by
  have hn := h.2.1
  have hK0 : MK m (jup m 32 0 0) := MK.rf.upf (by decide)
  have n0 := fun q => h0 q _ hK0 hI.thr
  have hIt := hI.thr
  rw [x_M_block_0, x_M_block_1, x_M_block_2]
  refine ⟨rfl, ?_⟩
  generalize jup m 32 0 0 = m0 at *
  have e1 : m0 32 1 = (n : Int) := hIt.1.1
  simp only [x_M_block_0, x_M_block_1, x_M_block_2, x_M_block_5, x_M_block_6, x_M_block_9, x_M_block_12, x_M_block_13, x_M_block_14, x_M_block_16, x_M_block_19, x_M_block_22, x_M_block_23, x_M_block_26, x_M_block_29, x_M_block_32, x_M_block_33, x_M_block_34, x_M_block_35, x_M_block_36, x_M_block_39, x_M_block_40, x_M_block_41, x_M_block_44, x_M_block_46, x_M_block_48, x_M_block_50, x_M_block_53, x_M_block_54, x_M_block_57, x_M_block_58, x_M_block_59, x_M_block_60, x_M_block_61, x_M_block_62, x_M_block_64, x_M_block_65, x_M_block_68, x_M_block_69, x_M_block_72, x_M_block_73, x_M_block_76, x_M_block_78, x_M_block_79, x_M_block_80, x_M_block_83, w_M_isNode, w_M_within, e1, b01_0, sk_0, sk_1, sk_2, sk_3, sk_4, sk_5, sk_6, sk_7, sk_8, sk_9, sk_10, sk_11, sk_12, sk_13, sk_14, sk_15, sk_16, sk_17, sk_18, sk_19, sk_20, sk_21, sk_22, sk_23, sk_24, sk_25, sk_26, sk_27, sk_28, sk_29, sk_30, sk_31, sk_32, sk_33, sk_34, sk_35, sk_36, sk_37, sk_38, sk_39, sk_40, sk_41, sk_42, sk_43, sk_44, sk_45, sk_46, sk_47, sk_48, sk_49, sk_50, sk_51, sk_52, sk_53, sn_0, sn_1, sn_2, sn_3, sn_4, sn_5, sn_6, sn_7, sn_8, sn_9, sn_10, sn_11, sn_12, sn_13, sn_14, sn_15, sn_16, sn_17, sn_18, sn_19, sn_20, sn_21, sn_22, sn_23, sn_24, sn_25, sn_26, sn_27, sn_28, sn_29, sn_30, sn_31, sn_32, sn_33, sn_34, sn_35, sn_36, sn_37, sn_38, sn_39, sn_40, sn_41, sn_42, sn_43, sn_44, sn_45, sn_46, sn_47, sn_48, sn_49, sn_50, sn_51, sn_52, sn_53, rf_2_1, rf_2_2, rf_2_3, rf_2_4, rf_1_0, rf_1_1, rf_8_0, rf_7_0, rf_10_0, rf_7_1, rf_12_0, rf_7_2, rf_14_0, rf_7_3, rf_16_1, rf_16_2, rf_16_3, rf_16_4, rf_16_5, rf_16_6, rf_16_7, rf_1_2, rf_24_1, rf_24_2, rf_24_3, rf_24_4, rf_24_5, rf_24_6, rf_24_7, rf_1_3, rf_32_2, rf_32_3, rf_32_4, rf_32_5, rf_32_6, rf_32_7, rf_32_8, rf_32_9, rf_32_10, rf_32_12, rf_32_14, rf_32_15, rf_32_16, rf_32_18, rf_32_19, rf_32_21, rf_32_25, rf_32_26, rf_32_27, rf_32_28, rf_32_30, true_and, and_true, true_or, or_true, or_false, false_or, false_and, and_false, not_true, not_false_iff, ne_eq, and_self, eq_self, if_true, if_false, ite_true, ite_false, Nat.reduceLeDiff, Int.cast_ofNat_Int, Int.reduceLT, Int.reduceLE, Int.reduceEq, Int.reduceNeg, reduceCtorEq, jup_ap, Nat.reduceEqDiff, Nat.reduceAdd]
  by_cases hp : 0 ≤ p ∧ p < 4
  · rw [if_neg (fun q => q hp)]
    by_cases hv : 0 ≤ kind ∧ kind ≤ 9
    · rw [if_neg (fun q => q hv)]
      by_cases hz : (n : Int) = 250
      · rw [if_neg (fun q => q hz)]
        exact n0 (Or.inr (by omega))
      · rw [if_pos hz]
        refine w_M_look h hIt L hp _ (fun m1 N s hK e hL => ?_)
        have l := hL.len
        have hI1 := MI.of hIt.1 hp hK e hL
        have hK1 := hK0.trans hK
        simp only [x_M_block_0, x_M_block_1, x_M_block_2, x_M_block_5, x_M_block_6, x_M_block_9, x_M_block_12, x_M_block_13, x_M_block_14, x_M_block_16, x_M_block_19, x_M_block_22, x_M_block_23, x_M_block_26, x_M_block_29, x_M_block_32, x_M_block_33, x_M_block_34, x_M_block_35, x_M_block_36, x_M_block_39, x_M_block_40, x_M_block_41, x_M_block_44, x_M_block_46, x_M_block_48, x_M_block_50, x_M_block_53, x_M_block_54, x_M_block_57, x_M_block_58, x_M_block_59, x_M_block_60, x_M_block_61, x_M_block_62, x_M_block_64, x_M_block_65, x_M_block_68, x_M_block_69, x_M_block_72, x_M_block_73, x_M_block_76, x_M_block_78, x_M_block_79, x_M_block_80, x_M_block_83, w_M_startOf h hI1.1 hL L k hk, sk_0, sk_1, sk_2, sk_3, sk_4, sk_5, sk_6, sk_7, sk_8, sk_9, sk_10, sk_11, sk_12, sk_13, sk_14, sk_15, sk_16, sk_17, sk_18, sk_19, sk_20, sk_21, sk_22, sk_23, sk_24, sk_25, sk_26, sk_27, sk_28, sk_29, sk_30, sk_31, sk_32, sk_33, sk_34, sk_35, sk_36, sk_37, sk_38, sk_39, sk_40, sk_41, sk_42, sk_43, sk_44, sk_45, sk_46, sk_47, sk_48, sk_49, sk_50, sk_51, sk_52, sk_53, sn_0, sn_1, sn_2, sn_3, sn_4, sn_5, sn_6, sn_7, sn_8, sn_9, sn_10, sn_11, sn_12, sn_13, sn_14, sn_15, sn_16, sn_17, sn_18, sn_19, sn_20, sn_21, sn_22, sn_23, sn_24, sn_25, sn_26, sn_27, sn_28, sn_29, sn_30, sn_31, sn_32, sn_33, sn_34, sn_35, sn_36, sn_37, sn_38, sn_39, sn_40, sn_41, sn_42, sn_43, sn_44, sn_45, sn_46, sn_47, sn_48, sn_49, sn_50, sn_51, sn_52, sn_53, rf_2_1, rf_2_2, rf_2_3, rf_2_4, rf_1_0, rf_1_1, rf_8_0, rf_7_0, rf_10_0, rf_7_1, rf_12_0, rf_7_2, rf_14_0, rf_7_3, rf_16_1, rf_16_2, rf_16_3, rf_16_4, rf_16_5, rf_16_6, rf_16_7, rf_1_2, rf_24_1, rf_24_2, rf_24_3, rf_24_4, rf_24_5, rf_24_6, rf_24_7, rf_1_3, rf_32_2, rf_32_3, rf_32_4, rf_32_5, rf_32_6, rf_32_7, rf_32_8, rf_32_9, rf_32_10, rf_32_12, rf_32_14, rf_32_15, rf_32_16, rf_32_18, rf_32_19, rf_32_21, rf_32_25, rf_32_26, rf_32_27, rf_32_28, rf_32_30, true_and, and_true, true_or, or_true, or_false, false_or, false_and, and_false, not_true, not_false_iff, ne_eq, and_self, eq_self, if_true, if_false, ite_true, ite_false, Nat.reduceLeDiff, Int.cast_ofNat_Int, Int.reduceLT, Int.reduceLE, Int.reduceEq, Int.reduceNeg, reduceCtorEq, jup_ap, Nat.reduceEqDiff, Nat.reduceAdd]
        by_cases hs : psP c p k = -1
        · rw [if_neg (by omega)]
          exact h0 (Or.inl (fun q => q.2.2 hs)) m1 hK1 hI1
        · rw [if_pos (by omega)]
          have hb := psP_bd2 hs
          rw [l.1] at hb
          have g := hQ ⟨hv, hp, hs⟩ (by omega)
          by_cases h1 : psP c p k = 0
          · rw [if_neg (by omega)]
            rw [getI_out (Or.inl (by omega))] at g
            refine w_M_add h hI1.1 (by omega) L hp _ _ _ _ _ _ (fun m2 hF hA => ?_)
            simp only [x_M_block_0, x_M_block_1, x_M_block_2, x_M_block_5, x_M_block_6, x_M_block_9, x_M_block_12, x_M_block_13, x_M_block_14, x_M_block_16, x_M_block_19, x_M_block_22, x_M_block_23, x_M_block_26, x_M_block_29, x_M_block_32, x_M_block_33, x_M_block_34, x_M_block_35, x_M_block_36, x_M_block_39, x_M_block_40, x_M_block_41, x_M_block_44, x_M_block_46, x_M_block_48, x_M_block_50, x_M_block_53, x_M_block_54, x_M_block_57, x_M_block_58, x_M_block_59, x_M_block_60, x_M_block_61, x_M_block_62, x_M_block_64, x_M_block_65, x_M_block_68, x_M_block_69, x_M_block_72, x_M_block_73, x_M_block_76, x_M_block_78, x_M_block_79, x_M_block_80, x_M_block_83]
            exact g m2 (hK1.lo.trans hF) hA
          · rw [if_pos (by omega), jand_t (by omega), (hL.at h hI1.1 (i := psP c p k - 1) (by omega)).2.2 0]
            refine w_M_add h hI1.1 (by omega) L hp _ _ _ _ _ _ (fun m2 hF hA => ?_)
            simp only [x_M_block_0, x_M_block_1, x_M_block_2, x_M_block_5, x_M_block_6, x_M_block_9, x_M_block_12, x_M_block_13, x_M_block_14, x_M_block_16, x_M_block_19, x_M_block_22, x_M_block_23, x_M_block_26, x_M_block_29, x_M_block_32, x_M_block_33, x_M_block_34, x_M_block_35, x_M_block_36, x_M_block_39, x_M_block_40, x_M_block_41, x_M_block_44, x_M_block_46, x_M_block_48, x_M_block_50, x_M_block_53, x_M_block_54, x_M_block_57, x_M_block_58, x_M_block_59, x_M_block_60, x_M_block_61, x_M_block_62, x_M_block_64, x_M_block_65, x_M_block_68, x_M_block_69, x_M_block_72, x_M_block_73, x_M_block_76, x_M_block_78, x_M_block_79, x_M_block_80, x_M_block_83]
            exact g m2 (hK1.lo.trans hF) hA
    · rw [if_pos hv]
      exact n0 (Or.inl (fun q => hv q.1))
  · rw [if_pos hp]
    exact n0 (Or.inl (fun q => hp q.2.1))
theorem gd_own {c : jM} {n : Nat} (h : CI c n) {p r : Int} (hp : 0 ≤ p ∧ p < 4) (hr : 1 ≤ r ∧ r ≤ n) (ho : cellV c r 1 = p) : gd c (nc p) r = true ↔ c 4 r = 0 := by
  have hN := (h.2.2.2.2.2.2.2.2.2 p hp.1 hp.2).2.2.2.1
  have hk := hN r hr.1 hr.2 ho
  have eu : undoV c r = c 4 r := by
    unfold undoV
    rw [h.1, if_pos hr]
  unfold gd
  rw [hk, eu, Bool.true_and]
  constructor
  · intro q
    rcases undo_at h (r := r) with w | w
    · rw [eu] at w; exact w
    · rw [eu] at w
      have hu := (h.2.2.1 (c 4 r) w.1.1 w.1.2).2.2.2.2.2.2.2.2 w.2.1
      rw [w.2.2, ho] at hu
      rw [hN (c 4 r) w.1.1 w.1.2 hu.2.2.1.symm] at q
      cases q
  · intro q
    rw [q, kb_0 h hp]
    rfl
theorem w_M_undo {c m : jM} {n : Nat} (h : CI c n) (hI : MI c m n) (L : Nat) (p r : Int) (Q : jV → jG → jM → Prop)
    (h0 : (¬ okU c n p r ∨ n = 250) → ∀ m', MK m m' → MI c m' n → Q (jI (-1)) (g0 L) m')
    (hQ : okU c n p r → n < 250 → ∀ m', LoF m m' → MAdd c m' n p 5 0 0 r 0 → Q (jI ((n : Int) + 1)) (g0 L) m') : wp 53 0 [jO (some 32), jI p, jI r] [] (g0 L) m Q := by
  have hn := h.2.1
  have hK0 : MK m (jup m 32 0 0) := MK.rf.upf (by decide)
  have n0 := fun q => h0 q _ hK0 hI.thr
  have hIt := hI.thr
  rw [x_M_undo_0, x_M_undo_1, x_M_undo_2]
  refine ⟨rfl, ?_⟩
  generalize jup m 32 0 0 = m0 at *
  have e1 : m0 32 1 = (n : Int) := hIt.1.1
  simp only [x_M_undo_0, x_M_undo_1, x_M_undo_2, x_M_undo_5, x_M_undo_6, x_M_undo_9, x_M_undo_12, x_M_undo_13, x_M_undo_14, x_M_undo_15, x_M_undo_18, x_M_undo_21, x_M_undo_24, x_M_undo_25, x_M_undo_28, x_M_undo_29, x_M_undo_30, x_M_undo_31, x_M_undo_34, x_M_undo_35, x_M_undo_38, x_M_undo_39, x_M_undo_40, x_M_undo_41, x_M_undo_44, x_M_undo_45, x_M_undo_48, x_M_undo_51, x_M_undo_54, x_M_undo_55, x_M_undo_56, x_M_undo_57, x_M_undo_58, x_M_undo_61, x_M_undo_62, x_M_undo_65, x_M_undo_66, x_M_undo_67, x_M_undo_70, x_M_undo_71, x_M_undo_72, x_M_undo_73, x_M_undo_74, x_M_undo_75, x_M_undo_76, x_M_undo_77, x_M_undo_80, x_M_undo_83, x_M_undo_84, w_M_isNode, w_M_within, e1, b01_0, sk_0, sk_1, sk_2, sk_3, sk_4, sk_5, sk_6, sk_7, sk_8, sk_9, sk_10, sk_11, sk_12, sk_13, sk_14, sk_15, sk_16, sk_17, sk_18, sk_19, sk_20, sk_21, sk_22, sk_23, sk_24, sk_25, sk_26, sk_27, sk_28, sk_29, sk_30, sk_31, sk_32, sk_33, sk_34, sk_35, sk_36, sk_37, sk_38, sk_39, sk_40, sk_41, sk_42, sk_43, sk_44, sk_45, sk_46, sk_47, sk_48, sk_49, sk_50, sk_51, sk_52, sk_53, sn_0, sn_1, sn_2, sn_3, sn_4, sn_5, sn_6, sn_7, sn_8, sn_9, sn_10, sn_11, sn_12, sn_13, sn_14, sn_15, sn_16, sn_17, sn_18, sn_19, sn_20, sn_21, sn_22, sn_23, sn_24, sn_25, sn_26, sn_27, sn_28, sn_29, sn_30, sn_31, sn_32, sn_33, sn_34, sn_35, sn_36, sn_37, sn_38, sn_39, sn_40, sn_41, sn_42, sn_43, sn_44, sn_45, sn_46, sn_47, sn_48, sn_49, sn_50, sn_51, sn_52, sn_53, rf_2_1, rf_2_2, rf_2_3, rf_2_4, rf_1_0, rf_1_1, rf_8_0, rf_7_0, rf_10_0, rf_7_1, rf_12_0, rf_7_2, rf_14_0, rf_7_3, rf_16_1, rf_16_2, rf_16_3, rf_16_4, rf_16_5, rf_16_6, rf_16_7, rf_1_2, rf_24_1, rf_24_2, rf_24_3, rf_24_4, rf_24_5, rf_24_6, rf_24_7, rf_1_3, rf_32_2, rf_32_3, rf_32_4, rf_32_5, rf_32_6, rf_32_7, rf_32_8, rf_32_9, rf_32_10, rf_32_12, rf_32_14, rf_32_15, rf_32_16, rf_32_18, rf_32_19, rf_32_21, rf_32_25, rf_32_26, rf_32_27, rf_32_28, rf_32_30, true_and, and_true, true_or, or_true, or_false, false_or, false_and, and_false, not_true, not_false_iff, ne_eq, and_self, eq_self, if_true, if_false, ite_true, ite_false, Nat.reduceLeDiff, Int.cast_ofNat_Int, Int.reduceLT, Int.reduceLE, Int.reduceEq, Int.reduceNeg, reduceCtorEq, jup_ap, Nat.reduceEqDiff, Nat.reduceAdd]
  by_cases hp : 0 ≤ p ∧ p < 4
  · rw [if_neg (fun q => q hp)]
    by_cases hr : 1 ≤ r ∧ r ≤ (n : Int)
    · rw [if_neg (fun q => q hr)]
      have hrow := hIt.1.2.1 r hr.1 hr.2
      have hrb : 0 ≤ r ∧ r < 251 := by omega
      simp only [hrb, hrow.1, hrow.2.1, true_and, and_true, true_or, or_true, or_false, false_or, false_and, and_false, not_true, not_false_iff, ne_eq, and_self, eq_self, if_true, if_false, ite_true, ite_false, Nat.reduceLeDiff, Int.cast_ofNat_Int, Int.reduceLT, Int.reduceLE, Int.reduceEq, Int.reduceNeg, reduceCtorEq, jup_ap, Nat.reduceEqDiff, Nat.reduceAdd]
      by_cases ho : cellV c r 1 = p
      · rw [if_neg (fun q => q ho)]
        by_cases h5 : cellV c r 0 = 5
        · rw [if_pos h5]
          exact n0 (Or.inl (fun q => q.2.2.1 h5))
        · rw [if_neg h5]
          by_cases hz : (n : Int) = 250
          · rw [if_neg (fun q => q hz)]
            exact n0 (Or.inr (by omega))
          · rw [if_pos hz]
            refine w_M_look h hIt L hp _ (fun m1 N s hK e hL => ?_)
            have l := hL.len
            have hI1 := MI.of hIt.1 hp hK e hL
            have hK1 := hK0.trans hK
            have eg := hL.1.1 r hr.1 hr.2
            have ho2 := gd_own h hp hr ho
            simp only [x_M_undo_0, x_M_undo_1, x_M_undo_2, x_M_undo_5, x_M_undo_6, x_M_undo_9, x_M_undo_12, x_M_undo_13, x_M_undo_14, x_M_undo_15, x_M_undo_18, x_M_undo_21, x_M_undo_24, x_M_undo_25, x_M_undo_28, x_M_undo_29, x_M_undo_30, x_M_undo_31, x_M_undo_34, x_M_undo_35, x_M_undo_38, x_M_undo_39, x_M_undo_40, x_M_undo_41, x_M_undo_44, x_M_undo_45, x_M_undo_48, x_M_undo_51, x_M_undo_54, x_M_undo_55, x_M_undo_56, x_M_undo_57, x_M_undo_58, x_M_undo_61, x_M_undo_62, x_M_undo_65, x_M_undo_66, x_M_undo_67, x_M_undo_70, x_M_undo_71, x_M_undo_72, x_M_undo_73, x_M_undo_74, x_M_undo_75, x_M_undo_76, x_M_undo_77, x_M_undo_80, x_M_undo_83, x_M_undo_84, hrb, eg, b2i_0, sk_0, sk_1, sk_2, sk_3, sk_4, sk_5, sk_6, sk_7, sk_8, sk_9, sk_10, sk_11, sk_12, sk_13, sk_14, sk_15, sk_16, sk_17, sk_18, sk_19, sk_20, sk_21, sk_22, sk_23, sk_24, sk_25, sk_26, sk_27, sk_28, sk_29, sk_30, sk_31, sk_32, sk_33, sk_34, sk_35, sk_36, sk_37, sk_38, sk_39, sk_40, sk_41, sk_42, sk_43, sk_44, sk_45, sk_46, sk_47, sk_48, sk_49, sk_50, sk_51, sk_52, sk_53, sn_0, sn_1, sn_2, sn_3, sn_4, sn_5, sn_6, sn_7, sn_8, sn_9, sn_10, sn_11, sn_12, sn_13, sn_14, sn_15, sn_16, sn_17, sn_18, sn_19, sn_20, sn_21, sn_22, sn_23, sn_24, sn_25, sn_26, sn_27, sn_28, sn_29, sn_30, sn_31, sn_32, sn_33, sn_34, sn_35, sn_36, sn_37, sn_38, sn_39, sn_40, sn_41, sn_42, sn_43, sn_44, sn_45, sn_46, sn_47, sn_48, sn_49, sn_50, sn_51, sn_52, sn_53, rf_2_1, rf_2_2, rf_2_3, rf_2_4, rf_1_0, rf_1_1, rf_8_0, rf_7_0, rf_10_0, rf_7_1, rf_12_0, rf_7_2, rf_14_0, rf_7_3, rf_16_1, rf_16_2, rf_16_3, rf_16_4, rf_16_5, rf_16_6, rf_16_7, rf_1_2, rf_24_1, rf_24_2, rf_24_3, rf_24_4, rf_24_5, rf_24_6, rf_24_7, rf_1_3, rf_32_2, rf_32_3, rf_32_4, rf_32_5, rf_32_6, rf_32_7, rf_32_8, rf_32_9, rf_32_10, rf_32_12, rf_32_14, rf_32_15, rf_32_16, rf_32_18, rf_32_19, rf_32_21, rf_32_25, rf_32_26, rf_32_27, rf_32_28, rf_32_30, true_and, and_true, true_or, or_true, or_false, false_or, false_and, and_false, not_true, not_false_iff, ne_eq, and_self, eq_self, if_true, if_false, ite_true, ite_false, Nat.reduceLeDiff, Int.cast_ofNat_Int, Int.reduceLT, Int.reduceLE, Int.reduceEq, Int.reduceNeg, reduceCtorEq, jup_ap, Nat.reduceEqDiff, Nat.reduceAdd]
            cases hg : gd c (nc p) r
            · simp only [true_and, and_true, true_or, or_true, or_false, false_or, false_and, and_false, not_true, not_false_iff, ne_eq, and_self, eq_self, if_true, if_false, ite_true, ite_false, Nat.reduceLeDiff, Int.cast_ofNat_Int, Int.reduceLT, Int.reduceLE, Int.reduceEq, Int.reduceNeg, reduceCtorEq, jup_ap, Nat.reduceEqDiff, Nat.reduceAdd]
              refine h0 (Or.inl (fun q => ?_)) m1 hK1 hI1
              rw [ho2.mpr q.2.2.2] at hg
              cases hg
            · simp only [true_and, and_true, true_or, or_true, or_false, false_or, false_and, and_false, not_true, not_false_iff, ne_eq, and_self, eq_self, if_true, if_false, ite_true, ite_false, Nat.reduceLeDiff, Int.cast_ofNat_Int, Int.reduceLT, Int.reduceLE, Int.reduceEq, Int.reduceNeg, reduceCtorEq, jup_ap, Nat.reduceEqDiff, Nat.reduceAdd, Bool.true_eq_false]
              refine w_M_add h hI1.1 (by omega) L hp _ _ _ _ _ _ (fun m2 hF hA => ?_)
              simp only [x_M_undo_0, x_M_undo_1, x_M_undo_2, x_M_undo_5, x_M_undo_6, x_M_undo_9, x_M_undo_12, x_M_undo_13, x_M_undo_14, x_M_undo_15, x_M_undo_18, x_M_undo_21, x_M_undo_24, x_M_undo_25, x_M_undo_28, x_M_undo_29, x_M_undo_30, x_M_undo_31, x_M_undo_34, x_M_undo_35, x_M_undo_38, x_M_undo_39, x_M_undo_40, x_M_undo_41, x_M_undo_44, x_M_undo_45, x_M_undo_48, x_M_undo_51, x_M_undo_54, x_M_undo_55, x_M_undo_56, x_M_undo_57, x_M_undo_58, x_M_undo_61, x_M_undo_62, x_M_undo_65, x_M_undo_66, x_M_undo_67, x_M_undo_70, x_M_undo_71, x_M_undo_72, x_M_undo_73, x_M_undo_74, x_M_undo_75, x_M_undo_76, x_M_undo_77, x_M_undo_80, x_M_undo_83, x_M_undo_84]
              exact hQ ⟨⟨hp, hr⟩, ho, h5, ho2.mp hg⟩ (by omega) m2 (hK1.lo.trans hF) hA
      · rw [if_pos ho]
        exact n0 (Or.inl (fun q => ho q.2.1))
    · rw [if_pos hr]
      exact n0 (Or.inl (fun q => hr q.1.2))
  · rw [if_pos hp]
    exact n0 (Or.inl (fun q => hp q.1.1))
def mLn (m : jM) (p r : Int) : jM := jup (jup (jup m 40 (251 * p + r) 1) 41 p (if m 35 r ≤ m 41 p then m 41 p else m 35 r)) 32 11 (-1)
theorem w_M_learn (m : jM) (L : Nat) {p r : Int} (hp : 0 ≤ p ∧ p < 4) (hr : 0 ≤ r ∧ r < 251) (Q : jV → jG → jM → Prop) : wp 54 0 [jO (some 32), jI p, jI r] [] (g0 L) m Q = Q jU (g0 L) (mLn m p r) := by
  have hb : 0 ≤ 251 * p + r ∧ 251 * p + r < 1004 := by omega
  simp only [x_M_learn_0, x_M_learn_1, x_M_learn_4, x_M_learn_7, x_M_learn_8, x_M_learn_9, x_M_learn_10, x_M_learn_11, x_M_learn_12, x_M_learn_13, x_M_learn_14, x_M_learn_17, x_M_learn_18, x_M_learn_19, x_M_learn_22, x_M_learn_23, x_M_learn_24, x_M_learn_25, x_M_learn_28, x_M_learn_29, x_M_learn_30, x_M_learn_33, x_M_learn_34, x_M_learn_37, x_M_learn_38, x_M_learn_39, x_M_learn_42, x_M_learn_43, x_M_learn_46, x_M_learn_47, x_M_learn_48, x_M_learn_49, x_M_learn_50, x_M_learn_51, x_M_learn_54, hp, hr, hb, show jwr (251 * p) = 251 * p from jw1 (by omega) (by omega), show jwr (251 * p + r) = 251 * p + r from jw1 (by omega) (by omega), sk_0, sk_1, sk_2, sk_3, sk_4, sk_5, sk_6, sk_7, sk_8, sk_9, sk_10, sk_11, sk_12, sk_13, sk_14, sk_15, sk_16, sk_17, sk_18, sk_19, sk_20, sk_21, sk_22, sk_23, sk_24, sk_25, sk_26, sk_27, sk_28, sk_29, sk_30, sk_31, sk_32, sk_33, sk_34, sk_35, sk_36, sk_37, sk_38, sk_39, sk_40, sk_41, sk_42, sk_43, sk_44, sk_45, sk_46, sk_47, sk_48, sk_49, sk_50, sk_51, sk_52, sk_53, sn_0, sn_1, sn_2, sn_3, sn_4, sn_5, sn_6, sn_7, sn_8, sn_9, sn_10, sn_11, sn_12, sn_13, sn_14, sn_15, sn_16, sn_17, sn_18, sn_19, sn_20, sn_21, sn_22, sn_23, sn_24, sn_25, sn_26, sn_27, sn_28, sn_29, sn_30, sn_31, sn_32, sn_33, sn_34, sn_35, sn_36, sn_37, sn_38, sn_39, sn_40, sn_41, sn_42, sn_43, sn_44, sn_45, sn_46, sn_47, sn_48, sn_49, sn_50, sn_51, sn_52, sn_53, rf_2_1, rf_2_2, rf_2_3, rf_2_4, rf_1_0, rf_1_1, rf_8_0, rf_7_0, rf_10_0, rf_7_1, rf_12_0, rf_7_2, rf_14_0, rf_7_3, rf_16_1, rf_16_2, rf_16_3, rf_16_4, rf_16_5, rf_16_6, rf_16_7, rf_1_2, rf_24_1, rf_24_2, rf_24_3, rf_24_4, rf_24_5, rf_24_6, rf_24_7, rf_1_3, rf_32_2, rf_32_3, rf_32_4, rf_32_5, rf_32_6, rf_32_7, rf_32_8, rf_32_9, rf_32_10, rf_32_12, rf_32_14, rf_32_15, rf_32_16, rf_32_18, rf_32_19, rf_32_21, rf_32_25, rf_32_26, rf_32_27, rf_32_28, rf_32_30, true_and, and_true, true_or, or_true, or_false, false_or, false_and, and_false, not_true, not_false_iff, ne_eq, and_self, eq_self, if_true, if_false, ite_true, ite_false, Nat.reduceLeDiff, Int.cast_ofNat_Int, Int.reduceLT, Int.reduceLE, Int.reduceEq, Int.reduceNeg, reduceCtorEq, jup_ap, Nat.reduceEqDiff, Nat.reduceAdd]
  unfold mLn
  by_cases e : m 35 r ≤ m 41 p
  · rw [if_pos e, if_pos e]
  · rw [if_neg e, if_neg e]
/-- the reference's cells when p has seen r -/
def MLr (c m' : jM) (n : Nat) (p r : Int) : Prop :=
  m' 32 1 = (n : Int) ∧ (∀ r : Int, 1 ≤ r → r ≤ n → m' 33 r = cellV c r 0 ∧ m' 34 r = cellV c r 1 ∧ m' 35 r = cellV c r 2 ∧ m' 36 r = cellV c r 3 ∧ m' 37 r = cellV c r 4 ∧ m' 38 r = cellV c r 5 ∧ m' 39 r = cellV c r 6) ∧
  (∀ q x : Int, 0 ≤ q → q < 4 → 0 ≤ x → x < 251 → m' 40 (251 * q + x) = if q = p ∧ x = r then 1 else c (nc q + 1) x) ∧ (∀ q : Int, 0 ≤ q → q < 4 → m' 41 q = if q = p ∧ c (nc q) 2 < cellV c r 2 then cellV c r 2 else c (nc q) 2) ∧ m' 32 11 = -1
theorem mLn_lo (m : jM) (p r : Int) : LoF m (mLn m p r) := fun b hb j => by
  unfold mLn
  simp only [jup_ap]
  repeat rw [if_neg (by omega)]
theorem ref_bd {c : jM} {n : Nat} (h : CI c n) {r : Int} (hr : 1 ≤ r ∧ r ≤ n) : (0 ≤ cellV c r 5 ∧ cellV c r 5 < 251) ∧ (0 ≤ cellV c r 6 ∧ cellV c r 6 < 251) := by
  have h2 := h.2.1
  obtain ⟨a0, a1, a2, a3, a4, a5, a6, a7, a8⟩ := h.2.2.1 r hr.1 hr.2
  unfold isIns at a3 a4 a5 a6 a7
  rcases (show cellV c r 0 = 0 ∨ cellV c r 0 = 1 ∨ cellV c r 0 = 2 ∨ cellV c r 0 = 3 ∨ cellV c r 0 = 4 ∨ cellV c r 0 = 5 by omega) with q | q | q | q | q | q
  · have := a3 q; omega
  · have := a4 q; omega
  · have := a5 q; omega
  · have := a6 q; omega
  · have := a7 q; omega
  · have := a8 q; omega
theorem w_M_see {c m : jM} {n : Nat} (h : CI c n) (hI : MI c m n) (L : Nat) (p r : Int) (Q : jV → jG → jM → Prop)
    (h0 : ¬ okSee c n p r → ∀ m', MK m m' → MI c m' n → Q (jI 0) (g0 L) m')
    (hQ : okSee c n p r → ∀ m', LoF m m' → MLr c m' n p r → Q (jI 1) (g0 L) m') : wp 55 0 [jO (some 32), jI p, jI r] [] (g0 L) m Q := by
  have hn := h.2.1
  have hK0 : MK m (jup m 32 0 0) := MK.rf.upf (by decide)
  have n0 := fun q => h0 q _ hK0 hI.thr
  have hIt := hI.thr
  rw [x_M_see_0, x_M_see_1, x_M_see_2]
  refine ⟨rfl, ?_⟩
  generalize jup m 32 0 0 = m0 at *
  have e1 : m0 32 1 = (n : Int) := hIt.1.1
  simp only [x_M_see_0, x_M_see_1, x_M_see_2, x_M_see_5, x_M_see_6, x_M_see_9, x_M_see_12, x_M_see_13, x_M_see_14, x_M_see_15, x_M_see_18, x_M_see_21, x_M_see_24, x_M_see_25, x_M_see_26, x_M_see_27, x_M_see_30, x_M_see_33, x_M_see_34, x_M_see_35, x_M_see_36, x_M_see_39, x_M_see_40, x_M_see_41, x_M_see_44, x_M_see_45, x_M_see_46, x_M_see_47, x_M_see_50, x_M_see_51, x_M_see_52, x_M_see_55, x_M_see_58, x_M_see_59, x_M_see_62, x_M_see_63, x_M_see_64, x_M_see_67, x_M_see_68, x_M_see_69, x_M_see_70, x_M_see_73, x_M_see_74, x_M_see_75, x_M_see_78, x_M_see_81, x_M_see_82, x_M_see_83, x_M_see_84, x_M_see_85, x_M_see_86, x_M_see_89, x_M_see_90, w_M_isNode, w_M_within, e1, b01_0, Int.one_ne_zero, sk_0, sk_1, sk_2, sk_3, sk_4, sk_5, sk_6, sk_7, sk_8, sk_9, sk_10, sk_11, sk_12, sk_13, sk_14, sk_15, sk_16, sk_17, sk_18, sk_19, sk_20, sk_21, sk_22, sk_23, sk_24, sk_25, sk_26, sk_27, sk_28, sk_29, sk_30, sk_31, sk_32, sk_33, sk_34, sk_35, sk_36, sk_37, sk_38, sk_39, sk_40, sk_41, sk_42, sk_43, sk_44, sk_45, sk_46, sk_47, sk_48, sk_49, sk_50, sk_51, sk_52, sk_53, sn_0, sn_1, sn_2, sn_3, sn_4, sn_5, sn_6, sn_7, sn_8, sn_9, sn_10, sn_11, sn_12, sn_13, sn_14, sn_15, sn_16, sn_17, sn_18, sn_19, sn_20, sn_21, sn_22, sn_23, sn_24, sn_25, sn_26, sn_27, sn_28, sn_29, sn_30, sn_31, sn_32, sn_33, sn_34, sn_35, sn_36, sn_37, sn_38, sn_39, sn_40, sn_41, sn_42, sn_43, sn_44, sn_45, sn_46, sn_47, sn_48, sn_49, sn_50, sn_51, sn_52, sn_53, rf_2_1, rf_2_2, rf_2_3, rf_2_4, rf_1_0, rf_1_1, rf_8_0, rf_7_0, rf_10_0, rf_7_1, rf_12_0, rf_7_2, rf_14_0, rf_7_3, rf_16_1, rf_16_2, rf_16_3, rf_16_4, rf_16_5, rf_16_6, rf_16_7, rf_1_2, rf_24_1, rf_24_2, rf_24_3, rf_24_4, rf_24_5, rf_24_6, rf_24_7, rf_1_3, rf_32_2, rf_32_3, rf_32_4, rf_32_5, rf_32_6, rf_32_7, rf_32_8, rf_32_9, rf_32_10, rf_32_12, rf_32_14, rf_32_15, rf_32_16, rf_32_18, rf_32_19, rf_32_21, rf_32_25, rf_32_26, rf_32_27, rf_32_28, rf_32_30, true_and, and_true, true_or, or_true, or_false, false_or, false_and, and_false, not_true, not_false_iff, ne_eq, and_self, eq_self, if_true, if_false, ite_true, ite_false, Nat.reduceLeDiff, Int.cast_ofNat_Int, Int.reduceLT, Int.reduceLE, Int.reduceEq, Int.reduceNeg, reduceCtorEq, jup_ap, Nat.reduceEqDiff, Nat.reduceAdd]
  by_cases hp : 0 ≤ p ∧ p < 4
  · rw [if_neg (fun q => q hp)]
    by_cases hr : 1 ≤ r ∧ r ≤ (n : Int)
    · rw [if_neg (fun q => q hr)]
      have hrow := hIt.1.2.1 r hr.1 hr.2
      have hrb : 0 ≤ r ∧ r < 251 := by omega
      have hbd := ref_bd h hr
      have wk := fun (x : Int) (hx : 0 ≤ x ∧ x < 251) Q => w_M_kr h hIt.1 L hp hx Q
      have fin : okSee c n p r → Q (jI 1) (g0 L) (mLn m0 p r) := fun hok => by
        obtain ⟨k1, k2, k3, k4⟩ := hIt.1
        refine hQ hok _ (hK0.lo.trans (mLn_lo _ _ _)) ⟨?_, fun x x1 x2 => ?_, fun q x q1 q2 x1 x2 => ?_, fun q q1 q2 => ?_, ?_⟩
        · unfold mLn
          simp only [true_and, and_true, true_or, or_true, or_false, false_or, false_and, and_false, not_true, not_false_iff, ne_eq, and_self, eq_self, if_true, if_false, ite_true, ite_false, Nat.reduceLeDiff, Int.cast_ofNat_Int, Int.reduceLT, Int.reduceLE, Int.reduceEq, Int.reduceNeg, reduceCtorEq, jup_ap, Nat.reduceEqDiff, Nat.reduceAdd]
          exact k1
        · unfold mLn
          simp only [true_and, and_true, true_or, or_true, or_false, false_or, false_and, and_false, not_true, not_false_iff, ne_eq, and_self, eq_self, if_true, if_false, ite_true, ite_false, Nat.reduceLeDiff, Int.cast_ofNat_Int, Int.reduceLT, Int.reduceLE, Int.reduceEq, Int.reduceNeg, reduceCtorEq, jup_ap, Nat.reduceEqDiff, Nat.reduceAdd]
          exact k2 x x1 x2
        · unfold mLn
          simp only [true_and, and_true, true_or, or_true, or_false, false_or, false_and, and_false, not_true, not_false_iff, ne_eq, and_self, eq_self, if_true, if_false, ite_true, ite_false, Nat.reduceLeDiff, Int.cast_ofNat_Int, Int.reduceLT, Int.reduceLE, Int.reduceEq, Int.reduceNeg, reduceCtorEq, jup_ap, Nat.reduceEqDiff, Nat.reduceAdd]
          by_cases k : q = p ∧ x = r
          · rw [if_pos k, if_pos (by omega)]
          · rw [if_neg k, if_neg (by omega)]
            exact k3 q x q1 q2 x1 x2
        · unfold mLn
          simp only [true_and, and_true, true_or, or_true, or_false, false_or, false_and, and_false, not_true, not_false_iff, ne_eq, and_self, eq_self, if_true, if_false, ite_true, ite_false, Nat.reduceLeDiff, Int.cast_ofNat_Int, Int.reduceLT, Int.reduceLE, Int.reduceEq, Int.reduceNeg, reduceCtorEq, jup_ap, Nat.reduceEqDiff, Nat.reduceAdd]
          by_cases k : q = p
          · rw [if_pos k, hrow.2.2.1, k4 p hp.1 hp.2, k]
            by_cases z : c (nc p) 2 < cellV c r 2
            · rw [if_neg (show ¬ cellV c r 2 ≤ c (nc p) 2 by omega), if_pos ⟨rfl, z⟩]
            · rw [if_pos (show cellV c r 2 ≤ c (nc p) 2 by omega), if_neg (fun w => z w.2)]
          · rw [if_neg k, if_neg (fun w => k w.1)]
            exact k4 q q1 q2
        · unfold mLn
          simp only [true_and, and_true, true_or, or_true, or_false, false_or, false_and, and_false, not_true, not_false_iff, ne_eq, and_self, eq_self, if_true, if_false, ite_true, ite_false, Nat.reduceLeDiff, Int.cast_ofNat_Int, Int.reduceLT, Int.reduceLE, Int.reduceEq, Int.reduceNeg, reduceCtorEq, jup_ap, Nat.reduceEqDiff, Nat.reduceAdd]
      rw [wk r hrb]
      simp only [x_M_see_0, x_M_see_1, x_M_see_2, x_M_see_5, x_M_see_6, x_M_see_9, x_M_see_12, x_M_see_13, x_M_see_14, x_M_see_15, x_M_see_18, x_M_see_21, x_M_see_24, x_M_see_25, x_M_see_26, x_M_see_27, x_M_see_30, x_M_see_33, x_M_see_34, x_M_see_35, x_M_see_36, x_M_see_39, x_M_see_40, x_M_see_41, x_M_see_44, x_M_see_45, x_M_see_46, x_M_see_47, x_M_see_50, x_M_see_51, x_M_see_52, x_M_see_55, x_M_see_58, x_M_see_59, x_M_see_62, x_M_see_63, x_M_see_64, x_M_see_67, x_M_see_68, x_M_see_69, x_M_see_70, x_M_see_73, x_M_see_74, x_M_see_75, x_M_see_78, x_M_see_81, x_M_see_82, x_M_see_83, x_M_see_84, x_M_see_85, x_M_see_86, x_M_see_89, x_M_see_90, hrb, hrow.2.2.2.2.2.1, hrow.2.2.2.2.2.2, wk _ hbd.1, wk _ hbd.2, w_M_learn _ L hp hrb, b2i_0, Int.one_ne_zero, sk_0, sk_1, sk_2, sk_3, sk_4, sk_5, sk_6, sk_7, sk_8, sk_9, sk_10, sk_11, sk_12, sk_13, sk_14, sk_15, sk_16, sk_17, sk_18, sk_19, sk_20, sk_21, sk_22, sk_23, sk_24, sk_25, sk_26, sk_27, sk_28, sk_29, sk_30, sk_31, sk_32, sk_33, sk_34, sk_35, sk_36, sk_37, sk_38, sk_39, sk_40, sk_41, sk_42, sk_43, sk_44, sk_45, sk_46, sk_47, sk_48, sk_49, sk_50, sk_51, sk_52, sk_53, sn_0, sn_1, sn_2, sn_3, sn_4, sn_5, sn_6, sn_7, sn_8, sn_9, sn_10, sn_11, sn_12, sn_13, sn_14, sn_15, sn_16, sn_17, sn_18, sn_19, sn_20, sn_21, sn_22, sn_23, sn_24, sn_25, sn_26, sn_27, sn_28, sn_29, sn_30, sn_31, sn_32, sn_33, sn_34, sn_35, sn_36, sn_37, sn_38, sn_39, sn_40, sn_41, sn_42, sn_43, sn_44, sn_45, sn_46, sn_47, sn_48, sn_49, sn_50, sn_51, sn_52, sn_53, rf_2_1, rf_2_2, rf_2_3, rf_2_4, rf_1_0, rf_1_1, rf_8_0, rf_7_0, rf_10_0, rf_7_1, rf_12_0, rf_7_2, rf_14_0, rf_7_3, rf_16_1, rf_16_2, rf_16_3, rf_16_4, rf_16_5, rf_16_6, rf_16_7, rf_1_2, rf_24_1, rf_24_2, rf_24_3, rf_24_4, rf_24_5, rf_24_6, rf_24_7, rf_1_3, rf_32_2, rf_32_3, rf_32_4, rf_32_5, rf_32_6, rf_32_7, rf_32_8, rf_32_9, rf_32_10, rf_32_12, rf_32_14, rf_32_15, rf_32_16, rf_32_18, rf_32_19, rf_32_21, rf_32_25, rf_32_26, rf_32_27, rf_32_28, rf_32_30, true_and, and_true, true_or, or_true, or_false, false_or, false_and, and_false, not_true, not_false_iff, ne_eq, and_self, eq_self, if_true, if_false, ite_true, ite_false, Nat.reduceLeDiff, Int.cast_ofNat_Int, Int.reduceLT, Int.reduceLE, Int.reduceEq, Int.reduceNeg, reduceCtorEq, jup_ap, Nat.reduceEqDiff, Nat.reduceAdd]
      cases hk : kb c (nc p) r
      · simp only [true_and, and_true, true_or, or_true, or_false, false_or, false_and, and_false, not_true, not_false_iff, ne_eq, and_self, eq_self, if_true, if_false, ite_true, ite_false, Nat.reduceLeDiff, Int.cast_ofNat_Int, Int.reduceLT, Int.reduceLE, Int.reduceEq, Int.reduceNeg, reduceCtorEq, jup_ap, Nat.reduceEqDiff, Nat.reduceAdd]
        have rest : (cellV c r 5 = 0 ∨ kb c (nc p) (cellV c r 5) = true) → (if cellV c r 6 = 0 then Q (jI 1) (g0 L) (mLn m0 p r) else if ¬ kb c (nc p) (cellV c r 6) = false then Q (jI 1) (g0 L) (mLn m0 p r) else Q (jI 0) (g0 L) m0) := fun A => by
          by_cases z0 : cellV c r 6 = 0
          · rw [if_pos z0]
            exact fin ⟨⟨hp, hr⟩, hk, A, Or.inl z0⟩
          · rw [if_neg z0]
            cases zk : kb c (nc p) (cellV c r 6)
            · rw [if_neg (fun q => q rfl)]
              refine n0 (fun q => ?_)
              rcases q.2.2.2 with w | w
              · exact z0 w
              · rw [zk] at w; cases w
            · rw [if_pos (by simp)]
              exact fin ⟨⟨hp, hr⟩, hk, A, Or.inr zk⟩
        by_cases f0 : cellV c r 5 = 0
        · rw [if_pos f0]
          exact rest (Or.inl f0)
        · rw [if_neg f0]
          cases fk : kb c (nc p) (cellV c r 5)
          · rw [if_pos rfl]
            refine n0 (fun q => ?_)
            rcases q.2.2.1 with w | w
            · exact f0 w
            · rw [fk] at w; cases w
          · rw [if_neg (by simp)]
            exact rest (Or.inr fk)
      · simp only [true_and, and_true, true_or, or_true, or_false, false_or, false_and, and_false, not_true, not_false_iff, ne_eq, and_self, eq_self, if_true, if_false, ite_true, ite_false, Nat.reduceLeDiff, Int.cast_ofNat_Int, Int.reduceLT, Int.reduceLE, Int.reduceEq, Int.reduceNeg, reduceCtorEq, jup_ap, Nat.reduceEqDiff, Nat.reduceAdd, Bool.true_eq_false]
        exact n0 (fun q => by have := q.2.1; rw [hk] at this; cases this)
    · rw [if_pos hr]
      exact n0 (fun q => hr q.1.2)
  · rw [if_pos hp]
    exact n0 (fun q => hp q.1.1)
theorem w_M_kr0 {m : jM} (L : Nat) {p r : Int} {v : Bool} (hp : 0 ≤ p ∧ p < 4) (hr : 0 ≤ r ∧ r < 251) (hv : m 40 (251 * p + r) = b2i v) (Q : jV → jG → jM → Prop) : wp 35 0 [jO (some 32), jI p, jI r] [] (g0 L) m Q = Q (jI (b2i v)) (g0 L) m := by
  have hb : 0 ≤ 251 * p + r ∧ 251 * p + r < 1004 := by omega
  simp only [x_M_knowsRow_0, x_M_knowsRow_1, x_M_knowsRow_4, x_M_knowsRow_7, x_M_knowsRow_8, x_M_knowsRow_9, x_M_knowsRow_10, x_M_knowsRow_11, x_M_knowsRow_12, show jwr (251 * p) = 251 * p from jw1 (by omega) (by omega), show jwr (251 * p + r) = 251 * p + r from jw1 (by omega) (by omega), hb, sk_0, sk_1, sk_2, sk_3, sk_4, sk_5, sk_6, sk_7, sk_8, sk_9, sk_10, sk_11, sk_12, sk_13, sk_14, sk_15, sk_16, sk_17, sk_18, sk_19, sk_20, sk_21, sk_22, sk_23, sk_24, sk_25, sk_26, sk_27, sk_28, sk_29, sk_30, sk_31, sk_32, sk_33, sk_34, sk_35, sk_36, sk_37, sk_38, sk_39, sk_40, sk_41, sk_42, sk_43, sk_44, sk_45, sk_46, sk_47, sk_48, sk_49, sk_50, sk_51, sk_52, sk_53, sn_0, sn_1, sn_2, sn_3, sn_4, sn_5, sn_6, sn_7, sn_8, sn_9, sn_10, sn_11, sn_12, sn_13, sn_14, sn_15, sn_16, sn_17, sn_18, sn_19, sn_20, sn_21, sn_22, sn_23, sn_24, sn_25, sn_26, sn_27, sn_28, sn_29, sn_30, sn_31, sn_32, sn_33, sn_34, sn_35, sn_36, sn_37, sn_38, sn_39, sn_40, sn_41, sn_42, sn_43, sn_44, sn_45, sn_46, sn_47, sn_48, sn_49, sn_50, sn_51, sn_52, sn_53, rf_2_1, rf_2_2, rf_2_3, rf_2_4, rf_1_0, rf_1_1, rf_8_0, rf_7_0, rf_10_0, rf_7_1, rf_12_0, rf_7_2, rf_14_0, rf_7_3, rf_16_1, rf_16_2, rf_16_3, rf_16_4, rf_16_5, rf_16_6, rf_16_7, rf_1_2, rf_24_1, rf_24_2, rf_24_3, rf_24_4, rf_24_5, rf_24_6, rf_24_7, rf_1_3, rf_32_2, rf_32_3, rf_32_4, rf_32_5, rf_32_6, rf_32_7, rf_32_8, rf_32_9, rf_32_10, rf_32_12, rf_32_14, rf_32_15, rf_32_16, rf_32_18, rf_32_19, rf_32_21, rf_32_25, rf_32_26, rf_32_27, rf_32_28, rf_32_30, true_and, and_true, true_or, or_true, or_false, false_or, false_and, and_false, not_true, not_false_iff, ne_eq, and_self, eq_self, if_true, if_false, ite_true, ite_false, Nat.reduceLeDiff, Int.cast_ofNat_Int, Int.reduceLT, Int.reduceLE, Int.reduceEq, Int.reduceNeg, reduceCtorEq, jup_ap, Nat.reduceEqDiff, Nat.reduceAdd]
  rw [hv, jand_t (b2i_01 _)]
/-- the reference's cells when p has met q up to row k -/
def MMt (c m' : jM) (n : Nat) (p q : Int) (k : Nat) : Prop :=
  m' 32 1 = (n : Int) ∧ (∀ r : Int, 1 ≤ r → r ≤ n → m' 33 r = cellV c r 0 ∧ m' 34 r = cellV c r 1 ∧ m' 35 r = cellV c r 2 ∧ m' 36 r = cellV c r 3 ∧ m' 37 r = cellV c r 4 ∧ m' 38 r = cellV c r 5 ∧ m' 39 r = cellV c r 6) ∧
  (∀ o x : Int, 0 ≤ o → o < 4 → 0 ≤ x → x < 251 → m' 40 (251 * o + x) = if (o = p ∧ 1 ≤ x ∧ x ≤ k) ∧ kb c (nc q) x = true then 1 else c (nc o + 1) x) ∧ (∀ o : Int, 0 ≤ o → o < 4 → m' 41 o = if o = p then tmF c (nc p) (nc q) k else c (nc o) 2)
def MtN (c : jM) (p q : Int) (k : Nat) : Prop := ∀ x : Int, 1 ≤ x → x ≤ k → kb c (nc q) x = true → kb c (nc p) x = true
theorem mtC_bd (c : jM) (a b k : Nat) : 0 ≤ mtC c a b k ∧ mtC c a b k ≤ k := sumQ_bd (fun r => kb c b r && !kb c a r) k 1
theorem wl_M_meet {c m : jM} {n : Nat} (h : CI c n) (L : Nat) {p q : Int} (hp : 0 ≤ p ∧ p < 4) (hq : 0 ≤ q ∧ q < 4) (hpq : q ≠ p) (Q : jV → jG → jM → Prop)
    (hQ : ∀ m', LoF m m' → MMt c m' n p q n → (m' 32 11 = -1 ∨ (m' = m ∧ MtN c p q n)) → Q (jI (mtC c (nc p) (nc q) n)) (g0 L) m') :
    ∀ (d k : Nat) (m1 : jM), k + d = n → LoF m m1 → MMt c m1 n p q k → (m1 32 11 = -1 ∨ (m1 = m ∧ MtN c p q k)) → wp 56 31 [jO (some 32), jI p, jI q, jI (mtC c (nc p) (nc q) k), jI ((k : Int) + 1)] [] (g0 L) m1 Q := by
  have h2 := h.2.1
  intro d
  induction d with
  | zero =>
    intro k m1 hk hF hI hS
    have : k = n := by omega
    subst this
    have e0 := hI.1
    have hlt : (k : Int) < (k : Int) + 1 := by omega
    rw [x_M_meet_31]
    simp only [x_M_meet_33, x_M_meet_34, x_M_meet_37, x_M_meet_79, x_M_meet_80, e0, hlt, sk_0, sk_1, sk_2, sk_3, sk_4, sk_5, sk_6, sk_7, sk_8, sk_9, sk_10, sk_11, sk_12, sk_13, sk_14, sk_15, sk_16, sk_17, sk_18, sk_19, sk_20, sk_21, sk_22, sk_23, sk_24, sk_25, sk_26, sk_27, sk_28, sk_29, sk_30, sk_31, sk_32, sk_33, sk_34, sk_35, sk_36, sk_37, sk_38, sk_39, sk_40, sk_41, sk_42, sk_43, sk_44, sk_45, sk_46, sk_47, sk_48, sk_49, sk_50, sk_51, sk_52, sk_53, sn_0, sn_1, sn_2, sn_3, sn_4, sn_5, sn_6, sn_7, sn_8, sn_9, sn_10, sn_11, sn_12, sn_13, sn_14, sn_15, sn_16, sn_17, sn_18, sn_19, sn_20, sn_21, sn_22, sn_23, sn_24, sn_25, sn_26, sn_27, sn_28, sn_29, sn_30, sn_31, sn_32, sn_33, sn_34, sn_35, sn_36, sn_37, sn_38, sn_39, sn_40, sn_41, sn_42, sn_43, sn_44, sn_45, sn_46, sn_47, sn_48, sn_49, sn_50, sn_51, sn_52, sn_53, rf_2_1, rf_2_2, rf_2_3, rf_2_4, rf_1_0, rf_1_1, rf_8_0, rf_7_0, rf_10_0, rf_7_1, rf_12_0, rf_7_2, rf_14_0, rf_7_3, rf_16_1, rf_16_2, rf_16_3, rf_16_4, rf_16_5, rf_16_6, rf_16_7, rf_1_2, rf_24_1, rf_24_2, rf_24_3, rf_24_4, rf_24_5, rf_24_6, rf_24_7, rf_1_3, rf_32_2, rf_32_3, rf_32_4, rf_32_5, rf_32_6, rf_32_7, rf_32_8, rf_32_9, rf_32_10, rf_32_12, rf_32_14, rf_32_15, rf_32_16, rf_32_18, rf_32_19, rf_32_21, rf_32_25, rf_32_26, rf_32_27, rf_32_28, rf_32_30, true_and, and_true, true_or, or_true, or_false, false_or, false_and, and_false, not_true, not_false_iff, ne_eq, and_self, eq_self, if_true, if_false, ite_true, ite_false, Nat.reduceLeDiff, Int.cast_ofNat_Int, Int.reduceLT, Int.reduceLE, Int.reduceEq, Int.reduceNeg, reduceCtorEq, jup_ap, Nat.reduceEqDiff, Nat.reduceAdd]
    exact hQ m1 hF hI hS
  | succ d ih =>
    intro k m1 hk hF hI hS
    obtain ⟨e0, i2, i3, i4⟩ := id hI
    have hlt : ¬ (n : Int) < (k : Int) + 1 := by omega
    have hb : (0 : Int) ≤ (k : Int) + 1 ∧ (k : Int) + 1 < 251 := by omega
    have v1 : m1 40 (251 * q + ((k : Int) + 1)) = b2i (kb c (nc q) ((k : Int) + 1)) := by rw [i3 q _ hq.1 hq.2 hb.1 hb.2, if_neg (fun w => hpq w.1.1)]; exact b2i_kb h hq hb
    have v2 : m1 40 (251 * p + ((k : Int) + 1)) = b2i (kb c (nc p) ((k : Int) + 1)) := by rw [i3 p _ hp.1 hp.2 hb.1 hb.2, if_neg (fun w => by omega)]; exact b2i_kb h hp hb
    have hms : mtC c (nc p) (nc q) (k + 1) = mtC c (nc p) (nc q) k + b2i (kb c (nc q) ((k : Int) + 1) && !kb c (nc p) ((k : Int) + 1)) := by
      unfold mtC
      rw [sumI_snoc, show (1 : Int) + (k : Int) = (k : Int) + 1 by omega]
    have hmb := mtC_bd c (nc p) (nc q) k
    have hts : tmF c (nc p) (nc q) (k + 1) = if (kb c (nc q) ((k : Int) + 1) && !kb c (nc p) ((k : Int) + 1)) = true ∧ tmF c (nc p) (nc q) k < cellV c ((k : Int) + 1) 2 then cellV c ((k : Int) + 1) 2 else tmF c (nc p) (nc q) k := rfl
    have l1 : k < 1000000 := by omega
    have same : (kb c (nc q) ((k : Int) + 1) && !kb c (nc p) ((k : Int) + 1)) = false → wp 56 31 [jO (some 32), jI p, jI q, jI (mtC c (nc p) (nc q) k), jI (((k + 1 : Nat) : Int) + 1)] [] (g0 L) m1 Q := fun hz => by
      have hqp : kb c (nc q) ((k : Int) + 1) = true → kb c (nc p) ((k : Int) + 1) = true := fun w => by
        rw [w, Bool.true_and] at hz
        simpa using hz
      have g := ih (k + 1) m1 (by omega) hF ⟨e0, i2, fun o x o1 o2 x1 x2 => ?_, fun o o1 o2 => ?_⟩ ?_
      · rw [hms, hz, show b2i false = 0 from rfl, Int.add_zero] at g
        exact g
      · rw [i3 o x o1 o2 x1 x2]
        by_cases k1 : (o = p ∧ 1 ≤ x ∧ x ≤ (k : Int)) ∧ kb c (nc q) x = true
        · rw [if_pos k1, if_pos ⟨⟨k1.1.1, by omega, by omega⟩, k1.2⟩]
        · rw [if_neg k1]
          by_cases k2 : (o = p ∧ 1 ≤ x ∧ x ≤ ((k + 1 : Nat) : Int)) ∧ kb c (nc q) x = true
          · rw [if_pos k2]
            have hx : x = (k : Int) + 1 := by
              by_cases z : x ≤ (k : Int)
              · exact absurd ⟨⟨k2.1.1, k2.1.2.1, z⟩, k2.2⟩ k1
              · omega
            rw [k2.1.1, b2i_kb h hp ⟨x1, x2⟩, hx, hqp (by rw [← hx]; exact k2.2)]
            rfl
          · rw [if_neg k2]
      · rw [i4 o o1 o2, show tmF c (nc p) (nc q) (k + 1) = tmF c (nc p) (nc q) k by rw [hts, hz]; simp]
      · rcases hS with w | w
        · exact Or.inl w
        · refine Or.inr ⟨w.1, fun x x1 x2 x3 => ?_⟩
          by_cases z : x = (k : Int) + 1
          · rw [z] at x3 ⊢
            exact hqp x3
          · exact w.2 x x1 (by omega) x3
    rw [x_M_meet_31]
    simp only [x_M_meet_0, x_M_meet_1, x_M_meet_2, x_M_meet_5, x_M_meet_6, x_M_meet_9, x_M_meet_12, x_M_meet_13, x_M_meet_16, x_M_meet_19, x_M_meet_20, x_M_meet_21, x_M_meet_24, x_M_meet_25, x_M_meet_26, x_M_meet_27, x_M_meet_28, x_M_meet_29, x_M_meet_33, x_M_meet_34, x_M_meet_37, x_M_meet_40, x_M_meet_41, x_M_meet_42, x_M_meet_44, x_M_meet_47, x_M_meet_50, x_M_meet_51, x_M_meet_52, x_M_meet_54, x_M_meet_57, x_M_meet_60, x_M_meet_63, x_M_meet_64, x_M_meet_65, x_M_meet_67, x_M_meet_70, x_M_meet_73, x_M_meet_76, x_M_meet_79, x_M_meet_80, w_M_kr0 L hq hb v1, w_M_kr0 L hp hb v2, w_M_learn _ L hp hb, e0, hlt, b2i_0, jwSS l1, show jwr (mtC c (nc p) (nc q) k + 1) = mtC c (nc p) (nc q) k + 1 from jw1 (by omega) (by omega), sk_0, sk_1, sk_2, sk_3, sk_4, sk_5, sk_6, sk_7, sk_8, sk_9, sk_10, sk_11, sk_12, sk_13, sk_14, sk_15, sk_16, sk_17, sk_18, sk_19, sk_20, sk_21, sk_22, sk_23, sk_24, sk_25, sk_26, sk_27, sk_28, sk_29, sk_30, sk_31, sk_32, sk_33, sk_34, sk_35, sk_36, sk_37, sk_38, sk_39, sk_40, sk_41, sk_42, sk_43, sk_44, sk_45, sk_46, sk_47, sk_48, sk_49, sk_50, sk_51, sk_52, sk_53, sn_0, sn_1, sn_2, sn_3, sn_4, sn_5, sn_6, sn_7, sn_8, sn_9, sn_10, sn_11, sn_12, sn_13, sn_14, sn_15, sn_16, sn_17, sn_18, sn_19, sn_20, sn_21, sn_22, sn_23, sn_24, sn_25, sn_26, sn_27, sn_28, sn_29, sn_30, sn_31, sn_32, sn_33, sn_34, sn_35, sn_36, sn_37, sn_38, sn_39, sn_40, sn_41, sn_42, sn_43, sn_44, sn_45, sn_46, sn_47, sn_48, sn_49, sn_50, sn_51, sn_52, sn_53, rf_2_1, rf_2_2, rf_2_3, rf_2_4, rf_1_0, rf_1_1, rf_8_0, rf_7_0, rf_10_0, rf_7_1, rf_12_0, rf_7_2, rf_14_0, rf_7_3, rf_16_1, rf_16_2, rf_16_3, rf_16_4, rf_16_5, rf_16_6, rf_16_7, rf_1_2, rf_24_1, rf_24_2, rf_24_3, rf_24_4, rf_24_5, rf_24_6, rf_24_7, rf_1_3, rf_32_2, rf_32_3, rf_32_4, rf_32_5, rf_32_6, rf_32_7, rf_32_8, rf_32_9, rf_32_10, rf_32_12, rf_32_14, rf_32_15, rf_32_16, rf_32_18, rf_32_19, rf_32_21, rf_32_25, rf_32_26, rf_32_27, rf_32_28, rf_32_30, true_and, and_true, true_or, or_true, or_false, false_or, false_and, and_false, not_true, not_false_iff, ne_eq, and_self, eq_self, if_true, if_false, ite_true, ite_false, Nat.reduceLeDiff, Int.cast_ofNat_Int, Int.reduceLT, Int.reduceLE, Int.reduceEq, Int.reduceNeg, reduceCtorEq, jup_ap, Nat.reduceEqDiff, Nat.reduceAdd]
    cases hkq : kb c (nc q) ((k : Int) + 1)
    · simp only [true_and, and_true, true_or, or_true, or_false, false_or, false_and, and_false, not_true, not_false_iff, ne_eq, and_self, eq_self, if_true, if_false, ite_true, ite_false, Nat.reduceLeDiff, Int.cast_ofNat_Int, Int.reduceLT, Int.reduceLE, Int.reduceEq, Int.reduceNeg, reduceCtorEq, jup_ap, Nat.reduceEqDiff, Nat.reduceAdd]
      exact same (by rw [hkq]; rfl)
    · simp only [true_and, and_true, true_or, or_true, or_false, false_or, false_and, and_false, not_true, not_false_iff, ne_eq, and_self, eq_self, if_true, if_false, ite_true, ite_false, Nat.reduceLeDiff, Int.cast_ofNat_Int, Int.reduceLT, Int.reduceLE, Int.reduceEq, Int.reduceNeg, reduceCtorEq, jup_ap, Nat.reduceEqDiff, Nat.reduceAdd, Bool.true_eq_false]
      cases hkp : kb c (nc p) ((k : Int) + 1)
      · simp only [true_and, and_true, true_or, or_true, or_false, false_or, false_and, and_false, not_true, not_false_iff, ne_eq, and_self, eq_self, if_true, if_false, ite_true, ite_false, Nat.reduceLeDiff, Int.cast_ofNat_Int, Int.reduceLT, Int.reduceLE, Int.reduceEq, Int.reduceNeg, reduceCtorEq, jup_ap, Nat.reduceEqDiff, Nat.reduceAdd]
        have hrow := i2 ((k : Int) + 1) (by omega) (by omega)
        rw [hkq, hkp] at hms hts
        have g := ih (k + 1) (mLn m1 p ((k : Int) + 1)) (by omega) (hF.trans (mLn_lo _ _ _)) ⟨?_, fun x x1 x2 => ?_, fun o x o1 o2 x1 x2 => ?_, fun o o1 o2 => ?_⟩ (Or.inl ?_)
        · rw [hms] at g
          exact g
        · unfold mLn
          simp only [true_and, and_true, true_or, or_true, or_false, false_or, false_and, and_false, not_true, not_false_iff, ne_eq, and_self, eq_self, if_true, if_false, ite_true, ite_false, Nat.reduceLeDiff, Int.cast_ofNat_Int, Int.reduceLT, Int.reduceLE, Int.reduceEq, Int.reduceNeg, reduceCtorEq, jup_ap, Nat.reduceEqDiff, Nat.reduceAdd]
          exact e0
        · unfold mLn
          simp only [true_and, and_true, true_or, or_true, or_false, false_or, false_and, and_false, not_true, not_false_iff, ne_eq, and_self, eq_self, if_true, if_false, ite_true, ite_false, Nat.reduceLeDiff, Int.cast_ofNat_Int, Int.reduceLT, Int.reduceLE, Int.reduceEq, Int.reduceNeg, reduceCtorEq, jup_ap, Nat.reduceEqDiff, Nat.reduceAdd]
          exact i2 x x1 x2
        · unfold mLn
          simp only [true_and, and_true, true_or, or_true, or_false, false_or, false_and, and_false, not_true, not_false_iff, ne_eq, and_self, eq_self, if_true, if_false, ite_true, ite_false, Nat.reduceLeDiff, Int.cast_ofNat_Int, Int.reduceLT, Int.reduceLE, Int.reduceEq, Int.reduceNeg, reduceCtorEq, jup_ap, Nat.reduceEqDiff, Nat.reduceAdd]
          rw [i3 o x o1 o2 x1 x2]
          by_cases z : 251 * o + x = 251 * p + ((k : Int) + 1)
          · have z1 : o = p := by omega
            have z2 : x = (k : Int) + 1 := by omega
            rw [if_pos z, if_pos ⟨⟨z1, by omega, by omega⟩, by rw [z2]; exact hkq⟩]
          · rw [if_neg z]
            by_cases k1 : (o = p ∧ 1 ≤ x ∧ x ≤ (k : Int)) ∧ kb c (nc q) x = true
            · rw [if_pos k1, if_pos ⟨⟨k1.1.1, by omega, by omega⟩, k1.2⟩]
            · rw [if_neg k1, if_neg (fun w => k1 ⟨⟨w.1.1, w.1.2.1, by omega⟩, w.2⟩)]
        · unfold mLn
          simp only [true_and, and_true, true_or, or_true, or_false, false_or, false_and, and_false, not_true, not_false_iff, ne_eq, and_self, eq_self, if_true, if_false, ite_true, ite_false, Nat.reduceLeDiff, Int.cast_ofNat_Int, Int.reduceLT, Int.reduceLE, Int.reduceEq, Int.reduceNeg, reduceCtorEq, jup_ap, Nat.reduceEqDiff, Nat.reduceAdd]
          rw [hts]
          by_cases z : o = p
          · rw [if_pos z, if_pos z, hrow.2.2.1, i4 p hp.1 hp.2, if_pos rfl]
            by_cases y : tmF c (nc p) (nc q) k < cellV c ((k : Int) + 1) 2
            · rw [if_neg (show ¬ cellV c ((k : Int) + 1) 2 ≤ tmF c (nc p) (nc q) k by omega), if_pos ⟨rfl, y⟩]
            · rw [if_pos (show cellV c ((k : Int) + 1) 2 ≤ tmF c (nc p) (nc q) k by omega), if_neg (fun w => y w.2)]
          · rw [if_neg z, if_neg z, i4 o o1 o2, if_neg z]
        · unfold mLn
          simp only [true_and, and_true, true_or, or_true, or_false, false_or, false_and, and_false, not_true, not_false_iff, ne_eq, and_self, eq_self, if_true, if_false, ite_true, ite_false, Nat.reduceLeDiff, Int.cast_ofNat_Int, Int.reduceLT, Int.reduceLE, Int.reduceEq, Int.reduceNeg, reduceCtorEq, jup_ap, Nat.reduceEqDiff, Nat.reduceAdd]
      · simp only [true_and, and_true, true_or, or_true, or_false, false_or, false_and, and_false, not_true, not_false_iff, ne_eq, and_self, eq_self, if_true, if_false, ite_true, ite_false, Nat.reduceLeDiff, Int.cast_ofNat_Int, Int.reduceLT, Int.reduceLE, Int.reduceEq, Int.reduceNeg, reduceCtorEq, jup_ap, Nat.reduceEqDiff, Nat.reduceAdd, Bool.true_eq_false]
        exact same (by rw [hkq, hkp]; rfl)
theorem w_M_meet {c m : jM} {n : Nat} (h : CI c n) (hI : MI c m n) (L : Nat) (p q : Int) (Q : jV → jG → jM → Prop)
    (h0 : ¬ ((0 ≤ p ∧ p < 4) ∧ (0 ≤ q ∧ q < 4) ∧ q ≠ p) → ∀ m', MK m m' → MI c m' n → Q (jI (-1)) (g0 L) m')
    (hQ : (0 ≤ p ∧ p < 4) ∧ (0 ≤ q ∧ q < 4) ∧ q ≠ p → ∀ m', LoF m m' → MMt c m' n p q n → (m' 32 11 = -1 ∨ (MI c m' n ∧ MtN c p q n)) → Q (jI (mtC c (nc p) (nc q) n)) (g0 L) m') : wp 56 0 [jO (some 32), jI p, jI q, jU, jU] [] (g0 L) m Q := by
  have hn := h.2.1
  have hK0 : MK m (jup m 32 0 0) := MK.rf.upf (by decide)
  have n0 := fun q => h0 q _ hK0 hI.thr
  have hIt := hI.thr
  rw [x_M_meet_0, x_M_meet_1, x_M_meet_2]
  refine ⟨rfl, ?_⟩
  generalize jup m 32 0 0 = m0 at *
  simp only [x_M_meet_0, x_M_meet_1, x_M_meet_2, x_M_meet_5, x_M_meet_6, x_M_meet_9, x_M_meet_12, x_M_meet_13, x_M_meet_16, x_M_meet_19, x_M_meet_20, x_M_meet_21, x_M_meet_24, x_M_meet_25, x_M_meet_26, x_M_meet_27, x_M_meet_28, x_M_meet_29, x_M_meet_33, x_M_meet_34, x_M_meet_37, x_M_meet_40, x_M_meet_41, x_M_meet_42, x_M_meet_44, x_M_meet_47, x_M_meet_50, x_M_meet_51, x_M_meet_52, x_M_meet_54, x_M_meet_57, x_M_meet_60, x_M_meet_63, x_M_meet_64, x_M_meet_65, x_M_meet_67, x_M_meet_70, x_M_meet_73, x_M_meet_76, x_M_meet_79, x_M_meet_80, w_M_isNode, b01_0, sk_0, sk_1, sk_2, sk_3, sk_4, sk_5, sk_6, sk_7, sk_8, sk_9, sk_10, sk_11, sk_12, sk_13, sk_14, sk_15, sk_16, sk_17, sk_18, sk_19, sk_20, sk_21, sk_22, sk_23, sk_24, sk_25, sk_26, sk_27, sk_28, sk_29, sk_30, sk_31, sk_32, sk_33, sk_34, sk_35, sk_36, sk_37, sk_38, sk_39, sk_40, sk_41, sk_42, sk_43, sk_44, sk_45, sk_46, sk_47, sk_48, sk_49, sk_50, sk_51, sk_52, sk_53, sn_0, sn_1, sn_2, sn_3, sn_4, sn_5, sn_6, sn_7, sn_8, sn_9, sn_10, sn_11, sn_12, sn_13, sn_14, sn_15, sn_16, sn_17, sn_18, sn_19, sn_20, sn_21, sn_22, sn_23, sn_24, sn_25, sn_26, sn_27, sn_28, sn_29, sn_30, sn_31, sn_32, sn_33, sn_34, sn_35, sn_36, sn_37, sn_38, sn_39, sn_40, sn_41, sn_42, sn_43, sn_44, sn_45, sn_46, sn_47, sn_48, sn_49, sn_50, sn_51, sn_52, sn_53, rf_2_1, rf_2_2, rf_2_3, rf_2_4, rf_1_0, rf_1_1, rf_8_0, rf_7_0, rf_10_0, rf_7_1, rf_12_0, rf_7_2, rf_14_0, rf_7_3, rf_16_1, rf_16_2, rf_16_3, rf_16_4, rf_16_5, rf_16_6, rf_16_7, rf_1_2, rf_24_1, rf_24_2, rf_24_3, rf_24_4, rf_24_5, rf_24_6, rf_24_7, rf_1_3, rf_32_2, rf_32_3, rf_32_4, rf_32_5, rf_32_6, rf_32_7, rf_32_8, rf_32_9, rf_32_10, rf_32_12, rf_32_14, rf_32_15, rf_32_16, rf_32_18, rf_32_19, rf_32_21, rf_32_25, rf_32_26, rf_32_27, rf_32_28, rf_32_30, true_and, and_true, true_or, or_true, or_false, false_or, false_and, and_false, not_true, not_false_iff, ne_eq, and_self, eq_self, if_true, if_false, ite_true, ite_false, Nat.reduceLeDiff, Int.cast_ofNat_Int, Int.reduceLT, Int.reduceLE, Int.reduceEq, Int.reduceNeg, reduceCtorEq, jup_ap, Nat.reduceEqDiff, Nat.reduceAdd]
  by_cases hp : 0 ≤ p ∧ p < 4
  · rw [if_neg (fun q => q hp)]
    by_cases hq : 0 ≤ q ∧ q < 4
    · rw [if_neg (fun w => w hq)]
      by_cases hpq : p = q
      · rw [if_neg (fun w => w hpq)]
        exact n0 (fun w => w.2.2 hpq.symm)
      · rw [if_pos hpq]
        obtain ⟨k1, k2, k3, k4⟩ := hIt.1
        refine wl_M_meet h L hp hq (fun w => hpq w.symm) Q (fun m' hF hA hS => hQ ⟨hp, hq, fun w => hpq w.symm⟩ m' (hK0.lo.trans hF) hA ?_) n 0 m0 (by omega) (fun _ _ _ => rfl) ⟨k1, k2, fun o x o1 o2 x1 x2 => ?_, fun o o1 o2 => ?_⟩ (Or.inr ⟨rfl, fun x x1 x2 => by omega⟩)
        · rcases hS with w | w
          · exact Or.inl w
          · exact Or.inr ⟨by rw [w.1]; exact hIt, w.2⟩
        · rw [if_neg (fun w => by omega)]
          exact k3 o x o1 o2 x1 x2
        · rw [k4 o o1 o2]
          by_cases z : o = p
          · rw [if_pos z, z]
            rfl
          · rw [if_neg z]
    · rw [if_pos hq]
      exact n0 (fun w => hq w.2.1)
  · rw [if_pos hp]
    exact n0 (fun w => hp w.1)
