theorem pSt_neg {f : Int → Int} {k : Int} : ∀ (d : Nat) (cnt i : Int), k ≤ cnt → pSt f k cnt i d = -1
  | 0, _, _, _ => rfl
  | d + 1, cnt, i, h => by
    unfold pSt
    by_cases e : f i = 10
    · rw [if_pos e, if_neg (by omega), pSt_neg d (cnt + 1) (i + 1) (by omega)]
    · rw [if_neg e, pSt_neg d cnt (i + 1) h]
theorem wl_M_start {c m : jM} {n : Nat} {p : Int} {N s : Nat} (h : CI c n) (hM : MB c m n) (hL : LkP c m n p N s) (L : Nat) (k : Int) (hk : k < 2147483648) (Q : jV → jG → jM → Prop) :
    ∀ (d : Nat) (i cnt : Int), 0 ≤ i → i + d = (s : Int) → 0 ≤ cnt → cnt < k → wp 51 11 [jO (some 32), jI k, jI (k - cnt), jI i] [] (g0 L) m Q = Q (jI (pSt (tx c (nc p)) k cnt i d - 1)) (g0 L) m := by
  have hn := h.2.1
  obtain ⟨b1, b2, b3, b4, b5⟩ := hL.len
  intro d
  induction d with
  | zero =>
    intro i cnt i1 i2 c1 c2
    have hle : (s : Int) ≤ i := by omega
    have hz : k - cnt ≠ 0 := by omega
    rw [x_M_startOf_11]
    simp only [x_M_startOf_12, x_M_startOf_13, x_M_startOf_16, x_M_startOf_57, x_M_startOf_58, x_M_startOf_61, x_M_startOf_62, x_M_startOf_65, x_M_startOf_67, b3, hle, hz, sk_0, sk_1, sk_2, sk_3, sk_4, sk_5, sk_6, sk_7, sk_8, sk_9, sk_10, sk_11, sk_12, sk_13, sk_14, sk_15, sk_16, sk_17, sk_18, sk_19, sk_20, sk_21, sk_22, sk_23, sk_24, sk_25, sk_26, sk_27, sk_28, sk_29, sk_30, sk_31, sk_32, sk_33, sk_34, sk_35, sk_36, sk_37, sk_38, sk_39, sk_40, sk_41, sk_42, sk_43, sk_44, sk_45, sk_46, sk_47, sk_48, sk_49, sk_50, sk_51, sk_52, sk_53, sn_0, sn_1, sn_2, sn_3, sn_4, sn_5, sn_6, sn_7, sn_8, sn_9, sn_10, sn_11, sn_12, sn_13, sn_14, sn_15, sn_16, sn_17, sn_18, sn_19, sn_20, sn_21, sn_22, sn_23, sn_24, sn_25, sn_26, sn_27, sn_28, sn_29, sn_30, sn_31, sn_32, sn_33, sn_34, sn_35, sn_36, sn_37, sn_38, sn_39, sn_40, sn_41, sn_42, sn_43, sn_44, sn_45, sn_46, sn_47, sn_48, sn_49, sn_50, sn_51, sn_52, sn_53, rf_2_1, rf_2_2, rf_2_3, rf_2_4, rf_1_0, rf_1_1, rf_8_0, rf_7_0, rf_10_0, rf_7_1, rf_12_0, rf_7_2, rf_14_0, rf_7_3, rf_16_1, rf_16_2, rf_16_3, rf_16_4, rf_16_5, rf_16_6, rf_16_7, rf_1_2, rf_24_1, rf_24_2, rf_24_3, rf_24_4, rf_24_5, rf_24_6, rf_24_7, rf_1_3, rf_32_2, rf_32_3, rf_32_4, rf_32_5, rf_32_6, rf_32_7, rf_32_8, rf_32_9, rf_32_10, rf_32_12, rf_32_14, rf_32_15, rf_32_16, rf_32_18, rf_32_19, rf_32_21, rf_32_25, rf_32_26, rf_32_27, rf_32_28, rf_32_30, true_and, and_true, true_or, or_true, or_false, false_or, false_and, and_false, not_true, not_false_iff, ne_eq, and_self, eq_self, if_true, if_false, ite_true, ite_false, Nat.reduceLeDiff, Int.cast_ofNat_Int, Int.reduceLT, Int.reduceLE, Int.reduceEq, Int.reduceNeg, reduceCtorEq, jup_ap, Nat.reduceEqDiff, Nat.reduceAdd]
    rfl
  | succ d ih =>
    intro i cnt i1 i2 c1 c2
    have hle : ¬ (s : Int) ≤ i := by omega
    have hlf : ¬ k - cnt ≤ 0 := by omega
    have ha := hL.at h hM (i := i) (by omega)
    have hb : 0 ≤ i ∧ i < 251 := by omega
    have hb2 : 0 ≤ m 46 i ∧ m 46 i < 251 := by omega
    have e1 : jwr (i + 1) = i + 1 := jw1 (by omega) (by omega)
    have e2 : jwr (k - cnt + -1) = k - (cnt + 1) := (jw1 (by omega) (by omega)).trans (by omega)
    have et : m 36 (m 46 i) = tx c (nc p) i := ha.2.1 0
    rw [x_M_startOf_11]
    simp only [x_M_startOf_0, x_M_startOf_1, x_M_startOf_4, x_M_startOf_6, x_M_startOf_7, x_M_startOf_8, x_M_startOf_9, x_M_startOf_10, x_M_startOf_12, x_M_startOf_13, x_M_startOf_16, x_M_startOf_19, x_M_startOf_20, x_M_startOf_23, x_M_startOf_24, x_M_startOf_27, x_M_startOf_28, x_M_startOf_31, x_M_startOf_32, x_M_startOf_33, x_M_startOf_34, x_M_startOf_36, x_M_startOf_39, x_M_startOf_42, x_M_startOf_45, x_M_startOf_46, x_M_startOf_49, x_M_startOf_50, x_M_startOf_51, x_M_startOf_54, x_M_startOf_57, x_M_startOf_58, x_M_startOf_61, x_M_startOf_62, x_M_startOf_65, x_M_startOf_67, b3, hle, hlf, hb, hb2, et, e1, e2, sk_0, sk_1, sk_2, sk_3, sk_4, sk_5, sk_6, sk_7, sk_8, sk_9, sk_10, sk_11, sk_12, sk_13, sk_14, sk_15, sk_16, sk_17, sk_18, sk_19, sk_20, sk_21, sk_22, sk_23, sk_24, sk_25, sk_26, sk_27, sk_28, sk_29, sk_30, sk_31, sk_32, sk_33, sk_34, sk_35, sk_36, sk_37, sk_38, sk_39, sk_40, sk_41, sk_42, sk_43, sk_44, sk_45, sk_46, sk_47, sk_48, sk_49, sk_50, sk_51, sk_52, sk_53, sn_0, sn_1, sn_2, sn_3, sn_4, sn_5, sn_6, sn_7, sn_8, sn_9, sn_10, sn_11, sn_12, sn_13, sn_14, sn_15, sn_16, sn_17, sn_18, sn_19, sn_20, sn_21, sn_22, sn_23, sn_24, sn_25, sn_26, sn_27, sn_28, sn_29, sn_30, sn_31, sn_32, sn_33, sn_34, sn_35, sn_36, sn_37, sn_38, sn_39, sn_40, sn_41, sn_42, sn_43, sn_44, sn_45, sn_46, sn_47, sn_48, sn_49, sn_50, sn_51, sn_52, sn_53, rf_2_1, rf_2_2, rf_2_3, rf_2_4, rf_1_0, rf_1_1, rf_8_0, rf_7_0, rf_10_0, rf_7_1, rf_12_0, rf_7_2, rf_14_0, rf_7_3, rf_16_1, rf_16_2, rf_16_3, rf_16_4, rf_16_5, rf_16_6, rf_16_7, rf_1_2, rf_24_1, rf_24_2, rf_24_3, rf_24_4, rf_24_5, rf_24_6, rf_24_7, rf_1_3, rf_32_2, rf_32_3, rf_32_4, rf_32_5, rf_32_6, rf_32_7, rf_32_8, rf_32_9, rf_32_10, rf_32_12, rf_32_14, rf_32_15, rf_32_16, rf_32_18, rf_32_19, rf_32_21, rf_32_25, rf_32_26, rf_32_27, rf_32_28, rf_32_30, true_and, and_true, true_or, or_true, or_false, false_or, false_and, and_false, not_true, not_false_iff, ne_eq, and_self, eq_self, if_true, if_false, ite_true, ite_false, Nat.reduceLeDiff, Int.cast_ofNat_Int, Int.reduceLT, Int.reduceLE, Int.reduceEq, Int.reduceNeg, reduceCtorEq, jup_ap, Nat.reduceEqDiff, Nat.reduceAdd]
    clear e1 e2
    unfold pSt
    by_cases e : tx c (nc p) i = 10
    · rw [if_pos e, if_pos e]
      by_cases q : cnt + 1 = k
      · rw [if_neg (show ¬ (k - (cnt + 1) ≠ 0) by omega), if_pos q, show i + 1 - 1 = i by omega]
      · rw [if_pos (show k - (cnt + 1) ≠ 0 by omega), if_neg q, ih (i + 1) (cnt + 1) (by omega) (by omega) (by omega) (by omega)]
    · rw [if_neg e, if_neg e, ih (i + 1) cnt (by omega) (by omega) (by omega) (by omega)]
theorem w_M_startOf {c m : jM} {n : Nat} {p : Int} {N s : Nat} (h : CI c n) (hM : MB c m n) (hL : LkP c m n p N s) (L : Nat) (k : Int) (hk : k < 2147483648) (Q : jV → jG → jM → Prop) :
    wp 51 0 [jO (some 32), jI k, jU, jU] [] (g0 L) m Q = Q (jI (psP c p k - 1)) (g0 L) m := by
  obtain ⟨b1, b2, b3, b4, b5⟩ := hL.len
  unfold psP pSt0
  rw [b1]
  simp only [x_M_startOf_0, x_M_startOf_1, x_M_startOf_4, x_M_startOf_6, x_M_startOf_7, x_M_startOf_8, x_M_startOf_9, x_M_startOf_10]
  by_cases h0 : 0 ≤ k
  · rw [if_pos h0]
    by_cases hz : k = 0
    · rw [if_pos hz, x_M_startOf_11]
      simp only [x_M_startOf_12, x_M_startOf_13, x_M_startOf_16, x_M_startOf_19, x_M_startOf_20, x_M_startOf_57, x_M_startOf_58, x_M_startOf_61, x_M_startOf_62, x_M_startOf_67, b3, hz, Int.le_refl, ite_self, sk_0, sk_1, sk_2, sk_3, sk_4, sk_5, sk_6, sk_7, sk_8, sk_9, sk_10, sk_11, sk_12, sk_13, sk_14, sk_15, sk_16, sk_17, sk_18, sk_19, sk_20, sk_21, sk_22, sk_23, sk_24, sk_25, sk_26, sk_27, sk_28, sk_29, sk_30, sk_31, sk_32, sk_33, sk_34, sk_35, sk_36, sk_37, sk_38, sk_39, sk_40, sk_41, sk_42, sk_43, sk_44, sk_45, sk_46, sk_47, sk_48, sk_49, sk_50, sk_51, sk_52, sk_53, sn_0, sn_1, sn_2, sn_3, sn_4, sn_5, sn_6, sn_7, sn_8, sn_9, sn_10, sn_11, sn_12, sn_13, sn_14, sn_15, sn_16, sn_17, sn_18, sn_19, sn_20, sn_21, sn_22, sn_23, sn_24, sn_25, sn_26, sn_27, sn_28, sn_29, sn_30, sn_31, sn_32, sn_33, sn_34, sn_35, sn_36, sn_37, sn_38, sn_39, sn_40, sn_41, sn_42, sn_43, sn_44, sn_45, sn_46, sn_47, sn_48, sn_49, sn_50, sn_51, sn_52, sn_53, rf_2_1, rf_2_2, rf_2_3, rf_2_4, rf_1_0, rf_1_1, rf_8_0, rf_7_0, rf_10_0, rf_7_1, rf_12_0, rf_7_2, rf_14_0, rf_7_3, rf_16_1, rf_16_2, rf_16_3, rf_16_4, rf_16_5, rf_16_6, rf_16_7, rf_1_2, rf_24_1, rf_24_2, rf_24_3, rf_24_4, rf_24_5, rf_24_6, rf_24_7, rf_1_3, rf_32_2, rf_32_3, rf_32_4, rf_32_5, rf_32_6, rf_32_7, rf_32_8, rf_32_9, rf_32_10, rf_32_12, rf_32_14, rf_32_15, rf_32_16, rf_32_18, rf_32_19, rf_32_21, rf_32_25, rf_32_26, rf_32_27, rf_32_28, rf_32_30, true_and, and_true, true_or, or_true, or_false, false_or, false_and, and_false, not_true, not_false_iff, ne_eq, and_self, eq_self, if_true, if_false, ite_true, ite_false, Nat.reduceLeDiff, Int.cast_ofNat_Int, Int.reduceLT, Int.reduceLE, Int.reduceEq, Int.reduceNeg, reduceCtorEq, jup_ap, Nat.reduceEqDiff, Nat.reduceAdd]
      rfl
    · rw [if_neg hz]
      have := wl_M_start h hM hL L k hk Q s 0 0 (by omega) (by omega) (by omega) (by omega)
      rw [Int.sub_zero] at this
      exact this
  · rw [if_neg h0, if_neg (by omega), pSt_neg s 0 0 (by omega)]
    rfl
theorem wl_M_pars {c m : jM} {n : Nat} {p : Int} {N s : Nat} (h : CI c n) (hM : MB c m n) (hL : LkP c m n p N s) (L : Nat) (Q : jV → jG → jM → Prop) :
    ∀ (d : Nat) (i acc : Int), 0 ≤ i → i + d = (s : Int) → 0 ≤ acc → acc ≤ i + 1 → wp 71 4 [jO (some 32), jI acc, jI i] [] (g0 L) m Q = Q (jI (acc + sumI (fun i => b01 (tx c (nc p) i = 10)) i d)) (g0 L) m := by
  have hn := h.2.1
  obtain ⟨b1, b2, b3, b4, b5⟩ := hL.len
  intro d
  induction d with
  | zero =>
    intro i acc i1 i2 a1 a2
    have hle : (s : Int) ≤ i := by omega
    rw [x_M_paragraphs_4]
    simp only [x_M_paragraphs_5, x_M_paragraphs_6, x_M_paragraphs_9, x_M_paragraphs_42, x_M_paragraphs_43, b3, hle, sk_0, sk_1, sk_2, sk_3, sk_4, sk_5, sk_6, sk_7, sk_8, sk_9, sk_10, sk_11, sk_12, sk_13, sk_14, sk_15, sk_16, sk_17, sk_18, sk_19, sk_20, sk_21, sk_22, sk_23, sk_24, sk_25, sk_26, sk_27, sk_28, sk_29, sk_30, sk_31, sk_32, sk_33, sk_34, sk_35, sk_36, sk_37, sk_38, sk_39, sk_40, sk_41, sk_42, sk_43, sk_44, sk_45, sk_46, sk_47, sk_48, sk_49, sk_50, sk_51, sk_52, sk_53, sn_0, sn_1, sn_2, sn_3, sn_4, sn_5, sn_6, sn_7, sn_8, sn_9, sn_10, sn_11, sn_12, sn_13, sn_14, sn_15, sn_16, sn_17, sn_18, sn_19, sn_20, sn_21, sn_22, sn_23, sn_24, sn_25, sn_26, sn_27, sn_28, sn_29, sn_30, sn_31, sn_32, sn_33, sn_34, sn_35, sn_36, sn_37, sn_38, sn_39, sn_40, sn_41, sn_42, sn_43, sn_44, sn_45, sn_46, sn_47, sn_48, sn_49, sn_50, sn_51, sn_52, sn_53, rf_2_1, rf_2_2, rf_2_3, rf_2_4, rf_1_0, rf_1_1, rf_8_0, rf_7_0, rf_10_0, rf_7_1, rf_12_0, rf_7_2, rf_14_0, rf_7_3, rf_16_1, rf_16_2, rf_16_3, rf_16_4, rf_16_5, rf_16_6, rf_16_7, rf_1_2, rf_24_1, rf_24_2, rf_24_3, rf_24_4, rf_24_5, rf_24_6, rf_24_7, rf_1_3, rf_32_2, rf_32_3, rf_32_4, rf_32_5, rf_32_6, rf_32_7, rf_32_8, rf_32_9, rf_32_10, rf_32_12, rf_32_14, rf_32_15, rf_32_16, rf_32_18, rf_32_19, rf_32_21, rf_32_25, rf_32_26, rf_32_27, rf_32_28, rf_32_30, true_and, and_true, true_or, or_true, or_false, false_or, false_and, and_false, not_true, not_false_iff, ne_eq, and_self, eq_self, if_true, if_false, ite_true, ite_false, Nat.reduceLeDiff, Int.cast_ofNat_Int, Int.reduceLT, Int.reduceLE, Int.reduceEq, Int.reduceNeg, reduceCtorEq, jup_ap, Nat.reduceEqDiff, Nat.reduceAdd]
    simp [sumI]
  | succ d ih =>
    intro i acc i1 i2 a1 a2
    have hle : ¬ (s : Int) ≤ i := by omega
    have ha := hL.at h hM (i := i) (by omega)
    have hb : 0 ≤ i ∧ i < 251 := by omega
    have hb2 : 0 ≤ m 46 i ∧ m 46 i < 251 := by omega
    have e1 : jwr (i + 1) = i + 1 := jw1 (by omega) (by omega)
    have e2 : jwr (acc + 1) = acc + 1 := jw1 (by omega) (by omega)
    have e3 : jwr (acc + 0) = acc + 0 := jw1 (by omega) (by omega)
    have et : m 36 (m 46 i) = tx c (nc p) i := ha.2.1 0
    rw [x_M_paragraphs_4]
    simp only [x_M_paragraphs_0, x_M_paragraphs_1, x_M_paragraphs_2, x_M_paragraphs_3, x_M_paragraphs_5, x_M_paragraphs_6, x_M_paragraphs_9, x_M_paragraphs_12, x_M_paragraphs_13, x_M_paragraphs_14, x_M_paragraphs_17, x_M_paragraphs_18, x_M_paragraphs_21, x_M_paragraphs_22, x_M_paragraphs_23, x_M_paragraphs_24, x_M_paragraphs_26, x_M_paragraphs_29, x_M_paragraphs_30, x_M_paragraphs_33, x_M_paragraphs_34, x_M_paragraphs_35, x_M_paragraphs_36, x_M_paragraphs_39, x_M_paragraphs_42, x_M_paragraphs_43, b3, hle, hb, hb2, et, e1, e2, e3, sk_0, sk_1, sk_2, sk_3, sk_4, sk_5, sk_6, sk_7, sk_8, sk_9, sk_10, sk_11, sk_12, sk_13, sk_14, sk_15, sk_16, sk_17, sk_18, sk_19, sk_20, sk_21, sk_22, sk_23, sk_24, sk_25, sk_26, sk_27, sk_28, sk_29, sk_30, sk_31, sk_32, sk_33, sk_34, sk_35, sk_36, sk_37, sk_38, sk_39, sk_40, sk_41, sk_42, sk_43, sk_44, sk_45, sk_46, sk_47, sk_48, sk_49, sk_50, sk_51, sk_52, sk_53, sn_0, sn_1, sn_2, sn_3, sn_4, sn_5, sn_6, sn_7, sn_8, sn_9, sn_10, sn_11, sn_12, sn_13, sn_14, sn_15, sn_16, sn_17, sn_18, sn_19, sn_20, sn_21, sn_22, sn_23, sn_24, sn_25, sn_26, sn_27, sn_28, sn_29, sn_30, sn_31, sn_32, sn_33, sn_34, sn_35, sn_36, sn_37, sn_38, sn_39, sn_40, sn_41, sn_42, sn_43, sn_44, sn_45, sn_46, sn_47, sn_48, sn_49, sn_50, sn_51, sn_52, sn_53, rf_2_1, rf_2_2, rf_2_3, rf_2_4, rf_1_0, rf_1_1, rf_8_0, rf_7_0, rf_10_0, rf_7_1, rf_12_0, rf_7_2, rf_14_0, rf_7_3, rf_16_1, rf_16_2, rf_16_3, rf_16_4, rf_16_5, rf_16_6, rf_16_7, rf_1_2, rf_24_1, rf_24_2, rf_24_3, rf_24_4, rf_24_5, rf_24_6, rf_24_7, rf_1_3, rf_32_2, rf_32_3, rf_32_4, rf_32_5, rf_32_6, rf_32_7, rf_32_8, rf_32_9, rf_32_10, rf_32_12, rf_32_14, rf_32_15, rf_32_16, rf_32_18, rf_32_19, rf_32_21, rf_32_25, rf_32_26, rf_32_27, rf_32_28, rf_32_30, true_and, and_true, true_or, or_true, or_false, false_or, false_and, and_false, not_true, not_false_iff, ne_eq, and_self, eq_self, if_true, if_false, ite_true, ite_false, Nat.reduceLeDiff, Int.cast_ofNat_Int, Int.reduceLT, Int.reduceLE, Int.reduceEq, Int.reduceNeg, reduceCtorEq, jup_ap, Nat.reduceEqDiff, Nat.reduceAdd]
    show _ = Q (jI (acc + (b01 (tx c (nc p) i = 10) + sumI (fun i => b01 (tx c (nc p) i = 10)) (i + 1) d))) (g0 L) m
    by_cases e : tx c (nc p) i = 10
    · rw [if_neg (fun q => q e), b01_1 e, ih (i + 1) (acc + 1) (by omega) (by omega) (by omega) (by omega), Int.add_assoc]
    · rw [if_pos e, b01_n e, ih (i + 1) (acc + 0) (by omega) (by omega) (by omega) (by omega), Int.add_assoc]
theorem w_M_paragraphs {c m : jM} {n : Nat} {p : Int} {N s : Nat} (h : CI c n) (hM : MB c m n) (hL : LkP c m n p N s) (L : Nat) (Q : jV → jG → jM → Prop) :
    wp 71 0 [jO (some 32), jU, jU] [] (g0 L) m Q = Q (jI (1 + sumI (fun i => b01 (tx c (nc p) i = 10)) 0 s)) (g0 L) m := by
  simp only [x_M_paragraphs_0, x_M_paragraphs_1, x_M_paragraphs_2, x_M_paragraphs_3]
  exact wl_M_pars h hM hL L Q s 0 1 (by omega) (by omega) (by omega) (by omega)
theorem wl_M_units {c m : jM} {n : Nat} {p : Int} {N s : Nat} (h : CI c n) (hM : MB c m n) (hL : LkP c m n p N s) (L : Nat) (Q : jV → jG → jM → Prop) :
    ∀ (d : Nat) (i acc : Int), 0 ≤ i → i + d = (s : Int) → 0 ≤ acc → acc ≤ 2 * i → wp 75 4 [jO (some 32), jI acc, jI i] [] (g0 L) m Q = Q (jI (acc + sumI (fun i => wid (tx c (nc p) i)) i d)) (g0 L) m := by
  have hn := h.2.1
  obtain ⟨b1, b2, b3, b4, b5⟩ := hL.len
  intro d
  induction d with
  | zero =>
    intro i acc i1 i2 a1 a2
    have hle : (s : Int) ≤ i := by omega
    rw [x_M_units_4]
    simp only [x_M_units_5, x_M_units_6, x_M_units_9, x_M_units_42, x_M_units_43, b3, hle, sk_0, sk_1, sk_2, sk_3, sk_4, sk_5, sk_6, sk_7, sk_8, sk_9, sk_10, sk_11, sk_12, sk_13, sk_14, sk_15, sk_16, sk_17, sk_18, sk_19, sk_20, sk_21, sk_22, sk_23, sk_24, sk_25, sk_26, sk_27, sk_28, sk_29, sk_30, sk_31, sk_32, sk_33, sk_34, sk_35, sk_36, sk_37, sk_38, sk_39, sk_40, sk_41, sk_42, sk_43, sk_44, sk_45, sk_46, sk_47, sk_48, sk_49, sk_50, sk_51, sk_52, sk_53, sn_0, sn_1, sn_2, sn_3, sn_4, sn_5, sn_6, sn_7, sn_8, sn_9, sn_10, sn_11, sn_12, sn_13, sn_14, sn_15, sn_16, sn_17, sn_18, sn_19, sn_20, sn_21, sn_22, sn_23, sn_24, sn_25, sn_26, sn_27, sn_28, sn_29, sn_30, sn_31, sn_32, sn_33, sn_34, sn_35, sn_36, sn_37, sn_38, sn_39, sn_40, sn_41, sn_42, sn_43, sn_44, sn_45, sn_46, sn_47, sn_48, sn_49, sn_50, sn_51, sn_52, sn_53, rf_2_1, rf_2_2, rf_2_3, rf_2_4, rf_1_0, rf_1_1, rf_8_0, rf_7_0, rf_10_0, rf_7_1, rf_12_0, rf_7_2, rf_14_0, rf_7_3, rf_16_1, rf_16_2, rf_16_3, rf_16_4, rf_16_5, rf_16_6, rf_16_7, rf_1_2, rf_24_1, rf_24_2, rf_24_3, rf_24_4, rf_24_5, rf_24_6, rf_24_7, rf_1_3, rf_32_2, rf_32_3, rf_32_4, rf_32_5, rf_32_6, rf_32_7, rf_32_8, rf_32_9, rf_32_10, rf_32_12, rf_32_14, rf_32_15, rf_32_16, rf_32_18, rf_32_19, rf_32_21, rf_32_25, rf_32_26, rf_32_27, rf_32_28, rf_32_30, true_and, and_true, true_or, or_true, or_false, false_or, false_and, and_false, not_true, not_false_iff, ne_eq, and_self, eq_self, if_true, if_false, ite_true, ite_false, Nat.reduceLeDiff, Int.cast_ofNat_Int, Int.reduceLT, Int.reduceLE, Int.reduceEq, Int.reduceNeg, reduceCtorEq, jup_ap, Nat.reduceEqDiff, Nat.reduceAdd]
    simp [sumI]
  | succ d ih =>
    intro i acc i1 i2 a1 a2
    have hle : ¬ (s : Int) ≤ i := by omega
    have ha := hL.at h hM (i := i) (by omega)
    have hb : 0 ≤ i ∧ i < 251 := by omega
    have hb2 : 0 ≤ m 46 i ∧ m 46 i < 251 := by omega
    have e1 : jwr (i + 1) = i + 1 := jw1 (by omega) (by omega)
    have e2 : jwr (acc + 1) = acc + 1 := jw1 (by omega) (by omega)
    have e3 : jwr (acc + 2) = acc + 2 := jw1 (by omega) (by omega)
    have et : m 36 (m 46 i) = tx c (nc p) i := ha.2.1 0
    rw [x_M_units_4]
    simp only [x_M_units_0, x_M_units_1, x_M_units_2, x_M_units_3, x_M_units_5, x_M_units_6, x_M_units_9, x_M_units_12, x_M_units_13, x_M_units_14, x_M_units_17, x_M_units_18, x_M_units_21, x_M_units_22, x_M_units_23, x_M_units_24, x_M_units_26, x_M_units_29, x_M_units_30, x_M_units_33, x_M_units_34, x_M_units_35, x_M_units_36, x_M_units_39, x_M_units_42, x_M_units_43, b3, hle, hb, hb2, et, e1, e2, e3, sk_0, sk_1, sk_2, sk_3, sk_4, sk_5, sk_6, sk_7, sk_8, sk_9, sk_10, sk_11, sk_12, sk_13, sk_14, sk_15, sk_16, sk_17, sk_18, sk_19, sk_20, sk_21, sk_22, sk_23, sk_24, sk_25, sk_26, sk_27, sk_28, sk_29, sk_30, sk_31, sk_32, sk_33, sk_34, sk_35, sk_36, sk_37, sk_38, sk_39, sk_40, sk_41, sk_42, sk_43, sk_44, sk_45, sk_46, sk_47, sk_48, sk_49, sk_50, sk_51, sk_52, sk_53, sn_0, sn_1, sn_2, sn_3, sn_4, sn_5, sn_6, sn_7, sn_8, sn_9, sn_10, sn_11, sn_12, sn_13, sn_14, sn_15, sn_16, sn_17, sn_18, sn_19, sn_20, sn_21, sn_22, sn_23, sn_24, sn_25, sn_26, sn_27, sn_28, sn_29, sn_30, sn_31, sn_32, sn_33, sn_34, sn_35, sn_36, sn_37, sn_38, sn_39, sn_40, sn_41, sn_42, sn_43, sn_44, sn_45, sn_46, sn_47, sn_48, sn_49, sn_50, sn_51, sn_52, sn_53, rf_2_1, rf_2_2, rf_2_3, rf_2_4, rf_1_0, rf_1_1, rf_8_0, rf_7_0, rf_10_0, rf_7_1, rf_12_0, rf_7_2, rf_14_0, rf_7_3, rf_16_1, rf_16_2, rf_16_3, rf_16_4, rf_16_5, rf_16_6, rf_16_7, rf_1_2, rf_24_1, rf_24_2, rf_24_3, rf_24_4, rf_24_5, rf_24_6, rf_24_7, rf_1_3, rf_32_2, rf_32_3, rf_32_4, rf_32_5, rf_32_6, rf_32_7, rf_32_8, rf_32_9, rf_32_10, rf_32_12, rf_32_14, rf_32_15, rf_32_16, rf_32_18, rf_32_19, rf_32_21, rf_32_25, rf_32_26, rf_32_27, rf_32_28, rf_32_30, true_and, and_true, true_or, or_true, or_false, false_or, false_and, and_false, not_true, not_false_iff, ne_eq, and_self, eq_self, if_true, if_false, ite_true, ite_false, Nat.reduceLeDiff, Int.cast_ofNat_Int, Int.reduceLT, Int.reduceLE, Int.reduceEq, Int.reduceNeg, reduceCtorEq, jup_ap, Nat.reduceEqDiff, Nat.reduceAdd]
    show _ = Q (jI (acc + (wid (tx c (nc p) i) + sumI (fun i => wid (tx c (nc p) i)) (i + 1) d))) (g0 L) m
    unfold wid
    by_cases e : tx c (nc p) i ≤ 65535
    · rw [if_pos e, if_neg (show ¬ 65536 ≤ tx c (nc p) i by omega), ih (i + 1) (acc + 1) (by omega) (by omega) (by omega) (by omega), Int.add_assoc]
      rfl
    · rw [if_neg e, if_pos (show 65536 ≤ tx c (nc p) i by omega), ih (i + 1) (acc + 2) (by omega) (by omega) (by omega) (by omega), Int.add_assoc]
      rfl
theorem w_M_units {c m : jM} {n : Nat} {p : Int} {N s : Nat} (h : CI c n) (hM : MB c m n) (hL : LkP c m n p N s) (L : Nat) (Q : jV → jG → jM → Prop) :
    wp 75 0 [jO (some 32), jU, jU] [] (g0 L) m Q = Q (jI (sumI (fun i => wid (tx c (nc p) i)) 0 s)) (g0 L) m := by
  simp only [x_M_units_0, x_M_units_1, x_M_units_2, x_M_units_3]
  rw [wl_M_units h hM hL L Q s 0 0 (by omega) (by omega) (by omega) (by omega), Int.zero_add]
theorem wl_M_known {c m : jM} {n : Nat} {p : Int} (h : CI c n) (hM : MB c m n) (hp : 0 ≤ p ∧ p < 4) (L : Nat) (Q : jV → jG → jM → Prop) :
    ∀ (d : Nat) (i acc : Int), 1 ≤ i → i + d = (n : Int) + 1 → 0 ≤ acc → acc ≤ i → wp 76 4 [jO (some 32), jI p, jI acc, jI i] [] (g0 L) m Q = Q (jI (acc + sumI (fun r => b2i (kb c (nc p) r)) i d)) (g0 L) m := by
  have hn := h.2.1
  have h1 := hM.1
  intro d
  induction d with
  | zero =>
    intro i acc i1 i2 a1 a2
    have hle : (n : Int) < i := by omega
    rw [x_M_knownRows_4]
    simp only [x_M_knownRows_5, x_M_knownRows_6, x_M_knownRows_9, x_M_knownRows_35, x_M_knownRows_36, h1, hle, sk_0, sk_1, sk_2, sk_3, sk_4, sk_5, sk_6, sk_7, sk_8, sk_9, sk_10, sk_11, sk_12, sk_13, sk_14, sk_15, sk_16, sk_17, sk_18, sk_19, sk_20, sk_21, sk_22, sk_23, sk_24, sk_25, sk_26, sk_27, sk_28, sk_29, sk_30, sk_31, sk_32, sk_33, sk_34, sk_35, sk_36, sk_37, sk_38, sk_39, sk_40, sk_41, sk_42, sk_43, sk_44, sk_45, sk_46, sk_47, sk_48, sk_49, sk_50, sk_51, sk_52, sk_53, sn_0, sn_1, sn_2, sn_3, sn_4, sn_5, sn_6, sn_7, sn_8, sn_9, sn_10, sn_11, sn_12, sn_13, sn_14, sn_15, sn_16, sn_17, sn_18, sn_19, sn_20, sn_21, sn_22, sn_23, sn_24, sn_25, sn_26, sn_27, sn_28, sn_29, sn_30, sn_31, sn_32, sn_33, sn_34, sn_35, sn_36, sn_37, sn_38, sn_39, sn_40, sn_41, sn_42, sn_43, sn_44, sn_45, sn_46, sn_47, sn_48, sn_49, sn_50, sn_51, sn_52, sn_53, rf_2_1, rf_2_2, rf_2_3, rf_2_4, rf_1_0, rf_1_1, rf_8_0, rf_7_0, rf_10_0, rf_7_1, rf_12_0, rf_7_2, rf_14_0, rf_7_3, rf_16_1, rf_16_2, rf_16_3, rf_16_4, rf_16_5, rf_16_6, rf_16_7, rf_1_2, rf_24_1, rf_24_2, rf_24_3, rf_24_4, rf_24_5, rf_24_6, rf_24_7, rf_1_3, rf_32_2, rf_32_3, rf_32_4, rf_32_5, rf_32_6, rf_32_7, rf_32_8, rf_32_9, rf_32_10, rf_32_12, rf_32_14, rf_32_15, rf_32_16, rf_32_18, rf_32_19, rf_32_21, rf_32_25, rf_32_26, rf_32_27, rf_32_28, rf_32_30, true_and, and_true, true_or, or_true, or_false, false_or, false_and, and_false, not_true, not_false_iff, ne_eq, and_self, eq_self, if_true, if_false, ite_true, ite_false, Nat.reduceLeDiff, Int.cast_ofNat_Int, Int.reduceLT, Int.reduceLE, Int.reduceEq, Int.reduceNeg, reduceCtorEq, jup_ap, Nat.reduceEqDiff, Nat.reduceAdd]
    simp [sumI]
  | succ d ih =>
    intro i acc i1 i2 a1 a2
    have hle : ¬ (n : Int) < i := by omega
    have hb : 0 ≤ i ∧ i < 251 := by omega
    have e1 : jwr (i + 1) = i + 1 := jw1 (by omega) (by omega)
    have e2 : jwr (acc + 1) = acc + 1 := jw1 (by omega) (by omega)
    have e3 : jwr (acc + 0) = acc + 0 := jw1 (by omega) (by omega)
    rw [x_M_knownRows_4]
    simp only [x_M_knownRows_0, x_M_knownRows_1, x_M_knownRows_2, x_M_knownRows_3, x_M_knownRows_5, x_M_knownRows_6, x_M_knownRows_9, x_M_knownRows_12, x_M_knownRows_13, x_M_knownRows_14, x_M_knownRows_15, x_M_knownRows_16, x_M_knownRows_19, x_M_knownRows_22, x_M_knownRows_23, x_M_knownRows_26, x_M_knownRows_27, x_M_knownRows_28, x_M_knownRows_29, x_M_knownRows_32, x_M_knownRows_35, x_M_knownRows_36, h1, hle, w_M_kr h hM L hp hb, b2i_0, e1, e2, e3, sk_0, sk_1, sk_2, sk_3, sk_4, sk_5, sk_6, sk_7, sk_8, sk_9, sk_10, sk_11, sk_12, sk_13, sk_14, sk_15, sk_16, sk_17, sk_18, sk_19, sk_20, sk_21, sk_22, sk_23, sk_24, sk_25, sk_26, sk_27, sk_28, sk_29, sk_30, sk_31, sk_32, sk_33, sk_34, sk_35, sk_36, sk_37, sk_38, sk_39, sk_40, sk_41, sk_42, sk_43, sk_44, sk_45, sk_46, sk_47, sk_48, sk_49, sk_50, sk_51, sk_52, sk_53, sn_0, sn_1, sn_2, sn_3, sn_4, sn_5, sn_6, sn_7, sn_8, sn_9, sn_10, sn_11, sn_12, sn_13, sn_14, sn_15, sn_16, sn_17, sn_18, sn_19, sn_20, sn_21, sn_22, sn_23, sn_24, sn_25, sn_26, sn_27, sn_28, sn_29, sn_30, sn_31, sn_32, sn_33, sn_34, sn_35, sn_36, sn_37, sn_38, sn_39, sn_40, sn_41, sn_42, sn_43, sn_44, sn_45, sn_46, sn_47, sn_48, sn_49, sn_50, sn_51, sn_52, sn_53, rf_2_1, rf_2_2, rf_2_3, rf_2_4, rf_1_0, rf_1_1, rf_8_0, rf_7_0, rf_10_0, rf_7_1, rf_12_0, rf_7_2, rf_14_0, rf_7_3, rf_16_1, rf_16_2, rf_16_3, rf_16_4, rf_16_5, rf_16_6, rf_16_7, rf_1_2, rf_24_1, rf_24_2, rf_24_3, rf_24_4, rf_24_5, rf_24_6, rf_24_7, rf_1_3, rf_32_2, rf_32_3, rf_32_4, rf_32_5, rf_32_6, rf_32_7, rf_32_8, rf_32_9, rf_32_10, rf_32_12, rf_32_14, rf_32_15, rf_32_16, rf_32_18, rf_32_19, rf_32_21, rf_32_25, rf_32_26, rf_32_27, rf_32_28, rf_32_30, true_and, and_true, true_or, or_true, or_false, false_or, false_and, and_false, not_true, not_false_iff, ne_eq, and_self, eq_self, if_true, if_false, ite_true, ite_false, Nat.reduceLeDiff, Int.cast_ofNat_Int, Int.reduceLT, Int.reduceLE, Int.reduceEq, Int.reduceNeg, reduceCtorEq, jup_ap, Nat.reduceEqDiff, Nat.reduceAdd]
    show _ = Q (jI (acc + (b2i (kb c (nc p) i) + sumI (fun r => b2i (kb c (nc p) r)) (i + 1) d))) (g0 L) m
    cases e : kb c (nc p) i
    · simp only [true_and, and_true, true_or, or_true, or_false, false_or, false_and, and_false, not_true, not_false_iff, ne_eq, and_self, eq_self, if_true, if_false, ite_true, ite_false, Nat.reduceLeDiff, Int.cast_ofNat_Int, Int.reduceLT, Int.reduceLE, Int.reduceEq, Int.reduceNeg, reduceCtorEq, jup_ap, Nat.reduceEqDiff, Nat.reduceAdd]
      rw [ih (i + 1) (acc + 0) (by omega) (by omega) (by omega) (by omega), Int.add_assoc]
      rfl
    · simp only [true_and, and_true, true_or, or_true, or_false, false_or, false_and, and_false, not_true, not_false_iff, ne_eq, and_self, eq_self, if_true, if_false, ite_true, ite_false, Nat.reduceLeDiff, Int.cast_ofNat_Int, Int.reduceLT, Int.reduceLE, Int.reduceEq, Int.reduceNeg, reduceCtorEq, jup_ap, Nat.reduceEqDiff, Nat.reduceAdd, Bool.true_eq_false]
      rw [ih (i + 1) (acc + 1) (by omega) (by omega) (by omega) (by omega), Int.add_assoc]
      rfl
theorem w_M_knownRows {c m : jM} {n : Nat} {p : Int} (h : CI c n) (hM : MB c m n) (hp : 0 ≤ p ∧ p < 4) (L : Nat) (Q : jV → jG → jM → Prop) :
    wp 76 0 [jO (some 32), jI p, jU, jU] [] (g0 L) m Q = Q (jI (c (nc p) 1)) (g0 L) m := by
  simp only [x_M_knownRows_0, x_M_knownRows_1, x_M_knownRows_2, x_M_knownRows_3]
  rw [wl_M_known h hM hp L Q n 1 0 (by omega) (by omega) (by omega) (by omega), Int.zero_add, (h.2.2.2.2.2.2.2.2.2 p hp.1 hp.2).2.2.2.2.1]
  rfl
theorem wl_M_pe {c m : jM} {n : Nat} {p : Int} {N s : Nat} (h : CI c n) (hM : MB c m n) (hL : LkP c m n p N s) (L : Nat) (p' k w i : Int) (h0 : 0 ≤ i + 1) (Q : jV → jG → jM → Prop) :
    ∀ (d : Nat) (t : Int), i + 1 ≤ t → t + d = (s : Int) → wp 69 38 [jO (some 32), jI p', jI k, jI w, jI i, jI (t - (i + 1))] [] (g0 L) m Q = wp 69 80 [jO (some 32), jI p', jI k, jI w, jI i, jI (pE (tx c (nc p)) t d - (i + 1))] [] (g0 L) m Q := by
  have hn := h.2.1
  obtain ⟨b1, b2, b3, b4, b5⟩ := hL.len
  intro d
  induction d with
  | zero =>
    intro t t1 t2
    have hle : (s : Int) ≤ t := by omega
    rw [x_M_paragraph_38]
    simp only [x_M_paragraph_40, x_M_paragraph_41, x_M_paragraph_42, x_M_paragraph_44, x_M_paragraph_45, x_M_paragraph_46, x_M_paragraph_49, b3, show jwr (i + 1) = i + 1 from jw1 (by omega) (by omega), show jwr (i + 1 + (t - (i + 1))) = t from (jw1 (by omega) (by omega)).trans (by omega), hle, sk_0, sk_1, sk_2, sk_3, sk_4, sk_5, sk_6, sk_7, sk_8, sk_9, sk_10, sk_11, sk_12, sk_13, sk_14, sk_15, sk_16, sk_17, sk_18, sk_19, sk_20, sk_21, sk_22, sk_23, sk_24, sk_25, sk_26, sk_27, sk_28, sk_29, sk_30, sk_31, sk_32, sk_33, sk_34, sk_35, sk_36, sk_37, sk_38, sk_39, sk_40, sk_41, sk_42, sk_43, sk_44, sk_45, sk_46, sk_47, sk_48, sk_49, sk_50, sk_51, sk_52, sk_53, sn_0, sn_1, sn_2, sn_3, sn_4, sn_5, sn_6, sn_7, sn_8, sn_9, sn_10, sn_11, sn_12, sn_13, sn_14, sn_15, sn_16, sn_17, sn_18, sn_19, sn_20, sn_21, sn_22, sn_23, sn_24, sn_25, sn_26, sn_27, sn_28, sn_29, sn_30, sn_31, sn_32, sn_33, sn_34, sn_35, sn_36, sn_37, sn_38, sn_39, sn_40, sn_41, sn_42, sn_43, sn_44, sn_45, sn_46, sn_47, sn_48, sn_49, sn_50, sn_51, sn_52, sn_53, rf_2_1, rf_2_2, rf_2_3, rf_2_4, rf_1_0, rf_1_1, rf_8_0, rf_7_0, rf_10_0, rf_7_1, rf_12_0, rf_7_2, rf_14_0, rf_7_3, rf_16_1, rf_16_2, rf_16_3, rf_16_4, rf_16_5, rf_16_6, rf_16_7, rf_1_2, rf_24_1, rf_24_2, rf_24_3, rf_24_4, rf_24_5, rf_24_6, rf_24_7, rf_1_3, rf_32_2, rf_32_3, rf_32_4, rf_32_5, rf_32_6, rf_32_7, rf_32_8, rf_32_9, rf_32_10, rf_32_12, rf_32_14, rf_32_15, rf_32_16, rf_32_18, rf_32_19, rf_32_21, rf_32_25, rf_32_26, rf_32_27, rf_32_28, rf_32_30, true_and, and_true, true_or, or_true, or_false, false_or, false_and, and_false, not_true, not_false_iff, ne_eq, and_self, eq_self, if_true, if_false, ite_true, ite_false, Nat.reduceLeDiff, Int.cast_ofNat_Int, Int.reduceLT, Int.reduceLE, Int.reduceEq, Int.reduceNeg, reduceCtorEq, jup_ap, Nat.reduceEqDiff, Nat.reduceAdd]
    rfl
  | succ d ih =>
    intro t t1 t2
    have hle : ¬ (s : Int) ≤ t := by omega
    have ha := hL.at h hM (i := t) (by omega)
    have hb : 0 ≤ t ∧ t < 251 := by omega
    have hb2 : 0 ≤ m 46 t ∧ m 46 t < 251 := by omega
    have et : m 36 (m 46 t) = tx c (nc p) t := ha.2.1 0
    rw [x_M_paragraph_38]
    simp only [x_M_paragraph_40, x_M_paragraph_41, x_M_paragraph_42, x_M_paragraph_44, x_M_paragraph_45, x_M_paragraph_46, x_M_paragraph_49, x_M_paragraph_52, x_M_paragraph_53, x_M_paragraph_56, x_M_paragraph_57, x_M_paragraph_60, x_M_paragraph_62, x_M_paragraph_63, x_M_paragraph_64, x_M_paragraph_66, x_M_paragraph_67, x_M_paragraph_68, x_M_paragraph_69, x_M_paragraph_71, x_M_paragraph_74, x_M_paragraph_77, b3, et, hle, hb, hb2, show jwr (i + 1) = i + 1 from jw1 (by omega) (by omega), show jwr (i + 1 + (t - (i + 1))) = t from (jw1 (by omega) (by omega)).trans (by omega), show jwr (t - (i + 1) + 1) = t + 1 - (i + 1) from (jw1 (by omega) (by omega)).trans (by omega), sk_0, sk_1, sk_2, sk_3, sk_4, sk_5, sk_6, sk_7, sk_8, sk_9, sk_10, sk_11, sk_12, sk_13, sk_14, sk_15, sk_16, sk_17, sk_18, sk_19, sk_20, sk_21, sk_22, sk_23, sk_24, sk_25, sk_26, sk_27, sk_28, sk_29, sk_30, sk_31, sk_32, sk_33, sk_34, sk_35, sk_36, sk_37, sk_38, sk_39, sk_40, sk_41, sk_42, sk_43, sk_44, sk_45, sk_46, sk_47, sk_48, sk_49, sk_50, sk_51, sk_52, sk_53, sn_0, sn_1, sn_2, sn_3, sn_4, sn_5, sn_6, sn_7, sn_8, sn_9, sn_10, sn_11, sn_12, sn_13, sn_14, sn_15, sn_16, sn_17, sn_18, sn_19, sn_20, sn_21, sn_22, sn_23, sn_24, sn_25, sn_26, sn_27, sn_28, sn_29, sn_30, sn_31, sn_32, sn_33, sn_34, sn_35, sn_36, sn_37, sn_38, sn_39, sn_40, sn_41, sn_42, sn_43, sn_44, sn_45, sn_46, sn_47, sn_48, sn_49, sn_50, sn_51, sn_52, sn_53, rf_2_1, rf_2_2, rf_2_3, rf_2_4, rf_1_0, rf_1_1, rf_8_0, rf_7_0, rf_10_0, rf_7_1, rf_12_0, rf_7_2, rf_14_0, rf_7_3, rf_16_1, rf_16_2, rf_16_3, rf_16_4, rf_16_5, rf_16_6, rf_16_7, rf_1_2, rf_24_1, rf_24_2, rf_24_3, rf_24_4, rf_24_5, rf_24_6, rf_24_7, rf_1_3, rf_32_2, rf_32_3, rf_32_4, rf_32_5, rf_32_6, rf_32_7, rf_32_8, rf_32_9, rf_32_10, rf_32_12, rf_32_14, rf_32_15, rf_32_16, rf_32_18, rf_32_19, rf_32_21, rf_32_25, rf_32_26, rf_32_27, rf_32_28, rf_32_30, true_and, and_true, true_or, or_true, or_false, false_or, false_and, and_false, not_true, not_false_iff, ne_eq, and_self, eq_self, if_true, if_false, ite_true, ite_false, Nat.reduceLeDiff, Int.cast_ofNat_Int, Int.reduceLT, Int.reduceLE, Int.reduceEq, Int.reduceNeg, reduceCtorEq, jup_ap, Nat.reduceEqDiff, Nat.reduceAdd]
    unfold pE
    by_cases e : tx c (nc p) t = 10
    · rw [if_pos e, if_pos e]
    · rw [if_neg e, if_neg e, ih (t + 1) (by omega) (by omega)]
theorem w_M_paragraph {c m : jM} {n : Nat} (h : CI c n) (hI : MI c m n) (L : Nat) (p k w : Int) (hk : k < 2147483648) (Q : jV → jG → jM → Prop) (h0 : ¬ ((0 ≤ p ∧ p < 4) ∧ psP c p k ≠ -1) → ∀ m', MK m m' → MI c m' n → Q (jI (-1)) (g0 L) m')
    (hQ : ((0 ≤ p ∧ p < 4) ∧ psP c p k ≠ -1) → ∀ m', MK m m' → MI c m' n → Q (jI (parA c n p k w)) (g0 L) m') : wp 69 0 [jO (some 32), jI p, jI k, jI w, jU, jU] [] (g0 L) m Q := by
  have hn := h.2.1
  have hK0 : MK m (jup m 32 0 0) := MK.rf.upf (by decide)
  simp only [x_M_paragraph_0, x_M_paragraph_1, x_M_paragraph_2, x_M_paragraph_5, x_M_paragraph_6, x_M_paragraph_9, x_M_paragraph_12, x_M_paragraph_13, x_M_paragraph_14, x_M_paragraph_15, x_M_paragraph_16, w_M_isNode, b01_0, sk_0, sk_1, sk_2, sk_3, sk_4, sk_5, sk_6, sk_7, sk_8, sk_9, sk_10, sk_11, sk_12, sk_13, sk_14, sk_15, sk_16, sk_17, sk_18, sk_19, sk_20, sk_21, sk_22, sk_23, sk_24, sk_25, sk_26, sk_27, sk_28, sk_29, sk_30, sk_31, sk_32, sk_33, sk_34, sk_35, sk_36, sk_37, sk_38, sk_39, sk_40, sk_41, sk_42, sk_43, sk_44, sk_45, sk_46, sk_47, sk_48, sk_49, sk_50, sk_51, sk_52, sk_53, sn_0, sn_1, sn_2, sn_3, sn_4, sn_5, sn_6, sn_7, sn_8, sn_9, sn_10, sn_11, sn_12, sn_13, sn_14, sn_15, sn_16, sn_17, sn_18, sn_19, sn_20, sn_21, sn_22, sn_23, sn_24, sn_25, sn_26, sn_27, sn_28, sn_29, sn_30, sn_31, sn_32, sn_33, sn_34, sn_35, sn_36, sn_37, sn_38, sn_39, sn_40, sn_41, sn_42, sn_43, sn_44, sn_45, sn_46, sn_47, sn_48, sn_49, sn_50, sn_51, sn_52, sn_53, rf_2_1, rf_2_2, rf_2_3, rf_2_4, rf_1_0, rf_1_1, rf_8_0, rf_7_0, rf_10_0, rf_7_1, rf_12_0, rf_7_2, rf_14_0, rf_7_3, rf_16_1, rf_16_2, rf_16_3, rf_16_4, rf_16_5, rf_16_6, rf_16_7, rf_1_2, rf_24_1, rf_24_2, rf_24_3, rf_24_4, rf_24_5, rf_24_6, rf_24_7, rf_1_3, rf_32_2, rf_32_3, rf_32_4, rf_32_5, rf_32_6, rf_32_7, rf_32_8, rf_32_9, rf_32_10, rf_32_12, rf_32_14, rf_32_15, rf_32_16, rf_32_18, rf_32_19, rf_32_21, rf_32_25, rf_32_26, rf_32_27, rf_32_28, rf_32_30, true_and, and_true, true_or, or_true, or_false, false_or, false_and, and_false, not_true, not_false_iff, ne_eq, and_self, eq_self, if_true, if_false, ite_true, ite_false, Nat.reduceLeDiff, Int.cast_ofNat_Int, Int.reduceLT, Int.reduceLE, Int.reduceEq, Int.reduceNeg, reduceCtorEq, jup_ap, Nat.reduceEqDiff, Nat.reduceAdd]
  by_cases hp : 0 ≤ p ∧ p < 4
  · rw [if_pos (fun q => q hp)]
    refine w_M_look h hI.thr L hp _ (fun m' N s hK e hL => ?_)
    have hI' := MI.of hI.thr.1 hp hK e hL
    have hK2 := hK0.trans hK
    obtain ⟨b1, b2, b3, b4, b5⟩ := hL.len
    simp only [x_M_paragraph_19, x_M_paragraph_20, x_M_paragraph_21, w_M_startOf h hI'.1 hL L k hk, x_M_paragraph_24, x_M_paragraph_26, x_M_paragraph_28, x_M_paragraph_30, x_M_paragraph_33, x_M_paragraph_34, x_M_paragraph_35, x_M_paragraph_36, sk_0, sk_1, sk_2, sk_3, sk_4, sk_5, sk_6, sk_7, sk_8, sk_9, sk_10, sk_11, sk_12, sk_13, sk_14, sk_15, sk_16, sk_17, sk_18, sk_19, sk_20, sk_21, sk_22, sk_23, sk_24, sk_25, sk_26, sk_27, sk_28, sk_29, sk_30, sk_31, sk_32, sk_33, sk_34, sk_35, sk_36, sk_37, sk_38, sk_39, sk_40, sk_41, sk_42, sk_43, sk_44, sk_45, sk_46, sk_47, sk_48, sk_49, sk_50, sk_51, sk_52, sk_53, sn_0, sn_1, sn_2, sn_3, sn_4, sn_5, sn_6, sn_7, sn_8, sn_9, sn_10, sn_11, sn_12, sn_13, sn_14, sn_15, sn_16, sn_17, sn_18, sn_19, sn_20, sn_21, sn_22, sn_23, sn_24, sn_25, sn_26, sn_27, sn_28, sn_29, sn_30, sn_31, sn_32, sn_33, sn_34, sn_35, sn_36, sn_37, sn_38, sn_39, sn_40, sn_41, sn_42, sn_43, sn_44, sn_45, sn_46, sn_47, sn_48, sn_49, sn_50, sn_51, sn_52, sn_53, rf_2_1, rf_2_2, rf_2_3, rf_2_4, rf_1_0, rf_1_1, rf_8_0, rf_7_0, rf_10_0, rf_7_1, rf_12_0, rf_7_2, rf_14_0, rf_7_3, rf_16_1, rf_16_2, rf_16_3, rf_16_4, rf_16_5, rf_16_6, rf_16_7, rf_1_2, rf_24_1, rf_24_2, rf_24_3, rf_24_4, rf_24_5, rf_24_6, rf_24_7, rf_1_3, rf_32_2, rf_32_3, rf_32_4, rf_32_5, rf_32_6, rf_32_7, rf_32_8, rf_32_9, rf_32_10, rf_32_12, rf_32_14, rf_32_15, rf_32_16, rf_32_18, rf_32_19, rf_32_21, rf_32_25, rf_32_26, rf_32_27, rf_32_28, rf_32_30, true_and, and_true, true_or, or_true, or_false, false_or, false_and, and_false, not_true, not_false_iff, ne_eq, and_self, eq_self, if_true, if_false, ite_true, ite_false, Nat.reduceLeDiff, Int.cast_ofNat_Int, Int.reduceLT, Int.reduceLE, Int.reduceEq, Int.reduceNeg, reduceCtorEq, jup_ap, Nat.reduceEqDiff, Nat.reduceAdd]
    by_cases hz : psP c p k = -1
    · rw [if_neg (by omega)]
      exact h0 (fun q => q.2 hz) m' hK2 hI'
    · rw [if_pos (by omega)]
      have hbd : 0 ≤ psP c p k ∧ psP c p k ≤ (s : Int) := by
        unfold psP pSt0 at hz ⊢
        rw [b1] at hz ⊢
        by_cases e : k = 0
        · rw [if_pos e]; omega
        · rw [if_neg e] at hz ⊢
          rcases pSt_bd (f := tx c (nc p)) (k := k) s 0 0 (by omega) with q | q
          · exact absurd q hz
          · omega
      have g := hQ ⟨hp, hz⟩ m' hK2 hI'
      unfold parA at g
      rw [b1] at g
      have hpe := wl_M_pe h hI'.1 hL L p k w (psP c p k - 1) (by omega) Q (s - (psP c p k).toNat) (psP c p k) (by omega) (by omega)
      have e0 : psP c p k - 1 + 1 = psP c p k := by omega
      rw [e0, Int.sub_self] at hpe
      rw [hpe]
      simp only [x_M_paragraph_80, x_M_paragraph_81, x_M_paragraph_84, x_M_paragraph_86, x_M_paragraph_87, x_M_paragraph_88, x_M_paragraph_91, x_M_paragraph_92, x_M_paragraph_93, x_M_paragraph_96, x_M_paragraph_98, x_M_paragraph_101, x_M_paragraph_102, x_M_paragraph_103, x_M_paragraph_106, x_M_paragraph_107, x_M_paragraph_108, x_M_paragraph_110, x_M_paragraph_111, x_M_paragraph_114, x_M_paragraph_115, x_M_paragraph_118, x_M_paragraph_119, x_M_paragraph_122, x_M_paragraph_124, x_M_paragraph_125, x_M_paragraph_128, x_M_paragraph_131, x_M_paragraph_132, w_M_kindOf h hI'.1 hL.1.1 L, e0, show jwr (psP c p k) = psP c p k from jw1 (by omega) (by omega), sk_0, sk_1, sk_2, sk_3, sk_4, sk_5, sk_6, sk_7, sk_8, sk_9, sk_10, sk_11, sk_12, sk_13, sk_14, sk_15, sk_16, sk_17, sk_18, sk_19, sk_20, sk_21, sk_22, sk_23, sk_24, sk_25, sk_26, sk_27, sk_28, sk_29, sk_30, sk_31, sk_32, sk_33, sk_34, sk_35, sk_36, sk_37, sk_38, sk_39, sk_40, sk_41, sk_42, sk_43, sk_44, sk_45, sk_46, sk_47, sk_48, sk_49, sk_50, sk_51, sk_52, sk_53, sn_0, sn_1, sn_2, sn_3, sn_4, sn_5, sn_6, sn_7, sn_8, sn_9, sn_10, sn_11, sn_12, sn_13, sn_14, sn_15, sn_16, sn_17, sn_18, sn_19, sn_20, sn_21, sn_22, sn_23, sn_24, sn_25, sn_26, sn_27, sn_28, sn_29, sn_30, sn_31, sn_32, sn_33, sn_34, sn_35, sn_36, sn_37, sn_38, sn_39, sn_40, sn_41, sn_42, sn_43, sn_44, sn_45, sn_46, sn_47, sn_48, sn_49, sn_50, sn_51, sn_52, sn_53, rf_2_1, rf_2_2, rf_2_3, rf_2_4, rf_1_0, rf_1_1, rf_8_0, rf_7_0, rf_10_0, rf_7_1, rf_12_0, rf_7_2, rf_14_0, rf_7_3, rf_16_1, rf_16_2, rf_16_3, rf_16_4, rf_16_5, rf_16_6, rf_16_7, rf_1_2, rf_24_1, rf_24_2, rf_24_3, rf_24_4, rf_24_5, rf_24_6, rf_24_7, rf_1_3, rf_32_2, rf_32_3, rf_32_4, rf_32_5, rf_32_6, rf_32_7, rf_32_8, rf_32_9, rf_32_10, rf_32_12, rf_32_14, rf_32_15, rf_32_16, rf_32_18, rf_32_19, rf_32_21, rf_32_25, rf_32_26, rf_32_27, rf_32_28, rf_32_30, true_and, and_true, true_or, or_true, or_false, false_or, false_and, and_false, not_true, not_false_iff, ne_eq, and_self, eq_self, if_true, if_false, ite_true, ite_false, Nat.reduceLeDiff, Int.cast_ofNat_Int, Int.reduceLT, Int.reduceLE, Int.reduceEq, Int.reduceNeg, reduceCtorEq, jup_ap, Nat.reduceEqDiff, Nat.reduceAdd]
      by_cases w0 : w = 0
      · rw [if_neg (fun q => q w0)]
        rw [if_pos w0] at g
        exact g
      rw [if_pos w0]
      rw [if_neg w0] at g
      by_cases w1 : w = 1
      · rw [if_neg (fun q => q w1)]
        rw [if_pos w1] at g
        exact g
      rw [if_pos w1]
      rw [if_neg w1] at g
      by_cases w2 : w = 2
      · rw [if_neg (fun q => q w2)]
        rw [if_pos w2] at g
        by_cases z : psP c p k = 0
        · rw [if_neg (by omega)]
          rw [z, getI_out (Or.inl (by omega))] at g
          exact g
        · rw [if_pos (by omega), jand_t (by omega), (hL.at h hI'.1 (i := psP c p k - 1) (by omega)).2.2 0]
          exact g
      rw [if_pos w2]
      rw [if_neg w2] at g
      exact g
  · rw [if_neg (fun q => q hp)]
    exact h0 (fun q => hp q.1) _ hK0 hI.thr
