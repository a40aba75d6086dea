/-! a new row: its order, its place -/
theorem w_R_fpb (L : Nat) (f : Int) (m : jM) (Q : jV → jG → jM → Prop) (N : Nat) (hN : m 2 5 = N) (hN2 : N ≤ 250)
    (h0 : (∀ i : Nat, i < N → m 6 i ≠ f) → Q (jI 0) (g0 L) m) (h1 : ∀ i : Nat, i < N → m 6 i = f → (∀ k : Nat, k < i → m 6 k ≠ f) → Q (jI ((i : Int) + 1)) (g0 L) m) :
    ∀ (d k : Nat), k + d = N → (∀ i : Nat, i < k → m 6 i ≠ f) → wp 95 2 [jO (some 2), jI f, jI (k : Int)] [] (g0 L) m Q := by
  intro d
  induction d with
  | zero =>
    intro k hk hI
    rw [x_R_firstPlaceBehind_2]
    simp only [x_R_firstPlaceBehind_0, x_R_firstPlaceBehind_1, x_R_firstPlaceBehind_3, x_R_firstPlaceBehind_4, x_R_firstPlaceBehind_7, x_R_firstPlaceBehind_10, x_R_firstPlaceBehind_11, x_R_firstPlaceBehind_14, x_R_firstPlaceBehind_15, x_R_firstPlaceBehind_16, x_R_firstPlaceBehind_17, x_R_firstPlaceBehind_20, x_R_firstPlaceBehind_21, x_R_firstPlaceBehind_22, x_R_firstPlaceBehind_23, x_R_firstPlaceBehind_24, x_R_firstPlaceBehind_27, x_R_firstPlaceBehind_30, x_R_firstPlaceBehind_31, sk_0, sk_1, sk_2, sk_3, sk_4, sk_5, sk_6, sk_7, sk_8, sk_9, sk_10, sk_11, sk_12, sk_13, sk_14, sk_15, sk_16, sk_17, sk_18, sk_19, sk_20, sk_21, sk_22, sk_23, sk_24, sk_25, sk_26, sk_27, sk_28, sk_29, sk_30, sk_31, sk_32, sk_33, sk_34, sk_35, sk_36, sk_37, sk_38, sk_39, sk_40, sk_41, sk_42, sk_43, sk_44, sk_45, sk_46, sk_47, sk_48, sk_49, sk_50, sk_51, sk_52, sk_53, sn_0, sn_1, sn_2, sn_3, sn_4, sn_5, sn_6, sn_7, sn_8, sn_9, sn_10, sn_11, sn_12, sn_13, sn_14, sn_15, sn_16, sn_17, sn_18, sn_19, sn_20, sn_21, sn_22, sn_23, sn_24, sn_25, sn_26, sn_27, sn_28, sn_29, sn_30, sn_31, sn_32, sn_33, sn_34, sn_35, sn_36, sn_37, sn_38, sn_39, sn_40, sn_41, sn_42, sn_43, sn_44, sn_45, sn_46, sn_47, sn_48, sn_49, sn_50, sn_51, sn_52, sn_53, rf_2_1, rf_2_2, rf_2_3, rf_2_4, rf_1_0, rf_1_1, rf_8_0, rf_7_0, rf_10_0, rf_7_1, rf_12_0, rf_7_2, rf_14_0, rf_7_3, rf_16_1, rf_16_2, rf_16_3, rf_16_4, rf_16_5, rf_16_6, rf_16_7, rf_1_2, rf_24_1, rf_24_2, rf_24_3, rf_24_4, rf_24_5, rf_24_6, rf_24_7, rf_1_3, rf_32_2, rf_32_3, rf_32_4, rf_32_5, rf_32_6, rf_32_7, rf_32_8, rf_32_9, rf_32_10, rf_32_12, rf_32_14, rf_32_15, rf_32_16, rf_32_18, rf_32_19, rf_32_21, rf_32_25, rf_32_26, rf_32_27, rf_32_28, rf_32_30, true_and, and_true, true_or, or_true, or_false, false_or, false_and, and_false, not_true, not_false_iff, ne_eq, and_self, eq_self, if_true, if_false, ite_true, ite_false, Nat.reduceLeDiff, Int.cast_ofNat_Int, Int.reduceLT, Int.reduceLE, Int.reduceEq, Int.reduceNeg, reduceCtorEq, jup_ap, Nat.reduceEqDiff, Nat.reduceAdd]
    rw [hN, if_pos (by omega)]
    have : k = N := by omega
    subst this
    exact h0 hI
  | succ d ih =>
    intro k hk hI
    have hb : (0 : Int) ≤ (k : Int) ∧ (k : Int) < 250 := by omega
    rw [x_R_firstPlaceBehind_2]
    simp only [x_R_firstPlaceBehind_0, x_R_firstPlaceBehind_1, x_R_firstPlaceBehind_3, x_R_firstPlaceBehind_4, x_R_firstPlaceBehind_7, x_R_firstPlaceBehind_10, x_R_firstPlaceBehind_11, x_R_firstPlaceBehind_14, x_R_firstPlaceBehind_15, x_R_firstPlaceBehind_16, x_R_firstPlaceBehind_17, x_R_firstPlaceBehind_20, x_R_firstPlaceBehind_21, x_R_firstPlaceBehind_22, x_R_firstPlaceBehind_23, x_R_firstPlaceBehind_24, x_R_firstPlaceBehind_27, x_R_firstPlaceBehind_30, x_R_firstPlaceBehind_31, sk_0, sk_1, sk_2, sk_3, sk_4, sk_5, sk_6, sk_7, sk_8, sk_9, sk_10, sk_11, sk_12, sk_13, sk_14, sk_15, sk_16, sk_17, sk_18, sk_19, sk_20, sk_21, sk_22, sk_23, sk_24, sk_25, sk_26, sk_27, sk_28, sk_29, sk_30, sk_31, sk_32, sk_33, sk_34, sk_35, sk_36, sk_37, sk_38, sk_39, sk_40, sk_41, sk_42, sk_43, sk_44, sk_45, sk_46, sk_47, sk_48, sk_49, sk_50, sk_51, sk_52, sk_53, sn_0, sn_1, sn_2, sn_3, sn_4, sn_5, sn_6, sn_7, sn_8, sn_9, sn_10, sn_11, sn_12, sn_13, sn_14, sn_15, sn_16, sn_17, sn_18, sn_19, sn_20, sn_21, sn_22, sn_23, sn_24, sn_25, sn_26, sn_27, sn_28, sn_29, sn_30, sn_31, sn_32, sn_33, sn_34, sn_35, sn_36, sn_37, sn_38, sn_39, sn_40, sn_41, sn_42, sn_43, sn_44, sn_45, sn_46, sn_47, sn_48, sn_49, sn_50, sn_51, sn_52, sn_53, rf_2_1, rf_2_2, rf_2_3, rf_2_4, rf_1_0, rf_1_1, rf_8_0, rf_7_0, rf_10_0, rf_7_1, rf_12_0, rf_7_2, rf_14_0, rf_7_3, rf_16_1, rf_16_2, rf_16_3, rf_16_4, rf_16_5, rf_16_6, rf_16_7, rf_1_2, rf_24_1, rf_24_2, rf_24_3, rf_24_4, rf_24_5, rf_24_6, rf_24_7, rf_1_3, rf_32_2, rf_32_3, rf_32_4, rf_32_5, rf_32_6, rf_32_7, rf_32_8, rf_32_9, rf_32_10, rf_32_12, rf_32_14, rf_32_15, rf_32_16, rf_32_18, rf_32_19, rf_32_21, rf_32_25, rf_32_26, rf_32_27, rf_32_28, rf_32_30, true_and, and_true, true_or, or_true, or_false, false_or, false_and, and_false, not_true, not_false_iff, ne_eq, and_self, eq_self, if_true, if_false, ite_true, ite_false, Nat.reduceLeDiff, Int.cast_ofNat_Int, Int.reduceLT, Int.reduceLE, Int.reduceEq, Int.reduceNeg, reduceCtorEq, jup_ap, Nat.reduceEqDiff, Nat.reduceAdd, hb]
    rw [hN, if_neg (by omega), show jwr ((k : Int) + 1) = ((k + 1 : Nat) : Int) from jw1 (by omega) (by omega)]
    by_cases hc : m 6 k = f
    · rw [if_neg (fun q => q hc)]
      exact h1 k (by omega) hc hI
    · rw [if_pos hc]
      refine ih (k + 1) (by omega) (fun i hi => ?_)
      by_cases hik : i = k
      · rw [hik]; exact hc
      · exact hI i (by omega)
theorem ltrV_01 (m : jM) (r t : Int) : ltrV m r t = 0 ∨ ltrV m r t = 1 := by
  unfold ltrV
  split <;> simp
/-- shifting the places from k on by one -/
theorem wl_R_shift (L : Nat) (m : jM) (Q : jV → jG → jM → Prop) (r f : Int) (N k : Nat) (hN : m 2 5 = N) (hN2 : N < 250) (hk : k ≤ N)
    (hQ : ∀ m', Fr m m' [6] → (∀ i : Nat, i < k → m' 6 i = m 6 i) → (∀ i : Nat, k < i → i ≤ N → m' 6 i = m 6 ((i : Int) - 1)) → wp 94 68 [jO (some 2), jI r, jI f, jI (k : Int), jI (k : Int)] [] (g0 L) m' Q) :
    ∀ (d i : Nat) (m1 : jM), k + d = i → i ≤ N → Fr m m1 [6] → (∀ j : Nat, j ≤ i → m1 6 j = m 6 j) → (∀ j : Nat, i < j → j ≤ N → m1 6 j = m 6 ((j : Int) - 1)) → wp 94 40 [jO (some 2), jI r, jI f, jI (k : Int), jI (i : Int)] [] (g0 L) m1 Q := by
  intro d
  induction d with
  | zero =>
    intro i m1 hki hiN hF h1 h2
    have : i = k := by omega
    subst this
    rw [x_R_fileInPlaces_40]
    simp only [x_R_fileInPlaces_42, x_R_fileInPlaces_43]
    rw [if_pos (by omega)]
    exact hQ m1 hF (fun j hj => h1 j (by omega)) h2
  | succ d ih =>
    intro i m1 hki hiN hF h1 h2
    have e : ((i : Int) - 1) = ((i - 1 : Nat) : Int) := by omega
    have hb : (0 : Int) ≤ (i : Int) ∧ (i : Int) < 250 := by omega
    have hb2 : (0 : Int) ≤ ((i - 1 : Nat) : Int) ∧ ((i - 1 : Nat) : Int) < 250 := by omega
    have ew : jwr ((i : Int) - 1) = ((i - 1 : Nat) : Int) := by rw [jw1 (by omega) (by omega)]; exact e
    rw [x_R_fileInPlaces_40]
    simp only [x_R_fileInPlaces_0, x_R_fileInPlaces_1, x_R_fileInPlaces_2, x_R_fileInPlaces_5, x_R_fileInPlaces_6, x_R_fileInPlaces_7, x_R_fileInPlaces_8, x_R_fileInPlaces_11, x_R_fileInPlaces_14, x_R_fileInPlaces_15, x_R_fileInPlaces_16, x_R_fileInPlaces_19, x_R_fileInPlaces_20, x_R_fileInPlaces_21, x_R_fileInPlaces_22, x_R_fileInPlaces_25, x_R_fileInPlaces_28, x_R_fileInPlaces_31, x_R_fileInPlaces_34, x_R_fileInPlaces_35, x_R_fileInPlaces_38, x_R_fileInPlaces_42, x_R_fileInPlaces_43, x_R_fileInPlaces_46, x_R_fileInPlaces_47, x_R_fileInPlaces_50, x_R_fileInPlaces_52, x_R_fileInPlaces_53, x_R_fileInPlaces_56, x_R_fileInPlaces_58, x_R_fileInPlaces_59, x_R_fileInPlaces_60, x_R_fileInPlaces_61, x_R_fileInPlaces_62, x_R_fileInPlaces_65, x_R_fileInPlaces_68, x_R_fileInPlaces_69, x_R_fileInPlaces_72, x_R_fileInPlaces_73, x_R_fileInPlaces_74, x_R_fileInPlaces_75, x_R_fileInPlaces_76, x_R_fileInPlaces_77, x_R_fileInPlaces_80, x_R_fileInPlaces_81, x_R_fileInPlaces_82, x_R_fileInPlaces_85, sk_0, sk_1, sk_2, sk_3, sk_4, sk_5, sk_6, sk_7, sk_8, sk_9, sk_10, sk_11, sk_12, sk_13, sk_14, sk_15, sk_16, sk_17, sk_18, sk_19, sk_20, sk_21, sk_22, sk_23, sk_24, sk_25, sk_26, sk_27, sk_28, sk_29, sk_30, sk_31, sk_32, sk_33, sk_34, sk_35, sk_36, sk_37, sk_38, sk_39, sk_40, sk_41, sk_42, sk_43, sk_44, sk_45, sk_46, sk_47, sk_48, sk_49, sk_50, sk_51, sk_52, sk_53, sn_0, sn_1, sn_2, sn_3, sn_4, sn_5, sn_6, sn_7, sn_8, sn_9, sn_10, sn_11, sn_12, sn_13, sn_14, sn_15, sn_16, sn_17, sn_18, sn_19, sn_20, sn_21, sn_22, sn_23, sn_24, sn_25, sn_26, sn_27, sn_28, sn_29, sn_30, sn_31, sn_32, sn_33, sn_34, sn_35, sn_36, sn_37, sn_38, sn_39, sn_40, sn_41, sn_42, sn_43, sn_44, sn_45, sn_46, sn_47, sn_48, sn_49, sn_50, sn_51, sn_52, sn_53, rf_2_1, rf_2_2, rf_2_3, rf_2_4, rf_1_0, rf_1_1, rf_8_0, rf_7_0, rf_10_0, rf_7_1, rf_12_0, rf_7_2, rf_14_0, rf_7_3, rf_16_1, rf_16_2, rf_16_3, rf_16_4, rf_16_5, rf_16_6, rf_16_7, rf_1_2, rf_24_1, rf_24_2, rf_24_3, rf_24_4, rf_24_5, rf_24_6, rf_24_7, rf_1_3, rf_32_2, rf_32_3, rf_32_4, rf_32_5, rf_32_6, rf_32_7, rf_32_8, rf_32_9, rf_32_10, rf_32_12, rf_32_14, rf_32_15, rf_32_16, rf_32_18, rf_32_19, rf_32_21, rf_32_25, rf_32_26, rf_32_27, rf_32_28, rf_32_30, true_and, and_true, true_or, or_true, or_false, false_or, false_and, and_false, not_true, not_false_iff, ne_eq, and_self, eq_self, if_true, if_false, ite_true, ite_false, Nat.reduceLeDiff, Int.cast_ofNat_Int, Int.reduceLT, Int.reduceLE, Int.reduceEq, Int.reduceNeg, reduceCtorEq, jup_ap, Nat.reduceEqDiff, Nat.reduceAdd, hb, hb2, ew, show (i : Int) + -1 = (i : Int) - 1 from rfl]
    clear ew
    rw [if_neg (by omega)]
    refine ih (i - 1) _ (by omega) (by omega) (hF.up (by simp)) (fun j hj => ?_) (fun j hj1 hj2 => ?_)
    · rw [jup_ap, if_neg (by omega)]
      exact h1 j (by omega)
    · rw [jup_ap]
      by_cases hji : j = i
      · subst hji
        rw [if_pos ⟨rfl, rfl⟩, h1 (j - 1) (by omega), e]
      · rw [if_neg (by omega)]
        exact h2 j (by omega) hj2
