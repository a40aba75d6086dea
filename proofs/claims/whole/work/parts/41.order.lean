theorem wl_R_order (L : Nat) (m : jM) (Q : jV → jG → jM → Prop) (r : Int) (N : Nat) (hN2 : N < 250) (hn : m 2 0 ≤ 250) (hkey : ∀ i : Nat, i < N → (ltrV m (m 5 i) r = 0) = ¬ (key m r < key m (m 5 i)))
    (hQ : ∀ (m' : jM) (k : Nat), Fr m m' [5] → k ≤ N → (∀ j : Nat, j < k → m' 5 j = m 5 j) → m' 5 k = r → (∀ j : Nat, k < j → j ≤ N → m' 5 j = m 5 ((j : Int) - 1)) → (∀ j : Nat, k ≤ j → j < N → key m r < key m (m 5 j)) → (∀ j : Nat, j + 1 = k → ¬ key m r < key m (m 5 j)) → Q jU (g0 L) m') :
    ∀ (i : Nat) (m1 : jM), i ≤ N → Fr m m1 [5] → (∀ j : Nat, j < i → m1 5 j = m 5 j) → (∀ j : Nat, i < j → j ≤ N → m1 5 j = m 5 ((j : Int) - 1)) → (∀ j : Nat, i ≤ j → j < N → key m r < key m (m 5 j)) →
      wp 93 7 [jO (some 2), jI r, jI (i : Int)] [] (g0 L) m1 Q := by
  intro i
  induction i with
  | zero =>
    intro m1 hi hF h1 h2 h3
    rw [x_R_fileInOrder_7]
    simp only [x_R_fileInOrder_0, x_R_fileInOrder_1, x_R_fileInOrder_4, x_R_fileInOrder_5, x_R_fileInOrder_6, x_R_fileInOrder_8, x_R_fileInOrder_11, x_R_fileInOrder_12, x_R_fileInOrder_13, x_R_fileInOrder_16, x_R_fileInOrder_17, x_R_fileInOrder_18, x_R_fileInOrder_19, x_R_fileInOrder_20, x_R_fileInOrder_21, x_R_fileInOrder_24, x_R_fileInOrder_27, x_R_fileInOrder_28, x_R_fileInOrder_31, x_R_fileInOrder_32, x_R_fileInOrder_33, x_R_fileInOrder_36, x_R_fileInOrder_37, x_R_fileInOrder_38, x_R_fileInOrder_39, x_R_fileInOrder_40, x_R_fileInOrder_41, x_R_fileInOrder_44, x_R_fileInOrder_47, x_R_fileInOrder_48, x_R_fileInOrder_51, x_R_fileInOrder_52, x_R_fileInOrder_53, x_R_fileInOrder_54, sk_0, sk_1, sk_2, sk_3, sk_4, sk_5, sk_6, sk_7, sk_8, sk_9, sk_10, sk_11, sk_12, sk_13, sk_14, sk_15, sk_16, sk_17, sk_18, sk_19, sk_20, sk_21, sk_22, sk_23, sk_24, sk_25, sk_26, sk_27, sk_28, sk_29, sk_30, sk_31, sk_32, sk_33, sk_34, sk_35, sk_36, sk_37, sk_38, sk_39, sk_40, sk_41, sk_42, sk_43, sk_44, sk_45, sk_46, sk_47, sk_48, sk_49, sk_50, sk_51, sk_52, sk_53, sn_0, sn_1, sn_2, sn_3, sn_4, sn_5, sn_6, sn_7, sn_8, sn_9, sn_10, sn_11, sn_12, sn_13, sn_14, sn_15, sn_16, sn_17, sn_18, sn_19, sn_20, sn_21, sn_22, sn_23, sn_24, sn_25, sn_26, sn_27, sn_28, sn_29, sn_30, sn_31, sn_32, sn_33, sn_34, sn_35, sn_36, sn_37, sn_38, sn_39, sn_40, sn_41, sn_42, sn_43, sn_44, sn_45, sn_46, sn_47, sn_48, sn_49, sn_50, sn_51, sn_52, sn_53, rf_2_1, rf_2_2, rf_2_3, rf_2_4, rf_1_0, rf_1_1, rf_8_0, rf_7_0, rf_10_0, rf_7_1, rf_12_0, rf_7_2, rf_14_0, rf_7_3, rf_16_1, rf_16_2, rf_16_3, rf_16_4, rf_16_5, rf_16_6, rf_16_7, rf_1_2, rf_24_1, rf_24_2, rf_24_3, rf_24_4, rf_24_5, rf_24_6, rf_24_7, rf_1_3, rf_32_2, rf_32_3, rf_32_4, rf_32_5, rf_32_6, rf_32_7, rf_32_8, rf_32_9, rf_32_10, rf_32_12, rf_32_14, rf_32_15, rf_32_16, rf_32_18, rf_32_19, rf_32_21, rf_32_25, rf_32_26, rf_32_27, rf_32_28, rf_32_30, true_and, and_true, true_or, or_true, or_false, false_or, false_and, and_false, not_true, not_false_iff, ne_eq, and_self, eq_self, if_true, if_false, ite_true, ite_false, Nat.reduceLeDiff, Int.cast_ofNat_Int, Int.reduceLT, Int.reduceLE, Int.reduceEq, Int.reduceNeg, reduceCtorEq, jup_ap, Nat.reduceEqDiff, Nat.reduceAdd]
    refine hQ _ 0 (hF.up (by simp)) (Nat.zero_le _) (fun j hj => by omega) (by rw [jup_ap, if_pos ⟨rfl, rfl⟩]) (fun j h4 h5 => ?_) h3 (fun j hj => by omega)
    rw [jup_ap, if_neg (by omega)]
    exact h2 j h4 h5
  | succ i ih =>
    intro m1 hi hF h1 h2 h3
    have hn1 : m1 2 0 ≤ 250 := by rw [hF 2 (by simp)]; exact hn
    have e1 : m1 5 i = m 5 i := h1 i (by omega)
    have wl : ∀ Q, wp 92 0 [jO (some 2), jI (m 5 i), jI r, jU, jU] [] (g0 L) m1 Q = Q (jI (ltrV m (m 5 i) r)) (g0 L) m1 := fun Q => by rw [w_R_isLater L _ _ _ _ hn1, hF.ltr (by simp) (by simp)]
    have hb : (0 : Int) ≤ ((i + 1 : Nat) : Int) ∧ ((i + 1 : Nat) : Int) < 250 := by omega
    have hb2 : (0 : Int) ≤ (i : Int) ∧ (i : Int) < 250 := by omega
    have fin : ¬ key m r < key m (m 5 i) → Q jU (g0 L) (jup m1 5 ((i + 1 : Nat) : Int) r) := fun hc => by
      refine hQ _ (i + 1) (hF.up (by simp)) hi (fun j hj => ?_) (by rw [jup_ap, if_pos ⟨rfl, rfl⟩]) (fun j h4 h5 => ?_) h3 (fun j hj => ?_)
      · rw [jup_ap, if_neg (by omega)]
        exact h1 j hj
      · rw [jup_ap, if_neg (by omega)]
        exact h2 j h4 h5
      · have : j = i := by omega
        rw [this]
        exact hc
    have go : key m r < key m (m 5 i) → wp 93 7 [jO (some 2), jI r, jI (i : Int)] [] (g0 L) (jup m1 5 ((i + 1 : Nat) : Int) (m 5 i)) Q := fun hc => by
      refine ih _ (by omega) (hF.up (by simp)) (fun j hj => ?_) (fun j h4 h5 => ?_) (fun j h4 h5 => ?_)
      · rw [jup_ap, if_neg (by omega)]
        exact h1 j (by omega)
      · rw [jup_ap]
        by_cases hj : j = i + 1
        · rw [if_pos ⟨rfl, by omega⟩, show ((j : Int) - 1) = (i : Int) by omega]
        · rw [if_neg (by omega)]
          exact h2 j (by omega) h5
      · by_cases hj : j = i
        · rw [hj]; exact hc
        · exact h3 j (by omega) h5
    have hpos : ¬ ((i + 1 : Nat) : Int) ≤ 0 := by omega
    have hk := hkey i (by omega)
    rw [x_R_fileInOrder_7]
    simp only [x_R_fileInOrder_0, x_R_fileInOrder_1, x_R_fileInOrder_4, x_R_fileInOrder_5, x_R_fileInOrder_6, x_R_fileInOrder_8, x_R_fileInOrder_11, x_R_fileInOrder_12, x_R_fileInOrder_13, x_R_fileInOrder_16, x_R_fileInOrder_17, x_R_fileInOrder_18, x_R_fileInOrder_19, x_R_fileInOrder_20, x_R_fileInOrder_21, x_R_fileInOrder_24, x_R_fileInOrder_27, x_R_fileInOrder_28, x_R_fileInOrder_31, x_R_fileInOrder_32, x_R_fileInOrder_33, x_R_fileInOrder_36, x_R_fileInOrder_37, x_R_fileInOrder_38, x_R_fileInOrder_39, x_R_fileInOrder_40, x_R_fileInOrder_41, x_R_fileInOrder_44, x_R_fileInOrder_47, x_R_fileInOrder_48, x_R_fileInOrder_51, x_R_fileInOrder_52, x_R_fileInOrder_53, x_R_fileInOrder_54, sk_0, sk_1, sk_2, sk_3, sk_4, sk_5, sk_6, sk_7, sk_8, sk_9, sk_10, sk_11, sk_12, sk_13, sk_14, sk_15, sk_16, sk_17, sk_18, sk_19, sk_20, sk_21, sk_22, sk_23, sk_24, sk_25, sk_26, sk_27, sk_28, sk_29, sk_30, sk_31, sk_32, sk_33, sk_34, sk_35, sk_36, sk_37, sk_38, sk_39, sk_40, sk_41, sk_42, sk_43, sk_44, sk_45, sk_46, sk_47, sk_48, sk_49, sk_50, sk_51, sk_52, sk_53, sn_0, sn_1, sn_2, sn_3, sn_4, sn_5, sn_6, sn_7, sn_8, sn_9, sn_10, sn_11, sn_12, sn_13, sn_14, sn_15, sn_16, sn_17, sn_18, sn_19, sn_20, sn_21, sn_22, sn_23, sn_24, sn_25, sn_26, sn_27, sn_28, sn_29, sn_30, sn_31, sn_32, sn_33, sn_34, sn_35, sn_36, sn_37, sn_38, sn_39, sn_40, sn_41, sn_42, sn_43, sn_44, sn_45, sn_46, sn_47, sn_48, sn_49, sn_50, sn_51, sn_52, sn_53, rf_2_1, rf_2_2, rf_2_3, rf_2_4, rf_1_0, rf_1_1, rf_8_0, rf_7_0, rf_10_0, rf_7_1, rf_12_0, rf_7_2, rf_14_0, rf_7_3, rf_16_1, rf_16_2, rf_16_3, rf_16_4, rf_16_5, rf_16_6, rf_16_7, rf_1_2, rf_24_1, rf_24_2, rf_24_3, rf_24_4, rf_24_5, rf_24_6, rf_24_7, rf_1_3, rf_32_2, rf_32_3, rf_32_4, rf_32_5, rf_32_6, rf_32_7, rf_32_8, rf_32_9, rf_32_10, rf_32_12, rf_32_14, rf_32_15, rf_32_16, rf_32_18, rf_32_19, rf_32_21, rf_32_25, rf_32_26, rf_32_27, rf_32_28, rf_32_30, true_and, and_true, true_or, or_true, or_false, false_or, false_and, and_false, not_true, not_false_iff, ne_eq, and_self, eq_self, if_true, if_false, ite_true, ite_false, Nat.reduceLeDiff, Int.cast_ofNat_Int, Int.reduceLT, Int.reduceLE, Int.reduceEq, Int.reduceNeg, reduceCtorEq, jup_ap, Nat.reduceEqDiff, Nat.reduceAdd, hb, hb2, hpos, wl, e1, hk, show jwr (((i + 1 : Nat) : Int) - 1) = (i : Int) from (jw1 (by omega) (by omega)).trans (by omega), show jwr (((i + 1 : Nat) : Int) + -1) = (i : Int) from (jw1 (by omega) (by omega)).trans (by omega)]
    by_cases hc : key m r < key m (m 5 i)
    · rw [if_neg (fun q => q hc)]
      exact go hc
    · rw [if_pos hc]
      exact fin hc
theorem w_R_fileInOrder (L : Nat) (m : jM) (Q : jV → jG → jM → Prop) (r : Int) (N : Nat) (hN : m 2 0 = (N : Int) + 1) (hN2 : N < 250) (hkey : ∀ i : Nat, i < N → (ltrV m (m 5 i) r = 0) = ¬ (key m r < key m (m 5 i)))
    (hQ : ∀ m', Fr m m' [5] → (ar (m' 5) (N + 1)).reverse = pS (key m) r (ar (m 5) N).reverse → Q jU (g0 L) m') : wp 93 0 [jO (some 2), jI r, jU] [] (g0 L) m Q := by
  simp only [x_R_fileInOrder_0, x_R_fileInOrder_1, x_R_fileInOrder_4, x_R_fileInOrder_5, x_R_fileInOrder_6, hN, sk_0, sk_1, sk_2, sk_3, sk_4, sk_5, sk_6, sk_7, sk_8, sk_9, sk_10, sk_11, sk_12, sk_13, sk_14, sk_15, sk_16, sk_17, sk_18, sk_19, sk_20, sk_21, sk_22, sk_23, sk_24, sk_25, sk_26, sk_27, sk_28, sk_29, sk_30, sk_31, sk_32, sk_33, sk_34, sk_35, sk_36, sk_37, sk_38, sk_39, sk_40, sk_41, sk_42, sk_43, sk_44, sk_45, sk_46, sk_47, sk_48, sk_49, sk_50, sk_51, sk_52, sk_53, sn_0, sn_1, sn_2, sn_3, sn_4, sn_5, sn_6, sn_7, sn_8, sn_9, sn_10, sn_11, sn_12, sn_13, sn_14, sn_15, sn_16, sn_17, sn_18, sn_19, sn_20, sn_21, sn_22, sn_23, sn_24, sn_25, sn_26, sn_27, sn_28, sn_29, sn_30, sn_31, sn_32, sn_33, sn_34, sn_35, sn_36, sn_37, sn_38, sn_39, sn_40, sn_41, sn_42, sn_43, sn_44, sn_45, sn_46, sn_47, sn_48, sn_49, sn_50, sn_51, sn_52, sn_53, rf_2_1, rf_2_2, rf_2_3, rf_2_4, rf_1_0, rf_1_1, rf_8_0, rf_7_0, rf_10_0, rf_7_1, rf_12_0, rf_7_2, rf_14_0, rf_7_3, rf_16_1, rf_16_2, rf_16_3, rf_16_4, rf_16_5, rf_16_6, rf_16_7, rf_1_2, rf_24_1, rf_24_2, rf_24_3, rf_24_4, rf_24_5, rf_24_6, rf_24_7, rf_1_3, rf_32_2, rf_32_3, rf_32_4, rf_32_5, rf_32_6, rf_32_7, rf_32_8, rf_32_9, rf_32_10, rf_32_12, rf_32_14, rf_32_15, rf_32_16, rf_32_18, rf_32_19, rf_32_21, rf_32_25, rf_32_26, rf_32_27, rf_32_28, rf_32_30, true_and, and_true, true_or, or_true, or_false, false_or, false_and, and_false, not_true, not_false_iff, ne_eq, and_self, eq_self, if_true, if_false, ite_true, ite_false, Nat.reduceLeDiff, Int.cast_ofNat_Int, Int.reduceLT, Int.reduceLE, Int.reduceEq, Int.reduceNeg, reduceCtorEq, jup_ap, Nat.reduceEqDiff, Nat.reduceAdd, show jwr (((N : Int) + 1) - 1) = (N : Int) from (jw1 (by omega) (by omega)).trans (by omega)]
  refine wl_R_order L m Q r N hN2 (by omega) hkey (fun m' k hF hk h1 h2 h3 h4 h5 => hQ m' hF ?_) N m (Nat.le_refl _) Fr.rf (fun _ _ => rfl) (fun j a b => by omega) (fun j a b => by omega)
  rw [ar_ins hk h1 h2 h3]
  obtain ⟨l, hl⟩ : ∃ l, l = ar (m 5) N := ⟨_, rfl⟩
  rw [← hl]
  have hu : ∀ x ∈ (l.drop k).reverse, key m r < key m x := by
    intro x hx
    obtain ⟨i, hi⟩ := List.getElem?_of_mem (List.mem_reverse.mp hx)
    rw [List.getElem?_drop, hl] at hi
    by_cases hlt : k + i < N
    · rw [ar_get hlt] at hi
      rw [← Option.some.inj hi]
      exact h4 (k + i) (by omega) hlt
    · rw [List.getElem?_eq_none (by rw [ar_len]; omega)] at hi
      cases hi
  have hw : ∀ x, ((l.take k).reverse).head? = some x → ¬ key m r < key m x := by
    intro x hx
    rw [List.head?_reverse, hl, ar_take _ _ k hk, List.getLast?_eq_getElem?, ar_len] at hx
    by_cases hk0 : k = 0
    · rw [List.getElem?_eq_none (by rw [ar_len]; omega)] at hx
      cases hx
    · rw [ar_get (by omega)] at hx
      rw [← Option.some.inj hx]
      exact h5 (k - 1) (by omega)
  have h6 := pS_split hw _ hu
  rw [← List.reverse_append, List.take_append_drop] at h6
  rw [h6]
  simp
