def key (m : jM) (r : Int) : Int := 4 * cellV m r 2 + cellV m r 1
theorem ltr_key {m : jM} {x r : Int} (hx : 0 ≤ cellV m x 1 ∧ cellV m x 1 < 4) (hr : 0 ≤ cellV m r 1 ∧ cellV m r 1 < 4) : (ltrV m x r = 0) = ¬ (key m r < key m x) := by
  unfold ltrV key
  split
  · simp
    omega
  · simp
    omega
theorem Fr.ltr {m m1 : jM} {S : List Nat} (h : Fr m m1 S) (h2 : 2 ∉ S) (h3 : 3 ∉ S) (x r : Int) : ltrV m1 x r = ltrV m x r := by
  unfold ltrV
  simp only [h.cell h2 h3]
theorem Fr.key {m m1 : jM} {S : List Nat} (h : Fr m m1 S) (h2 : 2 ∉ S) (h3 : 3 ∉ S) (r : Int) : key m1 r = key m r := by
  show 4 * cellV m1 r 2 + cellV m1 r 1 = 4 * cellV m r 2 + cellV m r 1
  rw [h.cell h2 h3, h.cell h2 h3]
theorem wl_R_scan (L : Nat) (m : jM) (Q : jV → jG → jM → Prop) (r f : Int) (l4 : jV) (N k0 : Nat) (hN : m 2 5 = N) (hN2 : N ≤ 250) (hn : m 2 0 ≤ 250) (hkey : ∀ i : Nat, i < N → (ltrV m (m 6 i) r = 0) = ¬ (key m r < key m (m 6 i)))
    (hQ : ∀ k : Nat, k0 ≤ k → k ≤ N → (∀ i : Nat, k0 ≤ i → i < k → key m r < key m (m 6 i)) → (k < N → ¬ key m r < key m (m 6 k)) → wp 94 34 [jO (some 2), jI r, jI f, jI (k : Int), l4] [] (g0 L) m Q) :
    ∀ (d k : Nat), k + d = N → k0 ≤ k → (∀ i : Nat, k0 ≤ i → i < k → key m r < key m (m 6 i)) → wp 94 6 [jO (some 2), jI r, jI f, jI (k : Int), l4] [] (g0 L) m Q := by
  intro d
  induction d with
  | zero =>
    intro k hk hk0 hI
    rw [x_R_fileInPlaces_6]
    simp only [x_R_fileInPlaces_7, x_R_fileInPlaces_8, x_R_fileInPlaces_11, sk_0, sk_1, sk_2, sk_3, sk_4, sk_5, sk_6, sk_7, sk_8, sk_9, sk_10, sk_11, sk_12, sk_13, sk_14, sk_15, sk_16, sk_17, sk_18, sk_19, sk_20, sk_21, sk_22, sk_23, sk_24, sk_25, sk_26, sk_27, sk_28, sk_29, sk_30, sk_31, sk_32, sk_33, sk_34, sk_35, sk_36, sk_37, sk_38, sk_39, sk_40, sk_41, sk_42, sk_43, sk_44, sk_45, sk_46, sk_47, sk_48, sk_49, sk_50, sk_51, sk_52, sk_53, sn_0, sn_1, sn_2, sn_3, sn_4, sn_5, sn_6, sn_7, sn_8, sn_9, sn_10, sn_11, sn_12, sn_13, sn_14, sn_15, sn_16, sn_17, sn_18, sn_19, sn_20, sn_21, sn_22, sn_23, sn_24, sn_25, sn_26, sn_27, sn_28, sn_29, sn_30, sn_31, sn_32, sn_33, sn_34, sn_35, sn_36, sn_37, sn_38, sn_39, sn_40, sn_41, sn_42, sn_43, sn_44, sn_45, sn_46, sn_47, sn_48, sn_49, sn_50, sn_51, sn_52, sn_53, rf_2_1, rf_2_2, rf_2_3, rf_2_4, rf_1_0, rf_1_1, rf_8_0, rf_7_0, rf_10_0, rf_7_1, rf_12_0, rf_7_2, rf_14_0, rf_7_3, rf_16_1, rf_16_2, rf_16_3, rf_16_4, rf_16_5, rf_16_6, rf_16_7, rf_1_2, rf_24_1, rf_24_2, rf_24_3, rf_24_4, rf_24_5, rf_24_6, rf_24_7, rf_1_3, rf_32_2, rf_32_3, rf_32_4, rf_32_5, rf_32_6, rf_32_7, rf_32_8, rf_32_9, rf_32_10, rf_32_12, rf_32_14, rf_32_15, rf_32_16, rf_32_18, rf_32_19, rf_32_21, rf_32_25, rf_32_26, rf_32_27, rf_32_28, rf_32_30, true_and, and_true, true_or, or_true, or_false, false_or, false_and, and_false, not_true, not_false_iff, ne_eq, and_self, eq_self, if_true, if_false, ite_true, ite_false, Nat.reduceLeDiff, Int.cast_ofNat_Int, Int.reduceLT, Int.reduceLE, Int.reduceEq, Int.reduceNeg, reduceCtorEq, jup_ap, Nat.reduceEqDiff, Nat.reduceAdd]
    rw [hN, if_pos (by omega)]
    exact hQ k hk0 (by omega) hI (fun q => by omega)
  | succ d ih =>
    intro k hk hk0 hI
    have hb : (0 : Int) ≤ (k : Int) ∧ (k : Int) < 250 := by omega
    rw [x_R_fileInPlaces_6]
    simp only [x_R_fileInPlaces_7, x_R_fileInPlaces_8, x_R_fileInPlaces_11, x_R_fileInPlaces_14, x_R_fileInPlaces_15, x_R_fileInPlaces_16, x_R_fileInPlaces_19, x_R_fileInPlaces_20, x_R_fileInPlaces_21, x_R_fileInPlaces_22, w_R_isLater L _ _ _ _ hn, x_R_fileInPlaces_25, x_R_fileInPlaces_28, x_R_fileInPlaces_31, hkey k (by omega), sk_0, sk_1, sk_2, sk_3, sk_4, sk_5, sk_6, sk_7, sk_8, sk_9, sk_10, sk_11, sk_12, sk_13, sk_14, sk_15, sk_16, sk_17, sk_18, sk_19, sk_20, sk_21, sk_22, sk_23, sk_24, sk_25, sk_26, sk_27, sk_28, sk_29, sk_30, sk_31, sk_32, sk_33, sk_34, sk_35, sk_36, sk_37, sk_38, sk_39, sk_40, sk_41, sk_42, sk_43, sk_44, sk_45, sk_46, sk_47, sk_48, sk_49, sk_50, sk_51, sk_52, sk_53, sn_0, sn_1, sn_2, sn_3, sn_4, sn_5, sn_6, sn_7, sn_8, sn_9, sn_10, sn_11, sn_12, sn_13, sn_14, sn_15, sn_16, sn_17, sn_18, sn_19, sn_20, sn_21, sn_22, sn_23, sn_24, sn_25, sn_26, sn_27, sn_28, sn_29, sn_30, sn_31, sn_32, sn_33, sn_34, sn_35, sn_36, sn_37, sn_38, sn_39, sn_40, sn_41, sn_42, sn_43, sn_44, sn_45, sn_46, sn_47, sn_48, sn_49, sn_50, sn_51, sn_52, sn_53, rf_2_1, rf_2_2, rf_2_3, rf_2_4, rf_1_0, rf_1_1, rf_8_0, rf_7_0, rf_10_0, rf_7_1, rf_12_0, rf_7_2, rf_14_0, rf_7_3, rf_16_1, rf_16_2, rf_16_3, rf_16_4, rf_16_5, rf_16_6, rf_16_7, rf_1_2, rf_24_1, rf_24_2, rf_24_3, rf_24_4, rf_24_5, rf_24_6, rf_24_7, rf_1_3, rf_32_2, rf_32_3, rf_32_4, rf_32_5, rf_32_6, rf_32_7, rf_32_8, rf_32_9, rf_32_10, rf_32_12, rf_32_14, rf_32_15, rf_32_16, rf_32_18, rf_32_19, rf_32_21, rf_32_25, rf_32_26, rf_32_27, rf_32_28, rf_32_30, true_and, and_true, true_or, or_true, or_false, false_or, false_and, and_false, not_true, not_false_iff, ne_eq, and_self, eq_self, if_true, if_false, ite_true, ite_false, Nat.reduceLeDiff, Int.cast_ofNat_Int, Int.reduceLT, Int.reduceLE, Int.reduceEq, Int.reduceNeg, reduceCtorEq, jup_ap, Nat.reduceEqDiff, Nat.reduceAdd, hb]
    rw [hN, if_neg (by omega), show jwr ((k : Int) + 1) = ((k + 1 : Nat) : Int) from jw1 (by omega) (by omega)]
    by_cases hc : key m r < key m (m 6 k)
    · rw [if_neg (fun q => q hc)]
      refine ih (k + 1) (by omega) (by omega) (fun i h1 h2 => ?_)
      by_cases hik : i = k
      · rw [hik]; exact hc
      · exact hI i h1 (by omega)
    · rw [if_pos hc]
      exact hQ k hk0 (by omega) hI (fun _ => hc)
theorem w_R_fileInPlaces (L : Nat) (m : jM) (Q : jV → jG → jM → Prop) (r f : Int) (N : Nat) (hN : m 2 5 = N) (hN2 : N < 250) (hn : m 2 0 ≤ 250) (hkey : ∀ i : Nat, i < N → (ltrV m (m 6 i) r = 0) = ¬ (key m r < key m (m 6 i)))
    (hf0 : f = 0 → f ∉ ar (m 6) N) (hf1 : f ≠ 0 → f ∈ ar (m 6) N)
    (hQ : ∀ m', Fr m m' [2, 6] → m' 2 5 = (N : Int) + 1 → (∀ j, j ≠ 5 → m' 2 j = m 2 j) → ar (m' 6) (N + 1) = (if f = 0 then pS (key m) r (ar (m 6) N) else pF (key m) f r (ar (m 6) N)) → Q jU (g0 L) m') :
    wp 94 0 [jO (some 2), jI r, jI f, jU, jU] [] (g0 L) m Q := by
  have fin : ∀ k0 : Nat, k0 ≤ N → (∀ k : Nat, k0 ≤ k → k ≤ N → (∀ i : Nat, k0 ≤ i → i < k → key m r < key m (m 6 i)) → (k < N → ¬ key m r < key m (m 6 k)) → (ar (m 6) N).take k ++ r :: (ar (m 6) N).drop k = (if f = 0 then pS (key m) r (ar (m 6) N) else pF (key m) f r (ar (m 6) N))) → wp 94 6 [jO (some 2), jI r, jI f, jI (k0 : Int), jU] [] (g0 L) m Q := by
    intro k0 hk0 hres
    refine wl_R_scan L m Q r f jU N k0 hN (by omega) hn hkey (fun k h1 h2 h3 h4 => ?_) (N - k0) k0 (by omega) (Nat.le_refl _) (fun i a b => by omega)
    simp only [x_R_fileInPlaces_34, x_R_fileInPlaces_35, x_R_fileInPlaces_38, hN, sk_0, sk_1, sk_2, sk_3, sk_4, sk_5, sk_6, sk_7, sk_8, sk_9, sk_10, sk_11, sk_12, sk_13, sk_14, sk_15, sk_16, sk_17, sk_18, sk_19, sk_20, sk_21, sk_22, sk_23, sk_24, sk_25, sk_26, sk_27, sk_28, sk_29, sk_30, sk_31, sk_32, sk_33, sk_34, sk_35, sk_36, sk_37, sk_38, sk_39, sk_40, sk_41, sk_42, sk_43, sk_44, sk_45, sk_46, sk_47, sk_48, sk_49, sk_50, sk_51, sk_52, sk_53, sn_0, sn_1, sn_2, sn_3, sn_4, sn_5, sn_6, sn_7, sn_8, sn_9, sn_10, sn_11, sn_12, sn_13, sn_14, sn_15, sn_16, sn_17, sn_18, sn_19, sn_20, sn_21, sn_22, sn_23, sn_24, sn_25, sn_26, sn_27, sn_28, sn_29, sn_30, sn_31, sn_32, sn_33, sn_34, sn_35, sn_36, sn_37, sn_38, sn_39, sn_40, sn_41, sn_42, sn_43, sn_44, sn_45, sn_46, sn_47, sn_48, sn_49, sn_50, sn_51, sn_52, sn_53, rf_2_1, rf_2_2, rf_2_3, rf_2_4, rf_1_0, rf_1_1, rf_8_0, rf_7_0, rf_10_0, rf_7_1, rf_12_0, rf_7_2, rf_14_0, rf_7_3, rf_16_1, rf_16_2, rf_16_3, rf_16_4, rf_16_5, rf_16_6, rf_16_7, rf_1_2, rf_24_1, rf_24_2, rf_24_3, rf_24_4, rf_24_5, rf_24_6, rf_24_7, rf_1_3, rf_32_2, rf_32_3, rf_32_4, rf_32_5, rf_32_6, rf_32_7, rf_32_8, rf_32_9, rf_32_10, rf_32_12, rf_32_14, rf_32_15, rf_32_16, rf_32_18, rf_32_19, rf_32_21, rf_32_25, rf_32_26, rf_32_27, rf_32_28, rf_32_30, true_and, and_true, true_or, or_true, or_false, false_or, false_and, and_false, not_true, not_false_iff, ne_eq, and_self, eq_self, if_true, if_false, ite_true, ite_false, Nat.reduceLeDiff, Int.cast_ofNat_Int, Int.reduceLT, Int.reduceLE, Int.reduceEq, Int.reduceNeg, reduceCtorEq, jup_ap, Nat.reduceEqDiff, Nat.reduceAdd]
    refine wl_R_shift L m Q r f N k hN hN2 h2 (fun m' hF g1 g2 => ?_) (N - k) N m (by omega) (Nat.le_refl _) Fr.rf (fun _ _ => rfl) (fun j a b => by omega)
    have hb : (0 : Int) ≤ (k : Int) ∧ (k : Int) < 250 := by omega
    have e5 : m' 2 5 = N := by rw [hF 2 (by simp)]; exact hN
    simp only [x_R_fileInPlaces_68, x_R_fileInPlaces_69, x_R_fileInPlaces_72, x_R_fileInPlaces_73, x_R_fileInPlaces_74, x_R_fileInPlaces_75, x_R_fileInPlaces_76, x_R_fileInPlaces_77, x_R_fileInPlaces_80, x_R_fileInPlaces_81, x_R_fileInPlaces_82, x_R_fileInPlaces_85, e5, sk_0, sk_1, sk_2, sk_3, sk_4, sk_5, sk_6, sk_7, sk_8, sk_9, sk_10, sk_11, sk_12, sk_13, sk_14, sk_15, sk_16, sk_17, sk_18, sk_19, sk_20, sk_21, sk_22, sk_23, sk_24, sk_25, sk_26, sk_27, sk_28, sk_29, sk_30, sk_31, sk_32, sk_33, sk_34, sk_35, sk_36, sk_37, sk_38, sk_39, sk_40, sk_41, sk_42, sk_43, sk_44, sk_45, sk_46, sk_47, sk_48, sk_49, sk_50, sk_51, sk_52, sk_53, sn_0, sn_1, sn_2, sn_3, sn_4, sn_5, sn_6, sn_7, sn_8, sn_9, sn_10, sn_11, sn_12, sn_13, sn_14, sn_15, sn_16, sn_17, sn_18, sn_19, sn_20, sn_21, sn_22, sn_23, sn_24, sn_25, sn_26, sn_27, sn_28, sn_29, sn_30, sn_31, sn_32, sn_33, sn_34, sn_35, sn_36, sn_37, sn_38, sn_39, sn_40, sn_41, sn_42, sn_43, sn_44, sn_45, sn_46, sn_47, sn_48, sn_49, sn_50, sn_51, sn_52, sn_53, rf_2_1, rf_2_2, rf_2_3, rf_2_4, rf_1_0, rf_1_1, rf_8_0, rf_7_0, rf_10_0, rf_7_1, rf_12_0, rf_7_2, rf_14_0, rf_7_3, rf_16_1, rf_16_2, rf_16_3, rf_16_4, rf_16_5, rf_16_6, rf_16_7, rf_1_2, rf_24_1, rf_24_2, rf_24_3, rf_24_4, rf_24_5, rf_24_6, rf_24_7, rf_1_3, rf_32_2, rf_32_3, rf_32_4, rf_32_5, rf_32_6, rf_32_7, rf_32_8, rf_32_9, rf_32_10, rf_32_12, rf_32_14, rf_32_15, rf_32_16, rf_32_18, rf_32_19, rf_32_21, rf_32_25, rf_32_26, rf_32_27, rf_32_28, rf_32_30, true_and, and_true, true_or, or_true, or_false, false_or, false_and, and_false, not_true, not_false_iff, ne_eq, and_self, eq_self, if_true, if_false, ite_true, ite_false, Nat.reduceLeDiff, Int.cast_ofNat_Int, Int.reduceLT, Int.reduceLE, Int.reduceEq, Int.reduceNeg, reduceCtorEq, jup_ap, Nat.reduceEqDiff, Nat.reduceAdd, hb]
    rw [show jwr ((N : Int) + 1) = (N : Int) + 1 from jw1 (by omega) (by omega)]
    refine hQ _ (((hF.weak (by simp)).up (by simp)).up (by simp)) ?_ (fun j hj => ?_) ?_
    · rw [jup_ap, if_pos ⟨rfl, rfl⟩]
    · rw [jup_ap, if_neg (fun q => hj q.2), jup_ap, if_neg (by omega)]
      exact hF 2 (by simp) j
    · rw [← hres k h1 h2 h3 h4]
      refine ar_ins h2 (fun i hi => ?_) ?_ (fun i hi1 hi2 => ?_)
      · rw [jup_ap, if_neg (by omega), jup_ap, if_neg (by omega)]
        exact g1 i hi
      · rw [jup_ap, if_neg (by omega), jup_ap, if_pos ⟨rfl, rfl⟩]
      · rw [jup_ap, if_neg (by omega), jup_ap, if_neg (by omega)]
        exact g2 i hi1 hi2
  have later : ∀ (k0 k : Nat), k ≤ N → (∀ i : Nat, k0 ≤ i → i < k → key m r < key m (m 6 i)) → ∀ x ∈ ((ar (m 6) N).take k).drop k0, key m r < key m x := by
    intro k0 k hk h x hx
    rw [ar_take _ _ k hk] at hx
    obtain ⟨i, hi⟩ := List.getElem?_of_mem hx
    rw [List.getElem?_drop] at hi
    by_cases hlt : k0 + i < k
    · rw [ar_get hlt] at hi
      rw [← Option.some.inj hi]
      exact h (k0 + i) (by omega) hlt
    · rw [List.getElem?_eq_none (by rw [ar_len]; omega)] at hi
      cases hi
  have stop : ∀ k : Nat, k ≤ N → (k < N → ¬ key m r < key m (m 6 k)) → ∀ x, ((ar (m 6) N).drop k).head? = some x → ¬ key m r < key m x := by
    intro k hk h x hx
    rw [List.head?_drop] at hx
    by_cases hlt : k < N
    · rw [ar_get hlt] at hx
      rw [← Option.some.inj hx]
      exact h hlt
    · rw [List.getElem?_eq_none (by rw [ar_len]; omega)] at hx
      cases hx
  simp only [x_R_fileInPlaces_0, x_R_fileInPlaces_1, x_R_fileInPlaces_2, x_R_firstPlaceBehind_0, x_R_firstPlaceBehind_1, sk_0, sk_1, sk_2, sk_3, sk_4, sk_5, sk_6, sk_7, sk_8, sk_9, sk_10, sk_11, sk_12, sk_13, sk_14, sk_15, sk_16, sk_17, sk_18, sk_19, sk_20, sk_21, sk_22, sk_23, sk_24, sk_25, sk_26, sk_27, sk_28, sk_29, sk_30, sk_31, sk_32, sk_33, sk_34, sk_35, sk_36, sk_37, sk_38, sk_39, sk_40, sk_41, sk_42, sk_43, sk_44, sk_45, sk_46, sk_47, sk_48, sk_49, sk_50, sk_51, sk_52, sk_53, sn_0, sn_1, sn_2, sn_3, sn_4, sn_5, sn_6, sn_7, sn_8, sn_9, sn_10, sn_11, sn_12, sn_13, sn_14, sn_15, sn_16, sn_17, sn_18, sn_19, sn_20, sn_21, sn_22, sn_23, sn_24, sn_25, sn_26, sn_27, sn_28, sn_29, sn_30, sn_31, sn_32, sn_33, sn_34, sn_35, sn_36, sn_37, sn_38, sn_39, sn_40, sn_41, sn_42, sn_43, sn_44, sn_45, sn_46, sn_47, sn_48, sn_49, sn_50, sn_51, sn_52, sn_53, rf_2_1, rf_2_2, rf_2_3, rf_2_4, rf_1_0, rf_1_1, rf_8_0, rf_7_0, rf_10_0, rf_7_1, rf_12_0, rf_7_2, rf_14_0, rf_7_3, rf_16_1, rf_16_2, rf_16_3, rf_16_4, rf_16_5, rf_16_6, rf_16_7, rf_1_2, rf_24_1, rf_24_2, rf_24_3, rf_24_4, rf_24_5, rf_24_6, rf_24_7, rf_1_3, rf_32_2, rf_32_3, rf_32_4, rf_32_5, rf_32_6, rf_32_7, rf_32_8, rf_32_9, rf_32_10, rf_32_12, rf_32_14, rf_32_15, rf_32_16, rf_32_18, rf_32_19, rf_32_21, rf_32_25, rf_32_26, rf_32_27, rf_32_28, rf_32_30, true_and, and_true, true_or, or_true, or_false, false_or, false_and, and_false, not_true, not_false_iff, ne_eq, and_self, eq_self, if_true, if_false, ite_true, ite_false, Nat.reduceLeDiff, Int.cast_ofNat_Int, Int.reduceLT, Int.reduceLE, Int.reduceEq, Int.reduceNeg, reduceCtorEq, jup_ap, Nat.reduceEqDiff, Nat.reduceAdd]
  refine w_R_fpb L f m _ N hN (by omega) (fun hno => ?_) (fun i hi hif hmin => ?_) N 0 (by omega) (fun i hi => by omega)
  · simp only [x_R_fileInPlaces_5]
    have hz : f = 0 := by
      by_cases q : f = 0
      · exact q
      · obtain ⟨i, h1, h2⟩ := ar_mem.mp (hf1 q)
        exact absurd h2 (hno i h1)
    refine fin 0 (Nat.zero_le _) (fun k h1 h2 h3 h4 => ?_)
    rw [if_pos hz]
    have hl := later 0 k h2 h3
    rw [List.drop_zero] at hl
    have := pS_split (stop k h2 h4) _ hl
    rw [List.take_append_drop] at this
    exact this.symm
  · simp only [x_R_fileInPlaces_5]
    have hnz : f ≠ 0 := fun q => hf0 q (ar_mem.mpr ⟨i, hi, hif⟩)
    have := fin (i + 1) (by omega) (fun k h1 h2 h3 h4 => ?_)
    · exact this
    · rw [if_neg hnz]
      obtain ⟨l, hl⟩ : ∃ l, l = ar (m 6) N := ⟨_, rfl⟩
      have hlen : l.length = N := by rw [hl, ar_len]
      have hgi : l[i]? = some f := by rw [hl, ar_get hi, hif]
      have hlat := later (i + 1) k h2 h3
      have hstp := stop k h2 h4
      rw [← hl] at hlat hstp ⊢
      have hsplit : l = l.take i ++ f :: l.drop (i + 1) := by
        have := List.take_append_drop i l
        rw [List.drop_eq_getElem_cons (by omega)] at this
        have hg : l[i]'(by omega) = f := by
          have := List.getElem?_eq_getElem (l := l) (i := i) (by omega)
          rw [hgi] at this
          exact (Option.some.inj this).symm
        rw [hg] at this
        exact this.symm
      have hnin : f ∉ l.take i := by
        intro q
        rw [hl, ar_take _ _ i (by omega)] at q
        obtain ⟨j, h5, h6⟩ := ar_mem.mp q
        exact hmin j h5 h6
      have hd : l.drop (i + 1) = (l.take k).drop (i + 1) ++ l.drop k := by
        conv => lhs; rw [← List.take_append_drop k l]
        rw [List.drop_append_of_le_length (by rw [List.length_take]; omega)]
      have e2 : pF (key m) f r l = l.take i ++ f :: ((l.take k).drop (i + 1) ++ r :: l.drop k) := by
        conv => lhs; rw [hsplit]
        rw [pF_split _ _ hnin, hd, pS_split hstp _ hlat]
      rw [e2]
      have e3 : l.take k = l.take i ++ f :: (l.take k).drop (i + 1) := by
        have h7 : (l.take k) = (l.take k).take (i + 1) ++ (l.take k).drop (i + 1) := (List.take_append_drop _ _).symm
        conv => lhs; rw [h7]
        rw [List.take_take, Nat.min_eq_left (by omega), show i + 1 = i + 1 from rfl, List.take_add_one, hgi]
        simp
      conv => lhs; rw [e3]
      simp
