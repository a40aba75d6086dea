theorem wl_M_find (L : Nat) (m : jM) (Q : jV → jG → jM → Prop) (p i r f : Int) (l5 : jV) (hr : 0 ≤ r ∧ r < 251) (N : Nat) (hN : N ≤ 250) (hf : m 38 r = f) (hf0 : f ≠ 0) (hm : f ∈ ar (m 43) N)
    (hQ : ∀ k : Nat, k < N → m 43 k = f → (∀ j : Nat, j < k → m 43 j ≠ f) → wp 39 62 [jO (some 32), jI p, jI i, jI r, jI (k : Int), l5] [] (g0 L) m Q) :
    ∀ (d k : Nat), k + d = N → (∀ j : Nat, j < k → m 43 j ≠ f) → wp 39 31 [jO (some 32), jI p, jI i, jI r, jI (k : Int), l5] [] (g0 L) m Q := by
  intro d
  induction d with
  | zero =>
    intro k hk hI
    exfalso
    have : k = N := by omega
    subst this
    obtain ⟨j, j1, j2⟩ := ar_mem.mp hm
    exact hI j j1 j2
  | succ d ih =>
    intro k hk hI
    have hb : (0 : Int) ≤ (k : Int) ∧ (k : Int) < 251 := by omega
    have l1 : k < 1000000 := by omega
    rw [x_M_findPlaces_31]
    simp only [x_M_findPlaces_32, x_M_findPlaces_35, x_M_findPlaces_36, x_M_findPlaces_37, x_M_findPlaces_40, x_M_findPlaces_41, x_M_findPlaces_44, x_M_findPlaces_46, x_M_findPlaces_47, x_M_findPlaces_48, x_M_findPlaces_51, x_M_findPlaces_52, x_M_findPlaces_53, x_M_findPlaces_56, x_M_findPlaces_59, hr, hb, hf, hf0, jwS l1, sk_0, sk_1, sk_2, sk_3, sk_4, sk_5, sk_6, sk_7, sk_8, sk_9, sk_10, sk_11, sk_12, sk_13, sk_14, sk_15, sk_16, sk_17, sk_18, sk_19, sk_20, sk_21, sk_22, sk_23, sk_24, sk_25, sk_26, sk_27, sk_28, sk_29, sk_30, sk_31, sk_32, sk_33, sk_34, sk_35, sk_36, sk_37, sk_38, sk_39, sk_40, sk_41, sk_42, sk_43, sk_44, sk_45, sk_46, sk_47, sk_48, sk_49, sk_50, sk_51, sk_52, sk_53, sn_0, sn_1, sn_2, sn_3, sn_4, sn_5, sn_6, sn_7, sn_8, sn_9, sn_10, sn_11, sn_12, sn_13, sn_14, sn_15, sn_16, sn_17, sn_18, sn_19, sn_20, sn_21, sn_22, sn_23, sn_24, sn_25, sn_26, sn_27, sn_28, sn_29, sn_30, sn_31, sn_32, sn_33, sn_34, sn_35, sn_36, sn_37, sn_38, sn_39, sn_40, sn_41, sn_42, sn_43, sn_44, sn_45, sn_46, sn_47, sn_48, sn_49, sn_50, sn_51, sn_52, sn_53, rf_2_1, rf_2_2, rf_2_3, rf_2_4, rf_1_0, rf_1_1, rf_8_0, rf_7_0, rf_10_0, rf_7_1, rf_12_0, rf_7_2, rf_14_0, rf_7_3, rf_16_1, rf_16_2, rf_16_3, rf_16_4, rf_16_5, rf_16_6, rf_16_7, rf_1_2, rf_24_1, rf_24_2, rf_24_3, rf_24_4, rf_24_5, rf_24_6, rf_24_7, rf_1_3, rf_32_2, rf_32_3, rf_32_4, rf_32_5, rf_32_6, rf_32_7, rf_32_8, rf_32_9, rf_32_10, rf_32_12, rf_32_14, rf_32_15, rf_32_16, rf_32_18, rf_32_19, rf_32_21, rf_32_25, rf_32_26, rf_32_27, rf_32_28, rf_32_30, true_and, and_true, true_or, or_true, or_false, false_or, false_and, and_false, not_true, not_false_iff, ne_eq, and_self, eq_self, if_true, if_false, ite_true, ite_false, Nat.reduceLeDiff, Int.cast_ofNat_Int, Int.reduceLT, Int.reduceLE, Int.reduceEq, Int.reduceNeg, reduceCtorEq, jup_ap, Nat.reduceEqDiff, Nat.reduceAdd]
    by_cases e : m 43 k = f
    · rw [if_pos e]
      exact hQ k (by omega) e hI
    · rw [if_neg e]
      refine ih (k + 1) (by omega) (fun j hj => ?_)
      by_cases q : j = k
      · rw [q]; exact e
      · exact hI j (by omega)
theorem wl_M_shift (L : Nat) (m : jM) (Q : jV → jG → jM → Prop) (p i r : Int) (N k : Nat) (hN2 : N < 250) (hk : k ≤ N)
    (hQ : ∀ m', Fr m m' [43] → (∀ i : Nat, i < k → m' 43 i = m 43 i) → (∀ i : Nat, k < i → i ≤ N → m' 43 i = m 43 ((i : Int) - 1)) → wp 39 109 [jO (some 32), jI p, jI i, jI r, jI (k : Int), jI (k : Int)] [] (g0 L) m' Q) :
    ∀ (d j : Nat) (m1 : jM), k + d = j → j ≤ N → Fr m m1 [43] → (∀ x : Nat, x ≤ j → m1 43 x = m 43 x) → (∀ x : Nat, j < x → x ≤ N → m1 43 x = m 43 ((x : Int) - 1)) → wp 39 80 [jO (some 32), jI p, jI i, jI r, jI (k : Int), jI (j : Int)] [] (g0 L) m1 Q := by
  intro d
  induction d with
  | zero =>
    intro j m1 hkj hjN hF h1 h2
    have : j = k := by omega
    subst this
    rw [x_M_findPlaces_80]
    simp only [x_M_findPlaces_82, x_M_findPlaces_84, Int.le_refl, if_true]
    exact hQ m1 hF (fun x hx => h1 x (by omega)) h2
  | succ d ih =>
    intro j m1 hkj hjN hF h1 h2
    have e : ((j : Int) - 1) = ((j - 1 : Nat) : Int) := by omega
    have hb : (0 : Int) ≤ (j : Int) ∧ (j : Int) < 251 := by omega
    have hb2 : (0 : Int) ≤ ((j - 1 : Nat) : Int) ∧ ((j - 1 : Nat) : Int) < 251 := by omega
    have hn : ¬ (j : Int) ≤ (k : Int) := by omega
    have ew : jwr ((j : Int) - 1) = ((j - 1 : Nat) : Int) := by rw [jw1 (by omega) (by omega)]; exact e
    rw [x_M_findPlaces_80]
    simp only [x_M_findPlaces_82, x_M_findPlaces_84, x_M_findPlaces_87, x_M_findPlaces_88, x_M_findPlaces_91, x_M_findPlaces_93, x_M_findPlaces_94, x_M_findPlaces_97, x_M_findPlaces_99, x_M_findPlaces_100, x_M_findPlaces_101, x_M_findPlaces_102, x_M_findPlaces_103, x_M_findPlaces_106, sk_0, sk_1, sk_2, sk_3, sk_4, sk_5, sk_6, sk_7, sk_8, sk_9, sk_10, sk_11, sk_12, sk_13, sk_14, sk_15, sk_16, sk_17, sk_18, sk_19, sk_20, sk_21, sk_22, sk_23, sk_24, sk_25, sk_26, sk_27, sk_28, sk_29, sk_30, sk_31, sk_32, sk_33, sk_34, sk_35, sk_36, sk_37, sk_38, sk_39, sk_40, sk_41, sk_42, sk_43, sk_44, sk_45, sk_46, sk_47, sk_48, sk_49, sk_50, sk_51, sk_52, sk_53, sn_0, sn_1, sn_2, sn_3, sn_4, sn_5, sn_6, sn_7, sn_8, sn_9, sn_10, sn_11, sn_12, sn_13, sn_14, sn_15, sn_16, sn_17, sn_18, sn_19, sn_20, sn_21, sn_22, sn_23, sn_24, sn_25, sn_26, sn_27, sn_28, sn_29, sn_30, sn_31, sn_32, sn_33, sn_34, sn_35, sn_36, sn_37, sn_38, sn_39, sn_40, sn_41, sn_42, sn_43, sn_44, sn_45, sn_46, sn_47, sn_48, sn_49, sn_50, sn_51, sn_52, sn_53, rf_2_1, rf_2_2, rf_2_3, rf_2_4, rf_1_0, rf_1_1, rf_8_0, rf_7_0, rf_10_0, rf_7_1, rf_12_0, rf_7_2, rf_14_0, rf_7_3, rf_16_1, rf_16_2, rf_16_3, rf_16_4, rf_16_5, rf_16_6, rf_16_7, rf_1_2, rf_24_1, rf_24_2, rf_24_3, rf_24_4, rf_24_5, rf_24_6, rf_24_7, rf_1_3, rf_32_2, rf_32_3, rf_32_4, rf_32_5, rf_32_6, rf_32_7, rf_32_8, rf_32_9, rf_32_10, rf_32_12, rf_32_14, rf_32_15, rf_32_16, rf_32_18, rf_32_19, rf_32_21, rf_32_25, rf_32_26, rf_32_27, rf_32_28, rf_32_30, true_and, and_true, true_or, or_true, or_false, false_or, false_and, and_false, not_true, not_false_iff, ne_eq, and_self, eq_self, if_true, if_false, ite_true, ite_false, Nat.reduceLeDiff, Int.cast_ofNat_Int, Int.reduceLT, Int.reduceLE, Int.reduceEq, Int.reduceNeg, reduceCtorEq, jup_ap, Nat.reduceEqDiff, Nat.reduceAdd, hb, hb2, hn, ew, show (j : Int) + -1 = (j : Int) - 1 from rfl]
    clear ew
    refine ih (j - 1) _ (by omega) (by omega) (hF.up (by simp)) (fun x hx => ?_) (fun x hx1 hx2 => ?_)
    · rw [jup_ap, if_neg (by omega)]
      exact h1 x (by omega)
    · rw [jup_ap]
      by_cases hxj : x = j
      · subst hxj
        rw [if_pos ⟨rfl, rfl⟩, h1 (x - 1) (by omega), e]
      · rw [if_neg (by omega)]
        exact h2 x (by omega) hx2
/-- the row r goes into the places, as the latest of all there -/
theorem w_M_put {c m : jM} {n : Nat} (L : Nat) (Q : jV → jG → jM → Prop) (p : Int) (i : Nat) (r : Int) (l5 : jV) (hr : 0 ≤ r ∧ r < 251) (hi : i < 250) (hf : m 38 r = frs c r) (hpl : m 32 13 = (i : Int))
    (hm : frs c r = 0 ∨ frs c r ∈ ar (m 43) i) (hK : ∀ x ∈ ar (m 43) i, ¬ key c r < key c x)
    (hQ : ∀ m' l4 l5, Fr m m' [32, 43] → (∀ j, j ≠ 13 → m' 32 j = m 32 j) → m' 32 13 = ((i + 1 : Nat) : Int) → ar (m' 43) (i + 1) = pI (key c) (frs c) (ar (m 43) i) r → wp 39 13 [jO (some 32), jI p, jI ((i + 1 : Nat) : Int), jI r, l4, l5] [] (g0 L) m' Q) :
    wp 39 31 [jO (some 32), jI p, jI (i : Int), jI r, jI 0, l5] [] (g0 L) m Q := by
  have l1 : i < 1000000 := by omega
  have fin : ∀ k : Nat, k ≤ i → (ar (m 43) i).take k ++ r :: (ar (m 43) i).drop k = pI (key c) (frs c) (ar (m 43) i) r → ∀ l5, wp 39 74 [jO (some 32), jI p, jI (i : Int), jI r, jI (k : Int), l5] [] (g0 L) m Q := fun k hk he l5 => by
    simp only [x_M_findPlaces_74, x_M_findPlaces_75, x_M_findPlaces_78, hpl, sk_0, sk_1, sk_2, sk_3, sk_4, sk_5, sk_6, sk_7, sk_8, sk_9, sk_10, sk_11, sk_12, sk_13, sk_14, sk_15, sk_16, sk_17, sk_18, sk_19, sk_20, sk_21, sk_22, sk_23, sk_24, sk_25, sk_26, sk_27, sk_28, sk_29, sk_30, sk_31, sk_32, sk_33, sk_34, sk_35, sk_36, sk_37, sk_38, sk_39, sk_40, sk_41, sk_42, sk_43, sk_44, sk_45, sk_46, sk_47, sk_48, sk_49, sk_50, sk_51, sk_52, sk_53, sn_0, sn_1, sn_2, sn_3, sn_4, sn_5, sn_6, sn_7, sn_8, sn_9, sn_10, sn_11, sn_12, sn_13, sn_14, sn_15, sn_16, sn_17, sn_18, sn_19, sn_20, sn_21, sn_22, sn_23, sn_24, sn_25, sn_26, sn_27, sn_28, sn_29, sn_30, sn_31, sn_32, sn_33, sn_34, sn_35, sn_36, sn_37, sn_38, sn_39, sn_40, sn_41, sn_42, sn_43, sn_44, sn_45, sn_46, sn_47, sn_48, sn_49, sn_50, sn_51, sn_52, sn_53, rf_2_1, rf_2_2, rf_2_3, rf_2_4, rf_1_0, rf_1_1, rf_8_0, rf_7_0, rf_10_0, rf_7_1, rf_12_0, rf_7_2, rf_14_0, rf_7_3, rf_16_1, rf_16_2, rf_16_3, rf_16_4, rf_16_5, rf_16_6, rf_16_7, rf_1_2, rf_24_1, rf_24_2, rf_24_3, rf_24_4, rf_24_5, rf_24_6, rf_24_7, rf_1_3, rf_32_2, rf_32_3, rf_32_4, rf_32_5, rf_32_6, rf_32_7, rf_32_8, rf_32_9, rf_32_10, rf_32_12, rf_32_14, rf_32_15, rf_32_16, rf_32_18, rf_32_19, rf_32_21, rf_32_25, rf_32_26, rf_32_27, rf_32_28, rf_32_30, true_and, and_true, true_or, or_true, or_false, false_or, false_and, and_false, not_true, not_false_iff, ne_eq, and_self, eq_self, if_true, if_false, ite_true, ite_false, Nat.reduceLeDiff, Int.cast_ofNat_Int, Int.reduceLT, Int.reduceLE, Int.reduceEq, Int.reduceNeg, reduceCtorEq, jup_ap, Nat.reduceEqDiff, Nat.reduceAdd]
    refine wl_M_shift L m Q p i r i k hi hk (fun m1 hF g1 g2 => ?_) (i - k) i m (by omega) (Nat.le_refl _) Fr.rf (fun _ _ => rfl) (fun x a b => by omega)
    have hb : (0 : Int) ≤ (k : Int) ∧ (k : Int) < 251 := by omega
    have e5 : m1 32 13 = (i : Int) := by rw [hF 32 (by simp)]; exact hpl
    simp only [x_M_findPlaces_109, x_M_findPlaces_110, x_M_findPlaces_113, x_M_findPlaces_115, x_M_findPlaces_116, x_M_findPlaces_117, x_M_findPlaces_118, x_M_findPlaces_119, x_M_findPlaces_122, x_M_findPlaces_123, x_M_findPlaces_124, x_M_findPlaces_127, x_M_findPlaces_130, e5, hb, jwS l1, sk_0, sk_1, sk_2, sk_3, sk_4, sk_5, sk_6, sk_7, sk_8, sk_9, sk_10, sk_11, sk_12, sk_13, sk_14, sk_15, sk_16, sk_17, sk_18, sk_19, sk_20, sk_21, sk_22, sk_23, sk_24, sk_25, sk_26, sk_27, sk_28, sk_29, sk_30, sk_31, sk_32, sk_33, sk_34, sk_35, sk_36, sk_37, sk_38, sk_39, sk_40, sk_41, sk_42, sk_43, sk_44, sk_45, sk_46, sk_47, sk_48, sk_49, sk_50, sk_51, sk_52, sk_53, sn_0, sn_1, sn_2, sn_3, sn_4, sn_5, sn_6, sn_7, sn_8, sn_9, sn_10, sn_11, sn_12, sn_13, sn_14, sn_15, sn_16, sn_17, sn_18, sn_19, sn_20, sn_21, sn_22, sn_23, sn_24, sn_25, sn_26, sn_27, sn_28, sn_29, sn_30, sn_31, sn_32, sn_33, sn_34, sn_35, sn_36, sn_37, sn_38, sn_39, sn_40, sn_41, sn_42, sn_43, sn_44, sn_45, sn_46, sn_47, sn_48, sn_49, sn_50, sn_51, sn_52, sn_53, rf_2_1, rf_2_2, rf_2_3, rf_2_4, rf_1_0, rf_1_1, rf_8_0, rf_7_0, rf_10_0, rf_7_1, rf_12_0, rf_7_2, rf_14_0, rf_7_3, rf_16_1, rf_16_2, rf_16_3, rf_16_4, rf_16_5, rf_16_6, rf_16_7, rf_1_2, rf_24_1, rf_24_2, rf_24_3, rf_24_4, rf_24_5, rf_24_6, rf_24_7, rf_1_3, rf_32_2, rf_32_3, rf_32_4, rf_32_5, rf_32_6, rf_32_7, rf_32_8, rf_32_9, rf_32_10, rf_32_12, rf_32_14, rf_32_15, rf_32_16, rf_32_18, rf_32_19, rf_32_21, rf_32_25, rf_32_26, rf_32_27, rf_32_28, rf_32_30, true_and, and_true, true_or, or_true, or_false, false_or, false_and, and_false, not_true, not_false_iff, ne_eq, and_self, eq_self, if_true, if_false, ite_true, ite_false, Nat.reduceLeDiff, Int.cast_ofNat_Int, Int.reduceLT, Int.reduceLE, Int.reduceEq, Int.reduceNeg, reduceCtorEq, jup_ap, Nat.reduceEqDiff, Nat.reduceAdd]
    refine hQ _ _ _ (((hF.weak (by simp)).up (by simp)).up (by simp)) (fun j hj => ?_) (by rw [jup_ap, if_pos ⟨rfl, rfl⟩]) ?_
    · rw [jup_ap, if_neg (fun q => hj q.2), jup_ap, if_neg (by omega)]
      exact hF 32 (by simp) j
    · rw [← he]
      refine ar_ins hk (fun x hx => ?_) ?_ (fun x hx1 hx2 => ?_)
      · rw [jup_ap, if_neg (by omega), jup_ap, if_neg (by omega)]
        exact g1 x hx
      · rw [jup_ap, if_neg (by omega), jup_ap, if_pos ⟨rfl, rfl⟩]
      · rw [jup_ap, if_neg (by omega), jup_ap, if_neg (by omega)]
        exact g2 x hx1 hx2
  have hps : ∀ w : List Int, (∀ x ∈ w, x ∈ ar (m 43) i) → pS (key c) r w = r :: w := fun w hw => by
    cases w with
    | nil => rfl
    | cons x w =>
      unfold pS
      rw [if_neg (hK x (hw x List.mem_cons_self))]
  by_cases h0 : frs c r = 0
  · rw [x_M_findPlaces_31]
    rw [h0] at hf
    simp only [x_M_findPlaces_32, x_M_findPlaces_35, x_M_findPlaces_36, x_M_findPlaces_37, x_M_findPlaces_62, x_M_findPlaces_63, x_M_findPlaces_66, x_M_findPlaces_67, x_M_findPlaces_68, hr, hf, sk_0, sk_1, sk_2, sk_3, sk_4, sk_5, sk_6, sk_7, sk_8, sk_9, sk_10, sk_11, sk_12, sk_13, sk_14, sk_15, sk_16, sk_17, sk_18, sk_19, sk_20, sk_21, sk_22, sk_23, sk_24, sk_25, sk_26, sk_27, sk_28, sk_29, sk_30, sk_31, sk_32, sk_33, sk_34, sk_35, sk_36, sk_37, sk_38, sk_39, sk_40, sk_41, sk_42, sk_43, sk_44, sk_45, sk_46, sk_47, sk_48, sk_49, sk_50, sk_51, sk_52, sk_53, sn_0, sn_1, sn_2, sn_3, sn_4, sn_5, sn_6, sn_7, sn_8, sn_9, sn_10, sn_11, sn_12, sn_13, sn_14, sn_15, sn_16, sn_17, sn_18, sn_19, sn_20, sn_21, sn_22, sn_23, sn_24, sn_25, sn_26, sn_27, sn_28, sn_29, sn_30, sn_31, sn_32, sn_33, sn_34, sn_35, sn_36, sn_37, sn_38, sn_39, sn_40, sn_41, sn_42, sn_43, sn_44, sn_45, sn_46, sn_47, sn_48, sn_49, sn_50, sn_51, sn_52, sn_53, rf_2_1, rf_2_2, rf_2_3, rf_2_4, rf_1_0, rf_1_1, rf_8_0, rf_7_0, rf_10_0, rf_7_1, rf_12_0, rf_7_2, rf_14_0, rf_7_3, rf_16_1, rf_16_2, rf_16_3, rf_16_4, rf_16_5, rf_16_6, rf_16_7, rf_1_2, rf_24_1, rf_24_2, rf_24_3, rf_24_4, rf_24_5, rf_24_6, rf_24_7, rf_1_3, rf_32_2, rf_32_3, rf_32_4, rf_32_5, rf_32_6, rf_32_7, rf_32_8, rf_32_9, rf_32_10, rf_32_12, rf_32_14, rf_32_15, rf_32_16, rf_32_18, rf_32_19, rf_32_21, rf_32_25, rf_32_26, rf_32_27, rf_32_28, rf_32_30, true_and, and_true, true_or, or_true, or_false, false_or, false_and, and_false, not_true, not_false_iff, ne_eq, and_self, eq_self, if_true, if_false, ite_true, ite_false, Nat.reduceLeDiff, Int.cast_ofNat_Int, Int.reduceLT, Int.reduceLE, Int.reduceEq, Int.reduceNeg, reduceCtorEq, jup_ap, Nat.reduceEqDiff, Nat.reduceAdd]
    refine fin 0 (Nat.zero_le _) ?_ _
    unfold pI
    rw [if_pos h0, hps _ (fun _ hx => hx)]
    simp
  · refine wl_M_find L m Q p i r (frs c r) l5 hr i (by omega) hf h0 (hm.resolve_left h0) (fun k k1 k2 k3 => ?_) i 0 (by omega) (fun j hj => by omega)
    have l2 : k < 1000000 := by omega
    simp only [x_M_findPlaces_62, x_M_findPlaces_63, x_M_findPlaces_66, x_M_findPlaces_67, x_M_findPlaces_68, x_M_findPlaces_71, hr, hf, h0, jwS l2, sk_0, sk_1, sk_2, sk_3, sk_4, sk_5, sk_6, sk_7, sk_8, sk_9, sk_10, sk_11, sk_12, sk_13, sk_14, sk_15, sk_16, sk_17, sk_18, sk_19, sk_20, sk_21, sk_22, sk_23, sk_24, sk_25, sk_26, sk_27, sk_28, sk_29, sk_30, sk_31, sk_32, sk_33, sk_34, sk_35, sk_36, sk_37, sk_38, sk_39, sk_40, sk_41, sk_42, sk_43, sk_44, sk_45, sk_46, sk_47, sk_48, sk_49, sk_50, sk_51, sk_52, sk_53, sn_0, sn_1, sn_2, sn_3, sn_4, sn_5, sn_6, sn_7, sn_8, sn_9, sn_10, sn_11, sn_12, sn_13, sn_14, sn_15, sn_16, sn_17, sn_18, sn_19, sn_20, sn_21, sn_22, sn_23, sn_24, sn_25, sn_26, sn_27, sn_28, sn_29, sn_30, sn_31, sn_32, sn_33, sn_34, sn_35, sn_36, sn_37, sn_38, sn_39, sn_40, sn_41, sn_42, sn_43, sn_44, sn_45, sn_46, sn_47, sn_48, sn_49, sn_50, sn_51, sn_52, sn_53, rf_2_1, rf_2_2, rf_2_3, rf_2_4, rf_1_0, rf_1_1, rf_8_0, rf_7_0, rf_10_0, rf_7_1, rf_12_0, rf_7_2, rf_14_0, rf_7_3, rf_16_1, rf_16_2, rf_16_3, rf_16_4, rf_16_5, rf_16_6, rf_16_7, rf_1_2, rf_24_1, rf_24_2, rf_24_3, rf_24_4, rf_24_5, rf_24_6, rf_24_7, rf_1_3, rf_32_2, rf_32_3, rf_32_4, rf_32_5, rf_32_6, rf_32_7, rf_32_8, rf_32_9, rf_32_10, rf_32_12, rf_32_14, rf_32_15, rf_32_16, rf_32_18, rf_32_19, rf_32_21, rf_32_25, rf_32_26, rf_32_27, rf_32_28, rf_32_30, true_and, and_true, true_or, or_true, or_false, false_or, false_and, and_false, not_true, not_false_iff, ne_eq, and_self, eq_self, if_true, if_false, ite_true, ite_false, Nat.reduceLeDiff, Int.cast_ofNat_Int, Int.reduceLT, Int.reduceLE, Int.reduceEq, Int.reduceNeg, reduceCtorEq, jup_ap, Nat.reduceEqDiff, Nat.reduceAdd]
    refine fin (k + 1) (by omega) ?_ _
    unfold pI
    rw [if_neg h0]
    obtain ⟨P, hP⟩ : ∃ P, P = ar (m 43) i := ⟨_, rfl⟩
    have hl : P.length = i := by rw [hP, ar_len]
    have hkl : k < P.length := by rw [hl]; exact k1
    have hg : P[k]'hkl = frs c r := by
      have h1 := List.getElem?_eq_getElem (l := P) (i := k) hkl
      have h3 : P[k]? = some (frs c r) := by rw [hP, ar_get k1, k2]
      rw [h3] at h1
      exact (Option.some.inj h1).symm
    have e : P = P.take k ++ frs c r :: P.drop (k + 1) := by
      have h1 := List.take_append_drop k P
      rw [List.drop_eq_getElem_cons hkl, hg] at h1
      exact h1.symm
    have hnu : frs c r ∉ P.take k := fun q => by
      rw [hP, ar_take _ _ k (by omega)] at q
      obtain ⟨j, j1, j2⟩ := ar_mem.mp q
      exact k3 j j1 j2
    rw [← hP] at hps ⊢
    conv => rhs; rw [e]
    rw [pF_split _ _ hnu, hps _ (fun x hx => List.mem_of_mem_drop hx), List.take_succ, List.getElem?_eq_getElem hkl, hg]
    simp
theorem wl_M_fp {c m : jM} {n : Nat} (h : CI c n) (hM : MB c m n) (L : Nat) (p : Int) (N : Nat) (hNn : N ≤ n) (hN : m 32 20 = (N : Int)) (hb : ∀ j : Nat, j < N → 1 ≤ m 48 j ∧ m 48 j ≤ n) (hok : pOk (frs c) [] (ar (m 48) N)) (hs : (ar (m 48) N).Pairwise (fun x y => key c x ≤ key c y)) (Q : jV → jG → jM → Prop)
    (hQ : ∀ m' l3 l4 l5, Fr m m' [32, 43] → (∀ j, j ≠ 13 → m' 32 j = m 32 j) → m' 32 13 = (N : Int) → ar (m' 43) N = (ar (m 48) N).foldl (pI (key c) (frs c)) [] → wp 39 133 [jO (some 32), jI p, jI (N : Int), l3, l4, l5] [] (g0 L) m' Q) :
    ∀ (d i : Nat) (l3 l4 l5 : jV) (m1 : jM), i + d = N → Fr m m1 [32, 43] → (∀ j, j ≠ 13 → m1 32 j = m 32 j) → m1 32 13 = (i : Int) → ar (m1 43) i = (ar (m 48) i).foldl (pI (key c) (frs c)) [] → wp 39 13 [jO (some 32), jI p, jI (i : Int), l3, l4, l5] [] (g0 L) m1 Q := by
  have h2 := h.2.1
  intro d
  induction d with
  | zero =>
    intro i l3 l4 l5 m1 hi hF hf hpl hI
    have : i = N := by omega
    subst this
    have e0 : m1 32 20 = (i : Int) := by rw [hf 20 (by decide)]; exact hN
    rw [x_M_findPlaces_13]
    simp only [x_M_findPlaces_14, x_M_findPlaces_15, x_M_findPlaces_18, e0, Int.le_refl, sk_0, sk_1, sk_2, sk_3, sk_4, sk_5, sk_6, sk_7, sk_8, sk_9, sk_10, sk_11, sk_12, sk_13, sk_14, sk_15, sk_16, sk_17, sk_18, sk_19, sk_20, sk_21, sk_22, sk_23, sk_24, sk_25, sk_26, sk_27, sk_28, sk_29, sk_30, sk_31, sk_32, sk_33, sk_34, sk_35, sk_36, sk_37, sk_38, sk_39, sk_40, sk_41, sk_42, sk_43, sk_44, sk_45, sk_46, sk_47, sk_48, sk_49, sk_50, sk_51, sk_52, sk_53, sn_0, sn_1, sn_2, sn_3, sn_4, sn_5, sn_6, sn_7, sn_8, sn_9, sn_10, sn_11, sn_12, sn_13, sn_14, sn_15, sn_16, sn_17, sn_18, sn_19, sn_20, sn_21, sn_22, sn_23, sn_24, sn_25, sn_26, sn_27, sn_28, sn_29, sn_30, sn_31, sn_32, sn_33, sn_34, sn_35, sn_36, sn_37, sn_38, sn_39, sn_40, sn_41, sn_42, sn_43, sn_44, sn_45, sn_46, sn_47, sn_48, sn_49, sn_50, sn_51, sn_52, sn_53, rf_2_1, rf_2_2, rf_2_3, rf_2_4, rf_1_0, rf_1_1, rf_8_0, rf_7_0, rf_10_0, rf_7_1, rf_12_0, rf_7_2, rf_14_0, rf_7_3, rf_16_1, rf_16_2, rf_16_3, rf_16_4, rf_16_5, rf_16_6, rf_16_7, rf_1_2, rf_24_1, rf_24_2, rf_24_3, rf_24_4, rf_24_5, rf_24_6, rf_24_7, rf_1_3, rf_32_2, rf_32_3, rf_32_4, rf_32_5, rf_32_6, rf_32_7, rf_32_8, rf_32_9, rf_32_10, rf_32_12, rf_32_14, rf_32_15, rf_32_16, rf_32_18, rf_32_19, rf_32_21, rf_32_25, rf_32_26, rf_32_27, rf_32_28, rf_32_30, true_and, and_true, true_or, or_true, or_false, false_or, false_and, and_false, not_true, not_false_iff, ne_eq, and_self, eq_self, if_true, if_false, ite_true, ite_false, Nat.reduceLeDiff, Int.cast_ofNat_Int, Int.reduceLT, Int.reduceLE, Int.reduceEq, Int.reduceNeg, reduceCtorEq, jup_ap, Nat.reduceEqDiff, Nat.reduceAdd]
    exact hQ m1 l3 l4 l5 hF hf hpl hI
  | succ d ih =>
    intro i l3 l4 l5 m1 hi hF hf hpl hI
    have e0 : m1 32 20 = (N : Int) := by rw [hf 20 (by decide)]; exact hN
    have hlt : ¬ (N : Int) ≤ (i : Int) := by omega
    have hbi : (0 : Int) ≤ (i : Int) ∧ (i : Int) < 251 := by omega
    have e1 : m1 48 i = m 48 i := hF 48 (by simp) i
    obtain ⟨r, hr⟩ : ∃ r, r = m 48 i := ⟨_, rfl⟩
    have hrb : 1 ≤ r ∧ r ≤ n := by rw [hr]; exact hb i (by omega)
    have hM1 : MB c m1 n := hM.mk ⟨fun b hb j => hF b (by simp; omega) j, hf 1 (by decide)⟩
    rw [← hr] at e1
    have hsplit : ar (m 48) (i + 1) = ar (m 48) i ++ [r] := by rw [ar_succ, hr]
    have htk : ar (m 48) N = ar (m 48) i ++ r :: (ar (m 48) N).drop (i + 1) := by
      have h1 := List.take_append_drop (i + 1) (ar (m 48) N)
      rw [ar_take _ _ (i + 1) (by omega), hsplit, List.append_assoc] at h1
      exact h1.symm
    rw [x_M_findPlaces_13]
    simp only [x_M_findPlaces_14, x_M_findPlaces_15, x_M_findPlaces_18, x_M_findPlaces_21, x_M_findPlaces_22, x_M_findPlaces_25, x_M_findPlaces_26, x_M_findPlaces_27, x_M_findPlaces_28, x_M_findPlaces_29, e0, e1, hlt, hbi, sk_0, sk_1, sk_2, sk_3, sk_4, sk_5, sk_6, sk_7, sk_8, sk_9, sk_10, sk_11, sk_12, sk_13, sk_14, sk_15, sk_16, sk_17, sk_18, sk_19, sk_20, sk_21, sk_22, sk_23, sk_24, sk_25, sk_26, sk_27, sk_28, sk_29, sk_30, sk_31, sk_32, sk_33, sk_34, sk_35, sk_36, sk_37, sk_38, sk_39, sk_40, sk_41, sk_42, sk_43, sk_44, sk_45, sk_46, sk_47, sk_48, sk_49, sk_50, sk_51, sk_52, sk_53, sn_0, sn_1, sn_2, sn_3, sn_4, sn_5, sn_6, sn_7, sn_8, sn_9, sn_10, sn_11, sn_12, sn_13, sn_14, sn_15, sn_16, sn_17, sn_18, sn_19, sn_20, sn_21, sn_22, sn_23, sn_24, sn_25, sn_26, sn_27, sn_28, sn_29, sn_30, sn_31, sn_32, sn_33, sn_34, sn_35, sn_36, sn_37, sn_38, sn_39, sn_40, sn_41, sn_42, sn_43, sn_44, sn_45, sn_46, sn_47, sn_48, sn_49, sn_50, sn_51, sn_52, sn_53, rf_2_1, rf_2_2, rf_2_3, rf_2_4, rf_1_0, rf_1_1, rf_8_0, rf_7_0, rf_10_0, rf_7_1, rf_12_0, rf_7_2, rf_14_0, rf_7_3, rf_16_1, rf_16_2, rf_16_3, rf_16_4, rf_16_5, rf_16_6, rf_16_7, rf_1_2, rf_24_1, rf_24_2, rf_24_3, rf_24_4, rf_24_5, rf_24_6, rf_24_7, rf_1_3, rf_32_2, rf_32_3, rf_32_4, rf_32_5, rf_32_6, rf_32_7, rf_32_8, rf_32_9, rf_32_10, rf_32_12, rf_32_14, rf_32_15, rf_32_16, rf_32_18, rf_32_19, rf_32_21, rf_32_25, rf_32_26, rf_32_27, rf_32_28, rf_32_30, true_and, and_true, true_or, or_true, or_false, false_or, false_and, and_false, not_true, not_false_iff, ne_eq, and_self, eq_self, if_true, if_false, ite_true, ite_false, Nat.reduceLeDiff, Int.cast_ofNat_Int, Int.reduceLT, Int.reduceLE, Int.reduceEq, Int.reduceNeg, reduceCtorEq, jup_ap, Nat.reduceEqDiff, Nat.reduceAdd]
    refine w_M_put (c := c) (n := n) L Q p i r l5 (by omega) (by omega) (hM1.2.1 r hrb.1 hrb.2).2.2.2.2.2.1 hpl ?_ (fun x hx => ?_) (fun m2 l4 l5 hF2 hf2 g1 g2 => ?_)
    · rw [htk, pOk_app] at hok
      rcases hok.2.1 with q | q
      · exact Or.inl q
      · right
        rw [hI, p_mem]
        left
        rw [List.append_nil, List.mem_reverse] at q
        exact q
    · rw [hI] at hx
      rw [htk, List.pairwise_append] at hs
      rcases (p_mem _ _).mp hx with q | q
      · have := hs.2.2 x q r List.mem_cons_self
        omega
      · cases q
    · refine ih (i + 1) _ l4 l5 m2 (by omega) (hF.trans hF2) (fun j hj => by rw [hf2 j hj]; exact hf j hj) g1 ?_
      rw [g2, hsplit, List.foldl_append, hI]
      rfl
theorem wl_M_wh (L : Nat) (m : jM) (Q : jV → jG → jM → Prop) (p : Int) (l3 l4 l5 : jV) (N : Nat) (hN : N ≤ 250) (hpl : m 32 13 = (N : Int)) (hb : ∀ j : Nat, j < N → 1 ≤ m 43 j ∧ m 43 j ≤ 250) (hi : ∀ j k : Nat, j < N → k < N → m 43 j = m 43 k → j = k)
    (hQ : ∀ m', Fr m m' [44] → (∀ j : Nat, j < N → m' 44 (m 43 j) = (j : Int)) → Q jU (g0 L) m') :
    ∀ (d i : Nat) (m1 : jM), i + d = N → Fr m m1 [44] → (∀ j : Nat, j < i → m1 44 (m 43 j) = (j : Int)) → wp 39 135 [jO (some 32), jI p, jI (i : Int), l3, l4, l5] [] (g0 L) m1 Q := by
  intro d
  induction d with
  | zero =>
    intro i m1 h1 hF hI
    have : i = N := by omega
    subst this
    have e0 : m1 32 13 = (i : Int) := by rw [hF 32 (by simp)]; exact hpl
    rw [x_M_findPlaces_135]
    simp only [x_M_findPlaces_136, x_M_findPlaces_137, x_M_findPlaces_140, x_M_findPlaces_161, e0, Int.le_refl, sk_0, sk_1, sk_2, sk_3, sk_4, sk_5, sk_6, sk_7, sk_8, sk_9, sk_10, sk_11, sk_12, sk_13, sk_14, sk_15, sk_16, sk_17, sk_18, sk_19, sk_20, sk_21, sk_22, sk_23, sk_24, sk_25, sk_26, sk_27, sk_28, sk_29, sk_30, sk_31, sk_32, sk_33, sk_34, sk_35, sk_36, sk_37, sk_38, sk_39, sk_40, sk_41, sk_42, sk_43, sk_44, sk_45, sk_46, sk_47, sk_48, sk_49, sk_50, sk_51, sk_52, sk_53, sn_0, sn_1, sn_2, sn_3, sn_4, sn_5, sn_6, sn_7, sn_8, sn_9, sn_10, sn_11, sn_12, sn_13, sn_14, sn_15, sn_16, sn_17, sn_18, sn_19, sn_20, sn_21, sn_22, sn_23, sn_24, sn_25, sn_26, sn_27, sn_28, sn_29, sn_30, sn_31, sn_32, sn_33, sn_34, sn_35, sn_36, sn_37, sn_38, sn_39, sn_40, sn_41, sn_42, sn_43, sn_44, sn_45, sn_46, sn_47, sn_48, sn_49, sn_50, sn_51, sn_52, sn_53, rf_2_1, rf_2_2, rf_2_3, rf_2_4, rf_1_0, rf_1_1, rf_8_0, rf_7_0, rf_10_0, rf_7_1, rf_12_0, rf_7_2, rf_14_0, rf_7_3, rf_16_1, rf_16_2, rf_16_3, rf_16_4, rf_16_5, rf_16_6, rf_16_7, rf_1_2, rf_24_1, rf_24_2, rf_24_3, rf_24_4, rf_24_5, rf_24_6, rf_24_7, rf_1_3, rf_32_2, rf_32_3, rf_32_4, rf_32_5, rf_32_6, rf_32_7, rf_32_8, rf_32_9, rf_32_10, rf_32_12, rf_32_14, rf_32_15, rf_32_16, rf_32_18, rf_32_19, rf_32_21, rf_32_25, rf_32_26, rf_32_27, rf_32_28, rf_32_30, true_and, and_true, true_or, or_true, or_false, false_or, false_and, and_false, not_true, not_false_iff, ne_eq, and_self, eq_self, if_true, if_false, ite_true, ite_false, Nat.reduceLeDiff, Int.cast_ofNat_Int, Int.reduceLT, Int.reduceLE, Int.reduceEq, Int.reduceNeg, reduceCtorEq, jup_ap, Nat.reduceEqDiff, Nat.reduceAdd]
    exact hQ m1 hF hI
  | succ d ih =>
    intro i m1 h1 hF hI
    have e0 : m1 32 13 = (N : Int) := by rw [hF 32 (by simp)]; exact hpl
    have hlt : ¬ (N : Int) ≤ (i : Int) := by omega
    have hbi : (0 : Int) ≤ (i : Int) ∧ (i : Int) < 251 := by omega
    have e1 : m1 43 i = m 43 i := hF 43 (by simp) i
    have hbb := hb i (by omega)
    have hbc : 0 ≤ m 43 i ∧ m 43 i < 251 := by omega
    have l1 : i < 1000000 := by omega
    rw [x_M_findPlaces_135]
    simp only [x_M_findPlaces_136, x_M_findPlaces_137, x_M_findPlaces_140, x_M_findPlaces_143, x_M_findPlaces_144, x_M_findPlaces_147, x_M_findPlaces_148, x_M_findPlaces_151, x_M_findPlaces_152, x_M_findPlaces_153, x_M_findPlaces_154, x_M_findPlaces_155, x_M_findPlaces_158, e0, e1, hlt, hbi, hbc, jwS l1, sk_0, sk_1, sk_2, sk_3, sk_4, sk_5, sk_6, sk_7, sk_8, sk_9, sk_10, sk_11, sk_12, sk_13, sk_14, sk_15, sk_16, sk_17, sk_18, sk_19, sk_20, sk_21, sk_22, sk_23, sk_24, sk_25, sk_26, sk_27, sk_28, sk_29, sk_30, sk_31, sk_32, sk_33, sk_34, sk_35, sk_36, sk_37, sk_38, sk_39, sk_40, sk_41, sk_42, sk_43, sk_44, sk_45, sk_46, sk_47, sk_48, sk_49, sk_50, sk_51, sk_52, sk_53, sn_0, sn_1, sn_2, sn_3, sn_4, sn_5, sn_6, sn_7, sn_8, sn_9, sn_10, sn_11, sn_12, sn_13, sn_14, sn_15, sn_16, sn_17, sn_18, sn_19, sn_20, sn_21, sn_22, sn_23, sn_24, sn_25, sn_26, sn_27, sn_28, sn_29, sn_30, sn_31, sn_32, sn_33, sn_34, sn_35, sn_36, sn_37, sn_38, sn_39, sn_40, sn_41, sn_42, sn_43, sn_44, sn_45, sn_46, sn_47, sn_48, sn_49, sn_50, sn_51, sn_52, sn_53, rf_2_1, rf_2_2, rf_2_3, rf_2_4, rf_1_0, rf_1_1, rf_8_0, rf_7_0, rf_10_0, rf_7_1, rf_12_0, rf_7_2, rf_14_0, rf_7_3, rf_16_1, rf_16_2, rf_16_3, rf_16_4, rf_16_5, rf_16_6, rf_16_7, rf_1_2, rf_24_1, rf_24_2, rf_24_3, rf_24_4, rf_24_5, rf_24_6, rf_24_7, rf_1_3, rf_32_2, rf_32_3, rf_32_4, rf_32_5, rf_32_6, rf_32_7, rf_32_8, rf_32_9, rf_32_10, rf_32_12, rf_32_14, rf_32_15, rf_32_16, rf_32_18, rf_32_19, rf_32_21, rf_32_25, rf_32_26, rf_32_27, rf_32_28, rf_32_30, true_and, and_true, true_or, or_true, or_false, false_or, false_and, and_false, not_true, not_false_iff, ne_eq, and_self, eq_self, if_true, if_false, ite_true, ite_false, Nat.reduceLeDiff, Int.cast_ofNat_Int, Int.reduceLT, Int.reduceLE, Int.reduceEq, Int.reduceNeg, reduceCtorEq, jup_ap, Nat.reduceEqDiff, Nat.reduceAdd]
    refine ih (i + 1) _ (by omega) (hF.up (by simp)) (fun j hj => ?_)
    rw [jup_ap]
    by_cases e : j = i
    · rw [e, if_pos ⟨rfl, rfl⟩]
    · rw [if_neg (fun q => e (hi j i (by omega) (by omega) q.2))]
      exact hI j (by omega)
theorem KL_len {c : jM} {n : Nat} (h : CI c n) (a : Nat) : (KLm c a).length ≤ n := Nat.le_trans (List.length_filter_le _ _) h.pl25
theorem w_M_findPlaces {c m : jM} {n : Nat} (h : CI c n) (hM : MB c m n) (L : Nat) {p : Int} (hp : 0 ≤ p ∧ p < 4) (Q : jV → jG → jM → Prop)
    (hQ : ∀ m' N, Fr m m' [32, 43, 44, 48] → (∀ j, j ≠ 20 → j ≠ 13 → m' 32 j = m 32 j) → N ≤ n → m' 32 13 = (N : Int) → ar (m' 43) N = KLm c (nc p) → (∀ j : Nat, j < N → m' 44 (m' 43 j) = (j : Int)) → Q jU (g0 L) m') : wp 39 0 [jO (some 32), jI p, jU, jU, jU, jU] [] (g0 L) m Q := by
  have h2 := h.2.1
  simp only [x_M_findPlaces_0, x_M_findPlaces_1, x_M_findPlaces_2, x_M_findPlaces_3, sk_0, sk_1, sk_2, sk_3, sk_4, sk_5, sk_6, sk_7, sk_8, sk_9, sk_10, sk_11, sk_12, sk_13, sk_14, sk_15, sk_16, sk_17, sk_18, sk_19, sk_20, sk_21, sk_22, sk_23, sk_24, sk_25, sk_26, sk_27, sk_28, sk_29, sk_30, sk_31, sk_32, sk_33, sk_34, sk_35, sk_36, sk_37, sk_38, sk_39, sk_40, sk_41, sk_42, sk_43, sk_44, sk_45, sk_46, sk_47, sk_48, sk_49, sk_50, sk_51, sk_52, sk_53, sn_0, sn_1, sn_2, sn_3, sn_4, sn_5, sn_6, sn_7, sn_8, sn_9, sn_10, sn_11, sn_12, sn_13, sn_14, sn_15, sn_16, sn_17, sn_18, sn_19, sn_20, sn_21, sn_22, sn_23, sn_24, sn_25, sn_26, sn_27, sn_28, sn_29, sn_30, sn_31, sn_32, sn_33, sn_34, sn_35, sn_36, sn_37, sn_38, sn_39, sn_40, sn_41, sn_42, sn_43, sn_44, sn_45, sn_46, sn_47, sn_48, sn_49, sn_50, sn_51, sn_52, sn_53, rf_2_1, rf_2_2, rf_2_3, rf_2_4, rf_1_0, rf_1_1, rf_8_0, rf_7_0, rf_10_0, rf_7_1, rf_12_0, rf_7_2, rf_14_0, rf_7_3, rf_16_1, rf_16_2, rf_16_3, rf_16_4, rf_16_5, rf_16_6, rf_16_7, rf_1_2, rf_24_1, rf_24_2, rf_24_3, rf_24_4, rf_24_5, rf_24_6, rf_24_7, rf_1_3, rf_32_2, rf_32_3, rf_32_4, rf_32_5, rf_32_6, rf_32_7, rf_32_8, rf_32_9, rf_32_10, rf_32_12, rf_32_14, rf_32_15, rf_32_16, rf_32_18, rf_32_19, rf_32_21, rf_32_25, rf_32_26, rf_32_27, rf_32_28, rf_32_30, true_and, and_true, true_or, or_true, or_false, false_or, false_and, and_false, not_true, not_false_iff, ne_eq, and_self, eq_self, if_true, if_false, ite_true, ite_false, Nat.reduceLeDiff, Int.cast_ofNat_Int, Int.reduceLT, Int.reduceLE, Int.reduceEq, Int.reduceNeg, reduceCtorEq, jup_ap, Nat.reduceEqDiff, Nat.reduceAdd]
  refine w_M_findOrder h hM L hp 0 _ (fun m1 N hF hf hNn hN hO => ?_)
  simp only [x_M_findPlaces_6, x_M_findPlaces_7, x_M_findPlaces_8, x_M_findPlaces_11, x_M_findPlaces_12, sk_0, sk_1, sk_2, sk_3, sk_4, sk_5, sk_6, sk_7, sk_8, sk_9, sk_10, sk_11, sk_12, sk_13, sk_14, sk_15, sk_16, sk_17, sk_18, sk_19, sk_20, sk_21, sk_22, sk_23, sk_24, sk_25, sk_26, sk_27, sk_28, sk_29, sk_30, sk_31, sk_32, sk_33, sk_34, sk_35, sk_36, sk_37, sk_38, sk_39, sk_40, sk_41, sk_42, sk_43, sk_44, sk_45, sk_46, sk_47, sk_48, sk_49, sk_50, sk_51, sk_52, sk_53, sn_0, sn_1, sn_2, sn_3, sn_4, sn_5, sn_6, sn_7, sn_8, sn_9, sn_10, sn_11, sn_12, sn_13, sn_14, sn_15, sn_16, sn_17, sn_18, sn_19, sn_20, sn_21, sn_22, sn_23, sn_24, sn_25, sn_26, sn_27, sn_28, sn_29, sn_30, sn_31, sn_32, sn_33, sn_34, sn_35, sn_36, sn_37, sn_38, sn_39, sn_40, sn_41, sn_42, sn_43, sn_44, sn_45, sn_46, sn_47, sn_48, sn_49, sn_50, sn_51, sn_52, sn_53, rf_2_1, rf_2_2, rf_2_3, rf_2_4, rf_1_0, rf_1_1, rf_8_0, rf_7_0, rf_10_0, rf_7_1, rf_12_0, rf_7_2, rf_14_0, rf_7_3, rf_16_1, rf_16_2, rf_16_3, rf_16_4, rf_16_5, rf_16_6, rf_16_7, rf_1_2, rf_24_1, rf_24_2, rf_24_3, rf_24_4, rf_24_5, rf_24_6, rf_24_7, rf_1_3, rf_32_2, rf_32_3, rf_32_4, rf_32_5, rf_32_6, rf_32_7, rf_32_8, rf_32_9, rf_32_10, rf_32_12, rf_32_14, rf_32_15, rf_32_16, rf_32_18, rf_32_19, rf_32_21, rf_32_25, rf_32_26, rf_32_27, rf_32_28, rf_32_30, true_and, and_true, true_or, or_true, or_false, false_or, false_and, and_false, not_true, not_false_iff, ne_eq, and_self, eq_self, if_true, if_false, ite_true, ite_false, Nat.reduceLeDiff, Int.cast_ofNat_Int, Int.reduceLT, Int.reduceLE, Int.reduceEq, Int.reduceNeg, reduceCtorEq, jup_ap, Nat.reduceEqDiff, Nat.reduceAdd]
  have hM1 : MB c m1 n := hM.mk ⟨fun b hb j => hF b (by simp; omega) j, hf 1 (by decide)⟩
  have hM2 : MB c (jup m1 32 13 0) n := hM1.mk (MK.rf.upf (by decide))
  have eO : ar ((jup m1 32 13 0) 48) N = ar (m1 48) N := ar_congr (fun i _ => by rw [jup_ap, if_neg (by omega)])
  have hbd : ∀ j : Nat, j < N → 1 ≤ m1 48 j ∧ m1 48 j ≤ n := fun j hj => by
    have hm : m1 48 j ∈ ar (m1 48) N := ar_mem.mpr ⟨j, hj, rfl⟩
    rw [hO] at hm
    exact h.oMem.mp (List.mem_filter.mp hm).1
  have hkl := sel_places h hp
  have ok1 : pOk (frs c) [] (ar (m1 48) N) := by
    have hN := (h.2.2.2.2.2.2.2.2.2 p hp.1 hp.2).2.2.1
    rw [hO]
    refine pOk_asc (K := key c) _ _ (h.oSort.filter _) (h.oNodup.filter _) (fun x _ q => by cases q) (fun r hr => ?_)
    obtain ⟨h1, h3⟩ := List.mem_filter.mp hr
    have h4 := h.oMem.mp h1
    unfold sel at h3
    rw [Bool.and_eq_true, decide_eq_true_eq] at h3
    rcases ((h.2.2.1 r h4.1 h4.2).2.2.2.1 h3.1).1 with q | q
    · exact Or.inl q
    · refine Or.inr (Or.inr ⟨List.mem_filter.mpr ⟨h.oMem.mpr ⟨q.1.1, ?_⟩, ?_⟩, q.2⟩)
      · have := q.1.2.1
        show cellV c r 5 ≤ _
        omega
      · unfold sel
        rw [Bool.and_eq_true, decide_eq_true_eq]
        have := q.1.1
        exact ⟨q.1.2.2, (hN r h4.1 h4.2 h3.2).1 (by omega)⟩
  refine wl_M_fp h hM2 L p N hNn (by rw [jup_ap, if_neg (by omega)]; exact hN) (fun j hj => by rw [jup_ap, if_neg (by omega)]; exact hbd j hj) (by rw [eO]; exact ok1) (by rw [eO, hO]; exact h.oSort.filter _) Q (fun m3 l3 l4 l5 hF3 hf3 g1 g2 => ?_) N 0 jU jU jU _ (by omega) Fr.rf (fun _ _ => rfl) (by rw [jup_ap, if_pos ⟨rfl, rfl⟩]; rfl) rfl
  rw [eO, hO, hkl] at g2
  simp only [x_M_findPlaces_133, x_M_findPlaces_134]
  have hnd : (ar (m3 43) N).Nodup := by rw [g2]; exact h.plnd.filter _
  refine wl_M_wh L m3 Q p l3 l4 l5 N (by omega) g1 (fun j hj => ?_) (fun j k hj hk e => ar_inj hnd hj hk e) (fun m4 hF4 hw => hQ m4 N ?_ (fun j j1 j2 => ?_) hNn ?_ ?_ (fun j hj => ?_)) N 0 m3 (by omega) Fr.rf (fun j hj => by omega)
  · have hm : m3 43 j ∈ ar (m3 43) N := ar_mem.mpr ⟨j, hj, rfl⟩
    rw [g2] at hm
    have := (h.plm.mp (List.mem_filter.mp hm).1).1
    omega
  · exact ((hF.weak (by simp)).trans ((fun b hb j => by rw [hF3 b (by simp at hb ⊢; omega), jup_ap, if_neg (by simp at hb; omega)] : Fr m1 m3 [32, 43, 44, 48]))).trans (hF4.weak (by simp))
  · rw [hF4 32 (by simp), hf3 j j2, jup_ap, if_neg (by omega), hf j j1]
  · rw [hF4 32 (by simp)]; exact g1
  · rw [← g2]
    exact ar_congr (fun i _ => hF4 43 (by simp) i)
  · rw [hF4 43 (by simp)]
    exact hw j hj
