theorem wl_V_sameText (L : Nat) (m : jM) (Q : jV → jG → jM → Prop) (s : Nat) (hs : m 16 0 = (s : Int)) (hs2 : s ≤ 250)
    (h1 : (∀ j : Int, 0 ≤ j → j < s → m 18 j = m 26 j ∧ m 19 j = m 27 j) → Q (jI 1) (g0 L) m) (h0 : ¬ (∀ j : Int, 0 ≤ j → j < s → m 18 j = m 26 j ∧ m 19 j = m 27 j) → Q (jI 0) (g0 L) m) :
    ∀ (d : Nat) (i : Int), 0 ≤ i → i + d = s → (∀ j : Int, 0 ≤ j → j < i → m 18 j = m 26 j ∧ m 19 j = m 27 j) → wp 126 15 [jO (some 16), jO (some 24), jI i] [] (g0 L) m Q := by
  intro d
  induction d with
  | zero =>
    intro i h2 h3 hI
    have : i = (s : Int) := by omega
    subst this
    rw [x_V_hasSameText_15]
    simp only [x_V_hasSameText_0, x_V_hasSameText_1, x_V_hasSameText_4, x_V_hasSameText_5, x_V_hasSameText_8, x_V_hasSameText_11, x_V_hasSameText_12, x_V_hasSameText_13, x_V_hasSameText_14, x_V_hasSameText_16, x_V_hasSameText_17, x_V_hasSameText_20, x_V_hasSameText_23, x_V_hasSameText_24, x_V_hasSameText_27, x_V_hasSameText_28, x_V_hasSameText_29, x_V_hasSameText_30, x_V_hasSameText_33, x_V_hasSameText_34, x_V_hasSameText_35, x_V_hasSameText_38, x_V_hasSameText_39, x_V_hasSameText_42, x_V_hasSameText_43, x_V_hasSameText_44, x_V_hasSameText_45, x_V_hasSameText_48, x_V_hasSameText_49, x_V_hasSameText_50, x_V_hasSameText_53, x_V_hasSameText_54, x_V_hasSameText_55, x_V_hasSameText_58, x_V_hasSameText_61, x_V_hasSameText_62, hs, Int.le_refl, sk_0, sk_1, sk_2, sk_3, sk_4, sk_5, sk_6, sk_7, sk_8, sk_9, sk_10, sk_11, sk_12, sk_13, sk_14, sk_15, sk_16, sk_17, sk_18, sk_19, sk_20, sk_21, sk_22, sk_23, sk_24, sk_25, sk_26, sk_27, sk_28, sk_29, sk_30, sk_31, sk_32, sk_33, sk_34, sk_35, sk_36, sk_37, sk_38, sk_39, sk_40, sk_41, sk_42, sk_43, sk_44, sk_45, sk_46, sk_47, sk_48, sk_49, sk_50, sk_51, sk_52, sk_53, sn_0, sn_1, sn_2, sn_3, sn_4, sn_5, sn_6, sn_7, sn_8, sn_9, sn_10, sn_11, sn_12, sn_13, sn_14, sn_15, sn_16, sn_17, sn_18, sn_19, sn_20, sn_21, sn_22, sn_23, sn_24, sn_25, sn_26, sn_27, sn_28, sn_29, sn_30, sn_31, sn_32, sn_33, sn_34, sn_35, sn_36, sn_37, sn_38, sn_39, sn_40, sn_41, sn_42, sn_43, sn_44, sn_45, sn_46, sn_47, sn_48, sn_49, sn_50, sn_51, sn_52, sn_53, rf_2_1, rf_2_2, rf_2_3, rf_2_4, rf_1_0, rf_1_1, rf_8_0, rf_7_0, rf_10_0, rf_7_1, rf_12_0, rf_7_2, rf_14_0, rf_7_3, rf_16_1, rf_16_2, rf_16_3, rf_16_4, rf_16_5, rf_16_6, rf_16_7, rf_1_2, rf_24_1, rf_24_2, rf_24_3, rf_24_4, rf_24_5, rf_24_6, rf_24_7, rf_1_3, rf_32_2, rf_32_3, rf_32_4, rf_32_5, rf_32_6, rf_32_7, rf_32_8, rf_32_9, rf_32_10, rf_32_12, rf_32_14, rf_32_15, rf_32_16, rf_32_18, rf_32_19, rf_32_21, rf_32_25, rf_32_26, rf_32_27, rf_32_28, rf_32_30, true_and, and_true, true_or, or_true, or_false, false_or, false_and, and_false, not_true, not_false_iff, ne_eq, and_self, eq_self, if_true, if_false, ite_true, ite_false, Nat.reduceLeDiff, Int.cast_ofNat_Int, Int.reduceLT, Int.reduceLE, Int.reduceEq, Int.reduceNeg, reduceCtorEq, jup_ap, Nat.reduceEqDiff, Nat.reduceAdd]
    exact h1 hI
  | succ d ih =>
    intro i h2 h3 hI
    have hb : 0 ≤ i ∧ i < 250 := by omega
    have hn : ¬ (s : Int) ≤ i := by omega
    rw [x_V_hasSameText_15]
    simp only [x_V_hasSameText_0, x_V_hasSameText_1, x_V_hasSameText_4, x_V_hasSameText_5, x_V_hasSameText_8, x_V_hasSameText_11, x_V_hasSameText_12, x_V_hasSameText_13, x_V_hasSameText_14, x_V_hasSameText_16, x_V_hasSameText_17, x_V_hasSameText_20, x_V_hasSameText_23, x_V_hasSameText_24, x_V_hasSameText_27, x_V_hasSameText_28, x_V_hasSameText_29, x_V_hasSameText_30, x_V_hasSameText_33, x_V_hasSameText_34, x_V_hasSameText_35, x_V_hasSameText_38, x_V_hasSameText_39, x_V_hasSameText_42, x_V_hasSameText_43, x_V_hasSameText_44, x_V_hasSameText_45, x_V_hasSameText_48, x_V_hasSameText_49, x_V_hasSameText_50, x_V_hasSameText_53, x_V_hasSameText_54, x_V_hasSameText_55, x_V_hasSameText_58, x_V_hasSameText_61, x_V_hasSameText_62, hs, hb, hn, sk_0, sk_1, sk_2, sk_3, sk_4, sk_5, sk_6, sk_7, sk_8, sk_9, sk_10, sk_11, sk_12, sk_13, sk_14, sk_15, sk_16, sk_17, sk_18, sk_19, sk_20, sk_21, sk_22, sk_23, sk_24, sk_25, sk_26, sk_27, sk_28, sk_29, sk_30, sk_31, sk_32, sk_33, sk_34, sk_35, sk_36, sk_37, sk_38, sk_39, sk_40, sk_41, sk_42, sk_43, sk_44, sk_45, sk_46, sk_47, sk_48, sk_49, sk_50, sk_51, sk_52, sk_53, sn_0, sn_1, sn_2, sn_3, sn_4, sn_5, sn_6, sn_7, sn_8, sn_9, sn_10, sn_11, sn_12, sn_13, sn_14, sn_15, sn_16, sn_17, sn_18, sn_19, sn_20, sn_21, sn_22, sn_23, sn_24, sn_25, sn_26, sn_27, sn_28, sn_29, sn_30, sn_31, sn_32, sn_33, sn_34, sn_35, sn_36, sn_37, sn_38, sn_39, sn_40, sn_41, sn_42, sn_43, sn_44, sn_45, sn_46, sn_47, sn_48, sn_49, sn_50, sn_51, sn_52, sn_53, rf_2_1, rf_2_2, rf_2_3, rf_2_4, rf_1_0, rf_1_1, rf_8_0, rf_7_0, rf_10_0, rf_7_1, rf_12_0, rf_7_2, rf_14_0, rf_7_3, rf_16_1, rf_16_2, rf_16_3, rf_16_4, rf_16_5, rf_16_6, rf_16_7, rf_1_2, rf_24_1, rf_24_2, rf_24_3, rf_24_4, rf_24_5, rf_24_6, rf_24_7, rf_1_3, rf_32_2, rf_32_3, rf_32_4, rf_32_5, rf_32_6, rf_32_7, rf_32_8, rf_32_9, rf_32_10, rf_32_12, rf_32_14, rf_32_15, rf_32_16, rf_32_18, rf_32_19, rf_32_21, rf_32_25, rf_32_26, rf_32_27, rf_32_28, rf_32_30, true_and, and_true, true_or, or_true, or_false, false_or, false_and, and_false, not_true, not_false_iff, ne_eq, and_self, eq_self, if_true, if_false, ite_true, ite_false, Nat.reduceLeDiff, Int.cast_ofNat_Int, Int.reduceLT, Int.reduceLE, Int.reduceEq, Int.reduceNeg, reduceCtorEq, jup_ap, Nat.reduceEqDiff, Nat.reduceAdd]
    by_cases e1 : m 18 i = m 26 i
    · rw [if_neg (fun q => q e1)]
      by_cases e2 : m 19 i = m 27 i
      · rw [if_pos e2, show jwr (i + 1) = i + 1 from jw1 (by omega) (by omega)]
        refine ih (i + 1) (by omega) (by omega) (fun j j1 j2 => ?_)
        by_cases e : j = i
        · rw [e]; exact ⟨e1, e2⟩
        · exact hI j j1 (by omega)
      · rw [if_neg e2]
        exact h0 (fun q => e2 (q i h2 (by omega)).2)
    · rw [if_pos e1]
      exact h0 (fun q => e1 (q i h2 (by omega)).1)
def kfV (m : jM) (v : Nat) (i : Int) : Int := if 0 ≤ iaV m v (i - 1) ∧ iaV m v (i - 1) < 251 then m (v + 7) (iaV m v (i - 1)) else 0
theorem w_V_kf {v : Nat} (hv : isW v) (L : Nat) (r : Int) (m : jM) (Q : jV → jG → jM → Prop) (hn : m v 0 ≤ 250) (hr : 0 ≤ r ∧ r ≤ 250) : wp 125 0 [jO (some v), jI r, jU] [] (g0 L) m Q = Q (jI (kfV m v r)) (g0 L) m := w_V_kindFrom hv L r m Q hn hr
theorem wl_V_sameKinds (L : Nat) (m : jM) (Q : jV → jG → jM → Prop) (s : Nat) (hs : m 16 0 = (s : Int)) (hs2 : s ≤ 250) (hB : m 24 0 ≤ 250)
    (h1 : (∀ j : Int, 0 ≤ j → j < s → m 18 j = 10 → kfV m 16 (j + 1) = kfV m 24 (j + 1)) → Q (jI 1) (g0 L) m) (h0 : ¬ (∀ j : Int, 0 ≤ j → j < s → m 18 j = 10 → kfV m 16 (j + 1) = kfV m 24 (j + 1)) → Q (jI 0) (g0 L) m) :
    ∀ (d : Nat) (i : Int), 0 ≤ i → i + d = s → (∀ j : Int, 0 ≤ j → j < i → m 18 j = 10 → kfV m 16 (j + 1) = kfV m 24 (j + 1)) → wp 127 17 [jO (some 16), jO (some 24), jI i] [] (g0 L) m Q := by
  intro d
  induction d with
  | zero =>
    intro i h2 h3 hI
    have : i = (s : Int) := by omega
    subst this
    rw [x_V_hasSameKinds_17]
    simp only [x_V_hasSameKinds_0, x_V_hasSameKinds_1, x_V_hasSameKinds_2, x_V_hasSameKinds_5, x_V_hasSameKinds_6, x_V_hasSameKinds_7, x_V_hasSameKinds_10, x_V_hasSameKinds_13, x_V_hasSameKinds_14, x_V_hasSameKinds_15, x_V_hasSameKinds_16, x_V_hasSameKinds_18, x_V_hasSameKinds_19, x_V_hasSameKinds_22, x_V_hasSameKinds_25, x_V_hasSameKinds_26, x_V_hasSameKinds_29, x_V_hasSameKinds_30, x_V_hasSameKinds_31, x_V_hasSameKinds_33, x_V_hasSameKinds_36, x_V_hasSameKinds_37, x_V_hasSameKinds_38, x_V_hasSameKinds_39, x_V_hasSameKinds_40, x_V_hasSameKinds_43, x_V_hasSameKinds_44, x_V_hasSameKinds_45, x_V_hasSameKinds_46, x_V_hasSameKinds_47, x_V_hasSameKinds_50, x_V_hasSameKinds_53, x_V_hasSameKinds_54, x_V_hasSameKinds_55, x_V_hasSameKinds_58, x_V_hasSameKinds_61, x_V_hasSameKinds_62, hs, Int.le_refl, sk_0, sk_1, sk_2, sk_3, sk_4, sk_5, sk_6, sk_7, sk_8, sk_9, sk_10, sk_11, sk_12, sk_13, sk_14, sk_15, sk_16, sk_17, sk_18, sk_19, sk_20, sk_21, sk_22, sk_23, sk_24, sk_25, sk_26, sk_27, sk_28, sk_29, sk_30, sk_31, sk_32, sk_33, sk_34, sk_35, sk_36, sk_37, sk_38, sk_39, sk_40, sk_41, sk_42, sk_43, sk_44, sk_45, sk_46, sk_47, sk_48, sk_49, sk_50, sk_51, sk_52, sk_53, sn_0, sn_1, sn_2, sn_3, sn_4, sn_5, sn_6, sn_7, sn_8, sn_9, sn_10, sn_11, sn_12, sn_13, sn_14, sn_15, sn_16, sn_17, sn_18, sn_19, sn_20, sn_21, sn_22, sn_23, sn_24, sn_25, sn_26, sn_27, sn_28, sn_29, sn_30, sn_31, sn_32, sn_33, sn_34, sn_35, sn_36, sn_37, sn_38, sn_39, sn_40, sn_41, sn_42, sn_43, sn_44, sn_45, sn_46, sn_47, sn_48, sn_49, sn_50, sn_51, sn_52, sn_53, rf_2_1, rf_2_2, rf_2_3, rf_2_4, rf_1_0, rf_1_1, rf_8_0, rf_7_0, rf_10_0, rf_7_1, rf_12_0, rf_7_2, rf_14_0, rf_7_3, rf_16_1, rf_16_2, rf_16_3, rf_16_4, rf_16_5, rf_16_6, rf_16_7, rf_1_2, rf_24_1, rf_24_2, rf_24_3, rf_24_4, rf_24_5, rf_24_6, rf_24_7, rf_1_3, rf_32_2, rf_32_3, rf_32_4, rf_32_5, rf_32_6, rf_32_7, rf_32_8, rf_32_9, rf_32_10, rf_32_12, rf_32_14, rf_32_15, rf_32_16, rf_32_18, rf_32_19, rf_32_21, rf_32_25, rf_32_26, rf_32_27, rf_32_28, rf_32_30, true_and, and_true, true_or, or_true, or_false, false_or, false_and, and_false, not_true, not_false_iff, ne_eq, and_self, eq_self, if_true, if_false, ite_true, ite_false, Nat.reduceLeDiff, Int.cast_ofNat_Int, Int.reduceLT, Int.reduceLE, Int.reduceEq, Int.reduceNeg, reduceCtorEq, jup_ap, Nat.reduceEqDiff, Nat.reduceAdd]
    exact h1 hI
  | succ d ih =>
    intro i h2 h3 hI
    have hb : 0 ≤ i ∧ i < 250 := by omega
    have hn : ¬ (s : Int) ≤ i := by omega
    have e1 : jwr (i + 1) = i + 1 := jw1 (by omega) (by omega)
    rw [x_V_hasSameKinds_17]
    simp only [x_V_hasSameKinds_0, x_V_hasSameKinds_1, x_V_hasSameKinds_2, x_V_hasSameKinds_5, x_V_hasSameKinds_6, x_V_hasSameKinds_7, x_V_hasSameKinds_10, x_V_hasSameKinds_13, x_V_hasSameKinds_14, x_V_hasSameKinds_15, x_V_hasSameKinds_16, x_V_hasSameKinds_18, x_V_hasSameKinds_19, x_V_hasSameKinds_22, x_V_hasSameKinds_25, x_V_hasSameKinds_26, x_V_hasSameKinds_29, x_V_hasSameKinds_30, x_V_hasSameKinds_31, x_V_hasSameKinds_33, x_V_hasSameKinds_36, x_V_hasSameKinds_37, x_V_hasSameKinds_38, x_V_hasSameKinds_39, x_V_hasSameKinds_40, x_V_hasSameKinds_43, x_V_hasSameKinds_44, x_V_hasSameKinds_45, x_V_hasSameKinds_46, x_V_hasSameKinds_47, x_V_hasSameKinds_50, x_V_hasSameKinds_53, x_V_hasSameKinds_54, x_V_hasSameKinds_55, x_V_hasSameKinds_58, x_V_hasSameKinds_61, x_V_hasSameKinds_62, hs, hb, hn, e1, w_V_kf (Or.inl rfl) L (i + 1) m _ (show m 16 0 ≤ 250 by omega) (by omega), w_V_kf (Or.inr rfl) L (i + 1) m _ hB (by omega), sk_0, sk_1, sk_2, sk_3, sk_4, sk_5, sk_6, sk_7, sk_8, sk_9, sk_10, sk_11, sk_12, sk_13, sk_14, sk_15, sk_16, sk_17, sk_18, sk_19, sk_20, sk_21, sk_22, sk_23, sk_24, sk_25, sk_26, sk_27, sk_28, sk_29, sk_30, sk_31, sk_32, sk_33, sk_34, sk_35, sk_36, sk_37, sk_38, sk_39, sk_40, sk_41, sk_42, sk_43, sk_44, sk_45, sk_46, sk_47, sk_48, sk_49, sk_50, sk_51, sk_52, sk_53, sn_0, sn_1, sn_2, sn_3, sn_4, sn_5, sn_6, sn_7, sn_8, sn_9, sn_10, sn_11, sn_12, sn_13, sn_14, sn_15, sn_16, sn_17, sn_18, sn_19, sn_20, sn_21, sn_22, sn_23, sn_24, sn_25, sn_26, sn_27, sn_28, sn_29, sn_30, sn_31, sn_32, sn_33, sn_34, sn_35, sn_36, sn_37, sn_38, sn_39, sn_40, sn_41, sn_42, sn_43, sn_44, sn_45, sn_46, sn_47, sn_48, sn_49, sn_50, sn_51, sn_52, sn_53, rf_2_1, rf_2_2, rf_2_3, rf_2_4, rf_1_0, rf_1_1, rf_8_0, rf_7_0, rf_10_0, rf_7_1, rf_12_0, rf_7_2, rf_14_0, rf_7_3, rf_16_1, rf_16_2, rf_16_3, rf_16_4, rf_16_5, rf_16_6, rf_16_7, rf_1_2, rf_24_1, rf_24_2, rf_24_3, rf_24_4, rf_24_5, rf_24_6, rf_24_7, rf_1_3, rf_32_2, rf_32_3, rf_32_4, rf_32_5, rf_32_6, rf_32_7, rf_32_8, rf_32_9, rf_32_10, rf_32_12, rf_32_14, rf_32_15, rf_32_16, rf_32_18, rf_32_19, rf_32_21, rf_32_25, rf_32_26, rf_32_27, rf_32_28, rf_32_30, true_and, and_true, true_or, or_true, or_false, false_or, false_and, and_false, not_true, not_false_iff, ne_eq, and_self, eq_self, if_true, if_false, ite_true, ite_false, Nat.reduceLeDiff, Int.cast_ofNat_Int, Int.reduceLT, Int.reduceLE, Int.reduceEq, Int.reduceNeg, reduceCtorEq, jup_ap, Nat.reduceEqDiff, Nat.reduceAdd]
    have go : (m 18 i = 10 → kfV m 16 (i + 1) = kfV m 24 (i + 1)) → wp 127 17 [jO (some 16), jO (some 24), jI (i + 1)] [] (g0 L) m Q := fun q => ih (i + 1) (by omega) (by omega) (fun j j1 j2 j3 => by
      by_cases e : j = i
      · rw [e] at j3 ⊢; exact q j3
      · exact hI j j1 (by omega) j3)
    by_cases h10 : m 18 i = 10
    · rw [if_neg (fun q => q h10)]
      by_cases ek : kfV m 16 (i + 1) = kfV m 24 (i + 1)
      · rw [if_pos ek]
        exact go (fun _ => ek)
      · rw [if_neg ek]
        exact h0 (fun q => ek (q i h2 (by omega) h10))
    · rw [if_pos h10]
      exact go (fun q => absurd q h10)
/-- a comment is good and lies alike at both -/
def smC (m : jM) (a b : Nat) (r : Int) : Prop := gd m a r = gd m b r ∧ (gd m a r = true → lyF m a r = lyF m b r ∧ lyT m a r = lyT m b r)
theorem w_T_sameC (L : Nat) (m m1 : jM) (Q : jV → jG → jM → Prop) {n a b sa sb : Nat} (h : CI m n) (hA : VwP m m1 16 a sa) (hB : VwP m m1 24 b sb) {r : Int} (h3 : cellV m r 0 = 3)
    (h1 : smC m a b r → Q (jI 1) (g0 L) m1) (h0 : ¬ smC m a b r → Q (jI 0) (g0 L) m1) : wp 32 0 [jO (some 1), jI r] [] (g0 L) m1 Q := by
  have hr := (com_ins h h3).1
  have h2 := h.2.1
  have hlo := hA.1
  have ga : m1 20 r = b2i (gd m a r) := (hA.2.2.2.2.2 r hr.1 (by rw [h.1]; exact hr.2)).1
  have gb : m1 28 r = b2i (gd m b r) := (hB.2.2.2.2.2 r hr.1 (by rw [h.1]; exact hr.2)).1
  have hsa : ∀ x : Int, 1 ≤ x → x ≤ n → m1 (16 + 5) x = b2i (vs m a x) := fun x x1 x2 => (hA.2.2.2.2.2 x x1 (by rw [h.1]; exact x2)).2
  have hsb : ∀ x : Int, 1 ≤ x → x ≤ n → m1 (24 + 5) x = b2i (vs m b x) := fun x x1 x2 => (hB.2.2.2.2.2 x x1 (by rw [h.1]; exact x2)).2
  have wa : ∀ Q, wp 101 0 [jO (some 16), jI r] [] (g0 L) m1 Q = Q (jI (b2i (gd m a r))) (g0 L) m1 := fun Q => by
    rw [w_V_isGood (Or.inl rfl)]
    congr 2
    show b01 ((0 ≤ r ∧ r < 251) ∧ m1 20 r ≠ 0) = _
    rw [ga]
    cases gd m a r
    · exact b01_n (by simp [b2i])
    · exact b01_1 ⟨by omega, by simp [b2i]⟩
  have wb : ∀ Q, wp 101 0 [jO (some 24), jI r] [] (g0 L) m1 Q = Q (jI (b2i (gd m b r))) (g0 L) m1 := fun Q => by
    rw [w_V_isGood (Or.inr rfl)]
    congr 2
    show b01 ((0 ≤ r ∧ r < 251) ∧ m1 28 r ≠ 0) = _
    rw [gb]
    cases gd m b r
    · exact b01_n (by simp [b2i])
    · exact b01_1 ⟨by omega, by simp [b2i]⟩
  have fa := fun Q => w_T_cFrom (s := sa) (a := a) (Or.inl rfl) h hlo hA.2.2.2.2.1 L h3 Q
  have fb := fun Q => w_T_cFrom (s := sb) (a := b) (Or.inr rfl) h hlo hB.2.2.2.2.1 L h3 Q
  have ta := fun Q => w_T_cTo (s := sa) (a := a) (Or.inl rfl) h hlo hA.2.2.2.2.1 hsa L h3 Q
  have tb := fun Q => w_T_cTo (s := sb) (a := b) (Or.inr rfl) h hlo hB.2.2.2.2.1 hsb L h3 Q
  simp only [x_T_isSameComment_0, x_T_isSameComment_1, x_T_isSameComment_4, x_T_isSameComment_5, x_T_isSameComment_8, x_T_isSameComment_11, x_T_isSameComment_12, x_T_isSameComment_15, x_T_isSameComment_16, x_T_isSameComment_19, x_T_isSameComment_22, x_T_isSameComment_23, x_T_isSameComment_26, x_T_isSameComment_27, x_T_isSameComment_30, x_T_isSameComment_31, x_T_isSameComment_34, x_T_isSameComment_35, x_T_isSameComment_38, x_T_isSameComment_41, x_T_isSameComment_42, x_T_isSameComment_45, x_T_isSameComment_46, x_T_isSameComment_47, x_T_isSameComment_48, x_T_isSameComment_49, x_T_isSameComment_52, x_T_isSameComment_53, x_T_isSameComment_56, x_T_isSameComment_57, x_T_isSameComment_58, x_T_isSameComment_61, x_T_isSameComment_62, x_T_isSameComment_65, x_T_isSameComment_68, x_T_isSameComment_69, x_T_isSameComment_70, x_T_isSameComment_73, x_T_isSameComment_74, x_T_isSameComment_77, x_T_isSameComment_78, x_T_isSameComment_79, x_T_isSameComment_82, x_T_isSameComment_83, x_T_isSameComment_86, x_T_isSameComment_89, x_T_isSameComment_90, x_T_isSameComment_93, x_T_isSameComment_94, wa, wb, fa, fb, ta, tb, b2i_0, sk_0, sk_1, sk_2, sk_3, sk_4, sk_5, sk_6, sk_7, sk_8, sk_9, sk_10, sk_11, sk_12, sk_13, sk_14, sk_15, sk_16, sk_17, sk_18, sk_19, sk_20, sk_21, sk_22, sk_23, sk_24, sk_25, sk_26, sk_27, sk_28, sk_29, sk_30, sk_31, sk_32, sk_33, sk_34, sk_35, sk_36, sk_37, sk_38, sk_39, sk_40, sk_41, sk_42, sk_43, sk_44, sk_45, sk_46, sk_47, sk_48, sk_49, sk_50, sk_51, sk_52, sk_53, sn_0, sn_1, sn_2, sn_3, sn_4, sn_5, sn_6, sn_7, sn_8, sn_9, sn_10, sn_11, sn_12, sn_13, sn_14, sn_15, sn_16, sn_17, sn_18, sn_19, sn_20, sn_21, sn_22, sn_23, sn_24, sn_25, sn_26, sn_27, sn_28, sn_29, sn_30, sn_31, sn_32, sn_33, sn_34, sn_35, sn_36, sn_37, sn_38, sn_39, sn_40, sn_41, sn_42, sn_43, sn_44, sn_45, sn_46, sn_47, sn_48, sn_49, sn_50, sn_51, sn_52, sn_53, rf_2_1, rf_2_2, rf_2_3, rf_2_4, rf_1_0, rf_1_1, rf_8_0, rf_7_0, rf_10_0, rf_7_1, rf_12_0, rf_7_2, rf_14_0, rf_7_3, rf_16_1, rf_16_2, rf_16_3, rf_16_4, rf_16_5, rf_16_6, rf_16_7, rf_1_2, rf_24_1, rf_24_2, rf_24_3, rf_24_4, rf_24_5, rf_24_6, rf_24_7, rf_1_3, rf_32_2, rf_32_3, rf_32_4, rf_32_5, rf_32_6, rf_32_7, rf_32_8, rf_32_9, rf_32_10, rf_32_12, rf_32_14, rf_32_15, rf_32_16, rf_32_18, rf_32_19, rf_32_21, rf_32_25, rf_32_26, rf_32_27, rf_32_28, rf_32_30, true_and, and_true, true_or, or_true, or_false, false_or, false_and, and_false, not_true, not_false_iff, ne_eq, and_self, eq_self, if_true, if_false, ite_true, ite_false, Nat.reduceLeDiff, Int.cast_ofNat_Int, Int.reduceLT, Int.reduceLE, Int.reduceEq, Int.reduceNeg, reduceCtorEq, jup_ap, Nat.reduceEqDiff, Nat.reduceAdd]
  unfold smC at h1 h0
  cases ea : gd m a r <;> cases eb : gd m b r
  · simp only [ea, eb, true_and, and_true, true_or, or_true, or_false, false_or, false_and, and_false, not_true, not_false_iff, ne_eq, and_self, eq_self, if_true, if_false, ite_true, ite_false, Nat.reduceLeDiff, Int.cast_ofNat_Int, Int.reduceLT, Int.reduceLE, Int.reduceEq, Int.reduceNeg, reduceCtorEq, jup_ap, Nat.reduceEqDiff, Nat.reduceAdd, Bool.false_eq_true, b2i] at *
    exact h1 (by simp)
  · simp only [ea, eb, true_and, and_true, true_or, or_true, or_false, false_or, false_and, and_false, not_true, not_false_iff, ne_eq, and_self, eq_self, if_true, if_false, ite_true, ite_false, Nat.reduceLeDiff, Int.cast_ofNat_Int, Int.reduceLT, Int.reduceLE, Int.reduceEq, Int.reduceNeg, reduceCtorEq, jup_ap, Nat.reduceEqDiff, Nat.reduceAdd, Bool.false_eq_true, b2i] at *
    exact h0 (by simp)
  · simp only [ea, eb, true_and, and_true, true_or, or_true, or_false, false_or, false_and, and_false, not_true, not_false_iff, ne_eq, and_self, eq_self, if_true, if_false, ite_true, ite_false, Nat.reduceLeDiff, Int.cast_ofNat_Int, Int.reduceLT, Int.reduceLE, Int.reduceEq, Int.reduceNeg, reduceCtorEq, jup_ap, Nat.reduceEqDiff, Nat.reduceAdd, Bool.false_eq_true, Bool.true_eq_false, b2i] at *
    exact h0 (by simp)
  · simp only [ea, eb, true_and, and_true, true_or, or_true, or_false, false_or, false_and, and_false, not_true, not_false_iff, ne_eq, and_self, eq_self, if_true, if_false, ite_true, ite_false, Nat.reduceLeDiff, Int.cast_ofNat_Int, Int.reduceLT, Int.reduceLE, Int.reduceEq, Int.reduceNeg, reduceCtorEq, jup_ap, Nat.reduceEqDiff, Nat.reduceAdd, Bool.true_eq_false, b2i] at *
    by_cases e1 : lyF m a r = lyF m b r
    · rw [if_neg (fun q => q e1)]
      by_cases e2 : lyT m a r = lyT m b r
      · rw [if_neg (fun q => q e2)]
        exact h1 (fun _ => ⟨e1, e2⟩)
      · rw [if_pos e2]
        exact h0 (fun q => e2 (q trivial).2)
    · rw [if_pos e1]
      exact h0 (fun q => e1 (q trivial).1)
theorem wl_T_sameCs (L : Nat) (m m1 : jM) (Q : jV → jG → jM → Prop) {n a b sa sb : Nat} (h : CI m n) (hA : VwP m m1 16 a sa) (hB : VwP m m1 24 b sb)
    (h1 : (∀ r : Int, 1 ≤ r → r ≤ n → cellV m r 0 = 3 → smC m a b r) → Q (jI 1) (g0 L) m1) (h0 : ¬ (∀ r : Int, 1 ≤ r → r ≤ n → cellV m r 0 = 3 → smC m a b r) → Q (jI 0) (g0 L) m1) :
    ∀ (d : Nat) (i : Int), 1 ≤ i → i + d = (n : Int) + 1 → (∀ r : Int, 1 ≤ r → r < i → cellV m r 0 = 3 → smC m a b r) → wp 31 2 [jO (some 1), jI i] [] (g0 L) m1 Q := by
  have hlo := hA.1
  have h2 := h.2.1
  have e0 : m1 2 0 = (n : Int) := by rw [hlo 2 (by decide)]; exact h.1
  have hc : m1 2 0 ≤ 250 := by omega
  have cE := lo_cell hlo
  intro d
  induction d with
  | zero =>
    intro i h3 h4 hI
    have hlt : (n : Int) < i := by omega
    rw [x_T_haveSameComments_2]
    simp only [x_T_haveSameComments_0, x_T_haveSameComments_1, x_T_haveSameComments_3, x_T_haveSameComments_4, x_T_haveSameComments_7, x_T_haveSameComments_10, x_T_haveSameComments_13, x_T_haveSameComments_14, x_T_haveSameComments_17, x_T_haveSameComments_18, x_T_haveSameComments_19, x_T_haveSameComments_22, x_T_haveSameComments_23, x_T_haveSameComments_26, x_T_haveSameComments_27, x_T_haveSameComments_28, x_T_haveSameComments_31, x_T_haveSameComments_34, x_T_haveSameComments_35, x_T_haveSameComments_36, x_T_haveSameComments_39, x_T_haveSameComments_42, x_T_haveSameComments_43, w_R_count, e0, hlt, sk_0, sk_1, sk_2, sk_3, sk_4, sk_5, sk_6, sk_7, sk_8, sk_9, sk_10, sk_11, sk_12, sk_13, sk_14, sk_15, sk_16, sk_17, sk_18, sk_19, sk_20, sk_21, sk_22, sk_23, sk_24, sk_25, sk_26, sk_27, sk_28, sk_29, sk_30, sk_31, sk_32, sk_33, sk_34, sk_35, sk_36, sk_37, sk_38, sk_39, sk_40, sk_41, sk_42, sk_43, sk_44, sk_45, sk_46, sk_47, sk_48, sk_49, sk_50, sk_51, sk_52, sk_53, sn_0, sn_1, sn_2, sn_3, sn_4, sn_5, sn_6, sn_7, sn_8, sn_9, sn_10, sn_11, sn_12, sn_13, sn_14, sn_15, sn_16, sn_17, sn_18, sn_19, sn_20, sn_21, sn_22, sn_23, sn_24, sn_25, sn_26, sn_27, sn_28, sn_29, sn_30, sn_31, sn_32, sn_33, sn_34, sn_35, sn_36, sn_37, sn_38, sn_39, sn_40, sn_41, sn_42, sn_43, sn_44, sn_45, sn_46, sn_47, sn_48, sn_49, sn_50, sn_51, sn_52, sn_53, rf_2_1, rf_2_2, rf_2_3, rf_2_4, rf_1_0, rf_1_1, rf_8_0, rf_7_0, rf_10_0, rf_7_1, rf_12_0, rf_7_2, rf_14_0, rf_7_3, rf_16_1, rf_16_2, rf_16_3, rf_16_4, rf_16_5, rf_16_6, rf_16_7, rf_1_2, rf_24_1, rf_24_2, rf_24_3, rf_24_4, rf_24_5, rf_24_6, rf_24_7, rf_1_3, rf_32_2, rf_32_3, rf_32_4, rf_32_5, rf_32_6, rf_32_7, rf_32_8, rf_32_9, rf_32_10, rf_32_12, rf_32_14, rf_32_15, rf_32_16, rf_32_18, rf_32_19, rf_32_21, rf_32_25, rf_32_26, rf_32_27, rf_32_28, rf_32_30, true_and, and_true, true_or, or_true, or_false, false_or, false_and, and_false, not_true, not_false_iff, ne_eq, and_self, eq_self, if_true, if_false, ite_true, ite_false, Nat.reduceLeDiff, Int.cast_ofNat_Int, Int.reduceLT, Int.reduceLE, Int.reduceEq, Int.reduceNeg, reduceCtorEq, jup_ap, Nat.reduceEqDiff, Nat.reduceAdd]
    exact h1 (fun r r1 r2 r3 => hI r r1 (by omega) r3)
  | succ d ih =>
    intro i h3 h4 hI
    have hlt : ¬ (n : Int) < i := by omega
    have e1 : jwr (i + 1) = i + 1 := jw1 (by omega) (by omega)
    rw [x_T_haveSameComments_2]
    simp only [x_T_haveSameComments_0, x_T_haveSameComments_1, x_T_haveSameComments_3, x_T_haveSameComments_4, x_T_haveSameComments_7, x_T_haveSameComments_10, x_T_haveSameComments_13, x_T_haveSameComments_14, x_T_haveSameComments_17, x_T_haveSameComments_18, x_T_haveSameComments_19, x_T_haveSameComments_22, x_T_haveSameComments_23, x_T_haveSameComments_26, x_T_haveSameComments_27, x_T_haveSameComments_28, x_T_haveSameComments_31, x_T_haveSameComments_34, x_T_haveSameComments_35, x_T_haveSameComments_36, x_T_haveSameComments_39, x_T_haveSameComments_42, x_T_haveSameComments_43, w_R_count, e0, hlt, w_R_cell L _ _ _ _ hc, cE, e1, sk_0, sk_1, sk_2, sk_3, sk_4, sk_5, sk_6, sk_7, sk_8, sk_9, sk_10, sk_11, sk_12, sk_13, sk_14, sk_15, sk_16, sk_17, sk_18, sk_19, sk_20, sk_21, sk_22, sk_23, sk_24, sk_25, sk_26, sk_27, sk_28, sk_29, sk_30, sk_31, sk_32, sk_33, sk_34, sk_35, sk_36, sk_37, sk_38, sk_39, sk_40, sk_41, sk_42, sk_43, sk_44, sk_45, sk_46, sk_47, sk_48, sk_49, sk_50, sk_51, sk_52, sk_53, sn_0, sn_1, sn_2, sn_3, sn_4, sn_5, sn_6, sn_7, sn_8, sn_9, sn_10, sn_11, sn_12, sn_13, sn_14, sn_15, sn_16, sn_17, sn_18, sn_19, sn_20, sn_21, sn_22, sn_23, sn_24, sn_25, sn_26, sn_27, sn_28, sn_29, sn_30, sn_31, sn_32, sn_33, sn_34, sn_35, sn_36, sn_37, sn_38, sn_39, sn_40, sn_41, sn_42, sn_43, sn_44, sn_45, sn_46, sn_47, sn_48, sn_49, sn_50, sn_51, sn_52, sn_53, rf_2_1, rf_2_2, rf_2_3, rf_2_4, rf_1_0, rf_1_1, rf_8_0, rf_7_0, rf_10_0, rf_7_1, rf_12_0, rf_7_2, rf_14_0, rf_7_3, rf_16_1, rf_16_2, rf_16_3, rf_16_4, rf_16_5, rf_16_6, rf_16_7, rf_1_2, rf_24_1, rf_24_2, rf_24_3, rf_24_4, rf_24_5, rf_24_6, rf_24_7, rf_1_3, rf_32_2, rf_32_3, rf_32_4, rf_32_5, rf_32_6, rf_32_7, rf_32_8, rf_32_9, rf_32_10, rf_32_12, rf_32_14, rf_32_15, rf_32_16, rf_32_18, rf_32_19, rf_32_21, rf_32_25, rf_32_26, rf_32_27, rf_32_28, rf_32_30, true_and, and_true, true_or, or_true, or_false, false_or, false_and, and_false, not_true, not_false_iff, ne_eq, and_self, eq_self, if_true, if_false, ite_true, ite_false, Nat.reduceLeDiff, Int.cast_ofNat_Int, Int.reduceLT, Int.reduceLE, Int.reduceEq, Int.reduceNeg, reduceCtorEq, jup_ap, Nat.reduceEqDiff, Nat.reduceAdd]
    have go : (cellV m i 0 = 3 → smC m a b i) → wp 31 2 [jO (some 1), jI (i + 1)] [] (g0 L) m1 Q := fun q => ih (i + 1) (by omega) (by omega) (fun r r1 r2 r3 => by
      by_cases e : r = i
      · rw [e] at r3 ⊢; exact q r3
      · exact hI r r1 (by omega) r3)
    by_cases h3c : cellV m i 0 = 3
    · rw [if_neg (fun q => q h3c)]
      refine w_T_sameC L m m1 _ h hA hB h3c (fun q => ?_) (fun q => ?_)
      · simp only [x_T_haveSameComments_0, x_T_haveSameComments_1, x_T_haveSameComments_3, x_T_haveSameComments_4, x_T_haveSameComments_7, x_T_haveSameComments_10, x_T_haveSameComments_13, x_T_haveSameComments_14, x_T_haveSameComments_17, x_T_haveSameComments_18, x_T_haveSameComments_19, x_T_haveSameComments_22, x_T_haveSameComments_23, x_T_haveSameComments_26, x_T_haveSameComments_27, x_T_haveSameComments_28, x_T_haveSameComments_31, x_T_haveSameComments_34, x_T_haveSameComments_35, x_T_haveSameComments_36, x_T_haveSameComments_39, x_T_haveSameComments_42, x_T_haveSameComments_43, e1, sk_0, sk_1, sk_2, sk_3, sk_4, sk_5, sk_6, sk_7, sk_8, sk_9, sk_10, sk_11, sk_12, sk_13, sk_14, sk_15, sk_16, sk_17, sk_18, sk_19, sk_20, sk_21, sk_22, sk_23, sk_24, sk_25, sk_26, sk_27, sk_28, sk_29, sk_30, sk_31, sk_32, sk_33, sk_34, sk_35, sk_36, sk_37, sk_38, sk_39, sk_40, sk_41, sk_42, sk_43, sk_44, sk_45, sk_46, sk_47, sk_48, sk_49, sk_50, sk_51, sk_52, sk_53, sn_0, sn_1, sn_2, sn_3, sn_4, sn_5, sn_6, sn_7, sn_8, sn_9, sn_10, sn_11, sn_12, sn_13, sn_14, sn_15, sn_16, sn_17, sn_18, sn_19, sn_20, sn_21, sn_22, sn_23, sn_24, sn_25, sn_26, sn_27, sn_28, sn_29, sn_30, sn_31, sn_32, sn_33, sn_34, sn_35, sn_36, sn_37, sn_38, sn_39, sn_40, sn_41, sn_42, sn_43, sn_44, sn_45, sn_46, sn_47, sn_48, sn_49, sn_50, sn_51, sn_52, sn_53, rf_2_1, rf_2_2, rf_2_3, rf_2_4, rf_1_0, rf_1_1, rf_8_0, rf_7_0, rf_10_0, rf_7_1, rf_12_0, rf_7_2, rf_14_0, rf_7_3, rf_16_1, rf_16_2, rf_16_3, rf_16_4, rf_16_5, rf_16_6, rf_16_7, rf_1_2, rf_24_1, rf_24_2, rf_24_3, rf_24_4, rf_24_5, rf_24_6, rf_24_7, rf_1_3, rf_32_2, rf_32_3, rf_32_4, rf_32_5, rf_32_6, rf_32_7, rf_32_8, rf_32_9, rf_32_10, rf_32_12, rf_32_14, rf_32_15, rf_32_16, rf_32_18, rf_32_19, rf_32_21, rf_32_25, rf_32_26, rf_32_27, rf_32_28, rf_32_30, true_and, and_true, true_or, or_true, or_false, false_or, false_and, and_false, not_true, not_false_iff, ne_eq, and_self, eq_self, if_true, if_false, ite_true, ite_false, Nat.reduceLeDiff, Int.cast_ofNat_Int, Int.reduceLT, Int.reduceLE, Int.reduceEq, Int.reduceNeg, reduceCtorEq, jup_ap, Nat.reduceEqDiff, Nat.reduceAdd, Int.one_ne_zero]
        exact go (fun _ => q)
      · simp only [x_T_haveSameComments_0, x_T_haveSameComments_1, x_T_haveSameComments_3, x_T_haveSameComments_4, x_T_haveSameComments_7, x_T_haveSameComments_10, x_T_haveSameComments_13, x_T_haveSameComments_14, x_T_haveSameComments_17, x_T_haveSameComments_18, x_T_haveSameComments_19, x_T_haveSameComments_22, x_T_haveSameComments_23, x_T_haveSameComments_26, x_T_haveSameComments_27, x_T_haveSameComments_28, x_T_haveSameComments_31, x_T_haveSameComments_34, x_T_haveSameComments_35, x_T_haveSameComments_36, x_T_haveSameComments_39, x_T_haveSameComments_42, x_T_haveSameComments_43, sk_0, sk_1, sk_2, sk_3, sk_4, sk_5, sk_6, sk_7, sk_8, sk_9, sk_10, sk_11, sk_12, sk_13, sk_14, sk_15, sk_16, sk_17, sk_18, sk_19, sk_20, sk_21, sk_22, sk_23, sk_24, sk_25, sk_26, sk_27, sk_28, sk_29, sk_30, sk_31, sk_32, sk_33, sk_34, sk_35, sk_36, sk_37, sk_38, sk_39, sk_40, sk_41, sk_42, sk_43, sk_44, sk_45, sk_46, sk_47, sk_48, sk_49, sk_50, sk_51, sk_52, sk_53, sn_0, sn_1, sn_2, sn_3, sn_4, sn_5, sn_6, sn_7, sn_8, sn_9, sn_10, sn_11, sn_12, sn_13, sn_14, sn_15, sn_16, sn_17, sn_18, sn_19, sn_20, sn_21, sn_22, sn_23, sn_24, sn_25, sn_26, sn_27, sn_28, sn_29, sn_30, sn_31, sn_32, sn_33, sn_34, sn_35, sn_36, sn_37, sn_38, sn_39, sn_40, sn_41, sn_42, sn_43, sn_44, sn_45, sn_46, sn_47, sn_48, sn_49, sn_50, sn_51, sn_52, sn_53, rf_2_1, rf_2_2, rf_2_3, rf_2_4, rf_1_0, rf_1_1, rf_8_0, rf_7_0, rf_10_0, rf_7_1, rf_12_0, rf_7_2, rf_14_0, rf_7_3, rf_16_1, rf_16_2, rf_16_3, rf_16_4, rf_16_5, rf_16_6, rf_16_7, rf_1_2, rf_24_1, rf_24_2, rf_24_3, rf_24_4, rf_24_5, rf_24_6, rf_24_7, rf_1_3, rf_32_2, rf_32_3, rf_32_4, rf_32_5, rf_32_6, rf_32_7, rf_32_8, rf_32_9, rf_32_10, rf_32_12, rf_32_14, rf_32_15, rf_32_16, rf_32_18, rf_32_19, rf_32_21, rf_32_25, rf_32_26, rf_32_27, rf_32_28, rf_32_30, true_and, and_true, true_or, or_true, or_false, false_or, false_and, and_false, not_true, not_false_iff, ne_eq, and_self, eq_self, if_true, if_false, ite_true, ite_false, Nat.reduceLeDiff, Int.cast_ofNat_Int, Int.reduceLT, Int.reduceLE, Int.reduceEq, Int.reduceNeg, reduceCtorEq, jup_ap, Nat.reduceEqDiff, Nat.reduceAdd]
        exact h0 (fun w => q (w i h3 (by omega) h3c))
    · rw [if_pos h3c]
      exact go (fun q => absurd q h3c)
