def VF (m m' : jM) : Prop := ∀ b, b < 16 ∨ 32 ≤ b → ∀ j, m' b j = m b j
theorem Fr.vf {m m' : jM} {S : List Nat} (h : Fr m m' S) (hS : ∀ b ∈ S, 16 ≤ b ∧ b < 32) : VF m m' := fun b hb j => h b (fun q => by have := hS b q; omega) j
theorem VF.rf {m : jM} : VF m m := fun _ _ _ => rfl
theorem VF.trans {m m1 m2 : jM} (h : VF m m1) (h' : VF m1 m2) : VF m m2 := fun b hb j => (h' b hb j).trans (h b hb j)
/-- the kind that the good blocks for x tell, the first k rows in order -/
def kdK (m : jM) (a : Nat) (x : Int) : Nat → Int
  | 0 => 0
  | k + 1 => if (gd m a (m 5 k) = true ∧ cellV m (m 5 k) 0 = 4) ∧ cellV m (m 5 k) 5 = x then cellV m (m 5 k) 3 else kdK m a x k
theorem wl_V_tk0 {v : Nat} (hv : isW v) (L : Nat) (m1 : jM) (Q : jV → jG → jM → Prop) (l3 : jV)
    (hQ : ∀ m', Fr m1 m' [v + 7] → (∀ x : Int, 0 ≤ x → x < 251 → m' (v + 7) x = 0) → wp 123 24 [jO (some v), jO (some 2), jI 251, l3] [] (g0 L) m' Q) :
    ∀ (d : Nat) (i : Int) (m2 : jM), 0 ≤ i → i + d = 251 → Fr m1 m2 [v + 7] → (∀ x : Int, 0 ≤ x → x < i → m2 (v + 7) x = 0) → wp 123 2 [jO (some v), jO (some 2), jI i, l3] [] (g0 L) m2 Q := by
  intro d
  induction d with
  | zero =>
    intro i m2 h0 h1 hF hI
    have : i = 251 := by omega
    subst this
    rw [x_V_tellKinds_2]
    simp only [x_V_tellKinds_3, x_V_tellKinds_4, x_V_tellKinds_7, x_V_tellKinds_8, sk_0, sk_1, sk_2, sk_3, sk_4, sk_5, sk_6, sk_7, sk_8, sk_9, sk_10, sk_11, sk_12, sk_13, sk_14, sk_15, sk_16, sk_17, sk_18, sk_19, sk_20, sk_21, sk_22, sk_23, sk_24, sk_25, sk_26, sk_27, sk_28, sk_29, sk_30, sk_31, sk_32, sk_33, sk_34, sk_35, sk_36, sk_37, sk_38, sk_39, sk_40, sk_41, sk_42, sk_43, sk_44, sk_45, sk_46, sk_47, sk_48, sk_49, sk_50, sk_51, sk_52, sk_53, sn_0, sn_1, sn_2, sn_3, sn_4, sn_5, sn_6, sn_7, sn_8, sn_9, sn_10, sn_11, sn_12, sn_13, sn_14, sn_15, sn_16, sn_17, sn_18, sn_19, sn_20, sn_21, sn_22, sn_23, sn_24, sn_25, sn_26, sn_27, sn_28, sn_29, sn_30, sn_31, sn_32, sn_33, sn_34, sn_35, sn_36, sn_37, sn_38, sn_39, sn_40, sn_41, sn_42, sn_43, sn_44, sn_45, sn_46, sn_47, sn_48, sn_49, sn_50, sn_51, sn_52, sn_53, rf_2_1, rf_2_2, rf_2_3, rf_2_4, rf_1_0, rf_1_1, rf_8_0, rf_7_0, rf_10_0, rf_7_1, rf_12_0, rf_7_2, rf_14_0, rf_7_3, rf_16_1, rf_16_2, rf_16_3, rf_16_4, rf_16_5, rf_16_6, rf_16_7, rf_1_2, rf_24_1, rf_24_2, rf_24_3, rf_24_4, rf_24_5, rf_24_6, rf_24_7, rf_1_3, rf_32_2, rf_32_3, rf_32_4, rf_32_5, rf_32_6, rf_32_7, rf_32_8, rf_32_9, rf_32_10, rf_32_12, rf_32_14, rf_32_15, rf_32_16, rf_32_18, rf_32_19, rf_32_21, rf_32_25, rf_32_26, rf_32_27, rf_32_28, rf_32_30, true_and, and_true, true_or, or_true, or_false, false_or, false_and, and_false, not_true, not_false_iff, ne_eq, and_self, eq_self, if_true, if_false, ite_true, ite_false, Nat.reduceLeDiff, Int.cast_ofNat_Int, Int.reduceLT, Int.reduceLE, Int.reduceEq, Int.reduceNeg, reduceCtorEq, jup_ap, Nat.reduceEqDiff, Nat.reduceAdd, kv0 hv, rv1 hv, kv1 hv, nv1 hv, rv2 hv, kv2 hv, nv2 hv, rv3 hv, kv3 hv, nv3 hv, rv4 hv, kv4 hv, nv4 hv, rv5 hv, kv5 hv, nv5 hv, rv6 hv, kv6 hv, nv6 hv, rv7 hv, kv7 hv, nv7 hv]
    exact hQ m2 hF hI
  | succ d ih =>
    intro i m2 h0 h1 hF hI
    have hb : 0 ≤ i ∧ i < 251 := by omega
    have hn : ¬ 251 ≤ i := by omega
    rw [x_V_tellKinds_2]
    simp only [x_V_tellKinds_3, x_V_tellKinds_4, x_V_tellKinds_7, x_V_tellKinds_8, x_V_tellKinds_11, x_V_tellKinds_12, x_V_tellKinds_15, x_V_tellKinds_16, x_V_tellKinds_17, x_V_tellKinds_18, x_V_tellKinds_21, hb, hn, sk_0, sk_1, sk_2, sk_3, sk_4, sk_5, sk_6, sk_7, sk_8, sk_9, sk_10, sk_11, sk_12, sk_13, sk_14, sk_15, sk_16, sk_17, sk_18, sk_19, sk_20, sk_21, sk_22, sk_23, sk_24, sk_25, sk_26, sk_27, sk_28, sk_29, sk_30, sk_31, sk_32, sk_33, sk_34, sk_35, sk_36, sk_37, sk_38, sk_39, sk_40, sk_41, sk_42, sk_43, sk_44, sk_45, sk_46, sk_47, sk_48, sk_49, sk_50, sk_51, sk_52, sk_53, sn_0, sn_1, sn_2, sn_3, sn_4, sn_5, sn_6, sn_7, sn_8, sn_9, sn_10, sn_11, sn_12, sn_13, sn_14, sn_15, sn_16, sn_17, sn_18, sn_19, sn_20, sn_21, sn_22, sn_23, sn_24, sn_25, sn_26, sn_27, sn_28, sn_29, sn_30, sn_31, sn_32, sn_33, sn_34, sn_35, sn_36, sn_37, sn_38, sn_39, sn_40, sn_41, sn_42, sn_43, sn_44, sn_45, sn_46, sn_47, sn_48, sn_49, sn_50, sn_51, sn_52, sn_53, rf_2_1, rf_2_2, rf_2_3, rf_2_4, rf_1_0, rf_1_1, rf_8_0, rf_7_0, rf_10_0, rf_7_1, rf_12_0, rf_7_2, rf_14_0, rf_7_3, rf_16_1, rf_16_2, rf_16_3, rf_16_4, rf_16_5, rf_16_6, rf_16_7, rf_1_2, rf_24_1, rf_24_2, rf_24_3, rf_24_4, rf_24_5, rf_24_6, rf_24_7, rf_1_3, rf_32_2, rf_32_3, rf_32_4, rf_32_5, rf_32_6, rf_32_7, rf_32_8, rf_32_9, rf_32_10, rf_32_12, rf_32_14, rf_32_15, rf_32_16, rf_32_18, rf_32_19, rf_32_21, rf_32_25, rf_32_26, rf_32_27, rf_32_28, rf_32_30, true_and, and_true, true_or, or_true, or_false, false_or, false_and, and_false, not_true, not_false_iff, ne_eq, and_self, eq_self, if_true, if_false, ite_true, ite_false, Nat.reduceLeDiff, Int.cast_ofNat_Int, Int.reduceLT, Int.reduceLE, Int.reduceEq, Int.reduceNeg, reduceCtorEq, jup_ap, Nat.reduceEqDiff, Nat.reduceAdd, kv0 hv, rv1 hv, kv1 hv, nv1 hv, rv2 hv, kv2 hv, nv2 hv, rv3 hv, kv3 hv, nv3 hv, rv4 hv, kv4 hv, nv4 hv, rv5 hv, kv5 hv, nv5 hv, rv6 hv, kv6 hv, nv6 hv, rv7 hv, kv7 hv, nv7 hv]
    rw [show jwr (i + 1) = i + 1 from jw1 (by omega) (by omega)]
    refine ih (i + 1) _ (by omega) (by omega) (hF.up (by simp)) (fun x a b => ?_)
    rw [jup_ap]
    by_cases e : x = i
    · rw [if_pos ⟨rfl, e⟩]
    · rw [if_neg (fun q => e q.2)]
      exact hI x a (by omega)
theorem wl_V_tk1 {v a n : Nat} (hv : isW v) (L : Nat) (m m1 : jM) (Q : jV → jG → jM → Prop) (h : CI m n) (hlo : ∀ b, b < 16 → ∀ j, m1 b j = m b j) (hgd : ∀ r : Int, 1 ≤ r → r ≤ n → m1 (v + 4) r = b2i (gd m a r))
    (hQ : ∀ m', Fr m1 m' [v + 7] → (∀ x : Int, 0 ≤ x → x < 251 → m' (v + 7) x = kdK m a x n) → Q jU (g0 L) m') :
    ∀ (d k : Nat) (l3 : jV) (m2 : jM), k + d = n → Fr m1 m2 [v + 7] → (∀ x : Int, 0 ≤ x → x < 251 → m2 (v + 7) x = kdK m a x k) → wp 123 26 [jO (some v), jO (some 2), jI (k : Int), l3] [] (g0 L) m2 Q := by
  have hv16 : 16 ≤ v := by unfold isW at hv; omega
  have h2 := h.2.1
  intro d
  induction d with
  | zero =>
    intro k l3 m2 hk hF hI
    have : k = n := by omega
    subst this
    have e0 : m2 2 0 = (k : Int) := by rw [hF 2 (by simp), hlo 2 (by decide)]; exact h.1
    rw [x_V_tellKinds_26]
    simp only [x_V_tellKinds_27, x_V_tellKinds_28, w_R_count, e0, x_V_tellKinds_31, x_V_tellKinds_80, sk_0, sk_1, sk_2, sk_3, sk_4, sk_5, sk_6, sk_7, sk_8, sk_9, sk_10, sk_11, sk_12, sk_13, sk_14, sk_15, sk_16, sk_17, sk_18, sk_19, sk_20, sk_21, sk_22, sk_23, sk_24, sk_25, sk_26, sk_27, sk_28, sk_29, sk_30, sk_31, sk_32, sk_33, sk_34, sk_35, sk_36, sk_37, sk_38, sk_39, sk_40, sk_41, sk_42, sk_43, sk_44, sk_45, sk_46, sk_47, sk_48, sk_49, sk_50, sk_51, sk_52, sk_53, sn_0, sn_1, sn_2, sn_3, sn_4, sn_5, sn_6, sn_7, sn_8, sn_9, sn_10, sn_11, sn_12, sn_13, sn_14, sn_15, sn_16, sn_17, sn_18, sn_19, sn_20, sn_21, sn_22, sn_23, sn_24, sn_25, sn_26, sn_27, sn_28, sn_29, sn_30, sn_31, sn_32, sn_33, sn_34, sn_35, sn_36, sn_37, sn_38, sn_39, sn_40, sn_41, sn_42, sn_43, sn_44, sn_45, sn_46, sn_47, sn_48, sn_49, sn_50, sn_51, sn_52, sn_53, rf_2_1, rf_2_2, rf_2_3, rf_2_4, rf_1_0, rf_1_1, rf_8_0, rf_7_0, rf_10_0, rf_7_1, rf_12_0, rf_7_2, rf_14_0, rf_7_3, rf_16_1, rf_16_2, rf_16_3, rf_16_4, rf_16_5, rf_16_6, rf_16_7, rf_1_2, rf_24_1, rf_24_2, rf_24_3, rf_24_4, rf_24_5, rf_24_6, rf_24_7, rf_1_3, rf_32_2, rf_32_3, rf_32_4, rf_32_5, rf_32_6, rf_32_7, rf_32_8, rf_32_9, rf_32_10, rf_32_12, rf_32_14, rf_32_15, rf_32_16, rf_32_18, rf_32_19, rf_32_21, rf_32_25, rf_32_26, rf_32_27, rf_32_28, rf_32_30, true_and, and_true, true_or, or_true, or_false, false_or, false_and, and_false, not_true, not_false_iff, ne_eq, and_self, eq_self, if_true, if_false, ite_true, ite_false, Nat.reduceLeDiff, Int.cast_ofNat_Int, Int.reduceLT, Int.reduceLE, Int.reduceEq, Int.reduceNeg, reduceCtorEq, jup_ap, Nat.reduceEqDiff, Nat.reduceAdd, kv0 hv, rv1 hv, kv1 hv, nv1 hv, rv2 hv, kv2 hv, nv2 hv, rv3 hv, kv3 hv, nv3 hv, rv4 hv, kv4 hv, nv4 hv, rv5 hv, kv5 hv, nv5 hv, rv6 hv, kv6 hv, nv6 hv, rv7 hv, kv7 hv, nv7 hv]
    rw [if_pos (by omega)]
    exact hQ m2 hF hI
  | succ d ih =>
    intro k l3 m2 hk hF hI
    have e0 : m2 2 0 = (n : Int) := by rw [hF 2 (by simp), hlo 2 (by decide)]; exact h.1
    have hc : m2 2 0 ≤ 250 := by omega
    obtain ⟨r, hre⟩ : ∃ r, r = m 5 k := ⟨_, rfl⟩
    have hr : 1 ≤ r ∧ r ≤ n := by rw [hre]; exact h.ord k (by omega)
    have eo : ordV m2 k = r := by
      unfold ordV
      rw [e0, if_pos (by omega), hF 5 (by simp), hlo 5 (by decide), hre]
    have cE : ∀ x w, cellV m2 x w = cellV m x w := fun x w => by
      unfold cellV
      rw [hF 2 (by simp), hF 3 (by simp), hlo 2 (by decide), hlo 3 (by decide)]
    have eg : m2 (v + 4) r = b2i (gd m a r) := by rw [hF (v + 4) (by simp)]; exact hgd r hr.1 hr.2
    have hb : 0 ≤ r ∧ r < 251 := by omega
    have hkn : ¬ (n : Int) ≤ (k : Int) := by omega
    have go : ∀ m3, Fr m1 m3 [v + 7] → (∀ x : Int, 0 ≤ x → x < 251 → m3 (v + 7) x = kdK m a x (k + 1)) → wp 123 26 [jO (some v), jO (some 2), jI (jwr ((k : Int) + 1)), jI r] [] (g0 L) m3 Q := fun m3 a1 a2 => by
      have g := ih (k + 1) (jI r) m3 (by omega) a1 a2
      rw [show jwr ((k : Int) + 1) = ((k + 1 : Nat) : Int) from jw1 (by omega) (by omega)]
      exact g
    rw [x_V_tellKinds_26]
    simp only [x_V_tellKinds_0, x_V_tellKinds_1, x_V_tellKinds_3, x_V_tellKinds_4, x_V_tellKinds_7, x_V_tellKinds_8, x_V_tellKinds_11, x_V_tellKinds_12, x_V_tellKinds_15, x_V_tellKinds_16, x_V_tellKinds_17, x_V_tellKinds_18, x_V_tellKinds_21, x_V_tellKinds_24, x_V_tellKinds_25, x_V_tellKinds_27, x_V_tellKinds_28, x_V_tellKinds_31, x_V_tellKinds_34, x_V_tellKinds_35, x_V_tellKinds_36, x_V_tellKinds_39, x_V_tellKinds_40, x_V_tellKinds_41, x_V_tellKinds_42, x_V_tellKinds_45, x_V_tellKinds_48, x_V_tellKinds_49, x_V_tellKinds_50, x_V_tellKinds_51, x_V_tellKinds_54, x_V_tellKinds_55, x_V_tellKinds_58, x_V_tellKinds_59, x_V_tellKinds_60, x_V_tellKinds_61, x_V_tellKinds_62, x_V_tellKinds_65, x_V_tellKinds_66, x_V_tellKinds_67, x_V_tellKinds_68, x_V_tellKinds_71, x_V_tellKinds_74, x_V_tellKinds_77, x_V_tellKinds_80, w_R_count, w_R_inOrderAt L _ _ _ hc, w_R_cell L _ _ _ _ hc, w_V_isGood hv, b01_0, eo, eg, cE, e0, hkn, hb, b2i_0, sk_0, sk_1, sk_2, sk_3, sk_4, sk_5, sk_6, sk_7, sk_8, sk_9, sk_10, sk_11, sk_12, sk_13, sk_14, sk_15, sk_16, sk_17, sk_18, sk_19, sk_20, sk_21, sk_22, sk_23, sk_24, sk_25, sk_26, sk_27, sk_28, sk_29, sk_30, sk_31, sk_32, sk_33, sk_34, sk_35, sk_36, sk_37, sk_38, sk_39, sk_40, sk_41, sk_42, sk_43, sk_44, sk_45, sk_46, sk_47, sk_48, sk_49, sk_50, sk_51, sk_52, sk_53, sn_0, sn_1, sn_2, sn_3, sn_4, sn_5, sn_6, sn_7, sn_8, sn_9, sn_10, sn_11, sn_12, sn_13, sn_14, sn_15, sn_16, sn_17, sn_18, sn_19, sn_20, sn_21, sn_22, sn_23, sn_24, sn_25, sn_26, sn_27, sn_28, sn_29, sn_30, sn_31, sn_32, sn_33, sn_34, sn_35, sn_36, sn_37, sn_38, sn_39, sn_40, sn_41, sn_42, sn_43, sn_44, sn_45, sn_46, sn_47, sn_48, sn_49, sn_50, sn_51, sn_52, sn_53, rf_2_1, rf_2_2, rf_2_3, rf_2_4, rf_1_0, rf_1_1, rf_8_0, rf_7_0, rf_10_0, rf_7_1, rf_12_0, rf_7_2, rf_14_0, rf_7_3, rf_16_1, rf_16_2, rf_16_3, rf_16_4, rf_16_5, rf_16_6, rf_16_7, rf_1_2, rf_24_1, rf_24_2, rf_24_3, rf_24_4, rf_24_5, rf_24_6, rf_24_7, rf_1_3, rf_32_2, rf_32_3, rf_32_4, rf_32_5, rf_32_6, rf_32_7, rf_32_8, rf_32_9, rf_32_10, rf_32_12, rf_32_14, rf_32_15, rf_32_16, rf_32_18, rf_32_19, rf_32_21, rf_32_25, rf_32_26, rf_32_27, rf_32_28, rf_32_30, true_and, and_true, true_or, or_true, or_false, false_or, false_and, and_false, not_true, not_false_iff, ne_eq, and_self, eq_self, if_true, if_false, ite_true, ite_false, Nat.reduceLeDiff, Int.cast_ofNat_Int, Int.reduceLT, Int.reduceLE, Int.reduceEq, Int.reduceNeg, reduceCtorEq, jup_ap, Nat.reduceEqDiff, Nat.reduceAdd, kv0 hv, rv1 hv, kv1 hv, nv1 hv, rv2 hv, kv2 hv, nv2 hv, rv3 hv, kv3 hv, nv3 hv, rv4 hv, kv4 hv, nv4 hv, rv5 hv, kv5 hv, nv5 hv, rv6 hv, kv6 hv, nv6 hv, rv7 hv, kv7 hv, nv7 hv]
    cases hg : gd m a r
    · simp only [true_and, and_true, true_or, or_true, or_false, false_or, false_and, and_false, not_true, not_false_iff, ne_eq, and_self, eq_self, if_true, if_false, ite_true, ite_false, Nat.reduceLeDiff, Int.cast_ofNat_Int, Int.reduceLT, Int.reduceLE, Int.reduceEq, Int.reduceNeg, reduceCtorEq, jup_ap, Nat.reduceEqDiff, Nat.reduceAdd]
      refine go m2 hF (fun x x1 x2 => ?_)
      rw [hI x x1 x2]
      show _ = if _ then _ else _
      rw [← hre, if_neg (fun q => by have := q.1.1; rw [hg] at this; cases this)]
    · simp only [true_and, and_true, true_or, or_true, or_false, false_or, false_and, and_false, not_true, not_false_iff, ne_eq, and_self, eq_self, if_true, if_false, ite_true, ite_false, Nat.reduceLeDiff, Int.cast_ofNat_Int, Int.reduceLT, Int.reduceLE, Int.reduceEq, Int.reduceNeg, reduceCtorEq, jup_ap, Nat.reduceEqDiff, Nat.reduceAdd, Bool.true_eq_false]
      by_cases h4 : cellV m r 0 = 4
      · rw [if_neg (fun q => q h4)]
        have hro := (h.2.2.1 r hr.1 hr.2).2.2.2.2.2.2.2.1 h4
        unfold isIns at hro
        rw [w_V_keepKind hv, if_pos (by omega)]
        refine go _ (hF.up (by simp)) (fun x x1 x2 => ?_)
        rw [jup_ap]
        show _ = if _ then _ else _
        rw [← hre]
        by_cases e : cellV m r 5 = x
        · rw [if_pos ⟨rfl, e.symm⟩, if_pos ⟨⟨hg, h4⟩, e⟩]
        · rw [if_neg (fun q => e q.2.symm), if_neg (fun q => e q.2)]
          exact hI x x1 x2
      · rw [if_pos h4]
        refine go m2 hF (fun x x1 x2 => ?_)
        rw [hI x x1 x2]
        show _ = if _ then _ else _
        rw [← hre, if_neg (fun q => h4 q.1.2)]
theorem w_V_tellKinds {v a n : Nat} (hv : isW v) (L : Nat) (m m1 : jM) (Q : jV → jG → jM → Prop) (h : CI m n) (hlo : ∀ b, b < 16 → ∀ j, m1 b j = m b j) (hgd : ∀ r : Int, 1 ≤ r → r ≤ n → m1 (v + 4) r = b2i (gd m a r))
    (hQ : ∀ m', Fr m1 m' [v + 7] → (∀ x : Int, 0 ≤ x → x < 251 → m' (v + 7) x = kdK m a x n) → Q jU (g0 L) m') : wp 123 0 [jO (some v), jO (some 2), jU, jU] [] (g0 L) m1 Q := by
  have hv16 : 16 ≤ v := by unfold isW at hv; omega
  simp only [x_V_tellKinds_0, x_V_tellKinds_1]
  refine wl_V_tk0 hv L m1 Q jU (fun m2 hF h0 => ?_) 251 0 m1 (by omega) (by omega) Fr.rf (fun x a b => by omega)
  simp only [x_V_tellKinds_24, x_V_tellKinds_25]
  exact wl_V_tk1 (a := a) hv L m m2 Q h (fun b hb j => by rw [hF b (by simp; omega)]; exact hlo b hb j) (fun r r1 r2 => by rw [hF (v + 4) (by simp)]; exact hgd r r1 r2) (fun m' hF' hk => hQ m' (hF.trans hF') hk) n 0 jU m2 (by omega) Fr.rf (fun x x1 x2 => by rw [h0 x x1 x2]; rfl)
def parA (m : jM) (n : Nat) (p k w : Int) : Int := if w = 0 then psP m p k else if w = 1 then pE (tx m (nc p)) (psP m p k) ((visL m (nc p)).length - (psP m p k).toNat) - psP m p k else if w = 2 then kdK m (nc p) (getI (visL m (nc p)) (psP m p k - 1) 0) n else -1
theorem psP_bd {m m1 : jM} {s : Nat} {p : Int} (hs : ShowP m m1 16 (nc p) s) {k : Int} (hz : psP m p k ≠ -1) : 0 ≤ psP m p k ∧ psP m p k ≤ (s : Int) := by
  rw [← psP_of (p := p) hs k] at hz ⊢
  unfold pSt0 at hz ⊢
  by_cases e : k = 0
  · rw [if_pos e]; omega
  · rw [if_neg e] at hz ⊢
    rcases pSt_bd (f := m1 18) (k := k) s 0 0 (by omega) with q | q
    · exact absurd q hz
    · omega
theorem pE_bd {f : Int → Int} : ∀ (d : Nat) (i : Int), i ≤ pE f i d ∧ pE f i d ≤ i + d
  | 0, i => by simp [pE]
  | d + 1, i => by
    have := pE_bd (f := f) d (i + 1)
    unfold pE
    split
    · omega
    · omega
theorem w_T_paragraph (L : Nat) (p k w : Int) (m : jM) (Q : jV → jG → jM → Prop) (n : Nat) (h : CI m n) (h0 : ¬ ((0 ≤ p ∧ p < 4) ∧ psP m p k ≠ -1) → ∀ m', VF m m' → Q (jI (-1)) (g0 L) m')
    (hQ : ((0 ≤ p ∧ p < 4) ∧ psP m p k ≠ -1) → ∀ m', VF m m' → Q (jI (parA m n p k w)) (g0 L) m') : wp 16 0 [jO (some 1), jI p, jI k, jI w, jU] [] (g0 L) m Q := by
  have h2 := h.2.1
  simp only [x_T_paragraph_0, x_T_paragraph_1, x_T_paragraph_2, x_T_paragraph_5, x_T_paragraph_8, x_T_paragraph_9, x_T_paragraph_12, x_T_paragraph_13, x_T_paragraph_16, x_T_paragraph_19, x_T_paragraph_20, x_T_paragraph_22, x_T_paragraph_24, x_T_paragraph_25, x_T_paragraph_28, x_T_paragraph_29, x_T_paragraph_30, x_T_paragraph_31, x_T_paragraph_56, x_T_paragraph_58, x_T_paragraph_59, x_T_paragraph_60, x_T_paragraph_63, x_T_paragraph_65, x_T_paragraph_68, x_T_paragraph_70, x_T_paragraph_71, x_T_paragraph_72, x_T_paragraph_73, x_T_paragraph_76, x_T_paragraph_77, x_T_paragraph_80, x_T_paragraph_83, x_T_paragraph_84, x_T_paragraph_87, x_T_paragraph_89, x_T_paragraph_92, x_T_paragraph_93, x_T_paragraph_94, sk_0, sk_1, sk_2, sk_3, sk_4, sk_5, sk_6, sk_7, sk_8, sk_9, sk_10, sk_11, sk_12, sk_13, sk_14, sk_15, sk_16, sk_17, sk_18, sk_19, sk_20, sk_21, sk_22, sk_23, sk_24, sk_25, sk_26, sk_27, sk_28, sk_29, sk_30, sk_31, sk_32, sk_33, sk_34, sk_35, sk_36, sk_37, sk_38, sk_39, sk_40, sk_41, sk_42, sk_43, sk_44, sk_45, sk_46, sk_47, sk_48, sk_49, sk_50, sk_51, sk_52, sk_53, sn_0, sn_1, sn_2, sn_3, sn_4, sn_5, sn_6, sn_7, sn_8, sn_9, sn_10, sn_11, sn_12, sn_13, sn_14, sn_15, sn_16, sn_17, sn_18, sn_19, sn_20, sn_21, sn_22, sn_23, sn_24, sn_25, sn_26, sn_27, sn_28, sn_29, sn_30, sn_31, sn_32, sn_33, sn_34, sn_35, sn_36, sn_37, sn_38, sn_39, sn_40, sn_41, sn_42, sn_43, sn_44, sn_45, sn_46, sn_47, sn_48, sn_49, sn_50, sn_51, sn_52, sn_53, rf_2_1, rf_2_2, rf_2_3, rf_2_4, rf_1_0, rf_1_1, rf_8_0, rf_7_0, rf_10_0, rf_7_1, rf_12_0, rf_7_2, rf_14_0, rf_7_3, rf_16_1, rf_16_2, rf_16_3, rf_16_4, rf_16_5, rf_16_6, rf_16_7, rf_1_2, rf_24_1, rf_24_2, rf_24_3, rf_24_4, rf_24_5, rf_24_6, rf_24_7, rf_1_3, rf_32_2, rf_32_3, rf_32_4, rf_32_5, rf_32_6, rf_32_7, rf_32_8, rf_32_9, rf_32_10, rf_32_12, rf_32_14, rf_32_15, rf_32_16, rf_32_18, rf_32_19, rf_32_21, rf_32_25, rf_32_26, rf_32_27, rf_32_28, rf_32_30, true_and, and_true, true_or, or_true, or_false, false_or, false_and, and_false, not_true, not_false_iff, ne_eq, and_self, eq_self, if_true, if_false, ite_true, ite_false, Nat.reduceLeDiff, Int.cast_ofNat_Int, Int.reduceLT, Int.reduceLE, Int.reduceEq, Int.reduceNeg, reduceCtorEq, jup_ap, Nat.reduceEqDiff, Nat.reduceAdd]
  refine w_T_shows L p m _ h.cw (fun hp => ?_) (fun hp m1 s hF hs => ?_)
  · simp only [x_T_paragraph_0, x_T_paragraph_1, x_T_paragraph_2, x_T_paragraph_5, x_T_paragraph_8, x_T_paragraph_9, x_T_paragraph_12, x_T_paragraph_13, x_T_paragraph_16, x_T_paragraph_19, x_T_paragraph_20, x_T_paragraph_22, x_T_paragraph_24, x_T_paragraph_25, x_T_paragraph_28, x_T_paragraph_29, x_T_paragraph_30, x_T_paragraph_31, x_T_paragraph_56, x_T_paragraph_58, x_T_paragraph_59, x_T_paragraph_60, x_T_paragraph_63, x_T_paragraph_65, x_T_paragraph_68, x_T_paragraph_70, x_T_paragraph_71, x_T_paragraph_72, x_T_paragraph_73, x_T_paragraph_76, x_T_paragraph_77, x_T_paragraph_80, x_T_paragraph_83, x_T_paragraph_84, x_T_paragraph_87, x_T_paragraph_89, x_T_paragraph_92, x_T_paragraph_93, x_T_paragraph_94, sk_0, sk_1, sk_2, sk_3, sk_4, sk_5, sk_6, sk_7, sk_8, sk_9, sk_10, sk_11, sk_12, sk_13, sk_14, sk_15, sk_16, sk_17, sk_18, sk_19, sk_20, sk_21, sk_22, sk_23, sk_24, sk_25, sk_26, sk_27, sk_28, sk_29, sk_30, sk_31, sk_32, sk_33, sk_34, sk_35, sk_36, sk_37, sk_38, sk_39, sk_40, sk_41, sk_42, sk_43, sk_44, sk_45, sk_46, sk_47, sk_48, sk_49, sk_50, sk_51, sk_52, sk_53, sn_0, sn_1, sn_2, sn_3, sn_4, sn_5, sn_6, sn_7, sn_8, sn_9, sn_10, sn_11, sn_12, sn_13, sn_14, sn_15, sn_16, sn_17, sn_18, sn_19, sn_20, sn_21, sn_22, sn_23, sn_24, sn_25, sn_26, sn_27, sn_28, sn_29, sn_30, sn_31, sn_32, sn_33, sn_34, sn_35, sn_36, sn_37, sn_38, sn_39, sn_40, sn_41, sn_42, sn_43, sn_44, sn_45, sn_46, sn_47, sn_48, sn_49, sn_50, sn_51, sn_52, sn_53, rf_2_1, rf_2_2, rf_2_3, rf_2_4, rf_1_0, rf_1_1, rf_8_0, rf_7_0, rf_10_0, rf_7_1, rf_12_0, rf_7_2, rf_14_0, rf_7_3, rf_16_1, rf_16_2, rf_16_3, rf_16_4, rf_16_5, rf_16_6, rf_16_7, rf_1_2, rf_24_1, rf_24_2, rf_24_3, rf_24_4, rf_24_5, rf_24_6, rf_24_7, rf_1_3, rf_32_2, rf_32_3, rf_32_4, rf_32_5, rf_32_6, rf_32_7, rf_32_8, rf_32_9, rf_32_10, rf_32_12, rf_32_14, rf_32_15, rf_32_16, rf_32_18, rf_32_19, rf_32_21, rf_32_25, rf_32_26, rf_32_27, rf_32_28, rf_32_30, true_and, and_true, true_or, or_true, or_false, false_or, false_and, and_false, not_true, not_false_iff, ne_eq, and_self, eq_self, if_true, if_false, ite_true, ite_false, Nat.reduceLeDiff, Int.cast_ofNat_Int, Int.reduceLT, Int.reduceLE, Int.reduceEq, Int.reduceNeg, reduceCtorEq, jup_ap, Nat.reduceEqDiff, Nat.reduceAdd]
    exact h0 (fun q => hp q.1) m VF.rf
  · have hsz : m1 16 0 = (s : Int) := hs.2.2.1
    have hs250 := hs.2.1
    have hVF : VF m m1 := hF.vf (by simp)
    have hlo : ∀ b, b < 16 → ∀ j, m1 b j = m b j := fun b hb j => hF b (by simp; omega) j
    simp only [x_T_paragraph_0, x_T_paragraph_1, x_T_paragraph_2, x_T_paragraph_5, x_T_paragraph_8, x_T_paragraph_9, x_T_paragraph_12, x_T_paragraph_13, x_T_paragraph_16, x_T_paragraph_19, x_T_paragraph_20, x_T_paragraph_22, x_T_paragraph_24, x_T_paragraph_25, x_T_paragraph_28, x_T_paragraph_29, x_T_paragraph_30, x_T_paragraph_31, x_T_paragraph_56, x_T_paragraph_58, x_T_paragraph_59, x_T_paragraph_60, x_T_paragraph_63, x_T_paragraph_65, x_T_paragraph_68, x_T_paragraph_70, x_T_paragraph_71, x_T_paragraph_72, x_T_paragraph_73, x_T_paragraph_76, x_T_paragraph_77, x_T_paragraph_80, x_T_paragraph_83, x_T_paragraph_84, x_T_paragraph_87, x_T_paragraph_89, x_T_paragraph_92, x_T_paragraph_93, x_T_paragraph_94, sk_0, sk_1, sk_2, sk_3, sk_4, sk_5, sk_6, sk_7, sk_8, sk_9, sk_10, sk_11, sk_12, sk_13, sk_14, sk_15, sk_16, sk_17, sk_18, sk_19, sk_20, sk_21, sk_22, sk_23, sk_24, sk_25, sk_26, sk_27, sk_28, sk_29, sk_30, sk_31, sk_32, sk_33, sk_34, sk_35, sk_36, sk_37, sk_38, sk_39, sk_40, sk_41, sk_42, sk_43, sk_44, sk_45, sk_46, sk_47, sk_48, sk_49, sk_50, sk_51, sk_52, sk_53, sn_0, sn_1, sn_2, sn_3, sn_4, sn_5, sn_6, sn_7, sn_8, sn_9, sn_10, sn_11, sn_12, sn_13, sn_14, sn_15, sn_16, sn_17, sn_18, sn_19, sn_20, sn_21, sn_22, sn_23, sn_24, sn_25, sn_26, sn_27, sn_28, sn_29, sn_30, sn_31, sn_32, sn_33, sn_34, sn_35, sn_36, sn_37, sn_38, sn_39, sn_40, sn_41, sn_42, sn_43, sn_44, sn_45, sn_46, sn_47, sn_48, sn_49, sn_50, sn_51, sn_52, sn_53, rf_2_1, rf_2_2, rf_2_3, rf_2_4, rf_1_0, rf_1_1, rf_8_0, rf_7_0, rf_10_0, rf_7_1, rf_12_0, rf_7_2, rf_14_0, rf_7_3, rf_16_1, rf_16_2, rf_16_3, rf_16_4, rf_16_5, rf_16_6, rf_16_7, rf_1_2, rf_24_1, rf_24_2, rf_24_3, rf_24_4, rf_24_5, rf_24_6, rf_24_7, rf_1_3, rf_32_2, rf_32_3, rf_32_4, rf_32_5, rf_32_6, rf_32_7, rf_32_8, rf_32_9, rf_32_10, rf_32_12, rf_32_14, rf_32_15, rf_32_16, rf_32_18, rf_32_19, rf_32_21, rf_32_25, rf_32_26, rf_32_27, rf_32_28, rf_32_30, true_and, and_true, true_or, or_true, or_false, false_or, false_and, and_false, not_true, not_false_iff, ne_eq, and_self, eq_self, if_true, if_false, ite_true, ite_false, Nat.reduceLeDiff, Int.cast_ofNat_Int, Int.reduceLT, Int.reduceLE, Int.reduceEq, Int.reduceNeg, reduceCtorEq, jup_ap, Nat.reduceEqDiff, Nat.reduceAdd, Int.one_ne_zero]
    rw [w_V_pStart (Or.inl rfl) L k m1 _ s hsz hs250, show pSt0 (m1 (16 + 2)) k s = psP m p k from psP_of (p := p) hs k]
    simp only [x_T_paragraph_0, x_T_paragraph_1, x_T_paragraph_2, x_T_paragraph_5, x_T_paragraph_8, x_T_paragraph_9, x_T_paragraph_12, x_T_paragraph_13, x_T_paragraph_16, x_T_paragraph_19, x_T_paragraph_20, x_T_paragraph_22, x_T_paragraph_24, x_T_paragraph_25, x_T_paragraph_28, x_T_paragraph_29, x_T_paragraph_30, x_T_paragraph_31, x_T_paragraph_56, x_T_paragraph_58, x_T_paragraph_59, x_T_paragraph_60, x_T_paragraph_63, x_T_paragraph_65, x_T_paragraph_68, x_T_paragraph_70, x_T_paragraph_71, x_T_paragraph_72, x_T_paragraph_73, x_T_paragraph_76, x_T_paragraph_77, x_T_paragraph_80, x_T_paragraph_83, x_T_paragraph_84, x_T_paragraph_87, x_T_paragraph_89, x_T_paragraph_92, x_T_paragraph_93, x_T_paragraph_94, sk_0, sk_1, sk_2, sk_3, sk_4, sk_5, sk_6, sk_7, sk_8, sk_9, sk_10, sk_11, sk_12, sk_13, sk_14, sk_15, sk_16, sk_17, sk_18, sk_19, sk_20, sk_21, sk_22, sk_23, sk_24, sk_25, sk_26, sk_27, sk_28, sk_29, sk_30, sk_31, sk_32, sk_33, sk_34, sk_35, sk_36, sk_37, sk_38, sk_39, sk_40, sk_41, sk_42, sk_43, sk_44, sk_45, sk_46, sk_47, sk_48, sk_49, sk_50, sk_51, sk_52, sk_53, sn_0, sn_1, sn_2, sn_3, sn_4, sn_5, sn_6, sn_7, sn_8, sn_9, sn_10, sn_11, sn_12, sn_13, sn_14, sn_15, sn_16, sn_17, sn_18, sn_19, sn_20, sn_21, sn_22, sn_23, sn_24, sn_25, sn_26, sn_27, sn_28, sn_29, sn_30, sn_31, sn_32, sn_33, sn_34, sn_35, sn_36, sn_37, sn_38, sn_39, sn_40, sn_41, sn_42, sn_43, sn_44, sn_45, sn_46, sn_47, sn_48, sn_49, sn_50, sn_51, sn_52, sn_53, rf_2_1, rf_2_2, rf_2_3, rf_2_4, rf_1_0, rf_1_1, rf_8_0, rf_7_0, rf_10_0, rf_7_1, rf_12_0, rf_7_2, rf_14_0, rf_7_3, rf_16_1, rf_16_2, rf_16_3, rf_16_4, rf_16_5, rf_16_6, rf_16_7, rf_1_2, rf_24_1, rf_24_2, rf_24_3, rf_24_4, rf_24_5, rf_24_6, rf_24_7, rf_1_3, rf_32_2, rf_32_3, rf_32_4, rf_32_5, rf_32_6, rf_32_7, rf_32_8, rf_32_9, rf_32_10, rf_32_12, rf_32_14, rf_32_15, rf_32_16, rf_32_18, rf_32_19, rf_32_21, rf_32_25, rf_32_26, rf_32_27, rf_32_28, rf_32_30, true_and, and_true, true_or, or_true, or_false, false_or, false_and, and_false, not_true, not_false_iff, ne_eq, and_self, eq_self, if_true, if_false, ite_true, ite_false, Nat.reduceLeDiff, Int.cast_ofNat_Int, Int.reduceLT, Int.reduceLE, Int.reduceEq, Int.reduceNeg, reduceCtorEq, jup_ap, Nat.reduceEqDiff, Nat.reduceAdd]
    by_cases hz : psP m p k = -1
    · rw [if_neg (fun q => q hz)]
      exact h0 (fun q => q.2 hz) m1 hVF
    · rw [if_pos hz]
      have hbd := psP_bd (p := p) hs hz
      have hq := hQ ⟨hp, hz⟩
      unfold parA at hq
      rw [show (visL m (nc p)).length = s from hs.1] at hq
      by_cases w0 : w = 0
      · rw [if_pos w0]
        have := hq m1 hVF
        rw [if_pos w0] at this
        exact this
      · rw [if_neg w0]
        by_cases w1 : w = 1
        · rw [if_pos w1, w_V_pEnd (Or.inl rfl) L _ m1 _ s hsz hs250 hbd.1 hbd.2]
          have := hq m1 hVF
          rw [if_neg w0, if_pos w1] at this
          have e : pE (m1 (16 + 2)) (psP m p k) (s - (psP m p k).toNat) = pE (tx m (nc p)) (psP m p k) (s - (psP m p k).toNat) := pE_congr _ _ (fun j j1 j2 => tx_of hs j (by omega) (by omega))
          have hpb := pE_bd (f := tx m (nc p)) (s - (psP m p k).toNat) (psP m p k)
          rw [e]
          simp only [x_T_paragraph_0, x_T_paragraph_1, x_T_paragraph_2, x_T_paragraph_5, x_T_paragraph_8, x_T_paragraph_9, x_T_paragraph_12, x_T_paragraph_13, x_T_paragraph_16, x_T_paragraph_19, x_T_paragraph_20, x_T_paragraph_22, x_T_paragraph_24, x_T_paragraph_25, x_T_paragraph_28, x_T_paragraph_29, x_T_paragraph_30, x_T_paragraph_31, x_T_paragraph_56, x_T_paragraph_58, x_T_paragraph_59, x_T_paragraph_60, x_T_paragraph_63, x_T_paragraph_65, x_T_paragraph_68, x_T_paragraph_70, x_T_paragraph_71, x_T_paragraph_72, x_T_paragraph_73, x_T_paragraph_76, x_T_paragraph_77, x_T_paragraph_80, x_T_paragraph_83, x_T_paragraph_84, x_T_paragraph_87, x_T_paragraph_89, x_T_paragraph_92, x_T_paragraph_93, x_T_paragraph_94, sk_0, sk_1, sk_2, sk_3, sk_4, sk_5, sk_6, sk_7, sk_8, sk_9, sk_10, sk_11, sk_12, sk_13, sk_14, sk_15, sk_16, sk_17, sk_18, sk_19, sk_20, sk_21, sk_22, sk_23, sk_24, sk_25, sk_26, sk_27, sk_28, sk_29, sk_30, sk_31, sk_32, sk_33, sk_34, sk_35, sk_36, sk_37, sk_38, sk_39, sk_40, sk_41, sk_42, sk_43, sk_44, sk_45, sk_46, sk_47, sk_48, sk_49, sk_50, sk_51, sk_52, sk_53, sn_0, sn_1, sn_2, sn_3, sn_4, sn_5, sn_6, sn_7, sn_8, sn_9, sn_10, sn_11, sn_12, sn_13, sn_14, sn_15, sn_16, sn_17, sn_18, sn_19, sn_20, sn_21, sn_22, sn_23, sn_24, sn_25, sn_26, sn_27, sn_28, sn_29, sn_30, sn_31, sn_32, sn_33, sn_34, sn_35, sn_36, sn_37, sn_38, sn_39, sn_40, sn_41, sn_42, sn_43, sn_44, sn_45, sn_46, sn_47, sn_48, sn_49, sn_50, sn_51, sn_52, sn_53, rf_2_1, rf_2_2, rf_2_3, rf_2_4, rf_1_0, rf_1_1, rf_8_0, rf_7_0, rf_10_0, rf_7_1, rf_12_0, rf_7_2, rf_14_0, rf_7_3, rf_16_1, rf_16_2, rf_16_3, rf_16_4, rf_16_5, rf_16_6, rf_16_7, rf_1_2, rf_24_1, rf_24_2, rf_24_3, rf_24_4, rf_24_5, rf_24_6, rf_24_7, rf_1_3, rf_32_2, rf_32_3, rf_32_4, rf_32_5, rf_32_6, rf_32_7, rf_32_8, rf_32_9, rf_32_10, rf_32_12, rf_32_14, rf_32_15, rf_32_16, rf_32_18, rf_32_19, rf_32_21, rf_32_25, rf_32_26, rf_32_27, rf_32_28, rf_32_30, true_and, and_true, true_or, or_true, or_false, false_or, false_and, and_false, not_true, not_false_iff, ne_eq, and_self, eq_self, if_true, if_false, ite_true, ite_false, Nat.reduceLeDiff, Int.cast_ofNat_Int, Int.reduceLT, Int.reduceLE, Int.reduceEq, Int.reduceNeg, reduceCtorEq, jup_ap, Nat.reduceEqDiff, Nat.reduceAdd]
          rw [jw1 (by omega) (by omega)]
          exact this
        · rw [if_neg w1]
          by_cases w2 : w = 2
          · rw [if_pos w2]
            refine w_V_tellKinds (a := nc p) (Or.inl rfl) L m m1 _ h hlo (fun r r1 r2 => (hs.2.2.2.2.2.2 r r1 (by rw [h.1]; exact r2)).1) (fun m' hF' hk => ?_)
            have := hq m' (hVF.trans (hF'.vf (by simp)))
            rw [if_neg w0, if_neg w1, if_pos w2] at this
            have hsz2 : m' 16 0 = (s : Int) := by rw [hF' 16 (by simp)]; exact hsz
            have e : iaV m' 16 (psP m p k - 1) = getI (visL m (nc p)) (psP m p k - 1) 0 := by
              rw [← iaV_get (a := nc p) hs]
              unfold iaV
              rw [hF' 16 (by simp), hF' (16 + 1) (by simp)]
            have hx : 0 ≤ getI (visL m (nc p)) (psP m p k - 1) 0 ∧ getI (visL m (nc p)) (psP m p k - 1) 0 < 251 := by
              by_cases q : psP m p k - 1 < 0
              · rw [getI_out (Or.inl q)]; omega
              · have := vis_mem h (getI_mem (l := visL m (nc p)) (i := psP m p k - 1) (d := 0) (by omega) (by rw [show (visL m (nc p)).length = s from hs.1]; omega))
                unfold isIns at this
                omega
            simp only [x_T_paragraph_0, x_T_paragraph_1, x_T_paragraph_2, x_T_paragraph_5, x_T_paragraph_8, x_T_paragraph_9, x_T_paragraph_12, x_T_paragraph_13, x_T_paragraph_16, x_T_paragraph_19, x_T_paragraph_20, x_T_paragraph_22, x_T_paragraph_24, x_T_paragraph_25, x_T_paragraph_28, x_T_paragraph_29, x_T_paragraph_30, x_T_paragraph_31, x_T_paragraph_56, x_T_paragraph_58, x_T_paragraph_59, x_T_paragraph_60, x_T_paragraph_63, x_T_paragraph_65, x_T_paragraph_68, x_T_paragraph_70, x_T_paragraph_71, x_T_paragraph_72, x_T_paragraph_73, x_T_paragraph_76, x_T_paragraph_77, x_T_paragraph_80, x_T_paragraph_83, x_T_paragraph_84, x_T_paragraph_87, x_T_paragraph_89, x_T_paragraph_92, x_T_paragraph_93, x_T_paragraph_94, sk_0, sk_1, sk_2, sk_3, sk_4, sk_5, sk_6, sk_7, sk_8, sk_9, sk_10, sk_11, sk_12, sk_13, sk_14, sk_15, sk_16, sk_17, sk_18, sk_19, sk_20, sk_21, sk_22, sk_23, sk_24, sk_25, sk_26, sk_27, sk_28, sk_29, sk_30, sk_31, sk_32, sk_33, sk_34, sk_35, sk_36, sk_37, sk_38, sk_39, sk_40, sk_41, sk_42, sk_43, sk_44, sk_45, sk_46, sk_47, sk_48, sk_49, sk_50, sk_51, sk_52, sk_53, sn_0, sn_1, sn_2, sn_3, sn_4, sn_5, sn_6, sn_7, sn_8, sn_9, sn_10, sn_11, sn_12, sn_13, sn_14, sn_15, sn_16, sn_17, sn_18, sn_19, sn_20, sn_21, sn_22, sn_23, sn_24, sn_25, sn_26, sn_27, sn_28, sn_29, sn_30, sn_31, sn_32, sn_33, sn_34, sn_35, sn_36, sn_37, sn_38, sn_39, sn_40, sn_41, sn_42, sn_43, sn_44, sn_45, sn_46, sn_47, sn_48, sn_49, sn_50, sn_51, sn_52, sn_53, rf_2_1, rf_2_2, rf_2_3, rf_2_4, rf_1_0, rf_1_1, rf_8_0, rf_7_0, rf_10_0, rf_7_1, rf_12_0, rf_7_2, rf_14_0, rf_7_3, rf_16_1, rf_16_2, rf_16_3, rf_16_4, rf_16_5, rf_16_6, rf_16_7, rf_1_2, rf_24_1, rf_24_2, rf_24_3, rf_24_4, rf_24_5, rf_24_6, rf_24_7, rf_1_3, rf_32_2, rf_32_3, rf_32_4, rf_32_5, rf_32_6, rf_32_7, rf_32_8, rf_32_9, rf_32_10, rf_32_12, rf_32_14, rf_32_15, rf_32_16, rf_32_18, rf_32_19, rf_32_21, rf_32_25, rf_32_26, rf_32_27, rf_32_28, rf_32_30, true_and, and_true, true_or, or_true, or_false, false_or, false_and, and_false, not_true, not_false_iff, ne_eq, and_self, eq_self, if_true, if_false, ite_true, ite_false, Nat.reduceLeDiff, Int.cast_ofNat_Int, Int.reduceLT, Int.reduceLE, Int.reduceEq, Int.reduceNeg, reduceCtorEq, jup_ap, Nat.reduceEqDiff, Nat.reduceAdd]
            rw [w_V_kindFrom (Or.inl rfl) L _ m' _ (by rw [hsz2]; omega) (by omega), e, if_pos hx, hk _ hx.1 hx.2]
            simp only [x_T_paragraph_0, x_T_paragraph_1, x_T_paragraph_2, x_T_paragraph_5, x_T_paragraph_8, x_T_paragraph_9, x_T_paragraph_12, x_T_paragraph_13, x_T_paragraph_16, x_T_paragraph_19, x_T_paragraph_20, x_T_paragraph_22, x_T_paragraph_24, x_T_paragraph_25, x_T_paragraph_28, x_T_paragraph_29, x_T_paragraph_30, x_T_paragraph_31, x_T_paragraph_56, x_T_paragraph_58, x_T_paragraph_59, x_T_paragraph_60, x_T_paragraph_63, x_T_paragraph_65, x_T_paragraph_68, x_T_paragraph_70, x_T_paragraph_71, x_T_paragraph_72, x_T_paragraph_73, x_T_paragraph_76, x_T_paragraph_77, x_T_paragraph_80, x_T_paragraph_83, x_T_paragraph_84, x_T_paragraph_87, x_T_paragraph_89, x_T_paragraph_92, x_T_paragraph_93, x_T_paragraph_94, sk_0, sk_1, sk_2, sk_3, sk_4, sk_5, sk_6, sk_7, sk_8, sk_9, sk_10, sk_11, sk_12, sk_13, sk_14, sk_15, sk_16, sk_17, sk_18, sk_19, sk_20, sk_21, sk_22, sk_23, sk_24, sk_25, sk_26, sk_27, sk_28, sk_29, sk_30, sk_31, sk_32, sk_33, sk_34, sk_35, sk_36, sk_37, sk_38, sk_39, sk_40, sk_41, sk_42, sk_43, sk_44, sk_45, sk_46, sk_47, sk_48, sk_49, sk_50, sk_51, sk_52, sk_53, sn_0, sn_1, sn_2, sn_3, sn_4, sn_5, sn_6, sn_7, sn_8, sn_9, sn_10, sn_11, sn_12, sn_13, sn_14, sn_15, sn_16, sn_17, sn_18, sn_19, sn_20, sn_21, sn_22, sn_23, sn_24, sn_25, sn_26, sn_27, sn_28, sn_29, sn_30, sn_31, sn_32, sn_33, sn_34, sn_35, sn_36, sn_37, sn_38, sn_39, sn_40, sn_41, sn_42, sn_43, sn_44, sn_45, sn_46, sn_47, sn_48, sn_49, sn_50, sn_51, sn_52, sn_53, rf_2_1, rf_2_2, rf_2_3, rf_2_4, rf_1_0, rf_1_1, rf_8_0, rf_7_0, rf_10_0, rf_7_1, rf_12_0, rf_7_2, rf_14_0, rf_7_3, rf_16_1, rf_16_2, rf_16_3, rf_16_4, rf_16_5, rf_16_6, rf_16_7, rf_1_2, rf_24_1, rf_24_2, rf_24_3, rf_24_4, rf_24_5, rf_24_6, rf_24_7, rf_1_3, rf_32_2, rf_32_3, rf_32_4, rf_32_5, rf_32_6, rf_32_7, rf_32_8, rf_32_9, rf_32_10, rf_32_12, rf_32_14, rf_32_15, rf_32_16, rf_32_18, rf_32_19, rf_32_21, rf_32_25, rf_32_26, rf_32_27, rf_32_28, rf_32_30, true_and, and_true, true_or, or_true, or_false, false_or, false_and, and_false, not_true, not_false_iff, ne_eq, and_self, eq_self, if_true, if_false, ite_true, ite_false, Nat.reduceLeDiff, Int.cast_ofNat_Int, Int.reduceLT, Int.reduceLE, Int.reduceEq, Int.reduceNeg, reduceCtorEq, jup_ap, Nat.reduceEqDiff, Nat.reduceAdd]
            exact this
          · rw [if_neg w2]
            have := hq m1 hVF
            rw [if_neg w0, if_neg w1, if_neg w2] at this
            exact this
