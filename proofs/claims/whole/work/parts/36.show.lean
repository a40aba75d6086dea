/-- the places that one sees among the first k -/
def VLk (m m0 : jM) (v : Nat) (k : Nat) : List Int := (ar (m 6) k).filter fun x => decide (m0 (v + 5) x ≠ 0)
theorem VLk_succ (m m0 : jM) (v k : Nat) : VLk m m0 v (k + 1) = VLk m m0 v k ++ if m0 (v + 5) (m 6 k) ≠ 0 then [m 6 k] else [] := by
  unfold VLk
  rw [ar_succ, List.filter_append]
  congr 1
  by_cases h : m0 (v + 5) (m 6 k) = 0
  · simp [h]
  · simp [h]
theorem VLk_le (m m0 : jM) (v k : Nat) : (VLk m m0 v k).length ≤ k := by
  unfold VLk
  have := List.length_filter_le (fun x => decide (m0 (v + 5) x ≠ 0)) (ar (m 6) k)
  rw [ar_len] at this
  exact this
def shP (m m0 m1 : jM) (v k s : Nat) : Prop := (VLk m m0 v k).length = s ∧ m1 v 0 = (s : Int) ∧ ar (m1 (v + 1)) s = VLk m m0 v k ∧ ar (m1 (v + 2)) s = (VLk m m0 v k).map (fun x => cellV m x 3) ∧ ∀ j : Nat, j < k → m1 (v + 6) (m 6 j) = ((VLk m m0 v j).length : Int)
theorem sh_nums {k s N d : Nat} (hk : k + (d + 1) = N) (hN2 : N ≤ 250) (hle : s ≤ k) : jwr ((k : Int) + 1) = ((k + 1 : Nat) : Int) ∧ jwr ((s : Int) + 1) = ((s + 1 : Nat) : Int) ∧ (0 : Int) ≤ (s : Int) ∧ (s : Int) < 250 ∧ ¬ (N : Int) ≤ (k : Int) := by
  refine ⟨?_, ?_, by omega, by omega, by omega⟩
  · rw [jw1 (by omega) (by omega)]; rfl
  · rw [jw1 (by omega) (by omega)]; rfl
theorem wl_V_show {v a : Nat} (hv : isW v) (L : Nat) (m m0 : jM) (Q : jV → jG → jM → Prop) (h0 : Fr m m0 [v + 4, v + 5]) (hn : 0 ≤ m 2 0 ∧ m 2 0 ≤ 250) (N : Nat) (hN : m 2 5 = N) (hN2 : N ≤ 250)
    (hp : ∀ j : Nat, j < N → 1 ≤ m 6 j ∧ m 6 j ≤ m 2 0) (hi : ∀ j k : Nat, j < N → k < N → m 6 j = m 6 k → j = k)
    (hQ : ∀ m' s, Fr m0 m' [v, v + 1, v + 2, v + 6] → shP m m0 m' v N s → Q jU (g0 L) m') :
    ∀ (d k s : Nat) (l4 : jV) (m1 : jM), k + d = N → Fr m0 m1 [v, v + 1, v + 2, v + 6] → shP m m0 m1 v k s →
      wp 97 13 [jO (some v), jO (some 2), jO (some a), jI (k : Int), l4] [] (g0 L) m1 Q := by
  have q2 : ∀ b, b < 16 → b ∉ [v, v + 1, v + 2, v + 6] := by unfold isW at hv; intro b hb; simp; omega
  have q3 : ∀ b, b < 16 → b ∉ [v + 4, v + 5] := by unfold isW at hv; intro b hb; simp; omega
  intro d
  induction d with
  | zero =>
    intro k s l4 m1 hk hF hI
    have e5 : m1 2 5 = N := by rw [hF 2 (q2 2 (by decide)), h0 2 (q3 2 (by decide)), hN]
    rw [x_V_show_13]
    simp only [x_V_show_0, x_V_show_1, x_V_show_2, x_V_show_3, x_V_show_6, x_V_show_7, x_V_show_8, x_V_show_11, x_V_show_12, x_V_show_14, x_V_show_15, x_V_show_18, x_V_show_21, x_V_show_22, x_V_show_23, x_V_show_26, x_V_show_28, x_V_show_29, x_V_show_32, x_V_show_34, x_V_show_35, x_V_show_38, x_V_show_39, x_V_show_40, x_V_show_43, x_V_show_45, x_V_show_46, x_V_show_49, x_V_show_50, x_V_show_53, x_V_show_54, x_V_show_57, x_V_show_59, x_V_show_60, x_V_show_61, x_V_show_64, x_V_show_65, x_V_show_68, x_V_show_69, x_V_show_71, x_V_show_72, x_V_show_75, x_V_show_76, x_V_show_77, x_V_show_78, x_V_show_81, x_V_show_82, x_V_show_83, x_V_show_86, x_V_show_89, x_V_show_92, w_R_placeCount, sk_0, sk_1, sk_2, sk_3, sk_4, sk_5, sk_6, sk_7, sk_8, sk_9, sk_10, sk_11, sk_12, sk_13, sk_14, sk_15, sk_16, sk_17, sk_18, sk_19, sk_20, sk_21, sk_22, sk_23, sk_24, sk_25, sk_26, sk_27, sk_28, sk_29, sk_30, sk_31, sk_32, sk_33, sk_34, sk_35, sk_36, sk_37, sk_38, sk_39, sk_40, sk_41, sk_42, sk_43, sk_44, sk_45, sk_46, sk_47, sk_48, sk_49, sk_50, sk_51, sk_52, sk_53, sn_0, sn_1, sn_2, sn_3, sn_4, sn_5, sn_6, sn_7, sn_8, sn_9, sn_10, sn_11, sn_12, sn_13, sn_14, sn_15, sn_16, sn_17, sn_18, sn_19, sn_20, sn_21, sn_22, sn_23, sn_24, sn_25, sn_26, sn_27, sn_28, sn_29, sn_30, sn_31, sn_32, sn_33, sn_34, sn_35, sn_36, sn_37, sn_38, sn_39, sn_40, sn_41, sn_42, sn_43, sn_44, sn_45, sn_46, sn_47, sn_48, sn_49, sn_50, sn_51, sn_52, sn_53, rf_2_1, rf_2_2, rf_2_3, rf_2_4, rf_1_0, rf_1_1, rf_8_0, rf_7_0, rf_10_0, rf_7_1, rf_12_0, rf_7_2, rf_14_0, rf_7_3, rf_16_1, rf_16_2, rf_16_3, rf_16_4, rf_16_5, rf_16_6, rf_16_7, rf_1_2, rf_24_1, rf_24_2, rf_24_3, rf_24_4, rf_24_5, rf_24_6, rf_24_7, rf_1_3, rf_32_2, rf_32_3, rf_32_4, rf_32_5, rf_32_6, rf_32_7, rf_32_8, rf_32_9, rf_32_10, rf_32_12, rf_32_14, rf_32_15, rf_32_16, rf_32_18, rf_32_19, rf_32_21, rf_32_25, rf_32_26, rf_32_27, rf_32_28, rf_32_30, true_and, and_true, true_or, or_true, or_false, false_or, false_and, and_false, not_true, not_false_iff, ne_eq, and_self, eq_self, if_true, if_false, ite_true, ite_false, Nat.reduceLeDiff, Int.cast_ofNat_Int, Int.reduceLT, Int.reduceLE, Int.reduceEq, Int.reduceNeg, reduceCtorEq, jup_ap, Nat.reduceEqDiff, Nat.reduceAdd, kv0 hv, rv1 hv, kv1 hv, nv1 hv, rv2 hv, kv2 hv, nv2 hv, rv3 hv, kv3 hv, nv3 hv, rv4 hv, kv4 hv, nv4 hv, rv5 hv, kv5 hv, nv5 hv, rv6 hv, kv6 hv, nv6 hv, rv7 hv, kv7 hv, nv7 hv]
    rw [e5, if_pos (by omega)]
    have : k = N := by omega
    subst this
    exact hQ m1 s hF hI
  | succ d ih =>
    intro k s l4 m1 hk hF hI
    have e5 : m1 2 5 = N := by rw [hF 2 (q2 2 (by decide)), h0 2 (q3 2 (by decide)), hN]
    have e0 : m1 2 0 = m 2 0 := by rw [hF 2 (q2 2 (by decide)), h0 2 (q3 2 (by decide))]
    have ex : plcV m1 k = m 6 k := by
      unfold plcV
      rw [e5, if_pos (by omega), hF 6 (q2 6 (by decide)), h0 6 (q3 6 (by decide))]
    have i0 := hI.2.1
    have i1 := hI.2.2.1
    have i2 := hI.2.2.2.1
    have i3 := hI.2.2.2.2
    have hle : s ≤ k := hI.1 ▸ VLk_le m m0 v k
    have es : m1 (v + 5) (m 6 k) = m0 (v + 5) (m 6 k) := hF (v + 5) (by simp) _
    obtain ⟨x, hxe⟩ : ∃ x, x = m 6 k := ⟨_, rfl⟩
    have hx : 1 ≤ x ∧ x ≤ m 2 0 := by rw [hxe]; exact hp k (by omega)
    rw [← hxe] at ex es
    have wp5 : ∀ Q, wp 90 0 [jO (some 2), jI (k : Int)] [] (g0 L) m1 Q = Q (jI x) (g0 L) m1 := fun Q => by rw [w_R_placeAt L _ _ _ (by omega), ex]
    have hb : 0 ≤ x ∧ x < 251 := by omega
    have hb2 : (0 : Int) ≤ (s : Int) ∧ (s : Int) < 250 := by omega
    have hah : ∀ (m2 : jM), (∀ y, m2 (v + 6) y = if y = x then (s : Int) else m1 (v + 6) y) → ∀ j : Nat, j < k + 1 → m2 (v + 6) (m 6 j) = ((VLk m m0 v j).length : Int) := by
      intro m2 h2 j hj
      rw [h2]
      by_cases hjk : j = k
      · subst hjk
        rw [if_pos hxe.symm, hI.1]
      · rw [if_neg (fun q => hjk (hi j k (by omega) (by omega) (q.trans hxe))), i3 j (by omega)]
    rw [x_V_show_13]
    simp only [x_V_show_0, x_V_show_1, x_V_show_2, x_V_show_3, x_V_show_6, x_V_show_7, x_V_show_8, x_V_show_11, x_V_show_12, x_V_show_14, x_V_show_15, x_V_show_18, x_V_show_21, x_V_show_22, x_V_show_23, x_V_show_26, x_V_show_28, x_V_show_29, x_V_show_32, x_V_show_34, x_V_show_35, x_V_show_38, x_V_show_39, x_V_show_40, x_V_show_43, x_V_show_45, x_V_show_46, x_V_show_49, x_V_show_50, x_V_show_53, x_V_show_54, x_V_show_57, x_V_show_59, x_V_show_60, x_V_show_61, x_V_show_64, x_V_show_65, x_V_show_68, x_V_show_69, x_V_show_71, x_V_show_72, x_V_show_75, x_V_show_76, x_V_show_77, x_V_show_78, x_V_show_81, x_V_show_82, x_V_show_83, x_V_show_86, x_V_show_89, x_V_show_92, w_R_placeCount, wp5, es, i0, sk_0, sk_1, sk_2, sk_3, sk_4, sk_5, sk_6, sk_7, sk_8, sk_9, sk_10, sk_11, sk_12, sk_13, sk_14, sk_15, sk_16, sk_17, sk_18, sk_19, sk_20, sk_21, sk_22, sk_23, sk_24, sk_25, sk_26, sk_27, sk_28, sk_29, sk_30, sk_31, sk_32, sk_33, sk_34, sk_35, sk_36, sk_37, sk_38, sk_39, sk_40, sk_41, sk_42, sk_43, sk_44, sk_45, sk_46, sk_47, sk_48, sk_49, sk_50, sk_51, sk_52, sk_53, sn_0, sn_1, sn_2, sn_3, sn_4, sn_5, sn_6, sn_7, sn_8, sn_9, sn_10, sn_11, sn_12, sn_13, sn_14, sn_15, sn_16, sn_17, sn_18, sn_19, sn_20, sn_21, sn_22, sn_23, sn_24, sn_25, sn_26, sn_27, sn_28, sn_29, sn_30, sn_31, sn_32, sn_33, sn_34, sn_35, sn_36, sn_37, sn_38, sn_39, sn_40, sn_41, sn_42, sn_43, sn_44, sn_45, sn_46, sn_47, sn_48, sn_49, sn_50, sn_51, sn_52, sn_53, rf_2_1, rf_2_2, rf_2_3, rf_2_4, rf_1_0, rf_1_1, rf_8_0, rf_7_0, rf_10_0, rf_7_1, rf_12_0, rf_7_2, rf_14_0, rf_7_3, rf_16_1, rf_16_2, rf_16_3, rf_16_4, rf_16_5, rf_16_6, rf_16_7, rf_1_2, rf_24_1, rf_24_2, rf_24_3, rf_24_4, rf_24_5, rf_24_6, rf_24_7, rf_1_3, rf_32_2, rf_32_3, rf_32_4, rf_32_5, rf_32_6, rf_32_7, rf_32_8, rf_32_9, rf_32_10, rf_32_12, rf_32_14, rf_32_15, rf_32_16, rf_32_18, rf_32_19, rf_32_21, rf_32_25, rf_32_26, rf_32_27, rf_32_28, rf_32_30, true_and, and_true, true_or, or_true, or_false, false_or, false_and, and_false, not_true, not_false_iff, ne_eq, and_self, eq_self, if_true, if_false, ite_true, ite_false, Nat.reduceLeDiff, Int.cast_ofNat_Int, Int.reduceLT, Int.reduceLE, Int.reduceEq, Int.reduceNeg, reduceCtorEq, jup_ap, Nat.reduceEqDiff, Nat.reduceAdd, kv0 hv, rv1 hv, kv1 hv, nv1 hv, rv2 hv, kv2 hv, nv2 hv, rv3 hv, kv3 hv, nv3 hv, rv4 hv, kv4 hv, nv4 hv, rv5 hv, kv5 hv, nv5 hv, rv6 hv, kv6 hv, nv6 hv, rv7 hv, kv7 hv, nv7 hv, ne1, ne2, ne3, ne4, ne5, ne6, ne7, nf1, nf2, nf3, nf4, nf5, nf6, nf7, hb, hb2]
    rw [e5, if_neg (by omega)]
    by_cases hsn : m0 (v + 5) x = 0
    · rw [if_pos hsn, (sh_nums hk hN2 hle).1]
      have hV : VLk m m0 v (k + 1) = VLk m m0 v k := by rw [VLk_succ, ← hxe, if_neg (by simp [hsn]), List.append_nil]
      refine ih (k + 1) s _ _ (by omega) (hF.up (by simp)) ⟨by rw [hV]; exact hI.1, ?_, ?_, ?_, hah _ (fun y => ?_)⟩
      · simp only [jup_ap, ne1, ne2, ne3, ne4, ne5, ne6, ne7, nf1, nf2, nf3, nf4, nf5, nf6, nf7, true_and, and_true, true_or, or_true, or_false, false_or, false_and, and_false, not_true, not_false_iff, ne_eq, and_self, eq_self, if_true, if_false, ite_true, ite_false, Nat.reduceLeDiff, Int.cast_ofNat_Int, Int.reduceLT, Int.reduceLE, Int.reduceEq, Int.reduceNeg, reduceCtorEq, jup_ap, Nat.reduceEqDiff, Nat.reduceAdd]
        exact i0
      · rw [hV, ← i1]
        exact ar_congr (fun i _ => by simp only [jup_ap, ne1, ne2, ne3, ne4, ne5, ne6, ne7, nf1, nf2, nf3, nf4, nf5, nf6, nf7, true_and, and_true, true_or, or_true, or_false, false_or, false_and, and_false, not_true, not_false_iff, ne_eq, and_self, eq_self, if_true, if_false, ite_true, ite_false, Nat.reduceLeDiff, Int.cast_ofNat_Int, Int.reduceLT, Int.reduceLE, Int.reduceEq, Int.reduceNeg, reduceCtorEq, jup_ap, Nat.reduceEqDiff, Nat.reduceAdd])
      · rw [hV, ← i2]
        exact ar_congr (fun i _ => by simp only [jup_ap, ne1, ne2, ne3, ne4, ne5, ne6, ne7, nf1, nf2, nf3, nf4, nf5, nf6, nf7, true_and, and_true, true_or, or_true, or_false, false_or, false_and, and_false, not_true, not_false_iff, ne_eq, and_self, eq_self, if_true, if_false, ite_true, ite_false, Nat.reduceLeDiff, Int.cast_ofNat_Int, Int.reduceLT, Int.reduceLE, Int.reduceEq, Int.reduceNeg, reduceCtorEq, jup_ap, Nat.reduceEqDiff, Nat.reduceAdd])
      · simp only [jup_ap, ne1, ne2, ne3, ne4, ne5, ne6, ne7, nf1, nf2, nf3, nf4, nf5, nf6, nf7, true_and, and_true, true_or, or_true, or_false, false_or, false_and, and_false, not_true, not_false_iff, ne_eq, and_self, eq_self, if_true, if_false, ite_true, ite_false, Nat.reduceLeDiff, Int.cast_ofNat_Int, Int.reduceLT, Int.reduceLE, Int.reduceEq, Int.reduceNeg, reduceCtorEq, jup_ap, Nat.reduceEqDiff, Nat.reduceAdd]
    · rw [if_neg hsn]
      have hF2 : Fr m0 (jup (jup m1 (v + 6) x s) (v + 1) s x) [v, v + 1, v + 2, v + 6] := (hF.up (by simp)).up (by simp)
      have e02 : (jup (jup m1 (v + 6) x s) (v + 1) s x) 2 0 = m 2 0 := by rw [hF2 2 (q2 2 (by decide)), h0 2 (q3 2 (by decide))]
      have ec : cellV (jup (jup m1 (v + 6) x s) (v + 1) s x) x 3 = cellV m x 3 := by rw [hF2.cell (q2 2 (by decide)) (q2 3 (by decide)), h0.cell (q3 2 (by decide)) (q3 3 (by decide))]
      rw [w_R_cell L _ _ _ _ (by rw [e02]; omega), ec]
      obtain ⟨c, hce⟩ : ∃ c, c = cellV m x 3 := ⟨_, rfl⟩
      rw [← hce]
      simp only [x_V_show_0, x_V_show_1, x_V_show_2, x_V_show_3, x_V_show_6, x_V_show_7, x_V_show_8, x_V_show_11, x_V_show_12, x_V_show_14, x_V_show_15, x_V_show_18, x_V_show_21, x_V_show_22, x_V_show_23, x_V_show_26, x_V_show_28, x_V_show_29, x_V_show_32, x_V_show_34, x_V_show_35, x_V_show_38, x_V_show_39, x_V_show_40, x_V_show_43, x_V_show_45, x_V_show_46, x_V_show_49, x_V_show_50, x_V_show_53, x_V_show_54, x_V_show_57, x_V_show_59, x_V_show_60, x_V_show_61, x_V_show_64, x_V_show_65, x_V_show_68, x_V_show_69, x_V_show_71, x_V_show_72, x_V_show_75, x_V_show_76, x_V_show_77, x_V_show_78, x_V_show_81, x_V_show_82, x_V_show_83, x_V_show_86, x_V_show_89, x_V_show_92, i0, sk_0, sk_1, sk_2, sk_3, sk_4, sk_5, sk_6, sk_7, sk_8, sk_9, sk_10, sk_11, sk_12, sk_13, sk_14, sk_15, sk_16, sk_17, sk_18, sk_19, sk_20, sk_21, sk_22, sk_23, sk_24, sk_25, sk_26, sk_27, sk_28, sk_29, sk_30, sk_31, sk_32, sk_33, sk_34, sk_35, sk_36, sk_37, sk_38, sk_39, sk_40, sk_41, sk_42, sk_43, sk_44, sk_45, sk_46, sk_47, sk_48, sk_49, sk_50, sk_51, sk_52, sk_53, sn_0, sn_1, sn_2, sn_3, sn_4, sn_5, sn_6, sn_7, sn_8, sn_9, sn_10, sn_11, sn_12, sn_13, sn_14, sn_15, sn_16, sn_17, sn_18, sn_19, sn_20, sn_21, sn_22, sn_23, sn_24, sn_25, sn_26, sn_27, sn_28, sn_29, sn_30, sn_31, sn_32, sn_33, sn_34, sn_35, sn_36, sn_37, sn_38, sn_39, sn_40, sn_41, sn_42, sn_43, sn_44, sn_45, sn_46, sn_47, sn_48, sn_49, sn_50, sn_51, sn_52, sn_53, rf_2_1, rf_2_2, rf_2_3, rf_2_4, rf_1_0, rf_1_1, rf_8_0, rf_7_0, rf_10_0, rf_7_1, rf_12_0, rf_7_2, rf_14_0, rf_7_3, rf_16_1, rf_16_2, rf_16_3, rf_16_4, rf_16_5, rf_16_6, rf_16_7, rf_1_2, rf_24_1, rf_24_2, rf_24_3, rf_24_4, rf_24_5, rf_24_6, rf_24_7, rf_1_3, rf_32_2, rf_32_3, rf_32_4, rf_32_5, rf_32_6, rf_32_7, rf_32_8, rf_32_9, rf_32_10, rf_32_12, rf_32_14, rf_32_15, rf_32_16, rf_32_18, rf_32_19, rf_32_21, rf_32_25, rf_32_26, rf_32_27, rf_32_28, rf_32_30, true_and, and_true, true_or, or_true, or_false, false_or, false_and, and_false, not_true, not_false_iff, ne_eq, and_self, eq_self, if_true, if_false, ite_true, ite_false, Nat.reduceLeDiff, Int.cast_ofNat_Int, Int.reduceLT, Int.reduceLE, Int.reduceEq, Int.reduceNeg, reduceCtorEq, jup_ap, Nat.reduceEqDiff, Nat.reduceAdd, kv0 hv, rv1 hv, kv1 hv, nv1 hv, rv2 hv, kv2 hv, nv2 hv, rv3 hv, kv3 hv, nv3 hv, rv4 hv, kv4 hv, nv4 hv, rv5 hv, kv5 hv, nv5 hv, rv6 hv, kv6 hv, nv6 hv, rv7 hv, kv7 hv, nv7 hv, ne1, ne2, ne3, ne4, ne5, ne6, ne7, nf1, nf2, nf3, nf4, nf5, nf6, nf7, hb, hb2, (sh_nums hk hN2 hle).1, (sh_nums hk hN2 hle).2.1]
      have hV : VLk m m0 v (k + 1) = VLk m m0 v k ++ [x] := by rw [VLk_succ, ← hxe, if_pos hsn]
      refine ih (k + 1) (s + 1) _ _ (by omega) (((hF2.up (by simp)).up (by simp))) ⟨by rw [hV, List.length_append, hI.1]; rfl, ?_, ?_, ?_, hah _ (fun y => ?_)⟩
      · simp only [jup_ap, ne1, ne2, ne3, ne4, ne5, ne6, ne7, nf1, nf2, nf3, nf4, nf5, nf6, nf7, true_and, and_true, true_or, or_true, or_false, false_or, false_and, and_false, not_true, not_false_iff, ne_eq, and_self, eq_self, if_true, if_false, ite_true, ite_false, Nat.reduceLeDiff, Int.cast_ofNat_Int, Int.reduceLT, Int.reduceLE, Int.reduceEq, Int.reduceNeg, reduceCtorEq, jup_ap, Nat.reduceEqDiff, Nat.reduceAdd]
      · rw [hV, ← i1, ar_succ]
        congr 1
        · exact ar_congr (fun i hi => by simp only [jup_ap, ne1, ne2, ne3, ne4, ne5, ne6, ne7, nf1, nf2, nf3, nf4, nf5, nf6, nf7, true_and, and_true, true_or, or_true, or_false, false_or, false_and, and_false, not_true, not_false_iff, ne_eq, and_self, eq_self, if_true, if_false, ite_true, ite_false, Nat.reduceLeDiff, Int.cast_ofNat_Int, Int.reduceLT, Int.reduceLE, Int.reduceEq, Int.reduceNeg, reduceCtorEq, jup_ap, Nat.reduceEqDiff, Nat.reduceAdd]; rw [if_neg (by omega)])
        · simp only [jup_ap, ne1, ne2, ne3, ne4, ne5, ne6, ne7, nf1, nf2, nf3, nf4, nf5, nf6, nf7, true_and, and_true, true_or, or_true, or_false, false_or, false_and, and_false, not_true, not_false_iff, ne_eq, and_self, eq_self, if_true, if_false, ite_true, ite_false, Nat.reduceLeDiff, Int.cast_ofNat_Int, Int.reduceLT, Int.reduceLE, Int.reduceEq, Int.reduceNeg, reduceCtorEq, jup_ap, Nat.reduceEqDiff, Nat.reduceAdd]
      · rw [hV, List.map_append, ← i2, ar_succ]
        congr 1
        · exact ar_congr (fun i hi => by simp only [jup_ap, ne1, ne2, ne3, ne4, ne5, ne6, ne7, nf1, nf2, nf3, nf4, nf5, nf6, nf7, true_and, and_true, true_or, or_true, or_false, false_or, false_and, and_false, not_true, not_false_iff, ne_eq, and_self, eq_self, if_true, if_false, ite_true, ite_false, Nat.reduceLeDiff, Int.cast_ofNat_Int, Int.reduceLT, Int.reduceLE, Int.reduceEq, Int.reduceNeg, reduceCtorEq, jup_ap, Nat.reduceEqDiff, Nat.reduceAdd]; rw [if_neg (by omega)])
        · simp only [jup_ap, ne1, ne2, ne3, ne4, ne5, ne6, ne7, nf1, nf2, nf3, nf4, nf5, nf6, nf7, true_and, and_true, true_or, or_true, or_false, false_or, false_and, and_false, not_true, not_false_iff, ne_eq, and_self, eq_self, if_true, if_false, ite_true, ite_false, Nat.reduceLeDiff, Int.cast_ofNat_Int, Int.reduceLT, Int.reduceLE, Int.reduceEq, Int.reduceNeg, reduceCtorEq, jup_ap, Nat.reduceEqDiff, Nat.reduceAdd, List.map_cons, List.map_nil, hce]
      · simp only [jup_ap, ne1, ne2, ne3, ne4, ne5, ne6, ne7, nf1, nf2, nf3, nf4, nf5, nf6, nf7, true_and, and_true, true_or, or_true, or_false, false_or, false_and, and_false, not_true, not_false_iff, ne_eq, and_self, eq_self, if_true, if_false, ite_true, ite_false, Nat.reduceLeDiff, Int.cast_ofNat_Int, Int.reduceLT, Int.reduceLE, Int.reduceEq, Int.reduceNeg, reduceCtorEq, jup_ap, Nat.reduceEqDiff, Nat.reduceAdd]
