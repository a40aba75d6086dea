/-- a row's cells as they are given -/
def rowC (p t s d v f z w : Int) : Int := if w = 0 then s else if w = 1 then p else if w = 2 then t else if w = 3 then d else if w = 4 then v else if w = 5 then f else z
/-- what the class's rows are when a row has come -/
def AddP (m m' : jM) (n : Nat) (p t s d v f z : Int) : Prop :=
  Fr m m' [2, 3, 4, 5, 6] ∧ m' 2 0 = (n : Int) + 1 ∧ (∀ r w : Int, r ≤ n → cellV m' r w = cellV m r w) ∧ (∀ w : Int, 0 ≤ w → w < 7 → cellV m' ((n : Int) + 1) w = rowC p t s d v f z w) ∧
  (ar (m' 5) (n + 1)).reverse = pS (key m') ((n : Int) + 1) (ar (m 5) n).reverse ∧
  (s = 0 → m' 2 5 = m 2 5 + 1 ∧ PLm m' = (if f = 0 then pS (key m') ((n : Int) + 1) (PLm m) else pF (key m') f ((n : Int) + 1) (PLm m))) ∧ (s ≠ 0 → m' 2 5 = m 2 5 ∧ ∀ j, m' 6 j = m 6 j) ∧
  (∀ r : Int, m' 4 r = if s = 5 ∧ r = f then (n : Int) + 1 else m 4 r)
theorem w_R_add (L : Nat) (p t s d v f z : Int) (m : jM) (Q : jV → jG → jM → Prop) (n : Nat) (hn : m 2 0 = (n : Int)) (hn2 : n < 250) (N : Nat) (hN : m 2 5 = (N : Int)) (hN2 : N ≤ n)
    (hp : 0 ≤ p ∧ p < 4) (hno : ∀ r : Int, 1 ≤ r → r ≤ n → 0 ≤ cellV m r 1 ∧ cellV m r 1 < 4) (ho : ∀ i : Nat, i < n → 1 ≤ m 5 i ∧ m 5 i ≤ n) (hpl : ∀ i : Nat, i < N → 1 ≤ m 6 i ∧ m 6 i ≤ n)
    (hf1 : s = 0 → f ≠ 0 → f ∈ ar (m 6) N) (hf2 : s = 5 → 1 ≤ f ∧ f ≤ n)
    (hQ : ∀ m', AddP m m' n p t s d v f z → Q (jI ((n : Int) + 1)) (g0 L) m') : wp 91 0 [jO (some 2), jI p, jI t, jI s, jI d, jI v, jI f, jI z, jU] [] (g0 L) m Q := by
  have e1 : jwr ((n : Int) + 1) = (n : Int) + 1 := jw1 (by omega) (by omega)
  have e2 : jwr (((n : Int) + 1) * 7) = 7 * ((n : Int) + 1) := (jw1 (by omega) (by omega)).trans (by omega)
  have e3 : ∀ k : Int, 0 ≤ k → k < 7 → jwr (7 * ((n : Int) + 1) + k) = 7 * ((n : Int) + 1) + k := fun k h1 h2 => jw1 (by omega) (by omega)
  have hlt : (n : Int) < 250 := by omega
  simp only [x_R_add_0, x_R_add_1, x_R_add_4, x_R_add_7, x_R_add_10, x_R_add_11, x_R_add_12, x_R_add_13, x_R_add_14, x_R_add_17, x_R_add_18, x_R_add_19, x_R_add_22, x_R_add_23, x_R_add_26, x_R_add_28, x_R_add_29, x_R_add_31, x_R_add_32, x_R_add_35, x_R_add_37, x_R_add_38, x_R_add_39, x_R_add_40, x_R_add_41, x_R_add_42, x_R_add_45, x_R_add_47, x_R_add_48, x_R_add_49, x_R_add_50, x_R_add_51, x_R_add_52, x_R_add_55, x_R_add_57, x_R_add_58, x_R_add_59, x_R_add_60, x_R_add_61, x_R_add_62, x_R_add_65, x_R_add_67, x_R_add_68, x_R_add_69, x_R_add_71, x_R_add_72, x_R_add_73, x_R_add_76, x_R_add_78, x_R_add_79, x_R_add_80, x_R_add_82, x_R_add_83, x_R_add_84, x_R_add_87, x_R_add_89, x_R_add_90, x_R_add_91, x_R_add_93, x_R_add_94, x_R_add_95, x_R_add_98, x_R_add_100, x_R_add_102, x_R_add_103, x_R_add_105, x_R_add_106, x_R_add_107, x_R_add_108, x_R_add_111, x_R_add_114, x_R_add_115, x_R_add_118, x_R_add_119, x_R_add_120, x_R_add_123, x_R_add_125, x_R_add_128, x_R_add_129, x_R_add_130, x_R_add_133, x_R_add_134, x_R_add_136, x_R_add_139, x_R_add_142, x_R_add_143, x_R_add_146, x_R_add_148, x_R_add_149, x_R_add_152, x_R_add_153, x_R_add_154, x_R_add_157, hn, hlt, e1, e2, e3 0 (by omega) (by omega), e3 1 (by omega) (by omega), e3 2 (by omega) (by omega), e3 3 (by omega) (by omega), e3 4 (by omega) (by omega), e3 5 (by omega) (by omega), e3 6 (by omega) (by omega), sk_0, sk_1, sk_2, sk_3, sk_4, sk_5, sk_6, sk_7, sk_8, sk_9, sk_10, sk_11, sk_12, sk_13, sk_14, sk_15, sk_16, sk_17, sk_18, sk_19, sk_20, sk_21, sk_22, sk_23, sk_24, sk_25, sk_26, sk_27, sk_28, sk_29, sk_30, sk_31, sk_32, sk_33, sk_34, sk_35, sk_36, sk_37, sk_38, sk_39, sk_40, sk_41, sk_42, sk_43, sk_44, sk_45, sk_46, sk_47, sk_48, sk_49, sk_50, sk_51, sk_52, sk_53, sn_0, sn_1, sn_2, sn_3, sn_4, sn_5, sn_6, sn_7, sn_8, sn_9, sn_10, sn_11, sn_12, sn_13, sn_14, sn_15, sn_16, sn_17, sn_18, sn_19, sn_20, sn_21, sn_22, sn_23, sn_24, sn_25, sn_26, sn_27, sn_28, sn_29, sn_30, sn_31, sn_32, sn_33, sn_34, sn_35, sn_36, sn_37, sn_38, sn_39, sn_40, sn_41, sn_42, sn_43, sn_44, sn_45, sn_46, sn_47, sn_48, sn_49, sn_50, sn_51, sn_52, sn_53, rf_2_1, rf_2_2, rf_2_3, rf_2_4, rf_1_0, rf_1_1, rf_8_0, rf_7_0, rf_10_0, rf_7_1, rf_12_0, rf_7_2, rf_14_0, rf_7_3, rf_16_1, rf_16_2, rf_16_3, rf_16_4, rf_16_5, rf_16_6, rf_16_7, rf_1_2, rf_24_1, rf_24_2, rf_24_3, rf_24_4, rf_24_5, rf_24_6, rf_24_7, rf_1_3, rf_32_2, rf_32_3, rf_32_4, rf_32_5, rf_32_6, rf_32_7, rf_32_8, rf_32_9, rf_32_10, rf_32_12, rf_32_14, rf_32_15, rf_32_16, rf_32_18, rf_32_19, rf_32_21, rf_32_25, rf_32_26, rf_32_27, rf_32_28, rf_32_30, true_and, and_true, true_or, or_true, or_false, false_or, false_and, and_false, not_true, not_false_iff, ne_eq, and_self, eq_self, if_true, if_false, ite_true, ite_false, Nat.reduceLeDiff, Int.cast_ofNat_Int, Int.reduceLT, Int.reduceLE, Int.reduceEq, Int.reduceNeg, reduceCtorEq, jup_ap, Nat.reduceEqDiff, Nat.reduceAdd]
  clear e1 e2 e3
  refine ⟨by omega, by omega, by omega, by omega, by omega, by omega, by omega, ?_⟩
  generalize hm1 : jup (jup (jup (jup (jup (jup (jup (jup m 2 0 ((n : Int) + 1)) 3 (7 * ((n : Int) + 1) + 0) s) 3 (7 * ((n : Int) + 1) + 1) p) 3 (7 * ((n : Int) + 1) + 2) t) 3 (7 * ((n : Int) + 1) + 3) d) 3 (7 * ((n : Int) + 1) + 4) v) 3 (7 * ((n : Int) + 1) + 5) f) 3 (7 * ((n : Int) + 1) + 6) z = m1
  have hF1 : Fr m m1 [2, 3] := by
    rw [← hm1]
    exact (((((((Fr.rf.up (by simp)).up (by simp)).up (by simp)).up (by simp)).up (by simp)).up (by simp)).up (by simp)).up (by simp)
  have a0 : m1 2 0 = (n : Int) + 1 := by rw [← hm1]; simp [jup_ap]
  have a1 : ∀ j : Int, j ≠ 0 → m1 2 j = m 2 j := by intro j hj; rw [← hm1]; simp [jup_ap, hj]
  have a3 : ∀ j : Int, j < 7 * ((n : Int) + 1) → m1 3 j = m 3 j := by
    intro j hj
    rw [← hm1]
    simp only [jup_ap]
    rw [if_neg (by omega), if_neg (by omega), if_neg (by omega), if_neg (by omega), if_neg (by omega), if_neg (by omega), if_neg (by omega), if_neg (by omega)]
  have aw : ∀ w : Int, 0 ≤ w → w < 7 → m1 3 (7 * ((n : Int) + 1) + w) = rowC p t s d v f z w := by
    intro w h1 h2
    rw [← hm1]
    unfold rowC
    rcases (show w = 0 ∨ w = 1 ∨ w = 2 ∨ w = 3 ∨ w = 4 ∨ w = 5 ∨ w = 6 by omega) with rfl | rfl | rfl | rfl | rfl | rfl | rfl <;> simp [jup_ap]
    rw [if_neg (by omega), if_neg (by omega), if_neg (by omega), if_neg (by omega), if_neg (by omega), if_neg (by omega)]
  clear hm1
  have ac : ∀ r w : Int, r ≤ n → cellV m1 r w = cellV m r w := by
    intro r w hr
    unfold cellV
    rw [a0, hn]
    by_cases hc : (1 ≤ r ∧ r ≤ (n : Int)) ∧ 0 ≤ w ∧ w < 7
    · rw [if_pos hc, if_pos (by omega), a3 _ (by omega)]
    · rw [if_neg hc, if_neg (by omega)]
  have an : ∀ w : Int, 0 ≤ w → w < 7 → cellV m1 ((n : Int) + 1) w = rowC p t s d v f z w := by
    intro w h1 h2
    unfold cellV
    rw [a0, if_pos (by omega), aw w h1 h2]
  have hkey : ∀ x : Int, 1 ≤ x → x ≤ n → (ltrV m1 x ((n : Int) + 1) = 0) = ¬ (key m1 ((n : Int) + 1) < key m1 x) := by
    intro x h1 h2
    refine ltr_key ?_ ?_
    · rw [ac x 1 h2]
      exact hno x h1 h2
    · rw [an 1 (by omega) (by omega)]
      exact hp
  refine w_R_fileInOrder L m1 _ ((n : Int) + 1) n a0 (by omega) (fun i hi => ?_) (fun m2 hF2 ho2 => ?_)
  · have h5 : m1 5 i = m 5 i := hF1 5 (by simp) _
    rw [h5]
    exact hkey _ (ho i hi).1 (ho i hi).2
  have ho3 : (ar (m2 5) (n + 1)).reverse = pS (key m1) ((n : Int) + 1) (ar (m 5) n).reverse := by
    rw [ho2, ar_congr (fun i _ => hF1 5 (by simp) _)]
  have b0 : m2 2 0 = (n : Int) + 1 := by rw [hF2 2 (by simp)]; exact a0
  have b5 : m2 2 5 = (N : Int) := by rw [hF2 2 (by simp), a1 5 (by decide)]; exact hN
  have b6 : ∀ j, m2 6 j = m 6 j := fun j => by rw [hF2 6 (by simp), hF1 6 (by simp)]
  have bk : ∀ x, key m2 x = key m1 x := hF2.key (by simp) (by simp)
  have last : ∀ m3 : jM, Fr m2 m3 [2, 6] → (∀ j, j ≠ 5 → m3 2 j = m2 2 j) → (s = 0 → m3 2 5 = m 2 5 + 1 ∧ PLm m3 = (if f = 0 then pS (key m1) ((n : Int) + 1) (PLm m) else pF (key m1) f ((n : Int) + 1) (PLm m))) → (s ≠ 0 → m3 2 5 = m 2 5 ∧ ∀ j, m3 6 j = m 6 j) →
      (if ¬ s = 5 then (jsh (g0 L) 2).1 = 11 ∧ Q (jI (m3 2 0)) (g0 L) m3 else (jsh (g0 L) 2).1 = 11 ∧ wp 85 0 [jO (some 2), jI f] [] (g0 L) m3 fun r g m => wp 91 139 [jO (some 2), jI p, jI t, jI s, jI d, jI v, jI f, jI z, jI (7 * ((n : Int) + 1))] [r] g m Q) := by
    intro m3 hF3 c2 c0 c1
    have d0 : m3 2 0 = (n : Int) + 1 := by rw [c2 0 (by decide)]; exact b0
    have dc : ∀ r w, cellV m3 r w = cellV m1 r w := by
      intro r w
      unfold cellV
      rw [d0, a0, hF3 3 (by simp), hF2 3 (by simp)]
    have dk : key m3 = key m1 := by
      funext x
      unfold key
      rw [dc, dc]
    have d4 : ∀ r, m3 4 r = m 4 r := fun r => by rw [hF3 4 (by simp), hF2 4 (by simp), hF1 4 (by simp)]
    have d5 : ∀ r, m3 5 r = m2 5 r := fun r => hF3 5 (by simp) r
    have hFa : Fr m m3 [2, 3, 4, 5, 6] := ((hF1.weak (by simp)).trans (hF2.weak (by simp))).trans (hF3.weak (by simp))
    by_cases h5 : s = 5
    · rw [if_neg (fun q => q h5)]
      refine ⟨rfl, ?_⟩
      have hf := hf2 h5
      rw [w_R_has, b01_1 (by rw [d0]; omega)]
      have hb : 0 ≤ f ∧ f < 251 := by omega
      simp only [x_R_add_0, x_R_add_1, x_R_add_4, x_R_add_7, x_R_add_10, x_R_add_11, x_R_add_12, x_R_add_13, x_R_add_14, x_R_add_17, x_R_add_18, x_R_add_19, x_R_add_22, x_R_add_23, x_R_add_26, x_R_add_28, x_R_add_29, x_R_add_31, x_R_add_32, x_R_add_35, x_R_add_37, x_R_add_38, x_R_add_39, x_R_add_40, x_R_add_41, x_R_add_42, x_R_add_45, x_R_add_47, x_R_add_48, x_R_add_49, x_R_add_50, x_R_add_51, x_R_add_52, x_R_add_55, x_R_add_57, x_R_add_58, x_R_add_59, x_R_add_60, x_R_add_61, x_R_add_62, x_R_add_65, x_R_add_67, x_R_add_68, x_R_add_69, x_R_add_71, x_R_add_72, x_R_add_73, x_R_add_76, x_R_add_78, x_R_add_79, x_R_add_80, x_R_add_82, x_R_add_83, x_R_add_84, x_R_add_87, x_R_add_89, x_R_add_90, x_R_add_91, x_R_add_93, x_R_add_94, x_R_add_95, x_R_add_98, x_R_add_100, x_R_add_102, x_R_add_103, x_R_add_105, x_R_add_106, x_R_add_107, x_R_add_108, x_R_add_111, x_R_add_114, x_R_add_115, x_R_add_118, x_R_add_119, x_R_add_120, x_R_add_123, x_R_add_125, x_R_add_128, x_R_add_129, x_R_add_130, x_R_add_133, x_R_add_134, x_R_add_136, x_R_add_139, x_R_add_142, x_R_add_143, x_R_add_146, x_R_add_148, x_R_add_149, x_R_add_152, x_R_add_153, x_R_add_154, x_R_add_157, d0, hb, sk_0, sk_1, sk_2, sk_3, sk_4, sk_5, sk_6, sk_7, sk_8, sk_9, sk_10, sk_11, sk_12, sk_13, sk_14, sk_15, sk_16, sk_17, sk_18, sk_19, sk_20, sk_21, sk_22, sk_23, sk_24, sk_25, sk_26, sk_27, sk_28, sk_29, sk_30, sk_31, sk_32, sk_33, sk_34, sk_35, sk_36, sk_37, sk_38, sk_39, sk_40, sk_41, sk_42, sk_43, sk_44, sk_45, sk_46, sk_47, sk_48, sk_49, sk_50, sk_51, sk_52, sk_53, sn_0, sn_1, sn_2, sn_3, sn_4, sn_5, sn_6, sn_7, sn_8, sn_9, sn_10, sn_11, sn_12, sn_13, sn_14, sn_15, sn_16, sn_17, sn_18, sn_19, sn_20, sn_21, sn_22, sn_23, sn_24, sn_25, sn_26, sn_27, sn_28, sn_29, sn_30, sn_31, sn_32, sn_33, sn_34, sn_35, sn_36, sn_37, sn_38, sn_39, sn_40, sn_41, sn_42, sn_43, sn_44, sn_45, sn_46, sn_47, sn_48, sn_49, sn_50, sn_51, sn_52, sn_53, rf_2_1, rf_2_2, rf_2_3, rf_2_4, rf_1_0, rf_1_1, rf_8_0, rf_7_0, rf_10_0, rf_7_1, rf_12_0, rf_7_2, rf_14_0, rf_7_3, rf_16_1, rf_16_2, rf_16_3, rf_16_4, rf_16_5, rf_16_6, rf_16_7, rf_1_2, rf_24_1, rf_24_2, rf_24_3, rf_24_4, rf_24_5, rf_24_6, rf_24_7, rf_1_3, rf_32_2, rf_32_3, rf_32_4, rf_32_5, rf_32_6, rf_32_7, rf_32_8, rf_32_9, rf_32_10, rf_32_12, rf_32_14, rf_32_15, rf_32_16, rf_32_18, rf_32_19, rf_32_21, rf_32_25, rf_32_26, rf_32_27, rf_32_28, rf_32_30, true_and, and_true, true_or, or_true, or_false, false_or, false_and, and_false, not_true, not_false_iff, ne_eq, and_self, eq_self, if_true, if_false, ite_true, ite_false, Nat.reduceLeDiff, Int.cast_ofNat_Int, Int.reduceLT, Int.reduceLE, Int.reduceEq, Int.reduceNeg, reduceCtorEq, jup_ap, Nat.reduceEqDiff, Nat.reduceAdd, Int.one_ne_zero]
      have hk2 : key (jup m3 4 f ((n : Int) + 1)) = key m1 := by
        rw [← dk]
        funext x
        exact (Fr.rf.up (S := [4]) (by simp)).key (by simp) (by simp) x
      have hc2 : ∀ r w, cellV (jup m3 4 f ((n : Int) + 1)) r w = cellV m1 r w := fun r w => by
        rw [← dc]
        exact (Fr.rf.up (S := [4]) (by simp)).cell (by simp) (by simp) r w
      refine hQ _ ⟨hFa.up (by simp), ?_, fun r w hr => by rw [hc2]; exact ac r w hr, fun w h1 h2 => by rw [hc2]; exact an w h1 h2, ?_, fun q => ?_, fun q => ?_, fun r => ?_⟩
      · rw [jup_ap, if_neg (by omega)]; exact d0
      · rw [hk2, ← ho3]
        congr 1
        exact ar_congr (fun i _ => by rw [jup_ap, if_neg (by omega)]; exact d5 i)
      · omega
      · obtain ⟨g1, g2⟩ := c1 q
        exact ⟨by rw [jup_ap, if_neg (by omega)]; exact g1, fun j => by rw [jup_ap, if_neg (by omega)]; exact g2 j⟩
      · rw [jup_ap, d4]
        by_cases hr : r = f
        · rw [if_pos ⟨rfl, hr⟩, if_pos ⟨h5, hr⟩]
        · rw [if_neg (fun q => hr q.2), if_neg (fun q => hr q.2)]
    · rw [if_pos h5, d0]
      refine ⟨rfl, hQ m3 ⟨hFa, d0, fun r w hr => by rw [dc]; exact ac r w hr, fun w h1 h2 => by rw [dc]; exact an w h1 h2, ?_, fun q => ?_, c1, fun r => by rw [if_neg (fun q => h5 q.1)]; exact d4 r⟩⟩
      · rw [dk, ← ho3]
        congr 1
        exact ar_congr (fun i _ => d5 i)
      · rw [dk]
        exact c0 q
  by_cases hs : s = 0
  · rw [if_neg (fun q => q hs)]
    refine ⟨rfl, rfl, ?_⟩
    rw [b0]
    have eP : ar (m2 6) N = PLm m := by
      unfold PLm
      rw [hN]
      exact ar_congr (fun i _ => b6 i)
    have kk : key m2 = key m1 := funext bk
    refine w_R_fileInPlaces L m2 _ ((n : Int) + 1) f N b5 (by omega) (by rw [b0]; omega) (fun i hi => ?_) (fun h0 q => ?_) (fun h0 => ?_) (fun m3 hF3 c5 c2 c6 => ?_)
    · rw [b6, hF2.ltr (by simp) (by simp), bk, bk]
      exact hkey _ (hpl i hi).1 (hpl i hi).2
    · obtain ⟨i, g1, g2⟩ := ar_mem.mp q
      rw [b6] at g2
      have := (hpl i g1).1
      omega
    · rw [ar_congr (fun i _ => b6 i)]
      exact hf1 hs h0
    · refine last m3 hF3 c2 (fun _ => ⟨by rw [c5, hN], ?_⟩) (fun q => absurd hs q)
      have : PLm m3 = ar (m3 6) (N + 1) := by
        unfold PLm
        rw [c5]
        rfl
      rw [this, c6, eP, kk]
  · rw [if_pos hs]
    exact last m2 Fr.rf (fun _ _ => rfl) (fun q => absurd q hs) (fun _ => ⟨by rw [b5, hN], b6⟩)
