/-! write, and the calls that make rows -/
theorem CI.ord {m : jM} {n : Nat} (h : CI m n) : ∀ i : Nat, i < n → 1 ≤ m 5 i ∧ m 5 i ≤ n := by
  intro i hi
  have hm : m 5 i ∈ (ar (m 5) n).reverse := List.mem_reverse.mpr (ar_mem.mpr ⟨i, hi, rfl⟩)
  rw [h.2.2.2.2.2.2.1] at hm
  rcases (p_mem _ _).mp hm with q | q
  · exact rowsL_mem.mp q
  · cases q
theorem CI.plm {m : jM} {n : Nat} (h : CI m n) {x : Int} : x ∈ PLm m ↔ (1 ≤ x ∧ x ≤ n) ∧ cellV m x 0 = 0 := by
  rw [h.2.2.2.2.2.1, p_mem, insL_mem]
  simp
/-- p makes a row: its number and what the class's cells then are -/
theorem w_T_write (L : Nat) (p s d v f z : Int) (m : jM) (Q : jV → jG → jM → Prop) (n : Nat) (h : CI m n) (hp : 0 ≤ p ∧ p < 4) (hR : n < 250 → RC m n p s d v f z)
    (h0 : n = 250 → Q (jI (-1)) (g0 L) m) (hQ : n < 250 → ∀ m1, AddP m m1 n p (m (nc p) 2 + 1) s d v f z → CI (lrn m1 (nc p) ((n : Int) + 1) (m (nc p) 2 + 1)) (n + 1) → Q (jI ((n : Int) + 1)) (g0 L) (lrn m1 (nc p) ((n : Int) + 1) (m (nc p) 2 + 1))) :
    wp 25 0 [jO (some 1), jI p, jI s, jI d, jI v, jI f, jI z, jU, jU, jU] [] (g0 L) m Q := by
  have hN := h.2.2.2.2.2.2.2.2.2 p hp.1 hp.2
  have hal := nc_lt hp
  have ha : isN (nc p) := isN_of hp
  have h1 := h.1
  have h2 := h.2.1
  have htm : 0 ≤ m (nc p) 2 ∧ m (nc p) 2 ≤ n := hN.2.2.2.2.2
  simp only [x_T_write_0, x_T_write_1, x_T_write_2, x_T_write_5, x_T_write_7, x_T_write_9n, x_T_write_9s, x_T_write_12, x_T_write_13, x_T_write_14, x_T_write_16, x_T_write_19, x_T_write_20, x_T_write_21, x_T_write_23, x_T_write_24, x_T_write_27, x_T_write_28, x_T_write_30, x_T_write_31, x_T_write_32, x_T_write_34, x_T_write_36, x_T_write_38, x_T_write_41, x_T_write_43, x_T_write_45, x_T_write_46, x_T_write_49, x_T_write_51, x_T_write_53, x_T_write_55, x_T_write_58, x_T_write_60, w_T_nodeOf, sk_0, sk_1, sk_2, sk_3, sk_4, sk_5, sk_6, sk_7, sk_8, sk_9, sk_10, sk_11, sk_12, sk_13, sk_14, sk_15, sk_16, sk_17, sk_18, sk_19, sk_20, sk_21, sk_22, sk_23, sk_24, sk_25, sk_26, sk_27, sk_28, sk_29, sk_30, sk_31, sk_32, sk_33, sk_34, sk_35, sk_36, sk_37, sk_38, sk_39, sk_40, sk_41, sk_42, sk_43, sk_44, sk_45, sk_46, sk_47, sk_48, sk_49, sk_50, sk_51, sk_52, sk_53, sn_0, sn_1, sn_2, sn_3, sn_4, sn_5, sn_6, sn_7, sn_8, sn_9, sn_10, sn_11, sn_12, sn_13, sn_14, sn_15, sn_16, sn_17, sn_18, sn_19, sn_20, sn_21, sn_22, sn_23, sn_24, sn_25, sn_26, sn_27, sn_28, sn_29, sn_30, sn_31, sn_32, sn_33, sn_34, sn_35, sn_36, sn_37, sn_38, sn_39, sn_40, sn_41, sn_42, sn_43, sn_44, sn_45, sn_46, sn_47, sn_48, sn_49, sn_50, sn_51, sn_52, sn_53, rf_2_1, rf_2_2, rf_2_3, rf_2_4, rf_1_0, rf_1_1, rf_8_0, rf_7_0, rf_10_0, rf_7_1, rf_12_0, rf_7_2, rf_14_0, rf_7_3, rf_16_1, rf_16_2, rf_16_3, rf_16_4, rf_16_5, rf_16_6, rf_16_7, rf_1_2, rf_24_1, rf_24_2, rf_24_3, rf_24_4, rf_24_5, rf_24_6, rf_24_7, rf_1_3, rf_32_2, rf_32_3, rf_32_4, rf_32_5, rf_32_6, rf_32_7, rf_32_8, rf_32_9, rf_32_10, rf_32_12, rf_32_14, rf_32_15, rf_32_16, rf_32_18, rf_32_19, rf_32_21, rf_32_25, rf_32_26, rf_32_27, rf_32_28, rf_32_30, true_and, and_true, true_or, or_true, or_false, false_or, false_and, and_false, not_true, not_false_iff, ne_eq, and_self, eq_self, if_true, if_false, ite_true, ite_false, Nat.reduceLeDiff, Int.cast_ofNat_Int, Int.reduceLT, Int.reduceLE, Int.reduceEq, Int.reduceNeg, reduceCtorEq, jup_ap, Nat.reduceEqDiff, Nat.reduceAdd]
  rw [if_pos hp]
  show _ ∧ _
  rw [show 8 + 2 * p.toNat = nc p from rfl, w_N_time ha]
  refine ⟨ka0 ha, ?_⟩
  simp only [x_T_write_0, x_T_write_1, x_T_write_2, x_T_write_5, x_T_write_7, x_T_write_9n, x_T_write_9s, x_T_write_12, x_T_write_13, x_T_write_14, x_T_write_16, x_T_write_19, x_T_write_20, x_T_write_21, x_T_write_23, x_T_write_24, x_T_write_27, x_T_write_28, x_T_write_30, x_T_write_31, x_T_write_32, x_T_write_34, x_T_write_36, x_T_write_38, x_T_write_41, x_T_write_43, x_T_write_45, x_T_write_46, x_T_write_49, x_T_write_51, x_T_write_53, x_T_write_55, x_T_write_58, x_T_write_60, sk_0, sk_1, sk_2, sk_3, sk_4, sk_5, sk_6, sk_7, sk_8, sk_9, sk_10, sk_11, sk_12, sk_13, sk_14, sk_15, sk_16, sk_17, sk_18, sk_19, sk_20, sk_21, sk_22, sk_23, sk_24, sk_25, sk_26, sk_27, sk_28, sk_29, sk_30, sk_31, sk_32, sk_33, sk_34, sk_35, sk_36, sk_37, sk_38, sk_39, sk_40, sk_41, sk_42, sk_43, sk_44, sk_45, sk_46, sk_47, sk_48, sk_49, sk_50, sk_51, sk_52, sk_53, sn_0, sn_1, sn_2, sn_3, sn_4, sn_5, sn_6, sn_7, sn_8, sn_9, sn_10, sn_11, sn_12, sn_13, sn_14, sn_15, sn_16, sn_17, sn_18, sn_19, sn_20, sn_21, sn_22, sn_23, sn_24, sn_25, sn_26, sn_27, sn_28, sn_29, sn_30, sn_31, sn_32, sn_33, sn_34, sn_35, sn_36, sn_37, sn_38, sn_39, sn_40, sn_41, sn_42, sn_43, sn_44, sn_45, sn_46, sn_47, sn_48, sn_49, sn_50, sn_51, sn_52, sn_53, rf_2_1, rf_2_2, rf_2_3, rf_2_4, rf_1_0, rf_1_1, rf_8_0, rf_7_0, rf_10_0, rf_7_1, rf_12_0, rf_7_2, rf_14_0, rf_7_3, rf_16_1, rf_16_2, rf_16_3, rf_16_4, rf_16_5, rf_16_6, rf_16_7, rf_1_2, rf_24_1, rf_24_2, rf_24_3, rf_24_4, rf_24_5, rf_24_6, rf_24_7, rf_1_3, rf_32_2, rf_32_3, rf_32_4, rf_32_5, rf_32_6, rf_32_7, rf_32_8, rf_32_9, rf_32_10, rf_32_12, rf_32_14, rf_32_15, rf_32_16, rf_32_18, rf_32_19, rf_32_21, rf_32_25, rf_32_26, rf_32_27, rf_32_28, rf_32_30, true_and, and_true, true_or, or_true, or_false, false_or, false_and, and_false, not_true, not_false_iff, ne_eq, and_self, eq_self, if_true, if_false, ite_true, ite_false, Nat.reduceLeDiff, Int.cast_ofNat_Int, Int.reduceLT, Int.reduceLE, Int.reduceEq, Int.reduceNeg, reduceCtorEq, jup_ap, Nat.reduceEqDiff, Nat.reduceAdd]
  rw [show jwr (m (nc p) 2 + 1) = m (nc p) 2 + 1 from jw1 (by omega) (by omega)]
  by_cases hn : n = 250
  · have e : ¬ m 2 0 < 250 := by omega
    simp only [x_R_add_0, x_R_add_1, x_R_add_4, x_R_add_7, x_R_add_10, x_R_add_11, e, sk_0, sk_1, sk_2, sk_3, sk_4, sk_5, sk_6, sk_7, sk_8, sk_9, sk_10, sk_11, sk_12, sk_13, sk_14, sk_15, sk_16, sk_17, sk_18, sk_19, sk_20, sk_21, sk_22, sk_23, sk_24, sk_25, sk_26, sk_27, sk_28, sk_29, sk_30, sk_31, sk_32, sk_33, sk_34, sk_35, sk_36, sk_37, sk_38, sk_39, sk_40, sk_41, sk_42, sk_43, sk_44, sk_45, sk_46, sk_47, sk_48, sk_49, sk_50, sk_51, sk_52, sk_53, sn_0, sn_1, sn_2, sn_3, sn_4, sn_5, sn_6, sn_7, sn_8, sn_9, sn_10, sn_11, sn_12, sn_13, sn_14, sn_15, sn_16, sn_17, sn_18, sn_19, sn_20, sn_21, sn_22, sn_23, sn_24, sn_25, sn_26, sn_27, sn_28, sn_29, sn_30, sn_31, sn_32, sn_33, sn_34, sn_35, sn_36, sn_37, sn_38, sn_39, sn_40, sn_41, sn_42, sn_43, sn_44, sn_45, sn_46, sn_47, sn_48, sn_49, sn_50, sn_51, sn_52, sn_53, rf_2_1, rf_2_2, rf_2_3, rf_2_4, rf_1_0, rf_1_1, rf_8_0, rf_7_0, rf_10_0, rf_7_1, rf_12_0, rf_7_2, rf_14_0, rf_7_3, rf_16_1, rf_16_2, rf_16_3, rf_16_4, rf_16_5, rf_16_6, rf_16_7, rf_1_2, rf_24_1, rf_24_2, rf_24_3, rf_24_4, rf_24_5, rf_24_6, rf_24_7, rf_1_3, rf_32_2, rf_32_3, rf_32_4, rf_32_5, rf_32_6, rf_32_7, rf_32_8, rf_32_9, rf_32_10, rf_32_12, rf_32_14, rf_32_15, rf_32_16, rf_32_18, rf_32_19, rf_32_21, rf_32_25, rf_32_26, rf_32_27, rf_32_28, rf_32_30, true_and, and_true, true_or, or_true, or_false, false_or, false_and, and_false, not_true, not_false_iff, ne_eq, and_self, eq_self, if_true, if_false, ite_true, ite_false, Nat.reduceLeDiff, Int.cast_ofNat_Int, Int.reduceLT, Int.reduceLE, Int.reduceEq, Int.reduceNeg, reduceCtorEq, jup_ap, Nat.reduceEqDiff, Nat.reduceAdd]
    simp only [x_T_write_0, x_T_write_1, x_T_write_2, x_T_write_5, x_T_write_7, x_T_write_9n, x_T_write_9s, x_T_write_12, x_T_write_13, x_T_write_14, x_T_write_16, x_T_write_19, x_T_write_20, x_T_write_21, x_T_write_23, x_T_write_24, x_T_write_27, x_T_write_28, x_T_write_30, x_T_write_31, x_T_write_32, x_T_write_34, x_T_write_36, x_T_write_38, x_T_write_41, x_T_write_43, x_T_write_45, x_T_write_46, x_T_write_49, x_T_write_51, x_T_write_53, x_T_write_55, x_T_write_58, x_T_write_60, sk_0, sk_1, sk_2, sk_3, sk_4, sk_5, sk_6, sk_7, sk_8, sk_9, sk_10, sk_11, sk_12, sk_13, sk_14, sk_15, sk_16, sk_17, sk_18, sk_19, sk_20, sk_21, sk_22, sk_23, sk_24, sk_25, sk_26, sk_27, sk_28, sk_29, sk_30, sk_31, sk_32, sk_33, sk_34, sk_35, sk_36, sk_37, sk_38, sk_39, sk_40, sk_41, sk_42, sk_43, sk_44, sk_45, sk_46, sk_47, sk_48, sk_49, sk_50, sk_51, sk_52, sk_53, sn_0, sn_1, sn_2, sn_3, sn_4, sn_5, sn_6, sn_7, sn_8, sn_9, sn_10, sn_11, sn_12, sn_13, sn_14, sn_15, sn_16, sn_17, sn_18, sn_19, sn_20, sn_21, sn_22, sn_23, sn_24, sn_25, sn_26, sn_27, sn_28, sn_29, sn_30, sn_31, sn_32, sn_33, sn_34, sn_35, sn_36, sn_37, sn_38, sn_39, sn_40, sn_41, sn_42, sn_43, sn_44, sn_45, sn_46, sn_47, sn_48, sn_49, sn_50, sn_51, sn_52, sn_53, rf_2_1, rf_2_2, rf_2_3, rf_2_4, rf_1_0, rf_1_1, rf_8_0, rf_7_0, rf_10_0, rf_7_1, rf_12_0, rf_7_2, rf_14_0, rf_7_3, rf_16_1, rf_16_2, rf_16_3, rf_16_4, rf_16_5, rf_16_6, rf_16_7, rf_1_2, rf_24_1, rf_24_2, rf_24_3, rf_24_4, rf_24_5, rf_24_6, rf_24_7, rf_1_3, rf_32_2, rf_32_3, rf_32_4, rf_32_5, rf_32_6, rf_32_7, rf_32_8, rf_32_9, rf_32_10, rf_32_12, rf_32_14, rf_32_15, rf_32_16, rf_32_18, rf_32_19, rf_32_21, rf_32_25, rf_32_26, rf_32_27, rf_32_28, rf_32_30, true_and, and_true, true_or, or_true, or_false, false_or, false_and, and_false, not_true, not_false_iff, ne_eq, and_self, eq_self, if_true, if_false, ite_true, ite_false, Nat.reduceLeDiff, Int.cast_ofNat_Int, Int.reduceLT, Int.reduceLE, Int.reduceEq, Int.reduceNeg, reduceCtorEq, jup_ap, Nat.reduceEqDiff, Nat.reduceAdd]
    exact h0 hn
  · have hn2 : n < 250 := by omega
    obtain ⟨N, hNe⟩ : ∃ N, N = (insL m n).length := ⟨_, rfl⟩
    have hle : N ≤ n := by rw [hNe]; exact insL_len m n
    have h5 : m 2 5 = (N : Int) := by rw [hNe]; exact h.2.2.2.2.1
    have hP : PLm m = ar (m 6) N := by
      unfold PLm
      rw [h5]
      rfl
    refine w_R_add L p _ s d v f z m _ n h1 hn2 N h5 hle hp (fun r a b => (h.2.2.1 r a b).2.1) h.ord (fun i hi => ?_) (fun hs hf => ?_) (fun hs => ?_) (fun m1 hA => ?_)
    · exact ((h.plm).mp (by rw [hP]; exact ar_mem.mpr ⟨i, hi, rfl⟩)).1
    · rw [← hP, h.plm]
      have := (((hR hn2).2.1 hs).1.resolve_left hf).1
      exact ⟨⟨this.1, by have := this.2.1; omega⟩, this.2.2⟩
    · exact ((hR hn2).2.2.2.2.2.2 hs).1
    · have hCI := CI_add h hn2 hp rfl hA (hR hn2)
      have hne : ¬ ((n : Int) + 1 = -1) := by omega
      have e1 : ∀ x, m1 (nc p) x = m (nc p) x := fun x => hA.1 (nc p) (by simp; omega) x
      have e2 : ∀ x, m1 (nc p + 1) x = m (nc p + 1) x := fun x => hA.1 (nc p + 1) (by simp; omega) x
      have hc : 0 ≤ m (nc p) 1 ∧ m (nc p) 1 ≤ n := by
        rw [hN.2.2.2.2.1]
        unfold cntK
        have : ∀ (k : Nat) (i : Int), 0 ≤ sumI (fun r => b2i (kb m (nc p) r)) i k ∧ sumI (fun r => b2i (kb m (nc p) r)) i k ≤ k := by
          intro k
          induction k with
          | zero => intro i; simp [sumI]
          | succ k ih =>
            intro i
            have g1 := ih (i + 1)
            have g2 := b2i_01 (kb m (nc p) i)
            unfold sumI
            omega
        exact this n 1
      simp only [x_T_write_0, x_T_write_1, x_T_write_2, x_T_write_5, x_T_write_7, x_T_write_9n, x_T_write_9s, x_T_write_12, x_T_write_13, x_T_write_14, x_T_write_16, x_T_write_19, x_T_write_20, x_T_write_21, x_T_write_23, x_T_write_24, x_T_write_27, x_T_write_28, x_T_write_30, x_T_write_31, x_T_write_32, x_T_write_34, x_T_write_36, x_T_write_38, x_T_write_41, x_T_write_43, x_T_write_45, x_T_write_46, x_T_write_49, x_T_write_51, x_T_write_53, x_T_write_55, x_T_write_58, x_T_write_60, sk_0, sk_1, sk_2, sk_3, sk_4, sk_5, sk_6, sk_7, sk_8, sk_9, sk_10, sk_11, sk_12, sk_13, sk_14, sk_15, sk_16, sk_17, sk_18, sk_19, sk_20, sk_21, sk_22, sk_23, sk_24, sk_25, sk_26, sk_27, sk_28, sk_29, sk_30, sk_31, sk_32, sk_33, sk_34, sk_35, sk_36, sk_37, sk_38, sk_39, sk_40, sk_41, sk_42, sk_43, sk_44, sk_45, sk_46, sk_47, sk_48, sk_49, sk_50, sk_51, sk_52, sk_53, sn_0, sn_1, sn_2, sn_3, sn_4, sn_5, sn_6, sn_7, sn_8, sn_9, sn_10, sn_11, sn_12, sn_13, sn_14, sn_15, sn_16, sn_17, sn_18, sn_19, sn_20, sn_21, sn_22, sn_23, sn_24, sn_25, sn_26, sn_27, sn_28, sn_29, sn_30, sn_31, sn_32, sn_33, sn_34, sn_35, sn_36, sn_37, sn_38, sn_39, sn_40, sn_41, sn_42, sn_43, sn_44, sn_45, sn_46, sn_47, sn_48, sn_49, sn_50, sn_51, sn_52, sn_53, rf_2_1, rf_2_2, rf_2_3, rf_2_4, rf_1_0, rf_1_1, rf_8_0, rf_7_0, rf_10_0, rf_7_1, rf_12_0, rf_7_2, rf_14_0, rf_7_3, rf_16_1, rf_16_2, rf_16_3, rf_16_4, rf_16_5, rf_16_6, rf_16_7, rf_1_2, rf_24_1, rf_24_2, rf_24_3, rf_24_4, rf_24_5, rf_24_6, rf_24_7, rf_1_3, rf_32_2, rf_32_3, rf_32_4, rf_32_5, rf_32_6, rf_32_7, rf_32_8, rf_32_9, rf_32_10, rf_32_12, rf_32_14, rf_32_15, rf_32_16, rf_32_18, rf_32_19, rf_32_21, rf_32_25, rf_32_26, rf_32_27, rf_32_28, rf_32_30, true_and, and_true, true_or, or_true, or_false, false_or, false_and, and_false, not_true, not_false_iff, ne_eq, and_self, eq_self, if_true, if_false, ite_true, ite_false, Nat.reduceLeDiff, Int.cast_ofNat_Int, Int.reduceLT, Int.reduceLE, Int.reduceEq, Int.reduceNeg, reduceCtorEq, jup_ap, Nat.reduceEqDiff, Nat.reduceAdd, hne]
      refine ⟨ka0 ha, ?_⟩
      rw [w_N_learn ha L _ _ m1 _ (by rw [e1]; omega) (by omega) (by omega) (by rw [e2]; exact hN.2.1 _ (by omega) (by omega) (by omega))]
      exact hQ hn2 m1 hA hCI
/-- the class's cells when p has made a row: all that counts of them -/
def MkP (m m' : jM) (n : Nat) (p s d v f z : Int) : Prop :=
  CI m' (n + 1) ∧ (∀ r w : Int, r ≤ n → cellV m' r w = cellV m r w) ∧ (∀ w : Int, 0 ≤ w → w < 7 → cellV m' ((n : Int) + 1) w = rowC p (m (nc p) 2 + 1) s d v f z w) ∧
  (∀ q r : Int, 0 ≤ q → q < 4 → m' (nc q + 1) r = if q = p ∧ r = (n : Int) + 1 then 1 else m (nc q + 1) r) ∧ (∀ q : Int, 0 ≤ q → q < 4 → m' (nc q) 2 = if q = p then m (nc p) 2 + 1 else m (nc q) 2) ∧ (∀ b, (b = 0 ∨ 32 ≤ b) → ∀ j, m' b j = m b j)
theorem w_T_make (L : Nat) (p s d v f z : Int) (m : jM) (Q : jV → jG → jM → Prop) (n : Nat) (h : CI m n) (hp : 0 ≤ p ∧ p < 4) (hR : n < 250 → RC m n p s d v f z)
    (h0 : n = 250 → Q (jI (-1)) (g0 L) m) (hQ : n < 250 → ∀ m', MkP m m' n p s d v f z → Q (jI ((n : Int) + 1)) (g0 L) m') :
    wp 25 0 [jO (some 1), jI p, jI s, jI d, jI v, jI f, jI z, jU, jU, jU] [] (g0 L) m Q := by
  refine w_T_write L p s d v f z m Q n h hp hR h0 (fun hn m1 hA hC => hQ hn _ ⟨hC, fun r w hr => ?_, fun w w1 w2 => ?_, fun q r q1 q2 => ?_, fun q q1 q2 => ?_, fun b hb j => ?_⟩)
  · have hal := nc_lt hp
    rw [lrn_fr.cell (by simp; omega) (by simp; omega), hA.2.2.1 r w hr]
  · have hal := nc_lt hp
    rw [lrn_fr.cell (by simp; omega) (by simp; omega), hA.2.2.2.1 w w1 w2]
  · have hal := nc_lt (p := q) ⟨q1, q2⟩
    by_cases e : q = p
    · subst e
      rw [lrn_kn, hA.1 (nc q + 1) (by simp; omega)]
      by_cases hr : r = (n : Int) + 1
      · rw [if_pos hr, if_pos ⟨rfl, hr⟩]
      · rw [if_neg hr, if_neg (fun w => hr w.2)]
    · have hne := nc_ne hp ⟨q1, q2⟩ e
      rw [if_neg (fun w => e w.1), lrn_fr (nc q + 1) (by simp; omega), hA.1 (nc q + 1) (by simp; omega)]
  · have hal := nc_lt (p := q) ⟨q1, q2⟩
    by_cases e : q = p
    · subst e
      rw [if_pos rfl, lrn_tm, hA.1 (nc q) (by simp; omega), if_pos (by omega)]
    · have hne := nc_ne hp ⟨q1, q2⟩ e
      rw [if_neg e, lrn_fr (nc q) (by simp; omega), hA.1 (nc q) (by simp; omega)]
  · have hal := nc_lt hp
    rw [lrn_fr b (by simp; omega), hA.1 b (by simp; omega)]
theorem CI.fr {m m1 : jM} {n : Nat} (h : CI m n) (hF : ∀ b, b < 16 → ∀ j, m1 b j = m b j) : CI m1 n := by
  have cE : cellV m1 = cellV m := by
    funext r w
    unfold cellV
    rw [hF 2 (by decide), hF 3 (by decide)]
  have kE : key m1 = key m := by
    funext r
    unfold key
    rw [cE]
  have fE : frs m1 = frs m := by
    funext r
    unfold frs
    rw [cE]
  have iE : insL m1 n = insL m n := by
    unfold insL
    rw [cE]
  have pE : PLm m1 = PLm m := by
    unfold PLm
    rw [hF 2 (by decide)]
    exact ar_congr (fun i _ => hF 6 (by decide) i)
  have oE : ar (m1 5) n = ar (m 5) n := ar_congr (fun i _ => hF 5 (by decide) i)
  have rE : ∀ r, RowOk m1 n r = RowOk m n r := by
    intro r
    unfold RowOk isIns
    rw [cE, kE]
  obtain ⟨h1, h2, h3, h4, h5, h6, h7, h8, h9, h10⟩ := h
  refine ⟨by rw [hF 2 (by decide)]; exact h1, h2, fun r a b => by rw [rE]; exact h3 r a b, by rw [kE]; exact h4, by rw [hF 2 (by decide), iE]; exact h5, by rw [pE, iE, kE, fE]; exact h6, by rw [oE, kE]; exact h7, fun r a b => ?_, fun r a => by rw [hF 4 (by decide)]; exact h9 r a, fun p a b => ?_⟩
  · rw [hF 4 (by decide), cE]
    exact h8 r a b
  · have hl := nc_lt ⟨a, b⟩
    have kb1 : ∀ r, kb m1 (nc p) r = kb m (nc p) r := fun r => by
      unfold kb
      rw [hF (nc p + 1) (by omega)]
    obtain ⟨N0, N1, N2, N3, N4, N5⟩ := h10 p a b
    refine ⟨fun r x y => by rw [hF (nc p + 1) (by omega)]; exact N0 r x y, fun r x y w => by rw [hF (nc p + 1) (by omega)]; exact N1 r x y w, fun r x y w => ?_, fun r x y w => ?_, ?_, by rw [hF (nc p) (by omega)]; exact N5⟩
    · rw [kb1] at w
      rw [cE, kb1, kb1, hF (nc p) (by omega)]
      exact N2 r x y w
    · rw [cE] at w
      rw [kb1]
      exact N3 r x y w
    · rw [hF (nc p) (by omega), N4]
      unfold cntK
      exact sumI_congr n 1 (fun j _ _ => by rw [kb1 j])
theorem CI.vfr {m m1 : jM} {n : Nat} (h : CI m n) {v : Nat} (hv : 16 ≤ v) (hF : Fr m m1 (vCells v)) : CI m1 n := h.fr (fun b hb j => hF b (by simp; omega) j)
theorem MkP.vfr {m m1 m' : jM} {n : Nat} {p s d v f z : Int} (hp : 0 ≤ p ∧ p < 4) (hF : Fr m m1 (vCells 16)) (h : MkP m1 m' n p s d v f z) : MkP m m' n p s d v f z := by
  have hlo : ∀ b, b < 16 → ∀ j, m1 b j = m b j := fun b hb j => hF b (by simp; omega) j
  have hal := nc_lt hp
  obtain ⟨a1, a2, a3, a4, a5, a6⟩ := h
  have cE : ∀ r w, cellV m1 r w = cellV m r w := hF.cell (by simp) (by simp)
  refine ⟨a1, fun r w hr => by rw [a2 r w hr, cE], fun w w1 w2 => by rw [a3 w w1 w2, hlo (nc p) (by omega)], fun q r q1 q2 => ?_, fun q q1 q2 => ?_, fun b hb j => ?_⟩
  · have hql := nc_lt (p := q) ⟨q1, q2⟩
    rw [a4 q r q1 q2, hlo (nc q + 1) (by omega)]
  · have hql := nc_lt (p := q) ⟨q1, q2⟩
    rw [a5 q q1 q2, hlo (nc q) (by omega), hlo (nc p) (by omega)]
  · rw [a6 b hb, hF b (by simp; omega)]
