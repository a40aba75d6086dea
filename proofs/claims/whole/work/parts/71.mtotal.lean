theorem sum_filter {q : Int → Bool} {f : Int → Int} : ∀ n : Nat, sumI (fun i => b2i (q (f i))) 0 n = (((ar f n).filter q).length : Int)
  | 0 => rfl
  | n + 1 => by
    rw [sumI_snoc, sum_filter n, ar_succ, List.filter_append, List.length_append, Int.zero_add]
    cases e : q (f n)
    · simp [e, b2i]
    · simp [e, b2i]
theorem w_M_total {c m : jM} {n : Nat} (h : CI c n) (hI : MI c m n) (L : Nat) (p w : Int) (Q : jV → jG → jM → Prop) (h0 : ¬ (0 ≤ p ∧ p < 4) → ∀ m', MK m m' → MI c m' n → Q (jI (-1)) (g0 L) m')
    (hQ : (0 ≤ p ∧ p < 4) → ∀ m', MK m m' → MI c m' n → Q (jI (aTotal c n p w)) (g0 L) m') : wp 77 0 [jO (some 32), jI p, jI w] [] (g0 L) m Q := by
  have hn := h.2.1
  have hK0 : MK m (jup m 32 0 0) := MK.rf.upf (by decide)
  have n0 := fun q => h0 q _ hK0 hI.thr
  have hIt := hI.thr
  rw [x_M_total_0, x_M_total_1, x_M_total_2]
  refine ⟨rfl, ?_⟩
  generalize jup m 32 0 0 = m0 at *
  simp only [x_M_total_0, x_M_total_1, x_M_total_2, x_M_total_5, x_M_total_6, x_M_total_9, x_M_total_12, x_M_total_13, x_M_total_14, x_M_total_15, x_M_total_16, x_M_total_19, x_M_total_20, x_M_total_64, x_M_total_65, x_M_total_68, x_M_total_69, x_M_total_70, x_M_total_73, x_M_total_74, x_M_total_75, x_M_total_78, x_M_total_79, x_M_total_80, x_M_total_83, x_M_total_84, x_M_total_85, x_M_total_88, x_M_total_89, x_M_total_90, x_M_total_91, x_M_total_94, x_M_total_95, x_M_total_96, x_M_total_99, x_M_total_100, x_M_total_101, x_M_total_102, x_M_total_103, w_M_isNode, b01_0, sk_0, sk_1, sk_2, sk_3, sk_4, sk_5, sk_6, sk_7, sk_8, sk_9, sk_10, sk_11, sk_12, sk_13, sk_14, sk_15, sk_16, sk_17, sk_18, sk_19, sk_20, sk_21, sk_22, sk_23, sk_24, sk_25, sk_26, sk_27, sk_28, sk_29, sk_30, sk_31, sk_32, sk_33, sk_34, sk_35, sk_36, sk_37, sk_38, sk_39, sk_40, sk_41, sk_42, sk_43, sk_44, sk_45, sk_46, sk_47, sk_48, sk_49, sk_50, sk_51, sk_52, sk_53, sn_0, sn_1, sn_2, sn_3, sn_4, sn_5, sn_6, sn_7, sn_8, sn_9, sn_10, sn_11, sn_12, sn_13, sn_14, sn_15, sn_16, sn_17, sn_18, sn_19, sn_20, sn_21, sn_22, sn_23, sn_24, sn_25, sn_26, sn_27, sn_28, sn_29, sn_30, sn_31, sn_32, sn_33, sn_34, sn_35, sn_36, sn_37, sn_38, sn_39, sn_40, sn_41, sn_42, sn_43, sn_44, sn_45, sn_46, sn_47, sn_48, sn_49, sn_50, sn_51, sn_52, sn_53, rf_2_1, rf_2_2, rf_2_3, rf_2_4, rf_1_0, rf_1_1, rf_8_0, rf_7_0, rf_10_0, rf_7_1, rf_12_0, rf_7_2, rf_14_0, rf_7_3, rf_16_1, rf_16_2, rf_16_3, rf_16_4, rf_16_5, rf_16_6, rf_16_7, rf_1_2, rf_24_1, rf_24_2, rf_24_3, rf_24_4, rf_24_5, rf_24_6, rf_24_7, rf_1_3, rf_32_2, rf_32_3, rf_32_4, rf_32_5, rf_32_6, rf_32_7, rf_32_8, rf_32_9, rf_32_10, rf_32_12, rf_32_14, rf_32_15, rf_32_16, rf_32_18, rf_32_19, rf_32_21, rf_32_25, rf_32_26, rf_32_27, rf_32_28, rf_32_30, true_and, and_true, true_or, or_true, or_false, false_or, false_and, and_false, not_true, not_false_iff, ne_eq, and_self, eq_self, if_true, if_false, ite_true, ite_false, Nat.reduceLeDiff, Int.cast_ofNat_Int, Int.reduceLT, Int.reduceLE, Int.reduceEq, Int.reduceNeg, reduceCtorEq, jup_ap, Nat.reduceEqDiff, Nat.reduceAdd]
  by_cases hp : 0 ≤ p ∧ p < 4
  · rw [if_pos (fun q => q hp)]
    refine w_M_look h hIt L hp _ (fun m1 N s hK e hL => ?_)
    have l := hL.len
    have hI1 := MI.of hIt.1 hp hK e hL
    have hK1 := hK0.trans hK
    have g := hQ hp
    unfold aTotal at g
    rw [l.2.1] at g
    have e41 : m1 41 p = c (nc p) 2 := hI1.1.2.2.2 p hp.1 hp.2
    have e13 : m1 32 13 = (N : Int) := hL.1.2.2.1
    have eN : (N : Int) = plN c (nc p) := by
      unfold plN
      rw [sum_filter, ← ar_len (m1 43) N, hL.1.2.2.2.1]
      rfl
    simp only [x_M_total_0, x_M_total_1, x_M_total_2, x_M_total_5, x_M_total_6, x_M_total_9, x_M_total_12, x_M_total_13, x_M_total_14, x_M_total_15, x_M_total_16, x_M_total_19, x_M_total_20, x_M_total_64, x_M_total_65, x_M_total_68, x_M_total_69, x_M_total_70, x_M_total_73, x_M_total_74, x_M_total_75, x_M_total_78, x_M_total_79, x_M_total_80, x_M_total_83, x_M_total_84, x_M_total_85, x_M_total_88, x_M_total_89, x_M_total_90, x_M_total_91, x_M_total_94, x_M_total_95, x_M_total_96, x_M_total_99, x_M_total_100, x_M_total_101, x_M_total_102, x_M_total_103, w_M_units h hI1.1 hL L, w_M_paragraphs h hI1.1 hL L, w_M_knownRows h hI1.1 hp L, l.2.2.1, e41, e13, hp, sk_0, sk_1, sk_2, sk_3, sk_4, sk_5, sk_6, sk_7, sk_8, sk_9, sk_10, sk_11, sk_12, sk_13, sk_14, sk_15, sk_16, sk_17, sk_18, sk_19, sk_20, sk_21, sk_22, sk_23, sk_24, sk_25, sk_26, sk_27, sk_28, sk_29, sk_30, sk_31, sk_32, sk_33, sk_34, sk_35, sk_36, sk_37, sk_38, sk_39, sk_40, sk_41, sk_42, sk_43, sk_44, sk_45, sk_46, sk_47, sk_48, sk_49, sk_50, sk_51, sk_52, sk_53, sn_0, sn_1, sn_2, sn_3, sn_4, sn_5, sn_6, sn_7, sn_8, sn_9, sn_10, sn_11, sn_12, sn_13, sn_14, sn_15, sn_16, sn_17, sn_18, sn_19, sn_20, sn_21, sn_22, sn_23, sn_24, sn_25, sn_26, sn_27, sn_28, sn_29, sn_30, sn_31, sn_32, sn_33, sn_34, sn_35, sn_36, sn_37, sn_38, sn_39, sn_40, sn_41, sn_42, sn_43, sn_44, sn_45, sn_46, sn_47, sn_48, sn_49, sn_50, sn_51, sn_52, sn_53, rf_2_1, rf_2_2, rf_2_3, rf_2_4, rf_1_0, rf_1_1, rf_8_0, rf_7_0, rf_10_0, rf_7_1, rf_12_0, rf_7_2, rf_14_0, rf_7_3, rf_16_1, rf_16_2, rf_16_3, rf_16_4, rf_16_5, rf_16_6, rf_16_7, rf_1_2, rf_24_1, rf_24_2, rf_24_3, rf_24_4, rf_24_5, rf_24_6, rf_24_7, rf_1_3, rf_32_2, rf_32_3, rf_32_4, rf_32_5, rf_32_6, rf_32_7, rf_32_8, rf_32_9, rf_32_10, rf_32_12, rf_32_14, rf_32_15, rf_32_16, rf_32_18, rf_32_19, rf_32_21, rf_32_25, rf_32_26, rf_32_27, rf_32_28, rf_32_30, true_and, and_true, true_or, or_true, or_false, false_or, false_and, and_false, not_true, not_false_iff, ne_eq, and_self, eq_self, if_true, if_false, ite_true, ite_false, Nat.reduceLeDiff, Int.cast_ofNat_Int, Int.reduceLT, Int.reduceLE, Int.reduceEq, Int.reduceNeg, reduceCtorEq, jup_ap, Nat.reduceEqDiff, Nat.reduceAdd]
    by_cases w0 : w = 0
    · rw [if_pos w0]; rw [if_pos w0] at g; exact g m1 hK1 hI1
    rw [if_neg w0]; rw [if_neg w0] at g
    by_cases w1 : w = 1
    · rw [if_pos w1]; rw [if_pos w1] at g; exact g m1 hK1 hI1
    rw [if_neg w1]; rw [if_neg w1] at g
    by_cases w2 : w = 2
    · rw [if_pos w2]; rw [if_pos w2] at g
      refine w_M_runs hn hL L _ (fun m2 hF2 => ?_)
      simp only [x_M_total_0, x_M_total_1, x_M_total_2, x_M_total_5, x_M_total_6, x_M_total_9, x_M_total_12, x_M_total_13, x_M_total_14, x_M_total_15, x_M_total_16, x_M_total_19, x_M_total_20, x_M_total_64, x_M_total_65, x_M_total_68, x_M_total_69, x_M_total_70, x_M_total_73, x_M_total_74, x_M_total_75, x_M_total_78, x_M_total_79, x_M_total_80, x_M_total_83, x_M_total_84, x_M_total_85, x_M_total_88, x_M_total_89, x_M_total_90, x_M_total_91, x_M_total_94, x_M_total_95, x_M_total_96, x_M_total_99, x_M_total_100, x_M_total_101, x_M_total_102, x_M_total_103]
      exact g m2 (hK1.trans hF2.mk) (MI.of hIt.1 hp (hK.trans hF2.mk) (by rw [hF2.2 11 (by decide) (by decide)]; exact e) (hF2.lk hL))
    rw [if_neg w2]; rw [if_neg w2] at g
    by_cases w3 : w = 3
    · rw [if_pos w3]; rw [if_pos w3] at g; exact g m1 hK1 hI1
    rw [if_neg w3]; rw [if_neg w3] at g
    by_cases w4 : w = 4
    · rw [if_pos w4, eN]; rw [if_pos w4] at g; exact g m1 hK1 hI1
    rw [if_neg w4]; rw [if_neg w4] at g
    by_cases w5 : w = 5
    · rw [if_pos w5]; rw [if_pos w5] at g; exact g m1 hK1 hI1
    rw [if_neg w5]; rw [if_neg w5] at g
    by_cases w6 : w = 6
    · rw [if_pos w6]; rw [if_pos w6] at g; exact g m1 hK1 hI1
    rw [if_neg w6]; rw [if_neg w6] at g
    exact g m1 hK1 hI1
  · rw [if_neg (fun q => q hp)]
    exact n0 hp
/-- the reference's cells when p has made a row, over the class's cells ahead of that -/
def MAdd (c m' : jM) (n : Nat) (p s d v f z : Int) : Prop :=
  m' 32 1 = (n : Int) + 1 ∧ (∀ r : Int, 1 ≤ r → r ≤ n → m' 33 r = cellV c r 0 ∧ m' 34 r = cellV c r 1 ∧ m' 35 r = cellV c r 2 ∧ m' 36 r = cellV c r 3 ∧ m' 37 r = cellV c r 4 ∧ m' 38 r = cellV c r 5 ∧ m' 39 r = cellV c r 6) ∧
  (m' 33 ((n : Int) + 1) = s ∧ m' 34 ((n : Int) + 1) = p ∧ m' 35 ((n : Int) + 1) = c (nc p) 2 + 1 ∧ m' 36 ((n : Int) + 1) = d ∧ m' 37 ((n : Int) + 1) = v ∧ m' 38 ((n : Int) + 1) = f ∧ m' 39 ((n : Int) + 1) = z) ∧
  (∀ q r : Int, 0 ≤ q → q < 4 → 0 ≤ r → r < 251 → m' 40 (251 * q + r) = if q = p ∧ r = (n : Int) + 1 then 1 else c (nc q + 1) r) ∧ (∀ q : Int, 0 ≤ q → q < 4 → m' 41 q = if q = p then c (nc p) 2 + 1 else c (nc q) 2) ∧ m' 32 11 = -1
def LoF (m m' : jM) : Prop := ∀ b, b < 32 → ∀ j, m' b j = m b j
theorem LoF.trans {m m1 m2 : jM} (h : LoF m m1) (h' : LoF m1 m2) : LoF m m2 := fun b hb j => (h' b hb j).trans (h b hb j)
theorem MK.lo {m m' : jM} (h : MK m m') : LoF m m' := fun b hb j => h.1 b (Or.inl hb) j
theorem w_M_add {c m : jM} {n : Nat} (h : CI c n) (hM : MB c m n) (hn : n < 250) (L : Nat) {p : Int} (hp : 0 ≤ p ∧ p < 4) (s d v f z : Int) (Q : jV → jG → jM → Prop)
    (hQ : ∀ m', LoF m m' → MAdd c m' n p s d v f z → Q (jI ((n : Int) + 1)) (g0 L) m') : wp 45 0 [jO (some 32), jI p, jI s, jI d, jI v, jI f, jI z] [] (g0 L) m Q := by
  have hcl := (h.2.2.2.2.2.2.2.2.2 p hp.1 hp.2).2.2.2.2.2
  obtain ⟨e1, e2, e3, e4⟩ := hM
  have ec := e4 p hp.1 hp.2
  have hb : (0 : Int) ≤ (n : Int) + 1 ∧ (n : Int) + 1 < 251 := by omega
  have hb2 : 0 ≤ 251 * p + ((n : Int) + 1) ∧ 251 * p + ((n : Int) + 1) < 1004 := by omega
  simp only [x_M_add_0, x_M_add_1, x_M_add_2, x_M_add_5, x_M_add_6, x_M_add_7, x_M_add_10, x_M_add_11, x_M_add_14, x_M_add_15, x_M_add_18, x_M_add_19, x_M_add_20, x_M_add_21, x_M_add_24, x_M_add_25, x_M_add_28, x_M_add_29, x_M_add_30, x_M_add_31, x_M_add_34, x_M_add_35, x_M_add_36, x_M_add_37, x_M_add_38, x_M_add_39, x_M_add_40, x_M_add_41, x_M_add_44, x_M_add_45, x_M_add_48, x_M_add_49, x_M_add_52, x_M_add_53, x_M_add_54, x_M_add_55, x_M_add_56, x_M_add_59, x_M_add_60, x_M_add_63, x_M_add_64, x_M_add_65, x_M_add_66, x_M_add_69, x_M_add_70, x_M_add_73, x_M_add_75, x_M_add_76, x_M_add_77, x_M_add_80, x_M_add_81, x_M_add_84, x_M_add_86, x_M_add_87, x_M_add_88, x_M_add_91, x_M_add_92, x_M_add_95, x_M_add_97, x_M_add_98, x_M_add_99, x_M_add_102, x_M_add_105, x_M_add_106, x_M_add_107, x_M_add_108, x_M_add_111, x_M_add_112, x_M_add_113, x_M_add_114, x_M_add_115, x_M_add_116, x_M_add_119, x_M_add_120, x_M_add_123, e1, ec, show jwr ((n : Int) + 1) = (n : Int) + 1 from jw1 (by omega) (by omega), show jwr (251 * p) = 251 * p from jw1 (by omega) (by omega), show jwr (251 * p + ((n : Int) + 1)) = 251 * p + ((n : Int) + 1) from jw1 (by omega) (by omega), show jwr (c (nc p) 2 + 1) = c (nc p) 2 + 1 from jw1 (by omega) (by omega), hb, hb2, hp, sk_0, sk_1, sk_2, sk_3, sk_4, sk_5, sk_6, sk_7, sk_8, sk_9, sk_10, sk_11, sk_12, sk_13, sk_14, sk_15, sk_16, sk_17, sk_18, sk_19, sk_20, sk_21, sk_22, sk_23, sk_24, sk_25, sk_26, sk_27, sk_28, sk_29, sk_30, sk_31, sk_32, sk_33, sk_34, sk_35, sk_36, sk_37, sk_38, sk_39, sk_40, sk_41, sk_42, sk_43, sk_44, sk_45, sk_46, sk_47, sk_48, sk_49, sk_50, sk_51, sk_52, sk_53, sn_0, sn_1, sn_2, sn_3, sn_4, sn_5, sn_6, sn_7, sn_8, sn_9, sn_10, sn_11, sn_12, sn_13, sn_14, sn_15, sn_16, sn_17, sn_18, sn_19, sn_20, sn_21, sn_22, sn_23, sn_24, sn_25, sn_26, sn_27, sn_28, sn_29, sn_30, sn_31, sn_32, sn_33, sn_34, sn_35, sn_36, sn_37, sn_38, sn_39, sn_40, sn_41, sn_42, sn_43, sn_44, sn_45, sn_46, sn_47, sn_48, sn_49, sn_50, sn_51, sn_52, sn_53, rf_2_1, rf_2_2, rf_2_3, rf_2_4, rf_1_0, rf_1_1, rf_8_0, rf_7_0, rf_10_0, rf_7_1, rf_12_0, rf_7_2, rf_14_0, rf_7_3, rf_16_1, rf_16_2, rf_16_3, rf_16_4, rf_16_5, rf_16_6, rf_16_7, rf_1_2, rf_24_1, rf_24_2, rf_24_3, rf_24_4, rf_24_5, rf_24_6, rf_24_7, rf_1_3, rf_32_2, rf_32_3, rf_32_4, rf_32_5, rf_32_6, rf_32_7, rf_32_8, rf_32_9, rf_32_10, rf_32_12, rf_32_14, rf_32_15, rf_32_16, rf_32_18, rf_32_19, rf_32_21, rf_32_25, rf_32_26, rf_32_27, rf_32_28, rf_32_30, true_and, and_true, true_or, or_true, or_false, false_or, false_and, and_false, not_true, not_false_iff, ne_eq, and_self, eq_self, if_true, if_false, ite_true, ite_false, Nat.reduceLeDiff, Int.cast_ofNat_Int, Int.reduceLT, Int.reduceLE, Int.reduceEq, Int.reduceNeg, reduceCtorEq, jup_ap, Nat.reduceEqDiff, Nat.reduceAdd]
  refine hQ _ (fun b hb j => ?_) ⟨?_, fun r r1 r2 => ?_, ?_, fun q r q1 q2 r1 r2 => ?_, fun q q1 q2 => ?_, ?_⟩
  · simp only [jup_ap]
    repeat rw [if_neg (by omega)]
  · simp only [true_and, and_true, true_or, or_true, or_false, false_or, false_and, and_false, not_true, not_false_iff, ne_eq, and_self, eq_self, if_true, if_false, ite_true, ite_false, Nat.reduceLeDiff, Int.cast_ofNat_Int, Int.reduceLT, Int.reduceLE, Int.reduceEq, Int.reduceNeg, reduceCtorEq, jup_ap, Nat.reduceEqDiff, Nat.reduceAdd]
  · simp only [true_and, and_true, true_or, or_true, or_false, false_or, false_and, and_false, not_true, not_false_iff, ne_eq, and_self, eq_self, if_true, if_false, ite_true, ite_false, Nat.reduceLeDiff, Int.cast_ofNat_Int, Int.reduceLT, Int.reduceLE, Int.reduceEq, Int.reduceNeg, reduceCtorEq, jup_ap, Nat.reduceEqDiff, Nat.reduceAdd]
    have : ¬ r = (n : Int) + 1 := by omega
    simp only [this, true_and, and_true, true_or, or_true, or_false, false_or, false_and, and_false, not_true, not_false_iff, ne_eq, and_self, eq_self, if_true, if_false, ite_true, ite_false, Nat.reduceLeDiff, Int.cast_ofNat_Int, Int.reduceLT, Int.reduceLE, Int.reduceEq, Int.reduceNeg, reduceCtorEq, jup_ap, Nat.reduceEqDiff, Nat.reduceAdd]
    exact e2 r r1 r2
  · simp only [true_and, and_true, true_or, or_true, or_false, false_or, false_and, and_false, not_true, not_false_iff, ne_eq, and_self, eq_self, if_true, if_false, ite_true, ite_false, Nat.reduceLeDiff, Int.cast_ofNat_Int, Int.reduceLT, Int.reduceLE, Int.reduceEq, Int.reduceNeg, reduceCtorEq, jup_ap, Nat.reduceEqDiff, Nat.reduceAdd]
  · simp only [true_and, and_true, true_or, or_true, or_false, false_or, false_and, and_false, not_true, not_false_iff, ne_eq, and_self, eq_self, if_true, if_false, ite_true, ite_false, Nat.reduceLeDiff, Int.cast_ofNat_Int, Int.reduceLT, Int.reduceLE, Int.reduceEq, Int.reduceNeg, reduceCtorEq, jup_ap, Nat.reduceEqDiff, Nat.reduceAdd]
    by_cases k : q = p ∧ r = (n : Int) + 1
    · rw [if_pos k, if_pos (by omega)]
    · rw [if_neg k, if_neg (by omega)]
      exact e3 q r q1 q2 r1 r2
  · simp only [true_and, and_true, true_or, or_true, or_false, false_or, false_and, and_false, not_true, not_false_iff, ne_eq, and_self, eq_self, if_true, if_false, ite_true, ite_false, Nat.reduceLeDiff, Int.cast_ofNat_Int, Int.reduceLT, Int.reduceLE, Int.reduceEq, Int.reduceNeg, reduceCtorEq, jup_ap, Nat.reduceEqDiff, Nat.reduceAdd]
    by_cases k : q = p
    · rw [if_pos k, if_pos k]
    · rw [if_neg k, if_neg k]
      exact e4 q q1 q2
  · simp only [true_and, and_true, true_or, or_true, or_false, false_or, false_and, and_false, not_true, not_false_iff, ne_eq, and_self, eq_self, if_true, if_false, ite_true, ite_false, Nat.reduceLeDiff, Int.cast_ofNat_Int, Int.reduceLT, Int.reduceLE, Int.reduceEq, Int.reduceNeg, reduceCtorEq, jup_ap, Nat.reduceEqDiff, Nat.reduceAdd]
