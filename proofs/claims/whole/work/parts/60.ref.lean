/-! THE REFERENCE: its rows are those of the class's cells c -/
def MB (c m : jM) (n : Nat) : Prop :=
  m 32 1 = (n : Int) ∧ (∀ r : Int, 1 ≤ r → r ≤ n → m 33 r = cellV c r 0 ∧ m 34 r = cellV c r 1 ∧ m 35 r = cellV c r 2 ∧ m 36 r = cellV c r 3 ∧ m 37 r = cellV c r 4 ∧ m 38 r = cellV c r 5 ∧ m 39 r = cellV c r 6) ∧
  (∀ p r : Int, 0 ≤ p → p < 4 → 0 ≤ r → r < 251 → m 40 (251 * p + r) = c (nc p + 1) r) ∧ ∀ p : Int, 0 ≤ p → p < 4 → m 41 p = c (nc p) 2
/-- nothing of the reference's rows has changed, nor of the class -/
def MK (m m' : jM) : Prop := (∀ b, b < 32 ∨ (33 ≤ b ∧ b ≤ 41) → ∀ j, m' b j = m b j) ∧ m' 32 1 = m 32 1
theorem MK.rf {m : jM} : MK m m := ⟨fun _ _ _ => rfl, rfl⟩
theorem MK.trans {m m1 m2 : jM} (h : MK m m1) (h' : MK m1 m2) : MK m m2 := ⟨fun b hb j => (h'.1 b hb j).trans (h.1 b hb j), h'.2.trans h.2⟩
theorem MK.up {m m1 : jM} (h : MK m m1) {a : Nat} (ha : 42 ≤ a) {i x : Int} : MK m (jup m1 a i x) := ⟨fun b hb j => by
  rw [jup_ap, if_neg (by omega)]
  exact h.1 b hb j, by
  rw [jup_ap, if_neg (by omega)]
  exact h.2⟩
theorem MK.upf {m m1 : jM} (h : MK m m1) {i x : Int} (hi : i ≠ 1) : MK m (jup m1 32 i x) := ⟨fun b hb j => by
  rw [jup_ap, if_neg (by omega)]
  exact h.1 b hb j, by
  rw [jup_ap, if_neg (by omega)]
  exact h.2⟩
theorem MB.mk {c m m' : jM} {n : Nat} (h : MB c m n) (hK : MK m m') : MB c m' n := by
  obtain ⟨h1, h2, h3, h4⟩ := h
  obtain ⟨k1, k2⟩ := hK
  refine ⟨by rw [k2]; exact h1, fun r a b => ?_, fun p r a b d e => ?_, fun p a b => ?_⟩
  · rw [k1 33 (by decide), k1 34 (by decide), k1 35 (by decide), k1 36 (by decide), k1 37 (by decide), k1 38 (by decide), k1 39 (by decide)]
    exact h2 r a b
  · rw [k1 40 (by decide)]
    exact h3 p r a b d e
  · rw [k1 41 (by decide)]
    exact h4 p a b
theorem MB.lo {c c' m : jM} {n : Nat} (h : MB c m n) (hF : ∀ b, b < 16 → ∀ j, c' b j = c b j) : MB c' m n := by
  obtain ⟨h1, h2, h3, h4⟩ := h
  refine ⟨h1, fun r a b => by rw [lo_cell hF]; exact h2 r a b, fun p r a b d e => ?_, fun p a b => ?_⟩
  · have := nc_lt ⟨a, b⟩
    rw [hF (nc p + 1) (by omega)]
    exact h3 p r a b d e
  · have := nc_lt ⟨a, b⟩
    rw [hF (nc p) (by omega)]
    exact h4 p a b
theorem jwS {k : Nat} (h : k < 1000000) : jwr ((k : Int) + 1) = ((k + 1 : Nat) : Int) := jw1 (by omega) (by omega)
theorem jwSS {k : Nat} (h : k < 1000000) : jwr ((k : Int) + 1 + 1) = ((k + 1 : Nat) : Int) + 1 := (jw1 (by omega) (by omega)).trans (by omega)
theorem w_M_within (x lo hi : Int) (g : jG) (m : jM) (Q : jV → jG → jM → Prop) : wp 34 0 [jI x, jI lo, jI hi] [] g m Q = Q (jI (b01 (lo ≤ x ∧ x ≤ hi))) g m := by
  simp only [x_M_within_0, x_M_within_1, x_M_within_2, x_M_within_5, x_M_within_6, x_M_within_7, x_M_within_10, x_M_within_11, x_M_within_14, x_M_within_15, true_and, and_true, true_or, or_true, or_false, false_or, false_and, and_false, not_true, not_false_iff, ne_eq, and_self, eq_self, if_true, if_false, ite_true, ite_false, Nat.reduceLeDiff, Int.cast_ofNat_Int, Int.reduceLT, Int.reduceLE, Int.reduceEq, Int.reduceNeg, reduceCtorEq, jup_ap, Nat.reduceEqDiff, Nat.reduceAdd]
  unfold b01
  by_cases h : lo ≤ x ∧ x ≤ hi
  · rw [if_neg (by omega), if_neg (by omega), if_pos h]
  · rw [if_neg h]
    by_cases h1 : x < lo
    · rw [if_pos h1]
    · rw [if_neg h1, if_pos (by omega)]
theorem b01_congr {p q : Prop} [Decidable p] [Decidable q] (h : p ↔ q) : b01 p = b01 q := by
  unfold b01
  by_cases hp : p
  · rw [if_pos hp, if_pos (h.mp hp)]
  · rw [if_neg hp, if_neg (fun w => hp (h.mpr w))]
theorem w_M_isNode (p : Int) (g : jG) (m : jM) (Q : jV → jG → jM → Prop) : wp 44 0 [jI p] [] g m Q = Q (jI (b01 (0 ≤ p ∧ p < 4))) g m := by
  simp only [x_M_isNode_0, x_M_isNode_1, x_M_isNode_2, x_M_isNode_3, x_M_isNode_6, w_M_within]
  rw [b01_congr (show (0 ≤ p ∧ p ≤ 3) ↔ (0 ≤ p ∧ p < 4) by omega), b01_b, true_and]
theorem w_M_isSign (x : Int) (g : jG) (m : jM) (Q : jV → jG → jM → Prop) : wp 46 0 [jI x] [] g m Q = Q (jI (b01 (x = 10 ∨ (32 ≤ x ∧ x ≤ 55295) ∨ (57344 ≤ x ∧ x ≤ 1114111)))) g m := by
  simp only [x_M_isSign_0, x_M_isSign_1, x_M_isSign_3, x_M_isSign_6, x_M_isSign_7, x_M_isSign_9, x_M_isSign_11, x_M_isSign_14, x_M_isSign_17, x_M_isSign_18, x_M_isSign_20, x_M_isSign_22, x_M_isSign_25, x_M_isSign_28, x_M_isSign_29, x_M_isSign_32, x_M_isSign_33, w_M_within, b01_0, true_and, and_true, true_or, or_true, or_false, false_or, false_and, and_false, not_true, not_false_iff, ne_eq, and_self, eq_self, if_true, if_false, ite_true, ite_false, Nat.reduceLeDiff, Int.cast_ofNat_Int, Int.reduceLT, Int.reduceLE, Int.reduceEq, Int.reduceNeg, reduceCtorEq, jup_ap, Nat.reduceEqDiff, Nat.reduceAdd]
  unfold b01
  by_cases h1 : x = 10
  · rw [if_pos h1, if_pos (Or.inl h1)]
  · rw [if_neg h1]
    by_cases h2 : 32 ≤ x ∧ x ≤ 55295
    · rw [if_pos (fun q => q h2), if_pos (Or.inr (Or.inl h2))]
    · rw [if_neg (fun q => q h2)]
      by_cases h3 : 57344 ≤ x ∧ x ≤ 1114111
      · rw [if_neg (fun q => q h3), if_pos (Or.inr (Or.inr h3))]
      · rw [if_pos h3, if_neg (by omega)]
theorem b2i_kb {c : jM} {n : Nat} (h : CI c n) {p r : Int} (hp : 0 ≤ p ∧ p < 4) (hr : 0 ≤ r ∧ r < 251) : c (nc p + 1) r = b2i (kb c (nc p) r) := by
  have h1 := (h.2.2.2.2.2.2.2.2.2 p hp.1 hp.2).1 r hr.1 hr.2
  unfold kb b2i
  rcases h1 with e | e
  · rw [e, if_neg (by simp)]
  · rw [e, if_pos (by simp; omega)]
theorem w_M_kr {c m : jM} {n : Nat} (h : CI c n) (hM : MB c m n) (L : Nat) {p r : Int} (hp : 0 ≤ p ∧ p < 4) (hr : 0 ≤ r ∧ r < 251) (Q : jV → jG → jM → Prop) : wp 35 0 [jO (some 32), jI p, jI r] [] (g0 L) m Q = Q (jI (b2i (kb c (nc p) r))) (g0 L) m := by
  have e1 : jwr (251 * p) = 251 * p := jw1 (by omega) (by omega)
  have e2 : jwr (251 * p + r) = 251 * p + r := jw1 (by omega) (by omega)
  have hb : 0 ≤ 251 * p + r ∧ 251 * p + r < 1004 := by omega
  simp only [x_M_knowsRow_0, x_M_knowsRow_1, x_M_knowsRow_4, x_M_knowsRow_7, x_M_knowsRow_8, x_M_knowsRow_9, x_M_knowsRow_10, x_M_knowsRow_11, x_M_knowsRow_12, e1, e2, hb, sk_0, sk_1, sk_2, sk_3, sk_4, sk_5, sk_6, sk_7, sk_8, sk_9, sk_10, sk_11, sk_12, sk_13, sk_14, sk_15, sk_16, sk_17, sk_18, sk_19, sk_20, sk_21, sk_22, sk_23, sk_24, sk_25, sk_26, sk_27, sk_28, sk_29, sk_30, sk_31, sk_32, sk_33, sk_34, sk_35, sk_36, sk_37, sk_38, sk_39, sk_40, sk_41, sk_42, sk_43, sk_44, sk_45, sk_46, sk_47, sk_48, sk_49, sk_50, sk_51, sk_52, sk_53, sn_0, sn_1, sn_2, sn_3, sn_4, sn_5, sn_6, sn_7, sn_8, sn_9, sn_10, sn_11, sn_12, sn_13, sn_14, sn_15, sn_16, sn_17, sn_18, sn_19, sn_20, sn_21, sn_22, sn_23, sn_24, sn_25, sn_26, sn_27, sn_28, sn_29, sn_30, sn_31, sn_32, sn_33, sn_34, sn_35, sn_36, sn_37, sn_38, sn_39, sn_40, sn_41, sn_42, sn_43, sn_44, sn_45, sn_46, sn_47, sn_48, sn_49, sn_50, sn_51, sn_52, sn_53, rf_2_1, rf_2_2, rf_2_3, rf_2_4, rf_1_0, rf_1_1, rf_8_0, rf_7_0, rf_10_0, rf_7_1, rf_12_0, rf_7_2, rf_14_0, rf_7_3, rf_16_1, rf_16_2, rf_16_3, rf_16_4, rf_16_5, rf_16_6, rf_16_7, rf_1_2, rf_24_1, rf_24_2, rf_24_3, rf_24_4, rf_24_5, rf_24_6, rf_24_7, rf_1_3, rf_32_2, rf_32_3, rf_32_4, rf_32_5, rf_32_6, rf_32_7, rf_32_8, rf_32_9, rf_32_10, rf_32_12, rf_32_14, rf_32_15, rf_32_16, rf_32_18, rf_32_19, rf_32_21, rf_32_25, rf_32_26, rf_32_27, rf_32_28, rf_32_30, true_and, and_true, true_or, or_true, or_false, false_or, false_and, and_false, not_true, not_false_iff, ne_eq, and_self, eq_self, if_true, if_false, ite_true, ite_false, Nat.reduceLeDiff, Int.cast_ofNat_Int, Int.reduceLT, Int.reduceLE, Int.reduceEq, Int.reduceNeg, reduceCtorEq, jup_ap, Nat.reduceEqDiff, Nat.reduceAdd]
  rw [hM.2.2.1 p r hp.1 hp.2 hr.1 hr.2, b2i_kb h hp hr, jand_t (b2i_01 _)]
theorem w_M_bf {c m : jM} {n : Nat} (h : CI c n) (hM : MB c m n) (L : Nat) {r t : Int} (hr : 1 ≤ r ∧ r ≤ n) (ht : 1 ≤ t ∧ t ≤ n) (Q : jV → jG → jM → Prop) : wp 36 0 [jO (some 32), jI r, jI t] [] (g0 L) m Q = Q (jI (b01 (key c r < key c t))) (g0 L) m := by
  have h2 := h.2.1
  have a1 := hM.2.1 r hr.1 hr.2
  have a2 := hM.2.1 t ht.1 ht.2
  have b1 := (h.2.2.1 r hr.1 hr.2).2.1
  have b2 := (h.2.2.1 t ht.1 ht.2).2.1
  have hb : 0 ≤ r ∧ r < 251 := by omega
  have hb2 : 0 ≤ t ∧ t < 251 := by omega
  simp only [x_M_isBefore_0, x_M_isBefore_1, x_M_isBefore_4, x_M_isBefore_5, x_M_isBefore_6, x_M_isBefore_7, x_M_isBefore_10, x_M_isBefore_11, x_M_isBefore_12, x_M_isBefore_15, x_M_isBefore_16, x_M_isBefore_19, x_M_isBefore_20, x_M_isBefore_21, x_M_isBefore_22, x_M_isBefore_25, x_M_isBefore_26, x_M_isBefore_27, x_M_isBefore_30, x_M_isBefore_31, x_M_isBefore_34, x_M_isBefore_35, x_M_isBefore_38, x_M_isBefore_39, x_M_isBefore_42, x_M_isBefore_43, x_M_isBefore_44, x_M_isBefore_45, x_M_isBefore_48, x_M_isBefore_49, x_M_isBefore_50, x_M_isBefore_53, x_M_isBefore_54, x_M_isBefore_57, x_M_isBefore_58, hb, hb2, a1.2.1, a1.2.2.1, a2.2.1, a2.2.2.1, sk_0, sk_1, sk_2, sk_3, sk_4, sk_5, sk_6, sk_7, sk_8, sk_9, sk_10, sk_11, sk_12, sk_13, sk_14, sk_15, sk_16, sk_17, sk_18, sk_19, sk_20, sk_21, sk_22, sk_23, sk_24, sk_25, sk_26, sk_27, sk_28, sk_29, sk_30, sk_31, sk_32, sk_33, sk_34, sk_35, sk_36, sk_37, sk_38, sk_39, sk_40, sk_41, sk_42, sk_43, sk_44, sk_45, sk_46, sk_47, sk_48, sk_49, sk_50, sk_51, sk_52, sk_53, sn_0, sn_1, sn_2, sn_3, sn_4, sn_5, sn_6, sn_7, sn_8, sn_9, sn_10, sn_11, sn_12, sn_13, sn_14, sn_15, sn_16, sn_17, sn_18, sn_19, sn_20, sn_21, sn_22, sn_23, sn_24, sn_25, sn_26, sn_27, sn_28, sn_29, sn_30, sn_31, sn_32, sn_33, sn_34, sn_35, sn_36, sn_37, sn_38, sn_39, sn_40, sn_41, sn_42, sn_43, sn_44, sn_45, sn_46, sn_47, sn_48, sn_49, sn_50, sn_51, sn_52, sn_53, rf_2_1, rf_2_2, rf_2_3, rf_2_4, rf_1_0, rf_1_1, rf_8_0, rf_7_0, rf_10_0, rf_7_1, rf_12_0, rf_7_2, rf_14_0, rf_7_3, rf_16_1, rf_16_2, rf_16_3, rf_16_4, rf_16_5, rf_16_6, rf_16_7, rf_1_2, rf_24_1, rf_24_2, rf_24_3, rf_24_4, rf_24_5, rf_24_6, rf_24_7, rf_1_3, rf_32_2, rf_32_3, rf_32_4, rf_32_5, rf_32_6, rf_32_7, rf_32_8, rf_32_9, rf_32_10, rf_32_12, rf_32_14, rf_32_15, rf_32_16, rf_32_18, rf_32_19, rf_32_21, rf_32_25, rf_32_26, rf_32_27, rf_32_28, rf_32_30, true_and, and_true, true_or, or_true, or_false, false_or, false_and, and_false, not_true, not_false_iff, ne_eq, and_self, eq_self, if_true, if_false, ite_true, ite_false, Nat.reduceLeDiff, Int.cast_ofNat_Int, Int.reduceLT, Int.reduceLE, Int.reduceEq, Int.reduceNeg, reduceCtorEq, jup_ap, Nat.reduceEqDiff, Nat.reduceAdd]
  unfold b01 key
  by_cases e : cellV c r 2 = cellV c t 2
  · rw [if_pos e]
    by_cases e2 : cellV c t 1 ≤ cellV c r 1
    · rw [if_pos e2, if_neg (by omega)]
    · rw [if_neg e2, if_pos (by omega)]
  · rw [if_neg e]
    by_cases e2 : cellV c t 2 ≤ cellV c r 2
    · rw [if_pos e2, if_neg (by omega)]
    · rw [if_neg e2, if_pos (by omega)]
/-- what judge has come to, the undos ahead of u done -/
def jdg (c : jM) (a : Nat) (u r : Int) : Bool := kb c a r && !(kb c a (undoV c r) && decide (undoV c r < u))
theorem wl_M_j0 {c m : jM} {n : Nat} (h : CI c n) (hM : MB c m n) (L : Nat) {p : Int} (hp : 0 ≤ p ∧ p < 4) (Q : jV → jG → jM → Prop)
    (hQ : ∀ m', Fr m m' [42] → (∀ r : Int, 1 ≤ r → r ≤ n → m' 42 r = b2i (kb c (nc p) r)) → wp 37 28 [jO (some 32), jI p, jI ((n : Int) + 1)] [] (g0 L) m' Q) :
    ∀ (d : Nat) (i : Int) (m1 : jM), 1 ≤ i → i + d = (n : Int) + 1 → Fr m m1 [42] → (∀ r : Int, 1 ≤ r → r < i → m1 42 r = b2i (kb c (nc p) r)) → wp 37 2 [jO (some 32), jI p, jI i] [] (g0 L) m1 Q := by
  have h2 := h.2.1
  have h1 := hM.1
  intro d
  induction d with
  | zero =>
    intro i m1 i1 i2 hF hI
    have : i = (n : Int) + 1 := by omega
    subst this
    have e0 : m1 32 1 = (n : Int) := by rw [hF 32 (by simp)]; exact h1
    have hlt : (n : Int) < (n : Int) + 1 := by omega
    rw [x_M_judge_2]
    simp only [x_M_judge_3, x_M_judge_4, x_M_judge_7, e0, hlt, sk_0, sk_1, sk_2, sk_3, sk_4, sk_5, sk_6, sk_7, sk_8, sk_9, sk_10, sk_11, sk_12, sk_13, sk_14, sk_15, sk_16, sk_17, sk_18, sk_19, sk_20, sk_21, sk_22, sk_23, sk_24, sk_25, sk_26, sk_27, sk_28, sk_29, sk_30, sk_31, sk_32, sk_33, sk_34, sk_35, sk_36, sk_37, sk_38, sk_39, sk_40, sk_41, sk_42, sk_43, sk_44, sk_45, sk_46, sk_47, sk_48, sk_49, sk_50, sk_51, sk_52, sk_53, sn_0, sn_1, sn_2, sn_3, sn_4, sn_5, sn_6, sn_7, sn_8, sn_9, sn_10, sn_11, sn_12, sn_13, sn_14, sn_15, sn_16, sn_17, sn_18, sn_19, sn_20, sn_21, sn_22, sn_23, sn_24, sn_25, sn_26, sn_27, sn_28, sn_29, sn_30, sn_31, sn_32, sn_33, sn_34, sn_35, sn_36, sn_37, sn_38, sn_39, sn_40, sn_41, sn_42, sn_43, sn_44, sn_45, sn_46, sn_47, sn_48, sn_49, sn_50, sn_51, sn_52, sn_53, rf_2_1, rf_2_2, rf_2_3, rf_2_4, rf_1_0, rf_1_1, rf_8_0, rf_7_0, rf_10_0, rf_7_1, rf_12_0, rf_7_2, rf_14_0, rf_7_3, rf_16_1, rf_16_2, rf_16_3, rf_16_4, rf_16_5, rf_16_6, rf_16_7, rf_1_2, rf_24_1, rf_24_2, rf_24_3, rf_24_4, rf_24_5, rf_24_6, rf_24_7, rf_1_3, rf_32_2, rf_32_3, rf_32_4, rf_32_5, rf_32_6, rf_32_7, rf_32_8, rf_32_9, rf_32_10, rf_32_12, rf_32_14, rf_32_15, rf_32_16, rf_32_18, rf_32_19, rf_32_21, rf_32_25, rf_32_26, rf_32_27, rf_32_28, rf_32_30, true_and, and_true, true_or, or_true, or_false, false_or, false_and, and_false, not_true, not_false_iff, ne_eq, and_self, eq_self, if_true, if_false, ite_true, ite_false, Nat.reduceLeDiff, Int.cast_ofNat_Int, Int.reduceLT, Int.reduceLE, Int.reduceEq, Int.reduceNeg, reduceCtorEq, jup_ap, Nat.reduceEqDiff, Nat.reduceAdd]
    exact hQ m1 hF (fun r a b => hI r a (by omega))
  | succ d ih =>
    intro i m1 i1 i2 hF hI
    have e0 : m1 32 1 = (n : Int) := by rw [hF 32 (by simp)]; exact h1
    have hn : ¬ (n : Int) < i := by omega
    have hb : 0 ≤ i ∧ i < 251 := by omega
    have hM1 : MB c m1 n := hM.mk ⟨fun b hb j => hF b (by simp; omega) j, hF 32 (by simp) 1⟩
    have e1 : jwr (i + 1) = i + 1 := jw1 (by omega) (by omega)
    rw [x_M_judge_2]
    simp only [x_M_judge_3, x_M_judge_4, x_M_judge_7, x_M_judge_10, x_M_judge_11, x_M_judge_14, x_M_judge_15, x_M_judge_16, x_M_judge_17, x_M_judge_18, x_M_judge_21, x_M_judge_22, x_M_judge_25, w_M_kr h hM1 L hp hb, b2i_01, e0, e1, hn, hb, sk_0, sk_1, sk_2, sk_3, sk_4, sk_5, sk_6, sk_7, sk_8, sk_9, sk_10, sk_11, sk_12, sk_13, sk_14, sk_15, sk_16, sk_17, sk_18, sk_19, sk_20, sk_21, sk_22, sk_23, sk_24, sk_25, sk_26, sk_27, sk_28, sk_29, sk_30, sk_31, sk_32, sk_33, sk_34, sk_35, sk_36, sk_37, sk_38, sk_39, sk_40, sk_41, sk_42, sk_43, sk_44, sk_45, sk_46, sk_47, sk_48, sk_49, sk_50, sk_51, sk_52, sk_53, sn_0, sn_1, sn_2, sn_3, sn_4, sn_5, sn_6, sn_7, sn_8, sn_9, sn_10, sn_11, sn_12, sn_13, sn_14, sn_15, sn_16, sn_17, sn_18, sn_19, sn_20, sn_21, sn_22, sn_23, sn_24, sn_25, sn_26, sn_27, sn_28, sn_29, sn_30, sn_31, sn_32, sn_33, sn_34, sn_35, sn_36, sn_37, sn_38, sn_39, sn_40, sn_41, sn_42, sn_43, sn_44, sn_45, sn_46, sn_47, sn_48, sn_49, sn_50, sn_51, sn_52, sn_53, rf_2_1, rf_2_2, rf_2_3, rf_2_4, rf_1_0, rf_1_1, rf_8_0, rf_7_0, rf_10_0, rf_7_1, rf_12_0, rf_7_2, rf_14_0, rf_7_3, rf_16_1, rf_16_2, rf_16_3, rf_16_4, rf_16_5, rf_16_6, rf_16_7, rf_1_2, rf_24_1, rf_24_2, rf_24_3, rf_24_4, rf_24_5, rf_24_6, rf_24_7, rf_1_3, rf_32_2, rf_32_3, rf_32_4, rf_32_5, rf_32_6, rf_32_7, rf_32_8, rf_32_9, rf_32_10, rf_32_12, rf_32_14, rf_32_15, rf_32_16, rf_32_18, rf_32_19, rf_32_21, rf_32_25, rf_32_26, rf_32_27, rf_32_28, rf_32_30, true_and, and_true, true_or, or_true, or_false, false_or, false_and, and_false, not_true, not_false_iff, ne_eq, and_self, eq_self, if_true, if_false, ite_true, ite_false, Nat.reduceLeDiff, Int.cast_ofNat_Int, Int.reduceLT, Int.reduceLE, Int.reduceEq, Int.reduceNeg, reduceCtorEq, jup_ap, Nat.reduceEqDiff, Nat.reduceAdd]
    refine ih (i + 1) _ (by omega) (by omega) (hF.up (by simp)) (fun r a b => ?_)
    rw [jup_ap]
    by_cases e : r = i
    · rw [if_pos ⟨rfl, e⟩, e]
    · rw [if_neg (fun q => e q.2)]
      exact hI r a (by omega)
theorem undo_of {c : jM} {n : Nat} (h : CI c n) {u r : Int} (hu : 1 ≤ u ∧ u ≤ n) (h5 : cellV c u 0 = 5) (hr : cellV c u 5 = r) : undoV c r = u := by
  have h6 := (h.2.2.1 u hu.1 hu.2).2.2.2.2.2.2.2.2 h5
  have hb : 1 ≤ r ∧ r ≤ n := by omega
  have h8 := h.2.2.2.2.2.2.2.1 r hb.1 hb.2
  unfold undoV
  rw [h.1, if_pos hb]
  rcases h8 with q | q
  · exact absurd hr (q.2 u hu.1 hu.2 h5)
  · exact (q.2.2.2 u hu.1 hu.2 h5 hr).symm
theorem undo_at {c : jM} {n : Nat} (h : CI c n) {r : Int} : undoV c r = 0 ∨ ((1 ≤ undoV c r ∧ undoV c r ≤ n) ∧ cellV c (undoV c r) 0 = 5 ∧ cellV c (undoV c r) 5 = r) := by
  by_cases hb : 1 ≤ r ∧ r ≤ (n : Int)
  · have h8 := h.2.2.2.2.2.2.2.1 r hb.1 hb.2
    have e : undoV c r = c 4 r := by
      unfold undoV
      rw [h.1, if_pos hb]
    rw [e]
    rcases h8 with q | q
    · exact Or.inl q.1
    · exact Or.inr ⟨q.1, q.2.1, q.2.2.1⟩
  · left
    unfold undoV
    rw [h.1, if_neg hb]
theorem kb_0 {c : jM} {n : Nat} (h : CI c n) {p : Int} (hp : 0 ≤ p ∧ p < 4) : kb c (nc p) 0 = false := kb_false ((h.2.2.2.2.2.2.2.2.2 p hp.1 hp.2).2.1 0 (by omega) (by omega) (by omega))
theorem wl_M_j1 {c m : jM} {n : Nat} (h : CI c n) (hM : MB c m n) (L : Nat) {p : Int} (hp : 0 ≤ p ∧ p < 4) (Q : jV → jG → jM → Prop)
    (hQ : ∀ m', Fr m m' [42] → (∀ r : Int, 1 ≤ r → r ≤ n → m' 42 r = b2i (gd c (nc p) r)) → Q jU (g0 L) m') :
    ∀ (d : Nat) (i : Int) (m1 : jM), 1 ≤ i → i + d = (n : Int) + 1 → Fr m m1 [42] → (∀ r : Int, 1 ≤ r → r ≤ n → m1 42 r = b2i (jdg c (nc p) i r)) → wp 37 30 [jO (some 32), jI p, jI i] [] (g0 L) m1 Q := by
  have h2 := h.2.1
  have h1 := hM.1
  intro d
  induction d with
  | zero =>
    intro i m1 i1 i2 hF hI
    have : i = (n : Int) + 1 := by omega
    subst this
    have e0 : m1 32 1 = (n : Int) := by rw [hF 32 (by simp)]; exact h1
    have hlt : (n : Int) < (n : Int) + 1 := by omega
    rw [x_M_judge_30]
    simp only [x_M_judge_31, x_M_judge_32, x_M_judge_35, x_M_judge_75, e0, hlt, sk_0, sk_1, sk_2, sk_3, sk_4, sk_5, sk_6, sk_7, sk_8, sk_9, sk_10, sk_11, sk_12, sk_13, sk_14, sk_15, sk_16, sk_17, sk_18, sk_19, sk_20, sk_21, sk_22, sk_23, sk_24, sk_25, sk_26, sk_27, sk_28, sk_29, sk_30, sk_31, sk_32, sk_33, sk_34, sk_35, sk_36, sk_37, sk_38, sk_39, sk_40, sk_41, sk_42, sk_43, sk_44, sk_45, sk_46, sk_47, sk_48, sk_49, sk_50, sk_51, sk_52, sk_53, sn_0, sn_1, sn_2, sn_3, sn_4, sn_5, sn_6, sn_7, sn_8, sn_9, sn_10, sn_11, sn_12, sn_13, sn_14, sn_15, sn_16, sn_17, sn_18, sn_19, sn_20, sn_21, sn_22, sn_23, sn_24, sn_25, sn_26, sn_27, sn_28, sn_29, sn_30, sn_31, sn_32, sn_33, sn_34, sn_35, sn_36, sn_37, sn_38, sn_39, sn_40, sn_41, sn_42, sn_43, sn_44, sn_45, sn_46, sn_47, sn_48, sn_49, sn_50, sn_51, sn_52, sn_53, rf_2_1, rf_2_2, rf_2_3, rf_2_4, rf_1_0, rf_1_1, rf_8_0, rf_7_0, rf_10_0, rf_7_1, rf_12_0, rf_7_2, rf_14_0, rf_7_3, rf_16_1, rf_16_2, rf_16_3, rf_16_4, rf_16_5, rf_16_6, rf_16_7, rf_1_2, rf_24_1, rf_24_2, rf_24_3, rf_24_4, rf_24_5, rf_24_6, rf_24_7, rf_1_3, rf_32_2, rf_32_3, rf_32_4, rf_32_5, rf_32_6, rf_32_7, rf_32_8, rf_32_9, rf_32_10, rf_32_12, rf_32_14, rf_32_15, rf_32_16, rf_32_18, rf_32_19, rf_32_21, rf_32_25, rf_32_26, rf_32_27, rf_32_28, rf_32_30, true_and, and_true, true_or, or_true, or_false, false_or, false_and, and_false, not_true, not_false_iff, ne_eq, and_self, eq_self, if_true, if_false, ite_true, ite_false, Nat.reduceLeDiff, Int.cast_ofNat_Int, Int.reduceLT, Int.reduceLE, Int.reduceEq, Int.reduceNeg, reduceCtorEq, jup_ap, Nat.reduceEqDiff, Nat.reduceAdd]
    refine hQ m1 hF (fun r a b => ?_)
    rw [hI r a b]
    congr 1
    unfold jdg gd
    rcases undo_at h (r := r) with q | q
    · rw [q, kb_0 h hp]
      simp
    · rw [decide_eq_true (show undoV c r < (n : Int) + 1 by omega)]
      simp
  | succ d ih =>
    intro i m1 i1 i2 hF hI
    have e0 : m1 32 1 = (n : Int) := by rw [hF 32 (by simp)]; exact h1
    have hn : ¬ (n : Int) < i := by omega
    have hb : 0 ≤ i ∧ i < 251 := by omega
    have hM1 : MB c m1 n := hM.mk ⟨fun b hb j => hF b (by simp; omega) j, hF 32 (by simp) 1⟩
    have e1 : jwr (i + 1) = i + 1 := jw1 (by omega) (by omega)
    have hrow := hM1.2.1 i i1 (by omega)
    have skip : ¬ (cellV c i 0 = 5 ∧ kb c (nc p) i = true) → wp 37 30 [jO (some 32), jI p, jI (i + 1)] [] (g0 L) m1 Q := fun hno => by
      refine ih (i + 1) m1 (by omega) (by omega) hF (fun r a b => ?_)
      rw [hI r a b]
      congr 1
      unfold jdg
      by_cases e : undoV c r = i
      · have hk : kb c (nc p) i = false := by
          rcases undo_at h (r := r) with q | q
          · omega
          · cases hk : kb c (nc p) i
            · rfl
            · exact absurd ⟨by rw [← e]; exact q.2.1, hk⟩ hno
        rw [e, hk]
        simp
      · rw [show decide (undoV c r < i + 1) = decide (undoV c r < i) by
          by_cases q : undoV c r < i
          · rw [decide_eq_true q, decide_eq_true (by omega)]
          · rw [decide_eq_false q, decide_eq_false (by omega)]]
    rw [x_M_judge_30]
    simp only [x_M_judge_0, x_M_judge_1, x_M_judge_3, x_M_judge_4, x_M_judge_7, x_M_judge_10, x_M_judge_11, x_M_judge_14, x_M_judge_15, x_M_judge_16, x_M_judge_17, x_M_judge_18, x_M_judge_21, x_M_judge_22, x_M_judge_25, x_M_judge_28, x_M_judge_29, x_M_judge_31, x_M_judge_32, x_M_judge_35, x_M_judge_38, x_M_judge_39, x_M_judge_42, x_M_judge_43, x_M_judge_44, x_M_judge_45, x_M_judge_48, x_M_judge_49, x_M_judge_50, x_M_judge_51, x_M_judge_54, x_M_judge_57, x_M_judge_58, x_M_judge_61, x_M_judge_62, x_M_judge_65, x_M_judge_66, x_M_judge_67, x_M_judge_68, x_M_judge_69, x_M_judge_72, x_M_judge_75, w_M_kr h hM1 L hp hb, hrow.1, hrow.2.2.2.2.2.1, b2i_0, e0, e1, hn, hb, sk_0, sk_1, sk_2, sk_3, sk_4, sk_5, sk_6, sk_7, sk_8, sk_9, sk_10, sk_11, sk_12, sk_13, sk_14, sk_15, sk_16, sk_17, sk_18, sk_19, sk_20, sk_21, sk_22, sk_23, sk_24, sk_25, sk_26, sk_27, sk_28, sk_29, sk_30, sk_31, sk_32, sk_33, sk_34, sk_35, sk_36, sk_37, sk_38, sk_39, sk_40, sk_41, sk_42, sk_43, sk_44, sk_45, sk_46, sk_47, sk_48, sk_49, sk_50, sk_51, sk_52, sk_53, sn_0, sn_1, sn_2, sn_3, sn_4, sn_5, sn_6, sn_7, sn_8, sn_9, sn_10, sn_11, sn_12, sn_13, sn_14, sn_15, sn_16, sn_17, sn_18, sn_19, sn_20, sn_21, sn_22, sn_23, sn_24, sn_25, sn_26, sn_27, sn_28, sn_29, sn_30, sn_31, sn_32, sn_33, sn_34, sn_35, sn_36, sn_37, sn_38, sn_39, sn_40, sn_41, sn_42, sn_43, sn_44, sn_45, sn_46, sn_47, sn_48, sn_49, sn_50, sn_51, sn_52, sn_53, rf_2_1, rf_2_2, rf_2_3, rf_2_4, rf_1_0, rf_1_1, rf_8_0, rf_7_0, rf_10_0, rf_7_1, rf_12_0, rf_7_2, rf_14_0, rf_7_3, rf_16_1, rf_16_2, rf_16_3, rf_16_4, rf_16_5, rf_16_6, rf_16_7, rf_1_2, rf_24_1, rf_24_2, rf_24_3, rf_24_4, rf_24_5, rf_24_6, rf_24_7, rf_1_3, rf_32_2, rf_32_3, rf_32_4, rf_32_5, rf_32_6, rf_32_7, rf_32_8, rf_32_9, rf_32_10, rf_32_12, rf_32_14, rf_32_15, rf_32_16, rf_32_18, rf_32_19, rf_32_21, rf_32_25, rf_32_26, rf_32_27, rf_32_28, rf_32_30, true_and, and_true, true_or, or_true, or_false, false_or, false_and, and_false, not_true, not_false_iff, ne_eq, and_self, eq_self, if_true, if_false, ite_true, ite_false, Nat.reduceLeDiff, Int.cast_ofNat_Int, Int.reduceLT, Int.reduceLE, Int.reduceEq, Int.reduceNeg, reduceCtorEq, jup_ap, Nat.reduceEqDiff, Nat.reduceAdd]
    by_cases h5 : cellV c i 0 = 5
    · rw [if_neg (fun q => q h5)]
      cases hk : kb c (nc p) i
      · simp only [true_and, and_true, true_or, or_true, or_false, false_or, false_and, and_false, not_true, not_false_iff, ne_eq, and_self, eq_self, if_true, if_false, ite_true, ite_false, Nat.reduceLeDiff, Int.cast_ofNat_Int, Int.reduceLT, Int.reduceLE, Int.reduceEq, Int.reduceNeg, reduceCtorEq, jup_ap, Nat.reduceEqDiff, Nat.reduceAdd]
        exact skip (fun q => by rw [hk] at q; cases q.2)
      · simp only [true_and, and_true, true_or, or_true, or_false, false_or, false_and, and_false, not_true, not_false_iff, ne_eq, and_self, eq_self, if_true, if_false, ite_true, ite_false, Nat.reduceLeDiff, Int.cast_ofNat_Int, Int.reduceLT, Int.reduceLE, Int.reduceEq, Int.reduceNeg, reduceCtorEq, jup_ap, Nat.reduceEqDiff, Nat.reduceAdd, Bool.true_eq_false]
        have h6 := (h.2.2.1 i i1 (by omega)).2.2.2.2.2.2.2.2 h5
        have hbb : 0 ≤ cellV c i 5 ∧ cellV c i 5 < 251 := by omega
        have hu := undo_of h ⟨i1, by omega⟩ h5 rfl
        simp only [hbb, true_and, and_true, true_or, or_true, or_false, false_or, false_and, and_false, not_true, not_false_iff, ne_eq, and_self, eq_self, if_true, if_false, ite_true, ite_false, Nat.reduceLeDiff, Int.cast_ofNat_Int, Int.reduceLT, Int.reduceLE, Int.reduceEq, Int.reduceNeg, reduceCtorEq, jup_ap, Nat.reduceEqDiff, Nat.reduceAdd]
        refine ih (i + 1) _ (by omega) (by omega) (hF.up (by simp)) (fun r a b => ?_)
        rw [jup_ap]
        by_cases e : r = cellV c i 5
        · rw [if_pos ⟨rfl, e⟩]
          unfold jdg
          rw [e, hu, hk, decide_eq_true (by omega)]
          simp [b2i]
        · rw [if_neg (fun q => e q.2), hI r a b]
          congr 1
          unfold jdg
          have hne : undoV c r ≠ i := fun q => by
            rcases undo_at h (r := r) with w | w
            · omega
            · rw [q] at w
              exact e w.2.2.symm
          rw [show decide (undoV c r < i + 1) = decide (undoV c r < i) by
            by_cases q : undoV c r < i
            · rw [decide_eq_true q, decide_eq_true (by omega)]
            · rw [decide_eq_false q, decide_eq_false (by omega)]]
    · rw [if_pos h5]
      exact skip (fun q => h5 q.1)
theorem w_M_judge {c m : jM} {n : Nat} (h : CI c n) (hM : MB c m n) (L : Nat) {p : Int} (hp : 0 ≤ p ∧ p < 4) (Q : jV → jG → jM → Prop)
    (hQ : ∀ m', Fr m m' [42] → (∀ r : Int, 1 ≤ r → r ≤ n → m' 42 r = b2i (gd c (nc p) r)) → Q jU (g0 L) m') : wp 37 0 [jO (some 32), jI p, jU] [] (g0 L) m Q := by
  simp only [x_M_judge_0, x_M_judge_1]
  refine wl_M_j0 h hM L hp Q (fun m1 hF h0 => ?_) n 1 m (by omega) (by omega) Fr.rf (fun r a b => by omega)
  simp only [x_M_judge_28, x_M_judge_29]
  have hM1 : MB c m1 n := hM.mk ⟨fun b hb j => hF b (by simp; omega) j, hF 32 (by simp) 1⟩
  refine wl_M_j1 h hM1 L hp Q (fun m' hF' hg => hQ m' (hF.trans hF') hg) n 1 m1 (by omega) (by omega) Fr.rf (fun r a b => ?_)
  rw [h0 r a b]
  congr 1
  unfold jdg
  rcases undo_at h (r := r) with q | q
  · rw [q, kb_0 h hp]
    simp
  · rw [decide_eq_false (show ¬ undoV c r < 1 by omega)]
    simp
