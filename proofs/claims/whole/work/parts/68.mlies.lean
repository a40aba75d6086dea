theorem w_M_lying {c m : jM} {n : Nat} {p : Int} {N s : Nat} (h : CI c n) (hM : MB c m n) (hp : 0 ≤ p ∧ p < 4) (hP : PlP c m n p N s) (L : Nat) {r : Int} (h3 : cellV c r 0 = 3) (hg : gd c (nc p) r = true) (side : Int) (Q : jV → jG → jM → Prop) :
    wp 67 0 [jO (some 32), jI r, jI side, jU, jU] [] (g0 L) m Q = Q (jI (if side = 0 then lyF c (nc p) r else lyT c (nc p) r)) (g0 L) m := by
  have hn := h.2.1
  have hNn := hP.2.1
  obtain ⟨hr, m5, m6⟩ := com_ins h h3
  have hk : kb c (nc p) r = true := by
    unfold gd at hg
    rw [Bool.and_eq_true] at hg
    exact hg.1
  have hno := (h.2.2.2.2.2.2.2.2.2 p hp.1 hp.2).2.2.1 r hr.1 hr.2 hk
  have hrow := hM.2.1 r hr.1 hr.2
  have q5 := h.plm.mp m5
  have q6 := h.plm.mp m6
  have hf : cellV c r 5 ∈ KLm c (nc p) := List.mem_filter.mpr ⟨m5, hno.1 (by omega)⟩
  have hz : cellV c r 6 ∈ KLm c (nc p) := List.mem_filter.mpr ⟨m6, hno.2.1 (by omega)⟩
  obtain ⟨f, f1, f2, f3, f4, f5⟩ := hP.at h hf
  obtain ⟨z, z1, z2, z3, z4, z5⟩ := hP.at h hz
  have hrb : 0 ≤ r ∧ r < 251 := by omega
  have b5 : 0 ≤ cellV c r 5 ∧ cellV c r 5 < 251 := by omega
  have b6 : 0 ≤ cellV c r 6 ∧ cellV c r 6 < 251 := by omega
  have bf : (0 : Int) ≤ (f : Int) ∧ (f : Int) < 252 := by omega
  have bz : (0 : Int) ≤ ((z + 1 : Nat) : Int) ∧ ((z + 1 : Nat) : Int) < 252 := by omega
  have l1 : z < 1000000 := by omega
  have ef : m 45 (f : Int) = lyF c (nc p) r := by
    rw [hP.2.2.2.2.2.1 f (by omega), ← f4]
    rfl
  have ez : m 45 ((z + 1 : Nat) : Int) = abF c (nc p) (cellV c r 6) := by rw [hP.2.2.2.2.2.1 (z + 1) (by omega), ← z5]
  simp only [x_M_lying_0, x_M_lying_1, x_M_lying_4, x_M_lying_5, x_M_lying_8, x_M_lying_9, x_M_lying_12, x_M_lying_13, x_M_lying_14, x_M_lying_15, x_M_lying_16, x_M_lying_17, x_M_lying_18, x_M_lying_21, x_M_lying_22, x_M_lying_25, x_M_lying_26, x_M_lying_29, x_M_lying_30, x_M_lying_31, x_M_lying_32, x_M_lying_33, x_M_lying_34, x_M_lying_35, x_M_lying_37, x_M_lying_38, x_M_lying_41, x_M_lying_43, x_M_lying_44, x_M_lying_47, x_M_lying_48, x_M_lying_51, x_M_lying_53, hrb, hrow.2.2.2.2.2.1, hrow.2.2.2.2.2.2, b5, b6, f3, z3, jwS l1, bf, bz, ef, ez, sk_0, sk_1, sk_2, sk_3, sk_4, sk_5, sk_6, sk_7, sk_8, sk_9, sk_10, sk_11, sk_12, sk_13, sk_14, sk_15, sk_16, sk_17, sk_18, sk_19, sk_20, sk_21, sk_22, sk_23, sk_24, sk_25, sk_26, sk_27, sk_28, sk_29, sk_30, sk_31, sk_32, sk_33, sk_34, sk_35, sk_36, sk_37, sk_38, sk_39, sk_40, sk_41, sk_42, sk_43, sk_44, sk_45, sk_46, sk_47, sk_48, sk_49, sk_50, sk_51, sk_52, sk_53, sn_0, sn_1, sn_2, sn_3, sn_4, sn_5, sn_6, sn_7, sn_8, sn_9, sn_10, sn_11, sn_12, sn_13, sn_14, sn_15, sn_16, sn_17, sn_18, sn_19, sn_20, sn_21, sn_22, sn_23, sn_24, sn_25, sn_26, sn_27, sn_28, sn_29, sn_30, sn_31, sn_32, sn_33, sn_34, sn_35, sn_36, sn_37, sn_38, sn_39, sn_40, sn_41, sn_42, sn_43, sn_44, sn_45, sn_46, sn_47, sn_48, sn_49, sn_50, sn_51, sn_52, sn_53, rf_2_1, rf_2_2, rf_2_3, rf_2_4, rf_1_0, rf_1_1, rf_8_0, rf_7_0, rf_10_0, rf_7_1, rf_12_0, rf_7_2, rf_14_0, rf_7_3, rf_16_1, rf_16_2, rf_16_3, rf_16_4, rf_16_5, rf_16_6, rf_16_7, rf_1_2, rf_24_1, rf_24_2, rf_24_3, rf_24_4, rf_24_5, rf_24_6, rf_24_7, rf_1_3, rf_32_2, rf_32_3, rf_32_4, rf_32_5, rf_32_6, rf_32_7, rf_32_8, rf_32_9, rf_32_10, rf_32_12, rf_32_14, rf_32_15, rf_32_16, rf_32_18, rf_32_19, rf_32_21, rf_32_25, rf_32_26, rf_32_27, rf_32_28, rf_32_30, true_and, and_true, true_or, or_true, or_false, false_or, false_and, and_false, not_true, not_false_iff, ne_eq, and_self, eq_self, if_true, if_false, ite_true, ite_false, Nat.reduceLeDiff, Int.cast_ofNat_Int, Int.reduceLT, Int.reduceLE, Int.reduceEq, Int.reduceNeg, reduceCtorEq, jup_ap, Nat.reduceEqDiff, Nat.reduceAdd]
  unfold lyT
  by_cases e : side = 0
  · rw [if_pos e, if_pos e]
  · rw [if_neg e, if_neg e]
    by_cases q : lyF c (nc p) r ≤ abF c (nc p) (cellV c r 6)
    · rw [if_pos q]
      by_cases q2 : lyF c (nc p) r < abF c (nc p) (cellV c r 6)
      · rw [if_pos q2]
      · rw [if_neg q2, show abF c (nc p) (cellV c r 6) = lyF c (nc p) r by omega]
    · rw [if_neg q, if_neg (by omega)]
theorem w_M_lies {c m : jM} {n : Nat} (h : CI c n) (hI : MI c m n) (L : Nat) (p r side : Int) (Q : jV → jG → jM → Prop) (h0 : ¬ okLy c p r side → ∀ m', MK m m' → MI c m' n → Q (jI (-1)) (g0 L) m')
    (hQ : okLy c p r side → ∀ m', MK m m' → MI c m' n → Q (jI (if side = 0 then lyF c (nc p) r else lyT c (nc p) r)) (g0 L) m') : wp 66 0 [jO (some 32), jI p, jI r, jI side] [] (g0 L) m Q := by
  have hn := h.2.1
  have hK0 : MK m (jup m 32 0 0) := MK.rf.upf (by decide)
  have n0 := fun q => h0 q _ hK0 hI.thr
  have e1 : (jup m 32 0 0) 32 1 = (n : Int) := hI.thr.1.1
  have hrw := hI.thr.1.2.1
  have hIt := hI.thr
  rw [x_M_lies_0, x_M_lies_1, x_M_lies_2]
  refine ⟨rfl, ?_⟩
  generalize jup m 32 0 0 = m0 at *
  simp only [x_M_lies_0, x_M_lies_1, x_M_lies_2, x_M_lies_5, x_M_lies_6, x_M_lies_9, x_M_lies_12, x_M_lies_13, x_M_lies_14, x_M_lies_15, x_M_lies_18, x_M_lies_21, x_M_lies_24, x_M_lies_25, x_M_lies_28, x_M_lies_29, x_M_lies_30, x_M_lies_31, x_M_lies_34, x_M_lies_35, x_M_lies_36, x_M_lies_37, x_M_lies_40, x_M_lies_43, x_M_lies_44, x_M_lies_45, x_M_lies_46, x_M_lies_47, x_M_lies_50, x_M_lies_51, x_M_lies_54, x_M_lies_55, x_M_lies_56, x_M_lies_59, x_M_lies_60, x_M_lies_61, x_M_lies_62, x_M_lies_65, x_M_lies_68, x_M_lies_69, w_M_isNode, w_M_within, e1, b01_0, sk_0, sk_1, sk_2, sk_3, sk_4, sk_5, sk_6, sk_7, sk_8, sk_9, sk_10, sk_11, sk_12, sk_13, sk_14, sk_15, sk_16, sk_17, sk_18, sk_19, sk_20, sk_21, sk_22, sk_23, sk_24, sk_25, sk_26, sk_27, sk_28, sk_29, sk_30, sk_31, sk_32, sk_33, sk_34, sk_35, sk_36, sk_37, sk_38, sk_39, sk_40, sk_41, sk_42, sk_43, sk_44, sk_45, sk_46, sk_47, sk_48, sk_49, sk_50, sk_51, sk_52, sk_53, sn_0, sn_1, sn_2, sn_3, sn_4, sn_5, sn_6, sn_7, sn_8, sn_9, sn_10, sn_11, sn_12, sn_13, sn_14, sn_15, sn_16, sn_17, sn_18, sn_19, sn_20, sn_21, sn_22, sn_23, sn_24, sn_25, sn_26, sn_27, sn_28, sn_29, sn_30, sn_31, sn_32, sn_33, sn_34, sn_35, sn_36, sn_37, sn_38, sn_39, sn_40, sn_41, sn_42, sn_43, sn_44, sn_45, sn_46, sn_47, sn_48, sn_49, sn_50, sn_51, sn_52, sn_53, rf_2_1, rf_2_2, rf_2_3, rf_2_4, rf_1_0, rf_1_1, rf_8_0, rf_7_0, rf_10_0, rf_7_1, rf_12_0, rf_7_2, rf_14_0, rf_7_3, rf_16_1, rf_16_2, rf_16_3, rf_16_4, rf_16_5, rf_16_6, rf_16_7, rf_1_2, rf_24_1, rf_24_2, rf_24_3, rf_24_4, rf_24_5, rf_24_6, rf_24_7, rf_1_3, rf_32_2, rf_32_3, rf_32_4, rf_32_5, rf_32_6, rf_32_7, rf_32_8, rf_32_9, rf_32_10, rf_32_12, rf_32_14, rf_32_15, rf_32_16, rf_32_18, rf_32_19, rf_32_21, rf_32_25, rf_32_26, rf_32_27, rf_32_28, rf_32_30, true_and, and_true, true_or, or_true, or_false, false_or, false_and, and_false, not_true, not_false_iff, ne_eq, and_self, eq_self, if_true, if_false, ite_true, ite_false, Nat.reduceLeDiff, Int.cast_ofNat_Int, Int.reduceLT, Int.reduceLE, Int.reduceEq, Int.reduceNeg, reduceCtorEq, jup_ap, Nat.reduceEqDiff, Nat.reduceAdd]
  by_cases hp : 0 ≤ p ∧ p < 4
  · rw [if_neg (fun q => q hp)]
    by_cases hr : 1 ≤ r ∧ r ≤ (n : Int)
    · rw [if_neg (fun q => q hr)]
      have hrow := hrw r hr.1 hr.2
      have hrb : 0 ≤ r ∧ r < 251 := by omega
      simp only [hrow.1, hrb, true_and, and_true, true_or, or_true, or_false, false_or, false_and, and_false, not_true, not_false_iff, ne_eq, and_self, eq_self, if_true, if_false, ite_true, ite_false, Nat.reduceLeDiff, Int.cast_ofNat_Int, Int.reduceLT, Int.reduceLE, Int.reduceEq, Int.reduceNeg, reduceCtorEq, jup_ap, Nat.reduceEqDiff, Nat.reduceAdd]
      by_cases h3 : cellV c r 0 = 3
      · rw [if_neg (fun q => q h3)]
        by_cases hs : 0 ≤ side ∧ side ≤ 1
        · rw [if_pos (fun q => q hs)]
          refine w_M_look h hIt L hp _ (fun m' N s hK e hL => ?_)
          have hI' := MI.of hIt.1 hp hK e hL
          have eg := hL.1.1 r hr.1 hr.2
          simp only [x_M_lies_0, x_M_lies_1, x_M_lies_2, x_M_lies_5, x_M_lies_6, x_M_lies_9, x_M_lies_12, x_M_lies_13, x_M_lies_14, x_M_lies_15, x_M_lies_18, x_M_lies_21, x_M_lies_24, x_M_lies_25, x_M_lies_28, x_M_lies_29, x_M_lies_30, x_M_lies_31, x_M_lies_34, x_M_lies_35, x_M_lies_36, x_M_lies_37, x_M_lies_40, x_M_lies_43, x_M_lies_44, x_M_lies_45, x_M_lies_46, x_M_lies_47, x_M_lies_50, x_M_lies_51, x_M_lies_54, x_M_lies_55, x_M_lies_56, x_M_lies_59, x_M_lies_60, x_M_lies_61, x_M_lies_62, x_M_lies_65, x_M_lies_68, x_M_lies_69, hrb, eg, b2i_0, sk_0, sk_1, sk_2, sk_3, sk_4, sk_5, sk_6, sk_7, sk_8, sk_9, sk_10, sk_11, sk_12, sk_13, sk_14, sk_15, sk_16, sk_17, sk_18, sk_19, sk_20, sk_21, sk_22, sk_23, sk_24, sk_25, sk_26, sk_27, sk_28, sk_29, sk_30, sk_31, sk_32, sk_33, sk_34, sk_35, sk_36, sk_37, sk_38, sk_39, sk_40, sk_41, sk_42, sk_43, sk_44, sk_45, sk_46, sk_47, sk_48, sk_49, sk_50, sk_51, sk_52, sk_53, sn_0, sn_1, sn_2, sn_3, sn_4, sn_5, sn_6, sn_7, sn_8, sn_9, sn_10, sn_11, sn_12, sn_13, sn_14, sn_15, sn_16, sn_17, sn_18, sn_19, sn_20, sn_21, sn_22, sn_23, sn_24, sn_25, sn_26, sn_27, sn_28, sn_29, sn_30, sn_31, sn_32, sn_33, sn_34, sn_35, sn_36, sn_37, sn_38, sn_39, sn_40, sn_41, sn_42, sn_43, sn_44, sn_45, sn_46, sn_47, sn_48, sn_49, sn_50, sn_51, sn_52, sn_53, rf_2_1, rf_2_2, rf_2_3, rf_2_4, rf_1_0, rf_1_1, rf_8_0, rf_7_0, rf_10_0, rf_7_1, rf_12_0, rf_7_2, rf_14_0, rf_7_3, rf_16_1, rf_16_2, rf_16_3, rf_16_4, rf_16_5, rf_16_6, rf_16_7, rf_1_2, rf_24_1, rf_24_2, rf_24_3, rf_24_4, rf_24_5, rf_24_6, rf_24_7, rf_1_3, rf_32_2, rf_32_3, rf_32_4, rf_32_5, rf_32_6, rf_32_7, rf_32_8, rf_32_9, rf_32_10, rf_32_12, rf_32_14, rf_32_15, rf_32_16, rf_32_18, rf_32_19, rf_32_21, rf_32_25, rf_32_26, rf_32_27, rf_32_28, rf_32_30, true_and, and_true, true_or, or_true, or_false, false_or, false_and, and_false, not_true, not_false_iff, ne_eq, and_self, eq_self, if_true, if_false, ite_true, ite_false, Nat.reduceLeDiff, Int.cast_ofNat_Int, Int.reduceLT, Int.reduceLE, Int.reduceEq, Int.reduceNeg, reduceCtorEq, jup_ap, Nat.reduceEqDiff, Nat.reduceAdd]
          cases hg : gd c (nc p) r
          · simp only [true_and, and_true, true_or, or_true, or_false, false_or, false_and, and_false, not_true, not_false_iff, ne_eq, and_self, eq_self, if_true, if_false, ite_true, ite_false, Nat.reduceLeDiff, Int.cast_ofNat_Int, Int.reduceLT, Int.reduceLE, Int.reduceEq, Int.reduceNeg, reduceCtorEq, jup_ap, Nat.reduceEqDiff, Nat.reduceAdd]
            exact h0 (fun q => by have := q.2.2; rw [hg] at this; cases this) m' (hK0.trans hK) hI'
          · simp only [true_and, and_true, true_or, or_true, or_false, false_or, false_and, and_false, not_true, not_false_iff, ne_eq, and_self, eq_self, if_true, if_false, ite_true, ite_false, Nat.reduceLeDiff, Int.cast_ofNat_Int, Int.reduceLT, Int.reduceLE, Int.reduceEq, Int.reduceNeg, reduceCtorEq, jup_ap, Nat.reduceEqDiff, Nat.reduceAdd, Bool.true_eq_false]
            rw [w_M_lying h hI'.1 hp hL.1 L h3 hg]
            simp only [x_M_lies_0, x_M_lies_1, x_M_lies_2, x_M_lies_5, x_M_lies_6, x_M_lies_9, x_M_lies_12, x_M_lies_13, x_M_lies_14, x_M_lies_15, x_M_lies_18, x_M_lies_21, x_M_lies_24, x_M_lies_25, x_M_lies_28, x_M_lies_29, x_M_lies_30, x_M_lies_31, x_M_lies_34, x_M_lies_35, x_M_lies_36, x_M_lies_37, x_M_lies_40, x_M_lies_43, x_M_lies_44, x_M_lies_45, x_M_lies_46, x_M_lies_47, x_M_lies_50, x_M_lies_51, x_M_lies_54, x_M_lies_55, x_M_lies_56, x_M_lies_59, x_M_lies_60, x_M_lies_61, x_M_lies_62, x_M_lies_65, x_M_lies_68, x_M_lies_69]
            exact hQ ⟨⟨hs, h3⟩, hp, hg⟩ m' (hK0.trans hK) hI'
        · rw [if_neg (fun q => q hs)]
          exact n0 (fun q => hs q.1.1)
      · rw [if_pos h3]
        exact n0 (fun q => h3 q.1.2)
    · rw [if_pos hr]
      exact n0 (fun q => hr (com_ins h q.1.2).1)
  · rw [if_pos hp]
    exact n0 (fun q => hp q.2.1)
/-- a good block for x -/
def blk (c : jM) (a : Nat) (x r : Int) : Prop := cellV c r 0 = 4 ∧ cellV c r 5 = x ∧ gd c a r = true
theorem ar_getE {f : Int → Int} {n i : Nat} (h : i < (ar f n).length) : (ar f n)[i]'h = f i := by
  have h1 := List.getElem?_eq_getElem h
  rw [ar_get (by rw [ar_len] at h; exact h)] at h1
  exact (Option.some.inj h1).symm
theorem CI.oLe {c : jM} {n : Nat} (h : CI c n) {i j : Nat} (hij : i ≤ j) (hj : j < n) : key c (c 5 i) ≤ key c (c 5 j) := by
  by_cases e : i = j
  · rw [e]; omega
  · have := List.pairwise_iff_getElem.mp h.oSort i j (by rw [ar_len]; omega) (by rw [ar_len]; omega) (by omega)
    rw [ar_getE, ar_getE] at this
    exact this
theorem kdK_char {c : jM} {a : Nat} {x : Int} : ∀ k : Nat, ((∀ j : Nat, j < k → ¬ blk c a x (c 5 j)) ∧ kdK c a x k = 0) ∨ ∃ j : Nat, j < k ∧ blk c a x (c 5 j) ∧ (∀ i : Nat, j < i → i < k → ¬ blk c a x (c 5 i)) ∧ kdK c a x k = cellV c (c 5 j) 3
  | 0 => Or.inl ⟨fun j hj => by omega, rfl⟩
  | k + 1 => by
    by_cases e : blk c a x (c 5 k)
    · refine Or.inr ⟨k, by omega, e, fun i i1 i2 => by omega, ?_⟩
      unfold kdK
      rw [if_pos ⟨⟨e.2.2, e.1⟩, e.2.1⟩]
    · have e2 : kdK c a x (k + 1) = kdK c a x k := by
        conv => lhs; unfold kdK
        rw [if_neg (fun q => e ⟨q.1.2, q.2, q.1.1⟩)]
      rw [e2]
      rcases kdK_char (c := c) (a := a) (x := x) k with q | ⟨j, j1, j2, j3, j4⟩
      · refine Or.inl ⟨fun j hj => ?_, q.2⟩
        by_cases z : j = k
        · rw [z]; exact e
        · exact q.1 j (by omega)
      · refine Or.inr ⟨j, by omega, j2, fun i i1 i2 => ?_, j4⟩
        by_cases z : i = k
        · rw [z]; exact e
        · exact j3 i i1 (by omega)
def bestP (c : jM) (a : Nat) (x b i : Int) : Prop := (b = 0 ∧ ∀ r : Int, 1 ≤ r → r < i → ¬ blk c a x r) ∨ (((1 ≤ b ∧ b < i) ∧ blk c a x b) ∧ ∀ r : Int, 1 ≤ r → r < i → blk c a x r → key c r ≤ key c b)
theorem kd_best {c : jM} {n a : Nat} (h : CI c n) {x b : Int} (hb : bestP c a x b ((n : Int) + 1)) : kdK c a x n = if b = 0 then 0 else cellV c b 3 := by
  have hall : ∀ r : Int, 1 ≤ r → r ≤ n → ∃ j : Nat, j < n ∧ c 5 j = r := fun r r1 r2 => ar_mem.mp (h.oMem.mpr ⟨r1, r2⟩)
  rcases kdK_char (c := c) (a := a) (x := x) n with q | ⟨j, j1, j2, j3, j4⟩
  · rcases hb with w | w
    · rw [if_pos w.1]; exact q.2
    · obtain ⟨i, i1, i2⟩ := hall b w.1.1.1 (by omega)
      exact absurd w.1.2 (by rw [← i2]; exact q.1 i i1)
  · have hj := h.ord j j1
    rcases hb with w | w
    · exact absurd j2 (w.2 _ hj.1 (by omega))
    · obtain ⟨i, i1, i2⟩ := hall b w.1.1.1 (by omega)
      have h1 := w.2 _ hj.1 (by omega) j2
      have hij : i ≤ j := by
        by_cases z : i ≤ j
        · exact z
        · exact absurd w.1.2 (by rw [← i2]; exact j3 i (by omega) i1)
      have h2 := h.oLe hij j1
      rw [i2] at h2
      have e := h.2.2.2.1 _ b hj.1 hj.2 w.1.1.1 (by omega) (by omega)
      rw [if_neg (by omega), ← e]
      exact j4
theorem wl_M_kd {c m : jM} {n : Nat} {p : Int} (h : CI c n) (hM : MB c m n) (hg : ∀ r : Int, 1 ≤ r → r ≤ n → m 42 r = b2i (gd c (nc p) r)) (L : Nat) (p' x : Int) (Q : jV → jG → jM → Prop) :
    ∀ (d : Nat) (i b : Int), 1 ≤ i → i + d = (n : Int) + 1 → bestP c (nc p) x b i → wp 68 5 [jO (some 32), jI p', jI x, jI b, jI i] [] (g0 L) m Q = Q (jI (kdK c (nc p) x n)) (g0 L) m := by
  have hn := h.2.1
  have h1 := hM.1
  intro d
  induction d with
  | zero =>
    intro i b i1 i2 hb
    have : i = (n : Int) + 1 := by omega
    subst this
    have hlt : (n : Int) < (n : Int) + 1 := by omega
    rw [kd_best h hb, x_M_kindOf_5]
    simp only [x_M_kindOf_7, x_M_kindOf_8, x_M_kindOf_11, x_M_kindOf_69, x_M_kindOf_70, x_M_kindOf_73, x_M_kindOf_74, x_M_kindOf_77, x_M_kindOf_78, x_M_kindOf_81, x_M_kindOf_82, x_M_kindOf_83, h1, hlt, sk_0, sk_1, sk_2, sk_3, sk_4, sk_5, sk_6, sk_7, sk_8, sk_9, sk_10, sk_11, sk_12, sk_13, sk_14, sk_15, sk_16, sk_17, sk_18, sk_19, sk_20, sk_21, sk_22, sk_23, sk_24, sk_25, sk_26, sk_27, sk_28, sk_29, sk_30, sk_31, sk_32, sk_33, sk_34, sk_35, sk_36, sk_37, sk_38, sk_39, sk_40, sk_41, sk_42, sk_43, sk_44, sk_45, sk_46, sk_47, sk_48, sk_49, sk_50, sk_51, sk_52, sk_53, sn_0, sn_1, sn_2, sn_3, sn_4, sn_5, sn_6, sn_7, sn_8, sn_9, sn_10, sn_11, sn_12, sn_13, sn_14, sn_15, sn_16, sn_17, sn_18, sn_19, sn_20, sn_21, sn_22, sn_23, sn_24, sn_25, sn_26, sn_27, sn_28, sn_29, sn_30, sn_31, sn_32, sn_33, sn_34, sn_35, sn_36, sn_37, sn_38, sn_39, sn_40, sn_41, sn_42, sn_43, sn_44, sn_45, sn_46, sn_47, sn_48, sn_49, sn_50, sn_51, sn_52, sn_53, rf_2_1, rf_2_2, rf_2_3, rf_2_4, rf_1_0, rf_1_1, rf_8_0, rf_7_0, rf_10_0, rf_7_1, rf_12_0, rf_7_2, rf_14_0, rf_7_3, rf_16_1, rf_16_2, rf_16_3, rf_16_4, rf_16_5, rf_16_6, rf_16_7, rf_1_2, rf_24_1, rf_24_2, rf_24_3, rf_24_4, rf_24_5, rf_24_6, rf_24_7, rf_1_3, rf_32_2, rf_32_3, rf_32_4, rf_32_5, rf_32_6, rf_32_7, rf_32_8, rf_32_9, rf_32_10, rf_32_12, rf_32_14, rf_32_15, rf_32_16, rf_32_18, rf_32_19, rf_32_21, rf_32_25, rf_32_26, rf_32_27, rf_32_28, rf_32_30, true_and, and_true, true_or, or_true, or_false, false_or, false_and, and_false, not_true, not_false_iff, ne_eq, and_self, eq_self, if_true, if_false, ite_true, ite_false, Nat.reduceLeDiff, Int.cast_ofNat_Int, Int.reduceLT, Int.reduceLE, Int.reduceEq, Int.reduceNeg, reduceCtorEq, jup_ap, Nat.reduceEqDiff, Nat.reduceAdd]
    rcases hb with w | w
    · rw [if_neg (fun q => q w.1), if_pos w.1]
    · have hz : b ≠ 0 := by omega
      rw [if_pos hz, if_neg hz, jand_t (by omega), (hM.2.1 b w.1.1.1 (by omega)).2.2.2.1]
  | succ d ih =>
    intro i b i1 i2 hb
    have hlt : ¬ (n : Int) < i := by omega
    have hib : 0 ≤ i ∧ i < 251 := by omega
    have hrow := hM.2.1 i i1 (by omega)
    have e1 : jwr (i + 1) = i + 1 := jw1 (by omega) (by omega)
    have skip : ¬ blk c (nc p) x i ∨ (b ≠ 0 ∧ ¬ key c b < key c i) → wp 68 5 [jO (some 32), jI p', jI x, jI b, jI (i + 1)] [] (g0 L) m Q = Q (jI (kdK c (nc p) x n)) (g0 L) m := fun hno => by
      refine ih (i + 1) b (by omega) (by omega) ?_
      rcases hb with w | w
      · refine Or.inl ⟨w.1, fun r r1 r2 => ?_⟩
        by_cases z : r = i
        · rw [z]
          exact hno.resolve_right (fun q => q.1 w.1)
        · exact w.2 r r1 (by omega)
      · refine Or.inr ⟨⟨⟨w.1.1.1, by omega⟩, w.1.2⟩, fun r r1 r2 r3 => ?_⟩
        by_cases z : r = i
        · rw [z] at r3 ⊢
          rcases hno with y | y
          · exact absurd r3 y
          · omega
        · exact w.2 r r1 (by omega) r3
    have take : blk c (nc p) x i → (b = 0 ∨ key c b < key c i) → wp 68 5 [jO (some 32), jI p', jI x, jI i, jI (i + 1)] [] (g0 L) m Q = Q (jI (kdK c (nc p) x n)) (g0 L) m := fun hy hk => by
      refine ih (i + 1) i (by omega) (by omega) (Or.inr ⟨⟨by omega, hy⟩, fun r r1 r2 r3 => ?_⟩)
      by_cases z : r = i
      · rw [z]; omega
      · rcases hb with w | w
        · exact absurd r3 (w.2 r r1 (by omega))
        · have := w.2 r r1 (by omega) r3
          omega
    rw [x_M_kindOf_5]
    simp only [x_M_kindOf_0, x_M_kindOf_1, x_M_kindOf_2, x_M_kindOf_3, x_M_kindOf_7, x_M_kindOf_8, x_M_kindOf_11, x_M_kindOf_14, x_M_kindOf_15, x_M_kindOf_18, x_M_kindOf_20, x_M_kindOf_21, x_M_kindOf_22, x_M_kindOf_25, x_M_kindOf_26, x_M_kindOf_29, x_M_kindOf_31, x_M_kindOf_32, x_M_kindOf_33, x_M_kindOf_36, x_M_kindOf_37, x_M_kindOf_40, x_M_kindOf_42, x_M_kindOf_43, x_M_kindOf_46, x_M_kindOf_47, x_M_kindOf_50, x_M_kindOf_51, x_M_kindOf_52, x_M_kindOf_54, x_M_kindOf_57, x_M_kindOf_60, x_M_kindOf_62, x_M_kindOf_63, x_M_kindOf_66, x_M_kindOf_69, x_M_kindOf_70, x_M_kindOf_73, x_M_kindOf_74, x_M_kindOf_77, x_M_kindOf_78, x_M_kindOf_81, x_M_kindOf_82, x_M_kindOf_83, h1, hlt, hib, e1, hrow.1, hrow.2.2.2.2.2.1, hrow.2.2.2.1, hg i i1 (by omega), b2i_0, sk_0, sk_1, sk_2, sk_3, sk_4, sk_5, sk_6, sk_7, sk_8, sk_9, sk_10, sk_11, sk_12, sk_13, sk_14, sk_15, sk_16, sk_17, sk_18, sk_19, sk_20, sk_21, sk_22, sk_23, sk_24, sk_25, sk_26, sk_27, sk_28, sk_29, sk_30, sk_31, sk_32, sk_33, sk_34, sk_35, sk_36, sk_37, sk_38, sk_39, sk_40, sk_41, sk_42, sk_43, sk_44, sk_45, sk_46, sk_47, sk_48, sk_49, sk_50, sk_51, sk_52, sk_53, sn_0, sn_1, sn_2, sn_3, sn_4, sn_5, sn_6, sn_7, sn_8, sn_9, sn_10, sn_11, sn_12, sn_13, sn_14, sn_15, sn_16, sn_17, sn_18, sn_19, sn_20, sn_21, sn_22, sn_23, sn_24, sn_25, sn_26, sn_27, sn_28, sn_29, sn_30, sn_31, sn_32, sn_33, sn_34, sn_35, sn_36, sn_37, sn_38, sn_39, sn_40, sn_41, sn_42, sn_43, sn_44, sn_45, sn_46, sn_47, sn_48, sn_49, sn_50, sn_51, sn_52, sn_53, rf_2_1, rf_2_2, rf_2_3, rf_2_4, rf_1_0, rf_1_1, rf_8_0, rf_7_0, rf_10_0, rf_7_1, rf_12_0, rf_7_2, rf_14_0, rf_7_3, rf_16_1, rf_16_2, rf_16_3, rf_16_4, rf_16_5, rf_16_6, rf_16_7, rf_1_2, rf_24_1, rf_24_2, rf_24_3, rf_24_4, rf_24_5, rf_24_6, rf_24_7, rf_1_3, rf_32_2, rf_32_3, rf_32_4, rf_32_5, rf_32_6, rf_32_7, rf_32_8, rf_32_9, rf_32_10, rf_32_12, rf_32_14, rf_32_15, rf_32_16, rf_32_18, rf_32_19, rf_32_21, rf_32_25, rf_32_26, rf_32_27, rf_32_28, rf_32_30, true_and, and_true, true_or, or_true, or_false, false_or, false_and, and_false, not_true, not_false_iff, ne_eq, and_self, eq_self, if_true, if_false, ite_true, ite_false, Nat.reduceLeDiff, Int.cast_ofNat_Int, Int.reduceLT, Int.reduceLE, Int.reduceEq, Int.reduceNeg, reduceCtorEq, jup_ap, Nat.reduceEqDiff, Nat.reduceAdd]
    by_cases q1 : cellV c i 0 = 4
    · rw [if_neg (fun q => q q1)]
      by_cases q2 : cellV c i 5 = x
      · rw [if_neg (fun q => q q2)]
        cases q3 : gd c (nc p) i
        · simp only [true_and, and_true, true_or, or_true, or_false, false_or, false_and, and_false, not_true, not_false_iff, ne_eq, and_self, eq_self, if_true, if_false, ite_true, ite_false, Nat.reduceLeDiff, Int.cast_ofNat_Int, Int.reduceLT, Int.reduceLE, Int.reduceEq, Int.reduceNeg, reduceCtorEq, jup_ap, Nat.reduceEqDiff, Nat.reduceAdd]
          exact skip (Or.inl (fun q => by have := q.2.2; rw [q3] at this; cases this))
        · simp only [true_and, and_true, true_or, or_true, or_false, false_or, false_and, and_false, not_true, not_false_iff, ne_eq, and_self, eq_self, if_true, if_false, ite_true, ite_false, Nat.reduceLeDiff, Int.cast_ofNat_Int, Int.reduceLT, Int.reduceLE, Int.reduceEq, Int.reduceNeg, reduceCtorEq, jup_ap, Nat.reduceEqDiff, Nat.reduceAdd, Bool.true_eq_false]
          by_cases hz : b = 0
          · rw [if_pos hz]
            exact take ⟨q1, q2, q3⟩ (Or.inl hz)
          · rw [if_neg hz]
            have hbb : 1 ≤ b ∧ b ≤ n := by
              rcases hb with w | w
              · exact absurd w.1 hz
              · omega
            rw [w_M_bf h hM L hbb ⟨i1, by omega⟩]
            simp only [x_M_kindOf_0, x_M_kindOf_1, x_M_kindOf_2, x_M_kindOf_3, x_M_kindOf_7, x_M_kindOf_8, x_M_kindOf_11, x_M_kindOf_14, x_M_kindOf_15, x_M_kindOf_18, x_M_kindOf_20, x_M_kindOf_21, x_M_kindOf_22, x_M_kindOf_25, x_M_kindOf_26, x_M_kindOf_29, x_M_kindOf_31, x_M_kindOf_32, x_M_kindOf_33, x_M_kindOf_36, x_M_kindOf_37, x_M_kindOf_40, x_M_kindOf_42, x_M_kindOf_43, x_M_kindOf_46, x_M_kindOf_47, x_M_kindOf_50, x_M_kindOf_51, x_M_kindOf_52, x_M_kindOf_54, x_M_kindOf_57, x_M_kindOf_60, x_M_kindOf_62, x_M_kindOf_63, x_M_kindOf_66, x_M_kindOf_69, x_M_kindOf_70, x_M_kindOf_73, x_M_kindOf_74, x_M_kindOf_77, x_M_kindOf_78, x_M_kindOf_81, x_M_kindOf_82, x_M_kindOf_83, e1, b01_0, sk_0, sk_1, sk_2, sk_3, sk_4, sk_5, sk_6, sk_7, sk_8, sk_9, sk_10, sk_11, sk_12, sk_13, sk_14, sk_15, sk_16, sk_17, sk_18, sk_19, sk_20, sk_21, sk_22, sk_23, sk_24, sk_25, sk_26, sk_27, sk_28, sk_29, sk_30, sk_31, sk_32, sk_33, sk_34, sk_35, sk_36, sk_37, sk_38, sk_39, sk_40, sk_41, sk_42, sk_43, sk_44, sk_45, sk_46, sk_47, sk_48, sk_49, sk_50, sk_51, sk_52, sk_53, sn_0, sn_1, sn_2, sn_3, sn_4, sn_5, sn_6, sn_7, sn_8, sn_9, sn_10, sn_11, sn_12, sn_13, sn_14, sn_15, sn_16, sn_17, sn_18, sn_19, sn_20, sn_21, sn_22, sn_23, sn_24, sn_25, sn_26, sn_27, sn_28, sn_29, sn_30, sn_31, sn_32, sn_33, sn_34, sn_35, sn_36, sn_37, sn_38, sn_39, sn_40, sn_41, sn_42, sn_43, sn_44, sn_45, sn_46, sn_47, sn_48, sn_49, sn_50, sn_51, sn_52, sn_53, rf_2_1, rf_2_2, rf_2_3, rf_2_4, rf_1_0, rf_1_1, rf_8_0, rf_7_0, rf_10_0, rf_7_1, rf_12_0, rf_7_2, rf_14_0, rf_7_3, rf_16_1, rf_16_2, rf_16_3, rf_16_4, rf_16_5, rf_16_6, rf_16_7, rf_1_2, rf_24_1, rf_24_2, rf_24_3, rf_24_4, rf_24_5, rf_24_6, rf_24_7, rf_1_3, rf_32_2, rf_32_3, rf_32_4, rf_32_5, rf_32_6, rf_32_7, rf_32_8, rf_32_9, rf_32_10, rf_32_12, rf_32_14, rf_32_15, rf_32_16, rf_32_18, rf_32_19, rf_32_21, rf_32_25, rf_32_26, rf_32_27, rf_32_28, rf_32_30, true_and, and_true, true_or, or_true, or_false, false_or, false_and, and_false, not_true, not_false_iff, ne_eq, and_self, eq_self, if_true, if_false, ite_true, ite_false, Nat.reduceLeDiff, Int.cast_ofNat_Int, Int.reduceLT, Int.reduceLE, Int.reduceEq, Int.reduceNeg, reduceCtorEq, jup_ap, Nat.reduceEqDiff, Nat.reduceAdd]
            by_cases hk : key c b < key c i
            · rw [if_neg (fun q => q hk)]
              exact take ⟨q1, q2, q3⟩ (Or.inr hk)
            · rw [if_pos hk]
              exact skip (Or.inr ⟨hz, hk⟩)
      · rw [if_pos q2]
        exact skip (Or.inl (fun q => q2 q.2.1))
    · rw [if_pos q1]
      exact skip (Or.inl (fun q => q1 q.1))
theorem w_M_kindOf {c m : jM} {n : Nat} {p : Int} (h : CI c n) (hM : MB c m n) (hg : ∀ r : Int, 1 ≤ r → r ≤ n → m 42 r = b2i (gd c (nc p) r)) (L : Nat) (p' x : Int) (Q : jV → jG → jM → Prop) :
    wp 68 0 [jO (some 32), jI p', jI x, jU, jU] [] (g0 L) m Q = Q (jI (kdK c (nc p) x n)) (g0 L) m := by
  simp only [x_M_kindOf_0, x_M_kindOf_1, x_M_kindOf_2, x_M_kindOf_3]
  exact wl_M_kd h hM hg L p' x Q n 1 0 (by omega) (by omega) (Or.inl ⟨rfl, fun r a b => by omega⟩)
