theorem takeW_filter {q : Int → Bool} {x : Int} (hx : q x = true) : ∀ l : List Int, (l.filter q).takeWhile (fun y => decide (y ≠ x)) = (l.takeWhile (fun y => decide (y ≠ x))).filter q
  | [] => rfl
  | y :: l => by
    by_cases e : y = x
    · rw [e, List.filter_cons, if_pos hx, List.takeWhile_cons, List.takeWhile_cons]
      simp
    · rw [List.takeWhile_cons (a := y) (l := l), if_pos (by simpa using e), List.filter_cons, List.filter_cons]
      by_cases hy : q y = true
      · rw [if_pos hy, if_pos hy, List.takeWhile_cons, if_pos (by simpa using e), takeW_filter hx l]
      · rw [if_neg hy, if_neg hy, takeW_filter hx l]
theorem KL_nodup {c : jM} {n : Nat} (h : CI c n) (a : Nat) : (KLm c a).Nodup := h.plnd.filter _
theorem KL_mem {c : jM} {n : Nat} (h : CI c n) {a : Nat} {x : Int} : x ∈ KLm c a ↔ ((1 ≤ x ∧ x ≤ n) ∧ cellV c x 0 = 0) ∧ kb c a x = true := by
  unfold KLm
  rw [List.mem_filter, h.plm]
theorem ah_KL {c : jM} {n : Nat} (h : CI c n) {a w : Nat} {x : Int} (hx : (KLm c a)[w]? = some x) : ahF c a x = cq (vs c a) (KLm c a) w ∧ abF c a x = cq (vs c a) (KLm c a) (w + 1) := by
  have hk : kb c a x = true := ((KL_mem h).mp (List.mem_of_getElem? hx)).2
  have e : ahF c a x = cq (vs c a) (KLm c a) w := by
    unfold ahF cq
    rw [← takeW _ w x (KL_nodup h a) hx]
    unfold KLm
    rw [takeW_filter hk, List.filter_filter]
    congr 2
    refine List.filter_congr (fun y _ => ?_)
    cases q : vs c a y
    · simp
    · rw [vs_kb q]
      simp
  refine ⟨e, ?_⟩
  rw [cq_succ hx, ← e]
  rfl
theorem nodup_at {l : List Int} (h : l.Nodup) {i j : Nat} {x : Int} (hi : l[i]? = some x) (hj : l[j]? = some x) : i = j := by
  have hl := (List.getElem?_eq_some_iff.mp hi).1
  rw [← hj] at hi
  exact (List.getElem?_inj hl h).mp hi
/-- the k-th that one sees has k seen ahead of it -/
theorem ah_vis {c : jM} {n : Nat} (h : CI c n) {a k : Nat} {x : Int} (hx : (visL c a)[k]? = some x) : ahF c a x = (k : Int) ∧ vs c a x = true ∧ x ∈ KLm c a := by
  have hm := List.mem_of_getElem? hx
  have hv : vs c a x = true := (List.mem_filter.mp hm).2
  have hK : x ∈ KLm c a := List.mem_filter.mpr ⟨(List.mem_filter.mp hm).1, vs_kb hv⟩
  refine ⟨?_, hv, hK⟩
  obtain ⟨w, hw⟩ := List.getElem?_of_mem hK
  have hl := (List.getElem?_eq_some_iff.mp hw).1
  rw [(ah_KL h hw).1]
  unfold cq
  have hnd : (visL c a).Nodup := h.plnd.filter _
  refine congrArg Int.ofNat (nodup_at hnd ?_ hx)
  rw [← KL_vis]
  have e : KLm c a = (KLm c a).take w ++ x :: (KLm c a).drop (w + 1) := by
    have h1 := List.take_append_drop w (KLm c a)
    rw [List.drop_eq_getElem_cons hl] at h1
    have hg : (KLm c a)[w]'hl = x := (List.getElem?_eq_some_iff.mp hw).2
    rw [hg] at h1
    exact h1.symm
  have e2 : (KLm c a).filter (vs c a) = ((KLm c a).take w).filter (vs c a) ++ x :: ((KLm c a).drop (w + 1)).filter (vs c a) := by
    conv => lhs; rw [e]
    rw [List.filter_append, List.filter_cons, if_pos hv]
  rw [e2, List.getElem?_append_right (Nat.le_refl _), Nat.sub_self]
  rfl
/-- what the reference keeps of a node's places and of those seen -/
def PlP (c m : jM) (n : Nat) (p : Int) (N s : Nat) : Prop :=
  (∀ r : Int, 1 ≤ r → r ≤ n → m 42 r = b2i (gd c (nc p) r)) ∧ N ≤ n ∧ m 32 13 = (N : Int) ∧ ar (m 43) N = KLm c (nc p) ∧ (∀ j : Nat, j < N → m 44 (m 43 j) = (j : Int)) ∧
  (∀ j : Nat, j ≤ N → m 45 j = cq (vs c (nc p)) (KLm c (nc p)) j) ∧ s ≤ N ∧ m 32 17 = (s : Int) ∧ ar (m 46) s = visL c (nc p)
theorem PlP.fr {c m m' : jM} {n : Nat} {p : Int} {N s : Nat} (h : PlP c m n p N s) (hb : ∀ b, 42 ≤ b → b ≤ 46 → ∀ j, m' b j = m b j) (h1 : m' 32 13 = m 32 13) (h2 : m' 32 17 = m 32 17) : PlP c m' n p N s := by
  obtain ⟨a1, a2, a3, a4, a5, a6, a7, a8, a9⟩ := h
  refine ⟨fun r x y => by rw [hb 42 (by decide) (by decide)]; exact a1 r x y, a2, by rw [h1]; exact a3, ?_, fun j hj => by rw [hb 43 (by decide) (by decide), hb 44 (by decide) (by decide)]; exact a5 j hj, fun j hj => by rw [hb 45 (by decide) (by decide)]; exact a6 j hj, a7, by rw [h2]; exact a8, ?_⟩
  · rw [← a4]; exact ar_congr (fun i _ => hb 43 (by decide) (by decide) i)
  · rw [← a9]; exact ar_congr (fun i _ => hb 46 (by decide) (by decide) i)
theorem PlP.at {c m : jM} {n : Nat} {p : Int} {N s : Nat} (h : CI c n) (hP : PlP c m n p N s) {x : Int} (hx : x ∈ KLm c (nc p)) : ∃ w : Nat, w < N ∧ m 43 w = x ∧ m 44 x = (w : Int) ∧ ahF c (nc p) x = cq (vs c (nc p)) (KLm c (nc p)) w ∧ abF c (nc p) x = cq (vs c (nc p)) (KLm c (nc p)) (w + 1) := by
  obtain ⟨a1, a2, a3, a4, a5, -⟩ := hP
  have hx2 := hx
  rw [← a4] at hx2
  obtain ⟨w, w1, w2⟩ := ar_mem.mp hx2
  have hw : (KLm c (nc p))[w]? = some x := by rw [← a4, ar_get w1, w2]
  have := ah_KL h hw
  refine ⟨w, w1, w2, ?_, this.1, this.2⟩
  rw [← w2]
  exact a5 w w1
theorem PlP.see {c m : jM} {n : Nat} {p : Int} {N s : Nat} (h : CI c n) (hP : PlP c m n p N s) {k : Nat} (hk : k < s) : ∃ w : Nat, w < N ∧ 1 ≤ m 46 k ∧ m 46 k ≤ n ∧ m 44 (m 46 k) = (w : Int) ∧ cq (vs c (nc p)) (KLm c (nc p)) w = (k : Int) ∧ cq (vs c (nc p)) (KLm c (nc p)) (w + 1) = (k : Int) + 1 := by
  have hx : (visL c (nc p))[k]? = some (m 46 k) := by rw [← hP.2.2.2.2.2.2.2.2, ar_get hk]
  obtain ⟨b1, b2, b3⟩ := ah_vis h hx
  obtain ⟨w, w1, w2, w3, w4, w5⟩ := hP.at h b3
  have hb := ((KL_mem h).mp b3).1.1
  refine ⟨w, w1, hb.1, hb.2, w3, by rw [← w4]; exact b1, ?_⟩
  rw [← w5]
  unfold abF
  rw [b1, b2]
  rfl
theorem w_M_covers {c m : jM} {n : Nat} {p : Int} {N s : Nat} (h : CI c n) (hM : MB c m n) (hp : 0 ≤ p ∧ p < 4) (hP : PlP c m n p N s) (L : Nat) {r : Int} (hr : 1 ≤ r ∧ r ≤ n) (h2 : cellV c r 0 = 2) (hk : kb c (nc p) r = true) {k w : Nat} (hks : k < s) (hw : w < N) (hw1 : cq (vs c (nc p)) (KLm c (nc p)) w = (k : Int)) (hw2 : cq (vs c (nc p)) (KLm c (nc p)) (w + 1) = (k : Int) + 1) (Q : jV → jG → jM → Prop) :
    wp 41 0 [jO (some 32), jI r, jI (w : Int), jU, jU, jU] [] (g0 L) m Q = Q (jI (b01 (ahF c (nc p) (cellV c r 5) ≤ (k : Int) ∧ (k : Int) < stE c (nc p) s r))) (g0 L) m := by
  have hn := h.2.1
  have hro := (h.2.2.1 r hr.1 hr.2).2.2.2.2.2.1 h2
  have hno := (h.2.2.2.2.2.2.2.2.2 p hp.1 hp.2).2.2.1 r hr.1 hr.2 hk
  have hrow := hM.2.1 r hr.1 hr.2
  have hrb : 0 ≤ r ∧ r < 251 := by omega
  have hf : cellV c r 5 ∈ KLm c (nc p) := by
    have := hro.1
    unfold isIns at this
    exact (KL_mem h).mpr ⟨⟨by omega, this.2.2⟩, hno.1 (by omega)⟩
  obtain ⟨f, f1, f2, f3, f4, f5⟩ := hP.at h hf
  have hfb := ((KL_mem h).mp hf).1.1
  have hfb2 : 0 ≤ cellV c r 5 ∧ cellV c r 5 < 251 := by omega
  have k1 : ahF c (nc p) (cellV c r 5) ≤ (k : Int) ↔ f ≤ w := by
    rw [f4]
    constructor
    · intro q
      by_cases z : f ≤ w
      · exact z
      · have := cq_mono (q := vs c (nc p)) (l := KLm c (nc p)) (show w + 1 ≤ f by omega)
        omega
    · intro q
      have := cq_mono (q := vs c (nc p)) (l := KLm c (nc p)) q
      omega
  have hz : cellV c r 6 ≠ 0 → ∃ z : Nat, z < N ∧ m 44 (cellV c r 6) = (z : Int) ∧ (0 ≤ cellV c r 6 ∧ cellV c r 6 < 251) ∧ ((k : Int) < ahF c (nc p) (cellV c r 6) ↔ w < z) ∧ ((k : Int) < abF c (nc p) (cellV c r 6) ↔ w ≤ z) := fun q => by
    have h6 := hro.2.1.resolve_right (fun w => q w.1)
    unfold isIns at h6
    have hz : cellV c r 6 ∈ KLm c (nc p) := (KL_mem h).mpr ⟨⟨by omega, h6.2.2⟩, hno.2.1 q⟩
    obtain ⟨z, z1, z2, z3, z4, z5⟩ := hP.at h hz
    refine ⟨z, z1, z3, by omega, ?_, ?_⟩
    · rw [z4]
      constructor
      · intro q
        by_cases y : w < z
        · exact y
        · have := cq_mono (q := vs c (nc p)) (l := KLm c (nc p)) (show z ≤ w by omega)
          omega
      · intro q
        have := cq_mono (q := vs c (nc p)) (l := KLm c (nc p)) (show w + 1 ≤ z by omega)
        omega
    · rw [z5]
      constructor
      · intro q
        by_cases y : w ≤ z
        · exact y
        · have := cq_mono (q := vs c (nc p)) (l := KLm c (nc p)) (show z + 1 ≤ w by omega)
          omega
      · intro q
        have := cq_mono (q := vs c (nc p)) (l := KLm c (nc p)) (show w + 1 ≤ z + 1 by omega)
        omega
  have hpl := hP.2.2.1
  simp only [x_M_covers_0, x_M_covers_1, x_M_covers_4, x_M_covers_5, x_M_covers_8, x_M_covers_9, x_M_covers_10, x_M_covers_11, x_M_covers_12, x_M_covers_13, x_M_covers_16, x_M_covers_17, x_M_covers_18, x_M_covers_19, x_M_covers_22, x_M_covers_23, x_M_covers_26, x_M_covers_27, x_M_covers_29, x_M_covers_30, x_M_covers_33, x_M_covers_34, x_M_covers_35, x_M_covers_38, x_M_covers_39, x_M_covers_42, x_M_covers_45, x_M_covers_46, x_M_covers_49, x_M_covers_50, x_M_covers_53, x_M_covers_54, x_M_covers_55, x_M_covers_56, x_M_covers_58, x_M_covers_59, x_M_covers_60, x_M_covers_63, x_M_covers_65, x_M_covers_68, x_M_covers_69, x_M_covers_71, x_M_covers_74, x_M_covers_77, x_M_covers_78, x_M_covers_80, x_M_covers_83, x_M_covers_84, x_M_covers_87, x_M_covers_88, hrb, hrow.2.2.2.2.2.1, hrow.2.2.2.1, hrow.2.2.2.2.2.2, hfb2, f3, hpl, sk_0, sk_1, sk_2, sk_3, sk_4, sk_5, sk_6, sk_7, sk_8, sk_9, sk_10, sk_11, sk_12, sk_13, sk_14, sk_15, sk_16, sk_17, sk_18, sk_19, sk_20, sk_21, sk_22, sk_23, sk_24, sk_25, sk_26, sk_27, sk_28, sk_29, sk_30, sk_31, sk_32, sk_33, sk_34, sk_35, sk_36, sk_37, sk_38, sk_39, sk_40, sk_41, sk_42, sk_43, sk_44, sk_45, sk_46, sk_47, sk_48, sk_49, sk_50, sk_51, sk_52, sk_53, sn_0, sn_1, sn_2, sn_3, sn_4, sn_5, sn_6, sn_7, sn_8, sn_9, sn_10, sn_11, sn_12, sn_13, sn_14, sn_15, sn_16, sn_17, sn_18, sn_19, sn_20, sn_21, sn_22, sn_23, sn_24, sn_25, sn_26, sn_27, sn_28, sn_29, sn_30, sn_31, sn_32, sn_33, sn_34, sn_35, sn_36, sn_37, sn_38, sn_39, sn_40, sn_41, sn_42, sn_43, sn_44, sn_45, sn_46, sn_47, sn_48, sn_49, sn_50, sn_51, sn_52, sn_53, rf_2_1, rf_2_2, rf_2_3, rf_2_4, rf_1_0, rf_1_1, rf_8_0, rf_7_0, rf_10_0, rf_7_1, rf_12_0, rf_7_2, rf_14_0, rf_7_3, rf_16_1, rf_16_2, rf_16_3, rf_16_4, rf_16_5, rf_16_6, rf_16_7, rf_1_2, rf_24_1, rf_24_2, rf_24_3, rf_24_4, rf_24_5, rf_24_6, rf_24_7, rf_1_3, rf_32_2, rf_32_3, rf_32_4, rf_32_5, rf_32_6, rf_32_7, rf_32_8, rf_32_9, rf_32_10, rf_32_12, rf_32_14, rf_32_15, rf_32_16, rf_32_18, rf_32_19, rf_32_21, rf_32_25, rf_32_26, rf_32_27, rf_32_28, rf_32_30, true_and, and_true, true_or, or_true, or_false, false_or, false_and, and_false, not_true, not_false_iff, ne_eq, and_self, eq_self, if_true, if_false, ite_true, ite_false, Nat.reduceLeDiff, Int.cast_ofNat_Int, Int.reduceLT, Int.reduceLE, Int.reduceEq, Int.reduceNeg, reduceCtorEq, jup_ap, Nat.reduceEqDiff, Nat.reduceAdd]
  unfold b01 stE
  by_cases hg : cellV c r 3 < 2
  · rw [if_neg (show ¬ (2 ≤ cellV c r 3) by omega), if_pos hg]
    by_cases h6 : cellV c r 6 = 0
    · simp only [h6, true_and, and_true, true_or, or_true, or_false, false_or, false_and, and_false, not_true, not_false_iff, ne_eq, and_self, eq_self, if_true, if_false, ite_true, ite_false, Nat.reduceLeDiff, Int.cast_ofNat_Int, Int.reduceLT, Int.reduceLE, Int.reduceEq, Int.reduceNeg, reduceCtorEq, jup_ap, Nat.reduceEqDiff, Nat.reduceAdd, Int.one_ne_zero]
      rw [if_neg (show ¬ ((N : Int) ≤ (w : Int)) by omega)]
      by_cases e : f ≤ w
      · rw [if_neg (by omega), if_pos ⟨k1.mpr e, by omega⟩]
      · rw [if_pos (by omega), if_neg (fun q => e (k1.mp q.1))]
    · obtain ⟨z, z1, z2, z3, z4, z5⟩ := hz h6
      simp only [h6, z2, z3, true_and, and_true, true_or, or_true, or_false, false_or, false_and, and_false, not_true, not_false_iff, ne_eq, and_self, eq_self, if_true, if_false, ite_true, ite_false, Nat.reduceLeDiff, Int.cast_ofNat_Int, Int.reduceLT, Int.reduceLE, Int.reduceEq, Int.reduceNeg, reduceCtorEq, jup_ap, Nat.reduceEqDiff, Nat.reduceAdd, Int.one_ne_zero]
      by_cases e : f ≤ w
      · rw [if_neg (by omega)]
        by_cases e2 : w < z
        · rw [if_neg (by omega), if_pos ⟨k1.mpr e, z4.mpr e2⟩]
        · rw [if_pos (by omega), if_neg (fun q => e2 (z4.mp q.2))]
      · rw [if_pos (by omega), if_neg (fun q => e (k1.mp q.1))]
  · rw [if_pos (show 2 ≤ cellV c r 3 by omega), if_neg hg]
    have h6 : cellV c r 6 ≠ 0 := fun q => by
      rcases hro.2.1 with w | w
      · unfold isIns at w
        omega
      · exact hg w.2
    obtain ⟨z, z1, z2, z3, z4, z5⟩ := hz h6
    simp only [h6, z2, z3, true_and, and_true, true_or, or_true, or_false, false_or, false_and, and_false, not_true, not_false_iff, ne_eq, and_self, eq_self, if_true, if_false, ite_true, ite_false, Nat.reduceLeDiff, Int.cast_ofNat_Int, Int.reduceLT, Int.reduceLE, Int.reduceEq, Int.reduceNeg, reduceCtorEq, jup_ap, Nat.reduceEqDiff, Nat.reduceAdd]
    by_cases e : f ≤ w
    · rw [if_neg (by omega)]
      by_cases e2 : w ≤ z
      · rw [if_neg (by omega), if_pos ⟨k1.mpr e, z5.mpr e2⟩]
      · rw [if_pos (by omega), if_neg (fun q => e2 (z5.mp q.2))]
    · rw [if_pos (by omega), if_neg (fun q => e (k1.mp q.1))]
