theorem wl_M_al {c m : jM} {n : Nat} {p : Int} {N s : Nat} (hn : n ≤ 250) (hL : LkP c m n p N s) (L : Nat) {i j : Int} (hi : 0 ≤ i ∧ i < (s : Int)) (hj : 0 ≤ j ∧ j < (s : Int)) (Q : jV → jG → jM → Prop) :
    ∀ (d : Nat) (e : Int), 0 ≤ e → e + d = 4 → (∀ x : Int, 0 ≤ x → x < e → svK c (nc p) s i x n = svK c (nc p) s j x n) → wp 62 2 [jO (some 32), jI i, jI j, jI e] [] (g0 L) m Q = Q (jI (b01 (sgl c (nc p) s n i = sgl c (nc p) s n j))) (g0 L) m := by
  obtain ⟨b1, b2, b3, b4, b5⟩ := hL.len
  intro d
  induction d with
  | zero =>
    intro e e1 e2 hI
    have : e = 4 := by omega
    subst this
    rw [x_M_areAlike_2]
    simp only [x_M_areAlike_3, x_M_areAlike_4, x_M_areAlike_38, x_M_areAlike_39, Int.one_ne_zero, true_and, and_true, true_or, or_true, or_false, false_or, false_and, and_false, not_true, not_false_iff, ne_eq, and_self, eq_self, if_true, if_false, ite_true, ite_false, Nat.reduceLeDiff, Int.cast_ofNat_Int, Int.reduceLT, Int.reduceLE, Int.reduceEq, Int.reduceNeg, reduceCtorEq, jup_ap, Nat.reduceEqDiff, Nat.reduceAdd]
    rw [b01_1]
    unfold sgl
    rw [hI 0 (by omega) (by omega), hI 1 (by omega) (by omega), hI 2 (by omega) (by omega), hI 3 (by omega) (by omega)]
  | succ d ih =>
    intro e e1 e2 hI
    have hlt : ¬ 4 ≤ e := by omega
    have f1 := hL.2 i e hi.1 hi.2 e1 (by omega)
    have f2 := hL.2 j e hj.1 hj.2 e1 (by omega)
    have g1 : 0 ≤ 4 * i + e ∧ 4 * i + e < 1004 := by omega
    have g2 : 0 ≤ 4 * j + e ∧ 4 * j + e < 1004 := by omega
    rw [x_M_areAlike_2]
    simp only [x_M_areAlike_0, x_M_areAlike_1, x_M_areAlike_3, x_M_areAlike_4, x_M_areAlike_7, x_M_areAlike_8, x_M_areAlike_11, x_M_areAlike_12, x_M_areAlike_13, x_M_areAlike_14, x_M_areAlike_15, x_M_areAlike_16, x_M_areAlike_17, x_M_areAlike_18, x_M_areAlike_21, x_M_areAlike_22, x_M_areAlike_23, x_M_areAlike_24, x_M_areAlike_25, x_M_areAlike_26, x_M_areAlike_27, x_M_areAlike_30, x_M_areAlike_31, x_M_areAlike_32, x_M_areAlike_35, x_M_areAlike_38, x_M_areAlike_39, hlt, show jwr (4 * i) = 4 * i from jw1 (by omega) (by omega), show jwr (4 * i + e) = 4 * i + e from jw1 (by omega) (by omega), show jwr (4 * j) = 4 * j from jw1 (by omega) (by omega), show jwr (4 * j + e) = 4 * j + e from jw1 (by omega) (by omega), g1, g2, f1, f2, show jwr (e + 1) = e + 1 from jw1 (by omega) (by omega), sk_0, sk_1, sk_2, sk_3, sk_4, sk_5, sk_6, sk_7, sk_8, sk_9, sk_10, sk_11, sk_12, sk_13, sk_14, sk_15, sk_16, sk_17, sk_18, sk_19, sk_20, sk_21, sk_22, sk_23, sk_24, sk_25, sk_26, sk_27, sk_28, sk_29, sk_30, sk_31, sk_32, sk_33, sk_34, sk_35, sk_36, sk_37, sk_38, sk_39, sk_40, sk_41, sk_42, sk_43, sk_44, sk_45, sk_46, sk_47, sk_48, sk_49, sk_50, sk_51, sk_52, sk_53, sn_0, sn_1, sn_2, sn_3, sn_4, sn_5, sn_6, sn_7, sn_8, sn_9, sn_10, sn_11, sn_12, sn_13, sn_14, sn_15, sn_16, sn_17, sn_18, sn_19, sn_20, sn_21, sn_22, sn_23, sn_24, sn_25, sn_26, sn_27, sn_28, sn_29, sn_30, sn_31, sn_32, sn_33, sn_34, sn_35, sn_36, sn_37, sn_38, sn_39, sn_40, sn_41, sn_42, sn_43, sn_44, sn_45, sn_46, sn_47, sn_48, sn_49, sn_50, sn_51, sn_52, sn_53, rf_2_1, rf_2_2, rf_2_3, rf_2_4, rf_1_0, rf_1_1, rf_8_0, rf_7_0, rf_10_0, rf_7_1, rf_12_0, rf_7_2, rf_14_0, rf_7_3, rf_16_1, rf_16_2, rf_16_3, rf_16_4, rf_16_5, rf_16_6, rf_16_7, rf_1_2, rf_24_1, rf_24_2, rf_24_3, rf_24_4, rf_24_5, rf_24_6, rf_24_7, rf_1_3, rf_32_2, rf_32_3, rf_32_4, rf_32_5, rf_32_6, rf_32_7, rf_32_8, rf_32_9, rf_32_10, rf_32_12, rf_32_14, rf_32_15, rf_32_16, rf_32_18, rf_32_19, rf_32_21, rf_32_25, rf_32_26, rf_32_27, rf_32_28, rf_32_30, true_and, and_true, true_or, or_true, or_false, false_or, false_and, and_false, not_true, not_false_iff, ne_eq, and_self, eq_self, if_true, if_false, ite_true, ite_false, Nat.reduceLeDiff, Int.cast_ofNat_Int, Int.reduceLT, Int.reduceLE, Int.reduceEq, Int.reduceNeg, reduceCtorEq, jup_ap, Nat.reduceEqDiff, Nat.reduceAdd]
    by_cases q : svK c (nc p) s i e n = svK c (nc p) s j e n
    · rw [if_pos q, ih (e + 1) (by omega) (by omega) (fun x x1 x2 => ?_)]
      by_cases z : x = e
      · rw [z]; exact q
      · exact hI x x1 (by omega)
    · rw [if_neg q, b01_n]
      intro w
      unfold sgl at w
      simp only [List.cons.injEq, and_true] at w
      rcases (show e = 0 ∨ e = 1 ∨ e = 2 ∨ e = 3 by omega) with rfl | rfl | rfl | rfl
      · exact q w.1
      · exact q w.2.1
      · exact q w.2.2.1
      · exact q w.2.2.2
theorem w_M_areAlike {c m : jM} {n : Nat} {p : Int} {N s : Nat} (hn : n ≤ 250) (hL : LkP c m n p N s) (L : Nat) {i j : Int} (hi : 0 ≤ i ∧ i < (s : Int)) (hj : 0 ≤ j ∧ j < (s : Int)) (Q : jV → jG → jM → Prop) :
    wp 62 0 [jO (some 32), jI i, jI j, jU] [] (g0 L) m Q = Q (jI (b01 (sgl c (nc p) s n i = sgl c (nc p) s n j))) (g0 L) m := by
  simp only [x_M_areAlike_0, x_M_areAlike_1]
  exact wl_M_al hn hL L hi hj Q 4 0 (by omega) (by omega) (fun x a b => by omega)
def RF (m m' : jM) : Prop := Fr m m' [32] ∧ ∀ j, j ≠ 22 → j ≠ 23 → m' 32 j = m 32 j
theorem RF.rf {m : jM} : RF m m := ⟨Fr.rf, fun _ _ _ => rfl⟩
theorem RF.trans {m m1 m2 : jM} (h : RF m m1) (h' : RF m1 m2) : RF m m2 := ⟨h.1.trans h'.1, fun j a b => (h'.2 j a b).trans (h.2 j a b)⟩
theorem RF.up {m m1 : jM} (h : RF m m1) {i x : Int} (hi : i = 22 ∨ i = 23) : RF m (jup m1 32 i x) := ⟨h.1.up (by simp), fun j a b => by
  rw [jup_ap, if_neg (by omega)]
  exact h.2 j a b⟩
theorem RF.mk {m m' : jM} (h : RF m m') : MK m m' := ⟨fun b hb j => h.1 b (by simp; omega) j, h.2 1 (by decide) (by decide)⟩
theorem RF.lk {c m m' : jM} {n : Nat} {p : Int} {N s : Nat} (h : RF m m') (hL : LkP c m n p N s) : LkP c m' n p N s := hL.fr (fun b b1 b2 j => h.1 b (by simp; omega) j) (h.2 13 (by decide) (by decide)) (h.2 17 (by decide) (by decide))
theorem rE_split {q : Int → Bool} {k : Int} : ∀ (d : Nat) (i : Int), ∃ d' : Nat, rE q i d + d' = i + d ∧ (0 < d' → q (rE q i d) = true) ∧ (∀ cnt, rS q k cnt i d = rS q k cnt (rE q i d) d') ∧ sumI (fun i => b2i (q i)) i d = sumI (fun i => b2i (q i)) (rE q i d) d'
  | 0, i => ⟨0, by simp [rE], fun h => by omega, fun _ => rfl, rfl⟩
  | d + 1, i => by
    by_cases e : q i = true
    · have hr : rE q i (d + 1) = i := by unfold rE; rw [if_pos e]
      rw [hr]
      exact ⟨d + 1, rfl, fun _ => e, fun _ => rfl, rfl⟩
    · have hr : rE q i (d + 1) = rE q (i + 1) d := by
        conv => lhs; unfold rE
        rw [if_neg e]
      obtain ⟨d', h1, h2, h3, h4⟩ := rE_split (q := q) (k := k) d (i + 1)
      rw [hr]
      refine ⟨d', by omega, h2, fun cnt => ?_, ?_⟩
      · rw [← h3]
        conv => lhs; unfold rS
        rw [if_neg e]
      · rw [← h4]
        show b2i (q i) + sumI (fun i => b2i (q i)) (i + 1) d = _
        rw [show b2i (q i) = 0 by unfold b2i; rw [if_neg e], Int.zero_add]
theorem sumQ_bd (q : Int → Bool) : ∀ (d : Nat) (i : Int), 0 ≤ sumI (fun i => b2i (q i)) i d ∧ sumI (fun i => b2i (q i)) i d ≤ d
  | 0, i => by simp [sumI]
  | d + 1, i => by
    have := sumQ_bd q d (i + 1)
    have hb := b2i_01 (q i)
    show 0 ≤ b2i (q i) + sumI (fun i => b2i (q i)) (i + 1) d ∧ b2i (q i) + sumI (fun i => b2i (q i)) (i + 1) d ≤ _
    omega
theorem rS_iff {q : Int → Bool} {k : Int} : ∀ (d : Nat) (cnt i : Int), 0 ≤ i → (rS q k cnt i d ≠ -1 ↔ cnt ≤ k ∧ k < cnt + sumI (fun i => b2i (q i)) i d)
  | 0, cnt, i, h0 => by
    simp only [rS, sumI, ne_eq, not_true, false_iff]
    omega
  | d + 1, cnt, i, h0 => by
    have hb := sumQ_bd q d (i + 1)
    have es : sumI (fun i => b2i (q i)) i (d + 1) = b2i (q i) + sumI (fun i => b2i (q i)) (i + 1) d := rfl
    rw [es]
    unfold rS
    by_cases e : q i = true
    · rw [if_pos e, e, show b2i true = 1 from rfl]
      by_cases ek : cnt = k
      · rw [if_pos ek]
        constructor
        · intro _; omega
        · intro _; omega
      · rw [if_neg ek, rS_iff d (cnt + 1) (i + 1) (by omega)]
        omega
    · rw [if_neg e, rS_iff d cnt (i + 1) (by omega), show b2i (q i) = 0 by unfold b2i; rw [if_neg e]]
      omega
theorem wl_M_r1 {c m : jM} {n : Nat} {p : Int} {N s : Nat} (hn : n ≤ 250) (hL : LkP c m n p N s) (L : Nat) (k cnt t0 : Int) (h0 : 0 ≤ t0) (Q : jV → jG → jM → Prop)
    (e : Int) (hQ : ∀ m', RF m m' → m' 32 22 = t0 → m' 32 23 = e → wp 63 65 [jO (some 32), jI k, jI cnt] [] (g0 L) m' Q) :
    ∀ (d : Nat) (t : Int) (m1 : jM), t0 < t → t + d = (s : Int) → sgl c (nc p) s n (t - 1) = sgl c (nc p) s n t0 → rE (qS c (nc p) s n) t d = e → RF m m1 → m1 32 22 = t0 → m1 32 23 = t → wp 63 26 [jO (some 32), jI k, jI cnt] [] (g0 L) m1 Q := by
  intro d
  induction d with
  | zero =>
    intro t m1 t1 t2 t3 t4 hF g1 g2
    have hL1 := hF.lk hL
    obtain ⟨b1, b2, b3, b4, b5⟩ := hL1.len
    have hle : (s : Int) ≤ t := by omega
    rw [x_M_findRun_26]
    simp only [x_M_findRun_27, x_M_findRun_30, x_M_findRun_31, x_M_findRun_34, b3, g2, hle, sk_0, sk_1, sk_2, sk_3, sk_4, sk_5, sk_6, sk_7, sk_8, sk_9, sk_10, sk_11, sk_12, sk_13, sk_14, sk_15, sk_16, sk_17, sk_18, sk_19, sk_20, sk_21, sk_22, sk_23, sk_24, sk_25, sk_26, sk_27, sk_28, sk_29, sk_30, sk_31, sk_32, sk_33, sk_34, sk_35, sk_36, sk_37, sk_38, sk_39, sk_40, sk_41, sk_42, sk_43, sk_44, sk_45, sk_46, sk_47, sk_48, sk_49, sk_50, sk_51, sk_52, sk_53, sn_0, sn_1, sn_2, sn_3, sn_4, sn_5, sn_6, sn_7, sn_8, sn_9, sn_10, sn_11, sn_12, sn_13, sn_14, sn_15, sn_16, sn_17, sn_18, sn_19, sn_20, sn_21, sn_22, sn_23, sn_24, sn_25, sn_26, sn_27, sn_28, sn_29, sn_30, sn_31, sn_32, sn_33, sn_34, sn_35, sn_36, sn_37, sn_38, sn_39, sn_40, sn_41, sn_42, sn_43, sn_44, sn_45, sn_46, sn_47, sn_48, sn_49, sn_50, sn_51, sn_52, sn_53, rf_2_1, rf_2_2, rf_2_3, rf_2_4, rf_1_0, rf_1_1, rf_8_0, rf_7_0, rf_10_0, rf_7_1, rf_12_0, rf_7_2, rf_14_0, rf_7_3, rf_16_1, rf_16_2, rf_16_3, rf_16_4, rf_16_5, rf_16_6, rf_16_7, rf_1_2, rf_24_1, rf_24_2, rf_24_3, rf_24_4, rf_24_5, rf_24_6, rf_24_7, rf_1_3, rf_32_2, rf_32_3, rf_32_4, rf_32_5, rf_32_6, rf_32_7, rf_32_8, rf_32_9, rf_32_10, rf_32_12, rf_32_14, rf_32_15, rf_32_16, rf_32_18, rf_32_19, rf_32_21, rf_32_25, rf_32_26, rf_32_27, rf_32_28, rf_32_30, true_and, and_true, true_or, or_true, or_false, false_or, false_and, and_false, not_true, not_false_iff, ne_eq, and_self, eq_self, if_true, if_false, ite_true, ite_false, Nat.reduceLeDiff, Int.cast_ofNat_Int, Int.reduceLT, Int.reduceLE, Int.reduceEq, Int.reduceNeg, reduceCtorEq, jup_ap, Nat.reduceEqDiff, Nat.reduceAdd]
    exact hQ m1 hF g1 (by rw [g2, ← t4]; rfl)
  | succ d ih =>
    intro t m1 t1 t2 t3 t4 hF g1 g2
    have hL1 := hF.lk hL
    obtain ⟨b1, b2, b3, b4, b5⟩ := hL1.len
    have hle : ¬ (s : Int) ≤ t := by omega
    have e1 : jwr (t + 1) = t + 1 := jw1 (by omega) (by omega)
    rw [x_M_findRun_26]
    simp only [x_M_findRun_27, x_M_findRun_30, x_M_findRun_31, x_M_findRun_34, x_M_findRun_37, x_M_findRun_38, x_M_findRun_39, x_M_findRun_42, x_M_findRun_43, x_M_findRun_46, x_M_findRun_49, x_M_findRun_52, x_M_findRun_53, x_M_findRun_54, x_M_findRun_57, x_M_findRun_58, x_M_findRun_59, x_M_findRun_62, w_M_areAlike hn hL1 L (i := t0) (j := t) (by omega) (by omega), b01_0, b3, g1, g2, e1, hle, sk_0, sk_1, sk_2, sk_3, sk_4, sk_5, sk_6, sk_7, sk_8, sk_9, sk_10, sk_11, sk_12, sk_13, sk_14, sk_15, sk_16, sk_17, sk_18, sk_19, sk_20, sk_21, sk_22, sk_23, sk_24, sk_25, sk_26, sk_27, sk_28, sk_29, sk_30, sk_31, sk_32, sk_33, sk_34, sk_35, sk_36, sk_37, sk_38, sk_39, sk_40, sk_41, sk_42, sk_43, sk_44, sk_45, sk_46, sk_47, sk_48, sk_49, sk_50, sk_51, sk_52, sk_53, sn_0, sn_1, sn_2, sn_3, sn_4, sn_5, sn_6, sn_7, sn_8, sn_9, sn_10, sn_11, sn_12, sn_13, sn_14, sn_15, sn_16, sn_17, sn_18, sn_19, sn_20, sn_21, sn_22, sn_23, sn_24, sn_25, sn_26, sn_27, sn_28, sn_29, sn_30, sn_31, sn_32, sn_33, sn_34, sn_35, sn_36, sn_37, sn_38, sn_39, sn_40, sn_41, sn_42, sn_43, sn_44, sn_45, sn_46, sn_47, sn_48, sn_49, sn_50, sn_51, sn_52, sn_53, rf_2_1, rf_2_2, rf_2_3, rf_2_4, rf_1_0, rf_1_1, rf_8_0, rf_7_0, rf_10_0, rf_7_1, rf_12_0, rf_7_2, rf_14_0, rf_7_3, rf_16_1, rf_16_2, rf_16_3, rf_16_4, rf_16_5, rf_16_6, rf_16_7, rf_1_2, rf_24_1, rf_24_2, rf_24_3, rf_24_4, rf_24_5, rf_24_6, rf_24_7, rf_1_3, rf_32_2, rf_32_3, rf_32_4, rf_32_5, rf_32_6, rf_32_7, rf_32_8, rf_32_9, rf_32_10, rf_32_12, rf_32_14, rf_32_15, rf_32_16, rf_32_18, rf_32_19, rf_32_21, rf_32_25, rf_32_26, rf_32_27, rf_32_28, rf_32_30, true_and, and_true, true_or, or_true, or_false, false_or, false_and, and_false, not_true, not_false_iff, ne_eq, and_self, eq_self, if_true, if_false, ite_true, ite_false, Nat.reduceLeDiff, Int.cast_ofNat_Int, Int.reduceLT, Int.reduceLE, Int.reduceEq, Int.reduceNeg, reduceCtorEq, jup_ap, Nat.reduceEqDiff, Nat.reduceAdd]
    have hq : qS c (nc p) s n t = true ↔ ¬ sgl c (nc p) s n t0 = sgl c (nc p) s n t := by
      unfold qS
      rw [decide_eq_true_eq, t3]
      constructor
      · rintro (w | w)
        · omega
        · exact fun z => w z.symm
      · intro w
        exact Or.inr (fun z => w z.symm)
    unfold rE at t4
    by_cases q : sgl c (nc p) s n t0 = sgl c (nc p) s n t
    · rw [if_neg (fun w => w q)]
      rw [if_neg (fun w => hq.mp w q)] at t4
      refine ih (t + 1) _ (by omega) (by omega) ?_ t4 (hF.up (Or.inr rfl)) (by rw [jup_ap, if_neg (by omega)]; exact g1) (by rw [jup_ap, if_pos ⟨rfl, rfl⟩])
      rw [show t + 1 - 1 = t by omega]
      exact q.symm
    · rw [if_pos q]
      rw [if_pos (hq.mpr q)] at t4
      exact hQ m1 hF g1 (by rw [g2]; exact t4)
theorem wl_M_r0 {c m : jM} {n : Nat} {p : Int} {N s : Nat} (hn : n ≤ 250) (hL : LkP c m n p N s) (L : Nat) (k : Int) (Q : jV → jG → jM → Prop) (R T : Int)
    (h1 : R ≠ -1 → ∀ m', RF m m' → m' 32 22 = R → m' 32 23 = rE (qS c (nc p) s n) (R + 1) (s - (R.toNat + 1)) → Q (jI k) (g0 L) m') (h0 : R = -1 → ∀ m', RF m m' → Q (jI T) (g0 L) m') :
    ∀ (f d : Nat) (t cnt : Int) (m1 : jM), d ≤ f → 0 ≤ t → t + d = (s : Int) → (0 < d → qS c (nc p) s n t = true) → 0 ≤ cnt → cnt ≤ t → rS (qS c (nc p) s n) k cnt t d = R → cnt + sumI (fun i => b2i (qS c (nc p) s n i)) t d = T → RF m m1 → m1 32 23 = t → wp 63 7 [jO (some 32), jI k, jI cnt] [] (g0 L) m1 Q := by
  intro f
  induction f with
  | zero =>
    intro d t cnt m1 hd t1 t2 t3 c1 c2 hR hT hF g
    have : d = 0 := by omega
    subst this
    obtain ⟨b1, b2, b3, b4, b5⟩ := (hF.lk hL).len
    have hle : (s : Int) ≤ t := by omega
    rw [x_M_findRun_7]
    simp only [x_M_findRun_8, x_M_findRun_11, x_M_findRun_12, x_M_findRun_15, x_M_findRun_78, x_M_findRun_79, b3, g, hle, sk_0, sk_1, sk_2, sk_3, sk_4, sk_5, sk_6, sk_7, sk_8, sk_9, sk_10, sk_11, sk_12, sk_13, sk_14, sk_15, sk_16, sk_17, sk_18, sk_19, sk_20, sk_21, sk_22, sk_23, sk_24, sk_25, sk_26, sk_27, sk_28, sk_29, sk_30, sk_31, sk_32, sk_33, sk_34, sk_35, sk_36, sk_37, sk_38, sk_39, sk_40, sk_41, sk_42, sk_43, sk_44, sk_45, sk_46, sk_47, sk_48, sk_49, sk_50, sk_51, sk_52, sk_53, sn_0, sn_1, sn_2, sn_3, sn_4, sn_5, sn_6, sn_7, sn_8, sn_9, sn_10, sn_11, sn_12, sn_13, sn_14, sn_15, sn_16, sn_17, sn_18, sn_19, sn_20, sn_21, sn_22, sn_23, sn_24, sn_25, sn_26, sn_27, sn_28, sn_29, sn_30, sn_31, sn_32, sn_33, sn_34, sn_35, sn_36, sn_37, sn_38, sn_39, sn_40, sn_41, sn_42, sn_43, sn_44, sn_45, sn_46, sn_47, sn_48, sn_49, sn_50, sn_51, sn_52, sn_53, rf_2_1, rf_2_2, rf_2_3, rf_2_4, rf_1_0, rf_1_1, rf_8_0, rf_7_0, rf_10_0, rf_7_1, rf_12_0, rf_7_2, rf_14_0, rf_7_3, rf_16_1, rf_16_2, rf_16_3, rf_16_4, rf_16_5, rf_16_6, rf_16_7, rf_1_2, rf_24_1, rf_24_2, rf_24_3, rf_24_4, rf_24_5, rf_24_6, rf_24_7, rf_1_3, rf_32_2, rf_32_3, rf_32_4, rf_32_5, rf_32_6, rf_32_7, rf_32_8, rf_32_9, rf_32_10, rf_32_12, rf_32_14, rf_32_15, rf_32_16, rf_32_18, rf_32_19, rf_32_21, rf_32_25, rf_32_26, rf_32_27, rf_32_28, rf_32_30, true_and, and_true, true_or, or_true, or_false, false_or, false_and, and_false, not_true, not_false_iff, ne_eq, and_self, eq_self, if_true, if_false, ite_true, ite_false, Nat.reduceLeDiff, Int.cast_ofNat_Int, Int.reduceLT, Int.reduceLE, Int.reduceEq, Int.reduceNeg, reduceCtorEq, jup_ap, Nat.reduceEqDiff, Nat.reduceAdd]
    rw [show cnt = T by rw [← hT]; simp [sumI]]
    exact h0 hR.symm m1 hF
  | succ f ih =>
    intro d t cnt m1 hd t1 t2 t3 c1 c2 hR hT hF g
    obtain ⟨b1, b2, b3, b4, b5⟩ := (hF.lk hL).len
    cases d with
    | zero =>
      have hle : (s : Int) ≤ t := by omega
      rw [x_M_findRun_7]
      simp only [x_M_findRun_8, x_M_findRun_11, x_M_findRun_12, x_M_findRun_15, x_M_findRun_78, x_M_findRun_79, b3, g, hle, sk_0, sk_1, sk_2, sk_3, sk_4, sk_5, sk_6, sk_7, sk_8, sk_9, sk_10, sk_11, sk_12, sk_13, sk_14, sk_15, sk_16, sk_17, sk_18, sk_19, sk_20, sk_21, sk_22, sk_23, sk_24, sk_25, sk_26, sk_27, sk_28, sk_29, sk_30, sk_31, sk_32, sk_33, sk_34, sk_35, sk_36, sk_37, sk_38, sk_39, sk_40, sk_41, sk_42, sk_43, sk_44, sk_45, sk_46, sk_47, sk_48, sk_49, sk_50, sk_51, sk_52, sk_53, sn_0, sn_1, sn_2, sn_3, sn_4, sn_5, sn_6, sn_7, sn_8, sn_9, sn_10, sn_11, sn_12, sn_13, sn_14, sn_15, sn_16, sn_17, sn_18, sn_19, sn_20, sn_21, sn_22, sn_23, sn_24, sn_25, sn_26, sn_27, sn_28, sn_29, sn_30, sn_31, sn_32, sn_33, sn_34, sn_35, sn_36, sn_37, sn_38, sn_39, sn_40, sn_41, sn_42, sn_43, sn_44, sn_45, sn_46, sn_47, sn_48, sn_49, sn_50, sn_51, sn_52, sn_53, rf_2_1, rf_2_2, rf_2_3, rf_2_4, rf_1_0, rf_1_1, rf_8_0, rf_7_0, rf_10_0, rf_7_1, rf_12_0, rf_7_2, rf_14_0, rf_7_3, rf_16_1, rf_16_2, rf_16_3, rf_16_4, rf_16_5, rf_16_6, rf_16_7, rf_1_2, rf_24_1, rf_24_2, rf_24_3, rf_24_4, rf_24_5, rf_24_6, rf_24_7, rf_1_3, rf_32_2, rf_32_3, rf_32_4, rf_32_5, rf_32_6, rf_32_7, rf_32_8, rf_32_9, rf_32_10, rf_32_12, rf_32_14, rf_32_15, rf_32_16, rf_32_18, rf_32_19, rf_32_21, rf_32_25, rf_32_26, rf_32_27, rf_32_28, rf_32_30, true_and, and_true, true_or, or_true, or_false, false_or, false_and, and_false, not_true, not_false_iff, ne_eq, and_self, eq_self, if_true, if_false, ite_true, ite_false, Nat.reduceLeDiff, Int.cast_ofNat_Int, Int.reduceLT, Int.reduceLE, Int.reduceEq, Int.reduceNeg, reduceCtorEq, jup_ap, Nat.reduceEqDiff, Nat.reduceAdd]
      rw [show cnt = T by rw [← hT]; simp [sumI]]
      exact h0 hR.symm m1 hF
    | succ d =>
      have hle : ¬ (s : Int) ≤ t := by omega
      have hqt := t3 (by omega)
      have e1 : jwr (t + 1) = t + 1 := jw1 (by omega) (by omega)
      have hF2 : RF m (jup m1 32 22 t) := hF.up (Or.inl rfl)
      have hL2 := hF2.lk hL
      have hb3 := hL2.len.2.2.1
      have g2 : (jup m1 32 22 t) 32 23 = t := by rw [jup_ap, if_neg (by omega)]; exact g
      have g3 : (jup m1 32 22 t) 32 22 = t := by rw [jup_ap, if_pos ⟨rfl, rfl⟩]
      have hq1 : rS (qS c (nc p) s n) k cnt t (d + 1) = if cnt = k then t else rS (qS c (nc p) s n) k (cnt + 1) (t + 1) d := by
        conv => lhs; unfold rS
        rw [if_pos hqt]
      have hq2 : sumI (fun i => b2i (qS c (nc p) s n i)) t (d + 1) = 1 + sumI (fun i => b2i (qS c (nc p) s n i)) (t + 1) d := by
        show b2i (qS c (nc p) s n t) + sumI (fun i => b2i (qS c (nc p) s n i)) (t + 1) d = _
        rw [hqt]
        rfl
      rw [x_M_findRun_7]
      simp only [x_M_findRun_8, x_M_findRun_11, x_M_findRun_12, x_M_findRun_15, x_M_findRun_18, x_M_findRun_19, x_M_findRun_20, x_M_findRun_23, b3, g, hle, sk_0, sk_1, sk_2, sk_3, sk_4, sk_5, sk_6, sk_7, sk_8, sk_9, sk_10, sk_11, sk_12, sk_13, sk_14, sk_15, sk_16, sk_17, sk_18, sk_19, sk_20, sk_21, sk_22, sk_23, sk_24, sk_25, sk_26, sk_27, sk_28, sk_29, sk_30, sk_31, sk_32, sk_33, sk_34, sk_35, sk_36, sk_37, sk_38, sk_39, sk_40, sk_41, sk_42, sk_43, sk_44, sk_45, sk_46, sk_47, sk_48, sk_49, sk_50, sk_51, sk_52, sk_53, sn_0, sn_1, sn_2, sn_3, sn_4, sn_5, sn_6, sn_7, sn_8, sn_9, sn_10, sn_11, sn_12, sn_13, sn_14, sn_15, sn_16, sn_17, sn_18, sn_19, sn_20, sn_21, sn_22, sn_23, sn_24, sn_25, sn_26, sn_27, sn_28, sn_29, sn_30, sn_31, sn_32, sn_33, sn_34, sn_35, sn_36, sn_37, sn_38, sn_39, sn_40, sn_41, sn_42, sn_43, sn_44, sn_45, sn_46, sn_47, sn_48, sn_49, sn_50, sn_51, sn_52, sn_53, rf_2_1, rf_2_2, rf_2_3, rf_2_4, rf_1_0, rf_1_1, rf_8_0, rf_7_0, rf_10_0, rf_7_1, rf_12_0, rf_7_2, rf_14_0, rf_7_3, rf_16_1, rf_16_2, rf_16_3, rf_16_4, rf_16_5, rf_16_6, rf_16_7, rf_1_2, rf_24_1, rf_24_2, rf_24_3, rf_24_4, rf_24_5, rf_24_6, rf_24_7, rf_1_3, rf_32_2, rf_32_3, rf_32_4, rf_32_5, rf_32_6, rf_32_7, rf_32_8, rf_32_9, rf_32_10, rf_32_12, rf_32_14, rf_32_15, rf_32_16, rf_32_18, rf_32_19, rf_32_21, rf_32_25, rf_32_26, rf_32_27, rf_32_28, rf_32_30, true_and, and_true, true_or, or_true, or_false, false_or, false_and, and_false, not_true, not_false_iff, ne_eq, and_self, eq_self, if_true, if_false, ite_true, ite_false, Nat.reduceLeDiff, Int.cast_ofNat_Int, Int.reduceLT, Int.reduceLE, Int.reduceEq, Int.reduceNeg, reduceCtorEq, jup_ap, Nat.reduceEqDiff, Nat.reduceAdd]
      generalize jup m1 32 22 t = m2 at *
      rw [x_M_findRun_26]
      simp only [x_M_findRun_27, x_M_findRun_30, x_M_findRun_31, x_M_findRun_34, x_M_findRun_37, x_M_findRun_38, x_M_findRun_39, x_M_findRun_42, x_M_findRun_43, x_M_findRun_46, x_M_findRun_49, x_M_findRun_52, x_M_findRun_53, x_M_findRun_54, x_M_findRun_57, x_M_findRun_58, x_M_findRun_59, x_M_findRun_62, w_M_areAlike hn hL2 L (i := t) (j := t) (by omega) (by omega), b01_0, hb3, g2, g3, e1, hle, sk_0, sk_1, sk_2, sk_3, sk_4, sk_5, sk_6, sk_7, sk_8, sk_9, sk_10, sk_11, sk_12, sk_13, sk_14, sk_15, sk_16, sk_17, sk_18, sk_19, sk_20, sk_21, sk_22, sk_23, sk_24, sk_25, sk_26, sk_27, sk_28, sk_29, sk_30, sk_31, sk_32, sk_33, sk_34, sk_35, sk_36, sk_37, sk_38, sk_39, sk_40, sk_41, sk_42, sk_43, sk_44, sk_45, sk_46, sk_47, sk_48, sk_49, sk_50, sk_51, sk_52, sk_53, sn_0, sn_1, sn_2, sn_3, sn_4, sn_5, sn_6, sn_7, sn_8, sn_9, sn_10, sn_11, sn_12, sn_13, sn_14, sn_15, sn_16, sn_17, sn_18, sn_19, sn_20, sn_21, sn_22, sn_23, sn_24, sn_25, sn_26, sn_27, sn_28, sn_29, sn_30, sn_31, sn_32, sn_33, sn_34, sn_35, sn_36, sn_37, sn_38, sn_39, sn_40, sn_41, sn_42, sn_43, sn_44, sn_45, sn_46, sn_47, sn_48, sn_49, sn_50, sn_51, sn_52, sn_53, rf_2_1, rf_2_2, rf_2_3, rf_2_4, rf_1_0, rf_1_1, rf_8_0, rf_7_0, rf_10_0, rf_7_1, rf_12_0, rf_7_2, rf_14_0, rf_7_3, rf_16_1, rf_16_2, rf_16_3, rf_16_4, rf_16_5, rf_16_6, rf_16_7, rf_1_2, rf_24_1, rf_24_2, rf_24_3, rf_24_4, rf_24_5, rf_24_6, rf_24_7, rf_1_3, rf_32_2, rf_32_3, rf_32_4, rf_32_5, rf_32_6, rf_32_7, rf_32_8, rf_32_9, rf_32_10, rf_32_12, rf_32_14, rf_32_15, rf_32_16, rf_32_18, rf_32_19, rf_32_21, rf_32_25, rf_32_26, rf_32_27, rf_32_28, rf_32_30, true_and, and_true, true_or, or_true, or_false, false_or, false_and, and_false, not_true, not_false_iff, ne_eq, and_self, eq_self, if_true, if_false, ite_true, ite_false, Nat.reduceLeDiff, Int.cast_ofNat_Int, Int.reduceLT, Int.reduceLE, Int.reduceEq, Int.reduceNeg, reduceCtorEq, jup_ap, Nat.reduceEqDiff, Nat.reduceAdd]
      refine wl_M_r1 hn hL L k cnt t t1 Q (rE (qS c (nc p) s n) (t + 1) d) (fun m3 hF3 e22 e23 => ?_) d (t + 1) _ (by omega) (by omega) (by rw [show t + 1 - 1 = t by omega]) rfl (hF2.up (Or.inr rfl)) (by rw [jup_ap, if_neg (by omega)]; exact g3) (by rw [jup_ap, if_pos ⟨rfl, rfl⟩])
      simp only [x_M_findRun_65, x_M_findRun_66, x_M_findRun_67, x_M_findRun_70, x_M_findRun_71, x_M_findRun_72, x_M_findRun_75, true_and, and_true, true_or, or_true, or_false, false_or, false_and, and_false, not_true, not_false_iff, ne_eq, and_self, eq_self, if_true, if_false, ite_true, ite_false, Nat.reduceLeDiff, Int.cast_ofNat_Int, Int.reduceLT, Int.reduceLE, Int.reduceEq, Int.reduceNeg, reduceCtorEq, jup_ap, Nat.reduceEqDiff, Nat.reduceAdd]
      by_cases ck : cnt = k
      · rw [if_neg (fun q => q ck)]
        rw [hq1, if_pos ck] at hR
        refine h1 (by omega) m3 hF3 (by rw [e22]; exact hR) ?_
        rw [e23, ← hR, show s - (t.toNat + 1) = d by omega]
      · rw [if_pos ck, show jwr (cnt + 1) = cnt + 1 from jw1 (by omega) (by omega)]
        rw [hq1, if_neg ck] at hR
        rw [hq2] at hT
        obtain ⟨d', k1, k2, k3, k4⟩ := rE_split (q := qS c (nc p) s n) (k := k) d (t + 1)
        have hbd := rE_bd (q := qS c (nc p) s n) d (t + 1)
        rw [k3] at hR
        rw [k4] at hT
        exact ih d' _ (cnt + 1) m3 (by omega) (by omega) (by omega) k2 (by omega) (by omega) hR (by omega) hF3 e23
theorem w_M_findRun {c m : jM} {n : Nat} {p : Int} {N s : Nat} (hn : n ≤ 250) (hL : LkP c m n p N s) (L : Nat) (k : Int) (Q : jV → jG → jM → Prop)
    (h1 : rnS c n p k ≠ -1 → ∀ m', RF m m' → m' 32 22 = rnS c n p k → m' 32 23 = rE (qS c (nc p) s n) (rnS c n p k + 1) (s - ((rnS c n p k).toNat + 1)) → Q (jI k) (g0 L) m')
    (h0 : rnS c n p k = -1 → ∀ m', RF m m' → Q (jI (sumI (fun i => b2i (qS c (nc p) s n i)) 0 s)) (g0 L) m') : wp 63 0 [jO (some 32), jI k, jU] [] (g0 L) m Q := by
  simp only [x_M_findRun_0, x_M_findRun_1, x_M_findRun_2, x_M_findRun_3, x_M_findRun_4, sk_0, sk_1, sk_2, sk_3, sk_4, sk_5, sk_6, sk_7, sk_8, sk_9, sk_10, sk_11, sk_12, sk_13, sk_14, sk_15, sk_16, sk_17, sk_18, sk_19, sk_20, sk_21, sk_22, sk_23, sk_24, sk_25, sk_26, sk_27, sk_28, sk_29, sk_30, sk_31, sk_32, sk_33, sk_34, sk_35, sk_36, sk_37, sk_38, sk_39, sk_40, sk_41, sk_42, sk_43, sk_44, sk_45, sk_46, sk_47, sk_48, sk_49, sk_50, sk_51, sk_52, sk_53, sn_0, sn_1, sn_2, sn_3, sn_4, sn_5, sn_6, sn_7, sn_8, sn_9, sn_10, sn_11, sn_12, sn_13, sn_14, sn_15, sn_16, sn_17, sn_18, sn_19, sn_20, sn_21, sn_22, sn_23, sn_24, sn_25, sn_26, sn_27, sn_28, sn_29, sn_30, sn_31, sn_32, sn_33, sn_34, sn_35, sn_36, sn_37, sn_38, sn_39, sn_40, sn_41, sn_42, sn_43, sn_44, sn_45, sn_46, sn_47, sn_48, sn_49, sn_50, sn_51, sn_52, sn_53, rf_2_1, rf_2_2, rf_2_3, rf_2_4, rf_1_0, rf_1_1, rf_8_0, rf_7_0, rf_10_0, rf_7_1, rf_12_0, rf_7_2, rf_14_0, rf_7_3, rf_16_1, rf_16_2, rf_16_3, rf_16_4, rf_16_5, rf_16_6, rf_16_7, rf_1_2, rf_24_1, rf_24_2, rf_24_3, rf_24_4, rf_24_5, rf_24_6, rf_24_7, rf_1_3, rf_32_2, rf_32_3, rf_32_4, rf_32_5, rf_32_6, rf_32_7, rf_32_8, rf_32_9, rf_32_10, rf_32_12, rf_32_14, rf_32_15, rf_32_16, rf_32_18, rf_32_19, rf_32_21, rf_32_25, rf_32_26, rf_32_27, rf_32_28, rf_32_30, true_and, and_true, true_or, or_true, or_false, false_or, false_and, and_false, not_true, not_false_iff, ne_eq, and_self, eq_self, if_true, if_false, ite_true, ite_false, Nat.reduceLeDiff, Int.cast_ofNat_Int, Int.reduceLT, Int.reduceLE, Int.reduceEq, Int.reduceNeg, reduceCtorEq, jup_ap, Nat.reduceEqDiff, Nat.reduceAdd]
  have e : nV c p = s := hL.len.2.1
  unfold rnS at h1 h0
  rw [e] at h1 h0
  exact wl_M_r0 hn hL L k Q _ _ h1 h0 s s 0 0 _ (Nat.le_refl _) (by omega) (by omega) (fun _ => by unfold qS; simp) (by omega) (by omega) rfl (Int.zero_add _) (RF.rf.up (Or.inr rfl)) (by rw [jup_ap, if_pos ⟨rfl, rfl⟩])
theorem w_M_runs {c m : jM} {n : Nat} {p : Int} {N s : Nat} (hn : n ≤ 250) (hL : LkP c m n p N s) (L : Nat) (Q : jV → jG → jM → Prop)
    (hQ : ∀ m', RF m m' → Q (jI (sumI (fun i => b2i (qS c (nc p) s n i)) 0 s)) (g0 L) m') : wp 65 0 [jO (some 32)] [] (g0 L) m Q := by
  have l := hL.len
  simp only [x_M_runs_0, x_M_runs_1, x_M_runs_4, x_M_runs_7, sk_0, sk_1, sk_2, sk_3, sk_4, sk_5, sk_6, sk_7, sk_8, sk_9, sk_10, sk_11, sk_12, sk_13, sk_14, sk_15, sk_16, sk_17, sk_18, sk_19, sk_20, sk_21, sk_22, sk_23, sk_24, sk_25, sk_26, sk_27, sk_28, sk_29, sk_30, sk_31, sk_32, sk_33, sk_34, sk_35, sk_36, sk_37, sk_38, sk_39, sk_40, sk_41, sk_42, sk_43, sk_44, sk_45, sk_46, sk_47, sk_48, sk_49, sk_50, sk_51, sk_52, sk_53, sn_0, sn_1, sn_2, sn_3, sn_4, sn_5, sn_6, sn_7, sn_8, sn_9, sn_10, sn_11, sn_12, sn_13, sn_14, sn_15, sn_16, sn_17, sn_18, sn_19, sn_20, sn_21, sn_22, sn_23, sn_24, sn_25, sn_26, sn_27, sn_28, sn_29, sn_30, sn_31, sn_32, sn_33, sn_34, sn_35, sn_36, sn_37, sn_38, sn_39, sn_40, sn_41, sn_42, sn_43, sn_44, sn_45, sn_46, sn_47, sn_48, sn_49, sn_50, sn_51, sn_52, sn_53, rf_2_1, rf_2_2, rf_2_3, rf_2_4, rf_1_0, rf_1_1, rf_8_0, rf_7_0, rf_10_0, rf_7_1, rf_12_0, rf_7_2, rf_14_0, rf_7_3, rf_16_1, rf_16_2, rf_16_3, rf_16_4, rf_16_5, rf_16_6, rf_16_7, rf_1_2, rf_24_1, rf_24_2, rf_24_3, rf_24_4, rf_24_5, rf_24_6, rf_24_7, rf_1_3, rf_32_2, rf_32_3, rf_32_4, rf_32_5, rf_32_6, rf_32_7, rf_32_8, rf_32_9, rf_32_10, rf_32_12, rf_32_14, rf_32_15, rf_32_16, rf_32_18, rf_32_19, rf_32_21, rf_32_25, rf_32_26, rf_32_27, rf_32_28, rf_32_30, true_and, and_true, true_or, or_true, or_false, false_or, false_and, and_false, not_true, not_false_iff, ne_eq, and_self, eq_self, if_true, if_false, ite_true, ite_false, Nat.reduceLeDiff, Int.cast_ofNat_Int, Int.reduceLT, Int.reduceLE, Int.reduceEq, Int.reduceNeg, reduceCtorEq, jup_ap, Nat.reduceEqDiff, Nat.reduceAdd]
  refine w_M_findRun hn hL L 251 _ (fun h => ?_) (fun h m' hF => ?_)
  · exfalso
    unfold rnS at h
    rw [l.2.1] at h
    have := (rS_iff s 0 0 (by omega)).mp h
    have hb := sumQ_bd (qS c (nc p) s n) s 0
    omega
  · simp only [x_M_runs_0, x_M_runs_1, x_M_runs_4, x_M_runs_7]
    exact hQ m' hF
theorem w_M_run {c m : jM} {n : Nat} (h : CI c n) (hI : MI c m n) (L : Nat) (p k w : Int) (Q : jV → jG → jM → Prop) (h0 : ¬ okRun c n p k w → ∀ m', MK m m' → MI c m' n → Q (jI (-1)) (g0 L) m')
    (hQ : okRun c n p k w → ∀ m', MK m m' → MI c m' n → Q (jI (aRun c n p k w)) (g0 L) m') : wp 64 0 [jO (some 32), jI p, jI k, jI w] [] (g0 L) m Q := by
  have hn := h.2.1
  have hK0 : MK m (jup m 32 0 0) := MK.rf.upf (by decide)
  have n0 := fun q => h0 q _ hK0 hI.thr
  have hIt := hI.thr
  rw [x_M_run_0, x_M_run_1, x_M_run_2]
  refine ⟨rfl, ?_⟩
  generalize jup m 32 0 0 = m0 at *
  simp only [x_M_run_0, x_M_run_1, x_M_run_2, x_M_run_5, x_M_run_6, x_M_run_9, x_M_run_12, x_M_run_13, x_M_run_16, x_M_run_17, x_M_run_18, x_M_run_19, x_M_run_20, x_M_run_23, x_M_run_24, x_M_run_25, x_M_run_28, x_M_run_31, x_M_run_32, x_M_run_33, x_M_run_36, x_M_run_37, x_M_run_40, x_M_run_41, x_M_run_42, x_M_run_43, x_M_run_46, x_M_run_49, x_M_run_50, x_M_run_51, x_M_run_52, x_M_run_55, x_M_run_56, x_M_run_59, x_M_run_62, x_M_run_63, x_M_run_64, x_M_run_67, x_M_run_68, x_M_run_71, x_M_run_72, x_M_run_75, x_M_run_76, x_M_run_79, x_M_run_80, x_M_run_83, x_M_run_84, x_M_run_85, x_M_run_88, x_M_run_89, x_M_run_90, x_M_run_91, x_M_run_92, x_M_run_93, x_M_run_94, w_M_isNode, b01_0, sk_0, sk_1, sk_2, sk_3, sk_4, sk_5, sk_6, sk_7, sk_8, sk_9, sk_10, sk_11, sk_12, sk_13, sk_14, sk_15, sk_16, sk_17, sk_18, sk_19, sk_20, sk_21, sk_22, sk_23, sk_24, sk_25, sk_26, sk_27, sk_28, sk_29, sk_30, sk_31, sk_32, sk_33, sk_34, sk_35, sk_36, sk_37, sk_38, sk_39, sk_40, sk_41, sk_42, sk_43, sk_44, sk_45, sk_46, sk_47, sk_48, sk_49, sk_50, sk_51, sk_52, sk_53, sn_0, sn_1, sn_2, sn_3, sn_4, sn_5, sn_6, sn_7, sn_8, sn_9, sn_10, sn_11, sn_12, sn_13, sn_14, sn_15, sn_16, sn_17, sn_18, sn_19, sn_20, sn_21, sn_22, sn_23, sn_24, sn_25, sn_26, sn_27, sn_28, sn_29, sn_30, sn_31, sn_32, sn_33, sn_34, sn_35, sn_36, sn_37, sn_38, sn_39, sn_40, sn_41, sn_42, sn_43, sn_44, sn_45, sn_46, sn_47, sn_48, sn_49, sn_50, sn_51, sn_52, sn_53, rf_2_1, rf_2_2, rf_2_3, rf_2_4, rf_1_0, rf_1_1, rf_8_0, rf_7_0, rf_10_0, rf_7_1, rf_12_0, rf_7_2, rf_14_0, rf_7_3, rf_16_1, rf_16_2, rf_16_3, rf_16_4, rf_16_5, rf_16_6, rf_16_7, rf_1_2, rf_24_1, rf_24_2, rf_24_3, rf_24_4, rf_24_5, rf_24_6, rf_24_7, rf_1_3, rf_32_2, rf_32_3, rf_32_4, rf_32_5, rf_32_6, rf_32_7, rf_32_8, rf_32_9, rf_32_10, rf_32_12, rf_32_14, rf_32_15, rf_32_16, rf_32_18, rf_32_19, rf_32_21, rf_32_25, rf_32_26, rf_32_27, rf_32_28, rf_32_30, true_and, and_true, true_or, or_true, or_false, false_or, false_and, and_false, not_true, not_false_iff, ne_eq, and_self, eq_self, if_true, if_false, ite_true, ite_false, Nat.reduceLeDiff, Int.cast_ofNat_Int, Int.reduceLT, Int.reduceLE, Int.reduceEq, Int.reduceNeg, reduceCtorEq, jup_ap, Nat.reduceEqDiff, Nat.reduceAdd]
  by_cases hp : 0 ≤ p ∧ p < 4
  · rw [if_neg (fun q => q hp)]
    by_cases hk : 0 ≤ k
    · rw [if_pos hk]
      refine w_M_look h hIt L hp _ (fun m1 N s hK e hL => ?_)
      have l := hL.len
      have hrn : rnS c n p k ≠ -1 ↔ 0 ≤ k ∧ k < sumI (fun i => b2i (qS c (nc p) s n i)) 0 s := by
        unfold rnS
        rw [l.2.1, rS_iff s 0 0 (by omega)]
        omega
      simp only [x_M_run_0, x_M_run_1, x_M_run_2, x_M_run_5, x_M_run_6, x_M_run_9, x_M_run_12, x_M_run_13, x_M_run_16, x_M_run_17, x_M_run_18, x_M_run_19, x_M_run_20, x_M_run_23, x_M_run_24, x_M_run_25, x_M_run_28, x_M_run_31, x_M_run_32, x_M_run_33, x_M_run_36, x_M_run_37, x_M_run_40, x_M_run_41, x_M_run_42, x_M_run_43, x_M_run_46, x_M_run_49, x_M_run_50, x_M_run_51, x_M_run_52, x_M_run_55, x_M_run_56, x_M_run_59, x_M_run_62, x_M_run_63, x_M_run_64, x_M_run_67, x_M_run_68, x_M_run_71, x_M_run_72, x_M_run_75, x_M_run_76, x_M_run_79, x_M_run_80, x_M_run_83, x_M_run_84, x_M_run_85, x_M_run_88, x_M_run_89, x_M_run_90, x_M_run_91, x_M_run_92, x_M_run_93, x_M_run_94, sk_0, sk_1, sk_2, sk_3, sk_4, sk_5, sk_6, sk_7, sk_8, sk_9, sk_10, sk_11, sk_12, sk_13, sk_14, sk_15, sk_16, sk_17, sk_18, sk_19, sk_20, sk_21, sk_22, sk_23, sk_24, sk_25, sk_26, sk_27, sk_28, sk_29, sk_30, sk_31, sk_32, sk_33, sk_34, sk_35, sk_36, sk_37, sk_38, sk_39, sk_40, sk_41, sk_42, sk_43, sk_44, sk_45, sk_46, sk_47, sk_48, sk_49, sk_50, sk_51, sk_52, sk_53, sn_0, sn_1, sn_2, sn_3, sn_4, sn_5, sn_6, sn_7, sn_8, sn_9, sn_10, sn_11, sn_12, sn_13, sn_14, sn_15, sn_16, sn_17, sn_18, sn_19, sn_20, sn_21, sn_22, sn_23, sn_24, sn_25, sn_26, sn_27, sn_28, sn_29, sn_30, sn_31, sn_32, sn_33, sn_34, sn_35, sn_36, sn_37, sn_38, sn_39, sn_40, sn_41, sn_42, sn_43, sn_44, sn_45, sn_46, sn_47, sn_48, sn_49, sn_50, sn_51, sn_52, sn_53, rf_2_1, rf_2_2, rf_2_3, rf_2_4, rf_1_0, rf_1_1, rf_8_0, rf_7_0, rf_10_0, rf_7_1, rf_12_0, rf_7_2, rf_14_0, rf_7_3, rf_16_1, rf_16_2, rf_16_3, rf_16_4, rf_16_5, rf_16_6, rf_16_7, rf_1_2, rf_24_1, rf_24_2, rf_24_3, rf_24_4, rf_24_5, rf_24_6, rf_24_7, rf_1_3, rf_32_2, rf_32_3, rf_32_4, rf_32_5, rf_32_6, rf_32_7, rf_32_8, rf_32_9, rf_32_10, rf_32_12, rf_32_14, rf_32_15, rf_32_16, rf_32_18, rf_32_19, rf_32_21, rf_32_25, rf_32_26, rf_32_27, rf_32_28, rf_32_30, true_and, and_true, true_or, or_true, or_false, false_or, false_and, and_false, not_true, not_false_iff, ne_eq, and_self, eq_self, if_true, if_false, ite_true, ite_false, Nat.reduceLeDiff, Int.cast_ofNat_Int, Int.reduceLT, Int.reduceLE, Int.reduceEq, Int.reduceNeg, reduceCtorEq, jup_ap, Nat.reduceEqDiff, Nat.reduceAdd]
      refine w_M_runs hn hL L _ (fun m2 hF2 => ?_)
      have hL2 := hF2.lk hL
      have e2 : m2 32 11 = p := by rw [hF2.2 11 (by decide) (by decide)]; exact e
      have hI2 := MI.of hIt.1 hp (hK.trans hF2.mk) e2 hL2
      simp only [x_M_run_0, x_M_run_1, x_M_run_2, x_M_run_5, x_M_run_6, x_M_run_9, x_M_run_12, x_M_run_13, x_M_run_16, x_M_run_17, x_M_run_18, x_M_run_19, x_M_run_20, x_M_run_23, x_M_run_24, x_M_run_25, x_M_run_28, x_M_run_31, x_M_run_32, x_M_run_33, x_M_run_36, x_M_run_37, x_M_run_40, x_M_run_41, x_M_run_42, x_M_run_43, x_M_run_46, x_M_run_49, x_M_run_50, x_M_run_51, x_M_run_52, x_M_run_55, x_M_run_56, x_M_run_59, x_M_run_62, x_M_run_63, x_M_run_64, x_M_run_67, x_M_run_68, x_M_run_71, x_M_run_72, x_M_run_75, x_M_run_76, x_M_run_79, x_M_run_80, x_M_run_83, x_M_run_84, x_M_run_85, x_M_run_88, x_M_run_89, x_M_run_90, x_M_run_91, x_M_run_92, x_M_run_93, x_M_run_94, sk_0, sk_1, sk_2, sk_3, sk_4, sk_5, sk_6, sk_7, sk_8, sk_9, sk_10, sk_11, sk_12, sk_13, sk_14, sk_15, sk_16, sk_17, sk_18, sk_19, sk_20, sk_21, sk_22, sk_23, sk_24, sk_25, sk_26, sk_27, sk_28, sk_29, sk_30, sk_31, sk_32, sk_33, sk_34, sk_35, sk_36, sk_37, sk_38, sk_39, sk_40, sk_41, sk_42, sk_43, sk_44, sk_45, sk_46, sk_47, sk_48, sk_49, sk_50, sk_51, sk_52, sk_53, sn_0, sn_1, sn_2, sn_3, sn_4, sn_5, sn_6, sn_7, sn_8, sn_9, sn_10, sn_11, sn_12, sn_13, sn_14, sn_15, sn_16, sn_17, sn_18, sn_19, sn_20, sn_21, sn_22, sn_23, sn_24, sn_25, sn_26, sn_27, sn_28, sn_29, sn_30, sn_31, sn_32, sn_33, sn_34, sn_35, sn_36, sn_37, sn_38, sn_39, sn_40, sn_41, sn_42, sn_43, sn_44, sn_45, sn_46, sn_47, sn_48, sn_49, sn_50, sn_51, sn_52, sn_53, rf_2_1, rf_2_2, rf_2_3, rf_2_4, rf_1_0, rf_1_1, rf_8_0, rf_7_0, rf_10_0, rf_7_1, rf_12_0, rf_7_2, rf_14_0, rf_7_3, rf_16_1, rf_16_2, rf_16_3, rf_16_4, rf_16_5, rf_16_6, rf_16_7, rf_1_2, rf_24_1, rf_24_2, rf_24_3, rf_24_4, rf_24_5, rf_24_6, rf_24_7, rf_1_3, rf_32_2, rf_32_3, rf_32_4, rf_32_5, rf_32_6, rf_32_7, rf_32_8, rf_32_9, rf_32_10, rf_32_12, rf_32_14, rf_32_15, rf_32_16, rf_32_18, rf_32_19, rf_32_21, rf_32_25, rf_32_26, rf_32_27, rf_32_28, rf_32_30, true_and, and_true, true_or, or_true, or_false, false_or, false_and, and_false, not_true, not_false_iff, ne_eq, and_self, eq_self, if_true, if_false, ite_true, ite_false, Nat.reduceLeDiff, Int.cast_ofNat_Int, Int.reduceLT, Int.reduceLE, Int.reduceEq, Int.reduceNeg, reduceCtorEq, jup_ap, Nat.reduceEqDiff, Nat.reduceAdd]
      by_cases hlt : sumI (fun i => b2i (qS c (nc p) s n i)) 0 s ≤ k
      · rw [if_pos hlt]
        exact h0 (fun q => by have := hrn.mp q.2; omega) m2 (hK0.trans (hK.trans hF2.mk)) hI2
      · rw [if_neg hlt]
        refine w_M_findRun hn hL2 L k _ (fun hz m3 hF3 e22 e23 => ?_) (fun hz => absurd hz (hrn.mpr (by omega)))
        have hL3 := hF3.lk hL2
        have e3 : m3 32 11 = p := by rw [hF3.2 11 (by decide) (by decide)]; exact e2
        have hK3 := hK.trans (hF2.mk.trans hF3.mk)
        have hI3 := MI.of hIt.1 hp hK3 e3 hL3
        simp only [x_M_run_0, x_M_run_1, x_M_run_2, x_M_run_5, x_M_run_6, x_M_run_9, x_M_run_12, x_M_run_13, x_M_run_16, x_M_run_17, x_M_run_18, x_M_run_19, x_M_run_20, x_M_run_23, x_M_run_24, x_M_run_25, x_M_run_28, x_M_run_31, x_M_run_32, x_M_run_33, x_M_run_36, x_M_run_37, x_M_run_40, x_M_run_41, x_M_run_42, x_M_run_43, x_M_run_46, x_M_run_49, x_M_run_50, x_M_run_51, x_M_run_52, x_M_run_55, x_M_run_56, x_M_run_59, x_M_run_62, x_M_run_63, x_M_run_64, x_M_run_67, x_M_run_68, x_M_run_71, x_M_run_72, x_M_run_75, x_M_run_76, x_M_run_79, x_M_run_80, x_M_run_83, x_M_run_84, x_M_run_85, x_M_run_88, x_M_run_89, x_M_run_90, x_M_run_91, x_M_run_92, x_M_run_93, x_M_run_94, w_M_within, b01_0, e22, e23, sk_0, sk_1, sk_2, sk_3, sk_4, sk_5, sk_6, sk_7, sk_8, sk_9, sk_10, sk_11, sk_12, sk_13, sk_14, sk_15, sk_16, sk_17, sk_18, sk_19, sk_20, sk_21, sk_22, sk_23, sk_24, sk_25, sk_26, sk_27, sk_28, sk_29, sk_30, sk_31, sk_32, sk_33, sk_34, sk_35, sk_36, sk_37, sk_38, sk_39, sk_40, sk_41, sk_42, sk_43, sk_44, sk_45, sk_46, sk_47, sk_48, sk_49, sk_50, sk_51, sk_52, sk_53, sn_0, sn_1, sn_2, sn_3, sn_4, sn_5, sn_6, sn_7, sn_8, sn_9, sn_10, sn_11, sn_12, sn_13, sn_14, sn_15, sn_16, sn_17, sn_18, sn_19, sn_20, sn_21, sn_22, sn_23, sn_24, sn_25, sn_26, sn_27, sn_28, sn_29, sn_30, sn_31, sn_32, sn_33, sn_34, sn_35, sn_36, sn_37, sn_38, sn_39, sn_40, sn_41, sn_42, sn_43, sn_44, sn_45, sn_46, sn_47, sn_48, sn_49, sn_50, sn_51, sn_52, sn_53, rf_2_1, rf_2_2, rf_2_3, rf_2_4, rf_1_0, rf_1_1, rf_8_0, rf_7_0, rf_10_0, rf_7_1, rf_12_0, rf_7_2, rf_14_0, rf_7_3, rf_16_1, rf_16_2, rf_16_3, rf_16_4, rf_16_5, rf_16_6, rf_16_7, rf_1_2, rf_24_1, rf_24_2, rf_24_3, rf_24_4, rf_24_5, rf_24_6, rf_24_7, rf_1_3, rf_32_2, rf_32_3, rf_32_4, rf_32_5, rf_32_6, rf_32_7, rf_32_8, rf_32_9, rf_32_10, rf_32_12, rf_32_14, rf_32_15, rf_32_16, rf_32_18, rf_32_19, rf_32_21, rf_32_25, rf_32_26, rf_32_27, rf_32_28, rf_32_30, true_and, and_true, true_or, or_true, or_false, false_or, false_and, and_false, not_true, not_false_iff, ne_eq, and_self, eq_self, if_true, if_false, ite_true, ite_false, Nat.reduceLeDiff, Int.cast_ofNat_Int, Int.reduceLT, Int.reduceLE, Int.reduceEq, Int.reduceNeg, reduceCtorEq, jup_ap, Nat.reduceEqDiff, Nat.reduceAdd]
        by_cases hw : 0 ≤ w ∧ w ≤ 5
        · rw [if_pos (fun q => q hw)]
          have g := hQ ⟨⟨by omega, hp⟩, hz⟩ m3 (hK0.trans hK3) hI3
          unfold aRun at g
          rw [l.2.1] at g
          have hb : 0 ≤ rnS c n p k ∧ rnS c n p k < (s : Int) := by
            unfold rnS at hz ⊢
            rw [l.2.1] at hz ⊢
            rcases rS_bd (q := qS c (nc p) s n) (k := k) s 0 0 (by omega) with q | q
            · exact absurd q hz
            · omega
          have hbe := rE_bd (q := qS c (nc p) s n) (s - ((rnS c n p k).toNat + 1)) (rnS c n p k + 1)
          generalize rnS c n p k = R at *
          by_cases w0 : w = 0
          · rw [if_neg (fun q => q w0)]
            rw [if_pos w0] at g
            exact g
          rw [if_pos w0]
          rw [if_neg w0] at g
          by_cases w1 : w = 1
          · rw [if_neg (fun q => q w1), jw1 (by omega) (by omega)]
            rw [if_pos w1] at g
            exact g
          rw [if_pos w1]
          rw [if_neg w1, ← hL3.2 R (w - 2) hb.1 hb.2 (by omega) (by omega)] at g
          rw [jw1 (z := 4 * R) (by omega) (by omega), jw1 (z := 4 * R + w) (by omega) (by omega), jw1 (by omega) (by omega), show 4 * R + w - 2 = 4 * R + (w - 2) by omega, jand_t (by omega)]
          exact g
        · rw [if_neg (fun q => q hw)]
          exact h0 (fun q => hw (by have := q.1.1; omega)) m3 (hK0.trans hK3) hI3
    · rw [if_neg hk]
      refine n0 (fun q => ?_)
      have := q.2
      unfold rnS at this
      have := (rS_iff _ 0 0 (by omega)).mp this
      omega
  · rw [if_pos hp]
    exact n0 (fun q => hp q.1.2)
