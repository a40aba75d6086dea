/-- the value that a list of rows gives to a key at a place -/
def svF (c : jM) (a s : Nat) (k e : Int) (l : List Int) : Int := l.foldl (fun acc r => if ((gd c a r = true ∧ cellV c r 0 = 2) ∧ cellV c r 3 = e) ∧ ahF c a (cellV c r 5) ≤ k ∧ k < stE c a s r then cellV c r 4 else acc) 0
theorem svF_snoc (c : jM) (a s : Nat) (k e : Int) (l : List Int) (r : Int) : svF c a s k e (l ++ [r]) = if ((gd c a r = true ∧ cellV c r 0 = 2) ∧ cellV c r 3 = e) ∧ ahF c a (cellV c r 5) ≤ k ∧ k < stE c a s r then cellV c r 4 else svF c a s k e l := by
  unfold svF
  rw [List.foldl_append]
  rfl
theorem svF_ar (c : jM) (a s : Nat) (k e : Int) : ∀ n : Nat, svF c a s k e (ar (c 5) n) = svK c a s k e n
  | 0 => rfl
  | n + 1 => by
    rw [ar_succ, svF_snoc, svF_ar c a s k e n]
    rfl
theorem foldl_filt {f : Int → Int → Int} {q : Int → Bool} (hf : ∀ x z, q x = false → f z x = z) : ∀ (l : List Int) (z : Int), (l.filter q).foldl f z = l.foldl f z
  | [], _ => rfl
  | x :: l, z => by
    rw [List.filter_cons, List.foldl_cons]
    by_cases hx : q x = true
    · rw [if_pos hx, List.foldl_cons, foldl_filt hf l]
    · rw [if_neg hx, hf x z (by simpa using hx), foldl_filt hf l]
theorem svF_sel (c : jM) (a s : Nat) (k e : Int) (l : List Int) : svF c a s k e (l.filter (sel c a 2)) = svF c a s k e l := by
  unfold svF
  refine foldl_filt (fun x z hx => if_neg (fun q => ?_)) l 0
  have h1 := q.1.1.1
  unfold gd at h1
  rw [Bool.and_eq_true] at h1
  unfold sel at hx
  rw [h1.1, q.1.1.2] at hx
  cases hx
theorem wl_M_s0 (L : Nat) (m : jM) (Q : jV → jG → jM → Prop) (p : Int) (l3 l4 : jV) (s : Nat) (hs : s ≤ 250) (hS : m 32 17 = (s : Int))
    (hQ : ∀ m', Fr m m' [47] → (∀ k : Int, 0 ≤ k → k < 4 * (s : Int) → m' 47 k = 0) → wp 42 25 [jO (some 32), jI p, jI (4 * (s : Int)), l3, l4] [] (g0 L) m' Q) :
    ∀ (d : Nat) (i : Int) (m1 : jM), 0 ≤ i → i + d = 4 * (s : Int) → Fr m m1 [47] → (∀ k : Int, 0 ≤ k → k < i → m1 47 k = 0) → wp 42 2 [jO (some 32), jI p, jI i, l3, l4] [] (g0 L) m1 Q := by
  have e4 : jwr (4 * (s : Int)) = 4 * (s : Int) := jw1 (by omega) (by omega)
  intro d
  induction d with
  | zero =>
    intro i m1 i1 i2 hF hI
    have : i = 4 * (s : Int) := by omega
    subst this
    have e0 : m1 32 17 = (s : Int) := by rw [hF 32 (by simp)]; exact hS
    rw [x_M_findStyles_2]
    simp only [x_M_findStyles_3, x_M_findStyles_4, x_M_findStyles_5, x_M_findStyles_8, x_M_findStyles_9, e0, e4, Int.le_refl, sk_0, sk_1, sk_2, sk_3, sk_4, sk_5, sk_6, sk_7, sk_8, sk_9, sk_10, sk_11, sk_12, sk_13, sk_14, sk_15, sk_16, sk_17, sk_18, sk_19, sk_20, sk_21, sk_22, sk_23, sk_24, sk_25, sk_26, sk_27, sk_28, sk_29, sk_30, sk_31, sk_32, sk_33, sk_34, sk_35, sk_36, sk_37, sk_38, sk_39, sk_40, sk_41, sk_42, sk_43, sk_44, sk_45, sk_46, sk_47, sk_48, sk_49, sk_50, sk_51, sk_52, sk_53, sn_0, sn_1, sn_2, sn_3, sn_4, sn_5, sn_6, sn_7, sn_8, sn_9, sn_10, sn_11, sn_12, sn_13, sn_14, sn_15, sn_16, sn_17, sn_18, sn_19, sn_20, sn_21, sn_22, sn_23, sn_24, sn_25, sn_26, sn_27, sn_28, sn_29, sn_30, sn_31, sn_32, sn_33, sn_34, sn_35, sn_36, sn_37, sn_38, sn_39, sn_40, sn_41, sn_42, sn_43, sn_44, sn_45, sn_46, sn_47, sn_48, sn_49, sn_50, sn_51, sn_52, sn_53, rf_2_1, rf_2_2, rf_2_3, rf_2_4, rf_1_0, rf_1_1, rf_8_0, rf_7_0, rf_10_0, rf_7_1, rf_12_0, rf_7_2, rf_14_0, rf_7_3, rf_16_1, rf_16_2, rf_16_3, rf_16_4, rf_16_5, rf_16_6, rf_16_7, rf_1_2, rf_24_1, rf_24_2, rf_24_3, rf_24_4, rf_24_5, rf_24_6, rf_24_7, rf_1_3, rf_32_2, rf_32_3, rf_32_4, rf_32_5, rf_32_6, rf_32_7, rf_32_8, rf_32_9, rf_32_10, rf_32_12, rf_32_14, rf_32_15, rf_32_16, rf_32_18, rf_32_19, rf_32_21, rf_32_25, rf_32_26, rf_32_27, rf_32_28, rf_32_30, true_and, and_true, true_or, or_true, or_false, false_or, false_and, and_false, not_true, not_false_iff, ne_eq, and_self, eq_self, if_true, if_false, ite_true, ite_false, Nat.reduceLeDiff, Int.cast_ofNat_Int, Int.reduceLT, Int.reduceLE, Int.reduceEq, Int.reduceNeg, reduceCtorEq, jup_ap, Nat.reduceEqDiff, Nat.reduceAdd]
    exact hQ m1 hF hI
  | succ d ih =>
    intro i m1 i1 i2 hF hI
    have e0 : m1 32 17 = (s : Int) := by rw [hF 32 (by simp)]; exact hS
    have hlt : ¬ 4 * (s : Int) ≤ i := by omega
    have hb : 0 ≤ i ∧ i < 1004 := by omega
    rw [x_M_findStyles_2]
    simp only [x_M_findStyles_3, x_M_findStyles_4, x_M_findStyles_5, x_M_findStyles_8, x_M_findStyles_9, x_M_findStyles_12, x_M_findStyles_13, x_M_findStyles_16, x_M_findStyles_17, x_M_findStyles_18, x_M_findStyles_19, x_M_findStyles_22, e0, e4, hlt, hb, show jwr (i + 1) = i + 1 from jw1 (by omega) (by omega), sk_0, sk_1, sk_2, sk_3, sk_4, sk_5, sk_6, sk_7, sk_8, sk_9, sk_10, sk_11, sk_12, sk_13, sk_14, sk_15, sk_16, sk_17, sk_18, sk_19, sk_20, sk_21, sk_22, sk_23, sk_24, sk_25, sk_26, sk_27, sk_28, sk_29, sk_30, sk_31, sk_32, sk_33, sk_34, sk_35, sk_36, sk_37, sk_38, sk_39, sk_40, sk_41, sk_42, sk_43, sk_44, sk_45, sk_46, sk_47, sk_48, sk_49, sk_50, sk_51, sk_52, sk_53, sn_0, sn_1, sn_2, sn_3, sn_4, sn_5, sn_6, sn_7, sn_8, sn_9, sn_10, sn_11, sn_12, sn_13, sn_14, sn_15, sn_16, sn_17, sn_18, sn_19, sn_20, sn_21, sn_22, sn_23, sn_24, sn_25, sn_26, sn_27, sn_28, sn_29, sn_30, sn_31, sn_32, sn_33, sn_34, sn_35, sn_36, sn_37, sn_38, sn_39, sn_40, sn_41, sn_42, sn_43, sn_44, sn_45, sn_46, sn_47, sn_48, sn_49, sn_50, sn_51, sn_52, sn_53, rf_2_1, rf_2_2, rf_2_3, rf_2_4, rf_1_0, rf_1_1, rf_8_0, rf_7_0, rf_10_0, rf_7_1, rf_12_0, rf_7_2, rf_14_0, rf_7_3, rf_16_1, rf_16_2, rf_16_3, rf_16_4, rf_16_5, rf_16_6, rf_16_7, rf_1_2, rf_24_1, rf_24_2, rf_24_3, rf_24_4, rf_24_5, rf_24_6, rf_24_7, rf_1_3, rf_32_2, rf_32_3, rf_32_4, rf_32_5, rf_32_6, rf_32_7, rf_32_8, rf_32_9, rf_32_10, rf_32_12, rf_32_14, rf_32_15, rf_32_16, rf_32_18, rf_32_19, rf_32_21, rf_32_25, rf_32_26, rf_32_27, rf_32_28, rf_32_30, true_and, and_true, true_or, or_true, or_false, false_or, false_and, and_false, not_true, not_false_iff, ne_eq, and_self, eq_self, if_true, if_false, ite_true, ite_false, Nat.reduceLeDiff, Int.cast_ofNat_Int, Int.reduceLT, Int.reduceLE, Int.reduceEq, Int.reduceNeg, reduceCtorEq, jup_ap, Nat.reduceEqDiff, Nat.reduceAdd]
    refine ih (i + 1) _ (by omega) (by omega) (hF.up (by simp)) (fun k a b => ?_)
    rw [jup_ap]
    by_cases e : k = i
    · rw [if_pos ⟨rfl, e⟩]
    · rw [if_neg (fun q => e q.2)]
      exact hI k a (by omega)
theorem wl_M_s2 {c m : jM} {n : Nat} {p : Int} {N s : Nat} (h : CI c n) (hM : MB c m n) (hp : 0 ≤ p ∧ p < 4) (hP : PlP c m n p N s) (L : Nat) {r : Int} (hr : 1 ≤ r ∧ r ≤ n) (h2 : cellV c r 0 = 2) (hk : kb c (nc p) r = true) (hg : gd c (nc p) r = true) (i : Int) (Q : jV → jG → jM → Prop)
    (hQ : ∀ m' l4, Fr m m' [47] → (∀ k e : Int, 0 ≤ k → k < s → 0 ≤ e → e < 4 → m' 47 (4 * k + e) = if cellV c r 3 = e ∧ ahF c (nc p) (cellV c r 5) ≤ k ∧ k < stE c (nc p) s r then cellV c r 4 else m 47 (4 * k + e)) → wp 42 117 [jO (some 32), jI p, jI i, jI r, l4] [] (g0 L) m' Q) :
    ∀ (d j : Nat) (m1 : jM), j + d = s → Fr m m1 [47] → (∀ k e : Int, 0 ≤ k → k < s → 0 ≤ e → e < 4 → m1 47 (4 * k + e) = if k < (j : Int) ∧ cellV c r 3 = e ∧ ahF c (nc p) (cellV c r 5) ≤ k ∧ k < stE c (nc p) s r then cellV c r 4 else m 47 (4 * k + e)) →
      wp 42 51 [jO (some 32), jI p, jI i, jI r, jI (j : Int)] [] (g0 L) m1 Q := by
  have hn := h.2.1
  have hS := hP.2.2.2.2.2.2.2.1
  have hNn := hP.2.1
  have hsN := hP.2.2.2.2.2.2.1
  have hro := (h.2.2.1 r hr.1 hr.2).2.2.2.2.2.1 h2
  intro d
  induction d with
  | zero =>
    intro j m1 hj hF hI
    have : j = s := by omega
    subst this
    have e0 : m1 32 17 = (j : Int) := by rw [hF 32 (by simp)]; exact hS
    rw [x_M_findStyles_51]
    simp only [x_M_findStyles_53, x_M_findStyles_54, x_M_findStyles_57, e0, Int.le_refl, sk_0, sk_1, sk_2, sk_3, sk_4, sk_5, sk_6, sk_7, sk_8, sk_9, sk_10, sk_11, sk_12, sk_13, sk_14, sk_15, sk_16, sk_17, sk_18, sk_19, sk_20, sk_21, sk_22, sk_23, sk_24, sk_25, sk_26, sk_27, sk_28, sk_29, sk_30, sk_31, sk_32, sk_33, sk_34, sk_35, sk_36, sk_37, sk_38, sk_39, sk_40, sk_41, sk_42, sk_43, sk_44, sk_45, sk_46, sk_47, sk_48, sk_49, sk_50, sk_51, sk_52, sk_53, sn_0, sn_1, sn_2, sn_3, sn_4, sn_5, sn_6, sn_7, sn_8, sn_9, sn_10, sn_11, sn_12, sn_13, sn_14, sn_15, sn_16, sn_17, sn_18, sn_19, sn_20, sn_21, sn_22, sn_23, sn_24, sn_25, sn_26, sn_27, sn_28, sn_29, sn_30, sn_31, sn_32, sn_33, sn_34, sn_35, sn_36, sn_37, sn_38, sn_39, sn_40, sn_41, sn_42, sn_43, sn_44, sn_45, sn_46, sn_47, sn_48, sn_49, sn_50, sn_51, sn_52, sn_53, rf_2_1, rf_2_2, rf_2_3, rf_2_4, rf_1_0, rf_1_1, rf_8_0, rf_7_0, rf_10_0, rf_7_1, rf_12_0, rf_7_2, rf_14_0, rf_7_3, rf_16_1, rf_16_2, rf_16_3, rf_16_4, rf_16_5, rf_16_6, rf_16_7, rf_1_2, rf_24_1, rf_24_2, rf_24_3, rf_24_4, rf_24_5, rf_24_6, rf_24_7, rf_1_3, rf_32_2, rf_32_3, rf_32_4, rf_32_5, rf_32_6, rf_32_7, rf_32_8, rf_32_9, rf_32_10, rf_32_12, rf_32_14, rf_32_15, rf_32_16, rf_32_18, rf_32_19, rf_32_21, rf_32_25, rf_32_26, rf_32_27, rf_32_28, rf_32_30, true_and, and_true, true_or, or_true, or_false, false_or, false_and, and_false, not_true, not_false_iff, ne_eq, and_self, eq_self, if_true, if_false, ite_true, ite_false, Nat.reduceLeDiff, Int.cast_ofNat_Int, Int.reduceLT, Int.reduceLE, Int.reduceEq, Int.reduceNeg, reduceCtorEq, jup_ap, Nat.reduceEqDiff, Nat.reduceAdd]
    refine hQ m1 _ hF (fun k e a1 a2 a3 a4 => ?_)
    rw [hI k e a1 a2 a3 a4]
    by_cases q : cellV c r 3 = e ∧ ahF c (nc p) (cellV c r 5) ≤ k ∧ k < stE c (nc p) j r
    · rw [if_pos q, if_pos ⟨a2, q⟩]
    · rw [if_neg q, if_neg (fun z => q z.2)]
  | succ d ih =>
    intro j m1 hj hF hI
    have e0 : m1 32 17 = (s : Int) := by rw [hF 32 (by simp)]; exact hS
    have hlt : ¬ (s : Int) ≤ (j : Int) := by omega
    have hb : (0 : Int) ≤ (j : Int) ∧ (j : Int) < 251 := by omega
    have hrb : 0 ≤ r ∧ r < 251 := by omega
    have hM1 : MB c m1 n := hM.mk ⟨fun b hb j => hF b (by simp; omega) j, hF 32 (by simp) 1⟩
    have hP1 : PlP c m1 n p N s := hP.fr (fun b b1 b2 j => hF b (by simp; omega) j) (hF 32 (by simp) _) (hF 32 (by simp) _)
    obtain ⟨w, w1, w2, w3, w4, w5, w6⟩ := hP1.see h (k := j) (by omega)
    have hab : 0 ≤ m1 46 j ∧ m1 46 j < 251 := by omega
    have eg : m1 42 r = 1 := by rw [hP1.1 r hr.1 hr.2, hg]; rfl
    have hrow := hM1.2.1 r hr.1 hr.2
    have l1 : j < 1000000 := by omega
    rw [x_M_findStyles_51]
    simp only [x_M_findStyles_0, x_M_findStyles_1, x_M_findStyles_3, x_M_findStyles_4, x_M_findStyles_5, x_M_findStyles_8, x_M_findStyles_9, x_M_findStyles_12, x_M_findStyles_13, x_M_findStyles_16, x_M_findStyles_17, x_M_findStyles_18, x_M_findStyles_19, x_M_findStyles_22, x_M_findStyles_26, x_M_findStyles_27, x_M_findStyles_28, x_M_findStyles_31, x_M_findStyles_32, x_M_findStyles_34, x_M_findStyles_35, x_M_findStyles_38, x_M_findStyles_41, x_M_findStyles_42, x_M_findStyles_45, x_M_findStyles_46, x_M_findStyles_47, x_M_findStyles_48, x_M_findStyles_49, x_M_findStyles_53, x_M_findStyles_54, x_M_findStyles_57, x_M_findStyles_60, x_M_findStyles_61, x_M_findStyles_64, x_M_findStyles_65, x_M_findStyles_66, x_M_findStyles_69, x_M_findStyles_70, x_M_findStyles_71, x_M_findStyles_72, x_M_findStyles_75, x_M_findStyles_76, x_M_findStyles_79, x_M_findStyles_81, x_M_findStyles_82, x_M_findStyles_83, x_M_findStyles_86, x_M_findStyles_89, x_M_findStyles_90, x_M_findStyles_93, x_M_findStyles_94, x_M_findStyles_96, x_M_findStyles_97, x_M_findStyles_98, x_M_findStyles_101, x_M_findStyles_102, x_M_findStyles_103, x_M_findStyles_104, x_M_findStyles_105, x_M_findStyles_108, x_M_findStyles_109, x_M_findStyles_110, x_M_findStyles_111, x_M_findStyles_114, x_M_findStyles_120, x_M_findStyles_123, e0, eg, hlt, hb, hrb, hab, w4, w_M_covers h hM1 hp hP1 L hr h2 hk (show j < s by omega) w1 w5 w6, b01_0, hrow.2.2.2.1, hrow.2.2.2.2.1, jwS l1, Int.one_ne_zero, sk_0, sk_1, sk_2, sk_3, sk_4, sk_5, sk_6, sk_7, sk_8, sk_9, sk_10, sk_11, sk_12, sk_13, sk_14, sk_15, sk_16, sk_17, sk_18, sk_19, sk_20, sk_21, sk_22, sk_23, sk_24, sk_25, sk_26, sk_27, sk_28, sk_29, sk_30, sk_31, sk_32, sk_33, sk_34, sk_35, sk_36, sk_37, sk_38, sk_39, sk_40, sk_41, sk_42, sk_43, sk_44, sk_45, sk_46, sk_47, sk_48, sk_49, sk_50, sk_51, sk_52, sk_53, sn_0, sn_1, sn_2, sn_3, sn_4, sn_5, sn_6, sn_7, sn_8, sn_9, sn_10, sn_11, sn_12, sn_13, sn_14, sn_15, sn_16, sn_17, sn_18, sn_19, sn_20, sn_21, sn_22, sn_23, sn_24, sn_25, sn_26, sn_27, sn_28, sn_29, sn_30, sn_31, sn_32, sn_33, sn_34, sn_35, sn_36, sn_37, sn_38, sn_39, sn_40, sn_41, sn_42, sn_43, sn_44, sn_45, sn_46, sn_47, sn_48, sn_49, sn_50, sn_51, sn_52, sn_53, rf_2_1, rf_2_2, rf_2_3, rf_2_4, rf_1_0, rf_1_1, rf_8_0, rf_7_0, rf_10_0, rf_7_1, rf_12_0, rf_7_2, rf_14_0, rf_7_3, rf_16_1, rf_16_2, rf_16_3, rf_16_4, rf_16_5, rf_16_6, rf_16_7, rf_1_2, rf_24_1, rf_24_2, rf_24_3, rf_24_4, rf_24_5, rf_24_6, rf_24_7, rf_1_3, rf_32_2, rf_32_3, rf_32_4, rf_32_5, rf_32_6, rf_32_7, rf_32_8, rf_32_9, rf_32_10, rf_32_12, rf_32_14, rf_32_15, rf_32_16, rf_32_18, rf_32_19, rf_32_21, rf_32_25, rf_32_26, rf_32_27, rf_32_28, rf_32_30, true_and, and_true, true_or, or_true, or_false, false_or, false_and, and_false, not_true, not_false_iff, ne_eq, and_self, eq_self, if_true, if_false, ite_true, ite_false, Nat.reduceLeDiff, Int.cast_ofNat_Int, Int.reduceLT, Int.reduceLE, Int.reduceEq, Int.reduceNeg, reduceCtorEq, jup_ap, Nat.reduceEqDiff, Nat.reduceAdd]
    by_cases hc : ahF c (nc p) (cellV c r 5) ≤ (j : Int) ∧ (j : Int) < stE c (nc p) s r
    · rw [if_neg (fun q => q hc)]
      have e4 : jwr (4 * (j : Int)) = 4 * (j : Int) := jw1 (by omega) (by omega)
      rw [e4, show jwr (4 * (j : Int) + cellV c r 3) = 4 * (j : Int) + cellV c r 3 from jw1 (by omega) (by omega)]
      clear e4
      rw [jand_t (by omega)]
      refine ih (j + 1) _ (by omega) (hF.up (by simp)) (fun k e a1 a2 a3 a4 => ?_)
      rw [jup_ap]
      by_cases q : k = (j : Int) ∧ cellV c r 3 = e
      · rw [if_pos ⟨rfl, by omega⟩, if_pos ⟨by omega, q.2, by rw [q.1]; exact hc⟩]
      · rw [if_neg (by omega), hI k e a1 a2 a3 a4]
        by_cases z : k < (j : Int) ∧ cellV c r 3 = e ∧ ahF c (nc p) (cellV c r 5) ≤ k ∧ k < stE c (nc p) s r
        · rw [if_pos z, if_pos ⟨by omega, z.2⟩]
        · rw [if_neg z, if_neg (by omega)]
    · rw [if_pos hc]
      refine ih (j + 1) m1 (by omega) hF (fun k e a1 a2 a3 a4 => ?_)
      rw [hI k e a1 a2 a3 a4]
      by_cases z : k < (j : Int) ∧ cellV c r 3 = e ∧ ahF c (nc p) (cellV c r 5) ≤ k ∧ k < stE c (nc p) s r
      · rw [if_pos z, if_pos ⟨by omega, z.2⟩]
      · rw [if_neg z, if_neg (fun q => ?_)]
        by_cases y : k = (j : Int)
        · rw [y] at q
          exact hc q.2.2
        · exact z ⟨by omega, q.2⟩
def StP (c m : jM) (a s : Nat) (l : List Int) : Prop := ∀ k e : Int, 0 ≤ k → k < s → 0 ≤ e → e < 4 → m 47 (4 * k + e) = svF c a s k e l
theorem wl_M_s1 {c m : jM} {n : Nat} {p : Int} {N s : Nat} (h : CI c n) (hM : MB c m n) (hp : 0 ≤ p ∧ p < 4) (hP : PlP c m n p N s) (L : Nat) (O : Nat) (hOn : O ≤ n) (hO : m 32 20 = (O : Int)) (hl : ∀ x ∈ ar (m 48) O, (1 ≤ x ∧ x ≤ n) ∧ sel c (nc p) 2 x = true) (Q : jV → jG → jM → Prop)
    (hQ : ∀ m', Fr m m' [47] → StP c m' (nc p) s (ar (m 48) O) → Q jU (g0 L) m') :
    ∀ (d i : Nat) (l3 l4 : jV) (m1 : jM), i + d = O → Fr m m1 [47] → StP c m1 (nc p) s (ar (m 48) i) → wp 42 33 [jO (some 32), jI p, jI (i : Int), l3, l4] [] (g0 L) m1 Q := by
  have hn := h.2.1
  intro d
  induction d with
  | zero =>
    intro i l3 l4 m1 hi hF hI
    have : i = O := by omega
    subst this
    have e0 : m1 32 20 = (i : Int) := by rw [hF 32 (by simp)]; exact hO
    rw [x_M_findStyles_33]
    simp only [x_M_findStyles_34, x_M_findStyles_35, x_M_findStyles_38, x_M_findStyles_123, e0, Int.le_refl, sk_0, sk_1, sk_2, sk_3, sk_4, sk_5, sk_6, sk_7, sk_8, sk_9, sk_10, sk_11, sk_12, sk_13, sk_14, sk_15, sk_16, sk_17, sk_18, sk_19, sk_20, sk_21, sk_22, sk_23, sk_24, sk_25, sk_26, sk_27, sk_28, sk_29, sk_30, sk_31, sk_32, sk_33, sk_34, sk_35, sk_36, sk_37, sk_38, sk_39, sk_40, sk_41, sk_42, sk_43, sk_44, sk_45, sk_46, sk_47, sk_48, sk_49, sk_50, sk_51, sk_52, sk_53, sn_0, sn_1, sn_2, sn_3, sn_4, sn_5, sn_6, sn_7, sn_8, sn_9, sn_10, sn_11, sn_12, sn_13, sn_14, sn_15, sn_16, sn_17, sn_18, sn_19, sn_20, sn_21, sn_22, sn_23, sn_24, sn_25, sn_26, sn_27, sn_28, sn_29, sn_30, sn_31, sn_32, sn_33, sn_34, sn_35, sn_36, sn_37, sn_38, sn_39, sn_40, sn_41, sn_42, sn_43, sn_44, sn_45, sn_46, sn_47, sn_48, sn_49, sn_50, sn_51, sn_52, sn_53, rf_2_1, rf_2_2, rf_2_3, rf_2_4, rf_1_0, rf_1_1, rf_8_0, rf_7_0, rf_10_0, rf_7_1, rf_12_0, rf_7_2, rf_14_0, rf_7_3, rf_16_1, rf_16_2, rf_16_3, rf_16_4, rf_16_5, rf_16_6, rf_16_7, rf_1_2, rf_24_1, rf_24_2, rf_24_3, rf_24_4, rf_24_5, rf_24_6, rf_24_7, rf_1_3, rf_32_2, rf_32_3, rf_32_4, rf_32_5, rf_32_6, rf_32_7, rf_32_8, rf_32_9, rf_32_10, rf_32_12, rf_32_14, rf_32_15, rf_32_16, rf_32_18, rf_32_19, rf_32_21, rf_32_25, rf_32_26, rf_32_27, rf_32_28, rf_32_30, true_and, and_true, true_or, or_true, or_false, false_or, false_and, and_false, not_true, not_false_iff, ne_eq, and_self, eq_self, if_true, if_false, ite_true, ite_false, Nat.reduceLeDiff, Int.cast_ofNat_Int, Int.reduceLT, Int.reduceLE, Int.reduceEq, Int.reduceNeg, reduceCtorEq, jup_ap, Nat.reduceEqDiff, Nat.reduceAdd]
    exact hQ m1 hF hI
  | succ d ih =>
    intro i l3 l4 m1 hi hF hI
    have e0 : m1 32 20 = (O : Int) := by rw [hF 32 (by simp)]; exact hO
    have hlt : ¬ (O : Int) ≤ (i : Int) := by omega
    have hb : (0 : Int) ≤ (i : Int) ∧ (i : Int) < 251 := by omega
    obtain ⟨r, hr⟩ : ∃ r, r = m 48 i := ⟨_, rfl⟩
    have e1 : m1 48 i = r := by rw [hF 48 (by simp), hr]
    have hrm := hl r (ar_mem.mpr ⟨i, by omega, hr.symm⟩)
    have hsel := hrm.2
    unfold sel at hsel
    rw [Bool.and_eq_true, decide_eq_true_eq] at hsel
    have hrb : 0 ≤ r ∧ r < 251 := by omega
    have hM1 : MB c m1 n := hM.mk ⟨fun b hb j => hF b (by simp; omega) j, hF 32 (by simp) 1⟩
    have hP1 : PlP c m1 n p N s := hP.fr (fun b b1 b2 j => hF b (by simp; omega) j) (hF 32 (by simp) _) (hF 32 (by simp) _)
    have l1 : i < 1000000 := by omega
    have eS : m1 32 17 = (s : Int) := hP1.2.2.2.2.2.2.2.1
    have eg := hP1.1 r hrm.1.1 hrm.1.2
    have hsc : ar (m 48) (i + 1) = ar (m 48) i ++ [r] := by rw [ar_succ, hr]
    rw [x_M_findStyles_33]
    simp only [x_M_findStyles_34, x_M_findStyles_35, x_M_findStyles_38, x_M_findStyles_41, x_M_findStyles_42, x_M_findStyles_45, x_M_findStyles_46, x_M_findStyles_47, x_M_findStyles_48, x_M_findStyles_49, e0, e1, hlt, hb, sk_0, sk_1, sk_2, sk_3, sk_4, sk_5, sk_6, sk_7, sk_8, sk_9, sk_10, sk_11, sk_12, sk_13, sk_14, sk_15, sk_16, sk_17, sk_18, sk_19, sk_20, sk_21, sk_22, sk_23, sk_24, sk_25, sk_26, sk_27, sk_28, sk_29, sk_30, sk_31, sk_32, sk_33, sk_34, sk_35, sk_36, sk_37, sk_38, sk_39, sk_40, sk_41, sk_42, sk_43, sk_44, sk_45, sk_46, sk_47, sk_48, sk_49, sk_50, sk_51, sk_52, sk_53, sn_0, sn_1, sn_2, sn_3, sn_4, sn_5, sn_6, sn_7, sn_8, sn_9, sn_10, sn_11, sn_12, sn_13, sn_14, sn_15, sn_16, sn_17, sn_18, sn_19, sn_20, sn_21, sn_22, sn_23, sn_24, sn_25, sn_26, sn_27, sn_28, sn_29, sn_30, sn_31, sn_32, sn_33, sn_34, sn_35, sn_36, sn_37, sn_38, sn_39, sn_40, sn_41, sn_42, sn_43, sn_44, sn_45, sn_46, sn_47, sn_48, sn_49, sn_50, sn_51, sn_52, sn_53, rf_2_1, rf_2_2, rf_2_3, rf_2_4, rf_1_0, rf_1_1, rf_8_0, rf_7_0, rf_10_0, rf_7_1, rf_12_0, rf_7_2, rf_14_0, rf_7_3, rf_16_1, rf_16_2, rf_16_3, rf_16_4, rf_16_5, rf_16_6, rf_16_7, rf_1_2, rf_24_1, rf_24_2, rf_24_3, rf_24_4, rf_24_5, rf_24_6, rf_24_7, rf_1_3, rf_32_2, rf_32_3, rf_32_4, rf_32_5, rf_32_6, rf_32_7, rf_32_8, rf_32_9, rf_32_10, rf_32_12, rf_32_14, rf_32_15, rf_32_16, rf_32_18, rf_32_19, rf_32_21, rf_32_25, rf_32_26, rf_32_27, rf_32_28, rf_32_30, true_and, and_true, true_or, or_true, or_false, false_or, false_and, and_false, not_true, not_false_iff, ne_eq, and_self, eq_self, if_true, if_false, ite_true, ite_false, Nat.reduceLeDiff, Int.cast_ofNat_Int, Int.reduceLT, Int.reduceLE, Int.reduceEq, Int.reduceNeg, reduceCtorEq, jup_ap, Nat.reduceEqDiff, Nat.reduceAdd]
    cases hg : gd c (nc p) r
    · rw [x_M_findStyles_51]
      rw [hg] at eg
      simp only [x_M_findStyles_53, x_M_findStyles_54, x_M_findStyles_57, x_M_findStyles_60, x_M_findStyles_61, x_M_findStyles_64, x_M_findStyles_65, x_M_findStyles_66, x_M_findStyles_117, x_M_findStyles_120, eS, eg, hrb, show b2i false = 0 from rfl, jwS l1, ite_self, sk_0, sk_1, sk_2, sk_3, sk_4, sk_5, sk_6, sk_7, sk_8, sk_9, sk_10, sk_11, sk_12, sk_13, sk_14, sk_15, sk_16, sk_17, sk_18, sk_19, sk_20, sk_21, sk_22, sk_23, sk_24, sk_25, sk_26, sk_27, sk_28, sk_29, sk_30, sk_31, sk_32, sk_33, sk_34, sk_35, sk_36, sk_37, sk_38, sk_39, sk_40, sk_41, sk_42, sk_43, sk_44, sk_45, sk_46, sk_47, sk_48, sk_49, sk_50, sk_51, sk_52, sk_53, sn_0, sn_1, sn_2, sn_3, sn_4, sn_5, sn_6, sn_7, sn_8, sn_9, sn_10, sn_11, sn_12, sn_13, sn_14, sn_15, sn_16, sn_17, sn_18, sn_19, sn_20, sn_21, sn_22, sn_23, sn_24, sn_25, sn_26, sn_27, sn_28, sn_29, sn_30, sn_31, sn_32, sn_33, sn_34, sn_35, sn_36, sn_37, sn_38, sn_39, sn_40, sn_41, sn_42, sn_43, sn_44, sn_45, sn_46, sn_47, sn_48, sn_49, sn_50, sn_51, sn_52, sn_53, rf_2_1, rf_2_2, rf_2_3, rf_2_4, rf_1_0, rf_1_1, rf_8_0, rf_7_0, rf_10_0, rf_7_1, rf_12_0, rf_7_2, rf_14_0, rf_7_3, rf_16_1, rf_16_2, rf_16_3, rf_16_4, rf_16_5, rf_16_6, rf_16_7, rf_1_2, rf_24_1, rf_24_2, rf_24_3, rf_24_4, rf_24_5, rf_24_6, rf_24_7, rf_1_3, rf_32_2, rf_32_3, rf_32_4, rf_32_5, rf_32_6, rf_32_7, rf_32_8, rf_32_9, rf_32_10, rf_32_12, rf_32_14, rf_32_15, rf_32_16, rf_32_18, rf_32_19, rf_32_21, rf_32_25, rf_32_26, rf_32_27, rf_32_28, rf_32_30, true_and, and_true, true_or, or_true, or_false, false_or, false_and, and_false, not_true, not_false_iff, ne_eq, and_self, eq_self, if_true, if_false, ite_true, ite_false, Nat.reduceLeDiff, Int.cast_ofNat_Int, Int.reduceLT, Int.reduceLE, Int.reduceEq, Int.reduceNeg, reduceCtorEq, jup_ap, Nat.reduceEqDiff, Nat.reduceAdd]
      refine ih (i + 1) _ _ m1 (by omega) hF (fun k e a1 a2 a3 a4 => ?_)
      rw [hsc, svF_snoc, if_neg (fun q => by have := q.1.1.1; rw [hg] at this; cases this)]
      exact hI k e a1 a2 a3 a4
    · refine wl_M_s2 h hM1 hp hP1 L hrm.1 hsel.1 hsel.2 hg i Q (fun m2 l4 hF2 h2 => ?_) s 0 m1 (by omega) Fr.rf (fun k e a1 a2 a3 a4 => by rw [if_neg (by omega)])
      simp only [x_M_findStyles_117, x_M_findStyles_120, jwS l1]
      refine ih (i + 1) _ _ m2 (by omega) (hF.trans hF2) (fun k e a1 a2 a3 a4 => ?_)
      rw [hsc, svF_snoc, h2 k e a1 a2 a3 a4, hI k e a1 a2 a3 a4]
      by_cases q : cellV c r 3 = e ∧ ahF c (nc p) (cellV c r 5) ≤ k ∧ k < stE c (nc p) s r
      · rw [if_pos q, if_pos ⟨⟨⟨hg, hsel.1⟩, q.1⟩, q.2⟩]
      · rw [if_neg q, if_neg (fun z => q ⟨z.1.2, z.2⟩)]
theorem w_M_findStyles {c m : jM} {n : Nat} {p : Int} {N s : Nat} (h : CI c n) (hM : MB c m n) (hp : 0 ≤ p ∧ p < 4) (hP : PlP c m n p N s) (L : Nat) (Q : jV → jG → jM → Prop)
    (hQ : ∀ m', Fr m m' [32, 47, 48] → (∀ j, j ≠ 20 → m' 32 j = m 32 j) → (∀ k e : Int, 0 ≤ k → k < s → 0 ≤ e → e < 4 → m' 47 (4 * k + e) = svK c (nc p) s k e n) → Q jU (g0 L) m') : wp 42 0 [jO (some 32), jI p, jU, jU, jU] [] (g0 L) m Q := by
  have hn := h.2.1
  have hNn := hP.2.1
  have hsN := hP.2.2.2.2.2.2.1
  simp only [x_M_findStyles_0, x_M_findStyles_1]
  refine wl_M_s0 L m Q p jU jU s (by omega) hP.2.2.2.2.2.2.2.1 (fun m1 hF h0 => ?_) (4 * s) 0 m (by omega) (by omega) Fr.rf (fun k a b => by omega)
  have hM1 : MB c m1 n := hM.mk ⟨fun b hb j => hF b (by simp; omega) j, hF 32 (by simp) 1⟩
  simp only [x_M_findStyles_25, x_M_findStyles_26, x_M_findStyles_27, x_M_findStyles_28, sk_0, sk_1, sk_2, sk_3, sk_4, sk_5, sk_6, sk_7, sk_8, sk_9, sk_10, sk_11, sk_12, sk_13, sk_14, sk_15, sk_16, sk_17, sk_18, sk_19, sk_20, sk_21, sk_22, sk_23, sk_24, sk_25, sk_26, sk_27, sk_28, sk_29, sk_30, sk_31, sk_32, sk_33, sk_34, sk_35, sk_36, sk_37, sk_38, sk_39, sk_40, sk_41, sk_42, sk_43, sk_44, sk_45, sk_46, sk_47, sk_48, sk_49, sk_50, sk_51, sk_52, sk_53, sn_0, sn_1, sn_2, sn_3, sn_4, sn_5, sn_6, sn_7, sn_8, sn_9, sn_10, sn_11, sn_12, sn_13, sn_14, sn_15, sn_16, sn_17, sn_18, sn_19, sn_20, sn_21, sn_22, sn_23, sn_24, sn_25, sn_26, sn_27, sn_28, sn_29, sn_30, sn_31, sn_32, sn_33, sn_34, sn_35, sn_36, sn_37, sn_38, sn_39, sn_40, sn_41, sn_42, sn_43, sn_44, sn_45, sn_46, sn_47, sn_48, sn_49, sn_50, sn_51, sn_52, sn_53, rf_2_1, rf_2_2, rf_2_3, rf_2_4, rf_1_0, rf_1_1, rf_8_0, rf_7_0, rf_10_0, rf_7_1, rf_12_0, rf_7_2, rf_14_0, rf_7_3, rf_16_1, rf_16_2, rf_16_3, rf_16_4, rf_16_5, rf_16_6, rf_16_7, rf_1_2, rf_24_1, rf_24_2, rf_24_3, rf_24_4, rf_24_5, rf_24_6, rf_24_7, rf_1_3, rf_32_2, rf_32_3, rf_32_4, rf_32_5, rf_32_6, rf_32_7, rf_32_8, rf_32_9, rf_32_10, rf_32_12, rf_32_14, rf_32_15, rf_32_16, rf_32_18, rf_32_19, rf_32_21, rf_32_25, rf_32_26, rf_32_27, rf_32_28, rf_32_30, true_and, and_true, true_or, or_true, or_false, false_or, false_and, and_false, not_true, not_false_iff, ne_eq, and_self, eq_self, if_true, if_false, ite_true, ite_false, Nat.reduceLeDiff, Int.cast_ofNat_Int, Int.reduceLT, Int.reduceLE, Int.reduceEq, Int.reduceNeg, reduceCtorEq, jup_ap, Nat.reduceEqDiff, Nat.reduceAdd]
  refine w_M_findOrder h hM1 L hp 2 _ (fun m2 O hF2 hf2 hOn hO hl => ?_)
  have hM2 : MB c m2 n := hM1.mk ⟨fun b hb j => hF2 b (by simp; omega) j, hf2 1 (by decide)⟩
  have hP2 : PlP c m2 n p N s := hP.fr (fun b b1 b2 j => by rw [hF2 b (by simp; omega), hF b (by simp; omega)]) (by rw [hf2 13 (by decide), hF 32 (by simp)]) (by rw [hf2 17 (by decide), hF 32 (by simp)])
  simp only [x_M_findStyles_31, x_M_findStyles_32]
  refine wl_M_s1 h hM2 hp hP2 L O hOn hO (fun x hx => ?_) Q (fun m3 hF3 hs => hQ m3 ?_ (fun j hj => ?_) (fun k e a1 a2 a3 a4 => ?_)) O 0 jU jU m2 (by omega) Fr.rf (fun k e a1 a2 a3 a4 => ?_)
  · rw [hl, List.mem_filter, h.oMem] at hx
    exact hx
  · exact ((hF.weak (by simp)).trans (hF2.weak (by simp))).trans (hF3.weak (by simp))
  · rw [hF3 32 (by simp), hf2 j hj, hF 32 (by simp)]
  · rw [hs k e a1 a2 a3 a4, hl, svF_sel, svF_ar]
  · rw [hF2 47 (by simp), h0 _ (by omega) (by omega)]
    rfl
/-- what look has come to, for the node p -/
def LkP (c m : jM) (n : Nat) (p : Int) (N s : Nat) : Prop := PlP c m n p N s ∧ ∀ k e : Int, 0 ≤ k → k < s → 0 ≤ e → e < 4 → m 47 (4 * k + e) = svK c (nc p) s k e n
theorem LkP.fr {c m m' : jM} {n : Nat} {p : Int} {N s : Nat} (h : LkP c m n p N s) (hb : ∀ b, 42 ≤ b → b ≤ 47 → ∀ j, m' b j = m b j) (h1 : m' 32 13 = m 32 13) (h2 : m' 32 17 = m 32 17) : LkP c m' n p N s :=
  ⟨h.1.fr (fun b b1 b2 => hb b b1 (by omega)) h1 h2, fun k e a1 a2 a3 a4 => by rw [hb 47 (by decide) (by decide)]; exact h.2 k e a1 a2 a3 a4⟩
def MI (c m : jM) (n : Nat) : Prop := MB c m n ∧ (m 32 11 = -1 ∨ ∃ p N s, (0 ≤ p ∧ p < 4) ∧ m 32 11 = p ∧ LkP c m n p N s)
/-- what the reference's asking calls leave: its rows, and a look that is right -/
def OF (m m' : jM) : Prop := (∀ b, 49 ≤ b → ∀ j, m' b j = m b j) ∧ m' 32 24 = m 32 24 ∧ m' 32 29 = m 32 29
theorem w_M_lookF {c m : jM} {n : Nat} (h : CI c n) (hI : MI c m n) (L : Nat) {p : Int} (hp : 0 ≤ p ∧ p < 4) (Q : jV → jG → jM → Prop)
    (hQ : ∀ m' N s, MK m m' → OF m m' → m' 32 11 = p → LkP c m' n p N s → Q jU (g0 L) m') : wp 43 0 [jO (some 32), jI p, jU, jU] [] (g0 L) m Q := by
  have hn := h.2.1
  obtain ⟨hM, hS⟩ := hI
  simp only [x_M_look_0, x_M_look_1, x_M_look_4, x_M_look_5, x_M_look_8, sk_0, sk_1, sk_2, sk_3, sk_4, sk_5, sk_6, sk_7, sk_8, sk_9, sk_10, sk_11, sk_12, sk_13, sk_14, sk_15, sk_16, sk_17, sk_18, sk_19, sk_20, sk_21, sk_22, sk_23, sk_24, sk_25, sk_26, sk_27, sk_28, sk_29, sk_30, sk_31, sk_32, sk_33, sk_34, sk_35, sk_36, sk_37, sk_38, sk_39, sk_40, sk_41, sk_42, sk_43, sk_44, sk_45, sk_46, sk_47, sk_48, sk_49, sk_50, sk_51, sk_52, sk_53, sn_0, sn_1, sn_2, sn_3, sn_4, sn_5, sn_6, sn_7, sn_8, sn_9, sn_10, sn_11, sn_12, sn_13, sn_14, sn_15, sn_16, sn_17, sn_18, sn_19, sn_20, sn_21, sn_22, sn_23, sn_24, sn_25, sn_26, sn_27, sn_28, sn_29, sn_30, sn_31, sn_32, sn_33, sn_34, sn_35, sn_36, sn_37, sn_38, sn_39, sn_40, sn_41, sn_42, sn_43, sn_44, sn_45, sn_46, sn_47, sn_48, sn_49, sn_50, sn_51, sn_52, sn_53, rf_2_1, rf_2_2, rf_2_3, rf_2_4, rf_1_0, rf_1_1, rf_8_0, rf_7_0, rf_10_0, rf_7_1, rf_12_0, rf_7_2, rf_14_0, rf_7_3, rf_16_1, rf_16_2, rf_16_3, rf_16_4, rf_16_5, rf_16_6, rf_16_7, rf_1_2, rf_24_1, rf_24_2, rf_24_3, rf_24_4, rf_24_5, rf_24_6, rf_24_7, rf_1_3, rf_32_2, rf_32_3, rf_32_4, rf_32_5, rf_32_6, rf_32_7, rf_32_8, rf_32_9, rf_32_10, rf_32_12, rf_32_14, rf_32_15, rf_32_16, rf_32_18, rf_32_19, rf_32_21, rf_32_25, rf_32_26, rf_32_27, rf_32_28, rf_32_30, true_and, and_true, true_or, or_true, or_false, false_or, false_and, and_false, not_true, not_false_iff, ne_eq, and_self, eq_self, if_true, if_false, ite_true, ite_false, Nat.reduceLeDiff, Int.cast_ofNat_Int, Int.reduceLT, Int.reduceLE, Int.reduceEq, Int.reduceNeg, reduceCtorEq, jup_ap, Nat.reduceEqDiff, Nat.reduceAdd]
  by_cases e : m 32 11 = p
  · rw [if_neg (fun q => q e)]
    rcases hS with q | ⟨p', N, s, q1, q2, q3⟩
    · omega
    · have : p' = p := by omega
      subst this
      exact hQ m N s MK.rf ⟨fun _ _ _ => rfl, rfl, rfl⟩ q2 q3
  · rw [if_pos e]
    simp only [x_M_look_9, x_M_look_10, x_M_look_11, x_M_look_14, x_M_look_15, x_M_look_16, sk_0, sk_1, sk_2, sk_3, sk_4, sk_5, sk_6, sk_7, sk_8, sk_9, sk_10, sk_11, sk_12, sk_13, sk_14, sk_15, sk_16, sk_17, sk_18, sk_19, sk_20, sk_21, sk_22, sk_23, sk_24, sk_25, sk_26, sk_27, sk_28, sk_29, sk_30, sk_31, sk_32, sk_33, sk_34, sk_35, sk_36, sk_37, sk_38, sk_39, sk_40, sk_41, sk_42, sk_43, sk_44, sk_45, sk_46, sk_47, sk_48, sk_49, sk_50, sk_51, sk_52, sk_53, sn_0, sn_1, sn_2, sn_3, sn_4, sn_5, sn_6, sn_7, sn_8, sn_9, sn_10, sn_11, sn_12, sn_13, sn_14, sn_15, sn_16, sn_17, sn_18, sn_19, sn_20, sn_21, sn_22, sn_23, sn_24, sn_25, sn_26, sn_27, sn_28, sn_29, sn_30, sn_31, sn_32, sn_33, sn_34, sn_35, sn_36, sn_37, sn_38, sn_39, sn_40, sn_41, sn_42, sn_43, sn_44, sn_45, sn_46, sn_47, sn_48, sn_49, sn_50, sn_51, sn_52, sn_53, rf_2_1, rf_2_2, rf_2_3, rf_2_4, rf_1_0, rf_1_1, rf_8_0, rf_7_0, rf_10_0, rf_7_1, rf_12_0, rf_7_2, rf_14_0, rf_7_3, rf_16_1, rf_16_2, rf_16_3, rf_16_4, rf_16_5, rf_16_6, rf_16_7, rf_1_2, rf_24_1, rf_24_2, rf_24_3, rf_24_4, rf_24_5, rf_24_6, rf_24_7, rf_1_3, rf_32_2, rf_32_3, rf_32_4, rf_32_5, rf_32_6, rf_32_7, rf_32_8, rf_32_9, rf_32_10, rf_32_12, rf_32_14, rf_32_15, rf_32_16, rf_32_18, rf_32_19, rf_32_21, rf_32_25, rf_32_26, rf_32_27, rf_32_28, rf_32_30, true_and, and_true, true_or, or_true, or_false, false_or, false_and, and_false, not_true, not_false_iff, ne_eq, and_self, eq_self, if_true, if_false, ite_true, ite_false, Nat.reduceLeDiff, Int.cast_ofNat_Int, Int.reduceLT, Int.reduceLE, Int.reduceEq, Int.reduceNeg, reduceCtorEq, jup_ap, Nat.reduceEqDiff, Nat.reduceAdd]
    have hM1 : MB c (jup m 32 11 p) n := hM.mk (MK.rf.upf (by decide))
    refine w_M_judge h hM1 L hp _ (fun m2 hF2 hg => ?_)
    have hM2 : MB c m2 n := hM1.mk ⟨fun b hb j => hF2 b (by simp; omega) j, hF2 32 (by simp) 1⟩
    simp only [x_M_look_19, x_M_look_20, x_M_look_21, sk_0, sk_1, sk_2, sk_3, sk_4, sk_5, sk_6, sk_7, sk_8, sk_9, sk_10, sk_11, sk_12, sk_13, sk_14, sk_15, sk_16, sk_17, sk_18, sk_19, sk_20, sk_21, sk_22, sk_23, sk_24, sk_25, sk_26, sk_27, sk_28, sk_29, sk_30, sk_31, sk_32, sk_33, sk_34, sk_35, sk_36, sk_37, sk_38, sk_39, sk_40, sk_41, sk_42, sk_43, sk_44, sk_45, sk_46, sk_47, sk_48, sk_49, sk_50, sk_51, sk_52, sk_53, sn_0, sn_1, sn_2, sn_3, sn_4, sn_5, sn_6, sn_7, sn_8, sn_9, sn_10, sn_11, sn_12, sn_13, sn_14, sn_15, sn_16, sn_17, sn_18, sn_19, sn_20, sn_21, sn_22, sn_23, sn_24, sn_25, sn_26, sn_27, sn_28, sn_29, sn_30, sn_31, sn_32, sn_33, sn_34, sn_35, sn_36, sn_37, sn_38, sn_39, sn_40, sn_41, sn_42, sn_43, sn_44, sn_45, sn_46, sn_47, sn_48, sn_49, sn_50, sn_51, sn_52, sn_53, rf_2_1, rf_2_2, rf_2_3, rf_2_4, rf_1_0, rf_1_1, rf_8_0, rf_7_0, rf_10_0, rf_7_1, rf_12_0, rf_7_2, rf_14_0, rf_7_3, rf_16_1, rf_16_2, rf_16_3, rf_16_4, rf_16_5, rf_16_6, rf_16_7, rf_1_2, rf_24_1, rf_24_2, rf_24_3, rf_24_4, rf_24_5, rf_24_6, rf_24_7, rf_1_3, rf_32_2, rf_32_3, rf_32_4, rf_32_5, rf_32_6, rf_32_7, rf_32_8, rf_32_9, rf_32_10, rf_32_12, rf_32_14, rf_32_15, rf_32_16, rf_32_18, rf_32_19, rf_32_21, rf_32_25, rf_32_26, rf_32_27, rf_32_28, rf_32_30, true_and, and_true, true_or, or_true, or_false, false_or, false_and, and_false, not_true, not_false_iff, ne_eq, and_self, eq_self, if_true, if_false, ite_true, ite_false, Nat.reduceLeDiff, Int.cast_ofNat_Int, Int.reduceLT, Int.reduceLE, Int.reduceEq, Int.reduceNeg, reduceCtorEq, jup_ap, Nat.reduceEqDiff, Nat.reduceAdd]
    refine w_M_findPlaces h hM2 L hp _ (fun m3 N hF3 hf3 hNn hN hP hwh => ?_)
    have hM3 : MB c m3 n := hM2.mk ⟨fun b hb j => hF3 b (by simp; omega) j, hf3 1 (by decide) (by decide)⟩
    simp only [x_M_look_24, x_M_look_25, x_M_look_26, x_M_look_29, x_M_look_30, sk_0, sk_1, sk_2, sk_3, sk_4, sk_5, sk_6, sk_7, sk_8, sk_9, sk_10, sk_11, sk_12, sk_13, sk_14, sk_15, sk_16, sk_17, sk_18, sk_19, sk_20, sk_21, sk_22, sk_23, sk_24, sk_25, sk_26, sk_27, sk_28, sk_29, sk_30, sk_31, sk_32, sk_33, sk_34, sk_35, sk_36, sk_37, sk_38, sk_39, sk_40, sk_41, sk_42, sk_43, sk_44, sk_45, sk_46, sk_47, sk_48, sk_49, sk_50, sk_51, sk_52, sk_53, sn_0, sn_1, sn_2, sn_3, sn_4, sn_5, sn_6, sn_7, sn_8, sn_9, sn_10, sn_11, sn_12, sn_13, sn_14, sn_15, sn_16, sn_17, sn_18, sn_19, sn_20, sn_21, sn_22, sn_23, sn_24, sn_25, sn_26, sn_27, sn_28, sn_29, sn_30, sn_31, sn_32, sn_33, sn_34, sn_35, sn_36, sn_37, sn_38, sn_39, sn_40, sn_41, sn_42, sn_43, sn_44, sn_45, sn_46, sn_47, sn_48, sn_49, sn_50, sn_51, sn_52, sn_53, rf_2_1, rf_2_2, rf_2_3, rf_2_4, rf_1_0, rf_1_1, rf_8_0, rf_7_0, rf_10_0, rf_7_1, rf_12_0, rf_7_2, rf_14_0, rf_7_3, rf_16_1, rf_16_2, rf_16_3, rf_16_4, rf_16_5, rf_16_6, rf_16_7, rf_1_2, rf_24_1, rf_24_2, rf_24_3, rf_24_4, rf_24_5, rf_24_6, rf_24_7, rf_1_3, rf_32_2, rf_32_3, rf_32_4, rf_32_5, rf_32_6, rf_32_7, rf_32_8, rf_32_9, rf_32_10, rf_32_12, rf_32_14, rf_32_15, rf_32_16, rf_32_18, rf_32_19, rf_32_21, rf_32_25, rf_32_26, rf_32_27, rf_32_28, rf_32_30, true_and, and_true, true_or, or_true, or_false, false_or, false_and, and_false, not_true, not_false_iff, ne_eq, and_self, eq_self, if_true, if_false, ite_true, ite_false, Nat.reduceLeDiff, Int.cast_ofNat_Int, Int.reduceLT, Int.reduceLE, Int.reduceEq, Int.reduceNeg, reduceCtorEq, jup_ap, Nat.reduceEqDiff, Nat.reduceAdd]
    have hM4 : MB c (jup m3 32 17 0) n := hM3.mk (MK.rf.upf (by decide))
    have eP : ar ((jup m3 32 17 0) 43) N = KLm c (nc p) := by
      rw [← hP]
      exact ar_congr (fun i _ => by rw [jup_ap, if_neg (by omega)])
    refine wl_M_look h hM4 L (p := p) (fun r a b => ?_) N hNn (by rw [jup_ap, if_neg (by omega)]; exact hN) eP _ (fun m5 s l3 hF5 hf5 hs => ?_) N 0 jU _ 0 (by omega) Fr.rf (fun _ _ => rfl) ⟨Nat.le_refl _, by rw [jup_ap, if_pos ⟨rfl, rfl⟩]; rfl, rfl, fun j hj => by omega⟩
    · rw [jup_ap, if_neg (by omega), hF3 42 (by simp)]
      exact hg r a b
    · have hM5 : MB c m5 n := hM4.mk ⟨fun b hb j => hF5 b (by simp; omega) j, hf5 1 (by decide)⟩
      have hsl := hs.len
      obtain ⟨s1, s2, s3, s4⟩ := hs
      have e13 : m5 32 13 = (N : Int) := by rw [hf5 13 (by decide), jup_ap, if_neg (by omega)]; exact hN
      have hb : (0 : Int) ≤ (N : Int) ∧ (N : Int) < 252 := by omega
      have eP2 : ar (m5 43) N = KLm c (nc p) := by
        rw [← eP]
        exact ar_congr (fun i _ => hF5 43 (by simp) i)
      rw [eP] at s3 s4 hsl
      simp only [x_M_look_102, x_M_look_103, x_M_look_106, x_M_look_107, x_M_look_110, x_M_look_111, x_M_look_114, x_M_look_115, x_M_look_116, x_M_look_117, e13, s2, hb, sk_0, sk_1, sk_2, sk_3, sk_4, sk_5, sk_6, sk_7, sk_8, sk_9, sk_10, sk_11, sk_12, sk_13, sk_14, sk_15, sk_16, sk_17, sk_18, sk_19, sk_20, sk_21, sk_22, sk_23, sk_24, sk_25, sk_26, sk_27, sk_28, sk_29, sk_30, sk_31, sk_32, sk_33, sk_34, sk_35, sk_36, sk_37, sk_38, sk_39, sk_40, sk_41, sk_42, sk_43, sk_44, sk_45, sk_46, sk_47, sk_48, sk_49, sk_50, sk_51, sk_52, sk_53, sn_0, sn_1, sn_2, sn_3, sn_4, sn_5, sn_6, sn_7, sn_8, sn_9, sn_10, sn_11, sn_12, sn_13, sn_14, sn_15, sn_16, sn_17, sn_18, sn_19, sn_20, sn_21, sn_22, sn_23, sn_24, sn_25, sn_26, sn_27, sn_28, sn_29, sn_30, sn_31, sn_32, sn_33, sn_34, sn_35, sn_36, sn_37, sn_38, sn_39, sn_40, sn_41, sn_42, sn_43, sn_44, sn_45, sn_46, sn_47, sn_48, sn_49, sn_50, sn_51, sn_52, sn_53, rf_2_1, rf_2_2, rf_2_3, rf_2_4, rf_1_0, rf_1_1, rf_8_0, rf_7_0, rf_10_0, rf_7_1, rf_12_0, rf_7_2, rf_14_0, rf_7_3, rf_16_1, rf_16_2, rf_16_3, rf_16_4, rf_16_5, rf_16_6, rf_16_7, rf_1_2, rf_24_1, rf_24_2, rf_24_3, rf_24_4, rf_24_5, rf_24_6, rf_24_7, rf_1_3, rf_32_2, rf_32_3, rf_32_4, rf_32_5, rf_32_6, rf_32_7, rf_32_8, rf_32_9, rf_32_10, rf_32_12, rf_32_14, rf_32_15, rf_32_16, rf_32_18, rf_32_19, rf_32_21, rf_32_25, rf_32_26, rf_32_27, rf_32_28, rf_32_30, true_and, and_true, true_or, or_true, or_false, false_or, false_and, and_false, not_true, not_false_iff, ne_eq, and_self, eq_self, if_true, if_false, ite_true, ite_false, Nat.reduceLeDiff, Int.cast_ofNat_Int, Int.reduceLT, Int.reduceLE, Int.reduceEq, Int.reduceNeg, reduceCtorEq, jup_ap, Nat.reduceEqDiff, Nat.reduceAdd]
      have hM6 : MB c (jup m5 45 (N : Int) (s : Int)) n := hM5.mk (MK.rf.up (by decide))
      have hP6 : PlP c (jup m5 45 (N : Int) (s : Int)) n p N s := by
        refine ⟨fun r a b => ?_, hNn, ?_, ?_, fun j hj => ?_, fun j hj => ?_, s1, ?_, ?_⟩
        · rw [jup_ap, if_neg (by omega), hF5 42 (by simp), jup_ap, if_neg (by omega), hF3 42 (by simp)]
          exact hg r a b
        · rw [jup_ap, if_neg (by omega)]; exact e13
        · rw [← eP2]
          exact ar_congr (fun i _ => by rw [jup_ap, if_neg (by omega)])
        · rw [jup_ap, if_neg (by omega), jup_ap, if_neg (by omega), hF5 44 (by simp), hF5 43 (by simp), jup_ap, if_neg (by omega), jup_ap, if_neg (by omega)]
          exact hwh j hj
        · rw [jup_ap]
          by_cases q : j = N
          · rw [q, if_pos ⟨rfl, rfl⟩, hsl]
          · rw [if_neg (by omega)]
            exact s4 j (by omega)
        · rw [jup_ap, if_neg (by omega)]; exact s2
        · rw [← KL_vis, ← s3]
          exact ar_congr (fun i _ => by rw [jup_ap, if_neg (by omega)])
      refine w_M_findStyles h hM6 hp hP6 L _ (fun m7 hF7 hf7 hst => ?_)
      simp only [x_M_look_120]
      have hP7 : PlP c m7 n p N s := hP6.fr (fun b b1 b2 j => hF7 b (by simp; omega) j) (hf7 13 (by decide)) (hf7 17 (by decide))
      have hbb : ∀ b, b < 32 ∨ (33 ≤ b ∧ b ≤ 41) ∨ 49 ≤ b → ∀ j, m7 b j = m b j := fun b hb j => by
        rw [hF7 b (by simp; omega), jup_ap, if_neg (by omega), hF5 b (by simp; omega), jup_ap, if_neg (by omega), hF3 b (by simp; omega), hF2 b (by simp; omega), jup_ap, if_neg (by omega)]
      have hff : ∀ j, j = 1 ∨ j = 24 ∨ j = 29 → m7 32 j = m 32 j := fun j hj => by
        rw [hf7 j (by omega), jup_ap, if_neg (by omega), hf5 j (by omega), jup_ap, if_neg (by omega), hf3 j (by omega) (by omega), hF2 32 (by simp), jup_ap, if_neg (by omega)]
      refine hQ m7 N s ⟨fun b hb j => hbb b (by omega) j, hff 1 (Or.inl rfl)⟩ ⟨fun b hb j => hbb b (by omega) j, hff 24 (by omega), hff 29 (by omega)⟩ ?_ ⟨hP7, hst⟩
      rw [hf7 11 (by decide), jup_ap, if_neg (by omega), hf5 11 (by decide), jup_ap, if_neg (by omega), hf3 11 (by decide) (by decide), hF2 32 (by simp), jup_ap, if_pos ⟨rfl, rfl⟩]
theorem w_M_look {c m : jM} {n : Nat} (h : CI c n) (hI : MI c m n) (L : Nat) {p : Int} (hp : 0 ≤ p ∧ p < 4) (Q : jV → jG → jM → Prop)
    (hQ : ∀ m' N s, MK m m' → m' 32 11 = p → LkP c m' n p N s → Q jU (g0 L) m') : wp 43 0 [jO (some 32), jI p, jU, jU] [] (g0 L) m Q :=
  w_M_lookF h hI L hp Q (fun m' N s a _ b d => hQ m' N s a b d)
