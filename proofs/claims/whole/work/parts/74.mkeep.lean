theorem pSt_hit {f : Int → Int} {k : Int} : ∀ (d : Nat) (cnt i : Int), cnt < k → k ≤ cnt + sumI (fun i => b01 (f i = 10)) i d → ∃ j : Int, i ≤ j ∧ j < i + d ∧ f j = 10 ∧ pSt f k cnt i d = j + 1
  | 0, cnt, i, h1, h2 => by
    have : sumI (fun i => b01 (f i = 10)) i 0 = 0 := rfl
    omega
  | d + 1, cnt, i, h1, h2 => by
    have es : sumI (fun i => b01 (f i = 10)) i (d + 1) = b01 (f i = 10) + sumI (fun i => b01 (f i = 10)) (i + 1) d := rfl
    rw [es] at h2
    unfold pSt
    by_cases e : f i = 10
    · rw [if_pos e]
      rw [b01_1 e] at h2
      by_cases ek : cnt + 1 = k
      · rw [if_pos ek]
        exact ⟨i, by omega, by omega, e, rfl⟩
      · rw [if_neg ek]
        obtain ⟨j, j1, j2, j3, j4⟩ := pSt_hit (f := f) (k := k) d (cnt + 1) (i + 1) (by omega) (by omega)
        exact ⟨j, by omega, by omega, j3, j4⟩
    · rw [if_neg e]
      rw [b01_n e] at h2
      obtain ⟨j, j1, j2, j3, j4⟩ := pSt_hit (f := f) (k := k) d cnt (i + 1) (by omega) (by omega)
      exact ⟨j, by omega, by omega, j3, j4⟩
theorem sumT_nn (f : Int → Int) : ∀ (d : Nat) (i : Int), 0 ≤ sumI (fun i => b01 (f i = 10)) i d ∧ sumI (fun i => b01 (f i = 10)) i d ≤ d := fun d i => by
  have := sumQ_bd (fun i => decide (f i = 10)) d i
  have e : sumI (fun i => b01 (f i = 10)) i d = sumI (fun i => b2i (decide (f i = 10))) i d := sumI_congr d i (fun j _ _ => by unfold b01 b2i; simp)
  rw [e]
  exact this
theorem pSt_all {f : Int → Int} {j : Int} (hj : f j = 10) : ∀ (d : Nat) (cnt i : Int), i ≤ j → j < i + d → ∃ k : Int, cnt < k ∧ k ≤ cnt + sumI (fun i => b01 (f i = 10)) i d ∧ pSt f k cnt i d = j + 1
  | 0, cnt, i, h1, h2 => by omega
  | d + 1, cnt, i, h1, h2 => by
    have es : sumI (fun i => b01 (f i = 10)) i (d + 1) = b01 (f i = 10) + sumI (fun i => b01 (f i = 10)) (i + 1) d := rfl
    rw [es]
    have hnn := sumT_nn f d (i + 1)
    by_cases e : j = i
    · subst e
      rw [b01_1 hj]
      refine ⟨cnt + 1, by omega, by omega, ?_⟩
      unfold pSt
      rw [if_pos hj, if_pos rfl]
    · by_cases e2 : f i = 10
      · obtain ⟨k, k1, k2, k3⟩ := pSt_all hj d (cnt + 1) (i + 1) (by omega) (by omega)
        rw [b01_1 e2]
        refine ⟨k, by omega, by omega, ?_⟩
        unfold pSt
        rw [if_pos e2, if_neg (by omega)]
        exact k3
      · obtain ⟨k, k1, k2, k3⟩ := pSt_all hj d cnt (i + 1) (by omega) (by omega)
        rw [b01_n e2]
        refine ⟨k, by omega, by omega, ?_⟩
        unfold pSt
        rw [if_neg e2]
        exact k3
/-- how many paragraphs -/
def nPar (c : jM) (p : Int) : Int := 1 + sumI (fun i => b01 (tx c (nc p) i = 10)) 0 (nV c p)
theorem psP_hit {c : jM} {p k : Int} (h0 : 0 < k) (h1 : k < nPar c p) : ∃ j : Int, 0 ≤ j ∧ j < (nV c p : Int) ∧ tx c (nc p) j = 10 ∧ psP c p k = j + 1 := by
  unfold nPar at h1
  obtain ⟨j, j1, j2, j3, j4⟩ := pSt_hit (f := tx c (nc p)) (k := k) (nV c p) 0 0 h0 (by omega)
  refine ⟨j, j1, by omega, j3, ?_⟩
  unfold psP pSt0
  rw [if_neg (by omega)]
  exact j4
theorem psP_all {c : jM} {p j : Int} (h0 : 0 ≤ j) (h1 : j < (nV c p : Int)) (h2 : tx c (nc p) j = 10) : ∃ k : Int, 0 < k ∧ k < nPar c p ∧ psP c p k = j + 1 := by
  obtain ⟨k, k1, k2, k3⟩ := pSt_all h2 (nV c p) 0 0 h0 (by omega)
  refine ⟨k, k1, by unfold nPar; omega, ?_⟩
  unfold psP pSt0
  rw [if_neg (by omega)]
  exact k3
theorem psP_0 (c : jM) (p : Int) : psP c p 0 = 0 := by
  unfold psP pSt0
  rw [if_pos rfl]
theorem psP_in {c : jM} {p k : Int} (h0 : 0 ≤ k) (h1 : k < nPar c p) : 0 ≤ psP c p k ∧ psP c p k ≤ (nV c p : Int) := by
  by_cases e : k = 0
  · rw [e, psP_0]; omega
  · obtain ⟨j, j1, j2, j3, j4⟩ := psP_hit (p := p) (c := c) (k := k) (by omega) h1
    omega
theorem nPar_bd (c : jM) (p : Int) : 1 ≤ nPar c p ∧ nPar c p ≤ (nV c p : Int) + 1 := by
  have := sumT_nn (tx c (nc p)) (nV c p) 0
  unfold nPar
  omega
theorem w_M_kindAt {c m : jM} {n : Nat} {p : Int} {N s : Nat} (h : CI c n) (hM : MB c m n) (hL : LkP c m n p N s) (L : Nat) {k : Int} (h0 : 0 ≤ k) (h1 : k < nPar c p) (p' : Int) (Q : jV → jG → jM → Prop) :
    wp 72 0 [jO (some 32), jI p', jI k, jU] [] (g0 L) m Q = Q (jI (kdT c n p (psP c p k))) (g0 L) m := by
  have hn := h.2.1
  have l := hL.len
  have hb := psP_in h0 h1
  have hp := nPar_bd c p
  rw [l.2.1] at hb hp
  simp only [x_M_kindAt_0, x_M_kindAt_1, x_M_kindAt_2, x_M_kindAt_5, x_M_kindAt_6, x_M_kindAt_7, x_M_kindAt_8, x_M_kindAt_9, x_M_kindAt_10, x_M_kindAt_13, x_M_kindAt_14, x_M_kindAt_17, x_M_kindAt_18, x_M_kindAt_21, x_M_kindAt_22, x_M_kindAt_23, x_M_kindAt_26, w_M_startOf h hM hL L k (by omega), w_M_kindOf h hM hL.1.1 L, sk_0, sk_1, sk_2, sk_3, sk_4, sk_5, sk_6, sk_7, sk_8, sk_9, sk_10, sk_11, sk_12, sk_13, sk_14, sk_15, sk_16, sk_17, sk_18, sk_19, sk_20, sk_21, sk_22, sk_23, sk_24, sk_25, sk_26, sk_27, sk_28, sk_29, sk_30, sk_31, sk_32, sk_33, sk_34, sk_35, sk_36, sk_37, sk_38, sk_39, sk_40, sk_41, sk_42, sk_43, sk_44, sk_45, sk_46, sk_47, sk_48, sk_49, sk_50, sk_51, sk_52, sk_53, sn_0, sn_1, sn_2, sn_3, sn_4, sn_5, sn_6, sn_7, sn_8, sn_9, sn_10, sn_11, sn_12, sn_13, sn_14, sn_15, sn_16, sn_17, sn_18, sn_19, sn_20, sn_21, sn_22, sn_23, sn_24, sn_25, sn_26, sn_27, sn_28, sn_29, sn_30, sn_31, sn_32, sn_33, sn_34, sn_35, sn_36, sn_37, sn_38, sn_39, sn_40, sn_41, sn_42, sn_43, sn_44, sn_45, sn_46, sn_47, sn_48, sn_49, sn_50, sn_51, sn_52, sn_53, rf_2_1, rf_2_2, rf_2_3, rf_2_4, rf_1_0, rf_1_1, rf_8_0, rf_7_0, rf_10_0, rf_7_1, rf_12_0, rf_7_2, rf_14_0, rf_7_3, rf_16_1, rf_16_2, rf_16_3, rf_16_4, rf_16_5, rf_16_6, rf_16_7, rf_1_2, rf_24_1, rf_24_2, rf_24_3, rf_24_4, rf_24_5, rf_24_6, rf_24_7, rf_1_3, rf_32_2, rf_32_3, rf_32_4, rf_32_5, rf_32_6, rf_32_7, rf_32_8, rf_32_9, rf_32_10, rf_32_12, rf_32_14, rf_32_15, rf_32_16, rf_32_18, rf_32_19, rf_32_21, rf_32_25, rf_32_26, rf_32_27, rf_32_28, rf_32_30, true_and, and_true, true_or, or_true, or_false, false_or, false_and, and_false, not_true, not_false_iff, ne_eq, and_self, eq_self, if_true, if_false, ite_true, ite_false, Nat.reduceLeDiff, Int.cast_ofNat_Int, Int.reduceLT, Int.reduceLE, Int.reduceEq, Int.reduceNeg, reduceCtorEq, jup_ap, Nat.reduceEqDiff, Nat.reduceAdd]
  unfold kdT
  by_cases e : psP c p k = 0
  · rw [if_neg (by omega), getI_out (Or.inl (by omega))]
  · rw [if_pos (by omega), jand_t (by omega), (hL.at h hM (i := psP c p k - 1) (by omega)).2.2 0]
theorem Fr.lk {c m m' : jM} {n : Nat} {p : Int} {N s : Nat} {S : List Nat} (h : Fr m m' S) (hS : ∀ b, b ∈ S → 49 ≤ b) (hL : LkP c m n p N s) : LkP c m' n p N s :=
  hL.fr (fun b b1 b2 j => h b (fun q => by have := hS b q; omega) j) (h 32 (fun q => by have := hS 32 q; omega) 13) (h 32 (fun q => by have := hS 32 q; omega) 17)
theorem Fr.mb {c m m' : jM} {n : Nat} {S : List Nat} (h : Fr m m' S) (hS : ∀ b, b ∈ S → 49 ≤ b) (hM : MB c m n) : MB c m' n :=
  hM.mk ⟨fun b hb j => h b (fun q => by have := hS b q; omega) j, h 32 (fun q => by have := hS 32 q; omega) 1⟩
theorem wl_M_k0 {c m : jM} {n : Nat} {p : Int} {N s : Nat} (h : CI c n) (hM : MB c m n) (hL : LkP c m n p N s) (L : Nat) (l3 : jV) (Q : jV → jG → jM → Prop)
    (hQ : ∀ m', Fr m m' [49] → (∀ j : Int, 0 ≤ j → j < (s : Int) → m' 49 j = tx c (nc p) j) → wp 73 46 [jO (some 32), jI p, jI (s : Int), l3] [] (g0 L) m' Q) :
    ∀ (d : Nat) (i : Int) (m1 : jM), 0 ≤ i → i + d = (s : Int) → Fr m m1 [49] → (∀ j : Int, 0 ≤ j → j < i → m1 49 j = tx c (nc p) j) → wp 73 15 [jO (some 32), jI p, jI i, l3] [] (g0 L) m1 Q := by
  have hn := h.2.1
  intro d
  induction d with
  | zero =>
    intro i m1 i1 i2 hF hI
    have : i = (s : Int) := by omega
    subst this
    obtain ⟨b1, b2, b3, b4, b5⟩ := (hF.lk (by simp) hL).len
    rw [x_M_keep_15]
    simp only [x_M_keep_16, x_M_keep_17, x_M_keep_20, b3, Int.le_refl, sk_0, sk_1, sk_2, sk_3, sk_4, sk_5, sk_6, sk_7, sk_8, sk_9, sk_10, sk_11, sk_12, sk_13, sk_14, sk_15, sk_16, sk_17, sk_18, sk_19, sk_20, sk_21, sk_22, sk_23, sk_24, sk_25, sk_26, sk_27, sk_28, sk_29, sk_30, sk_31, sk_32, sk_33, sk_34, sk_35, sk_36, sk_37, sk_38, sk_39, sk_40, sk_41, sk_42, sk_43, sk_44, sk_45, sk_46, sk_47, sk_48, sk_49, sk_50, sk_51, sk_52, sk_53, sn_0, sn_1, sn_2, sn_3, sn_4, sn_5, sn_6, sn_7, sn_8, sn_9, sn_10, sn_11, sn_12, sn_13, sn_14, sn_15, sn_16, sn_17, sn_18, sn_19, sn_20, sn_21, sn_22, sn_23, sn_24, sn_25, sn_26, sn_27, sn_28, sn_29, sn_30, sn_31, sn_32, sn_33, sn_34, sn_35, sn_36, sn_37, sn_38, sn_39, sn_40, sn_41, sn_42, sn_43, sn_44, sn_45, sn_46, sn_47, sn_48, sn_49, sn_50, sn_51, sn_52, sn_53, rf_2_1, rf_2_2, rf_2_3, rf_2_4, rf_1_0, rf_1_1, rf_8_0, rf_7_0, rf_10_0, rf_7_1, rf_12_0, rf_7_2, rf_14_0, rf_7_3, rf_16_1, rf_16_2, rf_16_3, rf_16_4, rf_16_5, rf_16_6, rf_16_7, rf_1_2, rf_24_1, rf_24_2, rf_24_3, rf_24_4, rf_24_5, rf_24_6, rf_24_7, rf_1_3, rf_32_2, rf_32_3, rf_32_4, rf_32_5, rf_32_6, rf_32_7, rf_32_8, rf_32_9, rf_32_10, rf_32_12, rf_32_14, rf_32_15, rf_32_16, rf_32_18, rf_32_19, rf_32_21, rf_32_25, rf_32_26, rf_32_27, rf_32_28, rf_32_30, true_and, and_true, true_or, or_true, or_false, false_or, false_and, and_false, not_true, not_false_iff, ne_eq, and_self, eq_self, if_true, if_false, ite_true, ite_false, Nat.reduceLeDiff, Int.cast_ofNat_Int, Int.reduceLT, Int.reduceLE, Int.reduceEq, Int.reduceNeg, reduceCtorEq, jup_ap, Nat.reduceEqDiff, Nat.reduceAdd]
    exact hQ m1 hF hI
  | succ d ih =>
    intro i m1 i1 i2 hF hI
    have hL1 := hF.lk (by simp) hL
    have hM1 := hF.mb (by simp) hM
    obtain ⟨b1, b2, b3, b4, b5⟩ := hL1.len
    have hle : ¬ (s : Int) ≤ i := by omega
    have ha := hL1.at h hM1 (i := i) (by omega)
    have hb : 0 ≤ i ∧ i < 251 := by omega
    have hb2 : 0 ≤ m1 46 i ∧ m1 46 i < 251 := by omega
    have et : m1 36 (m1 46 i) = tx c (nc p) i := ha.2.1 0
    rw [x_M_keep_15]
    simp only [x_M_keep_16, x_M_keep_17, x_M_keep_20, x_M_keep_23, x_M_keep_24, x_M_keep_27, x_M_keep_28, x_M_keep_29, x_M_keep_32, x_M_keep_33, x_M_keep_36, x_M_keep_37, x_M_keep_38, x_M_keep_39, x_M_keep_40, x_M_keep_43, b3, hle, hb, hb2, et, show jwr (i + 1) = i + 1 from jw1 (by omega) (by omega), sk_0, sk_1, sk_2, sk_3, sk_4, sk_5, sk_6, sk_7, sk_8, sk_9, sk_10, sk_11, sk_12, sk_13, sk_14, sk_15, sk_16, sk_17, sk_18, sk_19, sk_20, sk_21, sk_22, sk_23, sk_24, sk_25, sk_26, sk_27, sk_28, sk_29, sk_30, sk_31, sk_32, sk_33, sk_34, sk_35, sk_36, sk_37, sk_38, sk_39, sk_40, sk_41, sk_42, sk_43, sk_44, sk_45, sk_46, sk_47, sk_48, sk_49, sk_50, sk_51, sk_52, sk_53, sn_0, sn_1, sn_2, sn_3, sn_4, sn_5, sn_6, sn_7, sn_8, sn_9, sn_10, sn_11, sn_12, sn_13, sn_14, sn_15, sn_16, sn_17, sn_18, sn_19, sn_20, sn_21, sn_22, sn_23, sn_24, sn_25, sn_26, sn_27, sn_28, sn_29, sn_30, sn_31, sn_32, sn_33, sn_34, sn_35, sn_36, sn_37, sn_38, sn_39, sn_40, sn_41, sn_42, sn_43, sn_44, sn_45, sn_46, sn_47, sn_48, sn_49, sn_50, sn_51, sn_52, sn_53, rf_2_1, rf_2_2, rf_2_3, rf_2_4, rf_1_0, rf_1_1, rf_8_0, rf_7_0, rf_10_0, rf_7_1, rf_12_0, rf_7_2, rf_14_0, rf_7_3, rf_16_1, rf_16_2, rf_16_3, rf_16_4, rf_16_5, rf_16_6, rf_16_7, rf_1_2, rf_24_1, rf_24_2, rf_24_3, rf_24_4, rf_24_5, rf_24_6, rf_24_7, rf_1_3, rf_32_2, rf_32_3, rf_32_4, rf_32_5, rf_32_6, rf_32_7, rf_32_8, rf_32_9, rf_32_10, rf_32_12, rf_32_14, rf_32_15, rf_32_16, rf_32_18, rf_32_19, rf_32_21, rf_32_25, rf_32_26, rf_32_27, rf_32_28, rf_32_30, true_and, and_true, true_or, or_true, or_false, false_or, false_and, and_false, not_true, not_false_iff, ne_eq, and_self, eq_self, if_true, if_false, ite_true, ite_false, Nat.reduceLeDiff, Int.cast_ofNat_Int, Int.reduceLT, Int.reduceLE, Int.reduceEq, Int.reduceNeg, reduceCtorEq, jup_ap, Nat.reduceEqDiff, Nat.reduceAdd]
    refine ih (i + 1) _ (by omega) (by omega) (hF.up (by simp)) (fun j j1 j2 => ?_)
    rw [jup_ap]
    by_cases e : j = i
    · rw [if_pos ⟨rfl, e⟩, e]
    · rw [if_neg (fun q => e q.2)]
      exact hI j j1 (by omega)
theorem wl_M_k1 {m : jM} (L : Nat) (p : Int) (l3 : jV) {s : Nat} (hs : s ≤ 250) (h17 : m 32 17 = (s : Int)) (Q : jV → jG → jM → Prop)
    (hQ : ∀ m', Fr m m' [50] → (∀ j : Int, 0 ≤ j → j < 4 * (s : Int) → m' 50 j = m 47 j) → wp 73 76 [jO (some 32), jI p, jI (4 * (s : Int)), l3] [] (g0 L) m' Q) :
    ∀ (d : Nat) (i : Int) (m1 : jM), 0 ≤ i → i + d = 4 * (s : Int) → Fr m m1 [50] → (∀ j : Int, 0 ≤ j → j < i → m1 50 j = m 47 j) → wp 73 48 [jO (some 32), jI p, jI i, l3] [] (g0 L) m1 Q := by
  intro d
  induction d with
  | zero =>
    intro i m1 i1 i2 hF hI
    have : i = 4 * (s : Int) := by omega
    subst this
    have b3 : m1 32 17 = (s : Int) := by rw [hF 32 (by simp)]; exact h17
    rw [x_M_keep_48]
    simp only [x_M_keep_49, x_M_keep_50, x_M_keep_51, x_M_keep_54, x_M_keep_55, b3, show jwr (4 * (s : Int)) = 4 * (s : Int) from jw1 (by omega) (by omega), Int.le_refl, sk_0, sk_1, sk_2, sk_3, sk_4, sk_5, sk_6, sk_7, sk_8, sk_9, sk_10, sk_11, sk_12, sk_13, sk_14, sk_15, sk_16, sk_17, sk_18, sk_19, sk_20, sk_21, sk_22, sk_23, sk_24, sk_25, sk_26, sk_27, sk_28, sk_29, sk_30, sk_31, sk_32, sk_33, sk_34, sk_35, sk_36, sk_37, sk_38, sk_39, sk_40, sk_41, sk_42, sk_43, sk_44, sk_45, sk_46, sk_47, sk_48, sk_49, sk_50, sk_51, sk_52, sk_53, sn_0, sn_1, sn_2, sn_3, sn_4, sn_5, sn_6, sn_7, sn_8, sn_9, sn_10, sn_11, sn_12, sn_13, sn_14, sn_15, sn_16, sn_17, sn_18, sn_19, sn_20, sn_21, sn_22, sn_23, sn_24, sn_25, sn_26, sn_27, sn_28, sn_29, sn_30, sn_31, sn_32, sn_33, sn_34, sn_35, sn_36, sn_37, sn_38, sn_39, sn_40, sn_41, sn_42, sn_43, sn_44, sn_45, sn_46, sn_47, sn_48, sn_49, sn_50, sn_51, sn_52, sn_53, rf_2_1, rf_2_2, rf_2_3, rf_2_4, rf_1_0, rf_1_1, rf_8_0, rf_7_0, rf_10_0, rf_7_1, rf_12_0, rf_7_2, rf_14_0, rf_7_3, rf_16_1, rf_16_2, rf_16_3, rf_16_4, rf_16_5, rf_16_6, rf_16_7, rf_1_2, rf_24_1, rf_24_2, rf_24_3, rf_24_4, rf_24_5, rf_24_6, rf_24_7, rf_1_3, rf_32_2, rf_32_3, rf_32_4, rf_32_5, rf_32_6, rf_32_7, rf_32_8, rf_32_9, rf_32_10, rf_32_12, rf_32_14, rf_32_15, rf_32_16, rf_32_18, rf_32_19, rf_32_21, rf_32_25, rf_32_26, rf_32_27, rf_32_28, rf_32_30, true_and, and_true, true_or, or_true, or_false, false_or, false_and, and_false, not_true, not_false_iff, ne_eq, and_self, eq_self, if_true, if_false, ite_true, ite_false, Nat.reduceLeDiff, Int.cast_ofNat_Int, Int.reduceLT, Int.reduceLE, Int.reduceEq, Int.reduceNeg, reduceCtorEq, jup_ap, Nat.reduceEqDiff, Nat.reduceAdd]
    exact hQ m1 hF hI
  | succ d ih =>
    intro i m1 i1 i2 hF hI
    have b3 : m1 32 17 = (s : Int) := by rw [hF 32 (by simp)]; exact h17
    have e47 : m1 47 i = m 47 i := hF 47 (by simp) i
    have hle : ¬ 4 * (s : Int) ≤ i := by omega
    have hb : 0 ≤ i ∧ i < 1004 := by omega
    rw [x_M_keep_48]
    simp only [x_M_keep_49, x_M_keep_50, x_M_keep_51, x_M_keep_54, x_M_keep_55, x_M_keep_58, x_M_keep_59, x_M_keep_62, x_M_keep_63, x_M_keep_64, x_M_keep_67, x_M_keep_68, x_M_keep_69, x_M_keep_70, x_M_keep_73, b3, e47, hle, hb, show jwr (4 * (s : Int)) = 4 * (s : Int) from jw1 (by omega) (by omega), show jwr (i + 1) = i + 1 from jw1 (by omega) (by omega), sk_0, sk_1, sk_2, sk_3, sk_4, sk_5, sk_6, sk_7, sk_8, sk_9, sk_10, sk_11, sk_12, sk_13, sk_14, sk_15, sk_16, sk_17, sk_18, sk_19, sk_20, sk_21, sk_22, sk_23, sk_24, sk_25, sk_26, sk_27, sk_28, sk_29, sk_30, sk_31, sk_32, sk_33, sk_34, sk_35, sk_36, sk_37, sk_38, sk_39, sk_40, sk_41, sk_42, sk_43, sk_44, sk_45, sk_46, sk_47, sk_48, sk_49, sk_50, sk_51, sk_52, sk_53, sn_0, sn_1, sn_2, sn_3, sn_4, sn_5, sn_6, sn_7, sn_8, sn_9, sn_10, sn_11, sn_12, sn_13, sn_14, sn_15, sn_16, sn_17, sn_18, sn_19, sn_20, sn_21, sn_22, sn_23, sn_24, sn_25, sn_26, sn_27, sn_28, sn_29, sn_30, sn_31, sn_32, sn_33, sn_34, sn_35, sn_36, sn_37, sn_38, sn_39, sn_40, sn_41, sn_42, sn_43, sn_44, sn_45, sn_46, sn_47, sn_48, sn_49, sn_50, sn_51, sn_52, sn_53, rf_2_1, rf_2_2, rf_2_3, rf_2_4, rf_1_0, rf_1_1, rf_8_0, rf_7_0, rf_10_0, rf_7_1, rf_12_0, rf_7_2, rf_14_0, rf_7_3, rf_16_1, rf_16_2, rf_16_3, rf_16_4, rf_16_5, rf_16_6, rf_16_7, rf_1_2, rf_24_1, rf_24_2, rf_24_3, rf_24_4, rf_24_5, rf_24_6, rf_24_7, rf_1_3, rf_32_2, rf_32_3, rf_32_4, rf_32_5, rf_32_6, rf_32_7, rf_32_8, rf_32_9, rf_32_10, rf_32_12, rf_32_14, rf_32_15, rf_32_16, rf_32_18, rf_32_19, rf_32_21, rf_32_25, rf_32_26, rf_32_27, rf_32_28, rf_32_30, true_and, and_true, true_or, or_true, or_false, false_or, false_and, and_false, not_true, not_false_iff, ne_eq, and_self, eq_self, if_true, if_false, ite_true, ite_false, Nat.reduceLeDiff, Int.cast_ofNat_Int, Int.reduceLT, Int.reduceLE, Int.reduceEq, Int.reduceNeg, reduceCtorEq, jup_ap, Nat.reduceEqDiff, Nat.reduceAdd]
    refine ih (i + 1) _ (by omega) (by omega) (hF.up (by simp)) (fun j j1 j2 => ?_)
    rw [jup_ap]
    by_cases e : j = i
    · rw [if_pos ⟨rfl, e⟩, e]
    · rw [if_neg (fun q => e q.2)]
      exact hI j j1 (by omega)
/-- where a comment lies, if it is a good one -/
def kcF (c : jM) (a : Nat) (r : Int) : Int := if cellV c r 0 = 3 ∧ gd c a r = true then lyF c a r else -1
def kcT (c : jM) (a : Nat) (r : Int) : Int := if cellV c r 0 = 3 ∧ gd c a r = true then lyT c a r else -1
theorem wl_M_k2 {c m : jM} {n : Nat} {p : Int} {N s : Nat} (h : CI c n) (hM : MB c m n) (hp : 0 ≤ p ∧ p < 4) (hL : LkP c m n p N s) (L : Nat) (Q : jV → jG → jM → Prop)
    (hQ : ∀ m' l3, Fr m m' [51, 52] → (∀ r : Int, 1 ≤ r → r ≤ n → m' 51 r = kcF c (nc p) r ∧ m' 52 r = kcT c (nc p) r) → wp 73 157 [jO (some 32), jI p, jI ((n : Int) + 1), l3] [] (g0 L) m' Q) :
    ∀ (d : Nat) (i : Int) (l3 : jV) (m1 : jM), 1 ≤ i → i + d = (n : Int) + 1 → Fr m m1 [51, 52] → (∀ r : Int, 1 ≤ r → r < i → m1 51 r = kcF c (nc p) r ∧ m1 52 r = kcT c (nc p) r) → wp 73 78 [jO (some 32), jI p, jI i, l3] [] (g0 L) m1 Q := by
  have hn := h.2.1
  intro d
  induction d with
  | zero =>
    intro i l3 m1 i1 i2 hF hI
    have : i = (n : Int) + 1 := by omega
    subst this
    have e0 := (hF.mb (by simp) hM).1
    have hlt : (n : Int) < (n : Int) + 1 := by omega
    rw [x_M_keep_78]
    simp only [x_M_keep_79, x_M_keep_80, x_M_keep_83, e0, hlt, sk_0, sk_1, sk_2, sk_3, sk_4, sk_5, sk_6, sk_7, sk_8, sk_9, sk_10, sk_11, sk_12, sk_13, sk_14, sk_15, sk_16, sk_17, sk_18, sk_19, sk_20, sk_21, sk_22, sk_23, sk_24, sk_25, sk_26, sk_27, sk_28, sk_29, sk_30, sk_31, sk_32, sk_33, sk_34, sk_35, sk_36, sk_37, sk_38, sk_39, sk_40, sk_41, sk_42, sk_43, sk_44, sk_45, sk_46, sk_47, sk_48, sk_49, sk_50, sk_51, sk_52, sk_53, sn_0, sn_1, sn_2, sn_3, sn_4, sn_5, sn_6, sn_7, sn_8, sn_9, sn_10, sn_11, sn_12, sn_13, sn_14, sn_15, sn_16, sn_17, sn_18, sn_19, sn_20, sn_21, sn_22, sn_23, sn_24, sn_25, sn_26, sn_27, sn_28, sn_29, sn_30, sn_31, sn_32, sn_33, sn_34, sn_35, sn_36, sn_37, sn_38, sn_39, sn_40, sn_41, sn_42, sn_43, sn_44, sn_45, sn_46, sn_47, sn_48, sn_49, sn_50, sn_51, sn_52, sn_53, rf_2_1, rf_2_2, rf_2_3, rf_2_4, rf_1_0, rf_1_1, rf_8_0, rf_7_0, rf_10_0, rf_7_1, rf_12_0, rf_7_2, rf_14_0, rf_7_3, rf_16_1, rf_16_2, rf_16_3, rf_16_4, rf_16_5, rf_16_6, rf_16_7, rf_1_2, rf_24_1, rf_24_2, rf_24_3, rf_24_4, rf_24_5, rf_24_6, rf_24_7, rf_1_3, rf_32_2, rf_32_3, rf_32_4, rf_32_5, rf_32_6, rf_32_7, rf_32_8, rf_32_9, rf_32_10, rf_32_12, rf_32_14, rf_32_15, rf_32_16, rf_32_18, rf_32_19, rf_32_21, rf_32_25, rf_32_26, rf_32_27, rf_32_28, rf_32_30, true_and, and_true, true_or, or_true, or_false, false_or, false_and, and_false, not_true, not_false_iff, ne_eq, and_self, eq_self, if_true, if_false, ite_true, ite_false, Nat.reduceLeDiff, Int.cast_ofNat_Int, Int.reduceLT, Int.reduceLE, Int.reduceEq, Int.reduceNeg, reduceCtorEq, jup_ap, Nat.reduceEqDiff, Nat.reduceAdd]
    exact hQ m1 l3 hF (fun r r1 r2 => hI r r1 (by omega))
  | succ d ih =>
    intro i l3 m1 i1 i2 hF hI
    have hL1 := hF.lk (by simp) hL
    have hM1 := hF.mb (by simp) hM
    have e0 := hM1.1
    have hlt : ¬ (n : Int) < i := by omega
    have hb : 0 ≤ i ∧ i < 251 := by omega
    have hrow := hM1.2.1 i i1 (by omega)
    have eg := hL1.1.1 i i1 (by omega)
    have next : ∀ x y l3, x = kcF c (nc p) i → y = kcT c (nc p) i → wp 73 78 [jO (some 32), jI p, jI (i + 1), l3] [] (g0 L) (jup (jup m1 51 i x) 52 i y) Q := fun x y l3 hx hy => by
      refine ih (i + 1) l3 _ (by omega) (by omega) ((hF.up (by simp)).up (by simp)) (fun r r1 r2 => ?_)
      simp only [true_and, and_true, true_or, or_true, or_false, false_or, false_and, and_false, not_true, not_false_iff, ne_eq, and_self, eq_self, if_true, if_false, ite_true, ite_false, Nat.reduceLeDiff, Int.cast_ofNat_Int, Int.reduceLT, Int.reduceLE, Int.reduceEq, Int.reduceNeg, reduceCtorEq, jup_ap, Nat.reduceEqDiff, Nat.reduceAdd]
      by_cases e : r = i
      · rw [if_pos e, if_pos e, e]
        exact ⟨hx, hy⟩
      · rw [if_neg e, if_neg e]
        exact hI r r1 (by omega)
    rw [x_M_keep_78]
    simp only [x_M_keep_79, x_M_keep_80, x_M_keep_83, x_M_keep_86, x_M_keep_87, x_M_keep_90, x_M_keep_91, x_M_keep_92, x_M_keep_93, x_M_keep_96, x_M_keep_97, x_M_keep_100, x_M_keep_101, x_M_keep_102, x_M_keep_105, x_M_keep_106, x_M_keep_109, x_M_keep_110, e0, hlt, hb, hrow.1, eg, b2i_0, sk_0, sk_1, sk_2, sk_3, sk_4, sk_5, sk_6, sk_7, sk_8, sk_9, sk_10, sk_11, sk_12, sk_13, sk_14, sk_15, sk_16, sk_17, sk_18, sk_19, sk_20, sk_21, sk_22, sk_23, sk_24, sk_25, sk_26, sk_27, sk_28, sk_29, sk_30, sk_31, sk_32, sk_33, sk_34, sk_35, sk_36, sk_37, sk_38, sk_39, sk_40, sk_41, sk_42, sk_43, sk_44, sk_45, sk_46, sk_47, sk_48, sk_49, sk_50, sk_51, sk_52, sk_53, sn_0, sn_1, sn_2, sn_3, sn_4, sn_5, sn_6, sn_7, sn_8, sn_9, sn_10, sn_11, sn_12, sn_13, sn_14, sn_15, sn_16, sn_17, sn_18, sn_19, sn_20, sn_21, sn_22, sn_23, sn_24, sn_25, sn_26, sn_27, sn_28, sn_29, sn_30, sn_31, sn_32, sn_33, sn_34, sn_35, sn_36, sn_37, sn_38, sn_39, sn_40, sn_41, sn_42, sn_43, sn_44, sn_45, sn_46, sn_47, sn_48, sn_49, sn_50, sn_51, sn_52, sn_53, rf_2_1, rf_2_2, rf_2_3, rf_2_4, rf_1_0, rf_1_1, rf_8_0, rf_7_0, rf_10_0, rf_7_1, rf_12_0, rf_7_2, rf_14_0, rf_7_3, rf_16_1, rf_16_2, rf_16_3, rf_16_4, rf_16_5, rf_16_6, rf_16_7, rf_1_2, rf_24_1, rf_24_2, rf_24_3, rf_24_4, rf_24_5, rf_24_6, rf_24_7, rf_1_3, rf_32_2, rf_32_3, rf_32_4, rf_32_5, rf_32_6, rf_32_7, rf_32_8, rf_32_9, rf_32_10, rf_32_12, rf_32_14, rf_32_15, rf_32_16, rf_32_18, rf_32_19, rf_32_21, rf_32_25, rf_32_26, rf_32_27, rf_32_28, rf_32_30, true_and, and_true, true_or, or_true, or_false, false_or, false_and, and_false, not_true, not_false_iff, ne_eq, and_self, eq_self, if_true, if_false, ite_true, ite_false, Nat.reduceLeDiff, Int.cast_ofNat_Int, Int.reduceLT, Int.reduceLE, Int.reduceEq, Int.reduceNeg, reduceCtorEq, jup_ap, Nat.reduceEqDiff, Nat.reduceAdd]
    have no : ¬ (cellV c i 0 = 3 ∧ gd c (nc p) i = true) → wp 73 111 [jO (some 32), jI p, jI i, jI 0] [] (g0 L) m1 Q := fun hno => by
      simp only [x_M_keep_0, x_M_keep_1, x_M_keep_2, x_M_keep_5, x_M_keep_6, x_M_keep_7, x_M_keep_10, x_M_keep_13, x_M_keep_14, x_M_keep_16, x_M_keep_17, x_M_keep_20, x_M_keep_23, x_M_keep_24, x_M_keep_27, x_M_keep_28, x_M_keep_29, x_M_keep_32, x_M_keep_33, x_M_keep_36, x_M_keep_37, x_M_keep_38, x_M_keep_39, x_M_keep_40, x_M_keep_43, x_M_keep_46, x_M_keep_47, x_M_keep_49, x_M_keep_50, x_M_keep_51, x_M_keep_54, x_M_keep_55, x_M_keep_58, x_M_keep_59, x_M_keep_62, x_M_keep_63, x_M_keep_64, x_M_keep_67, x_M_keep_68, x_M_keep_69, x_M_keep_70, x_M_keep_73, x_M_keep_76, x_M_keep_77, x_M_keep_79, x_M_keep_80, x_M_keep_83, x_M_keep_86, x_M_keep_87, x_M_keep_90, x_M_keep_91, x_M_keep_92, x_M_keep_93, x_M_keep_96, x_M_keep_97, x_M_keep_100, x_M_keep_101, x_M_keep_102, x_M_keep_105, x_M_keep_106, x_M_keep_109, x_M_keep_110, x_M_keep_111, x_M_keep_112, x_M_keep_115, x_M_keep_116, x_M_keep_117, x_M_keep_120, x_M_keep_121, x_M_keep_122, x_M_keep_123, x_M_keep_126, x_M_keep_129, x_M_keep_130, x_M_keep_131, x_M_keep_132, x_M_keep_135, x_M_keep_136, x_M_keep_137, x_M_keep_140, x_M_keep_141, x_M_keep_142, x_M_keep_143, x_M_keep_146, x_M_keep_149, x_M_keep_150, x_M_keep_151, x_M_keep_154, x_M_keep_158, x_M_keep_159, x_M_keep_162, x_M_keep_165, x_M_keep_166, x_M_keep_168, x_M_keep_169, x_M_keep_172, x_M_keep_175, x_M_keep_176, x_M_keep_179, x_M_keep_180, x_M_keep_181, x_M_keep_182, x_M_keep_183, x_M_keep_186, x_M_keep_187, x_M_keep_190, x_M_keep_193, hb, show jwr (i + 1) = i + 1 from jw1 (by omega) (by omega), sk_0, sk_1, sk_2, sk_3, sk_4, sk_5, sk_6, sk_7, sk_8, sk_9, sk_10, sk_11, sk_12, sk_13, sk_14, sk_15, sk_16, sk_17, sk_18, sk_19, sk_20, sk_21, sk_22, sk_23, sk_24, sk_25, sk_26, sk_27, sk_28, sk_29, sk_30, sk_31, sk_32, sk_33, sk_34, sk_35, sk_36, sk_37, sk_38, sk_39, sk_40, sk_41, sk_42, sk_43, sk_44, sk_45, sk_46, sk_47, sk_48, sk_49, sk_50, sk_51, sk_52, sk_53, sn_0, sn_1, sn_2, sn_3, sn_4, sn_5, sn_6, sn_7, sn_8, sn_9, sn_10, sn_11, sn_12, sn_13, sn_14, sn_15, sn_16, sn_17, sn_18, sn_19, sn_20, sn_21, sn_22, sn_23, sn_24, sn_25, sn_26, sn_27, sn_28, sn_29, sn_30, sn_31, sn_32, sn_33, sn_34, sn_35, sn_36, sn_37, sn_38, sn_39, sn_40, sn_41, sn_42, sn_43, sn_44, sn_45, sn_46, sn_47, sn_48, sn_49, sn_50, sn_51, sn_52, sn_53, rf_2_1, rf_2_2, rf_2_3, rf_2_4, rf_1_0, rf_1_1, rf_8_0, rf_7_0, rf_10_0, rf_7_1, rf_12_0, rf_7_2, rf_14_0, rf_7_3, rf_16_1, rf_16_2, rf_16_3, rf_16_4, rf_16_5, rf_16_6, rf_16_7, rf_1_2, rf_24_1, rf_24_2, rf_24_3, rf_24_4, rf_24_5, rf_24_6, rf_24_7, rf_1_3, rf_32_2, rf_32_3, rf_32_4, rf_32_5, rf_32_6, rf_32_7, rf_32_8, rf_32_9, rf_32_10, rf_32_12, rf_32_14, rf_32_15, rf_32_16, rf_32_18, rf_32_19, rf_32_21, rf_32_25, rf_32_26, rf_32_27, rf_32_28, rf_32_30, true_and, and_true, true_or, or_true, or_false, false_or, false_and, and_false, not_true, not_false_iff, ne_eq, and_self, eq_self, if_true, if_false, ite_true, ite_false, Nat.reduceLeDiff, Int.cast_ofNat_Int, Int.reduceLT, Int.reduceLE, Int.reduceEq, Int.reduceNeg, reduceCtorEq, jup_ap, Nat.reduceEqDiff, Nat.reduceAdd]
      exact next _ _ _ (by unfold kcF; rw [if_neg hno]) (by unfold kcT; rw [if_neg hno])
    by_cases h3 : cellV c i 0 = 3
    · rw [if_neg (fun q => q h3)]
      cases hg : gd c (nc p) i
      · simp only [true_and, and_true, true_or, or_true, or_false, false_or, false_and, and_false, not_true, not_false_iff, ne_eq, and_self, eq_self, if_true, if_false, ite_true, ite_false, Nat.reduceLeDiff, Int.cast_ofNat_Int, Int.reduceLT, Int.reduceLE, Int.reduceEq, Int.reduceNeg, reduceCtorEq, jup_ap, Nat.reduceEqDiff, Nat.reduceAdd]
        exact no (fun q => by rw [hg] at q; cases q.2)
      · simp only [true_and, and_true, true_or, or_true, or_false, false_or, false_and, and_false, not_true, not_false_iff, ne_eq, and_self, eq_self, if_true, if_false, ite_true, ite_false, Nat.reduceLeDiff, Int.cast_ofNat_Int, Int.reduceLT, Int.reduceLE, Int.reduceEq, Int.reduceNeg, reduceCtorEq, jup_ap, Nat.reduceEqDiff, Nat.reduceAdd, Bool.true_eq_false]
        simp only [x_M_keep_0, x_M_keep_1, x_M_keep_2, x_M_keep_5, x_M_keep_6, x_M_keep_7, x_M_keep_10, x_M_keep_13, x_M_keep_14, x_M_keep_16, x_M_keep_17, x_M_keep_20, x_M_keep_23, x_M_keep_24, x_M_keep_27, x_M_keep_28, x_M_keep_29, x_M_keep_32, x_M_keep_33, x_M_keep_36, x_M_keep_37, x_M_keep_38, x_M_keep_39, x_M_keep_40, x_M_keep_43, x_M_keep_46, x_M_keep_47, x_M_keep_49, x_M_keep_50, x_M_keep_51, x_M_keep_54, x_M_keep_55, x_M_keep_58, x_M_keep_59, x_M_keep_62, x_M_keep_63, x_M_keep_64, x_M_keep_67, x_M_keep_68, x_M_keep_69, x_M_keep_70, x_M_keep_73, x_M_keep_76, x_M_keep_77, x_M_keep_79, x_M_keep_80, x_M_keep_83, x_M_keep_86, x_M_keep_87, x_M_keep_90, x_M_keep_91, x_M_keep_92, x_M_keep_93, x_M_keep_96, x_M_keep_97, x_M_keep_100, x_M_keep_101, x_M_keep_102, x_M_keep_105, x_M_keep_106, x_M_keep_109, x_M_keep_110, x_M_keep_111, x_M_keep_112, x_M_keep_115, x_M_keep_116, x_M_keep_117, x_M_keep_120, x_M_keep_121, x_M_keep_122, x_M_keep_123, x_M_keep_126, x_M_keep_129, x_M_keep_130, x_M_keep_131, x_M_keep_132, x_M_keep_135, x_M_keep_136, x_M_keep_137, x_M_keep_140, x_M_keep_141, x_M_keep_142, x_M_keep_143, x_M_keep_146, x_M_keep_149, x_M_keep_150, x_M_keep_151, x_M_keep_154, x_M_keep_158, x_M_keep_159, x_M_keep_162, x_M_keep_165, x_M_keep_166, x_M_keep_168, x_M_keep_169, x_M_keep_172, x_M_keep_175, x_M_keep_176, x_M_keep_179, x_M_keep_180, x_M_keep_181, x_M_keep_182, x_M_keep_183, x_M_keep_186, x_M_keep_187, x_M_keep_190, x_M_keep_193, hb, w_M_lying h hM1 hp hL1.1 L h3 hg, Int.one_ne_zero, sk_0, sk_1, sk_2, sk_3, sk_4, sk_5, sk_6, sk_7, sk_8, sk_9, sk_10, sk_11, sk_12, sk_13, sk_14, sk_15, sk_16, sk_17, sk_18, sk_19, sk_20, sk_21, sk_22, sk_23, sk_24, sk_25, sk_26, sk_27, sk_28, sk_29, sk_30, sk_31, sk_32, sk_33, sk_34, sk_35, sk_36, sk_37, sk_38, sk_39, sk_40, sk_41, sk_42, sk_43, sk_44, sk_45, sk_46, sk_47, sk_48, sk_49, sk_50, sk_51, sk_52, sk_53, sn_0, sn_1, sn_2, sn_3, sn_4, sn_5, sn_6, sn_7, sn_8, sn_9, sn_10, sn_11, sn_12, sn_13, sn_14, sn_15, sn_16, sn_17, sn_18, sn_19, sn_20, sn_21, sn_22, sn_23, sn_24, sn_25, sn_26, sn_27, sn_28, sn_29, sn_30, sn_31, sn_32, sn_33, sn_34, sn_35, sn_36, sn_37, sn_38, sn_39, sn_40, sn_41, sn_42, sn_43, sn_44, sn_45, sn_46, sn_47, sn_48, sn_49, sn_50, sn_51, sn_52, sn_53, rf_2_1, rf_2_2, rf_2_3, rf_2_4, rf_1_0, rf_1_1, rf_8_0, rf_7_0, rf_10_0, rf_7_1, rf_12_0, rf_7_2, rf_14_0, rf_7_3, rf_16_1, rf_16_2, rf_16_3, rf_16_4, rf_16_5, rf_16_6, rf_16_7, rf_1_2, rf_24_1, rf_24_2, rf_24_3, rf_24_4, rf_24_5, rf_24_6, rf_24_7, rf_1_3, rf_32_2, rf_32_3, rf_32_4, rf_32_5, rf_32_6, rf_32_7, rf_32_8, rf_32_9, rf_32_10, rf_32_12, rf_32_14, rf_32_15, rf_32_16, rf_32_18, rf_32_19, rf_32_21, rf_32_25, rf_32_26, rf_32_27, rf_32_28, rf_32_30, true_and, and_true, true_or, or_true, or_false, false_or, false_and, and_false, not_true, not_false_iff, ne_eq, and_self, eq_self, if_true, if_false, ite_true, ite_false, Nat.reduceLeDiff, Int.cast_ofNat_Int, Int.reduceLT, Int.reduceLE, Int.reduceEq, Int.reduceNeg, reduceCtorEq, jup_ap, Nat.reduceEqDiff, Nat.reduceAdd]
        generalize hv : lyF c (nc p) i = v
        have hF2 : Fr m1 (jup m1 51 i v) [51] := Fr.rf.up (by simp)
        simp only [w_M_lying h (hF2.mb (by simp) hM1) hp (hF2.lk (by simp) hL1).1 L h3 hg, x_M_keep_0, x_M_keep_1, x_M_keep_2, x_M_keep_5, x_M_keep_6, x_M_keep_7, x_M_keep_10, x_M_keep_13, x_M_keep_14, x_M_keep_16, x_M_keep_17, x_M_keep_20, x_M_keep_23, x_M_keep_24, x_M_keep_27, x_M_keep_28, x_M_keep_29, x_M_keep_32, x_M_keep_33, x_M_keep_36, x_M_keep_37, x_M_keep_38, x_M_keep_39, x_M_keep_40, x_M_keep_43, x_M_keep_46, x_M_keep_47, x_M_keep_49, x_M_keep_50, x_M_keep_51, x_M_keep_54, x_M_keep_55, x_M_keep_58, x_M_keep_59, x_M_keep_62, x_M_keep_63, x_M_keep_64, x_M_keep_67, x_M_keep_68, x_M_keep_69, x_M_keep_70, x_M_keep_73, x_M_keep_76, x_M_keep_77, x_M_keep_79, x_M_keep_80, x_M_keep_83, x_M_keep_86, x_M_keep_87, x_M_keep_90, x_M_keep_91, x_M_keep_92, x_M_keep_93, x_M_keep_96, x_M_keep_97, x_M_keep_100, x_M_keep_101, x_M_keep_102, x_M_keep_105, x_M_keep_106, x_M_keep_109, x_M_keep_110, x_M_keep_111, x_M_keep_112, x_M_keep_115, x_M_keep_116, x_M_keep_117, x_M_keep_120, x_M_keep_121, x_M_keep_122, x_M_keep_123, x_M_keep_126, x_M_keep_129, x_M_keep_130, x_M_keep_131, x_M_keep_132, x_M_keep_135, x_M_keep_136, x_M_keep_137, x_M_keep_140, x_M_keep_141, x_M_keep_142, x_M_keep_143, x_M_keep_146, x_M_keep_149, x_M_keep_150, x_M_keep_151, x_M_keep_154, x_M_keep_158, x_M_keep_159, x_M_keep_162, x_M_keep_165, x_M_keep_166, x_M_keep_168, x_M_keep_169, x_M_keep_172, x_M_keep_175, x_M_keep_176, x_M_keep_179, x_M_keep_180, x_M_keep_181, x_M_keep_182, x_M_keep_183, x_M_keep_186, x_M_keep_187, x_M_keep_190, x_M_keep_193, hb, show jwr (i + 1) = i + 1 from jw1 (by omega) (by omega), Int.one_ne_zero, sk_0, sk_1, sk_2, sk_3, sk_4, sk_5, sk_6, sk_7, sk_8, sk_9, sk_10, sk_11, sk_12, sk_13, sk_14, sk_15, sk_16, sk_17, sk_18, sk_19, sk_20, sk_21, sk_22, sk_23, sk_24, sk_25, sk_26, sk_27, sk_28, sk_29, sk_30, sk_31, sk_32, sk_33, sk_34, sk_35, sk_36, sk_37, sk_38, sk_39, sk_40, sk_41, sk_42, sk_43, sk_44, sk_45, sk_46, sk_47, sk_48, sk_49, sk_50, sk_51, sk_52, sk_53, sn_0, sn_1, sn_2, sn_3, sn_4, sn_5, sn_6, sn_7, sn_8, sn_9, sn_10, sn_11, sn_12, sn_13, sn_14, sn_15, sn_16, sn_17, sn_18, sn_19, sn_20, sn_21, sn_22, sn_23, sn_24, sn_25, sn_26, sn_27, sn_28, sn_29, sn_30, sn_31, sn_32, sn_33, sn_34, sn_35, sn_36, sn_37, sn_38, sn_39, sn_40, sn_41, sn_42, sn_43, sn_44, sn_45, sn_46, sn_47, sn_48, sn_49, sn_50, sn_51, sn_52, sn_53, rf_2_1, rf_2_2, rf_2_3, rf_2_4, rf_1_0, rf_1_1, rf_8_0, rf_7_0, rf_10_0, rf_7_1, rf_12_0, rf_7_2, rf_14_0, rf_7_3, rf_16_1, rf_16_2, rf_16_3, rf_16_4, rf_16_5, rf_16_6, rf_16_7, rf_1_2, rf_24_1, rf_24_2, rf_24_3, rf_24_4, rf_24_5, rf_24_6, rf_24_7, rf_1_3, rf_32_2, rf_32_3, rf_32_4, rf_32_5, rf_32_6, rf_32_7, rf_32_8, rf_32_9, rf_32_10, rf_32_12, rf_32_14, rf_32_15, rf_32_16, rf_32_18, rf_32_19, rf_32_21, rf_32_25, rf_32_26, rf_32_27, rf_32_28, rf_32_30, true_and, and_true, true_or, or_true, or_false, false_or, false_and, and_false, not_true, not_false_iff, ne_eq, and_self, eq_self, if_true, if_false, ite_true, ite_false, Nat.reduceLeDiff, Int.cast_ofNat_Int, Int.reduceLT, Int.reduceLE, Int.reduceEq, Int.reduceNeg, reduceCtorEq, jup_ap, Nat.reduceEqDiff, Nat.reduceAdd]
        exact next _ _ _ (by unfold kcF; rw [if_pos ⟨h3, hg⟩]; exact hv.symm) (by unfold kcT; rw [if_pos ⟨h3, hg⟩])
    · rw [if_pos h3]
      exact no (fun q => h3 q.1)
theorem wl_M_k3 {c m : jM} {n : Nat} {p : Int} {N s : Nat} (h : CI c n) (hM : MB c m n) (hL : LkP c m n p N s) (L : Nat) (h29 : m 32 29 = nPar c p) (l3 : jV) (Q : jV → jG → jM → Prop)
    (hQ : ∀ m', Fr m m' [53] → (∀ k : Int, 0 ≤ k → k < nPar c p → m' 53 k = kdT c n p (psP c p k)) → Q jU (g0 L) m') :
    ∀ (d : Nat) (i : Int) (m1 : jM), 0 ≤ i → i + d = nPar c p → Fr m m1 [53] → (∀ k : Int, 0 ≤ k → k < i → m1 53 k = kdT c n p (psP c p k)) → wp 73 167 [jO (some 32), jI p, jI i, l3] [] (g0 L) m1 Q := by
  have hn := h.2.1
  have l := hL.len
  have hpb := nPar_bd c p
  rw [l.2.1] at hpb
  intro d
  induction d with
  | zero =>
    intro i m1 i1 i2 hF hI
    have e : i = nPar c p := by omega
    have e29 : m1 32 29 = nPar c p := by rw [hF 32 (by simp)]; exact h29
    have hle : nPar c p ≤ i := by omega
    rw [x_M_keep_167]
    simp only [x_M_keep_168, x_M_keep_169, x_M_keep_172, x_M_keep_193, e29, hle, sk_0, sk_1, sk_2, sk_3, sk_4, sk_5, sk_6, sk_7, sk_8, sk_9, sk_10, sk_11, sk_12, sk_13, sk_14, sk_15, sk_16, sk_17, sk_18, sk_19, sk_20, sk_21, sk_22, sk_23, sk_24, sk_25, sk_26, sk_27, sk_28, sk_29, sk_30, sk_31, sk_32, sk_33, sk_34, sk_35, sk_36, sk_37, sk_38, sk_39, sk_40, sk_41, sk_42, sk_43, sk_44, sk_45, sk_46, sk_47, sk_48, sk_49, sk_50, sk_51, sk_52, sk_53, sn_0, sn_1, sn_2, sn_3, sn_4, sn_5, sn_6, sn_7, sn_8, sn_9, sn_10, sn_11, sn_12, sn_13, sn_14, sn_15, sn_16, sn_17, sn_18, sn_19, sn_20, sn_21, sn_22, sn_23, sn_24, sn_25, sn_26, sn_27, sn_28, sn_29, sn_30, sn_31, sn_32, sn_33, sn_34, sn_35, sn_36, sn_37, sn_38, sn_39, sn_40, sn_41, sn_42, sn_43, sn_44, sn_45, sn_46, sn_47, sn_48, sn_49, sn_50, sn_51, sn_52, sn_53, rf_2_1, rf_2_2, rf_2_3, rf_2_4, rf_1_0, rf_1_1, rf_8_0, rf_7_0, rf_10_0, rf_7_1, rf_12_0, rf_7_2, rf_14_0, rf_7_3, rf_16_1, rf_16_2, rf_16_3, rf_16_4, rf_16_5, rf_16_6, rf_16_7, rf_1_2, rf_24_1, rf_24_2, rf_24_3, rf_24_4, rf_24_5, rf_24_6, rf_24_7, rf_1_3, rf_32_2, rf_32_3, rf_32_4, rf_32_5, rf_32_6, rf_32_7, rf_32_8, rf_32_9, rf_32_10, rf_32_12, rf_32_14, rf_32_15, rf_32_16, rf_32_18, rf_32_19, rf_32_21, rf_32_25, rf_32_26, rf_32_27, rf_32_28, rf_32_30, true_and, and_true, true_or, or_true, or_false, false_or, false_and, and_false, not_true, not_false_iff, ne_eq, and_self, eq_self, if_true, if_false, ite_true, ite_false, Nat.reduceLeDiff, Int.cast_ofNat_Int, Int.reduceLT, Int.reduceLE, Int.reduceEq, Int.reduceNeg, reduceCtorEq, jup_ap, Nat.reduceEqDiff, Nat.reduceAdd]
    exact hQ m1 hF (fun k k1 k2 => hI k k1 (by omega))
  | succ d ih =>
    intro i m1 i1 i2 hF hI
    have hL1 := hF.lk (by simp) hL
    have hM1 := hF.mb (by simp) hM
    have e29 : m1 32 29 = nPar c p := by rw [hF 32 (by simp)]; exact h29
    have hle : ¬ nPar c p ≤ i := by omega
    have hb : 0 ≤ i ∧ i < 252 := by omega
    rw [x_M_keep_167]
    simp only [x_M_keep_168, x_M_keep_169, x_M_keep_172, x_M_keep_175, x_M_keep_176, x_M_keep_179, x_M_keep_180, x_M_keep_181, x_M_keep_182, x_M_keep_183, x_M_keep_186, x_M_keep_187, x_M_keep_190, w_M_kindAt h hM1 hL1 L i1 (show i < nPar c p by omega), e29, hle, hb, show jwr (i + 1) = i + 1 from jw1 (by omega) (by omega), sk_0, sk_1, sk_2, sk_3, sk_4, sk_5, sk_6, sk_7, sk_8, sk_9, sk_10, sk_11, sk_12, sk_13, sk_14, sk_15, sk_16, sk_17, sk_18, sk_19, sk_20, sk_21, sk_22, sk_23, sk_24, sk_25, sk_26, sk_27, sk_28, sk_29, sk_30, sk_31, sk_32, sk_33, sk_34, sk_35, sk_36, sk_37, sk_38, sk_39, sk_40, sk_41, sk_42, sk_43, sk_44, sk_45, sk_46, sk_47, sk_48, sk_49, sk_50, sk_51, sk_52, sk_53, sn_0, sn_1, sn_2, sn_3, sn_4, sn_5, sn_6, sn_7, sn_8, sn_9, sn_10, sn_11, sn_12, sn_13, sn_14, sn_15, sn_16, sn_17, sn_18, sn_19, sn_20, sn_21, sn_22, sn_23, sn_24, sn_25, sn_26, sn_27, sn_28, sn_29, sn_30, sn_31, sn_32, sn_33, sn_34, sn_35, sn_36, sn_37, sn_38, sn_39, sn_40, sn_41, sn_42, sn_43, sn_44, sn_45, sn_46, sn_47, sn_48, sn_49, sn_50, sn_51, sn_52, sn_53, rf_2_1, rf_2_2, rf_2_3, rf_2_4, rf_1_0, rf_1_1, rf_8_0, rf_7_0, rf_10_0, rf_7_1, rf_12_0, rf_7_2, rf_14_0, rf_7_3, rf_16_1, rf_16_2, rf_16_3, rf_16_4, rf_16_5, rf_16_6, rf_16_7, rf_1_2, rf_24_1, rf_24_2, rf_24_3, rf_24_4, rf_24_5, rf_24_6, rf_24_7, rf_1_3, rf_32_2, rf_32_3, rf_32_4, rf_32_5, rf_32_6, rf_32_7, rf_32_8, rf_32_9, rf_32_10, rf_32_12, rf_32_14, rf_32_15, rf_32_16, rf_32_18, rf_32_19, rf_32_21, rf_32_25, rf_32_26, rf_32_27, rf_32_28, rf_32_30, true_and, and_true, true_or, or_true, or_false, false_or, false_and, and_false, not_true, not_false_iff, ne_eq, and_self, eq_self, if_true, if_false, ite_true, ite_false, Nat.reduceLeDiff, Int.cast_ofNat_Int, Int.reduceLT, Int.reduceLE, Int.reduceEq, Int.reduceNeg, reduceCtorEq, jup_ap, Nat.reduceEqDiff, Nat.reduceAdd]
    refine ih (i + 1) _ (by omega) (by omega) (hF.up (by simp)) (fun k k1 k2 => ?_)
    rw [jup_ap]
    by_cases e : k = i
    · rw [if_pos ⟨rfl, e⟩, e]
    · rw [if_neg (fun q => e q.2)]
      exact hI k k1 (by omega)
/-- what the reference has kept of a node -/
def KpP (c m : jM) (n : Nat) (p : Int) : Prop :=
  m 32 24 = (nV c p : Int) ∧ m 32 29 = nPar c p ∧ (∀ j : Int, 0 ≤ j → j < (nV c p : Int) → m 49 j = tx c (nc p) j) ∧ (∀ k e : Int, 0 ≤ k → k < (nV c p : Int) → 0 ≤ e → e < 4 → m 50 (4 * k + e) = svK c (nc p) (nV c p) k e n) ∧
  (∀ r : Int, 1 ≤ r → r ≤ n → m 51 r = kcF c (nc p) r ∧ m 52 r = kcT c (nc p) r) ∧ ∀ k : Int, 0 ≤ k → k < nPar c p → m 53 k = kdT c n p (psP c p k)
theorem KpP.fr {c m m' : jM} {n : Nat} {p : Int} (h : KpP c m n p) (hO : OF m m') : KpP c m' n p := by
  obtain ⟨a1, a2, a3, a4, a5, a6⟩ := h
  obtain ⟨b1, b2, b3⟩ := hO
  exact ⟨by rw [b2]; exact a1, by rw [b3]; exact a2, fun j j1 j2 => by rw [b1 49 (by decide)]; exact a3 j j1 j2, fun k e k1 k2 k3 k4 => by rw [b1 50 (by decide)]; exact a4 k e k1 k2 k3 k4,
    fun r r1 r2 => by rw [b1 51 (by decide), b1 52 (by decide)]; exact a5 r r1 r2, fun k k1 k2 => by rw [b1 53 (by decide)]; exact a6 k k1 k2⟩
