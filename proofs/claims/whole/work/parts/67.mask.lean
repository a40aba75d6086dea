theorem ar_map (g f : Int → Int) (n : Nat) : (ar f n).map g = ar (fun i => g (f i)) n := by
  unfold ar
  rw [List.map_map]
  rfl
theorem LkP.len {c m : jM} {n : Nat} {p : Int} {N s : Nat} (hL : LkP c m n p N s) : (visL c (nc p)).length = s ∧ nV c p = s ∧ m 32 17 = (s : Int) ∧ s ≤ n ∧ N ≤ n := by
  have e : (visL c (nc p)).length = s := by rw [← hL.1.2.2.2.2.2.2.2.2, ar_len]
  exact ⟨e, e, hL.1.2.2.2.2.2.2.2.1, Nat.le_trans hL.1.2.2.2.2.2.2.1 hL.1.2.1, hL.1.2.1⟩
theorem LkP.at {c m : jM} {n : Nat} {p : Int} {N s : Nat} (h : CI c n) (hM : MB c m n) (hL : LkP c m n p N s) {i : Int} (hi : 0 ≤ i ∧ i < (s : Int)) :
    (1 ≤ m 46 i ∧ m 46 i ≤ n) ∧ (∀ d, m 36 (m 46 i) = getI (txt c (nc p)) i d) ∧ ∀ d, m 46 i = getI (visL c (nc p)) i d := by
  have e := hL.1.2.2.2.2.2.2.2.2
  have h1 : ∀ d, m 46 i = getI (visL c (nc p)) i d := fun d => getI_in e d hi.1 hi.2
  have hm : m 46 i ∈ visL c (nc p) := by
    rw [h1 0]
    exact getI_mem hi.1 (by rw [hL.len.1]; exact hi.2)
  have hv := vis_mem h hm
  unfold isIns at hv
  have hb : 1 ≤ m 46 i ∧ m 46 i ≤ n := by omega
  refine ⟨hb, fun d => ?_, h1⟩
  rw [(hM.2.1 _ hb.1 hb.2).2.2.2.1]
  have e2 : ar (fun j => cellV c (m 46 j) 3) s = txt c (nc p) := by
    unfold txt
    rw [← e, ar_map]
  exact getI_in e2 d hi.1 hi.2
theorem MI.thr {c m : jM} {n : Nat} (h : MI c m n) : MI c (jup m 32 0 0) n := by
  refine ⟨h.1.mk (MK.rf.upf (by decide)), ?_⟩
  rcases h.2 with q | ⟨p, N, s, q1, q2, q3⟩
  · exact Or.inl (by rw [jup_ap, if_neg (by omega)]; exact q)
  · exact Or.inr ⟨p, N, s, q1, by rw [jup_ap, if_neg (by omega)]; exact q2, q3.fr (fun b b1 b2 j => by rw [jup_ap, if_neg (by omega)]) (by rw [jup_ap, if_neg (by omega)]) (by rw [jup_ap, if_neg (by omega)])⟩
theorem MI.of {c m m' : jM} {n : Nat} {p : Int} {N s : Nat} (hM : MB c m n) (hp : 0 ≤ p ∧ p < 4) (hK : MK m m') (h1 : m' 32 11 = p) (hL : LkP c m' n p N s) : MI c m' n := ⟨hM.mk hK, Or.inr ⟨p, N, s, hp, h1, hL⟩⟩
theorem w_M_isSeen {c m : jM} {n : Nat} (h : CI c n) (hI : MI c m n) (L : Nat) (p i : Int) (Q : jV → jG → jM → Prop)
    (h0 : ¬ ((0 ≤ p ∧ p < 4) ∧ 0 ≤ i ∧ i < (nV c p : Int)) → ∀ m', MK m m' → MI c m' n → Q (jI 0) (g0 L) m') (h1 : (0 ≤ p ∧ p < 4) → ∀ m' N s, MK m m' → MI c m' n → LkP c m' n p N s → 0 ≤ i ∧ i < (s : Int) → Q (jI 1) (g0 L) m') :
    wp 57 0 [jO (some 32), jI p, jI i] [] (g0 L) m Q := by
  simp only [x_M_isSeen_0, x_M_isSeen_1, x_M_isSeen_4, x_M_isSeen_7, x_M_isSeen_8, x_M_isSeen_9, x_M_isSeen_10, x_M_isSeen_11, x_M_isSeen_14, x_M_isSeen_15, x_M_isSeen_16, x_M_isSeen_17, x_M_isSeen_20, x_M_isSeen_21, x_M_isSeen_22, x_M_isSeen_25, w_M_isNode, b01_0, sk_0, sk_1, sk_2, sk_3, sk_4, sk_5, sk_6, sk_7, sk_8, sk_9, sk_10, sk_11, sk_12, sk_13, sk_14, sk_15, sk_16, sk_17, sk_18, sk_19, sk_20, sk_21, sk_22, sk_23, sk_24, sk_25, sk_26, sk_27, sk_28, sk_29, sk_30, sk_31, sk_32, sk_33, sk_34, sk_35, sk_36, sk_37, sk_38, sk_39, sk_40, sk_41, sk_42, sk_43, sk_44, sk_45, sk_46, sk_47, sk_48, sk_49, sk_50, sk_51, sk_52, sk_53, sn_0, sn_1, sn_2, sn_3, sn_4, sn_5, sn_6, sn_7, sn_8, sn_9, sn_10, sn_11, sn_12, sn_13, sn_14, sn_15, sn_16, sn_17, sn_18, sn_19, sn_20, sn_21, sn_22, sn_23, sn_24, sn_25, sn_26, sn_27, sn_28, sn_29, sn_30, sn_31, sn_32, sn_33, sn_34, sn_35, sn_36, sn_37, sn_38, sn_39, sn_40, sn_41, sn_42, sn_43, sn_44, sn_45, sn_46, sn_47, sn_48, sn_49, sn_50, sn_51, sn_52, sn_53, rf_2_1, rf_2_2, rf_2_3, rf_2_4, rf_1_0, rf_1_1, rf_8_0, rf_7_0, rf_10_0, rf_7_1, rf_12_0, rf_7_2, rf_14_0, rf_7_3, rf_16_1, rf_16_2, rf_16_3, rf_16_4, rf_16_5, rf_16_6, rf_16_7, rf_1_2, rf_24_1, rf_24_2, rf_24_3, rf_24_4, rf_24_5, rf_24_6, rf_24_7, rf_1_3, rf_32_2, rf_32_3, rf_32_4, rf_32_5, rf_32_6, rf_32_7, rf_32_8, rf_32_9, rf_32_10, rf_32_12, rf_32_14, rf_32_15, rf_32_16, rf_32_18, rf_32_19, rf_32_21, rf_32_25, rf_32_26, rf_32_27, rf_32_28, rf_32_30, true_and, and_true, true_or, or_true, or_false, false_or, false_and, and_false, not_true, not_false_iff, ne_eq, and_self, eq_self, if_true, if_false, ite_true, ite_false, Nat.reduceLeDiff, Int.cast_ofNat_Int, Int.reduceLT, Int.reduceLE, Int.reduceEq, Int.reduceNeg, reduceCtorEq, jup_ap, Nat.reduceEqDiff, Nat.reduceAdd]
  by_cases hp : 0 ≤ p ∧ p < 4
  · rw [if_pos (fun q => q hp)]
    refine w_M_look h hI L hp _ (fun m' N s hK e hL => ?_)
    have hn := h.2.1
    obtain ⟨b1, b2, b3, b4, b5⟩ := hL.len
    have e1 : jwr ((s : Int) - 1) = (s : Int) - 1 := jw1 (by omega) (by omega)
    have hI' := MI.of hI.1 hp hK e hL
    simp only [x_M_isSeen_0, x_M_isSeen_1, x_M_isSeen_4, x_M_isSeen_7, x_M_isSeen_8, x_M_isSeen_9, x_M_isSeen_10, x_M_isSeen_11, x_M_isSeen_14, x_M_isSeen_15, x_M_isSeen_16, x_M_isSeen_17, x_M_isSeen_20, x_M_isSeen_21, x_M_isSeen_22, x_M_isSeen_25, w_M_within, b01_b, b3, e1, sk_0, sk_1, sk_2, sk_3, sk_4, sk_5, sk_6, sk_7, sk_8, sk_9, sk_10, sk_11, sk_12, sk_13, sk_14, sk_15, sk_16, sk_17, sk_18, sk_19, sk_20, sk_21, sk_22, sk_23, sk_24, sk_25, sk_26, sk_27, sk_28, sk_29, sk_30, sk_31, sk_32, sk_33, sk_34, sk_35, sk_36, sk_37, sk_38, sk_39, sk_40, sk_41, sk_42, sk_43, sk_44, sk_45, sk_46, sk_47, sk_48, sk_49, sk_50, sk_51, sk_52, sk_53, sn_0, sn_1, sn_2, sn_3, sn_4, sn_5, sn_6, sn_7, sn_8, sn_9, sn_10, sn_11, sn_12, sn_13, sn_14, sn_15, sn_16, sn_17, sn_18, sn_19, sn_20, sn_21, sn_22, sn_23, sn_24, sn_25, sn_26, sn_27, sn_28, sn_29, sn_30, sn_31, sn_32, sn_33, sn_34, sn_35, sn_36, sn_37, sn_38, sn_39, sn_40, sn_41, sn_42, sn_43, sn_44, sn_45, sn_46, sn_47, sn_48, sn_49, sn_50, sn_51, sn_52, sn_53, rf_2_1, rf_2_2, rf_2_3, rf_2_4, rf_1_0, rf_1_1, rf_8_0, rf_7_0, rf_10_0, rf_7_1, rf_12_0, rf_7_2, rf_14_0, rf_7_3, rf_16_1, rf_16_2, rf_16_3, rf_16_4, rf_16_5, rf_16_6, rf_16_7, rf_1_2, rf_24_1, rf_24_2, rf_24_3, rf_24_4, rf_24_5, rf_24_6, rf_24_7, rf_1_3, rf_32_2, rf_32_3, rf_32_4, rf_32_5, rf_32_6, rf_32_7, rf_32_8, rf_32_9, rf_32_10, rf_32_12, rf_32_14, rf_32_15, rf_32_16, rf_32_18, rf_32_19, rf_32_21, rf_32_25, rf_32_26, rf_32_27, rf_32_28, rf_32_30, true_and, and_true, true_or, or_true, or_false, false_or, false_and, and_false, not_true, not_false_iff, ne_eq, and_self, eq_self, if_true, if_false, ite_true, ite_false, Nat.reduceLeDiff, Int.cast_ofNat_Int, Int.reduceLT, Int.reduceLE, Int.reduceEq, Int.reduceNeg, reduceCtorEq, jup_ap, Nat.reduceEqDiff, Nat.reduceAdd]
    by_cases hi : 0 ≤ i ∧ i < (s : Int)
    · rw [b01_1 (by omega)]
      exact h1 hp m' N s hK hI' hL hi
    · rw [b01_n (by omega)]
      exact h0 (fun q => hi (by rw [b2] at q; exact q.2)) m' hK hI'
  · rw [if_neg (fun q => q hp)]
    exact h0 (fun q => hp q.1) m MK.rf hI
theorem w_M_sign {c m : jM} {n : Nat} (h : CI c n) (hI : MI c m n) (L : Nat) (p i : Int) (Q : jV → jG → jM → Prop) (hQ : ∀ m', MK m m' → MI c m' n → Q (jI (aSign c p i)) (g0 L) m') : wp 58 0 [jO (some 32), jI p, jI i] [] (g0 L) m Q := by
  have hn := h.2.1
  have hK0 : MK m (jup m 32 0 0) := MK.rf.upf (by decide)
  simp only [x_M_sign_0, x_M_sign_1, x_M_sign_2, x_M_sign_5, x_M_sign_6, x_M_sign_7, x_M_sign_8, x_M_sign_11, x_M_sign_14, x_M_sign_15, x_M_sign_18, x_M_sign_19, x_M_sign_22, x_M_sign_23, x_M_sign_24, x_M_sign_25, x_M_sign_28, x_M_sign_29, sk_0, sk_1, sk_2, sk_3, sk_4, sk_5, sk_6, sk_7, sk_8, sk_9, sk_10, sk_11, sk_12, sk_13, sk_14, sk_15, sk_16, sk_17, sk_18, sk_19, sk_20, sk_21, sk_22, sk_23, sk_24, sk_25, sk_26, sk_27, sk_28, sk_29, sk_30, sk_31, sk_32, sk_33, sk_34, sk_35, sk_36, sk_37, sk_38, sk_39, sk_40, sk_41, sk_42, sk_43, sk_44, sk_45, sk_46, sk_47, sk_48, sk_49, sk_50, sk_51, sk_52, sk_53, sn_0, sn_1, sn_2, sn_3, sn_4, sn_5, sn_6, sn_7, sn_8, sn_9, sn_10, sn_11, sn_12, sn_13, sn_14, sn_15, sn_16, sn_17, sn_18, sn_19, sn_20, sn_21, sn_22, sn_23, sn_24, sn_25, sn_26, sn_27, sn_28, sn_29, sn_30, sn_31, sn_32, sn_33, sn_34, sn_35, sn_36, sn_37, sn_38, sn_39, sn_40, sn_41, sn_42, sn_43, sn_44, sn_45, sn_46, sn_47, sn_48, sn_49, sn_50, sn_51, sn_52, sn_53, rf_2_1, rf_2_2, rf_2_3, rf_2_4, rf_1_0, rf_1_1, rf_8_0, rf_7_0, rf_10_0, rf_7_1, rf_12_0, rf_7_2, rf_14_0, rf_7_3, rf_16_1, rf_16_2, rf_16_3, rf_16_4, rf_16_5, rf_16_6, rf_16_7, rf_1_2, rf_24_1, rf_24_2, rf_24_3, rf_24_4, rf_24_5, rf_24_6, rf_24_7, rf_1_3, rf_32_2, rf_32_3, rf_32_4, rf_32_5, rf_32_6, rf_32_7, rf_32_8, rf_32_9, rf_32_10, rf_32_12, rf_32_14, rf_32_15, rf_32_16, rf_32_18, rf_32_19, rf_32_21, rf_32_25, rf_32_26, rf_32_27, rf_32_28, rf_32_30, true_and, and_true, true_or, or_true, or_false, false_or, false_and, and_false, not_true, not_false_iff, ne_eq, and_self, eq_self, if_true, if_false, ite_true, ite_false, Nat.reduceLeDiff, Int.cast_ofNat_Int, Int.reduceLT, Int.reduceLE, Int.reduceEq, Int.reduceNeg, reduceCtorEq, jup_ap, Nat.reduceEqDiff, Nat.reduceAdd]
  refine w_M_isSeen h hI.thr L p i _ (fun hno m' hK hI' => ?_) (fun hp m' N s hK hI' hL hi => ?_)
  · simp only [x_M_sign_0, x_M_sign_1, x_M_sign_2, x_M_sign_5, x_M_sign_6, x_M_sign_7, x_M_sign_8, x_M_sign_11, x_M_sign_14, x_M_sign_15, x_M_sign_18, x_M_sign_19, x_M_sign_22, x_M_sign_23, x_M_sign_24, x_M_sign_25, x_M_sign_28, x_M_sign_29, sk_0, sk_1, sk_2, sk_3, sk_4, sk_5, sk_6, sk_7, sk_8, sk_9, sk_10, sk_11, sk_12, sk_13, sk_14, sk_15, sk_16, sk_17, sk_18, sk_19, sk_20, sk_21, sk_22, sk_23, sk_24, sk_25, sk_26, sk_27, sk_28, sk_29, sk_30, sk_31, sk_32, sk_33, sk_34, sk_35, sk_36, sk_37, sk_38, sk_39, sk_40, sk_41, sk_42, sk_43, sk_44, sk_45, sk_46, sk_47, sk_48, sk_49, sk_50, sk_51, sk_52, sk_53, sn_0, sn_1, sn_2, sn_3, sn_4, sn_5, sn_6, sn_7, sn_8, sn_9, sn_10, sn_11, sn_12, sn_13, sn_14, sn_15, sn_16, sn_17, sn_18, sn_19, sn_20, sn_21, sn_22, sn_23, sn_24, sn_25, sn_26, sn_27, sn_28, sn_29, sn_30, sn_31, sn_32, sn_33, sn_34, sn_35, sn_36, sn_37, sn_38, sn_39, sn_40, sn_41, sn_42, sn_43, sn_44, sn_45, sn_46, sn_47, sn_48, sn_49, sn_50, sn_51, sn_52, sn_53, rf_2_1, rf_2_2, rf_2_3, rf_2_4, rf_1_0, rf_1_1, rf_8_0, rf_7_0, rf_10_0, rf_7_1, rf_12_0, rf_7_2, rf_14_0, rf_7_3, rf_16_1, rf_16_2, rf_16_3, rf_16_4, rf_16_5, rf_16_6, rf_16_7, rf_1_2, rf_24_1, rf_24_2, rf_24_3, rf_24_4, rf_24_5, rf_24_6, rf_24_7, rf_1_3, rf_32_2, rf_32_3, rf_32_4, rf_32_5, rf_32_6, rf_32_7, rf_32_8, rf_32_9, rf_32_10, rf_32_12, rf_32_14, rf_32_15, rf_32_16, rf_32_18, rf_32_19, rf_32_21, rf_32_25, rf_32_26, rf_32_27, rf_32_28, rf_32_30, true_and, and_true, true_or, or_true, or_false, false_or, false_and, and_false, not_true, not_false_iff, ne_eq, and_self, eq_self, if_true, if_false, ite_true, ite_false, Nat.reduceLeDiff, Int.cast_ofNat_Int, Int.reduceLT, Int.reduceLE, Int.reduceEq, Int.reduceNeg, reduceCtorEq, jup_ap, Nat.reduceEqDiff, Nat.reduceAdd]
    have g := hQ m' (hK0.trans hK) hI'
    unfold aSign at g
    by_cases hp : 0 ≤ p ∧ p < 4
    · rw [if_pos hp, getI_out] at g
      · exact g
      · unfold txt
        rw [List.length_map]
        have : ¬ (0 ≤ i ∧ i < (nV c p : Int)) := fun q => hno ⟨hp, q⟩
        unfold nV at this
        omega
    · rw [if_neg hp] at g
      exact g
  · have ha := hL.at h hI'.1 hi
    have l := hL.len
    have hb : 0 ≤ i ∧ i < 251 := by omega
    have hb2 : 0 ≤ m' 46 i ∧ m' 46 i < 251 := by omega
    simp only [x_M_sign_0, x_M_sign_1, x_M_sign_2, x_M_sign_5, x_M_sign_6, x_M_sign_7, x_M_sign_8, x_M_sign_11, x_M_sign_14, x_M_sign_15, x_M_sign_18, x_M_sign_19, x_M_sign_22, x_M_sign_23, x_M_sign_24, x_M_sign_25, x_M_sign_28, x_M_sign_29, hb, hb2, Int.one_ne_zero, sk_0, sk_1, sk_2, sk_3, sk_4, sk_5, sk_6, sk_7, sk_8, sk_9, sk_10, sk_11, sk_12, sk_13, sk_14, sk_15, sk_16, sk_17, sk_18, sk_19, sk_20, sk_21, sk_22, sk_23, sk_24, sk_25, sk_26, sk_27, sk_28, sk_29, sk_30, sk_31, sk_32, sk_33, sk_34, sk_35, sk_36, sk_37, sk_38, sk_39, sk_40, sk_41, sk_42, sk_43, sk_44, sk_45, sk_46, sk_47, sk_48, sk_49, sk_50, sk_51, sk_52, sk_53, sn_0, sn_1, sn_2, sn_3, sn_4, sn_5, sn_6, sn_7, sn_8, sn_9, sn_10, sn_11, sn_12, sn_13, sn_14, sn_15, sn_16, sn_17, sn_18, sn_19, sn_20, sn_21, sn_22, sn_23, sn_24, sn_25, sn_26, sn_27, sn_28, sn_29, sn_30, sn_31, sn_32, sn_33, sn_34, sn_35, sn_36, sn_37, sn_38, sn_39, sn_40, sn_41, sn_42, sn_43, sn_44, sn_45, sn_46, sn_47, sn_48, sn_49, sn_50, sn_51, sn_52, sn_53, rf_2_1, rf_2_2, rf_2_3, rf_2_4, rf_1_0, rf_1_1, rf_8_0, rf_7_0, rf_10_0, rf_7_1, rf_12_0, rf_7_2, rf_14_0, rf_7_3, rf_16_1, rf_16_2, rf_16_3, rf_16_4, rf_16_5, rf_16_6, rf_16_7, rf_1_2, rf_24_1, rf_24_2, rf_24_3, rf_24_4, rf_24_5, rf_24_6, rf_24_7, rf_1_3, rf_32_2, rf_32_3, rf_32_4, rf_32_5, rf_32_6, rf_32_7, rf_32_8, rf_32_9, rf_32_10, rf_32_12, rf_32_14, rf_32_15, rf_32_16, rf_32_18, rf_32_19, rf_32_21, rf_32_25, rf_32_26, rf_32_27, rf_32_28, rf_32_30, true_and, and_true, true_or, or_true, or_false, false_or, false_and, and_false, not_true, not_false_iff, ne_eq, and_self, eq_self, if_true, if_false, ite_true, ite_false, Nat.reduceLeDiff, Int.cast_ofNat_Int, Int.reduceLT, Int.reduceLE, Int.reduceEq, Int.reduceNeg, reduceCtorEq, jup_ap, Nat.reduceEqDiff, Nat.reduceAdd]
    have g := hQ m' (hK0.trans hK) hI'
    unfold aSign at g
    rw [if_pos hp, ← ha.2.1 (-1)] at g
    exact g
theorem w_M_id {c m : jM} {n : Nat} (h : CI c n) (hI : MI c m n) (L : Nat) (p i : Int) (Q : jV → jG → jM → Prop) (hQ : ∀ m', MK m m' → MI c m' n → Q (jI (aId c p i)) (g0 L) m') : wp 59 0 [jO (some 32), jI p, jI i] [] (g0 L) m Q := by
  have hn := h.2.1
  have hK0 : MK m (jup m 32 0 0) := MK.rf.upf (by decide)
  simp only [x_M_id_0, x_M_id_1, x_M_id_2, x_M_id_5, x_M_id_6, x_M_id_7, x_M_id_8, x_M_id_11, x_M_id_14, x_M_id_15, x_M_id_18, x_M_id_19, x_M_id_20, x_M_id_23, x_M_id_24, sk_0, sk_1, sk_2, sk_3, sk_4, sk_5, sk_6, sk_7, sk_8, sk_9, sk_10, sk_11, sk_12, sk_13, sk_14, sk_15, sk_16, sk_17, sk_18, sk_19, sk_20, sk_21, sk_22, sk_23, sk_24, sk_25, sk_26, sk_27, sk_28, sk_29, sk_30, sk_31, sk_32, sk_33, sk_34, sk_35, sk_36, sk_37, sk_38, sk_39, sk_40, sk_41, sk_42, sk_43, sk_44, sk_45, sk_46, sk_47, sk_48, sk_49, sk_50, sk_51, sk_52, sk_53, sn_0, sn_1, sn_2, sn_3, sn_4, sn_5, sn_6, sn_7, sn_8, sn_9, sn_10, sn_11, sn_12, sn_13, sn_14, sn_15, sn_16, sn_17, sn_18, sn_19, sn_20, sn_21, sn_22, sn_23, sn_24, sn_25, sn_26, sn_27, sn_28, sn_29, sn_30, sn_31, sn_32, sn_33, sn_34, sn_35, sn_36, sn_37, sn_38, sn_39, sn_40, sn_41, sn_42, sn_43, sn_44, sn_45, sn_46, sn_47, sn_48, sn_49, sn_50, sn_51, sn_52, sn_53, rf_2_1, rf_2_2, rf_2_3, rf_2_4, rf_1_0, rf_1_1, rf_8_0, rf_7_0, rf_10_0, rf_7_1, rf_12_0, rf_7_2, rf_14_0, rf_7_3, rf_16_1, rf_16_2, rf_16_3, rf_16_4, rf_16_5, rf_16_6, rf_16_7, rf_1_2, rf_24_1, rf_24_2, rf_24_3, rf_24_4, rf_24_5, rf_24_6, rf_24_7, rf_1_3, rf_32_2, rf_32_3, rf_32_4, rf_32_5, rf_32_6, rf_32_7, rf_32_8, rf_32_9, rf_32_10, rf_32_12, rf_32_14, rf_32_15, rf_32_16, rf_32_18, rf_32_19, rf_32_21, rf_32_25, rf_32_26, rf_32_27, rf_32_28, rf_32_30, true_and, and_true, true_or, or_true, or_false, false_or, false_and, and_false, not_true, not_false_iff, ne_eq, and_self, eq_self, if_true, if_false, ite_true, ite_false, Nat.reduceLeDiff, Int.cast_ofNat_Int, Int.reduceLT, Int.reduceLE, Int.reduceEq, Int.reduceNeg, reduceCtorEq, jup_ap, Nat.reduceEqDiff, Nat.reduceAdd]
  refine w_M_isSeen h hI.thr L p i _ (fun hno m' hK hI' => ?_) (fun hp m' N s hK hI' hL hi => ?_)
  · simp only [x_M_id_0, x_M_id_1, x_M_id_2, x_M_id_5, x_M_id_6, x_M_id_7, x_M_id_8, x_M_id_11, x_M_id_14, x_M_id_15, x_M_id_18, x_M_id_19, x_M_id_20, x_M_id_23, x_M_id_24, sk_0, sk_1, sk_2, sk_3, sk_4, sk_5, sk_6, sk_7, sk_8, sk_9, sk_10, sk_11, sk_12, sk_13, sk_14, sk_15, sk_16, sk_17, sk_18, sk_19, sk_20, sk_21, sk_22, sk_23, sk_24, sk_25, sk_26, sk_27, sk_28, sk_29, sk_30, sk_31, sk_32, sk_33, sk_34, sk_35, sk_36, sk_37, sk_38, sk_39, sk_40, sk_41, sk_42, sk_43, sk_44, sk_45, sk_46, sk_47, sk_48, sk_49, sk_50, sk_51, sk_52, sk_53, sn_0, sn_1, sn_2, sn_3, sn_4, sn_5, sn_6, sn_7, sn_8, sn_9, sn_10, sn_11, sn_12, sn_13, sn_14, sn_15, sn_16, sn_17, sn_18, sn_19, sn_20, sn_21, sn_22, sn_23, sn_24, sn_25, sn_26, sn_27, sn_28, sn_29, sn_30, sn_31, sn_32, sn_33, sn_34, sn_35, sn_36, sn_37, sn_38, sn_39, sn_40, sn_41, sn_42, sn_43, sn_44, sn_45, sn_46, sn_47, sn_48, sn_49, sn_50, sn_51, sn_52, sn_53, rf_2_1, rf_2_2, rf_2_3, rf_2_4, rf_1_0, rf_1_1, rf_8_0, rf_7_0, rf_10_0, rf_7_1, rf_12_0, rf_7_2, rf_14_0, rf_7_3, rf_16_1, rf_16_2, rf_16_3, rf_16_4, rf_16_5, rf_16_6, rf_16_7, rf_1_2, rf_24_1, rf_24_2, rf_24_3, rf_24_4, rf_24_5, rf_24_6, rf_24_7, rf_1_3, rf_32_2, rf_32_3, rf_32_4, rf_32_5, rf_32_6, rf_32_7, rf_32_8, rf_32_9, rf_32_10, rf_32_12, rf_32_14, rf_32_15, rf_32_16, rf_32_18, rf_32_19, rf_32_21, rf_32_25, rf_32_26, rf_32_27, rf_32_28, rf_32_30, true_and, and_true, true_or, or_true, or_false, false_or, false_and, and_false, not_true, not_false_iff, ne_eq, and_self, eq_self, if_true, if_false, ite_true, ite_false, Nat.reduceLeDiff, Int.cast_ofNat_Int, Int.reduceLT, Int.reduceLE, Int.reduceEq, Int.reduceNeg, reduceCtorEq, jup_ap, Nat.reduceEqDiff, Nat.reduceAdd]
    have g := hQ m' (hK0.trans hK) hI'
    unfold aId at g
    by_cases hp : 0 ≤ p ∧ p < 4
    · rw [if_pos hp, getI_out] at g
      · exact g
      · have : ¬ (0 ≤ i ∧ i < (nV c p : Int)) := fun q => hno ⟨hp, q⟩
        unfold nV at this
        omega
    · rw [if_neg hp] at g
      exact g
  · have ha := hL.at h hI'.1 hi
    have l := hL.len
    have hb : 0 ≤ i ∧ i < 251 := by omega
    simp only [x_M_id_0, x_M_id_1, x_M_id_2, x_M_id_5, x_M_id_6, x_M_id_7, x_M_id_8, x_M_id_11, x_M_id_14, x_M_id_15, x_M_id_18, x_M_id_19, x_M_id_20, x_M_id_23, x_M_id_24, hb, Int.one_ne_zero, sk_0, sk_1, sk_2, sk_3, sk_4, sk_5, sk_6, sk_7, sk_8, sk_9, sk_10, sk_11, sk_12, sk_13, sk_14, sk_15, sk_16, sk_17, sk_18, sk_19, sk_20, sk_21, sk_22, sk_23, sk_24, sk_25, sk_26, sk_27, sk_28, sk_29, sk_30, sk_31, sk_32, sk_33, sk_34, sk_35, sk_36, sk_37, sk_38, sk_39, sk_40, sk_41, sk_42, sk_43, sk_44, sk_45, sk_46, sk_47, sk_48, sk_49, sk_50, sk_51, sk_52, sk_53, sn_0, sn_1, sn_2, sn_3, sn_4, sn_5, sn_6, sn_7, sn_8, sn_9, sn_10, sn_11, sn_12, sn_13, sn_14, sn_15, sn_16, sn_17, sn_18, sn_19, sn_20, sn_21, sn_22, sn_23, sn_24, sn_25, sn_26, sn_27, sn_28, sn_29, sn_30, sn_31, sn_32, sn_33, sn_34, sn_35, sn_36, sn_37, sn_38, sn_39, sn_40, sn_41, sn_42, sn_43, sn_44, sn_45, sn_46, sn_47, sn_48, sn_49, sn_50, sn_51, sn_52, sn_53, rf_2_1, rf_2_2, rf_2_3, rf_2_4, rf_1_0, rf_1_1, rf_8_0, rf_7_0, rf_10_0, rf_7_1, rf_12_0, rf_7_2, rf_14_0, rf_7_3, rf_16_1, rf_16_2, rf_16_3, rf_16_4, rf_16_5, rf_16_6, rf_16_7, rf_1_2, rf_24_1, rf_24_2, rf_24_3, rf_24_4, rf_24_5, rf_24_6, rf_24_7, rf_1_3, rf_32_2, rf_32_3, rf_32_4, rf_32_5, rf_32_6, rf_32_7, rf_32_8, rf_32_9, rf_32_10, rf_32_12, rf_32_14, rf_32_15, rf_32_16, rf_32_18, rf_32_19, rf_32_21, rf_32_25, rf_32_26, rf_32_27, rf_32_28, rf_32_30, true_and, and_true, true_or, or_true, or_false, false_or, false_and, and_false, not_true, not_false_iff, ne_eq, and_self, eq_self, if_true, if_false, ite_true, ite_false, Nat.reduceLeDiff, Int.cast_ofNat_Int, Int.reduceLT, Int.reduceLE, Int.reduceEq, Int.reduceNeg, reduceCtorEq, jup_ap, Nat.reduceEqDiff, Nat.reduceAdd]
    have g := hQ m' (hK0.trans hK) hI'
    unfold aId at g
    rw [if_pos hp, ← ha.2.2 (-1)] at g
    exact g
theorem w_M_styled {c m : jM} {n : Nat} (h : CI c n) (hI : MI c m n) (L : Nat) (p i e : Int) (Q : jV → jG → jM → Prop) (hQ : ∀ m', MK m m' → MI c m' n → Q (jI (aStyled c n p i e)) (g0 L) m') : wp 61 0 [jO (some 32), jI p, jI i, jI e] [] (g0 L) m Q := by
  have hn := h.2.1
  have hK0 : MK m (jup m 32 0 0) := MK.rf.upf (by decide)
  simp only [x_M_styled_0, x_M_styled_1, x_M_styled_2, x_M_styled_5, x_M_styled_6, x_M_styled_7, x_M_styled_8, x_M_styled_11, x_M_styled_14, x_M_styled_15, x_M_styled_16, x_M_styled_17, x_M_styled_20, x_M_styled_23, x_M_styled_24, x_M_styled_27, x_M_styled_28, x_M_styled_29, x_M_styled_30, x_M_styled_31, x_M_styled_32, x_M_styled_33, x_M_styled_36, x_M_styled_37, sk_0, sk_1, sk_2, sk_3, sk_4, sk_5, sk_6, sk_7, sk_8, sk_9, sk_10, sk_11, sk_12, sk_13, sk_14, sk_15, sk_16, sk_17, sk_18, sk_19, sk_20, sk_21, sk_22, sk_23, sk_24, sk_25, sk_26, sk_27, sk_28, sk_29, sk_30, sk_31, sk_32, sk_33, sk_34, sk_35, sk_36, sk_37, sk_38, sk_39, sk_40, sk_41, sk_42, sk_43, sk_44, sk_45, sk_46, sk_47, sk_48, sk_49, sk_50, sk_51, sk_52, sk_53, sn_0, sn_1, sn_2, sn_3, sn_4, sn_5, sn_6, sn_7, sn_8, sn_9, sn_10, sn_11, sn_12, sn_13, sn_14, sn_15, sn_16, sn_17, sn_18, sn_19, sn_20, sn_21, sn_22, sn_23, sn_24, sn_25, sn_26, sn_27, sn_28, sn_29, sn_30, sn_31, sn_32, sn_33, sn_34, sn_35, sn_36, sn_37, sn_38, sn_39, sn_40, sn_41, sn_42, sn_43, sn_44, sn_45, sn_46, sn_47, sn_48, sn_49, sn_50, sn_51, sn_52, sn_53, rf_2_1, rf_2_2, rf_2_3, rf_2_4, rf_1_0, rf_1_1, rf_8_0, rf_7_0, rf_10_0, rf_7_1, rf_12_0, rf_7_2, rf_14_0, rf_7_3, rf_16_1, rf_16_2, rf_16_3, rf_16_4, rf_16_5, rf_16_6, rf_16_7, rf_1_2, rf_24_1, rf_24_2, rf_24_3, rf_24_4, rf_24_5, rf_24_6, rf_24_7, rf_1_3, rf_32_2, rf_32_3, rf_32_4, rf_32_5, rf_32_6, rf_32_7, rf_32_8, rf_32_9, rf_32_10, rf_32_12, rf_32_14, rf_32_15, rf_32_16, rf_32_18, rf_32_19, rf_32_21, rf_32_25, rf_32_26, rf_32_27, rf_32_28, rf_32_30, true_and, and_true, true_or, or_true, or_false, false_or, false_and, and_false, not_true, not_false_iff, ne_eq, and_self, eq_self, if_true, if_false, ite_true, ite_false, Nat.reduceLeDiff, Int.cast_ofNat_Int, Int.reduceLT, Int.reduceLE, Int.reduceEq, Int.reduceNeg, reduceCtorEq, jup_ap, Nat.reduceEqDiff, Nat.reduceAdd]
  refine w_M_isSeen h hI.thr L p i _ (fun hno m' hK hI' => ?_) (fun hp m' N s hK hI' hL hi => ?_)
  · simp only [x_M_styled_0, x_M_styled_1, x_M_styled_2, x_M_styled_5, x_M_styled_6, x_M_styled_7, x_M_styled_8, x_M_styled_11, x_M_styled_14, x_M_styled_15, x_M_styled_16, x_M_styled_17, x_M_styled_20, x_M_styled_23, x_M_styled_24, x_M_styled_27, x_M_styled_28, x_M_styled_29, x_M_styled_30, x_M_styled_31, x_M_styled_32, x_M_styled_33, x_M_styled_36, x_M_styled_37, sk_0, sk_1, sk_2, sk_3, sk_4, sk_5, sk_6, sk_7, sk_8, sk_9, sk_10, sk_11, sk_12, sk_13, sk_14, sk_15, sk_16, sk_17, sk_18, sk_19, sk_20, sk_21, sk_22, sk_23, sk_24, sk_25, sk_26, sk_27, sk_28, sk_29, sk_30, sk_31, sk_32, sk_33, sk_34, sk_35, sk_36, sk_37, sk_38, sk_39, sk_40, sk_41, sk_42, sk_43, sk_44, sk_45, sk_46, sk_47, sk_48, sk_49, sk_50, sk_51, sk_52, sk_53, sn_0, sn_1, sn_2, sn_3, sn_4, sn_5, sn_6, sn_7, sn_8, sn_9, sn_10, sn_11, sn_12, sn_13, sn_14, sn_15, sn_16, sn_17, sn_18, sn_19, sn_20, sn_21, sn_22, sn_23, sn_24, sn_25, sn_26, sn_27, sn_28, sn_29, sn_30, sn_31, sn_32, sn_33, sn_34, sn_35, sn_36, sn_37, sn_38, sn_39, sn_40, sn_41, sn_42, sn_43, sn_44, sn_45, sn_46, sn_47, sn_48, sn_49, sn_50, sn_51, sn_52, sn_53, rf_2_1, rf_2_2, rf_2_3, rf_2_4, rf_1_0, rf_1_1, rf_8_0, rf_7_0, rf_10_0, rf_7_1, rf_12_0, rf_7_2, rf_14_0, rf_7_3, rf_16_1, rf_16_2, rf_16_3, rf_16_4, rf_16_5, rf_16_6, rf_16_7, rf_1_2, rf_24_1, rf_24_2, rf_24_3, rf_24_4, rf_24_5, rf_24_6, rf_24_7, rf_1_3, rf_32_2, rf_32_3, rf_32_4, rf_32_5, rf_32_6, rf_32_7, rf_32_8, rf_32_9, rf_32_10, rf_32_12, rf_32_14, rf_32_15, rf_32_16, rf_32_18, rf_32_19, rf_32_21, rf_32_25, rf_32_26, rf_32_27, rf_32_28, rf_32_30, true_and, and_true, true_or, or_true, or_false, false_or, false_and, and_false, not_true, not_false_iff, ne_eq, and_self, eq_self, if_true, if_false, ite_true, ite_false, Nat.reduceLeDiff, Int.cast_ofNat_Int, Int.reduceLT, Int.reduceLE, Int.reduceEq, Int.reduceNeg, reduceCtorEq, jup_ap, Nat.reduceEqDiff, Nat.reduceAdd]
    have g := hQ m' (hK0.trans hK) hI'
    unfold aStyled at g
    rw [if_neg (fun q => hno ⟨q.1.2, q.2⟩)] at g
    exact g
  · have l := hL.len
    simp only [x_M_styled_0, x_M_styled_1, x_M_styled_2, x_M_styled_5, x_M_styled_6, x_M_styled_7, x_M_styled_8, x_M_styled_11, x_M_styled_14, x_M_styled_15, x_M_styled_16, x_M_styled_17, x_M_styled_20, x_M_styled_23, x_M_styled_24, x_M_styled_27, x_M_styled_28, x_M_styled_29, x_M_styled_30, x_M_styled_31, x_M_styled_32, x_M_styled_33, x_M_styled_36, x_M_styled_37, w_M_within, b01_0, Int.one_ne_zero, sk_0, sk_1, sk_2, sk_3, sk_4, sk_5, sk_6, sk_7, sk_8, sk_9, sk_10, sk_11, sk_12, sk_13, sk_14, sk_15, sk_16, sk_17, sk_18, sk_19, sk_20, sk_21, sk_22, sk_23, sk_24, sk_25, sk_26, sk_27, sk_28, sk_29, sk_30, sk_31, sk_32, sk_33, sk_34, sk_35, sk_36, sk_37, sk_38, sk_39, sk_40, sk_41, sk_42, sk_43, sk_44, sk_45, sk_46, sk_47, sk_48, sk_49, sk_50, sk_51, sk_52, sk_53, sn_0, sn_1, sn_2, sn_3, sn_4, sn_5, sn_6, sn_7, sn_8, sn_9, sn_10, sn_11, sn_12, sn_13, sn_14, sn_15, sn_16, sn_17, sn_18, sn_19, sn_20, sn_21, sn_22, sn_23, sn_24, sn_25, sn_26, sn_27, sn_28, sn_29, sn_30, sn_31, sn_32, sn_33, sn_34, sn_35, sn_36, sn_37, sn_38, sn_39, sn_40, sn_41, sn_42, sn_43, sn_44, sn_45, sn_46, sn_47, sn_48, sn_49, sn_50, sn_51, sn_52, sn_53, rf_2_1, rf_2_2, rf_2_3, rf_2_4, rf_1_0, rf_1_1, rf_8_0, rf_7_0, rf_10_0, rf_7_1, rf_12_0, rf_7_2, rf_14_0, rf_7_3, rf_16_1, rf_16_2, rf_16_3, rf_16_4, rf_16_5, rf_16_6, rf_16_7, rf_1_2, rf_24_1, rf_24_2, rf_24_3, rf_24_4, rf_24_5, rf_24_6, rf_24_7, rf_1_3, rf_32_2, rf_32_3, rf_32_4, rf_32_5, rf_32_6, rf_32_7, rf_32_8, rf_32_9, rf_32_10, rf_32_12, rf_32_14, rf_32_15, rf_32_16, rf_32_18, rf_32_19, rf_32_21, rf_32_25, rf_32_26, rf_32_27, rf_32_28, rf_32_30, true_and, and_true, true_or, or_true, or_false, false_or, false_and, and_false, not_true, not_false_iff, ne_eq, and_self, eq_self, if_true, if_false, ite_true, ite_false, Nat.reduceLeDiff, Int.cast_ofNat_Int, Int.reduceLT, Int.reduceLE, Int.reduceEq, Int.reduceNeg, reduceCtorEq, jup_ap, Nat.reduceEqDiff, Nat.reduceAdd]
    have g := hQ m' (hK0.trans hK) hI'
    unfold aStyled at g
    rw [l.2.1] at g
    by_cases he : 0 ≤ e ∧ e < 4
    · rw [if_neg (fun q => q (by omega))]
      rw [if_pos ⟨⟨he, hp⟩, hi⟩, ← hL.2 i e hi.1 hi.2 he.1 he.2] at g
      rw [jw1 (z := 4 * i) (by omega) (by omega), jw1 (by omega) (by omega), jand_t (by omega)]
      exact g
    · rw [if_pos (by omega)]
      rw [if_neg (fun q => he q.1.1)] at g
      exact g
theorem wl_M_unit {c m : jM} {n : Nat} {p : Int} {N s : Nat} (h : CI c n) (hM : MB c m n) (hL : LkP c m n p N s) (L : Nat) (u : Int) (Q : jV → jG → jM → Prop) :
    ∀ (d : Nat) (i left : Int) (l5 l6 : jV), 0 ≤ i → i + d = (s : Int) → 0 ≤ left → left < 2147483648 → wp 60 28 [jO (some 32), jI p, jI u, jI left, jI i, l5, l6] [] (g0 L) m Q = Q (jI (uAt (tx c (nc p)) left i d)) (g0 L) m := by
  have hn := h.2.1
  obtain ⟨b1, b2, b3, b4, b5⟩ := hL.len
  intro d
  induction d with
  | zero =>
    intro i left l5 l6 i1 i2 i3 i4
    have hle : (s : Int) ≤ i := by omega
    rw [x_M_unit_28]
    simp only [x_M_unit_30, x_M_unit_31, x_M_unit_34, x_M_unit_125, x_M_unit_126, b3, hle, sk_0, sk_1, sk_2, sk_3, sk_4, sk_5, sk_6, sk_7, sk_8, sk_9, sk_10, sk_11, sk_12, sk_13, sk_14, sk_15, sk_16, sk_17, sk_18, sk_19, sk_20, sk_21, sk_22, sk_23, sk_24, sk_25, sk_26, sk_27, sk_28, sk_29, sk_30, sk_31, sk_32, sk_33, sk_34, sk_35, sk_36, sk_37, sk_38, sk_39, sk_40, sk_41, sk_42, sk_43, sk_44, sk_45, sk_46, sk_47, sk_48, sk_49, sk_50, sk_51, sk_52, sk_53, sn_0, sn_1, sn_2, sn_3, sn_4, sn_5, sn_6, sn_7, sn_8, sn_9, sn_10, sn_11, sn_12, sn_13, sn_14, sn_15, sn_16, sn_17, sn_18, sn_19, sn_20, sn_21, sn_22, sn_23, sn_24, sn_25, sn_26, sn_27, sn_28, sn_29, sn_30, sn_31, sn_32, sn_33, sn_34, sn_35, sn_36, sn_37, sn_38, sn_39, sn_40, sn_41, sn_42, sn_43, sn_44, sn_45, sn_46, sn_47, sn_48, sn_49, sn_50, sn_51, sn_52, sn_53, rf_2_1, rf_2_2, rf_2_3, rf_2_4, rf_1_0, rf_1_1, rf_8_0, rf_7_0, rf_10_0, rf_7_1, rf_12_0, rf_7_2, rf_14_0, rf_7_3, rf_16_1, rf_16_2, rf_16_3, rf_16_4, rf_16_5, rf_16_6, rf_16_7, rf_1_2, rf_24_1, rf_24_2, rf_24_3, rf_24_4, rf_24_5, rf_24_6, rf_24_7, rf_1_3, rf_32_2, rf_32_3, rf_32_4, rf_32_5, rf_32_6, rf_32_7, rf_32_8, rf_32_9, rf_32_10, rf_32_12, rf_32_14, rf_32_15, rf_32_16, rf_32_18, rf_32_19, rf_32_21, rf_32_25, rf_32_26, rf_32_27, rf_32_28, rf_32_30, true_and, and_true, true_or, or_true, or_false, false_or, false_and, and_false, not_true, not_false_iff, ne_eq, and_self, eq_self, if_true, if_false, ite_true, ite_false, Nat.reduceLeDiff, Int.cast_ofNat_Int, Int.reduceLT, Int.reduceLE, Int.reduceEq, Int.reduceNeg, reduceCtorEq, jup_ap, Nat.reduceEqDiff, Nat.reduceAdd]
    rfl
  | succ d ih =>
    intro i left l5 l6 i1 i2 i3 i4
    have hle : ¬ (s : Int) ≤ i := by omega
    have ha := hL.at h hM (i := i) (by omega)
    have hb : 0 ≤ i ∧ i < 251 := by omega
    have hb2 : 0 ≤ m 46 i ∧ m 46 i < 251 := by omega
    have e1 : jwr (i + 1) = i + 1 := jw1 (by omega) (by omega)
    have et : m 36 (m 46 i) = tx c (nc p) i := ha.2.1 0
    obtain ⟨z, hz⟩ : ∃ z, z = tx c (nc p) i := ⟨_, rfl⟩
    rw [← hz] at et
    rw [x_M_unit_28]
    simp only [x_M_unit_0, x_M_unit_1, x_M_unit_2, x_M_unit_5, x_M_unit_6, x_M_unit_9, x_M_unit_12, x_M_unit_13, x_M_unit_16, x_M_unit_17, x_M_unit_18, x_M_unit_19, x_M_unit_20, x_M_unit_23, x_M_unit_24, x_M_unit_25, x_M_unit_26, x_M_unit_30, x_M_unit_31, x_M_unit_34, x_M_unit_37, x_M_unit_38, x_M_unit_41, x_M_unit_42, x_M_unit_45, x_M_unit_47, x_M_unit_48, x_M_unit_49, x_M_unit_51, x_M_unit_53, x_M_unit_55, x_M_unit_58, x_M_unit_59, x_M_unit_62, x_M_unit_63, x_M_unit_65, x_M_unit_66, x_M_unit_68, x_M_unit_71, x_M_unit_73, x_M_unit_74, x_M_unit_77, x_M_unit_79, x_M_unit_82, x_M_unit_83, x_M_unit_86, x_M_unit_88, x_M_unit_90, x_M_unit_92, x_M_unit_93, x_M_unit_96, x_M_unit_97, x_M_unit_98, x_M_unit_101, x_M_unit_103, x_M_unit_105, x_M_unit_107, x_M_unit_108, x_M_unit_111, x_M_unit_112, x_M_unit_113, x_M_unit_114, x_M_unit_115, x_M_unit_117, x_M_unit_118, x_M_unit_119, x_M_unit_122, x_M_unit_125, x_M_unit_126, b3, hle, hb, hb2, et, e1, sk_0, sk_1, sk_2, sk_3, sk_4, sk_5, sk_6, sk_7, sk_8, sk_9, sk_10, sk_11, sk_12, sk_13, sk_14, sk_15, sk_16, sk_17, sk_18, sk_19, sk_20, sk_21, sk_22, sk_23, sk_24, sk_25, sk_26, sk_27, sk_28, sk_29, sk_30, sk_31, sk_32, sk_33, sk_34, sk_35, sk_36, sk_37, sk_38, sk_39, sk_40, sk_41, sk_42, sk_43, sk_44, sk_45, sk_46, sk_47, sk_48, sk_49, sk_50, sk_51, sk_52, sk_53, sn_0, sn_1, sn_2, sn_3, sn_4, sn_5, sn_6, sn_7, sn_8, sn_9, sn_10, sn_11, sn_12, sn_13, sn_14, sn_15, sn_16, sn_17, sn_18, sn_19, sn_20, sn_21, sn_22, sn_23, sn_24, sn_25, sn_26, sn_27, sn_28, sn_29, sn_30, sn_31, sn_32, sn_33, sn_34, sn_35, sn_36, sn_37, sn_38, sn_39, sn_40, sn_41, sn_42, sn_43, sn_44, sn_45, sn_46, sn_47, sn_48, sn_49, sn_50, sn_51, sn_52, sn_53, rf_2_1, rf_2_2, rf_2_3, rf_2_4, rf_1_0, rf_1_1, rf_8_0, rf_7_0, rf_10_0, rf_7_1, rf_12_0, rf_7_2, rf_14_0, rf_7_3, rf_16_1, rf_16_2, rf_16_3, rf_16_4, rf_16_5, rf_16_6, rf_16_7, rf_1_2, rf_24_1, rf_24_2, rf_24_3, rf_24_4, rf_24_5, rf_24_6, rf_24_7, rf_1_3, rf_32_2, rf_32_3, rf_32_4, rf_32_5, rf_32_6, rf_32_7, rf_32_8, rf_32_9, rf_32_10, rf_32_12, rf_32_14, rf_32_15, rf_32_16, rf_32_18, rf_32_19, rf_32_21, rf_32_25, rf_32_26, rf_32_27, rf_32_28, rf_32_30, true_and, and_true, true_or, or_true, or_false, false_or, false_and, and_false, not_true, not_false_iff, ne_eq, and_self, eq_self, if_true, if_false, ite_true, ite_false, Nat.reduceLeDiff, Int.cast_ofNat_Int, Int.reduceLT, Int.reduceLE, Int.reduceEq, Int.reduceNeg, reduceCtorEq, jup_ap, Nat.reduceEqDiff, Nat.reduceAdd]
    unfold uAt
    rw [← hz]
    unfold wid part
    by_cases hc : z ≤ 65535
    · rw [if_pos hc, if_neg (show ¬ 65536 ≤ z by omega), if_pos (show z < 65536 by omega)]
      by_cases hl : left < 1
      · rw [if_neg (show ¬ 1 ≤ left by omega), if_pos hl]
      · rw [if_pos (show 1 ≤ left by omega), if_neg hl, show jwr (left - 1) = left - 1 from jw1 (by omega) (by omega), ih (i + 1) (left - 1) _ _ (by omega) (by omega) (by omega) (by omega)]
    · rw [if_neg hc, if_pos (show 65536 ≤ z by omega), if_neg (show ¬ z < 65536 by omega)]
      by_cases hl : left < 2
      · rw [if_neg (show ¬ 2 ≤ left by omega), if_pos hl]
        by_cases h0 : left = 0
        · rw [if_neg (fun q => q h0), if_pos h0]
        · rw [if_pos h0, if_neg h0]
      · rw [if_pos (show 2 ≤ left by omega), if_neg hl, show jwr (left - 2) = left - 2 from jw1 (by omega) (by omega), ih (i + 1) (left - 2) _ _ (by omega) (by omega) (by omega) (by omega)]
theorem w_M_unit {c m : jM} {n : Nat} (h : CI c n) (hI : MI c m n) (L : Nat) (p u : Int) (hu : u < 2147483648) (Q : jV → jG → jM → Prop) (hQ : ∀ m', MK m m' → MI c m' n → Q (jI (aUnit c p u)) (g0 L) m') : wp 60 0 [jO (some 32), jI p, jI u, jU, jU, jU, jU] [] (g0 L) m Q := by
  have hK0 : MK m (jup m 32 0 0) := MK.rf.upf (by decide)
  simp only [x_M_unit_0, x_M_unit_1, x_M_unit_2, x_M_unit_5, x_M_unit_6, x_M_unit_9, x_M_unit_12, x_M_unit_13, x_M_unit_16, x_M_unit_17, x_M_unit_18, x_M_unit_19, x_M_unit_20, x_M_unit_23, x_M_unit_24, x_M_unit_25, x_M_unit_26, x_M_unit_30, x_M_unit_31, x_M_unit_34, x_M_unit_37, x_M_unit_38, x_M_unit_41, x_M_unit_42, x_M_unit_45, x_M_unit_47, x_M_unit_48, x_M_unit_49, x_M_unit_51, x_M_unit_53, x_M_unit_55, x_M_unit_58, x_M_unit_59, x_M_unit_62, x_M_unit_63, x_M_unit_65, x_M_unit_66, x_M_unit_68, x_M_unit_71, x_M_unit_73, x_M_unit_74, x_M_unit_77, x_M_unit_79, x_M_unit_82, x_M_unit_83, x_M_unit_86, x_M_unit_88, x_M_unit_90, x_M_unit_92, x_M_unit_93, x_M_unit_96, x_M_unit_97, x_M_unit_98, x_M_unit_101, x_M_unit_103, x_M_unit_105, x_M_unit_107, x_M_unit_108, x_M_unit_111, x_M_unit_112, x_M_unit_113, x_M_unit_114, x_M_unit_115, x_M_unit_117, x_M_unit_118, x_M_unit_119, x_M_unit_122, x_M_unit_125, x_M_unit_126, w_M_isNode, b01_0, sk_0, sk_1, sk_2, sk_3, sk_4, sk_5, sk_6, sk_7, sk_8, sk_9, sk_10, sk_11, sk_12, sk_13, sk_14, sk_15, sk_16, sk_17, sk_18, sk_19, sk_20, sk_21, sk_22, sk_23, sk_24, sk_25, sk_26, sk_27, sk_28, sk_29, sk_30, sk_31, sk_32, sk_33, sk_34, sk_35, sk_36, sk_37, sk_38, sk_39, sk_40, sk_41, sk_42, sk_43, sk_44, sk_45, sk_46, sk_47, sk_48, sk_49, sk_50, sk_51, sk_52, sk_53, sn_0, sn_1, sn_2, sn_3, sn_4, sn_5, sn_6, sn_7, sn_8, sn_9, sn_10, sn_11, sn_12, sn_13, sn_14, sn_15, sn_16, sn_17, sn_18, sn_19, sn_20, sn_21, sn_22, sn_23, sn_24, sn_25, sn_26, sn_27, sn_28, sn_29, sn_30, sn_31, sn_32, sn_33, sn_34, sn_35, sn_36, sn_37, sn_38, sn_39, sn_40, sn_41, sn_42, sn_43, sn_44, sn_45, sn_46, sn_47, sn_48, sn_49, sn_50, sn_51, sn_52, sn_53, rf_2_1, rf_2_2, rf_2_3, rf_2_4, rf_1_0, rf_1_1, rf_8_0, rf_7_0, rf_10_0, rf_7_1, rf_12_0, rf_7_2, rf_14_0, rf_7_3, rf_16_1, rf_16_2, rf_16_3, rf_16_4, rf_16_5, rf_16_6, rf_16_7, rf_1_2, rf_24_1, rf_24_2, rf_24_3, rf_24_4, rf_24_5, rf_24_6, rf_24_7, rf_1_3, rf_32_2, rf_32_3, rf_32_4, rf_32_5, rf_32_6, rf_32_7, rf_32_8, rf_32_9, rf_32_10, rf_32_12, rf_32_14, rf_32_15, rf_32_16, rf_32_18, rf_32_19, rf_32_21, rf_32_25, rf_32_26, rf_32_27, rf_32_28, rf_32_30, true_and, and_true, true_or, or_true, or_false, false_or, false_and, and_false, not_true, not_false_iff, ne_eq, and_self, eq_self, if_true, if_false, ite_true, ite_false, Nat.reduceLeDiff, Int.cast_ofNat_Int, Int.reduceLT, Int.reduceLE, Int.reduceEq, Int.reduceNeg, reduceCtorEq, jup_ap, Nat.reduceEqDiff, Nat.reduceAdd]
  unfold aUnit at hQ
  by_cases hp : 0 ≤ p ∧ p < 4
  · rw [if_neg (fun q => q hp)]
    rw [if_pos hp] at hQ
    by_cases h0 : 0 ≤ u
    · rw [if_pos h0]
      rw [if_neg (by omega)] at hQ
      refine w_M_look h hI.thr L hp _ (fun m' N s hK e hL => ?_)
      have hI' := MI.of hI.thr.1 hp hK e hL
      rw [wl_M_unit h hI'.1 hL L u Q s 0 u jU jU (by omega) (by omega) h0 hu]
      have g := hQ m' (hK0.trans hK) hI'
      rw [hL.len.1] at g
      exact g
    · rw [if_neg h0]
      rw [if_pos (by omega)] at hQ
      exact hQ _ hK0 hI.thr
  · rw [if_pos hp]
    rw [if_neg hp] at hQ
    exact hQ _ hK0 hI.thr
theorem w_M_row {c m : jM} {n : Nat} (h : CI c n) (hI : MI c m n) (L : Nat) (r w : Int) (Q : jV → jG → jM → Prop) (hQ : ∀ m', MK m m' → MI c m' n → Q (jI (cellV c r w)) (g0 L) m') : wp 70 0 [jO (some 32), jI r, jI w] [] (g0 L) m Q := by
  have hn := h.2.1
  have hK0 : MK m (jup m 32 0 0) := MK.rf.upf (by decide)
  have hM0 := hI.thr.1
  have g := hQ _ hK0 hI.thr
  have e1 : (jup m 32 0 0) 32 1 = (n : Int) := hM0.1
  have hcv : cellV c r w = if (1 ≤ r ∧ r ≤ (n : Int)) ∧ 0 ≤ w ∧ w < 7 then cellV c r w else -1 := by
    by_cases q : (1 ≤ r ∧ r ≤ (n : Int)) ∧ 0 ≤ w ∧ w < 7
    · rw [if_pos q]
    · rw [if_neg q]
      unfold cellV
      rw [h.1, if_neg q]
  rw [x_M_row_0, x_M_row_1, x_M_row_2]
  simp only [x_M_row_5, x_M_row_6, x_M_row_7, x_M_row_8, x_M_row_11, x_M_row_14, x_M_row_17, x_M_row_18, w_M_within, e1, b01_0, sk_0, sk_1, sk_2, sk_3, sk_4, sk_5, sk_6, sk_7, sk_8, sk_9, sk_10, sk_11, sk_12, sk_13, sk_14, sk_15, sk_16, sk_17, sk_18, sk_19, sk_20, sk_21, sk_22, sk_23, sk_24, sk_25, sk_26, sk_27, sk_28, sk_29, sk_30, sk_31, sk_32, sk_33, sk_34, sk_35, sk_36, sk_37, sk_38, sk_39, sk_40, sk_41, sk_42, sk_43, sk_44, sk_45, sk_46, sk_47, sk_48, sk_49, sk_50, sk_51, sk_52, sk_53, sn_0, sn_1, sn_2, sn_3, sn_4, sn_5, sn_6, sn_7, sn_8, sn_9, sn_10, sn_11, sn_12, sn_13, sn_14, sn_15, sn_16, sn_17, sn_18, sn_19, sn_20, sn_21, sn_22, sn_23, sn_24, sn_25, sn_26, sn_27, sn_28, sn_29, sn_30, sn_31, sn_32, sn_33, sn_34, sn_35, sn_36, sn_37, sn_38, sn_39, sn_40, sn_41, sn_42, sn_43, sn_44, sn_45, sn_46, sn_47, sn_48, sn_49, sn_50, sn_51, sn_52, sn_53, rf_2_1, rf_2_2, rf_2_3, rf_2_4, rf_1_0, rf_1_1, rf_8_0, rf_7_0, rf_10_0, rf_7_1, rf_12_0, rf_7_2, rf_14_0, rf_7_3, rf_16_1, rf_16_2, rf_16_3, rf_16_4, rf_16_5, rf_16_6, rf_16_7, rf_1_2, rf_24_1, rf_24_2, rf_24_3, rf_24_4, rf_24_5, rf_24_6, rf_24_7, rf_1_3, rf_32_2, rf_32_3, rf_32_4, rf_32_5, rf_32_6, rf_32_7, rf_32_8, rf_32_9, rf_32_10, rf_32_12, rf_32_14, rf_32_15, rf_32_16, rf_32_18, rf_32_19, rf_32_21, rf_32_25, rf_32_26, rf_32_27, rf_32_28, rf_32_30, true_and, and_true, true_or, or_true, or_false, false_or, false_and, and_false, not_true, not_false_iff, ne_eq, and_self, eq_self, if_true, if_false, ite_true, ite_false, Nat.reduceLeDiff, Int.cast_ofNat_Int, Int.reduceLT, Int.reduceLE, Int.reduceEq, Int.reduceNeg, reduceCtorEq, jup_ap, Nat.reduceEqDiff, Nat.reduceAdd]
  by_cases hr : 1 ≤ r ∧ r ≤ (n : Int)
  · rw [if_pos (fun q => q hr)]
    have hrow := hM0.2.1 r hr.1 hr.2
    have hb : 0 ≤ r ∧ r < 251 := by omega
    simp only [x_M_row_19, x_M_row_20]
    generalize jup m 32 0 0 = m0 at g hrow ⊢
    simp only [x_M_row_0, x_M_row_1, x_M_row_2, x_M_row_5, x_M_row_6, x_M_row_7, x_M_row_8, x_M_row_11, x_M_row_14, x_M_row_17, x_M_row_18, x_M_row_19, x_M_row_20, x_M_row_64, x_M_row_65, x_M_row_68, x_M_row_69, x_M_row_70, x_M_row_71, x_M_row_72, x_M_row_75, x_M_row_76, x_M_row_77, x_M_row_78, x_M_row_79, x_M_row_82, x_M_row_83, x_M_row_84, x_M_row_85, x_M_row_86, x_M_row_89, x_M_row_90, x_M_row_91, x_M_row_92, x_M_row_93, x_M_row_96, x_M_row_97, x_M_row_98, x_M_row_99, x_M_row_100, x_M_row_103, x_M_row_104, x_M_row_105, x_M_row_106, x_M_row_107, x_M_row_110, x_M_row_111, x_M_row_112, x_M_row_113, x_M_row_114, hb, hrow.1, hrow.2.1, hrow.2.2.1, hrow.2.2.2.1, hrow.2.2.2.2.1, hrow.2.2.2.2.2.1, hrow.2.2.2.2.2.2, sk_0, sk_1, sk_2, sk_3, sk_4, sk_5, sk_6, sk_7, sk_8, sk_9, sk_10, sk_11, sk_12, sk_13, sk_14, sk_15, sk_16, sk_17, sk_18, sk_19, sk_20, sk_21, sk_22, sk_23, sk_24, sk_25, sk_26, sk_27, sk_28, sk_29, sk_30, sk_31, sk_32, sk_33, sk_34, sk_35, sk_36, sk_37, sk_38, sk_39, sk_40, sk_41, sk_42, sk_43, sk_44, sk_45, sk_46, sk_47, sk_48, sk_49, sk_50, sk_51, sk_52, sk_53, sn_0, sn_1, sn_2, sn_3, sn_4, sn_5, sn_6, sn_7, sn_8, sn_9, sn_10, sn_11, sn_12, sn_13, sn_14, sn_15, sn_16, sn_17, sn_18, sn_19, sn_20, sn_21, sn_22, sn_23, sn_24, sn_25, sn_26, sn_27, sn_28, sn_29, sn_30, sn_31, sn_32, sn_33, sn_34, sn_35, sn_36, sn_37, sn_38, sn_39, sn_40, sn_41, sn_42, sn_43, sn_44, sn_45, sn_46, sn_47, sn_48, sn_49, sn_50, sn_51, sn_52, sn_53, rf_2_1, rf_2_2, rf_2_3, rf_2_4, rf_1_0, rf_1_1, rf_8_0, rf_7_0, rf_10_0, rf_7_1, rf_12_0, rf_7_2, rf_14_0, rf_7_3, rf_16_1, rf_16_2, rf_16_3, rf_16_4, rf_16_5, rf_16_6, rf_16_7, rf_1_2, rf_24_1, rf_24_2, rf_24_3, rf_24_4, rf_24_5, rf_24_6, rf_24_7, rf_1_3, rf_32_2, rf_32_3, rf_32_4, rf_32_5, rf_32_6, rf_32_7, rf_32_8, rf_32_9, rf_32_10, rf_32_12, rf_32_14, rf_32_15, rf_32_16, rf_32_18, rf_32_19, rf_32_21, rf_32_25, rf_32_26, rf_32_27, rf_32_28, rf_32_30, true_and, and_true, true_or, or_true, or_false, false_or, false_and, and_false, not_true, not_false_iff, ne_eq, and_self, eq_self, if_true, if_false, ite_true, ite_false, Nat.reduceLeDiff, Int.cast_ofNat_Int, Int.reduceLT, Int.reduceLE, Int.reduceEq, Int.reduceNeg, reduceCtorEq, jup_ap, Nat.reduceEqDiff, Nat.reduceAdd]
    by_cases w0 : w = 0
    · rw [if_pos w0]; rw [w0] at g; exact g
    rw [if_neg w0]
    by_cases w1 : w = 1
    · rw [if_pos w1]; rw [w1] at g; exact g
    rw [if_neg w1]
    by_cases w2 : w = 2
    · rw [if_pos w2]; rw [w2] at g; exact g
    rw [if_neg w2]
    by_cases w3 : w = 3
    · rw [if_pos w3]; rw [w3] at g; exact g
    rw [if_neg w3]
    by_cases w4 : w = 4
    · rw [if_pos w4]; rw [w4] at g; exact g
    rw [if_neg w4]
    by_cases w5 : w = 5
    · rw [if_pos w5]; rw [w5] at g; exact g
    rw [if_neg w5]
    by_cases w6 : w = 6
    · rw [if_pos w6]; rw [w6] at g; exact g
    rw [if_neg w6]
    rw [hcv, if_neg (by omega)] at g
    exact g
  · rw [if_neg (fun q => q hr)]
    rw [hcv, if_neg (fun q => hr q.1)] at g
    exact g
