theorem w_M_keep {c m : jM} {n : Nat} (h : CI c n) (hI : MI c m n) (L : Nat) {p : Int} (hp : 0 ≤ p ∧ p < 4) (Q : jV → jG → jM → Prop)
    (hQ : ∀ m', MK m m' → MI c m' n → KpP c m' n p → Q jU (g0 L) m') : wp 73 0 [jO (some 32), jI p, jU, jU] [] (g0 L) m Q := by
  have hn := h.2.1
  simp only [x_M_keep_0, x_M_keep_1, x_M_keep_2, sk_0, sk_1, sk_2, sk_3, sk_4, sk_5, sk_6, sk_7, sk_8, sk_9, sk_10, sk_11, sk_12, sk_13, sk_14, sk_15, sk_16, sk_17, sk_18, sk_19, sk_20, sk_21, sk_22, sk_23, sk_24, sk_25, sk_26, sk_27, sk_28, sk_29, sk_30, sk_31, sk_32, sk_33, sk_34, sk_35, sk_36, sk_37, sk_38, sk_39, sk_40, sk_41, sk_42, sk_43, sk_44, sk_45, sk_46, sk_47, sk_48, sk_49, sk_50, sk_51, sk_52, sk_53, sn_0, sn_1, sn_2, sn_3, sn_4, sn_5, sn_6, sn_7, sn_8, sn_9, sn_10, sn_11, sn_12, sn_13, sn_14, sn_15, sn_16, sn_17, sn_18, sn_19, sn_20, sn_21, sn_22, sn_23, sn_24, sn_25, sn_26, sn_27, sn_28, sn_29, sn_30, sn_31, sn_32, sn_33, sn_34, sn_35, sn_36, sn_37, sn_38, sn_39, sn_40, sn_41, sn_42, sn_43, sn_44, sn_45, sn_46, sn_47, sn_48, sn_49, sn_50, sn_51, sn_52, sn_53, rf_2_1, rf_2_2, rf_2_3, rf_2_4, rf_1_0, rf_1_1, rf_8_0, rf_7_0, rf_10_0, rf_7_1, rf_12_0, rf_7_2, rf_14_0, rf_7_3, rf_16_1, rf_16_2, rf_16_3, rf_16_4, rf_16_5, rf_16_6, rf_16_7, rf_1_2, rf_24_1, rf_24_2, rf_24_3, rf_24_4, rf_24_5, rf_24_6, rf_24_7, rf_1_3, rf_32_2, rf_32_3, rf_32_4, rf_32_5, rf_32_6, rf_32_7, rf_32_8, rf_32_9, rf_32_10, rf_32_12, rf_32_14, rf_32_15, rf_32_16, rf_32_18, rf_32_19, rf_32_21, rf_32_25, rf_32_26, rf_32_27, rf_32_28, rf_32_30, true_and, and_true, true_or, or_true, or_false, false_or, false_and, and_false, not_true, not_false_iff, ne_eq, and_self, eq_self, if_true, if_false, ite_true, ite_false, Nat.reduceLeDiff, Int.cast_ofNat_Int, Int.reduceLT, Int.reduceLE, Int.reduceEq, Int.reduceNeg, reduceCtorEq, jup_ap, Nat.reduceEqDiff, Nat.reduceAdd]
  refine w_M_look h hI L hp _ (fun m1 N s hK e hL => ?_)
  obtain ⟨b1, b2, b3, b4, b5⟩ := hL.len
  have hM1 := hI.1.mk hK
  simp only [x_M_keep_5, x_M_keep_6, x_M_keep_7, x_M_keep_10, x_M_keep_13, x_M_keep_14, b3, sk_0, sk_1, sk_2, sk_3, sk_4, sk_5, sk_6, sk_7, sk_8, sk_9, sk_10, sk_11, sk_12, sk_13, sk_14, sk_15, sk_16, sk_17, sk_18, sk_19, sk_20, sk_21, sk_22, sk_23, sk_24, sk_25, sk_26, sk_27, sk_28, sk_29, sk_30, sk_31, sk_32, sk_33, sk_34, sk_35, sk_36, sk_37, sk_38, sk_39, sk_40, sk_41, sk_42, sk_43, sk_44, sk_45, sk_46, sk_47, sk_48, sk_49, sk_50, sk_51, sk_52, sk_53, sn_0, sn_1, sn_2, sn_3, sn_4, sn_5, sn_6, sn_7, sn_8, sn_9, sn_10, sn_11, sn_12, sn_13, sn_14, sn_15, sn_16, sn_17, sn_18, sn_19, sn_20, sn_21, sn_22, sn_23, sn_24, sn_25, sn_26, sn_27, sn_28, sn_29, sn_30, sn_31, sn_32, sn_33, sn_34, sn_35, sn_36, sn_37, sn_38, sn_39, sn_40, sn_41, sn_42, sn_43, sn_44, sn_45, sn_46, sn_47, sn_48, sn_49, sn_50, sn_51, sn_52, sn_53, rf_2_1, rf_2_2, rf_2_3, rf_2_4, rf_1_0, rf_1_1, rf_8_0, rf_7_0, rf_10_0, rf_7_1, rf_12_0, rf_7_2, rf_14_0, rf_7_3, rf_16_1, rf_16_2, rf_16_3, rf_16_4, rf_16_5, rf_16_6, rf_16_7, rf_1_2, rf_24_1, rf_24_2, rf_24_3, rf_24_4, rf_24_5, rf_24_6, rf_24_7, rf_1_3, rf_32_2, rf_32_3, rf_32_4, rf_32_5, rf_32_6, rf_32_7, rf_32_8, rf_32_9, rf_32_10, rf_32_12, rf_32_14, rf_32_15, rf_32_16, rf_32_18, rf_32_19, rf_32_21, rf_32_25, rf_32_26, rf_32_27, rf_32_28, rf_32_30, true_and, and_true, true_or, or_true, or_false, false_or, false_and, and_false, not_true, not_false_iff, ne_eq, and_self, eq_self, if_true, if_false, ite_true, ite_false, Nat.reduceLeDiff, Int.cast_ofNat_Int, Int.reduceLT, Int.reduceLE, Int.reduceEq, Int.reduceNeg, reduceCtorEq, jup_ap, Nat.reduceEqDiff, Nat.reduceAdd]
  have hK2 : MK m1 (jup m1 32 24 (s : Int)) := MK.rf.upf (by decide)
  have hL2 : LkP c (jup m1 32 24 (s : Int)) n p N s := hL.fr (fun b c1 c2 j => by rw [jup_ap, if_neg (by omega)]) (by rw [jup_ap, if_neg (by omega)]) (by rw [jup_ap, if_neg (by omega)])
  have e24 : (jup m1 32 24 (s : Int)) 32 24 = (s : Int) := by rw [jup_ap, if_pos ⟨rfl, rfl⟩]
  have e11 : (jup m1 32 24 (s : Int)) 32 11 = p := by rw [jup_ap, if_neg (by omega)]; exact e
  have hM2 := hM1.mk hK2
  generalize jup m1 32 24 (s : Int) = m2 at *
  refine wl_M_k0 h hM2 hL2 L jU Q (fun m3 hF3 h3 => ?_) s 0 m2 (by omega) (by omega) Fr.rf (fun j j1 j2 => by omega)
  have hL3 := hF3.lk (by simp) hL2
  have hM3 := hF3.mb (by simp) hM2
  simp only [x_M_keep_46, x_M_keep_47]
  refine wl_M_k1 L p jU (by omega) hL3.len.2.2.1 Q (fun m4 hF4 h4 => ?_) (4 * s) 0 m3 (by omega) (by omega) Fr.rf (fun j j1 j2 => by omega)
  have hL4 := hF4.lk (by simp) hL3
  have hM4 := hF4.mb (by simp) hM3
  simp only [x_M_keep_76, x_M_keep_77]
  refine wl_M_k2 h hM4 hp hL4 L Q (fun m5 l3 hF5 h5 => ?_) n 1 jU m4 (by omega) (by omega) Fr.rf (fun j j1 j2 => by omega)
  have hL5 := hF5.lk (by simp) hL4
  have hM5 := hF5.mb (by simp) hM4
  have enp : 1 + sumI (fun i => b01 (tx c (nc p) i = 10)) 0 s = nPar c p := by unfold nPar; rw [b2]
  simp only [x_M_keep_157, x_M_keep_158, x_M_keep_159, w_M_paragraphs h hM5 hL5 L, x_M_keep_162, x_M_keep_165, x_M_keep_166, enp, sk_0, sk_1, sk_2, sk_3, sk_4, sk_5, sk_6, sk_7, sk_8, sk_9, sk_10, sk_11, sk_12, sk_13, sk_14, sk_15, sk_16, sk_17, sk_18, sk_19, sk_20, sk_21, sk_22, sk_23, sk_24, sk_25, sk_26, sk_27, sk_28, sk_29, sk_30, sk_31, sk_32, sk_33, sk_34, sk_35, sk_36, sk_37, sk_38, sk_39, sk_40, sk_41, sk_42, sk_43, sk_44, sk_45, sk_46, sk_47, sk_48, sk_49, sk_50, sk_51, sk_52, sk_53, sn_0, sn_1, sn_2, sn_3, sn_4, sn_5, sn_6, sn_7, sn_8, sn_9, sn_10, sn_11, sn_12, sn_13, sn_14, sn_15, sn_16, sn_17, sn_18, sn_19, sn_20, sn_21, sn_22, sn_23, sn_24, sn_25, sn_26, sn_27, sn_28, sn_29, sn_30, sn_31, sn_32, sn_33, sn_34, sn_35, sn_36, sn_37, sn_38, sn_39, sn_40, sn_41, sn_42, sn_43, sn_44, sn_45, sn_46, sn_47, sn_48, sn_49, sn_50, sn_51, sn_52, sn_53, rf_2_1, rf_2_2, rf_2_3, rf_2_4, rf_1_0, rf_1_1, rf_8_0, rf_7_0, rf_10_0, rf_7_1, rf_12_0, rf_7_2, rf_14_0, rf_7_3, rf_16_1, rf_16_2, rf_16_3, rf_16_4, rf_16_5, rf_16_6, rf_16_7, rf_1_2, rf_24_1, rf_24_2, rf_24_3, rf_24_4, rf_24_5, rf_24_6, rf_24_7, rf_1_3, rf_32_2, rf_32_3, rf_32_4, rf_32_5, rf_32_6, rf_32_7, rf_32_8, rf_32_9, rf_32_10, rf_32_12, rf_32_14, rf_32_15, rf_32_16, rf_32_18, rf_32_19, rf_32_21, rf_32_25, rf_32_26, rf_32_27, rf_32_28, rf_32_30, true_and, and_true, true_or, or_true, or_false, false_or, false_and, and_false, not_true, not_false_iff, ne_eq, and_self, eq_self, if_true, if_false, ite_true, ite_false, Nat.reduceLeDiff, Int.cast_ofNat_Int, Int.reduceLT, Int.reduceLE, Int.reduceEq, Int.reduceNeg, reduceCtorEq, jup_ap, Nat.reduceEqDiff, Nat.reduceAdd]
  have hK6 : MK m5 (jup m5 32 29 (nPar c p)) := MK.rf.upf (by decide)
  have hL6 : LkP c (jup m5 32 29 (nPar c p)) n p N s := hL5.fr (fun b c1 c2 j => by rw [jup_ap, if_neg (by omega)]) (by rw [jup_ap, if_neg (by omega)]) (by rw [jup_ap, if_neg (by omega)])
  have e29 : (jup m5 32 29 (nPar c p)) 32 29 = nPar c p := by rw [jup_ap, if_pos ⟨rfl, rfl⟩]
  have hM6 := hM5.mk hK6
  have hG : ∀ b j, ¬ (b = 32 ∧ j = 29) → (jup m5 32 29 (nPar c p)) b j = m5 b j := fun b j q => by rw [jup_ap, if_neg q]
  generalize jup m5 32 29 (nPar c p) = m6 at *
  have hpb := nPar_bd c p
  refine wl_M_k3 h hM6 hL6 L e29 l3 Q (fun m7 hF7 h7 => ?_) (nPar c p).toNat 0 m6 (by omega) (by omega) Fr.rf (fun j j1 j2 => by omega)
  have hL7 := hF7.lk (by simp) hL6
  have k27 : ∀ b, b < 32 ∨ (33 ≤ b ∧ b ≤ 41) → ∀ j, m7 b j = m2 b j := fun b hb j => by
    rw [hF7 b (by simp; omega), hG b j (by omega), hF5 b (by simp; omega), hF4 b (by simp; omega), hF3 b (by simp; omega)]
  have f27 : ∀ j, j ≠ 29 → m7 32 j = m2 32 j := fun j hj => by
    rw [hF7 32 (by simp), hG 32 j (by omega), hF5 32 (by simp), hF4 32 (by simp), hF3 32 (by simp)]
  have hK27 : MK m2 m7 := ⟨k27, f27 1 (by decide)⟩
  have hKall := hK.trans (hK2.trans hK27)
  refine hQ m7 hKall (MI.of hI.1 hp hKall (by rw [f27 11 (by decide)]; exact e11) hL7) ⟨?_, ?_, fun j j1 j2 => ?_, fun k e k1 k2 k3 k4 => ?_, fun r r1 r2 => ?_, h7⟩
  · rw [f27 24 (by decide), e24, b2]
  · rw [hF7 32 (by simp)]; exact e29
  · rw [b2] at j2
    rw [hF7 49 (by simp), hG 49 j (by omega), hF5 49 (by simp), hF4 49 (by simp)]
    exact h3 j j1 j2
  · rw [b2] at k2 ⊢
    rw [hF7 50 (by simp), hG 50 _ (by omega), hF5 50 (by simp), h4 _ (by omega) (by omega)]
    exact hL3.2 k e k1 k2 k3 k4
  · rw [hF7 51 (by simp), hG 51 _ (by omega), hF7 52 (by simp), hG 52 _ (by omega)]
    exact h5 r r1 r2
theorem wl_M_a0 {c m : jM} {n : Nat} {p q : Int} {N s : Nat} (h : CI c n) (hM : MB c m n) (hL : LkP c m n q N s) (L : Nat) (l4 : jV) (Q : jV → jG → jM → Prop)
    (h0 : ¬ (∀ j : Int, 0 ≤ j → j < (s : Int) → m 49 j = tx c (nc q) j) → Q (jI 0) (g0 L) m) (h1 : (∀ j : Int, 0 ≤ j → j < (s : Int) → m 49 j = tx c (nc q) j) → wp 74 82 [jO (some 32), jI p, jI q, jI (s : Int), l4] [] (g0 L) m Q) :
    ∀ (d : Nat) (i : Int), 0 ≤ i → i + d = (s : Int) → (∀ j : Int, 0 ≤ j → j < i → m 49 j = tx c (nc q) j) → wp 74 46 [jO (some 32), jI p, jI q, jI i, l4] [] (g0 L) m Q := by
  have hn := h.2.1
  obtain ⟨b1, b2, b3, b4, b5⟩ := hL.len
  intro d
  induction d with
  | zero =>
    intro i i1 i2 hI
    have : i = (s : Int) := by omega
    subst this
    rw [x_M_alike_46]
    simp only [x_M_alike_47, x_M_alike_48, x_M_alike_51, b3, Int.le_refl, sk_0, sk_1, sk_2, sk_3, sk_4, sk_5, sk_6, sk_7, sk_8, sk_9, sk_10, sk_11, sk_12, sk_13, sk_14, sk_15, sk_16, sk_17, sk_18, sk_19, sk_20, sk_21, sk_22, sk_23, sk_24, sk_25, sk_26, sk_27, sk_28, sk_29, sk_30, sk_31, sk_32, sk_33, sk_34, sk_35, sk_36, sk_37, sk_38, sk_39, sk_40, sk_41, sk_42, sk_43, sk_44, sk_45, sk_46, sk_47, sk_48, sk_49, sk_50, sk_51, sk_52, sk_53, sn_0, sn_1, sn_2, sn_3, sn_4, sn_5, sn_6, sn_7, sn_8, sn_9, sn_10, sn_11, sn_12, sn_13, sn_14, sn_15, sn_16, sn_17, sn_18, sn_19, sn_20, sn_21, sn_22, sn_23, sn_24, sn_25, sn_26, sn_27, sn_28, sn_29, sn_30, sn_31, sn_32, sn_33, sn_34, sn_35, sn_36, sn_37, sn_38, sn_39, sn_40, sn_41, sn_42, sn_43, sn_44, sn_45, sn_46, sn_47, sn_48, sn_49, sn_50, sn_51, sn_52, sn_53, rf_2_1, rf_2_2, rf_2_3, rf_2_4, rf_1_0, rf_1_1, rf_8_0, rf_7_0, rf_10_0, rf_7_1, rf_12_0, rf_7_2, rf_14_0, rf_7_3, rf_16_1, rf_16_2, rf_16_3, rf_16_4, rf_16_5, rf_16_6, rf_16_7, rf_1_2, rf_24_1, rf_24_2, rf_24_3, rf_24_4, rf_24_5, rf_24_6, rf_24_7, rf_1_3, rf_32_2, rf_32_3, rf_32_4, rf_32_5, rf_32_6, rf_32_7, rf_32_8, rf_32_9, rf_32_10, rf_32_12, rf_32_14, rf_32_15, rf_32_16, rf_32_18, rf_32_19, rf_32_21, rf_32_25, rf_32_26, rf_32_27, rf_32_28, rf_32_30, true_and, and_true, true_or, or_true, or_false, false_or, false_and, and_false, not_true, not_false_iff, ne_eq, and_self, eq_self, if_true, if_false, ite_true, ite_false, Nat.reduceLeDiff, Int.cast_ofNat_Int, Int.reduceLT, Int.reduceLE, Int.reduceEq, Int.reduceNeg, reduceCtorEq, jup_ap, Nat.reduceEqDiff, Nat.reduceAdd]
    exact h1 hI
  | succ d ih =>
    intro i i1 i2 hI
    have hle : ¬ (s : Int) ≤ i := by omega
    have ha := hL.at h hM (i := i) (by omega)
    have hb : 0 ≤ i ∧ i < 251 := by omega
    have hb2 : 0 ≤ m 46 i ∧ m 46 i < 251 := by omega
    have et : m 36 (m 46 i) = tx c (nc q) i := ha.2.1 0
    rw [x_M_alike_46]
    simp only [x_M_alike_47, x_M_alike_48, x_M_alike_51, x_M_alike_54, x_M_alike_55, x_M_alike_58, x_M_alike_59, x_M_alike_60, x_M_alike_61, x_M_alike_64, x_M_alike_65, x_M_alike_68, x_M_alike_69, x_M_alike_70, x_M_alike_71, x_M_alike_74, x_M_alike_75, x_M_alike_76, x_M_alike_79, b3, hle, hb, hb2, et, show jwr (i + 1) = i + 1 from jw1 (by omega) (by omega), sk_0, sk_1, sk_2, sk_3, sk_4, sk_5, sk_6, sk_7, sk_8, sk_9, sk_10, sk_11, sk_12, sk_13, sk_14, sk_15, sk_16, sk_17, sk_18, sk_19, sk_20, sk_21, sk_22, sk_23, sk_24, sk_25, sk_26, sk_27, sk_28, sk_29, sk_30, sk_31, sk_32, sk_33, sk_34, sk_35, sk_36, sk_37, sk_38, sk_39, sk_40, sk_41, sk_42, sk_43, sk_44, sk_45, sk_46, sk_47, sk_48, sk_49, sk_50, sk_51, sk_52, sk_53, sn_0, sn_1, sn_2, sn_3, sn_4, sn_5, sn_6, sn_7, sn_8, sn_9, sn_10, sn_11, sn_12, sn_13, sn_14, sn_15, sn_16, sn_17, sn_18, sn_19, sn_20, sn_21, sn_22, sn_23, sn_24, sn_25, sn_26, sn_27, sn_28, sn_29, sn_30, sn_31, sn_32, sn_33, sn_34, sn_35, sn_36, sn_37, sn_38, sn_39, sn_40, sn_41, sn_42, sn_43, sn_44, sn_45, sn_46, sn_47, sn_48, sn_49, sn_50, sn_51, sn_52, sn_53, rf_2_1, rf_2_2, rf_2_3, rf_2_4, rf_1_0, rf_1_1, rf_8_0, rf_7_0, rf_10_0, rf_7_1, rf_12_0, rf_7_2, rf_14_0, rf_7_3, rf_16_1, rf_16_2, rf_16_3, rf_16_4, rf_16_5, rf_16_6, rf_16_7, rf_1_2, rf_24_1, rf_24_2, rf_24_3, rf_24_4, rf_24_5, rf_24_6, rf_24_7, rf_1_3, rf_32_2, rf_32_3, rf_32_4, rf_32_5, rf_32_6, rf_32_7, rf_32_8, rf_32_9, rf_32_10, rf_32_12, rf_32_14, rf_32_15, rf_32_16, rf_32_18, rf_32_19, rf_32_21, rf_32_25, rf_32_26, rf_32_27, rf_32_28, rf_32_30, true_and, and_true, true_or, or_true, or_false, false_or, false_and, and_false, not_true, not_false_iff, ne_eq, and_self, eq_self, if_true, if_false, ite_true, ite_false, Nat.reduceLeDiff, Int.cast_ofNat_Int, Int.reduceLT, Int.reduceLE, Int.reduceEq, Int.reduceNeg, reduceCtorEq, jup_ap, Nat.reduceEqDiff, Nat.reduceAdd]
    by_cases e : m 49 i = tx c (nc q) i
    · rw [if_pos e]
      refine ih (i + 1) (by omega) (by omega) (fun j j1 j2 => ?_)
      by_cases z : j = i
      · rw [z]; exact e
      · exact hI j j1 (by omega)
    · rw [if_neg e]
      exact h0 (fun w => e (w i i1 (by omega)))
theorem wl_M_a1 {m : jM} (L : Nat) (p q : Int) (l4 : jV) {s : Nat} (hs : s ≤ 250) (b3 : m 32 17 = (s : Int)) (Q : jV → jG → jM → Prop)
    (h0 : ¬ (∀ j : Int, 0 ≤ j → j < 4 * (s : Int) → m 50 j = m 47 j) → Q (jI 0) (g0 L) m) (h1 : (∀ j : Int, 0 ≤ j → j < 4 * (s : Int) → m 50 j = m 47 j) → wp 74 117 [jO (some 32), jI p, jI q, jI (4 * (s : Int)), l4] [] (g0 L) m Q) :
    ∀ (d : Nat) (i : Int), 0 ≤ i → i + d = 4 * (s : Int) → (∀ j : Int, 0 ≤ j → j < i → m 50 j = m 47 j) → wp 74 84 [jO (some 32), jI p, jI q, jI i, l4] [] (g0 L) m Q := by
  intro d
  induction d with
  | zero =>
    intro i i1 i2 hI
    have : i = 4 * (s : Int) := by omega
    subst this
    rw [x_M_alike_84]
    simp only [x_M_alike_85, x_M_alike_86, x_M_alike_87, x_M_alike_90, x_M_alike_91, b3, show jwr (4 * (s : Int)) = 4 * (s : Int) from jw1 (by omega) (by omega), Int.le_refl, sk_0, sk_1, sk_2, sk_3, sk_4, sk_5, sk_6, sk_7, sk_8, sk_9, sk_10, sk_11, sk_12, sk_13, sk_14, sk_15, sk_16, sk_17, sk_18, sk_19, sk_20, sk_21, sk_22, sk_23, sk_24, sk_25, sk_26, sk_27, sk_28, sk_29, sk_30, sk_31, sk_32, sk_33, sk_34, sk_35, sk_36, sk_37, sk_38, sk_39, sk_40, sk_41, sk_42, sk_43, sk_44, sk_45, sk_46, sk_47, sk_48, sk_49, sk_50, sk_51, sk_52, sk_53, sn_0, sn_1, sn_2, sn_3, sn_4, sn_5, sn_6, sn_7, sn_8, sn_9, sn_10, sn_11, sn_12, sn_13, sn_14, sn_15, sn_16, sn_17, sn_18, sn_19, sn_20, sn_21, sn_22, sn_23, sn_24, sn_25, sn_26, sn_27, sn_28, sn_29, sn_30, sn_31, sn_32, sn_33, sn_34, sn_35, sn_36, sn_37, sn_38, sn_39, sn_40, sn_41, sn_42, sn_43, sn_44, sn_45, sn_46, sn_47, sn_48, sn_49, sn_50, sn_51, sn_52, sn_53, rf_2_1, rf_2_2, rf_2_3, rf_2_4, rf_1_0, rf_1_1, rf_8_0, rf_7_0, rf_10_0, rf_7_1, rf_12_0, rf_7_2, rf_14_0, rf_7_3, rf_16_1, rf_16_2, rf_16_3, rf_16_4, rf_16_5, rf_16_6, rf_16_7, rf_1_2, rf_24_1, rf_24_2, rf_24_3, rf_24_4, rf_24_5, rf_24_6, rf_24_7, rf_1_3, rf_32_2, rf_32_3, rf_32_4, rf_32_5, rf_32_6, rf_32_7, rf_32_8, rf_32_9, rf_32_10, rf_32_12, rf_32_14, rf_32_15, rf_32_16, rf_32_18, rf_32_19, rf_32_21, rf_32_25, rf_32_26, rf_32_27, rf_32_28, rf_32_30, true_and, and_true, true_or, or_true, or_false, false_or, false_and, and_false, not_true, not_false_iff, ne_eq, and_self, eq_self, if_true, if_false, ite_true, ite_false, Nat.reduceLeDiff, Int.cast_ofNat_Int, Int.reduceLT, Int.reduceLE, Int.reduceEq, Int.reduceNeg, reduceCtorEq, jup_ap, Nat.reduceEqDiff, Nat.reduceAdd]
    exact h1 hI
  | succ d ih =>
    intro i i1 i2 hI
    have hle : ¬ 4 * (s : Int) ≤ i := by omega
    have hb : 0 ≤ i ∧ i < 1004 := by omega
    rw [x_M_alike_84]
    simp only [x_M_alike_85, x_M_alike_86, x_M_alike_87, x_M_alike_90, x_M_alike_91, x_M_alike_94, x_M_alike_95, x_M_alike_98, x_M_alike_99, x_M_alike_100, x_M_alike_101, x_M_alike_104, x_M_alike_105, x_M_alike_106, x_M_alike_109, x_M_alike_110, x_M_alike_111, x_M_alike_114, b3, hle, hb, show jwr (4 * (s : Int)) = 4 * (s : Int) from jw1 (by omega) (by omega), show jwr (i + 1) = i + 1 from jw1 (by omega) (by omega), sk_0, sk_1, sk_2, sk_3, sk_4, sk_5, sk_6, sk_7, sk_8, sk_9, sk_10, sk_11, sk_12, sk_13, sk_14, sk_15, sk_16, sk_17, sk_18, sk_19, sk_20, sk_21, sk_22, sk_23, sk_24, sk_25, sk_26, sk_27, sk_28, sk_29, sk_30, sk_31, sk_32, sk_33, sk_34, sk_35, sk_36, sk_37, sk_38, sk_39, sk_40, sk_41, sk_42, sk_43, sk_44, sk_45, sk_46, sk_47, sk_48, sk_49, sk_50, sk_51, sk_52, sk_53, sn_0, sn_1, sn_2, sn_3, sn_4, sn_5, sn_6, sn_7, sn_8, sn_9, sn_10, sn_11, sn_12, sn_13, sn_14, sn_15, sn_16, sn_17, sn_18, sn_19, sn_20, sn_21, sn_22, sn_23, sn_24, sn_25, sn_26, sn_27, sn_28, sn_29, sn_30, sn_31, sn_32, sn_33, sn_34, sn_35, sn_36, sn_37, sn_38, sn_39, sn_40, sn_41, sn_42, sn_43, sn_44, sn_45, sn_46, sn_47, sn_48, sn_49, sn_50, sn_51, sn_52, sn_53, rf_2_1, rf_2_2, rf_2_3, rf_2_4, rf_1_0, rf_1_1, rf_8_0, rf_7_0, rf_10_0, rf_7_1, rf_12_0, rf_7_2, rf_14_0, rf_7_3, rf_16_1, rf_16_2, rf_16_3, rf_16_4, rf_16_5, rf_16_6, rf_16_7, rf_1_2, rf_24_1, rf_24_2, rf_24_3, rf_24_4, rf_24_5, rf_24_6, rf_24_7, rf_1_3, rf_32_2, rf_32_3, rf_32_4, rf_32_5, rf_32_6, rf_32_7, rf_32_8, rf_32_9, rf_32_10, rf_32_12, rf_32_14, rf_32_15, rf_32_16, rf_32_18, rf_32_19, rf_32_21, rf_32_25, rf_32_26, rf_32_27, rf_32_28, rf_32_30, true_and, and_true, true_or, or_true, or_false, false_or, false_and, and_false, not_true, not_false_iff, ne_eq, and_self, eq_self, if_true, if_false, ite_true, ite_false, Nat.reduceLeDiff, Int.cast_ofNat_Int, Int.reduceLT, Int.reduceLE, Int.reduceEq, Int.reduceNeg, reduceCtorEq, jup_ap, Nat.reduceEqDiff, Nat.reduceAdd]
    by_cases e : m 50 i = m 47 i
    · rw [if_pos e]
      refine ih (i + 1) (by omega) (by omega) (fun j j1 j2 => ?_)
      by_cases z : j = i
      · rw [z]; exact e
      · exact hI j j1 (by omega)
    · rw [if_neg e]
      exact h0 (fun w => e (w i i1 (by omega)))
theorem wl_M_a2 {c m : jM} {n : Nat} {p q : Int} {N s : Nat} (h : CI c n) (hM : MB c m n) (hq : 0 ≤ q ∧ q < 4) (hL : LkP c m n q N s) (L : Nat) (Q : jV → jG → jM → Prop)
    (h0 : ¬ (∀ r : Int, 1 ≤ r → r ≤ n → m 51 r = kcF c (nc q) r ∧ m 52 r = kcT c (nc q) r) → Q (jI 0) (g0 L) m)
    (h1 : (∀ r : Int, 1 ≤ r → r ≤ n → m 51 r = kcF c (nc q) r ∧ m 52 r = kcT c (nc q) r) → ∀ l4, wp 74 209 [jO (some 32), jI p, jI q, jI ((n : Int) + 1), l4] [] (g0 L) m Q) :
    ∀ (d : Nat) (i : Int) (l4 : jV), 1 ≤ i → i + d = (n : Int) + 1 → (∀ r : Int, 1 ≤ r → r < i → m 51 r = kcF c (nc q) r ∧ m 52 r = kcT c (nc q) r) → wp 74 119 [jO (some 32), jI p, jI q, jI i, l4] [] (g0 L) m Q := by
  have hn := h.2.1
  have e0 := hM.1
  intro d
  induction d with
  | zero =>
    intro i l4 i1 i2 hI
    have : i = (n : Int) + 1 := by omega
    subst this
    have hlt : (n : Int) < (n : Int) + 1 := by omega
    rw [x_M_alike_119]
    simp only [x_M_alike_120, x_M_alike_121, x_M_alike_124, e0, hlt, sk_0, sk_1, sk_2, sk_3, sk_4, sk_5, sk_6, sk_7, sk_8, sk_9, sk_10, sk_11, sk_12, sk_13, sk_14, sk_15, sk_16, sk_17, sk_18, sk_19, sk_20, sk_21, sk_22, sk_23, sk_24, sk_25, sk_26, sk_27, sk_28, sk_29, sk_30, sk_31, sk_32, sk_33, sk_34, sk_35, sk_36, sk_37, sk_38, sk_39, sk_40, sk_41, sk_42, sk_43, sk_44, sk_45, sk_46, sk_47, sk_48, sk_49, sk_50, sk_51, sk_52, sk_53, sn_0, sn_1, sn_2, sn_3, sn_4, sn_5, sn_6, sn_7, sn_8, sn_9, sn_10, sn_11, sn_12, sn_13, sn_14, sn_15, sn_16, sn_17, sn_18, sn_19, sn_20, sn_21, sn_22, sn_23, sn_24, sn_25, sn_26, sn_27, sn_28, sn_29, sn_30, sn_31, sn_32, sn_33, sn_34, sn_35, sn_36, sn_37, sn_38, sn_39, sn_40, sn_41, sn_42, sn_43, sn_44, sn_45, sn_46, sn_47, sn_48, sn_49, sn_50, sn_51, sn_52, sn_53, rf_2_1, rf_2_2, rf_2_3, rf_2_4, rf_1_0, rf_1_1, rf_8_0, rf_7_0, rf_10_0, rf_7_1, rf_12_0, rf_7_2, rf_14_0, rf_7_3, rf_16_1, rf_16_2, rf_16_3, rf_16_4, rf_16_5, rf_16_6, rf_16_7, rf_1_2, rf_24_1, rf_24_2, rf_24_3, rf_24_4, rf_24_5, rf_24_6, rf_24_7, rf_1_3, rf_32_2, rf_32_3, rf_32_4, rf_32_5, rf_32_6, rf_32_7, rf_32_8, rf_32_9, rf_32_10, rf_32_12, rf_32_14, rf_32_15, rf_32_16, rf_32_18, rf_32_19, rf_32_21, rf_32_25, rf_32_26, rf_32_27, rf_32_28, rf_32_30, true_and, and_true, true_or, or_true, or_false, false_or, false_and, and_false, not_true, not_false_iff, ne_eq, and_self, eq_self, if_true, if_false, ite_true, ite_false, Nat.reduceLeDiff, Int.cast_ofNat_Int, Int.reduceLT, Int.reduceLE, Int.reduceEq, Int.reduceNeg, reduceCtorEq, jup_ap, Nat.reduceEqDiff, Nat.reduceAdd]
    exact h1 (fun r r1 r2 => hI r r1 (by omega)) l4
  | succ d ih =>
    intro i l4 i1 i2 hI
    have hlt : ¬ (n : Int) < i := by omega
    have hb : 0 ≤ i ∧ i < 251 := by omega
    have hrow := hM.2.1 i i1 (by omega)
    have eg := hL.1.1 i i1 (by omega)
    have fin : ∀ l4, (if m 51 i ≠ kcF c (nc q) i then Q (jI 0) (g0 L) m else if m 52 i = kcT c (nc q) i then wp 74 119 [jO (some 32), jI p, jI q, jI (i + 1), l4] [] (g0 L) m Q else Q (jI 0) (g0 L) m) := fun l4 => by
      by_cases e1 : m 51 i = kcF c (nc q) i
      · rw [if_neg (fun w => w e1)]
        by_cases e2 : m 52 i = kcT c (nc q) i
        · rw [if_pos e2]
          refine ih (i + 1) l4 (by omega) (by omega) (fun r r1 r2 => ?_)
          by_cases z : r = i
          · rw [z]; exact ⟨e1, e2⟩
          · exact hI r r1 (by omega)
        · rw [if_neg e2]
          exact h0 (fun w => e2 (w i i1 (by omega)).2)
      · rw [if_pos e1]
        exact h0 (fun w => e1 (w i i1 (by omega)).1)
    rw [x_M_alike_119]
    simp only [x_M_alike_120, x_M_alike_121, x_M_alike_124, x_M_alike_127, x_M_alike_128, x_M_alike_131, x_M_alike_132, x_M_alike_133, x_M_alike_134, x_M_alike_137, x_M_alike_138, x_M_alike_141, x_M_alike_142, x_M_alike_143, x_M_alike_146, x_M_alike_147, x_M_alike_150, x_M_alike_151, e0, hlt, hb, hrow.1, eg, b2i_0, sk_0, sk_1, sk_2, sk_3, sk_4, sk_5, sk_6, sk_7, sk_8, sk_9, sk_10, sk_11, sk_12, sk_13, sk_14, sk_15, sk_16, sk_17, sk_18, sk_19, sk_20, sk_21, sk_22, sk_23, sk_24, sk_25, sk_26, sk_27, sk_28, sk_29, sk_30, sk_31, sk_32, sk_33, sk_34, sk_35, sk_36, sk_37, sk_38, sk_39, sk_40, sk_41, sk_42, sk_43, sk_44, sk_45, sk_46, sk_47, sk_48, sk_49, sk_50, sk_51, sk_52, sk_53, sn_0, sn_1, sn_2, sn_3, sn_4, sn_5, sn_6, sn_7, sn_8, sn_9, sn_10, sn_11, sn_12, sn_13, sn_14, sn_15, sn_16, sn_17, sn_18, sn_19, sn_20, sn_21, sn_22, sn_23, sn_24, sn_25, sn_26, sn_27, sn_28, sn_29, sn_30, sn_31, sn_32, sn_33, sn_34, sn_35, sn_36, sn_37, sn_38, sn_39, sn_40, sn_41, sn_42, sn_43, sn_44, sn_45, sn_46, sn_47, sn_48, sn_49, sn_50, sn_51, sn_52, sn_53, rf_2_1, rf_2_2, rf_2_3, rf_2_4, rf_1_0, rf_1_1, rf_8_0, rf_7_0, rf_10_0, rf_7_1, rf_12_0, rf_7_2, rf_14_0, rf_7_3, rf_16_1, rf_16_2, rf_16_3, rf_16_4, rf_16_5, rf_16_6, rf_16_7, rf_1_2, rf_24_1, rf_24_2, rf_24_3, rf_24_4, rf_24_5, rf_24_6, rf_24_7, rf_1_3, rf_32_2, rf_32_3, rf_32_4, rf_32_5, rf_32_6, rf_32_7, rf_32_8, rf_32_9, rf_32_10, rf_32_12, rf_32_14, rf_32_15, rf_32_16, rf_32_18, rf_32_19, rf_32_21, rf_32_25, rf_32_26, rf_32_27, rf_32_28, rf_32_30, true_and, and_true, true_or, or_true, or_false, false_or, false_and, and_false, not_true, not_false_iff, ne_eq, and_self, eq_self, if_true, if_false, ite_true, ite_false, Nat.reduceLeDiff, Int.cast_ofNat_Int, Int.reduceLT, Int.reduceLE, Int.reduceEq, Int.reduceNeg, reduceCtorEq, jup_ap, Nat.reduceEqDiff, Nat.reduceAdd]
    have no : ¬ (cellV c i 0 = 3 ∧ gd c (nc q) i = true) → wp 74 153 [jO (some 32), jI p, jI q, jI i, jI 0] [] (g0 L) m Q := fun hno => by
      have g := fin (jI 0)
      unfold kcF kcT at g
      rw [if_neg hno, if_neg hno] at g
      simp only [x_M_alike_0, x_M_alike_1, x_M_alike_2, x_M_alike_5, x_M_alike_6, x_M_alike_9, x_M_alike_12, x_M_alike_13, x_M_alike_16, x_M_alike_19, x_M_alike_20, x_M_alike_21, x_M_alike_22, x_M_alike_23, x_M_alike_26, x_M_alike_27, x_M_alike_28, x_M_alike_31, x_M_alike_32, x_M_alike_35, x_M_alike_36, x_M_alike_39, x_M_alike_42, x_M_alike_43, x_M_alike_44, x_M_alike_45, x_M_alike_47, x_M_alike_48, x_M_alike_51, x_M_alike_54, x_M_alike_55, x_M_alike_58, x_M_alike_59, x_M_alike_60, x_M_alike_61, x_M_alike_64, x_M_alike_65, x_M_alike_68, x_M_alike_69, x_M_alike_70, x_M_alike_71, x_M_alike_74, x_M_alike_75, x_M_alike_76, x_M_alike_79, x_M_alike_82, x_M_alike_83, x_M_alike_85, x_M_alike_86, x_M_alike_87, x_M_alike_90, x_M_alike_91, x_M_alike_94, x_M_alike_95, x_M_alike_98, x_M_alike_99, x_M_alike_100, x_M_alike_101, x_M_alike_104, x_M_alike_105, x_M_alike_106, x_M_alike_109, x_M_alike_110, x_M_alike_111, x_M_alike_114, x_M_alike_117, x_M_alike_118, x_M_alike_120, x_M_alike_121, x_M_alike_124, x_M_alike_127, x_M_alike_128, x_M_alike_131, x_M_alike_132, x_M_alike_133, x_M_alike_134, x_M_alike_137, x_M_alike_138, x_M_alike_141, x_M_alike_142, x_M_alike_143, x_M_alike_146, x_M_alike_147, x_M_alike_150, x_M_alike_151, x_M_alike_153, x_M_alike_154, x_M_alike_157, x_M_alike_158, x_M_alike_159, x_M_alike_161, x_M_alike_164, x_M_alike_165, x_M_alike_166, x_M_alike_167, x_M_alike_170, x_M_alike_173, x_M_alike_174, x_M_alike_177, x_M_alike_178, x_M_alike_181, x_M_alike_182, x_M_alike_183, x_M_alike_185, x_M_alike_188, x_M_alike_189, x_M_alike_190, x_M_alike_191, x_M_alike_194, x_M_alike_197, x_M_alike_198, x_M_alike_201, x_M_alike_202, x_M_alike_203, x_M_alike_206, x_M_alike_209, x_M_alike_210, x_M_alike_212, x_M_alike_213, x_M_alike_216, x_M_alike_219, x_M_alike_220, x_M_alike_223, x_M_alike_224, x_M_alike_225, x_M_alike_226, x_M_alike_227, x_M_alike_228, x_M_alike_231, x_M_alike_234, x_M_alike_235, x_M_alike_236, x_M_alike_239, x_M_alike_242, x_M_alike_243, hb, show jwr (i + 1) = i + 1 from jw1 (by omega) (by omega), sk_0, sk_1, sk_2, sk_3, sk_4, sk_5, sk_6, sk_7, sk_8, sk_9, sk_10, sk_11, sk_12, sk_13, sk_14, sk_15, sk_16, sk_17, sk_18, sk_19, sk_20, sk_21, sk_22, sk_23, sk_24, sk_25, sk_26, sk_27, sk_28, sk_29, sk_30, sk_31, sk_32, sk_33, sk_34, sk_35, sk_36, sk_37, sk_38, sk_39, sk_40, sk_41, sk_42, sk_43, sk_44, sk_45, sk_46, sk_47, sk_48, sk_49, sk_50, sk_51, sk_52, sk_53, sn_0, sn_1, sn_2, sn_3, sn_4, sn_5, sn_6, sn_7, sn_8, sn_9, sn_10, sn_11, sn_12, sn_13, sn_14, sn_15, sn_16, sn_17, sn_18, sn_19, sn_20, sn_21, sn_22, sn_23, sn_24, sn_25, sn_26, sn_27, sn_28, sn_29, sn_30, sn_31, sn_32, sn_33, sn_34, sn_35, sn_36, sn_37, sn_38, sn_39, sn_40, sn_41, sn_42, sn_43, sn_44, sn_45, sn_46, sn_47, sn_48, sn_49, sn_50, sn_51, sn_52, sn_53, rf_2_1, rf_2_2, rf_2_3, rf_2_4, rf_1_0, rf_1_1, rf_8_0, rf_7_0, rf_10_0, rf_7_1, rf_12_0, rf_7_2, rf_14_0, rf_7_3, rf_16_1, rf_16_2, rf_16_3, rf_16_4, rf_16_5, rf_16_6, rf_16_7, rf_1_2, rf_24_1, rf_24_2, rf_24_3, rf_24_4, rf_24_5, rf_24_6, rf_24_7, rf_1_3, rf_32_2, rf_32_3, rf_32_4, rf_32_5, rf_32_6, rf_32_7, rf_32_8, rf_32_9, rf_32_10, rf_32_12, rf_32_14, rf_32_15, rf_32_16, rf_32_18, rf_32_19, rf_32_21, rf_32_25, rf_32_26, rf_32_27, rf_32_28, rf_32_30, true_and, and_true, true_or, or_true, or_false, false_or, false_and, and_false, not_true, not_false_iff, ne_eq, and_self, eq_self, if_true, if_false, ite_true, ite_false, Nat.reduceLeDiff, Int.cast_ofNat_Int, Int.reduceLT, Int.reduceLE, Int.reduceEq, Int.reduceNeg, reduceCtorEq, jup_ap, Nat.reduceEqDiff, Nat.reduceAdd]
      simp only [ne_eq] at g
      exact g
    by_cases h3 : cellV c i 0 = 3
    · rw [if_neg (fun q => q h3)]
      cases hg : gd c (nc q) i
      · simp only [true_and, and_true, true_or, or_true, or_false, false_or, false_and, and_false, not_true, not_false_iff, ne_eq, and_self, eq_self, if_true, if_false, ite_true, ite_false, Nat.reduceLeDiff, Int.cast_ofNat_Int, Int.reduceLT, Int.reduceLE, Int.reduceEq, Int.reduceNeg, reduceCtorEq, jup_ap, Nat.reduceEqDiff, Nat.reduceAdd]
        exact no (fun w => by rw [hg] at w; cases w.2)
      · simp only [true_and, and_true, true_or, or_true, or_false, false_or, false_and, and_false, not_true, not_false_iff, ne_eq, and_self, eq_self, if_true, if_false, ite_true, ite_false, Nat.reduceLeDiff, Int.cast_ofNat_Int, Int.reduceLT, Int.reduceLE, Int.reduceEq, Int.reduceNeg, reduceCtorEq, jup_ap, Nat.reduceEqDiff, Nat.reduceAdd, Bool.true_eq_false]
        have g := fin (jI 1)
        rw [show kcF c (nc q) i = lyF c (nc q) i from if_pos ⟨h3, hg⟩, show kcT c (nc q) i = lyT c (nc q) i from if_pos ⟨h3, hg⟩] at g
        simp only [x_M_alike_0, x_M_alike_1, x_M_alike_2, x_M_alike_5, x_M_alike_6, x_M_alike_9, x_M_alike_12, x_M_alike_13, x_M_alike_16, x_M_alike_19, x_M_alike_20, x_M_alike_21, x_M_alike_22, x_M_alike_23, x_M_alike_26, x_M_alike_27, x_M_alike_28, x_M_alike_31, x_M_alike_32, x_M_alike_35, x_M_alike_36, x_M_alike_39, x_M_alike_42, x_M_alike_43, x_M_alike_44, x_M_alike_45, x_M_alike_47, x_M_alike_48, x_M_alike_51, x_M_alike_54, x_M_alike_55, x_M_alike_58, x_M_alike_59, x_M_alike_60, x_M_alike_61, x_M_alike_64, x_M_alike_65, x_M_alike_68, x_M_alike_69, x_M_alike_70, x_M_alike_71, x_M_alike_74, x_M_alike_75, x_M_alike_76, x_M_alike_79, x_M_alike_82, x_M_alike_83, x_M_alike_85, x_M_alike_86, x_M_alike_87, x_M_alike_90, x_M_alike_91, x_M_alike_94, x_M_alike_95, x_M_alike_98, x_M_alike_99, x_M_alike_100, x_M_alike_101, x_M_alike_104, x_M_alike_105, x_M_alike_106, x_M_alike_109, x_M_alike_110, x_M_alike_111, x_M_alike_114, x_M_alike_117, x_M_alike_118, x_M_alike_120, x_M_alike_121, x_M_alike_124, x_M_alike_127, x_M_alike_128, x_M_alike_131, x_M_alike_132, x_M_alike_133, x_M_alike_134, x_M_alike_137, x_M_alike_138, x_M_alike_141, x_M_alike_142, x_M_alike_143, x_M_alike_146, x_M_alike_147, x_M_alike_150, x_M_alike_151, x_M_alike_153, x_M_alike_154, x_M_alike_157, x_M_alike_158, x_M_alike_159, x_M_alike_161, x_M_alike_164, x_M_alike_165, x_M_alike_166, x_M_alike_167, x_M_alike_170, x_M_alike_173, x_M_alike_174, x_M_alike_177, x_M_alike_178, x_M_alike_181, x_M_alike_182, x_M_alike_183, x_M_alike_185, x_M_alike_188, x_M_alike_189, x_M_alike_190, x_M_alike_191, x_M_alike_194, x_M_alike_197, x_M_alike_198, x_M_alike_201, x_M_alike_202, x_M_alike_203, x_M_alike_206, x_M_alike_209, x_M_alike_210, x_M_alike_212, x_M_alike_213, x_M_alike_216, x_M_alike_219, x_M_alike_220, x_M_alike_223, x_M_alike_224, x_M_alike_225, x_M_alike_226, x_M_alike_227, x_M_alike_228, x_M_alike_231, x_M_alike_234, x_M_alike_235, x_M_alike_236, x_M_alike_239, x_M_alike_242, x_M_alike_243, hb, w_M_lying h hM hq hL.1 L h3 hg, Int.one_ne_zero, show jwr (i + 1) = i + 1 from jw1 (by omega) (by omega), sk_0, sk_1, sk_2, sk_3, sk_4, sk_5, sk_6, sk_7, sk_8, sk_9, sk_10, sk_11, sk_12, sk_13, sk_14, sk_15, sk_16, sk_17, sk_18, sk_19, sk_20, sk_21, sk_22, sk_23, sk_24, sk_25, sk_26, sk_27, sk_28, sk_29, sk_30, sk_31, sk_32, sk_33, sk_34, sk_35, sk_36, sk_37, sk_38, sk_39, sk_40, sk_41, sk_42, sk_43, sk_44, sk_45, sk_46, sk_47, sk_48, sk_49, sk_50, sk_51, sk_52, sk_53, sn_0, sn_1, sn_2, sn_3, sn_4, sn_5, sn_6, sn_7, sn_8, sn_9, sn_10, sn_11, sn_12, sn_13, sn_14, sn_15, sn_16, sn_17, sn_18, sn_19, sn_20, sn_21, sn_22, sn_23, sn_24, sn_25, sn_26, sn_27, sn_28, sn_29, sn_30, sn_31, sn_32, sn_33, sn_34, sn_35, sn_36, sn_37, sn_38, sn_39, sn_40, sn_41, sn_42, sn_43, sn_44, sn_45, sn_46, sn_47, sn_48, sn_49, sn_50, sn_51, sn_52, sn_53, rf_2_1, rf_2_2, rf_2_3, rf_2_4, rf_1_0, rf_1_1, rf_8_0, rf_7_0, rf_10_0, rf_7_1, rf_12_0, rf_7_2, rf_14_0, rf_7_3, rf_16_1, rf_16_2, rf_16_3, rf_16_4, rf_16_5, rf_16_6, rf_16_7, rf_1_2, rf_24_1, rf_24_2, rf_24_3, rf_24_4, rf_24_5, rf_24_6, rf_24_7, rf_1_3, rf_32_2, rf_32_3, rf_32_4, rf_32_5, rf_32_6, rf_32_7, rf_32_8, rf_32_9, rf_32_10, rf_32_12, rf_32_14, rf_32_15, rf_32_16, rf_32_18, rf_32_19, rf_32_21, rf_32_25, rf_32_26, rf_32_27, rf_32_28, rf_32_30, true_and, and_true, true_or, or_true, or_false, false_or, false_and, and_false, not_true, not_false_iff, ne_eq, and_self, eq_self, if_true, if_false, ite_true, ite_false, Nat.reduceLeDiff, Int.cast_ofNat_Int, Int.reduceLT, Int.reduceLE, Int.reduceEq, Int.reduceNeg, reduceCtorEq, jup_ap, Nat.reduceEqDiff, Nat.reduceAdd]
        simp only [ne_eq] at g
        exact g
    · rw [if_pos h3]
      exact no (fun w => h3 w.1)
theorem wl_M_a3 {c m : jM} {n : Nat} {p q : Int} {N s : Nat} (h : CI c n) (hM : MB c m n) (hL : LkP c m n q N s) (L : Nat) (h29 : m 32 29 = nPar c q) (l4 : jV) (Q : jV → jG → jM → Prop)
    (h0 : ¬ (∀ k : Int, 0 ≤ k → k < nPar c q → m 53 k = kdT c n q (psP c q k)) → Q (jI 0) (g0 L) m) (h1 : (∀ k : Int, 0 ≤ k → k < nPar c q → m 53 k = kdT c n q (psP c q k)) → Q (jI 1) (g0 L) m) :
    ∀ (d : Nat) (i : Int), 0 ≤ i → i + d = nPar c q → (∀ k : Int, 0 ≤ k → k < i → m 53 k = kdT c n q (psP c q k)) → wp 74 211 [jO (some 32), jI p, jI q, jI i, l4] [] (g0 L) m Q := by
  have hn := h.2.1
  have l := hL.len
  have hpb := nPar_bd c q
  rw [l.2.1] at hpb
  intro d
  induction d with
  | zero =>
    intro i i1 i2 hI
    have hle : nPar c q ≤ i := by omega
    rw [x_M_alike_211]
    simp only [x_M_alike_212, x_M_alike_213, x_M_alike_216, x_M_alike_242, x_M_alike_243, h29, hle, Int.one_ne_zero, sk_0, sk_1, sk_2, sk_3, sk_4, sk_5, sk_6, sk_7, sk_8, sk_9, sk_10, sk_11, sk_12, sk_13, sk_14, sk_15, sk_16, sk_17, sk_18, sk_19, sk_20, sk_21, sk_22, sk_23, sk_24, sk_25, sk_26, sk_27, sk_28, sk_29, sk_30, sk_31, sk_32, sk_33, sk_34, sk_35, sk_36, sk_37, sk_38, sk_39, sk_40, sk_41, sk_42, sk_43, sk_44, sk_45, sk_46, sk_47, sk_48, sk_49, sk_50, sk_51, sk_52, sk_53, sn_0, sn_1, sn_2, sn_3, sn_4, sn_5, sn_6, sn_7, sn_8, sn_9, sn_10, sn_11, sn_12, sn_13, sn_14, sn_15, sn_16, sn_17, sn_18, sn_19, sn_20, sn_21, sn_22, sn_23, sn_24, sn_25, sn_26, sn_27, sn_28, sn_29, sn_30, sn_31, sn_32, sn_33, sn_34, sn_35, sn_36, sn_37, sn_38, sn_39, sn_40, sn_41, sn_42, sn_43, sn_44, sn_45, sn_46, sn_47, sn_48, sn_49, sn_50, sn_51, sn_52, sn_53, rf_2_1, rf_2_2, rf_2_3, rf_2_4, rf_1_0, rf_1_1, rf_8_0, rf_7_0, rf_10_0, rf_7_1, rf_12_0, rf_7_2, rf_14_0, rf_7_3, rf_16_1, rf_16_2, rf_16_3, rf_16_4, rf_16_5, rf_16_6, rf_16_7, rf_1_2, rf_24_1, rf_24_2, rf_24_3, rf_24_4, rf_24_5, rf_24_6, rf_24_7, rf_1_3, rf_32_2, rf_32_3, rf_32_4, rf_32_5, rf_32_6, rf_32_7, rf_32_8, rf_32_9, rf_32_10, rf_32_12, rf_32_14, rf_32_15, rf_32_16, rf_32_18, rf_32_19, rf_32_21, rf_32_25, rf_32_26, rf_32_27, rf_32_28, rf_32_30, true_and, and_true, true_or, or_true, or_false, false_or, false_and, and_false, not_true, not_false_iff, ne_eq, and_self, eq_self, if_true, if_false, ite_true, ite_false, Nat.reduceLeDiff, Int.cast_ofNat_Int, Int.reduceLT, Int.reduceLE, Int.reduceEq, Int.reduceNeg, reduceCtorEq, jup_ap, Nat.reduceEqDiff, Nat.reduceAdd]
    exact h1 (fun k k1 k2 => hI k k1 (by omega))
  | succ d ih =>
    intro i i1 i2 hI
    have hle : ¬ nPar c q ≤ i := by omega
    have hb : 0 ≤ i ∧ i < 252 := by omega
    rw [x_M_alike_211]
    simp only [x_M_alike_212, x_M_alike_213, x_M_alike_216, x_M_alike_219, x_M_alike_220, x_M_alike_223, x_M_alike_224, x_M_alike_225, x_M_alike_226, x_M_alike_227, x_M_alike_228, x_M_alike_231, x_M_alike_234, x_M_alike_235, x_M_alike_236, x_M_alike_239, w_M_kindAt h hM hL L i1 (show i < nPar c q by omega), h29, hle, hb, show jwr (i + 1) = i + 1 from jw1 (by omega) (by omega), sk_0, sk_1, sk_2, sk_3, sk_4, sk_5, sk_6, sk_7, sk_8, sk_9, sk_10, sk_11, sk_12, sk_13, sk_14, sk_15, sk_16, sk_17, sk_18, sk_19, sk_20, sk_21, sk_22, sk_23, sk_24, sk_25, sk_26, sk_27, sk_28, sk_29, sk_30, sk_31, sk_32, sk_33, sk_34, sk_35, sk_36, sk_37, sk_38, sk_39, sk_40, sk_41, sk_42, sk_43, sk_44, sk_45, sk_46, sk_47, sk_48, sk_49, sk_50, sk_51, sk_52, sk_53, sn_0, sn_1, sn_2, sn_3, sn_4, sn_5, sn_6, sn_7, sn_8, sn_9, sn_10, sn_11, sn_12, sn_13, sn_14, sn_15, sn_16, sn_17, sn_18, sn_19, sn_20, sn_21, sn_22, sn_23, sn_24, sn_25, sn_26, sn_27, sn_28, sn_29, sn_30, sn_31, sn_32, sn_33, sn_34, sn_35, sn_36, sn_37, sn_38, sn_39, sn_40, sn_41, sn_42, sn_43, sn_44, sn_45, sn_46, sn_47, sn_48, sn_49, sn_50, sn_51, sn_52, sn_53, rf_2_1, rf_2_2, rf_2_3, rf_2_4, rf_1_0, rf_1_1, rf_8_0, rf_7_0, rf_10_0, rf_7_1, rf_12_0, rf_7_2, rf_14_0, rf_7_3, rf_16_1, rf_16_2, rf_16_3, rf_16_4, rf_16_5, rf_16_6, rf_16_7, rf_1_2, rf_24_1, rf_24_2, rf_24_3, rf_24_4, rf_24_5, rf_24_6, rf_24_7, rf_1_3, rf_32_2, rf_32_3, rf_32_4, rf_32_5, rf_32_6, rf_32_7, rf_32_8, rf_32_9, rf_32_10, rf_32_12, rf_32_14, rf_32_15, rf_32_16, rf_32_18, rf_32_19, rf_32_21, rf_32_25, rf_32_26, rf_32_27, rf_32_28, rf_32_30, true_and, and_true, true_or, or_true, or_false, false_or, false_and, and_false, not_true, not_false_iff, ne_eq, and_self, eq_self, if_true, if_false, ite_true, ite_false, Nat.reduceLeDiff, Int.cast_ofNat_Int, Int.reduceLT, Int.reduceLE, Int.reduceEq, Int.reduceNeg, reduceCtorEq, jup_ap, Nat.reduceEqDiff, Nat.reduceAdd]
    by_cases e : m 53 i = kdT c n q (psP c q i)
    · rw [if_pos e]
      refine ih (i + 1) (by omega) (by omega) (fun k k1 k2 => ?_)
      by_cases z : k = i
      · rw [z]; exact e
      · exact hI k k1 (by omega)
    · rw [if_neg e]
      exact h0 (fun w => e (w i i1 (by omega)))
theorem ly_nn (c : jM) (a : Nat) (r : Int) : 0 ≤ lyF c a r := by
  unfold lyF ahF
  omega
theorem kc_iff {c : jM} {a b : Nat} {r : Int} : (kcF c a r = kcF c b r ∧ kcT c a r = kcT c b r) ↔ (cellV c r 0 = 3 → smC c a b r) := by
  have n1 := ly_nn c a r
  have n2 := ly_nn c b r
  unfold kcF kcT smC
  by_cases h3 : cellV c r 0 = 3
  · cases ga : gd c a r <;> cases gb : gd c b r
    · simp [h3]
    · simp only [h3, true_and, and_true, true_or, or_true, or_false, false_or, false_and, and_false, not_true, not_false_iff, ne_eq, and_self, eq_self, if_true, if_false, ite_true, ite_false, Nat.reduceLeDiff, Int.cast_ofNat_Int, Int.reduceLT, Int.reduceLE, Int.reduceEq, Int.reduceNeg, reduceCtorEq, jup_ap, Nat.reduceEqDiff, Nat.reduceAdd, Bool.false_eq_true, Bool.true_eq_false]
      constructor
      · intro w
        omega
      · intro w
        have := w trivial
        cases this
    · simp only [h3, true_and, and_true, true_or, or_true, or_false, false_or, false_and, and_false, not_true, not_false_iff, ne_eq, and_self, eq_self, if_true, if_false, ite_true, ite_false, Nat.reduceLeDiff, Int.cast_ofNat_Int, Int.reduceLT, Int.reduceLE, Int.reduceEq, Int.reduceNeg, reduceCtorEq, jup_ap, Nat.reduceEqDiff, Nat.reduceAdd, Bool.false_eq_true, Bool.true_eq_false]
      constructor
      · intro w
        omega
      · intro w
        have := w trivial
        cases this
    · simp [h3]
  · simp [h3]
theorem w_M_alike {c m : jM} {n : Nat} (h : CI c n) (hI : MI c m n) (L : Nat) (p q : Int) (Q : jV → jG → jM → Prop) (h0 : ¬ okA c n p q → ∀ m', MK m m' → MI c m' n → Q (jI 0) (g0 L) m')
    (h1 : okA c n p q → ∀ m', MK m m' → MI c m' n → Q (jI 1) (g0 L) m') : wp 74 0 [jO (some 32), jI p, jI q, jU, jU] [] (g0 L) m Q := by
  have hn := h.2.1
  have hK0 : MK m (jup m 32 0 0) := MK.rf.upf (by decide)
  have n0 := fun q => h0 q _ hK0 hI.thr
  have hIt := hI.thr
  rw [x_M_alike_0, x_M_alike_1, x_M_alike_2]
  refine ⟨rfl, ?_⟩
  generalize jup m 32 0 0 = m0 at *
  simp only [x_M_alike_5, x_M_alike_6, x_M_alike_9, x_M_alike_12, x_M_alike_13, x_M_alike_16, x_M_alike_19, x_M_alike_20, x_M_alike_21, x_M_alike_22, x_M_alike_23, w_M_isNode, b01_0, sk_0, sk_1, sk_2, sk_3, sk_4, sk_5, sk_6, sk_7, sk_8, sk_9, sk_10, sk_11, sk_12, sk_13, sk_14, sk_15, sk_16, sk_17, sk_18, sk_19, sk_20, sk_21, sk_22, sk_23, sk_24, sk_25, sk_26, sk_27, sk_28, sk_29, sk_30, sk_31, sk_32, sk_33, sk_34, sk_35, sk_36, sk_37, sk_38, sk_39, sk_40, sk_41, sk_42, sk_43, sk_44, sk_45, sk_46, sk_47, sk_48, sk_49, sk_50, sk_51, sk_52, sk_53, sn_0, sn_1, sn_2, sn_3, sn_4, sn_5, sn_6, sn_7, sn_8, sn_9, sn_10, sn_11, sn_12, sn_13, sn_14, sn_15, sn_16, sn_17, sn_18, sn_19, sn_20, sn_21, sn_22, sn_23, sn_24, sn_25, sn_26, sn_27, sn_28, sn_29, sn_30, sn_31, sn_32, sn_33, sn_34, sn_35, sn_36, sn_37, sn_38, sn_39, sn_40, sn_41, sn_42, sn_43, sn_44, sn_45, sn_46, sn_47, sn_48, sn_49, sn_50, sn_51, sn_52, sn_53, rf_2_1, rf_2_2, rf_2_3, rf_2_4, rf_1_0, rf_1_1, rf_8_0, rf_7_0, rf_10_0, rf_7_1, rf_12_0, rf_7_2, rf_14_0, rf_7_3, rf_16_1, rf_16_2, rf_16_3, rf_16_4, rf_16_5, rf_16_6, rf_16_7, rf_1_2, rf_24_1, rf_24_2, rf_24_3, rf_24_4, rf_24_5, rf_24_6, rf_24_7, rf_1_3, rf_32_2, rf_32_3, rf_32_4, rf_32_5, rf_32_6, rf_32_7, rf_32_8, rf_32_9, rf_32_10, rf_32_12, rf_32_14, rf_32_15, rf_32_16, rf_32_18, rf_32_19, rf_32_21, rf_32_25, rf_32_26, rf_32_27, rf_32_28, rf_32_30, true_and, and_true, true_or, or_true, or_false, false_or, false_and, and_false, not_true, not_false_iff, ne_eq, and_self, eq_self, if_true, if_false, ite_true, ite_false, Nat.reduceLeDiff, Int.cast_ofNat_Int, Int.reduceLT, Int.reduceLE, Int.reduceEq, Int.reduceNeg, reduceCtorEq, jup_ap, Nat.reduceEqDiff, Nat.reduceAdd]
  by_cases hp : 0 ≤ p ∧ p < 4
  · rw [if_neg (fun q => q hp)]
    by_cases hq : 0 ≤ q ∧ q < 4
    · rw [if_pos (fun w => w hq)]
      refine w_M_keep h hIt L hp _ (fun m1 hK1 hI1 hP1 => ?_)
      simp only [x_M_alike_26, x_M_alike_27, x_M_alike_28, sk_0, sk_1, sk_2, sk_3, sk_4, sk_5, sk_6, sk_7, sk_8, sk_9, sk_10, sk_11, sk_12, sk_13, sk_14, sk_15, sk_16, sk_17, sk_18, sk_19, sk_20, sk_21, sk_22, sk_23, sk_24, sk_25, sk_26, sk_27, sk_28, sk_29, sk_30, sk_31, sk_32, sk_33, sk_34, sk_35, sk_36, sk_37, sk_38, sk_39, sk_40, sk_41, sk_42, sk_43, sk_44, sk_45, sk_46, sk_47, sk_48, sk_49, sk_50, sk_51, sk_52, sk_53, sn_0, sn_1, sn_2, sn_3, sn_4, sn_5, sn_6, sn_7, sn_8, sn_9, sn_10, sn_11, sn_12, sn_13, sn_14, sn_15, sn_16, sn_17, sn_18, sn_19, sn_20, sn_21, sn_22, sn_23, sn_24, sn_25, sn_26, sn_27, sn_28, sn_29, sn_30, sn_31, sn_32, sn_33, sn_34, sn_35, sn_36, sn_37, sn_38, sn_39, sn_40, sn_41, sn_42, sn_43, sn_44, sn_45, sn_46, sn_47, sn_48, sn_49, sn_50, sn_51, sn_52, sn_53, rf_2_1, rf_2_2, rf_2_3, rf_2_4, rf_1_0, rf_1_1, rf_8_0, rf_7_0, rf_10_0, rf_7_1, rf_12_0, rf_7_2, rf_14_0, rf_7_3, rf_16_1, rf_16_2, rf_16_3, rf_16_4, rf_16_5, rf_16_6, rf_16_7, rf_1_2, rf_24_1, rf_24_2, rf_24_3, rf_24_4, rf_24_5, rf_24_6, rf_24_7, rf_1_3, rf_32_2, rf_32_3, rf_32_4, rf_32_5, rf_32_6, rf_32_7, rf_32_8, rf_32_9, rf_32_10, rf_32_12, rf_32_14, rf_32_15, rf_32_16, rf_32_18, rf_32_19, rf_32_21, rf_32_25, rf_32_26, rf_32_27, rf_32_28, rf_32_30, true_and, and_true, true_or, or_true, or_false, false_or, false_and, and_false, not_true, not_false_iff, ne_eq, and_self, eq_self, if_true, if_false, ite_true, ite_false, Nat.reduceLeDiff, Int.cast_ofNat_Int, Int.reduceLT, Int.reduceLE, Int.reduceEq, Int.reduceNeg, reduceCtorEq, jup_ap, Nat.reduceEqDiff, Nat.reduceAdd]
      refine w_M_lookF h hI1 L hq _ (fun m2 N s hK2 hO e hL => ?_)
      have hP := hP1.fr hO
      have hI2 := MI.of hI1.1 hq hK2 e hL
      have hK := hK0.trans (hK1.trans hK2)
      have n2 := fun (g : ¬ smA c n p q) => h0 (fun w => g w.2) m2 hK hI2
      have l := hL.len
      obtain ⟨k1, k2, k3, k4, k5, k6⟩ := hP
      simp only [x_M_alike_31, x_M_alike_32, x_M_alike_35, x_M_alike_36, x_M_alike_39, x_M_alike_42, x_M_alike_43, x_M_alike_44, x_M_alike_45, l.2.2.1, k1, sk_0, sk_1, sk_2, sk_3, sk_4, sk_5, sk_6, sk_7, sk_8, sk_9, sk_10, sk_11, sk_12, sk_13, sk_14, sk_15, sk_16, sk_17, sk_18, sk_19, sk_20, sk_21, sk_22, sk_23, sk_24, sk_25, sk_26, sk_27, sk_28, sk_29, sk_30, sk_31, sk_32, sk_33, sk_34, sk_35, sk_36, sk_37, sk_38, sk_39, sk_40, sk_41, sk_42, sk_43, sk_44, sk_45, sk_46, sk_47, sk_48, sk_49, sk_50, sk_51, sk_52, sk_53, sn_0, sn_1, sn_2, sn_3, sn_4, sn_5, sn_6, sn_7, sn_8, sn_9, sn_10, sn_11, sn_12, sn_13, sn_14, sn_15, sn_16, sn_17, sn_18, sn_19, sn_20, sn_21, sn_22, sn_23, sn_24, sn_25, sn_26, sn_27, sn_28, sn_29, sn_30, sn_31, sn_32, sn_33, sn_34, sn_35, sn_36, sn_37, sn_38, sn_39, sn_40, sn_41, sn_42, sn_43, sn_44, sn_45, sn_46, sn_47, sn_48, sn_49, sn_50, sn_51, sn_52, sn_53, rf_2_1, rf_2_2, rf_2_3, rf_2_4, rf_1_0, rf_1_1, rf_8_0, rf_7_0, rf_10_0, rf_7_1, rf_12_0, rf_7_2, rf_14_0, rf_7_3, rf_16_1, rf_16_2, rf_16_3, rf_16_4, rf_16_5, rf_16_6, rf_16_7, rf_1_2, rf_24_1, rf_24_2, rf_24_3, rf_24_4, rf_24_5, rf_24_6, rf_24_7, rf_1_3, rf_32_2, rf_32_3, rf_32_4, rf_32_5, rf_32_6, rf_32_7, rf_32_8, rf_32_9, rf_32_10, rf_32_12, rf_32_14, rf_32_15, rf_32_16, rf_32_18, rf_32_19, rf_32_21, rf_32_25, rf_32_26, rf_32_27, rf_32_28, rf_32_30, true_and, and_true, true_or, or_true, or_false, false_or, false_and, and_false, not_true, not_false_iff, ne_eq, and_self, eq_self, if_true, if_false, ite_true, ite_false, Nat.reduceLeDiff, Int.cast_ofNat_Int, Int.reduceLT, Int.reduceLE, Int.reduceEq, Int.reduceNeg, reduceCtorEq, jup_ap, Nat.reduceEqDiff, Nat.reduceAdd]
      by_cases es : nV c p = nV c q
      · rw [es, l.2.1] at k3 k4
        rw [if_pos (by rw [es, l.2.1])]
        refine wl_M_a0 h hI2.1 hL L jU Q (fun w => n2 (fun g => w (fun j j1 j2 => ?_))) (fun w => ?_) s 0 (by omega) (by omega) (fun j j1 j2 => by omega)
        · rw [k3 j j1 j2]
          exact (g.2.1 j j1 (by rw [es, l.2.1]; exact j2)).1
        · have htx : ∀ j : Int, 0 ≤ j → j < (s : Int) → tx c (nc p) j = tx c (nc q) j := fun j j1 j2 => by rw [← k3 j j1 j2]; exact w j j1 j2
          simp only [x_M_alike_82, x_M_alike_83]
          refine wl_M_a1 L p q jU (by omega) l.2.2.1 Q (fun w2 => n2 (fun g => w2 (fun j j1 j2 => ?_))) (fun w2 => ?_) (4 * s) 0 (by omega) (by omega) (fun j j1 j2 => by omega)
          · have hj : j = 4 * (j / 4) + j % 4 := by omega
            have a1 : 0 ≤ j / 4 ∧ j / 4 < (s : Int) := by omega
            have a2 : 0 ≤ j % 4 ∧ j % 4 < 4 := by omega
            have hs := (g.2.1 (j / 4) a1.1 (by rw [es, l.2.1]; exact a1.2)).2
            rw [es, l.2.1] at hs
            generalize j / 4 = u at *
            generalize j % 4 = v at *
            rw [hj, k4 u v a1.1 a1.2 a2.1 a2.2, hL.2 u v a1.1 a1.2 a2.1 a2.2]
            unfold sgl at hs
            simp only [List.cons.injEq, and_true] at hs
            rcases (show v = 0 ∨ v = 1 ∨ v = 2 ∨ v = 3 by omega) with rfl | rfl | rfl | rfl
            · exact hs.1
            · exact hs.2.1
            · exact hs.2.2.1
            · exact hs.2.2.2
          · have hsg : ∀ j : Int, 0 ≤ j → j < (s : Int) → sgl c (nc p) s n j = sgl c (nc q) s n j := fun j j1 j2 => by
              have a : ∀ v : Int, 0 ≤ v → v < 4 → svK c (nc p) s j v n = svK c (nc q) s j v n := fun v v1 v2 => by
                rw [← k4 j v j1 j2 v1 v2, ← hL.2 j v j1 j2 v1 v2]
                exact w2 _ (by omega) (by omega)
              unfold sgl
              rw [a 0 (by omega) (by omega), a 1 (by omega) (by omega), a 2 (by omega) (by omega), a 3 (by omega) (by omega)]
            simp only [x_M_alike_117, x_M_alike_118]
            have hps : ∀ k, psP c p k = psP c q k ∧ nPar c p = nPar c q := fun k => by
              have ep : (visL c (nc p)).length = s := by rw [← l.2.1]; exact es
              constructor
              · unfold psP pSt0
                rw [ep, l.1]
                by_cases z : k = 0
                · rw [if_pos z, if_pos z]
                · rw [if_neg z, if_neg z]
                  exact pSt_congr s 0 0 (fun j j1 j2 => htx j j1 (by omega))
              · unfold nPar
                rw [es, l.2.1]
                congr 1
                exact sumI_congr s 0 (fun j j1 j2 => by rw [htx j j1 (by omega)])
            refine wl_M_a2 h hI2.1 hq hL L Q (fun w3 => n2 (fun g => w3 (fun r r1 r2 => ?_))) (fun w3 l4 => ?_) n 1 jU (by omega) (by omega) (fun r r1 r2 => by omega)
            · rw [(k5 r r1 r2).1, (k5 r r1 r2).2]
              exact kc_iff.mpr (g.2.2.2.2 r r1 r2)
            · simp only [x_M_alike_209, x_M_alike_210]
              have hpb := nPar_bd c q
              rw [(hps 0).2] at k2 k6
              refine wl_M_a3 h hI2.1 hL L k2 l4 Q (fun w4 => n2 (fun g => w4 (fun k a1 a2 => ?_))) (fun w4 => ?_) (nPar c q).toNat 0 (by omega) (by omega) (fun r r1 r2 => by omega)
              · rw [k6 k a1 a2, (hps k).1]
                by_cases z : k = 0
                · rw [z, psP_0]
                  exact g.2.2.1
                · obtain ⟨j, j1, j2, j3, j4⟩ := psP_hit (c := c) (p := q) (k := k) (by omega) a2
                  rw [j4]
                  exact g.2.2.2.1 j j1 (by rw [es]; exact j2) (by rw [htx j j1 (by rw [← l.2.1]; exact j2)]; exact j3)
              · refine h1 ⟨⟨hp, hq⟩, es, fun j j1 j2 => ?_, ?_, fun j j1 j2 j3 => ?_, fun r r1 r2 r3 => ?_⟩ m2 hK hI2
                · rw [es, l.2.1] at j2 ⊢
                  exact ⟨htx j j1 j2, hsg j j1 j2⟩
                · have := w4 0 (by omega) (by omega)
                  rw [k6 0 (by omega) (by omega), (hps 0).1, psP_0] at this
                  exact this
                · rw [es] at j2
                  rw [htx j j1 (by rw [← l.2.1]; exact j2)] at j3
                  obtain ⟨k, a1, a2, a3⟩ := psP_all j1 j2 j3
                  have := w4 k (by omega) a2
                  rw [k6 k (by omega) a2, (hps k).1, a3] at this
                  exact this
                · have := w3 r r1 r2
                  rw [(k5 r r1 r2).1, (k5 r r1 r2).2] at this
                  exact kc_iff.mp this r3
      · rw [if_neg (by rw [← l.2.1]; omega)]
        exact n2 (fun g => es g.1)
    · rw [if_neg (fun w => w hq)]
      exact n0 (fun w => hq w.1.2)
  · rw [if_pos hp]
    exact n0 (fun w => hp w.1.1)
