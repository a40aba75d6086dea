theorem sumI_one {f g : Int → Int} {r : Int} : ∀ (d : Nat) (i : Int), i ≤ r → r < i + d → (∀ j, j ≠ r → g j = f j) → g r = f r + 1 → sumI g i d = sumI f i d + 1
  | 0, i, h1, h2, _, _ => by omega
  | d + 1, i, h1, h2, h3, h4 => by
    unfold sumI
    by_cases e : i = r
    · subst e
      rw [h4, sumI_congr d (i + 1) (g := f) (fun j j1 j2 => h3 j (by omega))]
      omega
    · rw [h3 i e, sumI_one d (i + 1) (by omega) (by omega) h3 h4]
      omega
theorem CI_learn {m : jM} {n : Nat} (h : CI m n) {p r : Int} (hp : 0 ≤ p ∧ p < 4) (hr : 1 ≤ r ∧ r ≤ n) (hk : kb m (nc p) r = false) (hf : cellV m r 5 ≠ 0 → kb m (nc p) (cellV m r 5) = true) (hz : cellV m r 6 ≠ 0 → kb m (nc p) (cellV m r 6) = true) :
    CI (lrn m (nc p) r (cellV m r 2)) n := by
  have hal := nc_lt hp
  obtain ⟨m', hm'⟩ : ∃ m', m' = lrn m (nc p) r (cellV m r 2) := ⟨_, rfl⟩
  have hF : Fr m m' [nc p, nc p + 1] := by rw [hm']; exact lrn_fr
  rw [← hm']
  have q16 : ∀ b, b < 8 → b ∉ [nc p, nc p + 1] := fun b hb => by simp; omega
  have cE : cellV m' = cellV m := by funext x w; exact hF.cell (q16 2 (by decide)) (q16 3 (by decide)) x w
  have kE : key m' = key m := by funext x; exact hF.key (q16 2 (by decide)) (q16 3 (by decide)) x
  have fE : frs m' = frs m := by
    funext x
    unfold frs
    rw [cE]
  have iE : insL m' n = insL m n := by
    unfold insL
    rw [cE]
  have pE : PLm m' = PLm m := by
    unfold PLm
    rw [hF 2 (q16 2 (by decide))]
    exact ar_congr (fun i _ => hF 6 (q16 6 (by decide)) i)
  have oE : ar (m' 5) n = ar (m 5) n := ar_congr (fun i _ => hF 5 (q16 5 (by decide)) i)
  have rE : ∀ x, RowOk m' n x = RowOk m n x := by
    intro x
    unfold RowOk isIns
    rw [cE, kE]
  obtain ⟨h1, h2, h3, h4, h5, h6, h7, h8, h9, h10⟩ := h
  refine ⟨by rw [hF 2 (q16 2 (by decide))]; exact h1, h2, fun x a b => by rw [rE]; exact h3 x a b, by rw [kE]; exact h4, by rw [hF 2 (q16 2 (by decide)), iE]; exact h5, by rw [pE, iE, kE, fE]; exact h6, by rw [oE, kE]; exact h7, fun x a b => ?_, fun x a => by rw [hF 4 (q16 4 (by decide))]; exact h9 x a, fun q q1 q2 => ?_⟩
  · rw [hF 4 (q16 4 (by decide)), cE]
    exact h8 x a b
  · obtain ⟨N0, N1, N2, N3, N4, N5⟩ := h10 q q1 q2
    have htr := (h3 r hr.1 hr.2).2.2.1
    unfold NodeOk
    rw [cE]
    by_cases e : q = p
    · subst e
      have l1 : ∀ x, m' (nc q + 1) x = if x = r then 1 else m (nc q + 1) x := fun x => by rw [hm', lrn_kn]
      have l2 : m' (nc q) 1 = m (nc q) 1 + 1 := by rw [hm', lrn_ct]
      have l3 : m' (nc q) 2 = if m (nc q) 2 < cellV m r 2 then cellV m r 2 else m (nc q) 2 := by rw [hm', lrn_tm]
      have l4 : m (nc q) 2 ≤ m' (nc q) 2 ∧ cellV m r 2 ≤ m' (nc q) 2 ∧ m' (nc q) 2 ≤ n := by
        rw [l3]
        split <;> omega
      have kb1 : ∀ x, x ≠ r → kb m' (nc q) x = kb m (nc q) x := fun x hx => by
        unfold kb
        rw [l1 x, if_neg hx]
      have kb2 : kb m' (nc q) r = true := kb_iff.mpr ⟨by omega, by rw [l1, if_pos rfl]; decide⟩
      have kb3 : ∀ x, kb m (nc q) x = true → kb m' (nc q) x = true := fun x hx => by
        by_cases e : x = r
        · rw [e]; exact kb2
        · rw [kb1 x e]; exact hx
      refine ⟨fun x a1 a2 => ?_, fun x a1 a2 a3 => ?_, fun x a1 a2 a3 => ?_, fun x a1 a2 a3 => kb3 _ (N3 x a1 a2 a3), ?_, by omega⟩
      · rw [l1]
        split
        · exact Or.inr rfl
        · exact N0 x a1 a2
      · rw [l1, if_neg (by omega)]
        exact N1 x a1 a2 a3
      · by_cases hx : x = r
        · subst hx
          exact ⟨fun w => kb3 _ (hf w), fun w => kb3 _ (hz w), l4.2.1⟩
        · rw [kb1 x hx] at a3
          obtain ⟨o1, o2, o3⟩ := N2 x a1 a2 a3
          exact ⟨fun w => kb3 _ (o1 w), fun w => kb3 _ (o2 w), by omega⟩
      · rw [l2, N4]
        unfold cntK
        rw [sumI_one (f := fun r => b2i (kb m (nc q) r)) (g := fun r => b2i (kb m' (nc q) r)) (r := r) n 1 (by omega) (by omega) (fun j hj => by rw [kb1 j hj]) (by rw [kb2, hk]; rfl)]
    · have hne := nc_ne hp ⟨q1, q2⟩ e
      have u1 : ∀ x, m' (nc q + 1) x = m (nc q + 1) x := fun x => hF (nc q + 1) (by simp; omega) x
      have u2 : ∀ x, m' (nc q) x = m (nc q) x := fun x => hF (nc q) (by simp; omega) x
      have kb1 : ∀ x, kb m' (nc q) x = kb m (nc q) x := fun x => by
        unfold kb
        rw [u1 x]
      refine ⟨fun x a1 a2 => by rw [u1]; exact N0 x a1 a2, fun x a1 a2 a3 => by rw [u1]; exact N1 x a1 a2 a3, fun x a1 a2 a3 => ?_, fun x a1 a2 a3 => ?_, ?_, by rw [u2]; exact N5⟩
      · rw [kb1] at a3
        rw [kb1, kb1, u2]
        exact N2 x a1 a2 a3
      · rw [kb1]
        exact N3 x a1 a2 a3
      · rw [u2, N4]
        unfold cntK
        exact sumI_congr n 1 (fun j _ _ => by rw [kb1 j])
/-- the class's cells when p has seen r -/
def LnP (m m' : jM) (n : Nat) (p r : Int) : Prop :=
  CI m' n ∧ (∀ x w : Int, cellV m' x w = cellV m x w) ∧ (∀ q x : Int, 0 ≤ q → q < 4 → m' (nc q + 1) x = if q = p ∧ x = r then 1 else m (nc q + 1) x) ∧
  (∀ q : Int, 0 ≤ q → q < 4 → m' (nc q) 2 = if q = p ∧ m (nc q) 2 < cellV m r 2 then cellV m r 2 else m (nc q) 2) ∧ (∀ b, b < 8 ∨ 16 ≤ b → ∀ j, m' b j = m b j)
theorem lrn_LnP {m : jM} {n : Nat} {p r : Int} (hp : 0 ≤ p ∧ p < 4) (hC : CI (lrn m (nc p) r (cellV m r 2)) n) : LnP m (lrn m (nc p) r (cellV m r 2)) n p r := by
  have hal := nc_lt hp
  refine ⟨hC, fun x w => lrn_fr.cell (by simp; omega) (by simp; omega) x w, fun q x q1 q2 => ?_, fun q q1 q2 => ?_, fun b hb j => lrn_fr b (by simp; omega) j⟩
  · by_cases e : q = p
    · subst e
      rw [lrn_kn]
      by_cases hx : x = r
      · rw [if_pos hx, if_pos ⟨rfl, hx⟩]
      · rw [if_neg hx, if_neg (fun w => hx w.2)]
    · have hne := nc_ne hp ⟨q1, q2⟩ e
      rw [if_neg (fun w => e w.1), lrn_fr (nc q + 1) (by simp; omega)]
  · by_cases e : q = p
    · subst e
      rw [lrn_tm]
      by_cases hx : m (nc q) 2 < cellV m r 2
      · rw [if_pos hx, if_pos ⟨rfl, hx⟩]
      · rw [if_neg hx, if_neg (fun w => hx w.2)]
    · have hne := nc_ne hp ⟨q1, q2⟩ e
      rw [if_neg (fun w => e w.1), lrn_fr (nc q) (by simp; omega)]
theorem cnt_bd {m : jM} {n : Nat} (h : CI m n) {p : Int} (hp : 0 ≤ p ∧ p < 4) : 0 ≤ m (nc p) 1 ∧ m (nc p) 1 ≤ n := by
  rw [(h.2.2.2.2.2.2.2.2.2 p hp.1 hp.2).2.2.2.2.1]
  unfold cntK
  have : ∀ (k : Nat) (i : Int), 0 ≤ sumI (fun r => b2i (kb m (nc p) r)) i k ∧ sumI (fun r => b2i (kb m (nc p) r)) i k ≤ k := by
    intro k
    induction k with
    | zero => intro i; simp [sumI]
    | succ k ih =>
      intro i
      have g1 := ih (i + 1)
      have g2 := b2i_01 (kb m (nc p) i)
      unfold sumI
      omega
  exact this n 1
def okSee (m : jM) (n : Nat) (p r : Int) : Prop := ((0 ≤ p ∧ p < 4) ∧ 1 ≤ r ∧ r ≤ n) ∧ kb m (nc p) r = false ∧ (cellV m r 5 = 0 ∨ kb m (nc p) (cellV m r 5) = true) ∧ (cellV m r 6 = 0 ∨ kb m (nc p) (cellV m r 6) = true)
theorem w_T_see (L : Nat) (p r : Int) (m : jM) (Q : jV → jG → jM → Prop) (n : Nat) (h : CI m n) (h0 : ¬ okSee m n p r → Q (jI 0) (g0 L) m) (hQ : okSee m n p r → ∀ m', LnP m m' n p r → Q (jI 1) (g0 L) m') :
    wp 8 0 [jO (some 1), jI p, jI r, jU] [] (g0 L) m Q := by
  have h1 := h.1
  have h2 := h.2.1
  have hc : m 2 0 ≤ 250 := by omega
  simp only [x_T_see_0, x_T_see_1, x_T_see_2, x_T_see_5, x_T_see_6, x_T_see_7n, x_T_see_7s, x_T_see_10, x_T_see_11, x_T_see_14, x_T_see_15, x_T_see_18, x_T_see_21, x_T_see_22, x_T_see_23, x_T_see_26, x_T_see_29, x_T_see_30, x_T_see_31, x_T_see_32, x_T_see_35, x_T_see_38, x_T_see_39, x_T_see_40, x_T_see_41, x_T_see_42, x_T_see_43, x_T_see_46, x_T_see_47, x_T_see_48, x_T_see_51, x_T_see_54, x_T_see_55, w_T_nodeOf, sk_0, sk_1, sk_2, sk_3, sk_4, sk_5, sk_6, sk_7, sk_8, sk_9, sk_10, sk_11, sk_12, sk_13, sk_14, sk_15, sk_16, sk_17, sk_18, sk_19, sk_20, sk_21, sk_22, sk_23, sk_24, sk_25, sk_26, sk_27, sk_28, sk_29, sk_30, sk_31, sk_32, sk_33, sk_34, sk_35, sk_36, sk_37, sk_38, sk_39, sk_40, sk_41, sk_42, sk_43, sk_44, sk_45, sk_46, sk_47, sk_48, sk_49, sk_50, sk_51, sk_52, sk_53, sn_0, sn_1, sn_2, sn_3, sn_4, sn_5, sn_6, sn_7, sn_8, sn_9, sn_10, sn_11, sn_12, sn_13, sn_14, sn_15, sn_16, sn_17, sn_18, sn_19, sn_20, sn_21, sn_22, sn_23, sn_24, sn_25, sn_26, sn_27, sn_28, sn_29, sn_30, sn_31, sn_32, sn_33, sn_34, sn_35, sn_36, sn_37, sn_38, sn_39, sn_40, sn_41, sn_42, sn_43, sn_44, sn_45, sn_46, sn_47, sn_48, sn_49, sn_50, sn_51, sn_52, sn_53, rf_2_1, rf_2_2, rf_2_3, rf_2_4, rf_1_0, rf_1_1, rf_8_0, rf_7_0, rf_10_0, rf_7_1, rf_12_0, rf_7_2, rf_14_0, rf_7_3, rf_16_1, rf_16_2, rf_16_3, rf_16_4, rf_16_5, rf_16_6, rf_16_7, rf_1_2, rf_24_1, rf_24_2, rf_24_3, rf_24_4, rf_24_5, rf_24_6, rf_24_7, rf_1_3, rf_32_2, rf_32_3, rf_32_4, rf_32_5, rf_32_6, rf_32_7, rf_32_8, rf_32_9, rf_32_10, rf_32_12, rf_32_14, rf_32_15, rf_32_16, rf_32_18, rf_32_19, rf_32_21, rf_32_25, rf_32_26, rf_32_27, rf_32_28, rf_32_30, true_and, and_true, true_or, or_true, or_false, false_or, false_and, and_false, not_true, not_false_iff, ne_eq, and_self, eq_self, if_true, if_false, ite_true, ite_false, Nat.reduceLeDiff, Int.cast_ofNat_Int, Int.reduceLT, Int.reduceLE, Int.reduceEq, Int.reduceNeg, reduceCtorEq, jup_ap, Nat.reduceEqDiff, Nat.reduceAdd]
  by_cases hp : 0 ≤ p ∧ p < 4
  · rw [if_pos hp, show 8 + 2 * p.toNat = nc p from rfl]
    have ha : isN (nc p) := isN_of hp
    have hcb := cnt_bd h hp
    have wk := fun x Q => w_N_kb ha L x m Q
    simp only [x_T_see_0, x_T_see_1, x_T_see_2, x_T_see_5, x_T_see_6, x_T_see_7n, x_T_see_7s, x_T_see_10, x_T_see_11, x_T_see_14, x_T_see_15, x_T_see_18, x_T_see_21, x_T_see_22, x_T_see_23, x_T_see_26, x_T_see_29, x_T_see_30, x_T_see_31, x_T_see_32, x_T_see_35, x_T_see_38, x_T_see_39, x_T_see_40, x_T_see_41, x_T_see_42, x_T_see_43, x_T_see_46, x_T_see_47, x_T_see_48, x_T_see_51, x_T_see_54, x_T_see_55, w_R_has, b01_0, h1, wk, b2i_0, sk_0, sk_1, sk_2, sk_3, sk_4, sk_5, sk_6, sk_7, sk_8, sk_9, sk_10, sk_11, sk_12, sk_13, sk_14, sk_15, sk_16, sk_17, sk_18, sk_19, sk_20, sk_21, sk_22, sk_23, sk_24, sk_25, sk_26, sk_27, sk_28, sk_29, sk_30, sk_31, sk_32, sk_33, sk_34, sk_35, sk_36, sk_37, sk_38, sk_39, sk_40, sk_41, sk_42, sk_43, sk_44, sk_45, sk_46, sk_47, sk_48, sk_49, sk_50, sk_51, sk_52, sk_53, sn_0, sn_1, sn_2, sn_3, sn_4, sn_5, sn_6, sn_7, sn_8, sn_9, sn_10, sn_11, sn_12, sn_13, sn_14, sn_15, sn_16, sn_17, sn_18, sn_19, sn_20, sn_21, sn_22, sn_23, sn_24, sn_25, sn_26, sn_27, sn_28, sn_29, sn_30, sn_31, sn_32, sn_33, sn_34, sn_35, sn_36, sn_37, sn_38, sn_39, sn_40, sn_41, sn_42, sn_43, sn_44, sn_45, sn_46, sn_47, sn_48, sn_49, sn_50, sn_51, sn_52, sn_53, rf_2_1, rf_2_2, rf_2_3, rf_2_4, rf_1_0, rf_1_1, rf_8_0, rf_7_0, rf_10_0, rf_7_1, rf_12_0, rf_7_2, rf_14_0, rf_7_3, rf_16_1, rf_16_2, rf_16_3, rf_16_4, rf_16_5, rf_16_6, rf_16_7, rf_1_2, rf_24_1, rf_24_2, rf_24_3, rf_24_4, rf_24_5, rf_24_6, rf_24_7, rf_1_3, rf_32_2, rf_32_3, rf_32_4, rf_32_5, rf_32_6, rf_32_7, rf_32_8, rf_32_9, rf_32_10, rf_32_12, rf_32_14, rf_32_15, rf_32_16, rf_32_18, rf_32_19, rf_32_21, rf_32_25, rf_32_26, rf_32_27, rf_32_28, rf_32_30, true_and, and_true, true_or, or_true, or_false, false_or, false_and, and_false, not_true, not_false_iff, ne_eq, and_self, eq_self, if_true, if_false, ite_true, ite_false, Nat.reduceLeDiff, Int.cast_ofNat_Int, Int.reduceLT, Int.reduceLE, Int.reduceEq, Int.reduceNeg, reduceCtorEq, jup_ap, Nat.reduceEqDiff, Nat.reduceAdd, ka0 ha, ra0 ha, ka1 ha, na1 ha]
    by_cases hr : 1 ≤ r ∧ r ≤ (n : Int)
    · rw [if_neg (by simpa using hr)]
      cases hk : kb m (nc p) r
      · simp only [true_and, and_true, true_or, or_true, or_false, false_or, false_and, and_false, not_true, not_false_iff, ne_eq, and_self, eq_self, if_true, if_false, ite_true, ite_false, Nat.reduceLeDiff, Int.cast_ofNat_Int, Int.reduceLT, Int.reduceLE, Int.reduceEq, Int.reduceNeg, reduceCtorEq, jup_ap, Nat.reduceEqDiff, Nat.reduceAdd, x_T_see_0, x_T_see_1, x_T_see_2, x_T_see_5, x_T_see_6, x_T_see_7n, x_T_see_7s, x_T_see_10, x_T_see_11, x_T_see_14, x_T_see_15, x_T_see_18, x_T_see_21, x_T_see_22, x_T_see_23, x_T_see_26, x_T_see_29, x_T_see_30, x_T_see_31, x_T_see_32, x_T_see_35, x_T_see_38, x_T_see_39, x_T_see_40, x_T_see_41, x_T_see_42, x_T_see_43, x_T_see_46, x_T_see_47, x_T_see_48, x_T_see_51, x_T_see_54, x_T_see_55, x_T_knowsNeeds_0, x_T_knowsNeeds_1, x_T_knowsNeeds_4, x_T_knowsNeeds_5, x_T_knowsNeeds_6, x_T_knowsNeeds_9, x_T_knowsNeeds_10, x_T_knowsNeeds_11, x_T_knowsNeeds_14, x_T_knowsNeeds_15, x_T_knowsNeeds_17, x_T_knowsNeeds_20, x_T_knowsNeeds_22, x_T_knowsNeeds_23, x_T_knowsNeeds_26, x_T_knowsNeeds_27, x_T_knowsNeeds_28, x_T_knowsNeeds_31, x_T_knowsNeeds_34, x_T_knowsNeeds_36, x_T_knowsNeeds_39, x_T_knowsNeeds_40, x_T_knowsNeeds_42, x_T_knowsNeeds_45, x_T_knowsNeeds_48, x_T_knowsNeeds_49, x_T_knowsNeeds_52, x_T_knowsNeeds_53, w_R_cell L _ _ _ _ hc, wk, b2i_0, sk_0, sk_1, sk_2, sk_3, sk_4, sk_5, sk_6, sk_7, sk_8, sk_9, sk_10, sk_11, sk_12, sk_13, sk_14, sk_15, sk_16, sk_17, sk_18, sk_19, sk_20, sk_21, sk_22, sk_23, sk_24, sk_25, sk_26, sk_27, sk_28, sk_29, sk_30, sk_31, sk_32, sk_33, sk_34, sk_35, sk_36, sk_37, sk_38, sk_39, sk_40, sk_41, sk_42, sk_43, sk_44, sk_45, sk_46, sk_47, sk_48, sk_49, sk_50, sk_51, sk_52, sk_53, sn_0, sn_1, sn_2, sn_3, sn_4, sn_5, sn_6, sn_7, sn_8, sn_9, sn_10, sn_11, sn_12, sn_13, sn_14, sn_15, sn_16, sn_17, sn_18, sn_19, sn_20, sn_21, sn_22, sn_23, sn_24, sn_25, sn_26, sn_27, sn_28, sn_29, sn_30, sn_31, sn_32, sn_33, sn_34, sn_35, sn_36, sn_37, sn_38, sn_39, sn_40, sn_41, sn_42, sn_43, sn_44, sn_45, sn_46, sn_47, sn_48, sn_49, sn_50, sn_51, sn_52, sn_53, rf_2_1, rf_2_2, rf_2_3, rf_2_4, rf_1_0, rf_1_1, rf_8_0, rf_7_0, rf_10_0, rf_7_1, rf_12_0, rf_7_2, rf_14_0, rf_7_3, rf_16_1, rf_16_2, rf_16_3, rf_16_4, rf_16_5, rf_16_6, rf_16_7, rf_1_2, rf_24_1, rf_24_2, rf_24_3, rf_24_4, rf_24_5, rf_24_6, rf_24_7, rf_1_3, rf_32_2, rf_32_3, rf_32_4, rf_32_5, rf_32_6, rf_32_7, rf_32_8, rf_32_9, rf_32_10, rf_32_12, rf_32_14, rf_32_15, rf_32_16, rf_32_18, rf_32_19, rf_32_21, rf_32_25, rf_32_26, rf_32_27, rf_32_28, rf_32_30, ka0 ha, ra0 ha, ka1 ha, na1 ha]
        have fin : okSee m n p r → wp 82 0 [jO (some (nc p)), jI r, jI (cellV m r 2)] [] (g0 L) m (fun _ g m => Q (jI 1) g m) := fun hok => by
          have hk0 : m (nc p + 1) r = 0 := by
            by_cases e : m (nc p + 1) r = 0
            · exact e
            · rw [kb_iff.mpr ⟨by omega, e⟩] at hk
              cases hk
          rw [w_N_learn ha L _ _ m _ (by omega) hr.1 (by omega) hk0]
          exact hQ hok _ (lrn_LnP hp (CI_learn h hp hr hk (fun w => hok.2.2.1.resolve_left w) (fun w => hok.2.2.2.resolve_left w)))
        have hbase : (cellV m r 5 = 0 ∨ kb m (nc p) (cellV m r 5) = true) → (cellV m r 6 = 0 ∨ kb m (nc p) (cellV m r 6) = true) → okSee m n p r := fun A B => ⟨⟨hp, hr⟩, hk, A, B⟩
        have rest : (cellV m r 5 = 0 ∨ kb m (nc p) (cellV m r 5) = true) → (if cellV m r 6 = 0 then wp 82 0 [jO (some (nc p)), jI r, jI (cellV m r 2)] [] (g0 L) m (fun _ g m => Q (jI 1) g m)
            else if kb m (nc p) (cellV m r 6) = false then Q (jI 0) (g0 L) m else wp 82 0 [jO (some (nc p)), jI r, jI (cellV m r 2)] [] (g0 L) m (fun _ g m => Q (jI 1) g m)) := fun A => by
          by_cases z0 : cellV m r 6 = 0
          · rw [if_pos z0]
            exact fin (hbase A (Or.inl z0))
          · rw [if_neg z0]
            by_cases zk : kb m (nc p) (cellV m r 6) = false
            · rw [if_pos zk]
              refine h0 (fun q => ?_)
              rcases q.2.2.2 with w | w
              · exact z0 w
              · rw [zk] at w
                cases w
            · rw [if_neg zk]
              exact fin (hbase A (Or.inr (by simpa using zk)))
        by_cases f0 : cellV m r 5 = 0
        · rw [if_pos f0]
          exact rest (Or.inl f0)
        · rw [if_neg f0]
          by_cases fk : kb m (nc p) (cellV m r 5) = false
          · rw [if_pos fk]
            refine h0 (fun q => ?_)
            rcases q.2.2.1 with w | w
            · exact f0 w
            · rw [fk] at w
              cases w
          · rw [if_neg fk]
            exact rest (Or.inr (by simpa using fk))
      · simp only [true_and, and_true, true_or, or_true, or_false, false_or, false_and, and_false, not_true, not_false_iff, ne_eq, and_self, eq_self, if_true, if_false, ite_true, ite_false, Nat.reduceLeDiff, Int.cast_ofNat_Int, Int.reduceLT, Int.reduceLE, Int.reduceEq, Int.reduceNeg, reduceCtorEq, jup_ap, Nat.reduceEqDiff, Nat.reduceAdd, Bool.true_eq_false]
        exact h0 (fun q => by have := q.2.1; rw [hk] at this; cases this)
    · rw [if_pos (by simpa using hr)]
      exact h0 (fun q => hr q.1.2)
  · rw [if_neg hp]
    exact h0 (fun q => hp q.1.1)
/-- the time of p when it has met q up to row k -/
def tmF (m : jM) (a b : Nat) : Nat → Int
  | 0 => m a 2
  | k + 1 => if (kb m b ((k : Int) + 1) && !kb m a ((k : Int) + 1)) = true ∧ tmF m a b k < cellV m ((k : Int) + 1) 2 then cellV m ((k : Int) + 1) 2 else tmF m a b k
def mtC (m : jM) (a b : Nat) (n : Nat) : Int := sumI (fun r => b2i (kb m b r && !kb m a r)) 1 n
/-- the class's cells when p has met q up to row k -/
def MtP (m m' : jM) (n : Nat) (p q : Int) (k : Nat) : Prop :=
  CI m' n ∧ (∀ x w : Int, cellV m' x w = cellV m x w) ∧ (∀ x : Int, m' (nc p + 1) x = if (1 ≤ x ∧ x ≤ k) ∧ kb m (nc q) x = true then 1 else m (nc p + 1) x) ∧ m' (nc p) 2 = tmF m (nc p) (nc q) k ∧
  (∀ b, b ≠ nc p → b ≠ nc p + 1 → ∀ j, m' b j = m b j)
theorem wl_T_meet (L : Nat) (p q : Int) (m : jM) (Q : jV → jG → jM → Prop) (n : Nat) (h : CI m n) (hp : 0 ≤ p ∧ p < 4) (hq : 0 ≤ q ∧ q < 4) (hpq : q ≠ p)
    (hQ : ∀ m', MtP m m' n p q n → Q (jI (mtC m (nc p) (nc q) n)) (g0 L) m') : ∀ (d k : Nat) (m1 : jM), k + d = n → MtP m m1 n p q k →
      wp 9 35 [jO (some 1), jI p, jI q, jO (some (nc p)), jO (some (nc q)), jI (mtC m (nc p) (nc q) k), jI ((k : Int) + 1)] [] (g0 L) m1 Q := by
  have hne := nc_ne hp hq hpq
  have hla := nc_lt hp
  have hlb := nc_lt hq
  have ha : isN (nc p) := isN_of hp
  have hb : isN (nc q) := isN_of hq
  have h1 := h.1
  have h2 := h.2.1
  obtain ⟨a, hae⟩ : ∃ a, a = nc p := ⟨_, rfl⟩
  obtain ⟨b, hbe⟩ : ∃ b, b = nc q := ⟨_, rfl⟩
  intro d
  induction d with
  | zero =>
    intro k m1 hk hI
    have : k = n := by omega
    subst this
    have e0 : m1 2 0 = (k : Int) := hI.1.1
    rw [x_T_meet_35]
    simp only [x_T_meet_0, x_T_meet_1, x_T_meet_2, x_T_meet_5, x_T_meet_6, x_T_meet_7, x_T_meet_8, x_T_meet_11, x_T_meet_13, x_T_meet_14n, x_T_meet_14s, x_T_meet_17, x_T_meet_19n, x_T_meet_19s, x_T_meet_22, x_T_meet_23, x_T_meet_24, x_T_meet_27, x_T_meet_28, x_T_meet_29, x_T_meet_30, x_T_meet_32, x_T_meet_33, x_T_meet_37, x_T_meet_38, x_T_meet_41, x_T_meet_44, x_T_meet_47, x_T_meet_49, x_T_meet_51, x_T_meet_54, x_T_meet_57, x_T_meet_58, x_T_meet_60, x_T_meet_63, x_T_meet_66, x_T_meet_67, x_T_meet_69, x_T_meet_70, x_T_meet_73, x_T_meet_75, x_T_meet_76, x_T_meet_79, x_T_meet_82, x_T_meet_85, x_T_meet_88, x_T_meet_91, x_T_meet_93, w_R_count, e0, sk_0, sk_1, sk_2, sk_3, sk_4, sk_5, sk_6, sk_7, sk_8, sk_9, sk_10, sk_11, sk_12, sk_13, sk_14, sk_15, sk_16, sk_17, sk_18, sk_19, sk_20, sk_21, sk_22, sk_23, sk_24, sk_25, sk_26, sk_27, sk_28, sk_29, sk_30, sk_31, sk_32, sk_33, sk_34, sk_35, sk_36, sk_37, sk_38, sk_39, sk_40, sk_41, sk_42, sk_43, sk_44, sk_45, sk_46, sk_47, sk_48, sk_49, sk_50, sk_51, sk_52, sk_53, sn_0, sn_1, sn_2, sn_3, sn_4, sn_5, sn_6, sn_7, sn_8, sn_9, sn_10, sn_11, sn_12, sn_13, sn_14, sn_15, sn_16, sn_17, sn_18, sn_19, sn_20, sn_21, sn_22, sn_23, sn_24, sn_25, sn_26, sn_27, sn_28, sn_29, sn_30, sn_31, sn_32, sn_33, sn_34, sn_35, sn_36, sn_37, sn_38, sn_39, sn_40, sn_41, sn_42, sn_43, sn_44, sn_45, sn_46, sn_47, sn_48, sn_49, sn_50, sn_51, sn_52, sn_53, rf_2_1, rf_2_2, rf_2_3, rf_2_4, rf_1_0, rf_1_1, rf_8_0, rf_7_0, rf_10_0, rf_7_1, rf_12_0, rf_7_2, rf_14_0, rf_7_3, rf_16_1, rf_16_2, rf_16_3, rf_16_4, rf_16_5, rf_16_6, rf_16_7, rf_1_2, rf_24_1, rf_24_2, rf_24_3, rf_24_4, rf_24_5, rf_24_6, rf_24_7, rf_1_3, rf_32_2, rf_32_3, rf_32_4, rf_32_5, rf_32_6, rf_32_7, rf_32_8, rf_32_9, rf_32_10, rf_32_12, rf_32_14, rf_32_15, rf_32_16, rf_32_18, rf_32_19, rf_32_21, rf_32_25, rf_32_26, rf_32_27, rf_32_28, rf_32_30, true_and, and_true, true_or, or_true, or_false, false_or, false_and, and_false, not_true, not_false_iff, ne_eq, and_self, eq_self, if_true, if_false, ite_true, ite_false, Nat.reduceLeDiff, Int.cast_ofNat_Int, Int.reduceLT, Int.reduceLE, Int.reduceEq, Int.reduceNeg, reduceCtorEq, jup_ap, Nat.reduceEqDiff, Nat.reduceAdd]
    rw [if_pos (by omega)]
    exact hQ m1 hI
  | succ d ih =>
    intro k m1 hk hI
    obtain ⟨i1, i2, i3, i4, i5⟩ := hI
    have e0 : m1 2 0 = (n : Int) := i1.1
    have hc : m1 2 0 ≤ 250 := by omega
    have kb1 : ∀ x, kb m1 (nc q) x = kb m (nc q) x := fun x => by
      unfold kb
      rw [i5 (nc q + 1) (by omega) (by omega)]
    have kb2 : kb m1 (nc p) ((k : Int) + 1) = kb m (nc p) ((k : Int) + 1) := by
      unfold kb
      rw [i3, if_neg (by omega)]
    have wk1 := fun x Q => w_N_kb hb L x m1 Q
    have wk2 := fun x Q => w_N_kb ha L x m1 Q
    have hms : mtC m (nc p) (nc q) (k + 1) = mtC m (nc p) (nc q) k + b2i (kb m (nc q) ((k : Int) + 1) && !kb m (nc p) ((k : Int) + 1)) := by
      unfold mtC
      rw [sumI_snoc, show (1 : Int) + (k : Int) = (k : Int) + 1 by omega]
    have hmb : 0 ≤ mtC m (nc p) (nc q) k ∧ mtC m (nc p) (nc q) k ≤ k := by
      unfold mtC
      have : ∀ (k : Nat) (i : Int), 0 ≤ sumI (fun r => b2i (kb m (nc q) r && !kb m (nc p) r)) i k ∧ sumI (fun r => b2i (kb m (nc q) r && !kb m (nc p) r)) i k ≤ k := by
        intro k
        induction k with
        | zero => intro i; simp [sumI]
        | succ k ih =>
          intro i
          have g1 := ih (i + 1)
          have g2 := b2i_01 (kb m (nc q) i && !kb m (nc p) i)
          unfold sumI
          omega
      exact this k 1
    have hkn : ¬ (n : Int) < (k : Int) + 1 := by omega
    have same : (kb m (nc q) ((k : Int) + 1) && !kb m (nc p) ((k : Int) + 1)) = false → wp 9 35 [jO (some 1), jI p, jI q, jO (some (nc p)), jO (some (nc q)), jI (mtC m (nc p) (nc q) k), jI (jwr ((k : Int) + 1 + 1))] [] (g0 L) m1 Q := fun hz => by
      have g := ih (k + 1) m1 (by omega) ⟨i1, i2, fun x => ?_, ?_, i5⟩
      · rw [hms, hz, show b2i false = 0 from rfl, Int.add_zero] at g
        rw [show jwr ((k : Int) + 1 + 1) = ((k + 1 : Nat) : Int) + 1 from (jw1 (by omega) (by omega)).trans (by omega)]
        exact g
      · rw [i3]
        by_cases hx : x = (k : Int) + 1
        · subst hx
          rw [if_neg (by omega)]
          cases hb2 : kb m (nc q) ((k : Int) + 1)
          · rw [if_neg (by simp)]
          · rw [hb2] at hz
            have hz2 : kb m (nc p) ((k : Int) + 1) = true := by simpa using hz
            have hN := (h.2.2.2.2.2.2.2.2.2 p hp.1 hp.2).1 ((k : Int) + 1) (by omega) (by omega)
            have := (kb_iff.mp hz2).2
            rw [if_pos ⟨by omega, rfl⟩]
            omega
        · by_cases hc2 : (1 ≤ x ∧ x ≤ (k : Int)) ∧ kb m (nc q) x = true
          · rw [if_pos hc2, if_pos ⟨by omega, hc2.2⟩]
          · rw [if_neg hc2, if_neg (fun w => hc2 ⟨by omega, w.2⟩)]
      · rw [i4]
        show _ = if _ then _ else _
        rw [if_neg (fun w => by rw [hz] at w; cases w.1)]
    rw [x_T_meet_35]
    simp only [x_T_meet_0, x_T_meet_1, x_T_meet_2, x_T_meet_5, x_T_meet_6, x_T_meet_7, x_T_meet_8, x_T_meet_11, x_T_meet_13, x_T_meet_14n, x_T_meet_14s, x_T_meet_17, x_T_meet_19n, x_T_meet_19s, x_T_meet_22, x_T_meet_23, x_T_meet_24, x_T_meet_27, x_T_meet_28, x_T_meet_29, x_T_meet_30, x_T_meet_32, x_T_meet_33, x_T_meet_37, x_T_meet_38, x_T_meet_41, x_T_meet_44, x_T_meet_47, x_T_meet_49, x_T_meet_51, x_T_meet_54, x_T_meet_57, x_T_meet_58, x_T_meet_60, x_T_meet_63, x_T_meet_66, x_T_meet_67, x_T_meet_69, x_T_meet_70, x_T_meet_73, x_T_meet_75, x_T_meet_76, x_T_meet_79, x_T_meet_82, x_T_meet_85, x_T_meet_88, x_T_meet_91, x_T_meet_93, w_R_count, e0, wk1, wk2, kb1, kb2, b2i_0, w_R_cell L _ _ _ _ hc, i2, ka0 ha, ka0 hb, hkn, sk_0, sk_1, sk_2, sk_3, sk_4, sk_5, sk_6, sk_7, sk_8, sk_9, sk_10, sk_11, sk_12, sk_13, sk_14, sk_15, sk_16, sk_17, sk_18, sk_19, sk_20, sk_21, sk_22, sk_23, sk_24, sk_25, sk_26, sk_27, sk_28, sk_29, sk_30, sk_31, sk_32, sk_33, sk_34, sk_35, sk_36, sk_37, sk_38, sk_39, sk_40, sk_41, sk_42, sk_43, sk_44, sk_45, sk_46, sk_47, sk_48, sk_49, sk_50, sk_51, sk_52, sk_53, sn_0, sn_1, sn_2, sn_3, sn_4, sn_5, sn_6, sn_7, sn_8, sn_9, sn_10, sn_11, sn_12, sn_13, sn_14, sn_15, sn_16, sn_17, sn_18, sn_19, sn_20, sn_21, sn_22, sn_23, sn_24, sn_25, sn_26, sn_27, sn_28, sn_29, sn_30, sn_31, sn_32, sn_33, sn_34, sn_35, sn_36, sn_37, sn_38, sn_39, sn_40, sn_41, sn_42, sn_43, sn_44, sn_45, sn_46, sn_47, sn_48, sn_49, sn_50, sn_51, sn_52, sn_53, rf_2_1, rf_2_2, rf_2_3, rf_2_4, rf_1_0, rf_1_1, rf_8_0, rf_7_0, rf_10_0, rf_7_1, rf_12_0, rf_7_2, rf_14_0, rf_7_3, rf_16_1, rf_16_2, rf_16_3, rf_16_4, rf_16_5, rf_16_6, rf_16_7, rf_1_2, rf_24_1, rf_24_2, rf_24_3, rf_24_4, rf_24_5, rf_24_6, rf_24_7, rf_1_3, rf_32_2, rf_32_3, rf_32_4, rf_32_5, rf_32_6, rf_32_7, rf_32_8, rf_32_9, rf_32_10, rf_32_12, rf_32_14, rf_32_15, rf_32_16, rf_32_18, rf_32_19, rf_32_21, rf_32_25, rf_32_26, rf_32_27, rf_32_28, rf_32_30, true_and, and_true, true_or, or_true, or_false, false_or, false_and, and_false, not_true, not_false_iff, ne_eq, and_self, eq_self, if_true, if_false, ite_true, ite_false, Nat.reduceLeDiff, Int.cast_ofNat_Int, Int.reduceLT, Int.reduceLE, Int.reduceEq, Int.reduceNeg, reduceCtorEq, jup_ap, Nat.reduceEqDiff, Nat.reduceAdd]
    cases hb2 : kb m (nc q) ((k : Int) + 1)
    · simp only [true_and, and_true, true_or, or_true, or_false, false_or, false_and, and_false, not_true, not_false_iff, ne_eq, and_self, eq_self, if_true, if_false, ite_true, ite_false, Nat.reduceLeDiff, Int.cast_ofNat_Int, Int.reduceLT, Int.reduceLE, Int.reduceEq, Int.reduceNeg, reduceCtorEq, jup_ap, Nat.reduceEqDiff, Nat.reduceAdd]
      exact same (by rw [hb2]; rfl)
    · cases ha2 : kb m (nc p) ((k : Int) + 1)
      · simp only [true_and, and_true, true_or, or_true, or_false, false_or, false_and, and_false, not_true, not_false_iff, ne_eq, and_self, eq_self, if_true, if_false, ite_true, ite_false, Nat.reduceLeDiff, Int.cast_ofNat_Int, Int.reduceLT, Int.reduceLE, Int.reduceEq, Int.reduceNeg, reduceCtorEq, jup_ap, Nat.reduceEqDiff, Nat.reduceAdd, Bool.true_eq_false]
        have hcb := cnt_bd i1 hp
        have hk0 : m1 (nc p + 1) ((k : Int) + 1) = 0 := by
          by_cases e : m1 (nc p + 1) ((k : Int) + 1) = 0
          · exact e
          · rw [kb_iff.mpr ⟨by omega, e⟩] at kb2
            rw [← kb2] at ha2
            cases ha2
        rw [w_N_learn ha L _ _ m1 _ (by omega) (by omega) (by omega) hk0]
        have hro := h.2.2.1 ((k : Int) + 1) (by omega) (by omega)
        have hNq := h.2.2.2.2.2.2.2.2.2 q hq.1 hq.2
        have hcl := hNq.2.2.1 ((k : Int) + 1) (by omega) (by omega) hb2
        have kbk : ∀ x : Int, 1 ≤ x → x ≤ k → kb m (nc q) x = true → kb m1 (nc p) x = true := fun x x1 x2 x3 => kb_iff.mpr ⟨by omega, by rw [i3, if_pos ⟨⟨x1, x2⟩, x3⟩]; decide⟩
        have hrf : ∀ w : Int, (w = 5 ∨ w = 6) → cellV m ((k : Int) + 1) w ≠ 0 → 1 ≤ cellV m ((k : Int) + 1) w ∧ cellV m ((k : Int) + 1) w ≤ k := by
          obtain ⟨o1, -, -, o4, o5, o6, o7, o8, o9⟩ := hro
          unfold isIns at o4 o5 o6 o7 o8
          intro w hw hnz
          rcases hw with rfl | rfl <;> rcases (show cellV m ((k : Int) + 1) 0 = 0 ∨ cellV m ((k : Int) + 1) 0 = 1 ∨ cellV m ((k : Int) + 1) 0 = 2 ∨ cellV m ((k : Int) + 1) 0 = 3 ∨ cellV m ((k : Int) + 1) 0 = 4 ∨ cellV m ((k : Int) + 1) 0 = 5 by omega) with e | e | e | e | e | e
          · have := o4 e; omega
          · have := o5 e; omega
          · have := o6 e; omega
          · have := o7 e; omega
          · have := o8 e; omega
          · have := o9 e; omega
          · have := o4 e; omega
          · have := o5 e; omega
          · have := o6 e; omega
          · have := o7 e; omega
          · have := o8 e; omega
          · have := o9 e; omega
        have hCI : CI (lrn m1 (nc p) ((k : Int) + 1) (cellV m1 ((k : Int) + 1) 2)) n := CI_learn i1 hp (by omega) (by rw [kb2]; exact ha2) (fun w => by
          rw [i2] at w ⊢
          have := hrf 5 (Or.inl rfl) w
          exact kbk _ this.1 this.2 (hcl.1 w)) (fun w => by
          rw [i2] at w ⊢
          have := hrf 6 (Or.inr rfl) w
          exact kbk _ this.1 this.2 (hcl.2.1 w))
        rw [i2] at hCI
        have g := ih (k + 1) (lrn m1 (nc p) ((k : Int) + 1) (cellV m ((k : Int) + 1) 2)) (by omega) ⟨hCI, fun x w => ?_, fun x => ?_, ?_, fun c c1 c2 j => ?_⟩
        · rw [hms, hb2, ha2, show b2i (true && !false) = 1 from rfl] at g
          rw [show jwr ((k : Int) + 1 + 1) = ((k + 1 : Nat) : Int) + 1 from (jw1 (by omega) (by omega)).trans (by omega), show jwr (mtC m (nc p) (nc q) k + 1) = mtC m (nc p) (nc q) k + 1 from jw1 (by omega) (by omega)]
          exact g
        · rw [lrn_fr.cell (by simp; omega) (by simp; omega), i2]
        · rw [lrn_kn, i3]
          by_cases hx : x = (k : Int) + 1
          · subst hx
            rw [if_pos rfl, if_pos ⟨by omega, hb2⟩]
          · rw [if_neg hx]
            by_cases hc2 : (1 ≤ x ∧ x ≤ (k : Int)) ∧ kb m (nc q) x = true
            · rw [if_pos hc2, if_pos ⟨by omega, hc2.2⟩]
            · rw [if_neg hc2, if_neg (fun w => hc2 ⟨by omega, w.2⟩)]
        · rw [lrn_tm, i4]
          show _ = if _ then _ else _
          rw [hb2, ha2]
          by_cases hx : tmF m (nc p) (nc q) k < cellV m ((k : Int) + 1) 2
          · rw [if_pos hx, if_pos ⟨rfl, hx⟩]
          · rw [if_neg hx, if_neg (fun w => hx w.2)]
        · rw [lrn_fr c (by simp; omega), i5 c c1 c2]
      · simp only [true_and, and_true, true_or, or_true, or_false, false_or, false_and, and_false, not_true, not_false_iff, ne_eq, and_self, eq_self, if_true, if_false, ite_true, ite_false, Nat.reduceLeDiff, Int.cast_ofNat_Int, Int.reduceLT, Int.reduceLE, Int.reduceEq, Int.reduceNeg, reduceCtorEq, jup_ap, Nat.reduceEqDiff, Nat.reduceAdd, Bool.true_eq_false]
        exact same (by rw [hb2, ha2]; rfl)
