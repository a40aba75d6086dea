/-! what is said of the rows is said of the cells below 16 alone -/
section Low
variable {m m1 : jM} (hF : ∀ b, b < 16 → ∀ j, m1 b j = m b j) {a : Nat} (ha : a ≤ 14)
theorem lo_cell (hF : ∀ b, b < 16 → ∀ j, m1 b j = m b j) : cellV m1 = cellV m := by
  funext r w
  unfold cellV
  rw [hF 2 (by decide), hF 3 (by decide)]
theorem lo_undo (hF : ∀ b, b < 16 → ∀ j, m1 b j = m b j) : undoV m1 = undoV m := by
  funext r
  unfold undoV
  rw [hF 2 (by decide), hF 4 (by decide)]
theorem lo_kb (hF : ∀ b, b < 16 → ∀ j, m1 b j = m b j) (ha : a ≤ 14) : kb m1 a = kb m a := by
  funext r
  unfold kb
  rw [hF (a + 1) (by omega)]
theorem lo_gd (hF : ∀ b, b < 16 → ∀ j, m1 b j = m b j) (ha : a ≤ 14) : gd m1 a = gd m a := by
  funext r
  unfold gd
  rw [lo_kb hF ha, lo_undo hF]
theorem lo_dlt (hF : ∀ b, b < 16 → ∀ j, m1 b j = m b j) (ha : a ≤ 14) (x : Int) : ∀ k, dlt m1 a x k = dlt m a x k
  | 0 => rfl
  | k + 1 => by
    unfold dlt
    rw [lo_dlt hF ha x k, lo_gd hF ha, lo_cell hF]
theorem lo_vs (hF : ∀ b, b < 16 → ∀ j, m1 b j = m b j) (ha : a ≤ 14) : vs m1 a = vs m a := by
  funext x
  unfold vs
  rw [lo_gd hF ha, lo_cell hF, lo_dlt hF ha, hF 2 (by decide)]
theorem lo_PL (hF : ∀ b, b < 16 → ∀ j, m1 b j = m b j) : PLm m1 = PLm m := by
  unfold PLm
  rw [hF 2 (by decide)]
  exact ar_congr (fun i _ => hF 6 (by decide) i)
theorem lo_vis (hF : ∀ b, b < 16 → ∀ j, m1 b j = m b j) (ha : a ≤ 14) : visL m1 a = visL m a := by
  unfold visL
  rw [lo_PL hF, lo_vs hF ha]
theorem lo_tx (hF : ∀ b, b < 16 → ∀ j, m1 b j = m b j) (ha : a ≤ 14) : tx m1 a = tx m a := by
  funext i
  unfold tx txt
  rw [lo_vis hF ha, lo_cell hF]
theorem lo_ah (hF : ∀ b, b < 16 → ∀ j, m1 b j = m b j) (ha : a ≤ 14) : ahF m1 a = ahF m a := by
  funext x
  unfold ahF
  rw [lo_PL hF, lo_vs hF ha]
theorem lo_ab (hF : ∀ b, b < 16 → ∀ j, m1 b j = m b j) (ha : a ≤ 14) : abF m1 a = abF m a := by
  funext x
  unfold abF
  rw [lo_ah hF ha, lo_vs hF ha]
theorem lo_ly (hF : ∀ b, b < 16 → ∀ j, m1 b j = m b j) (ha : a ≤ 14) : lyF m1 a = lyF m a ∧ lyT m1 a = lyT m a := by
  have e : lyF m1 a = lyF m a := by
    funext r
    unfold lyF
    rw [lo_ah hF ha, lo_cell hF]
  refine ⟨e, ?_⟩
  funext r
  unfold lyT
  rw [e, lo_ab hF ha, lo_cell hF]
theorem lo_stE (hF : ∀ b, b < 16 → ∀ j, m1 b j = m b j) (ha : a ≤ 14) (s : Nat) : stE m1 a s = stE m a s := by
  funext r
  unfold stE
  rw [lo_cell hF, lo_ah hF ha, lo_ab hF ha]
theorem lo_sv (hF : ∀ b, b < 16 → ∀ j, m1 b j = m b j) (ha : a ≤ 14) (s : Nat) (k c : Int) : ∀ j, svK m1 a s k c j = svK m a s k c j
  | 0 => rfl
  | j + 1 => by
    unfold svK
    rw [lo_sv hF ha s k c j, lo_gd hF ha, lo_cell hF, lo_ah hF ha, lo_stE hF ha, hF 5 (by decide)]
theorem lo_kd (hF : ∀ b, b < 16 → ∀ j, m1 b j = m b j) (ha : a ≤ 14) (x : Int) : ∀ j, kdK m1 a x j = kdK m a x j
  | 0 => rfl
  | j + 1 => by
    unfold kdK
    rw [lo_kd hF ha x j, lo_gd hF ha, lo_cell hF, hF 5 (by decide)]
end Low
/-- a view that is filled for node a -/
def FullV (m m1 : jM) (v a s n : Nat) : Prop := VwP m m1 v a s ∧ ar (m1 (v + 1)) s = visL m a ∧ (∀ j : Int, 0 ≤ j → j < s → m1 (v + 2) j = tx m a j) ∧ pnP m m1 v a s n ∧ ∀ x : Int, 0 ≤ x → x < 251 → m1 (v + 7) x = kdK m a x n
abbrev vAll (v : Nat) : List Nat := [v, v + 1, v + 2, v + 3, v + 4, v + 5, v + 6, v + 7]
theorem w_T_showAll {v a n : Nat} (hv : isW v) (ha : isN a) (L : Nat) (m m1 : jM) (Q : jV → jG → jM → Prop) (h : CI m n) (hlo : ∀ b, b < 16 → ∀ j, m1 b j = m b j)
    (hQ : ∀ m' s, Fr m1 m' (vAll v) → FullV m m' v a s n → Q jU (g0 L) m') : wp 30 0 [jO (some 1), jO (some v), jO (some a)] [] (g0 L) m1 Q := by
  have hv16 : 16 ≤ v := by unfold isW at hv; omega
  have ha14 : a ≤ 14 := by unfold isN at ha; omega
  have h1 : CI m1 n := h.fr hlo
  simp only [x_T_showAll_0, x_T_showAll_1, x_T_showAll_2, x_T_showAll_5, x_T_showAll_6, x_T_showAll_9, x_T_showAll_10, x_T_showAll_11, x_T_showAll_14, x_T_showAll_17, x_T_showAll_18, x_T_showAll_19, x_T_showAll_22, x_T_showAll_25, sk_0, sk_1, sk_2, sk_3, sk_4, sk_5, sk_6, sk_7, sk_8, sk_9, sk_10, sk_11, sk_12, sk_13, sk_14, sk_15, sk_16, sk_17, sk_18, sk_19, sk_20, sk_21, sk_22, sk_23, sk_24, sk_25, sk_26, sk_27, sk_28, sk_29, sk_30, sk_31, sk_32, sk_33, sk_34, sk_35, sk_36, sk_37, sk_38, sk_39, sk_40, sk_41, sk_42, sk_43, sk_44, sk_45, sk_46, sk_47, sk_48, sk_49, sk_50, sk_51, sk_52, sk_53, sn_0, sn_1, sn_2, sn_3, sn_4, sn_5, sn_6, sn_7, sn_8, sn_9, sn_10, sn_11, sn_12, sn_13, sn_14, sn_15, sn_16, sn_17, sn_18, sn_19, sn_20, sn_21, sn_22, sn_23, sn_24, sn_25, sn_26, sn_27, sn_28, sn_29, sn_30, sn_31, sn_32, sn_33, sn_34, sn_35, sn_36, sn_37, sn_38, sn_39, sn_40, sn_41, sn_42, sn_43, sn_44, sn_45, sn_46, sn_47, sn_48, sn_49, sn_50, sn_51, sn_52, sn_53, rf_2_1, rf_2_2, rf_2_3, rf_2_4, rf_1_0, rf_1_1, rf_8_0, rf_7_0, rf_10_0, rf_7_1, rf_12_0, rf_7_2, rf_14_0, rf_7_3, rf_16_1, rf_16_2, rf_16_3, rf_16_4, rf_16_5, rf_16_6, rf_16_7, rf_1_2, rf_24_1, rf_24_2, rf_24_3, rf_24_4, rf_24_5, rf_24_6, rf_24_7, rf_1_3, rf_32_2, rf_32_3, rf_32_4, rf_32_5, rf_32_6, rf_32_7, rf_32_8, rf_32_9, rf_32_10, rf_32_12, rf_32_14, rf_32_15, rf_32_16, rf_32_18, rf_32_19, rf_32_21, rf_32_25, rf_32_26, rf_32_27, rf_32_28, rf_32_30, true_and, and_true, true_or, or_true, or_false, false_or, false_and, and_false, not_true, not_false_iff, ne_eq, and_self, eq_self, if_true, if_false, ite_true, ite_false, Nat.reduceLeDiff, Int.cast_ofNat_Int, Int.reduceLT, Int.reduceLE, Int.reduceEq, Int.reduceNeg, reduceCtorEq, jup_ap, Nat.reduceEqDiff, Nat.reduceAdd, kv0 hv, rv1 hv, kv1 hv, nv1 hv, rv2 hv, kv2 hv, nv2 hv, rv3 hv, kv3 hv, nv3 hv, rv4 hv, kv4 hv, nv4 hv, rv5 hv, kv5 hv, nv5 hv, rv6 hv, kv6 hv, nv6 hv, rv7 hv, kv7 hv, nv7 hv]
  refine w_V_show hv ha L m1 _ h1.cw (fun m2 s hF2 hs => ?_)
  have hlo2 : ∀ b, b < 16 → ∀ j, m2 b j = m1 b j := fun b hb j => hF2 b (by simp; omega) j
  have hV2 := ShowP.vw h1 hlo2 hs
  simp only [x_T_showAll_0, x_T_showAll_1, x_T_showAll_2, x_T_showAll_5, x_T_showAll_6, x_T_showAll_9, x_T_showAll_10, x_T_showAll_11, x_T_showAll_14, x_T_showAll_17, x_T_showAll_18, x_T_showAll_19, x_T_showAll_22, x_T_showAll_25, sk_0, sk_1, sk_2, sk_3, sk_4, sk_5, sk_6, sk_7, sk_8, sk_9, sk_10, sk_11, sk_12, sk_13, sk_14, sk_15, sk_16, sk_17, sk_18, sk_19, sk_20, sk_21, sk_22, sk_23, sk_24, sk_25, sk_26, sk_27, sk_28, sk_29, sk_30, sk_31, sk_32, sk_33, sk_34, sk_35, sk_36, sk_37, sk_38, sk_39, sk_40, sk_41, sk_42, sk_43, sk_44, sk_45, sk_46, sk_47, sk_48, sk_49, sk_50, sk_51, sk_52, sk_53, sn_0, sn_1, sn_2, sn_3, sn_4, sn_5, sn_6, sn_7, sn_8, sn_9, sn_10, sn_11, sn_12, sn_13, sn_14, sn_15, sn_16, sn_17, sn_18, sn_19, sn_20, sn_21, sn_22, sn_23, sn_24, sn_25, sn_26, sn_27, sn_28, sn_29, sn_30, sn_31, sn_32, sn_33, sn_34, sn_35, sn_36, sn_37, sn_38, sn_39, sn_40, sn_41, sn_42, sn_43, sn_44, sn_45, sn_46, sn_47, sn_48, sn_49, sn_50, sn_51, sn_52, sn_53, rf_2_1, rf_2_2, rf_2_3, rf_2_4, rf_1_0, rf_1_1, rf_8_0, rf_7_0, rf_10_0, rf_7_1, rf_12_0, rf_7_2, rf_14_0, rf_7_3, rf_16_1, rf_16_2, rf_16_3, rf_16_4, rf_16_5, rf_16_6, rf_16_7, rf_1_2, rf_24_1, rf_24_2, rf_24_3, rf_24_4, rf_24_5, rf_24_6, rf_24_7, rf_1_3, rf_32_2, rf_32_3, rf_32_4, rf_32_5, rf_32_6, rf_32_7, rf_32_8, rf_32_9, rf_32_10, rf_32_12, rf_32_14, rf_32_15, rf_32_16, rf_32_18, rf_32_19, rf_32_21, rf_32_25, rf_32_26, rf_32_27, rf_32_28, rf_32_30, true_and, and_true, true_or, or_true, or_false, false_or, false_and, and_false, not_true, not_false_iff, ne_eq, and_self, eq_self, if_true, if_false, ite_true, ite_false, Nat.reduceLeDiff, Int.cast_ofNat_Int, Int.reduceLT, Int.reduceLE, Int.reduceEq, Int.reduceNeg, reduceCtorEq, jup_ap, Nat.reduceEqDiff, Nat.reduceAdd, kv0 hv, rv1 hv, kv1 hv, nv1 hv, rv2 hv, kv2 hv, nv2 hv, rv3 hv, kv3 hv, nv3 hv, rv4 hv, kv4 hv, nv4 hv, rv5 hv, kv5 hv, nv5 hv, rv6 hv, kv6 hv, nv6 hv, rv7 hv, kv7 hv, nv7 hv]
  refine w_V_paint hv L m1 m2 _ h1 hV2 (fun m3 hF3 hp => ?_)
  have hV3 := hV2.fr3 hv hF3
  simp only [x_T_showAll_0, x_T_showAll_1, x_T_showAll_2, x_T_showAll_5, x_T_showAll_6, x_T_showAll_9, x_T_showAll_10, x_T_showAll_11, x_T_showAll_14, x_T_showAll_17, x_T_showAll_18, x_T_showAll_19, x_T_showAll_22, x_T_showAll_25, sk_0, sk_1, sk_2, sk_3, sk_4, sk_5, sk_6, sk_7, sk_8, sk_9, sk_10, sk_11, sk_12, sk_13, sk_14, sk_15, sk_16, sk_17, sk_18, sk_19, sk_20, sk_21, sk_22, sk_23, sk_24, sk_25, sk_26, sk_27, sk_28, sk_29, sk_30, sk_31, sk_32, sk_33, sk_34, sk_35, sk_36, sk_37, sk_38, sk_39, sk_40, sk_41, sk_42, sk_43, sk_44, sk_45, sk_46, sk_47, sk_48, sk_49, sk_50, sk_51, sk_52, sk_53, sn_0, sn_1, sn_2, sn_3, sn_4, sn_5, sn_6, sn_7, sn_8, sn_9, sn_10, sn_11, sn_12, sn_13, sn_14, sn_15, sn_16, sn_17, sn_18, sn_19, sn_20, sn_21, sn_22, sn_23, sn_24, sn_25, sn_26, sn_27, sn_28, sn_29, sn_30, sn_31, sn_32, sn_33, sn_34, sn_35, sn_36, sn_37, sn_38, sn_39, sn_40, sn_41, sn_42, sn_43, sn_44, sn_45, sn_46, sn_47, sn_48, sn_49, sn_50, sn_51, sn_52, sn_53, rf_2_1, rf_2_2, rf_2_3, rf_2_4, rf_1_0, rf_1_1, rf_8_0, rf_7_0, rf_10_0, rf_7_1, rf_12_0, rf_7_2, rf_14_0, rf_7_3, rf_16_1, rf_16_2, rf_16_3, rf_16_4, rf_16_5, rf_16_6, rf_16_7, rf_1_2, rf_24_1, rf_24_2, rf_24_3, rf_24_4, rf_24_5, rf_24_6, rf_24_7, rf_1_3, rf_32_2, rf_32_3, rf_32_4, rf_32_5, rf_32_6, rf_32_7, rf_32_8, rf_32_9, rf_32_10, rf_32_12, rf_32_14, rf_32_15, rf_32_16, rf_32_18, rf_32_19, rf_32_21, rf_32_25, rf_32_26, rf_32_27, rf_32_28, rf_32_30, true_and, and_true, true_or, or_true, or_false, false_or, false_and, and_false, not_true, not_false_iff, ne_eq, and_self, eq_self, if_true, if_false, ite_true, ite_false, Nat.reduceLeDiff, Int.cast_ofNat_Int, Int.reduceLT, Int.reduceLE, Int.reduceEq, Int.reduceNeg, reduceCtorEq, jup_ap, Nat.reduceEqDiff, Nat.reduceAdd, kv0 hv, rv1 hv, kv1 hv, nv1 hv, rv2 hv, kv2 hv, nv2 hv, rv3 hv, kv3 hv, nv3 hv, rv4 hv, kv4 hv, nv4 hv, rv5 hv, kv5 hv, nv5 hv, rv6 hv, kv6 hv, nv6 hv, rv7 hv, kv7 hv, nv7 hv]
  refine w_V_tellKinds (a := a) hv L m1 m3 _ h1 hV3.1 (fun r r1 r2 => (hV3.2.2.2.2.2 r r1 (by rw [h1.1]; exact r2)).1) (fun m4 hF4 hk => ?_)
  refine hQ m4 s (((hF2.weak (by simp)).trans (hF3.weak (by simp))).trans (hF4.weak (by simp))) ?_
  obtain ⟨v1, v2, v3, v4, v5, v6⟩ := hV3
  refine ⟨⟨fun b hb j => ?_, by rw [← lo_vis hlo ha14]; exact v2, v3, by rw [hF4 v (by simp)]; exact v4, fun x hx => ?_, fun x x1 x2 => ?_⟩, ?_, fun j j1 j2 => ?_, fun k k1 k2 => ?_, fun x x1 x2 => ?_⟩
  · rw [hF4 b (by simp; omega), v1 b hb, hlo b hb]
  · rw [hF4 (v + 6) (by simp), v5 x (by rw [lo_PL hlo]; exact hx), lo_ah hlo ha14]
  · rw [hF4 (v + 4) (by simp), hF4 (v + 5) (by simp), (v6 x x1 (by rw [hlo 2 (by decide)]; exact x2)).1, (v6 x x1 (by rw [hlo 2 (by decide)]; exact x2)).2, lo_gd hlo ha14, lo_vs hlo ha14]
    exact ⟨rfl, rfl⟩
  · rw [← lo_vis hlo ha14, ← hs.2.2.2.1]
    exact ar_congr (fun i _ => by rw [hF4 (v + 1) (by simp), hF3 (v + 1) (by simp)])
  · rw [hF4 (v + 2) (by simp), hF3 (v + 2) (by simp), ← lo_tx hlo ha14]
    exact tx_of hs j j1 j2
  · obtain ⟨g1, g2⟩ := hp k k1 k2
    rw [hF4 (v + 3) (by simp)]
    exact ⟨g1, fun c hc => by rw [g2 c hc, lo_sv hlo ha14]⟩
  · rw [hk x x1 x2, lo_kd hlo ha14]
theorem FullV.keep {m m1 m2 : jM} {v a s n : Nat} (hv : 16 ≤ v) (h : FullV m m1 v a s n) {w : Nat} (hF : Fr m1 m2 (vAll w)) (hw : (v = 16 ∧ w = 24) ∨ (v = 24 ∧ w = 16)) : FullV m m2 v a s n := by
  have e : ∀ b, (b < 16 ∨ (v ≤ b ∧ b ≤ v + 7)) → ∀ j, m2 b j = m1 b j := fun b hb j => hF b (by simp; omega) j
  obtain ⟨⟨v1, v2, v3, v4, v5, v6⟩, f1, f2, f3, f4⟩ := h
  refine ⟨⟨fun b hb j => by rw [e b (Or.inl hb)]; exact v1 b hb j, v2, v3, by rw [e v (by omega)]; exact v4, fun x hx => by rw [e (v + 6) (by omega)]; exact v5 x hx, fun x a b => by rw [e (v + 4) (by omega), e (v + 5) (by omega)]; exact v6 x a b⟩, ?_, fun j j1 j2 => by rw [e (v + 2) (by omega)]; exact f2 j j1 j2, fun k k1 k2 => by rw [e (v + 3) (by omega)]; exact f3 k k1 k2, fun x x1 x2 => by rw [e (v + 7) (by omega)]; exact f4 x x1 x2⟩
  rw [← f1]
  exact ar_congr (fun i _ => e (v + 1) (by omega) i)
