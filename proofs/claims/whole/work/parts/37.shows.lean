/-- what the class's rows always keep: how many, what deletes name, the list of places -/
def CW (m : jM) : Prop := (0 ≤ m 2 0 ∧ m 2 0 ≤ 250) ∧ (∀ d : Int, 1 ≤ d → d ≤ m 2 0 → cellV m d 0 = 1 → 1 ≤ cellV m d 5 ∧ cellV m d 5 < d) ∧ (0 ≤ m 2 5 ∧ m 2 5 ≤ 250) ∧
  (∀ j : Nat, (j : Int) < m 2 5 → 1 ≤ m 6 j ∧ m 6 j ≤ m 2 0) ∧ (∀ j k : Nat, (j : Int) < m 2 5 → (k : Int) < m 2 5 → m 6 j = m 6 k → j = k)
def PLm (m : jM) : List Int := ar (m 6) (m 2 5).toNat
def visL (m : jM) (a : Nat) : List Int := (PLm m).filter (vs m a)
def ShowP (m m' : jM) (v a s : Nat) : Prop := (visL m a).length = s ∧ s ≤ 250 ∧ m' v 0 = (s : Int) ∧ ar (m' (v + 1)) s = visL m a ∧ ar (m' (v + 2)) s = (visL m a).map (fun x => cellV m x 3) ∧
  (∀ j : Nat, (j : Int) < m 2 5 → m' (v + 6) (m 6 j) = ((((PLm m).take j).filter (vs m a)).length : Int)) ∧ ∀ x : Int, 1 ≤ x → x ≤ m 2 0 → m' (v + 4) x = b2i (gd m a x) ∧ m' (v + 5) x = b2i (vs m a x)
abbrev vCells (v : Nat) : List Nat := [v, v + 1, v + 2, v + 4, v + 5, v + 6]
theorem w_V_show {v a : Nat} (hv : isW v) (ha : isN a) (L : Nat) (m : jM) (Q : jV → jG → jM → Prop) (hW : CW m)
    (hQ : ∀ m' s, Fr m m' (vCells v) → ShowP m m' v a s → Q jU (g0 L) m') : wp 97 0 [jO (some v), jO (some 2), jO (some a), jU, jU] [] (g0 L) m Q := by
  obtain ⟨hn, hd, hN, hp, hi⟩ := hW
  obtain ⟨N, hNe⟩ : ∃ N : Nat, m 2 5 = N := ⟨(m 2 5).toNat, by omega⟩
  have hN2 : N ≤ 250 := by omega
  simp only [x_V_show_0, x_V_show_1, x_V_show_2, x_V_show_3, x_V_markGoodAndSeen_0, x_V_markGoodAndSeen_1, kv0 hv, rv1 hv, kv1 hv, nv1 hv, rv2 hv, kv2 hv, nv2 hv, rv3 hv, kv3 hv, nv3 hv, rv4 hv, kv4 hv, nv4 hv, rv5 hv, kv5 hv, nv5 hv, rv6 hv, kv6 hv, nv6 hv, rv7 hv, kv7 hv, nv7 hv, true_and, and_true, true_or, or_true, or_false, false_or, false_and, and_false, not_true, not_false_iff, ne_eq, and_self, eq_self, if_true, if_false, ite_true, ite_false, Nat.reduceLeDiff, Int.cast_ofNat_Int, Int.reduceLT, Int.reduceLE, Int.reduceEq, Int.reduceNeg, reduceCtorEq, jup_ap, Nat.reduceEqDiff, Nat.reduceAdd]
  refine wl_V_mark hv ha L m _ hn hd (fun m0 hF0 hm => ?_) (m 2 0).toNat 1 jU m (by omega) (by omega) Fr.rf (fun x h1 h2 => by omega)
  simp only [x_V_show_6, x_V_show_7, x_V_show_8, x_V_show_11, x_V_show_12, kv0 hv, rv1 hv, kv1 hv, nv1 hv, rv2 hv, kv2 hv, nv2 hv, rv3 hv, kv3 hv, nv3 hv, rv4 hv, kv4 hv, nv4 hv, rv5 hv, kv5 hv, nv5 hv, rv6 hv, kv6 hv, nv6 hv, rv7 hv, kv7 hv, nv7 hv, true_and, and_true, true_or, or_true, or_false, false_or, false_and, and_false, not_true, not_false_iff, ne_eq, and_self, eq_self, if_true, if_false, ite_true, ite_false, Nat.reduceLeDiff, Int.cast_ofNat_Int, Int.reduceLT, Int.reduceLE, Int.reduceEq, Int.reduceNeg, reduceCtorEq, jup_ap, Nat.reduceEqDiff, Nat.reduceAdd]
  have hF1 : Fr m0 (jup m0 v 0 0) [v, v + 1, v + 2, v + 6] := Fr.rf.up (by simp)
  have hfil : ∀ (l : List Int), (∀ x ∈ l, 1 ≤ x ∧ x ≤ m 2 0) → l.filter (fun x => decide (m0 (v + 5) x ≠ 0)) = l.filter (vs m a) := by
    intro l hl
    apply List.filter_congr
    intro x hx
    have := (hm x (hl x hx).1 (hl x hx).2).2
    rw [this]
    cases vs m a x <;> simp [b2i]
  have hmem : ∀ k : Nat, k ≤ N → ∀ x ∈ ar (m 6) k, 1 ≤ x ∧ x ≤ m 2 0 := by
    intro k hk x hx
    obtain ⟨i, h1, h2⟩ := ar_mem.mp hx
    rw [← h2]
    exact hp i (by omega)
  have hPL : PLm m = ar (m 6) N := by unfold PLm; rw [hNe]; rfl
  have hV : ∀ k : Nat, k ≤ N → VLk m m0 v k = ((PLm m).take k).filter (vs m a) := by
    intro k hk
    unfold VLk
    rw [hPL, ar_take _ _ k hk, hfil _ (hmem k hk)]
  have hVN : VLk m m0 v N = visL m a := by
    rw [hV N (Nat.le_refl _)]
    unfold visL
    rw [hPL, ar_take _ _ N (Nat.le_refl _)]
  refine wl_V_show hv L m m0 Q hF0 hn N hNe hN2 (fun j hj => hp j (by omega)) (fun j k hj hk => hi j k (by omega) (by omega)) (fun m' s hF hs => ?_) N 0 0 jU _ (by omega) hF1 ⟨rfl, ?_, rfl, rfl, fun j hj => by omega⟩
  · obtain ⟨s1, s2, s3, s4, s5⟩ := hs
    have hle : s ≤ N := s1 ▸ VLk_le m m0 v N
    refine hQ m' s ?_ ⟨by rw [← hVN]; exact s1, by omega, s2, by rw [← hVN]; exact s3, by rw [← hVN]; exact s4, fun j hj => ?_, fun x h1 h2 => ?_⟩
    · intro b hb j
      have hb2 : b ∉ [v, v + 1, v + 2, v + 6] := fun q => hb (by simp at q ⊢; omega)
      have hb3 : b ∉ [v + 4, v + 5] := fun q => hb (by simp at q ⊢; omega)
      rw [hF b hb2, hF0 b hb3]
    · rw [s5 j (by omega), hV j (by omega)]
    · rw [hF (v + 4) (by simp), hF (v + 5) (by simp)]
      exact hm x h1 h2
  · simp only [jup_ap, true_and, and_true, true_or, or_true, or_false, false_or, false_and, and_false, not_true, not_false_iff, ne_eq, and_self, eq_self, if_true, if_false, ite_true, ite_false, Nat.reduceLeDiff, Int.cast_ofNat_Int, Int.reduceLT, Int.reduceLE, Int.reduceEq, Int.reduceNeg, reduceCtorEq, jup_ap, Nat.reduceEqDiff, Nat.reduceAdd]
theorem w_T_shows (L : Nat) (p : Int) (m : jM) (Q : jV → jG → jM → Prop) (hW : CW m) (h0 : ¬ (0 ≤ p ∧ p < 4) → Q (jI 0) (g0 L) m)
    (hQ : (0 ≤ p ∧ p < 4) → ∀ m' s, Fr m m' (vCells 16) → ShowP m m' 16 (8 + 2 * p.toNat) s → Q (jI 1) (g0 L) m') : wp 24 0 [jO (some 1), jI p, jU] [] (g0 L) m Q := by
  simp only [x_T_shows_0, x_T_shows_1, x_T_shows_2, x_T_shows_5, x_T_shows_6, x_T_shows_7n, x_T_shows_7s, x_T_shows_10, x_T_shows_11, x_T_shows_12, x_T_shows_13, x_T_shows_16, x_T_shows_17, x_T_shows_20, x_T_shows_21, x_T_shows_24, x_T_shows_25, w_T_nodeOf, sk_0, sk_1, sk_2, sk_3, sk_4, sk_5, sk_6, sk_7, sk_8, sk_9, sk_10, sk_11, sk_12, sk_13, sk_14, sk_15, sk_16, sk_17, sk_18, sk_19, sk_20, sk_21, sk_22, sk_23, sk_24, sk_25, sk_26, sk_27, sk_28, sk_29, sk_30, sk_31, sk_32, sk_33, sk_34, sk_35, sk_36, sk_37, sk_38, sk_39, sk_40, sk_41, sk_42, sk_43, sk_44, sk_45, sk_46, sk_47, sk_48, sk_49, sk_50, sk_51, sk_52, sk_53, sn_0, sn_1, sn_2, sn_3, sn_4, sn_5, sn_6, sn_7, sn_8, sn_9, sn_10, sn_11, sn_12, sn_13, sn_14, sn_15, sn_16, sn_17, sn_18, sn_19, sn_20, sn_21, sn_22, sn_23, sn_24, sn_25, sn_26, sn_27, sn_28, sn_29, sn_30, sn_31, sn_32, sn_33, sn_34, sn_35, sn_36, sn_37, sn_38, sn_39, sn_40, sn_41, sn_42, sn_43, sn_44, sn_45, sn_46, sn_47, sn_48, sn_49, sn_50, sn_51, sn_52, sn_53, rf_2_1, rf_2_2, rf_2_3, rf_2_4, rf_1_0, rf_1_1, rf_8_0, rf_7_0, rf_10_0, rf_7_1, rf_12_0, rf_7_2, rf_14_0, rf_7_3, rf_16_1, rf_16_2, rf_16_3, rf_16_4, rf_16_5, rf_16_6, rf_16_7, rf_1_2, rf_24_1, rf_24_2, rf_24_3, rf_24_4, rf_24_5, rf_24_6, rf_24_7, rf_1_3, rf_32_2, rf_32_3, rf_32_4, rf_32_5, rf_32_6, rf_32_7, rf_32_8, rf_32_9, rf_32_10, rf_32_12, rf_32_14, rf_32_15, rf_32_16, rf_32_18, rf_32_19, rf_32_21, rf_32_25, rf_32_26, rf_32_27, rf_32_28, rf_32_30, true_and, and_true, true_or, or_true, or_false, false_or, false_and, and_false, not_true, not_false_iff, ne_eq, and_self, eq_self, if_true, if_false, ite_true, ite_false, Nat.reduceLeDiff, Int.cast_ofNat_Int, Int.reduceLT, Int.reduceLE, Int.reduceEq, Int.reduceNeg, reduceCtorEq, jup_ap, Nat.reduceEqDiff, Nat.reduceAdd]
  by_cases hp : 0 ≤ p ∧ p < 4
  · rw [if_pos hp]
    exact w_V_show (Or.inl rfl) (isN_of hp) L m _ hW (fun m' s hF hs => hQ hp m' s hF hs)
  · rw [if_neg hp]
    exact h0 hp
