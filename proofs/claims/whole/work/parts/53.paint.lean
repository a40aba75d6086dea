/-! the styles -/
def stE (m : jM) (a s : Nat) (r : Int) : Int := if cellV m r 3 < 2 then (if cellV m r 6 = 0 then (s : Int) else ahF m a (cellV m r 6)) else abF m a (cellV m r 6)
/-- a view that shows node a: what painting needs of it -/
def VwP (m m1 : jM) (v a s : Nat) : Prop := (∀ b, b < 16 → ∀ j, m1 b j = m b j) ∧ (visL m a).length = s ∧ s ≤ 250 ∧ m1 v 0 = (s : Int) ∧ (∀ x ∈ PLm m, m1 (v + 6) x = ahF m a x) ∧ (∀ x : Int, 1 ≤ x → x ≤ m 2 0 → m1 (v + 4) x = b2i (gd m a x) ∧ m1 (v + 5) x = b2i (vs m a x))
theorem ShowP.vw {m m1 : jM} {n v a s : Nat} (h : CI m n) (hF : ∀ b, b < 16 → ∀ j, m1 b j = m b j) (hs : ShowP m m1 v a s) : VwP m m1 v a s :=
  ⟨hF, hs.1, hs.2.1, hs.2.2.1, fun _ hx => sh_ahead h hs hx, hs.2.2.2.2.2.2⟩
theorem ab_le {m : jM} {n a s : Nat} (h : CI m n) (hs : (visL m a).length = s) {x : Int} (hx : x ∈ PLm m) : ahF m a x ≤ s ∧ abF m a x ≤ s := by
  obtain ⟨j, hj⟩ := List.getElem?_of_mem hx
  have hl := (List.getElem?_eq_some_iff.mp hj).1
  have e : PLm m = (PLm m).take j ++ x :: (PLm m).drop (j + 1) := by
    have h1 := List.take_append_drop j (PLm m)
    rw [List.drop_eq_getElem_cons hl] at h1
    have hg : (PLm m)[j]'hl = x := by
      have h2 := List.getElem?_eq_getElem (l := PLm m) (i := j) hl
      rw [hj] at h2
      exact (Option.some.inj h2).symm
    rw [hg] at h1
    exact h1.symm
  have hc : (visL m a).length = (((PLm m).take j).filter (vs m a)).length + ((x :: (PLm m).drop (j + 1)).filter (vs m a)).length := by
    unfold visL
    conv => lhs; rw [e]
    rw [List.filter_append, List.length_append]
  have ha : ahF m a x = ((((PLm m).take j).filter (vs m a)).length : Int) := by
    unfold ahF
    rw [takeW _ j x h.plnd hj]
  obtain ⟨u, hu⟩ : ∃ u, u = (((PLm m).take j).filter (vs m a)).length := ⟨_, rfl⟩
  obtain ⟨w, hw⟩ : ∃ w, w = ((x :: (PLm m).drop (j + 1)).filter (vs m a)).length := ⟨_, rfl⟩
  have hb : b2i (vs m a x) ≤ (w : Int) := by
    rw [hw, List.filter_cons]
    cases vs m a x
    · exact Int.natCast_nonneg _
    · rw [if_pos rfl, List.length_cons]
      show (1 : Int) ≤ _
      rw [Int.natCast_add]
      have := Int.natCast_nonneg ((List.filter (vs m a) (List.drop (j + 1) (PLm m))).length)
      simp only [Int.natCast_one] at *
      omega
  have hb0 := b2i_01 (vs m a x)
  rw [← hu, ← hw, hs] at hc
  rw [← hu] at ha
  unfold abF
  clear hu hw hj e hl
  omega
theorem w_V_endOf {m m1 : jM} {n v a s : Nat} (hv : isW v) (h : CI m n) (hV : VwP m m1 v a s) (L : Nat) {r : Int} (hr : 1 ≤ r ∧ r ≤ n) (h2 : cellV m r 0 = 2) (Q : jV → jG → jM → Prop) :
    wp 114 0 [jO (some v), jI (cellV m r 3), jI (cellV m r 6)] [] (g0 L) m1 Q = Q (jI (stE m a s r)) (g0 L) m1 := by
  obtain ⟨hlo, hs, hs2, hsz, hah, hgs⟩ := hV
  have hn := h.2.1
  have hro := (h.2.2.1 r hr.1 hr.2).2.2.2.2.2.1 h2
  have hz : cellV m r 6 ≠ 0 → cellV m r 6 ∈ PLm m ∧ 1 ≤ cellV m r 6 ∧ cellV m r 6 ≤ n := fun q => by
    have := hro.2.1.resolve_right (fun w => q w.1)
    unfold isIns at this
    exact ⟨h.plm.mpr ⟨by omega, this.2.2⟩, by omega⟩
  have e1 : cellV m r 6 ≠ 0 → ahV m1 v (cellV m r 6) = ahF m a (cellV m r 6) := fun q => by
    have hq := hz q
    unfold ahV
    rw [if_pos (by omega), hah _ hq.1]
  simp only [x_V_endOf_0, x_V_endOf_1, x_V_endOf_4, x_V_endOf_7, x_V_endOf_8, x_V_endOf_9, x_V_endOf_12, x_V_endOf_13, x_V_endOf_14, x_V_endOf_17, x_V_endOf_18, x_V_endOf_21, x_V_endOf_24, x_V_endOf_25, x_V_endOf_26, x_V_endOf_29, w_T_grows, b01_0, hsz, sk_0, sk_1, sk_2, sk_3, sk_4, sk_5, sk_6, sk_7, sk_8, sk_9, sk_10, sk_11, sk_12, sk_13, sk_14, sk_15, sk_16, sk_17, sk_18, sk_19, sk_20, sk_21, sk_22, sk_23, sk_24, sk_25, sk_26, sk_27, sk_28, sk_29, sk_30, sk_31, sk_32, sk_33, sk_34, sk_35, sk_36, sk_37, sk_38, sk_39, sk_40, sk_41, sk_42, sk_43, sk_44, sk_45, sk_46, sk_47, sk_48, sk_49, sk_50, sk_51, sk_52, sk_53, sn_0, sn_1, sn_2, sn_3, sn_4, sn_5, sn_6, sn_7, sn_8, sn_9, sn_10, sn_11, sn_12, sn_13, sn_14, sn_15, sn_16, sn_17, sn_18, sn_19, sn_20, sn_21, sn_22, sn_23, sn_24, sn_25, sn_26, sn_27, sn_28, sn_29, sn_30, sn_31, sn_32, sn_33, sn_34, sn_35, sn_36, sn_37, sn_38, sn_39, sn_40, sn_41, sn_42, sn_43, sn_44, sn_45, sn_46, sn_47, sn_48, sn_49, sn_50, sn_51, sn_52, sn_53, rf_2_1, rf_2_2, rf_2_3, rf_2_4, rf_1_0, rf_1_1, rf_8_0, rf_7_0, rf_10_0, rf_7_1, rf_12_0, rf_7_2, rf_14_0, rf_7_3, rf_16_1, rf_16_2, rf_16_3, rf_16_4, rf_16_5, rf_16_6, rf_16_7, rf_1_2, rf_24_1, rf_24_2, rf_24_3, rf_24_4, rf_24_5, rf_24_6, rf_24_7, rf_1_3, rf_32_2, rf_32_3, rf_32_4, rf_32_5, rf_32_6, rf_32_7, rf_32_8, rf_32_9, rf_32_10, rf_32_12, rf_32_14, rf_32_15, rf_32_16, rf_32_18, rf_32_19, rf_32_21, rf_32_25, rf_32_26, rf_32_27, rf_32_28, rf_32_30, true_and, and_true, true_or, or_true, or_false, false_or, false_and, and_false, not_true, not_false_iff, ne_eq, and_self, eq_self, if_true, if_false, ite_true, ite_false, Nat.reduceLeDiff, Int.cast_ofNat_Int, Int.reduceLT, Int.reduceLE, Int.reduceEq, Int.reduceNeg, reduceCtorEq, jup_ap, Nat.reduceEqDiff, Nat.reduceAdd, kv0 hv, rv1 hv, kv1 hv, nv1 hv, rv2 hv, kv2 hv, nv2 hv, rv3 hv, kv3 hv, nv3 hv, rv4 hv, kv4 hv, nv4 hv, rv5 hv, kv5 hv, nv5 hv, rv6 hv, kv6 hv, nv6 hv, rv7 hv, kv7 hv, nv7 hv]
  unfold stE
  by_cases hg : cellV m r 3 < 2
  · rw [if_pos (fun q => q hg), if_pos hg]
    by_cases h6 : cellV m r 6 = 0
    · rw [if_neg (fun q => q h6), if_pos h6]
    · rw [if_pos h6, if_neg h6, w_V_aheadOf hv, e1 h6]
      simp only [x_V_endOf_0, x_V_endOf_1, x_V_endOf_4, x_V_endOf_7, x_V_endOf_8, x_V_endOf_9, x_V_endOf_12, x_V_endOf_13, x_V_endOf_14, x_V_endOf_17, x_V_endOf_18, x_V_endOf_21, x_V_endOf_24, x_V_endOf_25, x_V_endOf_26, x_V_endOf_29, true_and, and_true, true_or, or_true, or_false, false_or, false_and, and_false, not_true, not_false_iff, ne_eq, and_self, eq_self, if_true, if_false, ite_true, ite_false, Nat.reduceLeDiff, Int.cast_ofNat_Int, Int.reduceLT, Int.reduceLE, Int.reduceEq, Int.reduceNeg, reduceCtorEq, jup_ap, Nat.reduceEqDiff, Nat.reduceAdd]
  · rw [if_neg (fun q => q hg), if_neg hg]
    have h6 : cellV m r 6 ≠ 0 := fun q => by
      rcases hro.2.1 with w | w
      · unfold isIns at w
        omega
      · exact hg w.2
    have hq := hz h6
    have hbd := ahF_bd h a (cellV m r 6)
    have e2 : abV m1 v (cellV m r 6) = abF m a (cellV m r 6) := by
      unfold abV abF
      rw [e1 h6]
      congr 1
      have hx := (hgs (cellV m r 6) hq.2.1 (by rw [h.1]; exact hq.2.2)).2
      unfold b01 b2i
      rw [hx]
      cases vs m a (cellV m r 6)
      · rw [if_neg (by simp [b2i]), if_neg (by simp)]
      · rw [if_pos ⟨by omega, by simp [b2i]⟩, if_pos rfl]
    rw [w_V_aheadBehind hv L _ m1 _ (by rw [e1 h6]; omega), e2]
    simp only [x_V_endOf_0, x_V_endOf_1, x_V_endOf_4, x_V_endOf_7, x_V_endOf_8, x_V_endOf_9, x_V_endOf_12, x_V_endOf_13, x_V_endOf_14, x_V_endOf_17, x_V_endOf_18, x_V_endOf_21, x_V_endOf_24, x_V_endOf_25, x_V_endOf_26, x_V_endOf_29, true_and, and_true, true_or, or_true, or_false, false_or, false_and, and_false, not_true, not_false_iff, ne_eq, and_self, eq_self, if_true, if_false, ite_true, ite_false, Nat.reduceLeDiff, Int.cast_ofNat_Int, Int.reduceLT, Int.reduceLE, Int.reduceEq, Int.reduceNeg, reduceCtorEq, jup_ap, Nat.reduceEqDiff, Nat.reduceAdd]
theorem wl_V_pOne {v : Nat} (hv : isW v) (L : Nat) (m1 : jM) (Q : jV → jG → jM → Prop) (r k x st en : Int) (h0 : 0 ≤ st) (hen : en ≤ 250)
    (hQ : ∀ m', Fr m1 m' [v + 3] → (∀ j : Int, m' (v + 3) j = if st ≤ j ∧ j < en then pntV k x (m1 (v + 3) j) else m1 (v + 3) j) → Q jU (g0 L) m') :
    ∀ (d : Nat) (i : Int) (m2 : jM), st ≤ i → (i + d = en ∨ (d = 0 ∧ en ≤ i ∧ i = st)) → Fr m1 m2 [v + 3] → (∀ j : Int, m2 (v + 3) j = if st ≤ j ∧ j < i then pntV k x (m1 (v + 3) j) else m1 (v + 3) j) →
      wp 113 58 [jO (some v), jO (some 2), jI r, jI k, jI (4 * k), jI (f_shl x (4 * k)), jI (f_xor (f_shl 15 (4 * k)) (-1)), jI en, jI i] [] (g0 L) m2 Q := by
  intro d
  induction d with
  | zero =>
    intro i m2 h1 h2 hF hI
    have hle : en ≤ i := by omega
    rw [x_V_paintOne_58]
    simp only [x_V_paintOne_60, x_V_paintOne_62, x_V_paintOne_91, hle, sk_0, sk_1, sk_2, sk_3, sk_4, sk_5, sk_6, sk_7, sk_8, sk_9, sk_10, sk_11, sk_12, sk_13, sk_14, sk_15, sk_16, sk_17, sk_18, sk_19, sk_20, sk_21, sk_22, sk_23, sk_24, sk_25, sk_26, sk_27, sk_28, sk_29, sk_30, sk_31, sk_32, sk_33, sk_34, sk_35, sk_36, sk_37, sk_38, sk_39, sk_40, sk_41, sk_42, sk_43, sk_44, sk_45, sk_46, sk_47, sk_48, sk_49, sk_50, sk_51, sk_52, sk_53, sn_0, sn_1, sn_2, sn_3, sn_4, sn_5, sn_6, sn_7, sn_8, sn_9, sn_10, sn_11, sn_12, sn_13, sn_14, sn_15, sn_16, sn_17, sn_18, sn_19, sn_20, sn_21, sn_22, sn_23, sn_24, sn_25, sn_26, sn_27, sn_28, sn_29, sn_30, sn_31, sn_32, sn_33, sn_34, sn_35, sn_36, sn_37, sn_38, sn_39, sn_40, sn_41, sn_42, sn_43, sn_44, sn_45, sn_46, sn_47, sn_48, sn_49, sn_50, sn_51, sn_52, sn_53, rf_2_1, rf_2_2, rf_2_3, rf_2_4, rf_1_0, rf_1_1, rf_8_0, rf_7_0, rf_10_0, rf_7_1, rf_12_0, rf_7_2, rf_14_0, rf_7_3, rf_16_1, rf_16_2, rf_16_3, rf_16_4, rf_16_5, rf_16_6, rf_16_7, rf_1_2, rf_24_1, rf_24_2, rf_24_3, rf_24_4, rf_24_5, rf_24_6, rf_24_7, rf_1_3, rf_32_2, rf_32_3, rf_32_4, rf_32_5, rf_32_6, rf_32_7, rf_32_8, rf_32_9, rf_32_10, rf_32_12, rf_32_14, rf_32_15, rf_32_16, rf_32_18, rf_32_19, rf_32_21, rf_32_25, rf_32_26, rf_32_27, rf_32_28, rf_32_30, true_and, and_true, true_or, or_true, or_false, false_or, false_and, and_false, not_true, not_false_iff, ne_eq, and_self, eq_self, if_true, if_false, ite_true, ite_false, Nat.reduceLeDiff, Int.cast_ofNat_Int, Int.reduceLT, Int.reduceLE, Int.reduceEq, Int.reduceNeg, reduceCtorEq, jup_ap, Nat.reduceEqDiff, Nat.reduceAdd, kv0 hv, rv1 hv, kv1 hv, nv1 hv, rv2 hv, kv2 hv, nv2 hv, rv3 hv, kv3 hv, nv3 hv, rv4 hv, kv4 hv, nv4 hv, rv5 hv, kv5 hv, nv5 hv, rv6 hv, kv6 hv, nv6 hv, rv7 hv, kv7 hv, nv7 hv]
    refine hQ m2 hF (fun j => ?_)
    rw [hI j]
    by_cases e : st ≤ j ∧ j < i
    · rw [if_pos e, if_pos (by omega)]
    · rw [if_neg e, if_neg (by omega)]
  | succ d ih =>
    intro i m2 h1 h2 hF hI
    have hb : 0 ≤ i ∧ i < 250 := by omega
    have hn : ¬ en ≤ i := by omega
    have hi : m2 (v + 3) i = m1 (v + 3) i := by rw [hI, if_neg (by omega)]
    rw [x_V_paintOne_58]
    simp only [x_V_paintOne_0, x_V_paintOne_1, x_V_paintOne_2, x_V_paintOne_3, x_V_paintOne_6, x_V_paintOne_7, x_V_paintOne_8, x_V_paintOne_9, x_V_paintOne_10, x_V_paintOne_12, x_V_paintOne_13, x_V_paintOne_14, x_V_paintOne_15, x_V_paintOne_18, x_V_paintOne_20, x_V_paintOne_21, x_V_paintOne_23, x_V_paintOne_25, x_V_paintOne_27, x_V_paintOne_28, x_V_paintOne_29, x_V_paintOne_30, x_V_paintOne_32, x_V_paintOne_33, x_V_paintOne_34, x_V_paintOne_35, x_V_paintOne_36, x_V_paintOne_38, x_V_paintOne_41, x_V_paintOne_44, x_V_paintOne_46, x_V_paintOne_47, x_V_paintOne_48, x_V_paintOne_49, x_V_paintOne_50, x_V_paintOne_53, x_V_paintOne_56, x_V_paintOne_60, x_V_paintOne_62, x_V_paintOne_65, x_V_paintOne_66, x_V_paintOne_69, x_V_paintOne_71, x_V_paintOne_72, x_V_paintOne_75, x_V_paintOne_77, x_V_paintOne_78, x_V_paintOne_80, x_V_paintOne_81, x_V_paintOne_83, x_V_paintOne_84, x_V_paintOne_85, x_V_paintOne_88, x_V_paintOne_91, hb, hn, hi, sk_0, sk_1, sk_2, sk_3, sk_4, sk_5, sk_6, sk_7, sk_8, sk_9, sk_10, sk_11, sk_12, sk_13, sk_14, sk_15, sk_16, sk_17, sk_18, sk_19, sk_20, sk_21, sk_22, sk_23, sk_24, sk_25, sk_26, sk_27, sk_28, sk_29, sk_30, sk_31, sk_32, sk_33, sk_34, sk_35, sk_36, sk_37, sk_38, sk_39, sk_40, sk_41, sk_42, sk_43, sk_44, sk_45, sk_46, sk_47, sk_48, sk_49, sk_50, sk_51, sk_52, sk_53, sn_0, sn_1, sn_2, sn_3, sn_4, sn_5, sn_6, sn_7, sn_8, sn_9, sn_10, sn_11, sn_12, sn_13, sn_14, sn_15, sn_16, sn_17, sn_18, sn_19, sn_20, sn_21, sn_22, sn_23, sn_24, sn_25, sn_26, sn_27, sn_28, sn_29, sn_30, sn_31, sn_32, sn_33, sn_34, sn_35, sn_36, sn_37, sn_38, sn_39, sn_40, sn_41, sn_42, sn_43, sn_44, sn_45, sn_46, sn_47, sn_48, sn_49, sn_50, sn_51, sn_52, sn_53, rf_2_1, rf_2_2, rf_2_3, rf_2_4, rf_1_0, rf_1_1, rf_8_0, rf_7_0, rf_10_0, rf_7_1, rf_12_0, rf_7_2, rf_14_0, rf_7_3, rf_16_1, rf_16_2, rf_16_3, rf_16_4, rf_16_5, rf_16_6, rf_16_7, rf_1_2, rf_24_1, rf_24_2, rf_24_3, rf_24_4, rf_24_5, rf_24_6, rf_24_7, rf_1_3, rf_32_2, rf_32_3, rf_32_4, rf_32_5, rf_32_6, rf_32_7, rf_32_8, rf_32_9, rf_32_10, rf_32_12, rf_32_14, rf_32_15, rf_32_16, rf_32_18, rf_32_19, rf_32_21, rf_32_25, rf_32_26, rf_32_27, rf_32_28, rf_32_30, true_and, and_true, true_or, or_true, or_false, false_or, false_and, and_false, not_true, not_false_iff, ne_eq, and_self, eq_self, if_true, if_false, ite_true, ite_false, Nat.reduceLeDiff, Int.cast_ofNat_Int, Int.reduceLT, Int.reduceLE, Int.reduceEq, Int.reduceNeg, reduceCtorEq, jup_ap, Nat.reduceEqDiff, Nat.reduceAdd, kv0 hv, rv1 hv, kv1 hv, nv1 hv, rv2 hv, kv2 hv, nv2 hv, rv3 hv, kv3 hv, nv3 hv, rv4 hv, kv4 hv, nv4 hv, rv5 hv, kv5 hv, nv5 hv, rv6 hv, kv6 hv, nv6 hv, rv7 hv, kv7 hv, nv7 hv]
    rw [show jwr (i + 1) = i + 1 from jw1 (by omega) (by omega)]
    refine ih (i + 1) _ (by omega) (by omega) (hF.up (by simp)) (fun j => ?_)
    rw [jup_ap]
    by_cases e : j = i
    · subst e
      rw [if_pos ⟨rfl, rfl⟩, if_pos (by omega)]
      rfl
    · rw [if_neg (fun q => e q.2), hI j]
      by_cases e2 : st ≤ j ∧ j < i
      · rw [if_pos e2, if_pos (by omega)]
      · rw [if_neg e2, if_neg (by omega)]
theorem w_V_paintOne {m m1 : jM} {n v a s : Nat} (hv : isW v) (h : CI m n) (hV : VwP m m1 v a s) (L : Nat) {r : Int} (hr : 1 ≤ r ∧ r ≤ n) (h2 : cellV m r 0 = 2) (Q : jV → jG → jM → Prop)
    (hQ : ∀ m', Fr m1 m' [v + 3] → (∀ j : Int, m' (v + 3) j = if ahF m a (cellV m r 5) ≤ j ∧ j < stE m a s r then pntV (cellV m r 3) (cellV m r 4) (m1 (v + 3) j) else m1 (v + 3) j) → Q jU (g0 L) m') :
    wp 113 0 [jO (some v), jO (some 2), jI r, jU, jU, jU, jU, jU, jU] [] (g0 L) m1 Q := by
  obtain ⟨hlo, hs, hs2, hsz, hah, hgs⟩ := id hV
  have hn := h.2.1
  have hc : m1 2 0 ≤ 250 := by rw [hlo 2 (by decide), h.1]; omega
  have cE : ∀ x w, cellV m1 x w = cellV m x w := fun x w => by
    unfold cellV
    rw [hlo 2 (by decide), hlo 3 (by decide)]
  have hro := (h.2.2.1 r hr.1 hr.2).2.2.2.2.2.1 h2
  have hf : cellV m r 5 ∈ PLm m ∧ 1 ≤ cellV m r 5 ∧ cellV m r 5 ≤ n := by
    have := hro.1
    unfold isIns at this
    exact ⟨h.plm.mpr ⟨by omega, this.2.2⟩, by omega⟩
  have e1 : ahV m1 v (cellV m r 5) = ahF m a (cellV m r 5) := by
    unfold ahV
    rw [if_pos (by omega), hah _ hf.1]
  have hab := ab_le h hs hf.1
  have hbd := ahF_bd h a (cellV m r 5)
  have hen : stE m a s r ≤ 250 := by
    unfold stE
    by_cases g : cellV m r 3 < 2
    · rw [if_pos g]
      by_cases g6 : cellV m r 6 = 0
      · rw [if_pos g6]; omega
      · rw [if_neg g6]
        have := ahF_bd h a (cellV m r 6)
        omega
    · rw [if_neg g]
      have h6 : cellV m r 6 ∈ PLm m := by
        have := hro.2.1.resolve_right (fun w => g w.2)
        unfold isIns at this
        exact h.plm.mpr ⟨by omega, this.2.2⟩
      have := (ab_le h hs h6).2
      omega
  have es : jwr (cellV m r 3 * 4) = 4 * cellV m r 3 := (jw1 (by omega) (by omega)).trans (by omega)
  simp only [x_V_paintOne_0, x_V_paintOne_1, x_V_paintOne_2, x_V_paintOne_3, x_V_paintOne_6, x_V_paintOne_7, x_V_paintOne_8, x_V_paintOne_9, x_V_paintOne_10, x_V_paintOne_12, x_V_paintOne_13, x_V_paintOne_14, x_V_paintOne_15, x_V_paintOne_18, x_V_paintOne_20, x_V_paintOne_21, x_V_paintOne_23, x_V_paintOne_25, x_V_paintOne_27, x_V_paintOne_28, x_V_paintOne_29, x_V_paintOne_30, x_V_paintOne_32, x_V_paintOne_33, x_V_paintOne_34, x_V_paintOne_35, x_V_paintOne_36, x_V_paintOne_38, x_V_paintOne_41, x_V_paintOne_44, x_V_paintOne_46, x_V_paintOne_47, x_V_paintOne_48, x_V_paintOne_49, x_V_paintOne_50, x_V_paintOne_53, x_V_paintOne_56, x_V_paintOne_60, x_V_paintOne_62, x_V_paintOne_65, x_V_paintOne_66, x_V_paintOne_69, x_V_paintOne_71, x_V_paintOne_72, x_V_paintOne_75, x_V_paintOne_77, x_V_paintOne_78, x_V_paintOne_80, x_V_paintOne_81, x_V_paintOne_83, x_V_paintOne_84, x_V_paintOne_85, x_V_paintOne_88, x_V_paintOne_91, w_R_cell L _ _ _ _ hc, cE, es, w_V_endOf hv h hV L hr h2, w_V_aheadOf hv, e1, sk_0, sk_1, sk_2, sk_3, sk_4, sk_5, sk_6, sk_7, sk_8, sk_9, sk_10, sk_11, sk_12, sk_13, sk_14, sk_15, sk_16, sk_17, sk_18, sk_19, sk_20, sk_21, sk_22, sk_23, sk_24, sk_25, sk_26, sk_27, sk_28, sk_29, sk_30, sk_31, sk_32, sk_33, sk_34, sk_35, sk_36, sk_37, sk_38, sk_39, sk_40, sk_41, sk_42, sk_43, sk_44, sk_45, sk_46, sk_47, sk_48, sk_49, sk_50, sk_51, sk_52, sk_53, sn_0, sn_1, sn_2, sn_3, sn_4, sn_5, sn_6, sn_7, sn_8, sn_9, sn_10, sn_11, sn_12, sn_13, sn_14, sn_15, sn_16, sn_17, sn_18, sn_19, sn_20, sn_21, sn_22, sn_23, sn_24, sn_25, sn_26, sn_27, sn_28, sn_29, sn_30, sn_31, sn_32, sn_33, sn_34, sn_35, sn_36, sn_37, sn_38, sn_39, sn_40, sn_41, sn_42, sn_43, sn_44, sn_45, sn_46, sn_47, sn_48, sn_49, sn_50, sn_51, sn_52, sn_53, rf_2_1, rf_2_2, rf_2_3, rf_2_4, rf_1_0, rf_1_1, rf_8_0, rf_7_0, rf_10_0, rf_7_1, rf_12_0, rf_7_2, rf_14_0, rf_7_3, rf_16_1, rf_16_2, rf_16_3, rf_16_4, rf_16_5, rf_16_6, rf_16_7, rf_1_2, rf_24_1, rf_24_2, rf_24_3, rf_24_4, rf_24_5, rf_24_6, rf_24_7, rf_1_3, rf_32_2, rf_32_3, rf_32_4, rf_32_5, rf_32_6, rf_32_7, rf_32_8, rf_32_9, rf_32_10, rf_32_12, rf_32_14, rf_32_15, rf_32_16, rf_32_18, rf_32_19, rf_32_21, rf_32_25, rf_32_26, rf_32_27, rf_32_28, rf_32_30, true_and, and_true, true_or, or_true, or_false, false_or, false_and, and_false, not_true, not_false_iff, ne_eq, and_self, eq_self, if_true, if_false, ite_true, ite_false, Nat.reduceLeDiff, Int.cast_ofNat_Int, Int.reduceLT, Int.reduceLE, Int.reduceEq, Int.reduceNeg, reduceCtorEq, jup_ap, Nat.reduceEqDiff, Nat.reduceAdd, kv0 hv, rv1 hv, kv1 hv, nv1 hv, rv2 hv, kv2 hv, nv2 hv, rv3 hv, kv3 hv, nv3 hv, rv4 hv, kv4 hv, nv4 hv, rv5 hv, kv5 hv, nv5 hv, rv6 hv, kv6 hv, nv6 hv, rv7 hv, kv7 hv, nv7 hv]
  obtain ⟨st, hst⟩ : ∃ st, st = ahF m a (cellV m r 5) := ⟨_, rfl⟩
  obtain ⟨en, hee⟩ : ∃ en, en = stE m a s r := ⟨_, rfl⟩
  rw [← hst, ← hee] at hQ
  rw [← hee] at hen
  rw [← hst] at hbd
  rw [← hst, ← hee]
  exact wl_V_pOne hv L m1 Q r (cellV m r 3) (cellV m r 4) st en (by omega) hen hQ (en - st).toNat st m1 (by omega) (by omega) Fr.rf (fun j => by rw [if_neg (by omega)])
/-- the value of a key that place k has, by the first j rows in order -/
def svK (m : jM) (a s : Nat) (k c : Int) : Nat → Int
  | 0 => 0
  | j + 1 => if ((gd m a (m 5 j) = true ∧ cellV m (m 5 j) 0 = 2) ∧ cellV m (m 5 j) 3 = c) ∧ ahF m a (cellV m (m 5 j) 5) ≤ k ∧ k < stE m a s (m 5 j) then cellV m (m 5 j) 4 else svK m a s k c j
def pnP (m m' : jM) (v a s j : Nat) : Prop := ∀ k : Int, 0 ≤ k → k < s → low16 (m' (v + 3) k) ∧ ∀ c : Nat, c < 4 → nib c (m' (v + 3) k) = svK m a s k c j
theorem wl_V_p0 {v s : Nat} (hv : isW v) (L : Nat) (m1 : jM) (Q : jV → jG → jM → Prop) (l3 : jV) (hsz : m1 v 0 = (s : Int)) (hs : s ≤ 250)
    (hQ : ∀ m', Fr m1 m' [v + 3] → (∀ x : Int, 0 ≤ x → x < s → m' (v + 3) x = 0) → wp 112 23 [jO (some v), jO (some 2), jI (s : Int), l3] [] (g0 L) m' Q) :
    ∀ (d : Nat) (i : Int) (m2 : jM), 0 ≤ i → i + d = s → Fr m1 m2 [v + 3] → (∀ x : Int, 0 ≤ x → x < i → m2 (v + 3) x = 0) → wp 112 2 [jO (some v), jO (some 2), jI i, l3] [] (g0 L) m2 Q := by
  intro d
  induction d with
  | zero =>
    intro i m2 h0 h1 hF hI
    have : i = (s : Int) := by omega
    subst this
    have e : m2 v 0 = (s : Int) := by rw [hF v (by simp)]; exact hsz
    rw [x_V_paint_2]
    simp only [x_V_paint_3, x_V_paint_4, x_V_paint_7, e, Int.le_refl, sk_0, sk_1, sk_2, sk_3, sk_4, sk_5, sk_6, sk_7, sk_8, sk_9, sk_10, sk_11, sk_12, sk_13, sk_14, sk_15, sk_16, sk_17, sk_18, sk_19, sk_20, sk_21, sk_22, sk_23, sk_24, sk_25, sk_26, sk_27, sk_28, sk_29, sk_30, sk_31, sk_32, sk_33, sk_34, sk_35, sk_36, sk_37, sk_38, sk_39, sk_40, sk_41, sk_42, sk_43, sk_44, sk_45, sk_46, sk_47, sk_48, sk_49, sk_50, sk_51, sk_52, sk_53, sn_0, sn_1, sn_2, sn_3, sn_4, sn_5, sn_6, sn_7, sn_8, sn_9, sn_10, sn_11, sn_12, sn_13, sn_14, sn_15, sn_16, sn_17, sn_18, sn_19, sn_20, sn_21, sn_22, sn_23, sn_24, sn_25, sn_26, sn_27, sn_28, sn_29, sn_30, sn_31, sn_32, sn_33, sn_34, sn_35, sn_36, sn_37, sn_38, sn_39, sn_40, sn_41, sn_42, sn_43, sn_44, sn_45, sn_46, sn_47, sn_48, sn_49, sn_50, sn_51, sn_52, sn_53, rf_2_1, rf_2_2, rf_2_3, rf_2_4, rf_1_0, rf_1_1, rf_8_0, rf_7_0, rf_10_0, rf_7_1, rf_12_0, rf_7_2, rf_14_0, rf_7_3, rf_16_1, rf_16_2, rf_16_3, rf_16_4, rf_16_5, rf_16_6, rf_16_7, rf_1_2, rf_24_1, rf_24_2, rf_24_3, rf_24_4, rf_24_5, rf_24_6, rf_24_7, rf_1_3, rf_32_2, rf_32_3, rf_32_4, rf_32_5, rf_32_6, rf_32_7, rf_32_8, rf_32_9, rf_32_10, rf_32_12, rf_32_14, rf_32_15, rf_32_16, rf_32_18, rf_32_19, rf_32_21, rf_32_25, rf_32_26, rf_32_27, rf_32_28, rf_32_30, true_and, and_true, true_or, or_true, or_false, false_or, false_and, and_false, not_true, not_false_iff, ne_eq, and_self, eq_self, if_true, if_false, ite_true, ite_false, Nat.reduceLeDiff, Int.cast_ofNat_Int, Int.reduceLT, Int.reduceLE, Int.reduceEq, Int.reduceNeg, reduceCtorEq, jup_ap, Nat.reduceEqDiff, Nat.reduceAdd, kv0 hv, rv1 hv, kv1 hv, nv1 hv, rv2 hv, kv2 hv, nv2 hv, rv3 hv, kv3 hv, nv3 hv, rv4 hv, kv4 hv, nv4 hv, rv5 hv, kv5 hv, nv5 hv, rv6 hv, kv6 hv, nv6 hv, rv7 hv, kv7 hv, nv7 hv]
    exact hQ m2 hF hI
  | succ d ih =>
    intro i m2 h0 h1 hF hI
    have hb : 0 ≤ i ∧ i < 250 := by omega
    have e : m2 v 0 = (s : Int) := by rw [hF v (by simp)]; exact hsz
    have hn : ¬ (s : Int) ≤ i := by omega
    rw [x_V_paint_2]
    simp only [x_V_paint_3, x_V_paint_4, x_V_paint_7, x_V_paint_10, x_V_paint_11, x_V_paint_14, x_V_paint_15, x_V_paint_16, x_V_paint_17, x_V_paint_20, e, hb, hn, sk_0, sk_1, sk_2, sk_3, sk_4, sk_5, sk_6, sk_7, sk_8, sk_9, sk_10, sk_11, sk_12, sk_13, sk_14, sk_15, sk_16, sk_17, sk_18, sk_19, sk_20, sk_21, sk_22, sk_23, sk_24, sk_25, sk_26, sk_27, sk_28, sk_29, sk_30, sk_31, sk_32, sk_33, sk_34, sk_35, sk_36, sk_37, sk_38, sk_39, sk_40, sk_41, sk_42, sk_43, sk_44, sk_45, sk_46, sk_47, sk_48, sk_49, sk_50, sk_51, sk_52, sk_53, sn_0, sn_1, sn_2, sn_3, sn_4, sn_5, sn_6, sn_7, sn_8, sn_9, sn_10, sn_11, sn_12, sn_13, sn_14, sn_15, sn_16, sn_17, sn_18, sn_19, sn_20, sn_21, sn_22, sn_23, sn_24, sn_25, sn_26, sn_27, sn_28, sn_29, sn_30, sn_31, sn_32, sn_33, sn_34, sn_35, sn_36, sn_37, sn_38, sn_39, sn_40, sn_41, sn_42, sn_43, sn_44, sn_45, sn_46, sn_47, sn_48, sn_49, sn_50, sn_51, sn_52, sn_53, rf_2_1, rf_2_2, rf_2_3, rf_2_4, rf_1_0, rf_1_1, rf_8_0, rf_7_0, rf_10_0, rf_7_1, rf_12_0, rf_7_2, rf_14_0, rf_7_3, rf_16_1, rf_16_2, rf_16_3, rf_16_4, rf_16_5, rf_16_6, rf_16_7, rf_1_2, rf_24_1, rf_24_2, rf_24_3, rf_24_4, rf_24_5, rf_24_6, rf_24_7, rf_1_3, rf_32_2, rf_32_3, rf_32_4, rf_32_5, rf_32_6, rf_32_7, rf_32_8, rf_32_9, rf_32_10, rf_32_12, rf_32_14, rf_32_15, rf_32_16, rf_32_18, rf_32_19, rf_32_21, rf_32_25, rf_32_26, rf_32_27, rf_32_28, rf_32_30, true_and, and_true, true_or, or_true, or_false, false_or, false_and, and_false, not_true, not_false_iff, ne_eq, and_self, eq_self, if_true, if_false, ite_true, ite_false, Nat.reduceLeDiff, Int.cast_ofNat_Int, Int.reduceLT, Int.reduceLE, Int.reduceEq, Int.reduceNeg, reduceCtorEq, jup_ap, Nat.reduceEqDiff, Nat.reduceAdd, kv0 hv, rv1 hv, kv1 hv, nv1 hv, rv2 hv, kv2 hv, nv2 hv, rv3 hv, kv3 hv, nv3 hv, rv4 hv, kv4 hv, nv4 hv, rv5 hv, kv5 hv, nv5 hv, rv6 hv, kv6 hv, nv6 hv, rv7 hv, kv7 hv, nv7 hv]
    rw [show jwr (i + 1) = i + 1 from jw1 (by omega) (by omega)]
    refine ih (i + 1) _ (by omega) (by omega) (hF.up (by simp)) (fun x a b => ?_)
    rw [jup_ap]
    by_cases e : x = i
    · rw [if_pos ⟨rfl, e⟩]
    · rw [if_neg (fun q => e q.2)]
      exact hI x a (by omega)
theorem VwP.fr3 {m m1 m2 : jM} {v a s : Nat} (hv : isW v) (h : VwP m m1 v a s) (hF : Fr m1 m2 [v + 3]) : VwP m m2 v a s := by
  have hv16 : 16 ≤ v := by unfold isW at hv; omega
  obtain ⟨h1, h2, h3, h4, h5, h6⟩ := h
  exact ⟨fun b hb j => by rw [hF b (by simp; omega)]; exact h1 b hb j, h2, h3, by rw [hF v (by simp)]; exact h4, fun x hx => by rw [hF (v + 6) (by simp)]; exact h5 x hx, fun x a b => by rw [hF (v + 4) (by simp), hF (v + 5) (by simp)]; exact h6 x a b⟩
theorem wl_V_p1 {v a n s : Nat} (hv : isW v) (L : Nat) (m m1 : jM) (Q : jV → jG → jM → Prop) (h : CI m n) (hV : VwP m m1 v a s)
    (hQ : ∀ m', Fr m1 m' [v + 3] → pnP m m' v a s n → Q jU (g0 L) m') :
    ∀ (d k : Nat) (l3 : jV) (m2 : jM), k + d = n → Fr m1 m2 [v + 3] → pnP m m2 v a s k → wp 112 25 [jO (some v), jO (some 2), jI (k : Int), l3] [] (g0 L) m2 Q := by
  have h2 := h.2.1
  intro d
  induction d with
  | zero =>
    intro k l3 m2 hk hF hI
    have : k = n := by omega
    subst this
    have hV2 := hV.fr3 hv hF
    have e0 : m2 2 0 = (k : Int) := by rw [hV2.1 2 (by decide)]; exact h.1
    rw [x_V_paint_25]
    simp only [x_V_paint_26, x_V_paint_27, w_R_count, e0, x_V_paint_30, x_V_paint_69, Int.le_refl, sk_0, sk_1, sk_2, sk_3, sk_4, sk_5, sk_6, sk_7, sk_8, sk_9, sk_10, sk_11, sk_12, sk_13, sk_14, sk_15, sk_16, sk_17, sk_18, sk_19, sk_20, sk_21, sk_22, sk_23, sk_24, sk_25, sk_26, sk_27, sk_28, sk_29, sk_30, sk_31, sk_32, sk_33, sk_34, sk_35, sk_36, sk_37, sk_38, sk_39, sk_40, sk_41, sk_42, sk_43, sk_44, sk_45, sk_46, sk_47, sk_48, sk_49, sk_50, sk_51, sk_52, sk_53, sn_0, sn_1, sn_2, sn_3, sn_4, sn_5, sn_6, sn_7, sn_8, sn_9, sn_10, sn_11, sn_12, sn_13, sn_14, sn_15, sn_16, sn_17, sn_18, sn_19, sn_20, sn_21, sn_22, sn_23, sn_24, sn_25, sn_26, sn_27, sn_28, sn_29, sn_30, sn_31, sn_32, sn_33, sn_34, sn_35, sn_36, sn_37, sn_38, sn_39, sn_40, sn_41, sn_42, sn_43, sn_44, sn_45, sn_46, sn_47, sn_48, sn_49, sn_50, sn_51, sn_52, sn_53, rf_2_1, rf_2_2, rf_2_3, rf_2_4, rf_1_0, rf_1_1, rf_8_0, rf_7_0, rf_10_0, rf_7_1, rf_12_0, rf_7_2, rf_14_0, rf_7_3, rf_16_1, rf_16_2, rf_16_3, rf_16_4, rf_16_5, rf_16_6, rf_16_7, rf_1_2, rf_24_1, rf_24_2, rf_24_3, rf_24_4, rf_24_5, rf_24_6, rf_24_7, rf_1_3, rf_32_2, rf_32_3, rf_32_4, rf_32_5, rf_32_6, rf_32_7, rf_32_8, rf_32_9, rf_32_10, rf_32_12, rf_32_14, rf_32_15, rf_32_16, rf_32_18, rf_32_19, rf_32_21, rf_32_25, rf_32_26, rf_32_27, rf_32_28, rf_32_30, true_and, and_true, true_or, or_true, or_false, false_or, false_and, and_false, not_true, not_false_iff, ne_eq, and_self, eq_self, if_true, if_false, ite_true, ite_false, Nat.reduceLeDiff, Int.cast_ofNat_Int, Int.reduceLT, Int.reduceLE, Int.reduceEq, Int.reduceNeg, reduceCtorEq, jup_ap, Nat.reduceEqDiff, Nat.reduceAdd, kv0 hv, rv1 hv, kv1 hv, nv1 hv, rv2 hv, kv2 hv, nv2 hv, rv3 hv, kv3 hv, nv3 hv, rv4 hv, kv4 hv, nv4 hv, rv5 hv, kv5 hv, nv5 hv, rv6 hv, kv6 hv, nv6 hv, rv7 hv, kv7 hv, nv7 hv]
    exact hQ m2 hF hI
  | succ d ih =>
    intro k l3 m2 hk hF hI
    have hV2 := hV.fr3 hv hF
    have hlo := hV2.1
    have e0 : m2 2 0 = (n : Int) := by rw [hlo 2 (by decide)]; exact h.1
    have hc : m2 2 0 ≤ 250 := by omega
    obtain ⟨r, hre⟩ : ∃ r, r = m 5 k := ⟨_, rfl⟩
    have hr : 1 ≤ r ∧ r ≤ n := by rw [hre]; exact h.ord k (by omega)
    have eo : ordV m2 k = r := by
      unfold ordV
      rw [e0, if_pos (by omega), hlo 5 (by decide), hre]
    have cE : ∀ x w, cellV m2 x w = cellV m x w := fun x w => by
      unfold cellV
      rw [hlo 2 (by decide), hlo 3 (by decide)]
    have eg : m2 (v + 4) r = b2i (gd m a r) := (hV2.2.2.2.2.2 r hr.1 (by rw [h.1]; exact hr.2)).1
    have hb : 0 ≤ r ∧ r < 251 := by omega
    have hkn : ¬ (n : Int) ≤ (k : Int) := by omega
    have go : ∀ m3, Fr m1 m3 [v + 3] → pnP m m3 v a s (k + 1) → wp 112 25 [jO (some v), jO (some 2), jI (jwr ((k : Int) + 1)), jI r] [] (g0 L) m3 Q := fun m3 a1 a2 => by
      have g := ih (k + 1) (jI r) m3 (by omega) a1 a2
      rw [show jwr ((k : Int) + 1) = ((k + 1 : Nat) : Int) from jw1 (by omega) (by omega)]
      exact g
    have keep : ¬ (gd m a r = true ∧ cellV m r 0 = 2) → pnP m m2 v a s (k + 1) := fun hno x x1 x2 => by
      obtain ⟨g1, g2⟩ := hI x x1 x2
      refine ⟨g1, fun c hc => ?_⟩
      rw [g2 c hc]
      show _ = if _ then _ else _
      rw [← hre, if_neg (fun q => hno q.1.1)]
    rw [x_V_paint_25]
    simp only [x_V_paint_0, x_V_paint_1, x_V_paint_3, x_V_paint_4, x_V_paint_7, x_V_paint_10, x_V_paint_11, x_V_paint_14, x_V_paint_15, x_V_paint_16, x_V_paint_17, x_V_paint_20, x_V_paint_23, x_V_paint_24, x_V_paint_26, x_V_paint_27, x_V_paint_30, x_V_paint_33, x_V_paint_34, x_V_paint_35, x_V_paint_38, x_V_paint_39, x_V_paint_40, x_V_paint_41, x_V_paint_44, x_V_paint_47, x_V_paint_48, x_V_paint_49, x_V_paint_50, x_V_paint_53, x_V_paint_54, x_V_paint_57, x_V_paint_58, x_V_paint_59, x_V_paint_60, x_V_paint_63, x_V_paint_66, x_V_paint_69, w_R_count, w_R_inOrderAt L _ _ _ hc, w_R_cell L _ _ _ _ hc, w_V_isGood hv, b01_0, eo, eg, cE, e0, hkn, hb, b2i_0, sk_0, sk_1, sk_2, sk_3, sk_4, sk_5, sk_6, sk_7, sk_8, sk_9, sk_10, sk_11, sk_12, sk_13, sk_14, sk_15, sk_16, sk_17, sk_18, sk_19, sk_20, sk_21, sk_22, sk_23, sk_24, sk_25, sk_26, sk_27, sk_28, sk_29, sk_30, sk_31, sk_32, sk_33, sk_34, sk_35, sk_36, sk_37, sk_38, sk_39, sk_40, sk_41, sk_42, sk_43, sk_44, sk_45, sk_46, sk_47, sk_48, sk_49, sk_50, sk_51, sk_52, sk_53, sn_0, sn_1, sn_2, sn_3, sn_4, sn_5, sn_6, sn_7, sn_8, sn_9, sn_10, sn_11, sn_12, sn_13, sn_14, sn_15, sn_16, sn_17, sn_18, sn_19, sn_20, sn_21, sn_22, sn_23, sn_24, sn_25, sn_26, sn_27, sn_28, sn_29, sn_30, sn_31, sn_32, sn_33, sn_34, sn_35, sn_36, sn_37, sn_38, sn_39, sn_40, sn_41, sn_42, sn_43, sn_44, sn_45, sn_46, sn_47, sn_48, sn_49, sn_50, sn_51, sn_52, sn_53, rf_2_1, rf_2_2, rf_2_3, rf_2_4, rf_1_0, rf_1_1, rf_8_0, rf_7_0, rf_10_0, rf_7_1, rf_12_0, rf_7_2, rf_14_0, rf_7_3, rf_16_1, rf_16_2, rf_16_3, rf_16_4, rf_16_5, rf_16_6, rf_16_7, rf_1_2, rf_24_1, rf_24_2, rf_24_3, rf_24_4, rf_24_5, rf_24_6, rf_24_7, rf_1_3, rf_32_2, rf_32_3, rf_32_4, rf_32_5, rf_32_6, rf_32_7, rf_32_8, rf_32_9, rf_32_10, rf_32_12, rf_32_14, rf_32_15, rf_32_16, rf_32_18, rf_32_19, rf_32_21, rf_32_25, rf_32_26, rf_32_27, rf_32_28, rf_32_30, true_and, and_true, true_or, or_true, or_false, false_or, false_and, and_false, not_true, not_false_iff, ne_eq, and_self, eq_self, if_true, if_false, ite_true, ite_false, Nat.reduceLeDiff, Int.cast_ofNat_Int, Int.reduceLT, Int.reduceLE, Int.reduceEq, Int.reduceNeg, reduceCtorEq, jup_ap, Nat.reduceEqDiff, Nat.reduceAdd, kv0 hv, rv1 hv, kv1 hv, nv1 hv, rv2 hv, kv2 hv, nv2 hv, rv3 hv, kv3 hv, nv3 hv, rv4 hv, kv4 hv, nv4 hv, rv5 hv, kv5 hv, nv5 hv, rv6 hv, kv6 hv, nv6 hv, rv7 hv, kv7 hv, nv7 hv]
    cases hg : gd m a r
    · simp only [true_and, and_true, true_or, or_true, or_false, false_or, false_and, and_false, not_true, not_false_iff, ne_eq, and_self, eq_self, if_true, if_false, ite_true, ite_false, Nat.reduceLeDiff, Int.cast_ofNat_Int, Int.reduceLT, Int.reduceLE, Int.reduceEq, Int.reduceNeg, reduceCtorEq, jup_ap, Nat.reduceEqDiff, Nat.reduceAdd]
      exact go m2 hF (keep (fun q => by rw [hg] at q; cases q.1))
    · simp only [true_and, and_true, true_or, or_true, or_false, false_or, false_and, and_false, not_true, not_false_iff, ne_eq, and_self, eq_self, if_true, if_false, ite_true, ite_false, Nat.reduceLeDiff, Int.cast_ofNat_Int, Int.reduceLT, Int.reduceLE, Int.reduceEq, Int.reduceNeg, reduceCtorEq, jup_ap, Nat.reduceEqDiff, Nat.reduceAdd, Bool.true_eq_false]
      by_cases h4 : cellV m r 0 = 2
      · rw [if_neg (fun q => q h4)]
        have hro := (h.2.2.1 r hr.1 hr.2).2.2.2.2.2.1 h4
        refine w_V_paintOne (a := a) (s := s) hv h hV2 L hr h4 _ (fun m3 hF3 hp => ?_)
        refine go m3 (hF.trans hF3) (fun x x1 x2 => ?_)
        obtain ⟨g1, g2⟩ := hI x x1 x2
        obtain ⟨kk, hkk⟩ : ∃ kk : Nat, cellV m r 3 = (kk : Int) := ⟨(cellV m r 3).toNat, by omega⟩
        have hkl : kk < 4 := by omega
        have hval : 0 ≤ cellV m r 4 ∧ cellV m r 4 ≤ 15 := by omega
        rw [hp x]
        by_cases hcv : ahF m a (cellV m r 5) ≤ x ∧ x < stE m a s r
        · rw [if_pos hcv, hkk]
          refine ⟨low16_pnt hkl hval g1, fun c hc => ?_⟩
          rw [nib_pnt hkl hc hval, g2 c hc]
          show _ = if _ then _ else _
          rw [← hre]
          by_cases e : c = kk
          · rw [if_pos e, if_pos ⟨⟨⟨hg, h4⟩, by rw [hkk, e]⟩, hcv⟩]
          · rw [if_neg e, if_neg (fun q => e (by have := q.1.2; omega))]
        · rw [if_neg hcv]
          refine ⟨g1, fun c hc => ?_⟩
          rw [g2 c hc]
          show _ = if _ then _ else _
          rw [← hre, if_neg (fun q => hcv q.2)]
      · rw [if_pos h4]
        exact go m2 hF (keep (fun q => h4 q.2))
theorem w_V_paint {v a n s : Nat} (hv : isW v) (L : Nat) (m m1 : jM) (Q : jV → jG → jM → Prop) (h : CI m n) (hV : VwP m m1 v a s)
    (hQ : ∀ m', Fr m1 m' [v + 3] → pnP m m' v a s n → Q jU (g0 L) m') : wp 112 0 [jO (some v), jO (some 2), jU, jU] [] (g0 L) m1 Q := by
  simp only [x_V_paint_0, x_V_paint_1]
  refine wl_V_p0 hv L m1 Q jU hV.2.2.2.1 hV.2.2.1 (fun m2 hF h0 => ?_) s 0 m1 (by omega) (by omega) Fr.rf (fun x a b => by omega)
  simp only [x_V_paint_23, x_V_paint_24]
  refine wl_V_p1 hv L m m2 Q h (hV.fr3 hv hF) (fun m' hF' hp => hQ m' (hF.trans hF') hp) n 0 jU m2 (by omega) Fr.rf (fun x x1 x2 => ?_)
  rw [h0 x x1 x2]
  exact ⟨low16_0, fun c hc => nib_0 hc⟩
