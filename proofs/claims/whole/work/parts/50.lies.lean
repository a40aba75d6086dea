/-! how many seen signs are ahead of an insert -/
def ahF (m : jM) (a : Nat) (x : Int) : Int := ((((PLm m).takeWhile (fun y => decide (y ≠ x))).filter (vs m a)).length : Int)
theorem takeW : ∀ (l : List Int) (j : Nat) (x : Int), l.Nodup → l[j]? = some x → l.takeWhile (fun y => decide (y ≠ x)) = l.take j
  | [], j, x, _, h => by simp at h
  | y :: l, 0, x, _, h => by
    cases h
    simp [List.takeWhile]
  | y :: l, j + 1, x, hn, h => by
    have hn2 := List.nodup_cons.mp hn
    have hx : l[j]? = some x := by simpa using h
    have hne : y ≠ x := fun q => hn2.1 (by rw [q]; exact List.mem_of_getElem? hx)
    rw [List.takeWhile_cons, if_pos (by simpa using hne), takeW l j x hn2.2 hx]
    rfl
theorem CI.plnd {m : jM} {n : Nat} (h : CI m n) : (PLm m).Nodup := by
  rw [h.2.2.2.2.2.1]
  exact p_nodup _ _ (by simp) ((rowsL_nodup n).filter _) (fun x _ q => by cases q)
theorem CI.pl25 {m : jM} {n : Nat} (h : CI m n) : (PLm m).length ≤ n := by
  rw [h.2.2.2.2.2.1, p_len]
  have := insL_len m n
  simpa using this
theorem sh_ahead {m m1 : jM} {n v a s : Nat} (h : CI m n) (hs : ShowP m m1 v a s) {x : Int} (hx : x ∈ PLm m) : m1 (v + 6) x = ahF m a x := by
  obtain ⟨j, hj⟩ := List.getElem?_of_mem hx
  have hl := (List.getElem?_eq_some_iff.mp hj).1
  have hl2 : j < (m 2 5).toNat := by
    unfold PLm at hl
    rw [ar_len] at hl
    exact hl
  have hv : m 6 j = x := by
    have h2 := hj
    unfold PLm at h2
    rw [ar_get hl2] at h2
    exact Option.some.inj h2
  have h6 := hs.2.2.2.2.2.1 j (by omega)
  rw [hv] at h6
  rw [h6]
  unfold ahF
  rw [takeW _ j x h.plnd hj]
theorem len_cast {l : List Int} {k : Nat} (h : l.length ≤ k) : 0 ≤ (l.length : Int) ∧ (l.length : Int) ≤ (k : Int) := ⟨Int.natCast_nonneg _, Int.ofNat_le.mpr h⟩
theorem ahF_bd {m : jM} {n : Nat} (h : CI m n) (a : Nat) (x : Int) : 0 ≤ ahF m a x ∧ ahF m a x ≤ n := by
  unfold ahF
  refine len_cast (Nat.le_trans (List.length_filter_le _ _) (Nat.le_trans ?_ h.pl25))
  have := (List.takeWhile_prefix (fun y => decide (y ≠ x)) (l := PLm m)).length_le
  exact this
def abF (m : jM) (a : Nat) (x : Int) : Int := ahF m a x + b2i (vs m a x)
def lyF (m : jM) (a : Nat) (r : Int) : Int := ahF m a (cellV m r 5)
def lyT (m : jM) (a : Nat) (r : Int) : Int := if lyF m a r < abF m a (cellV m r 6) then abF m a (cellV m r 6) else lyF m a r
theorem com_ins {m : jM} {n : Nat} (h : CI m n) {r : Int} (h3 : cellV m r 0 = 3) : (1 ≤ r ∧ r ≤ n) ∧ cellV m r 5 ∈ PLm m ∧ cellV m r 6 ∈ PLm m := by
  have hr : 1 ≤ r ∧ r ≤ n := by
    by_cases q : 1 ≤ r ∧ r ≤ (n : Int)
    · exact q
    · unfold cellV at h3
      rw [h.1, if_neg (fun w => q w.1)] at h3
      omega
  have := (h.2.2.1 r hr.1 hr.2).2.2.2.2.2.2.1 h3
  unfold isIns at this
  exact ⟨hr, h.plm.mpr ⟨by omega, this.1.2.2⟩, h.plm.mpr ⟨by omega, this.2.2.2⟩⟩
theorem w_T_cFrom {m m1 : jM} {n v a s : Nat} (hv : isW v) (h : CI m n) (hF : ∀ b, b < 16 → ∀ j, m1 b j = m b j) (hah : ∀ x ∈ PLm m, m1 (v + 6) x = ahF m a x) (L : Nat) {r : Int} (h3 : cellV m r 0 = 3) (Q : jV → jG → jM → Prop) :
    wp 28 0 [jO (some 1), jO (some v), jI r] [] (g0 L) m1 Q = Q (jI (lyF m a r)) (g0 L) m1 := by
  have hc : m1 2 0 ≤ 250 := by rw [hF 2 (by decide), h.1]; have := h.2.1; omega
  have cE : ∀ x w, cellV m1 x w = cellV m x w := fun x w => by
    unfold cellV
    rw [hF 2 (by decide), hF 3 (by decide)]
  have hm := com_ins h h3
  have hp := h.plm.mp hm.2.1
  have h2 := h.2.1
  have e : ahV m1 v (cellV m r 5) = lyF m a r := by
    unfold ahV lyF
    rw [if_pos (by omega), hah _ hm.2.1]
  simp only [x_T_commentFrom_0, x_T_commentFrom_1, x_T_commentFrom_2, x_T_commentFrom_5, x_T_commentFrom_6, x_T_commentFrom_7, x_T_commentFrom_10, x_T_commentFrom_13, w_R_cell L _ _ _ _ hc, cE, w_V_aheadOf hv, e, sk_0, sk_1, sk_2, sk_3, sk_4, sk_5, sk_6, sk_7, sk_8, sk_9, sk_10, sk_11, sk_12, sk_13, sk_14, sk_15, sk_16, sk_17, sk_18, sk_19, sk_20, sk_21, sk_22, sk_23, sk_24, sk_25, sk_26, sk_27, sk_28, sk_29, sk_30, sk_31, sk_32, sk_33, sk_34, sk_35, sk_36, sk_37, sk_38, sk_39, sk_40, sk_41, sk_42, sk_43, sk_44, sk_45, sk_46, sk_47, sk_48, sk_49, sk_50, sk_51, sk_52, sk_53, sn_0, sn_1, sn_2, sn_3, sn_4, sn_5, sn_6, sn_7, sn_8, sn_9, sn_10, sn_11, sn_12, sn_13, sn_14, sn_15, sn_16, sn_17, sn_18, sn_19, sn_20, sn_21, sn_22, sn_23, sn_24, sn_25, sn_26, sn_27, sn_28, sn_29, sn_30, sn_31, sn_32, sn_33, sn_34, sn_35, sn_36, sn_37, sn_38, sn_39, sn_40, sn_41, sn_42, sn_43, sn_44, sn_45, sn_46, sn_47, sn_48, sn_49, sn_50, sn_51, sn_52, sn_53, rf_2_1, rf_2_2, rf_2_3, rf_2_4, rf_1_0, rf_1_1, rf_8_0, rf_7_0, rf_10_0, rf_7_1, rf_12_0, rf_7_2, rf_14_0, rf_7_3, rf_16_1, rf_16_2, rf_16_3, rf_16_4, rf_16_5, rf_16_6, rf_16_7, rf_1_2, rf_24_1, rf_24_2, rf_24_3, rf_24_4, rf_24_5, rf_24_6, rf_24_7, rf_1_3, rf_32_2, rf_32_3, rf_32_4, rf_32_5, rf_32_6, rf_32_7, rf_32_8, rf_32_9, rf_32_10, rf_32_12, rf_32_14, rf_32_15, rf_32_16, rf_32_18, rf_32_19, rf_32_21, rf_32_25, rf_32_26, rf_32_27, rf_32_28, rf_32_30, true_and, and_true, true_or, or_true, or_false, false_or, false_and, and_false, not_true, not_false_iff, ne_eq, and_self, eq_self, if_true, if_false, ite_true, ite_false, Nat.reduceLeDiff, Int.cast_ofNat_Int, Int.reduceLT, Int.reduceLE, Int.reduceEq, Int.reduceNeg, reduceCtorEq, jup_ap, Nat.reduceEqDiff, Nat.reduceAdd, kv0 hv, rv1 hv, kv1 hv, nv1 hv, rv2 hv, kv2 hv, nv2 hv, rv3 hv, kv3 hv, nv3 hv, rv4 hv, kv4 hv, nv4 hv, rv5 hv, kv5 hv, nv5 hv, rv6 hv, kv6 hv, nv6 hv, rv7 hv, kv7 hv, nv7 hv]
theorem w_T_cTo {m m1 : jM} {n v a s : Nat} (hv : isW v) (h : CI m n) (hF : ∀ b, b < 16 → ∀ j, m1 b j = m b j) (hah : ∀ x ∈ PLm m, m1 (v + 6) x = ahF m a x) (hsn : ∀ x : Int, 1 ≤ x → x ≤ n → m1 (v + 5) x = b2i (vs m a x)) (L : Nat) {r : Int} (h3 : cellV m r 0 = 3) (Q : jV → jG → jM → Prop) :
    wp 29 0 [jO (some 1), jO (some v), jI r] [] (g0 L) m1 Q = Q (jI (lyT m a r)) (g0 L) m1 := by
  have hc : m1 2 0 ≤ 250 := by rw [hF 2 (by decide), h.1]; have := h.2.1; omega
  have cE : ∀ x w, cellV m1 x w = cellV m x w := fun x w => by
    unfold cellV
    rw [hF 2 (by decide), hF 3 (by decide)]
  have hm := com_ins h h3
  have hp := h.plm.mp hm.2.2
  have h2 := h.2.1
  have hbd := ahF_bd h a (cellV m r 6)
  have e : ahV m1 v (cellV m r 6) = ahF m a (cellV m r 6) := by
    unfold ahV
    rw [if_pos (by omega), hah _ hm.2.2]
  have e2 : abV m1 v (cellV m r 6) = abF m a (cellV m r 6) := by
    unfold abV abF
    rw [e]
    congr 1
    have hx := hsn (cellV m r 6) hp.1.1 hp.1.2
    unfold b01 b2i
    rw [hx]
    cases vs m a (cellV m r 6)
    · rw [if_neg (by simp [b2i]), if_neg (by simp)]
    · rw [if_pos ⟨by omega, by simp [b2i]⟩, if_pos rfl]
  simp only [x_T_commentTo_0, x_T_commentTo_1, x_T_commentTo_2, x_T_commentTo_3, x_T_commentTo_6, x_T_commentTo_7, x_T_commentTo_8, x_T_commentTo_11, x_T_commentTo_12, x_T_commentTo_14, x_T_commentTo_17, x_T_commentTo_20, x_T_commentTo_23, w_T_cFrom (s := s) hv h hF hah L h3, w_R_cell L _ _ _ _ hc, cE, sk_0, sk_1, sk_2, sk_3, sk_4, sk_5, sk_6, sk_7, sk_8, sk_9, sk_10, sk_11, sk_12, sk_13, sk_14, sk_15, sk_16, sk_17, sk_18, sk_19, sk_20, sk_21, sk_22, sk_23, sk_24, sk_25, sk_26, sk_27, sk_28, sk_29, sk_30, sk_31, sk_32, sk_33, sk_34, sk_35, sk_36, sk_37, sk_38, sk_39, sk_40, sk_41, sk_42, sk_43, sk_44, sk_45, sk_46, sk_47, sk_48, sk_49, sk_50, sk_51, sk_52, sk_53, sn_0, sn_1, sn_2, sn_3, sn_4, sn_5, sn_6, sn_7, sn_8, sn_9, sn_10, sn_11, sn_12, sn_13, sn_14, sn_15, sn_16, sn_17, sn_18, sn_19, sn_20, sn_21, sn_22, sn_23, sn_24, sn_25, sn_26, sn_27, sn_28, sn_29, sn_30, sn_31, sn_32, sn_33, sn_34, sn_35, sn_36, sn_37, sn_38, sn_39, sn_40, sn_41, sn_42, sn_43, sn_44, sn_45, sn_46, sn_47, sn_48, sn_49, sn_50, sn_51, sn_52, sn_53, rf_2_1, rf_2_2, rf_2_3, rf_2_4, rf_1_0, rf_1_1, rf_8_0, rf_7_0, rf_10_0, rf_7_1, rf_12_0, rf_7_2, rf_14_0, rf_7_3, rf_16_1, rf_16_2, rf_16_3, rf_16_4, rf_16_5, rf_16_6, rf_16_7, rf_1_2, rf_24_1, rf_24_2, rf_24_3, rf_24_4, rf_24_5, rf_24_6, rf_24_7, rf_1_3, rf_32_2, rf_32_3, rf_32_4, rf_32_5, rf_32_6, rf_32_7, rf_32_8, rf_32_9, rf_32_10, rf_32_12, rf_32_14, rf_32_15, rf_32_16, rf_32_18, rf_32_19, rf_32_21, rf_32_25, rf_32_26, rf_32_27, rf_32_28, rf_32_30, true_and, and_true, true_or, or_true, or_false, false_or, false_and, and_false, not_true, not_false_iff, ne_eq, and_self, eq_self, if_true, if_false, ite_true, ite_false, Nat.reduceLeDiff, Int.cast_ofNat_Int, Int.reduceLT, Int.reduceLE, Int.reduceEq, Int.reduceNeg, reduceCtorEq, jup_ap, Nat.reduceEqDiff, Nat.reduceAdd, kv0 hv, rv1 hv, kv1 hv, nv1 hv, rv2 hv, kv2 hv, nv2 hv, rv3 hv, kv3 hv, nv3 hv, rv4 hv, kv4 hv, nv4 hv, rv5 hv, kv5 hv, nv5 hv, rv6 hv, kv6 hv, nv6 hv, rv7 hv, kv7 hv, nv7 hv]
  rw [w_V_aheadBehind hv L _ m1 _ (by rw [e]; omega), e2]
  simp only [x_T_commentTo_0, x_T_commentTo_1, x_T_commentTo_2, x_T_commentTo_3, x_T_commentTo_6, x_T_commentTo_7, x_T_commentTo_8, x_T_commentTo_11, x_T_commentTo_12, x_T_commentTo_14, x_T_commentTo_17, x_T_commentTo_20, x_T_commentTo_23, sk_0, sk_1, sk_2, sk_3, sk_4, sk_5, sk_6, sk_7, sk_8, sk_9, sk_10, sk_11, sk_12, sk_13, sk_14, sk_15, sk_16, sk_17, sk_18, sk_19, sk_20, sk_21, sk_22, sk_23, sk_24, sk_25, sk_26, sk_27, sk_28, sk_29, sk_30, sk_31, sk_32, sk_33, sk_34, sk_35, sk_36, sk_37, sk_38, sk_39, sk_40, sk_41, sk_42, sk_43, sk_44, sk_45, sk_46, sk_47, sk_48, sk_49, sk_50, sk_51, sk_52, sk_53, sn_0, sn_1, sn_2, sn_3, sn_4, sn_5, sn_6, sn_7, sn_8, sn_9, sn_10, sn_11, sn_12, sn_13, sn_14, sn_15, sn_16, sn_17, sn_18, sn_19, sn_20, sn_21, sn_22, sn_23, sn_24, sn_25, sn_26, sn_27, sn_28, sn_29, sn_30, sn_31, sn_32, sn_33, sn_34, sn_35, sn_36, sn_37, sn_38, sn_39, sn_40, sn_41, sn_42, sn_43, sn_44, sn_45, sn_46, sn_47, sn_48, sn_49, sn_50, sn_51, sn_52, sn_53, rf_2_1, rf_2_2, rf_2_3, rf_2_4, rf_1_0, rf_1_1, rf_8_0, rf_7_0, rf_10_0, rf_7_1, rf_12_0, rf_7_2, rf_14_0, rf_7_3, rf_16_1, rf_16_2, rf_16_3, rf_16_4, rf_16_5, rf_16_6, rf_16_7, rf_1_2, rf_24_1, rf_24_2, rf_24_3, rf_24_4, rf_24_5, rf_24_6, rf_24_7, rf_1_3, rf_32_2, rf_32_3, rf_32_4, rf_32_5, rf_32_6, rf_32_7, rf_32_8, rf_32_9, rf_32_10, rf_32_12, rf_32_14, rf_32_15, rf_32_16, rf_32_18, rf_32_19, rf_32_21, rf_32_25, rf_32_26, rf_32_27, rf_32_28, rf_32_30, true_and, and_true, true_or, or_true, or_false, false_or, false_and, and_false, not_true, not_false_iff, ne_eq, and_self, eq_self, if_true, if_false, ite_true, ite_false, Nat.reduceLeDiff, Int.cast_ofNat_Int, Int.reduceLT, Int.reduceLE, Int.reduceEq, Int.reduceNeg, reduceCtorEq, jup_ap, Nat.reduceEqDiff, Nat.reduceAdd, kv0 hv, rv1 hv, kv1 hv, nv1 hv, rv2 hv, kv2 hv, nv2 hv, rv3 hv, kv3 hv, nv3 hv, rv4 hv, kv4 hv, nv4 hv, rv5 hv, kv5 hv, nv5 hv, rv6 hv, kv6 hv, nv6 hv, rv7 hv, kv7 hv, nv7 hv]
  rfl
def okLy (m : jM) (p r side : Int) : Prop := ((0 ≤ side ∧ side ≤ 1) ∧ cellV m r 0 = 3) ∧ (0 ≤ p ∧ p < 4) ∧ gd m (nc p) r = true
theorem w_T_lies (L : Nat) (p r side : Int) (m : jM) (Q : jV → jG → jM → Prop) (n : Nat) (h : CI m n) (h0 : ¬ okLy m p r side → ∀ m', Fr m m' (vCells 16) → Q (jI (-1)) (g0 L) m')
    (hQ : okLy m p r side → ∀ m', Fr m m' (vCells 16) → Q (jI (if side = 0 then lyF m (nc p) r else lyT m (nc p) r)) (g0 L) m') : wp 15 0 [jO (some 1), jI p, jI r, jI side] [] (g0 L) m Q := by
  have hc : m 2 0 ≤ 250 := by rw [h.1]; have := h.2.1; omega
  have h2 := h.2.1
  simp only [x_T_lies_0, x_T_lies_1, x_T_lies_4, x_T_lies_5, x_T_lies_6, x_T_lies_9, x_T_lies_10, x_T_lies_13, x_T_lies_14, x_T_lies_15, x_T_lies_18, x_T_lies_19, x_T_lies_22, x_T_lies_23, x_T_lies_24, x_T_lies_25, x_T_lies_26, x_T_lies_29, x_T_lies_32, x_T_lies_33, x_T_lies_36, x_T_lies_37, x_T_lies_40, x_T_lies_43, x_T_lies_44, x_T_lies_45, x_T_lies_46, x_T_lies_49, x_T_lies_50, x_T_lies_51, x_T_lies_54, x_T_lies_55, x_T_lies_58, x_T_lies_61, x_T_lies_62, x_T_lies_63, x_T_lies_66, x_T_lies_67, x_T_lies_70, w_R_cell L _ _ _ _ hc, sk_0, sk_1, sk_2, sk_3, sk_4, sk_5, sk_6, sk_7, sk_8, sk_9, sk_10, sk_11, sk_12, sk_13, sk_14, sk_15, sk_16, sk_17, sk_18, sk_19, sk_20, sk_21, sk_22, sk_23, sk_24, sk_25, sk_26, sk_27, sk_28, sk_29, sk_30, sk_31, sk_32, sk_33, sk_34, sk_35, sk_36, sk_37, sk_38, sk_39, sk_40, sk_41, sk_42, sk_43, sk_44, sk_45, sk_46, sk_47, sk_48, sk_49, sk_50, sk_51, sk_52, sk_53, sn_0, sn_1, sn_2, sn_3, sn_4, sn_5, sn_6, sn_7, sn_8, sn_9, sn_10, sn_11, sn_12, sn_13, sn_14, sn_15, sn_16, sn_17, sn_18, sn_19, sn_20, sn_21, sn_22, sn_23, sn_24, sn_25, sn_26, sn_27, sn_28, sn_29, sn_30, sn_31, sn_32, sn_33, sn_34, sn_35, sn_36, sn_37, sn_38, sn_39, sn_40, sn_41, sn_42, sn_43, sn_44, sn_45, sn_46, sn_47, sn_48, sn_49, sn_50, sn_51, sn_52, sn_53, rf_2_1, rf_2_2, rf_2_3, rf_2_4, rf_1_0, rf_1_1, rf_8_0, rf_7_0, rf_10_0, rf_7_1, rf_12_0, rf_7_2, rf_14_0, rf_7_3, rf_16_1, rf_16_2, rf_16_3, rf_16_4, rf_16_5, rf_16_6, rf_16_7, rf_1_2, rf_24_1, rf_24_2, rf_24_3, rf_24_4, rf_24_5, rf_24_6, rf_24_7, rf_1_3, rf_32_2, rf_32_3, rf_32_4, rf_32_5, rf_32_6, rf_32_7, rf_32_8, rf_32_9, rf_32_10, rf_32_12, rf_32_14, rf_32_15, rf_32_16, rf_32_18, rf_32_19, rf_32_21, rf_32_25, rf_32_26, rf_32_27, rf_32_28, rf_32_30, true_and, and_true, true_or, or_true, or_false, false_or, false_and, and_false, not_true, not_false_iff, ne_eq, and_self, eq_self, if_true, if_false, ite_true, ite_false, Nat.reduceLeDiff, Int.cast_ofNat_Int, Int.reduceLT, Int.reduceLE, Int.reduceEq, Int.reduceNeg, reduceCtorEq, jup_ap, Nat.reduceEqDiff, Nat.reduceAdd]
  by_cases s0 : side < 0
  · rw [if_pos s0]
    exact h0 (fun q => by have := q.1.1; omega) m Fr.rf
  · rw [if_neg s0]
    by_cases s1 : 1 < side
    · rw [if_pos s1]
      exact h0 (fun q => by have := q.1.1; omega) m Fr.rf
    · rw [if_neg s1]
      by_cases h3 : cellV m r 0 = 3
      · rw [if_pos h3]
        refine w_T_shows L p m _ h.cw (fun hp => ?_) (fun hp m1 s hF hs => ?_)
        · simp only [x_T_lies_0, x_T_lies_1, x_T_lies_4, x_T_lies_5, x_T_lies_6, x_T_lies_9, x_T_lies_10, x_T_lies_13, x_T_lies_14, x_T_lies_15, x_T_lies_18, x_T_lies_19, x_T_lies_22, x_T_lies_23, x_T_lies_24, x_T_lies_25, x_T_lies_26, x_T_lies_29, x_T_lies_32, x_T_lies_33, x_T_lies_36, x_T_lies_37, x_T_lies_40, x_T_lies_43, x_T_lies_44, x_T_lies_45, x_T_lies_46, x_T_lies_49, x_T_lies_50, x_T_lies_51, x_T_lies_54, x_T_lies_55, x_T_lies_58, x_T_lies_61, x_T_lies_62, x_T_lies_63, x_T_lies_66, x_T_lies_67, x_T_lies_70, sk_0, sk_1, sk_2, sk_3, sk_4, sk_5, sk_6, sk_7, sk_8, sk_9, sk_10, sk_11, sk_12, sk_13, sk_14, sk_15, sk_16, sk_17, sk_18, sk_19, sk_20, sk_21, sk_22, sk_23, sk_24, sk_25, sk_26, sk_27, sk_28, sk_29, sk_30, sk_31, sk_32, sk_33, sk_34, sk_35, sk_36, sk_37, sk_38, sk_39, sk_40, sk_41, sk_42, sk_43, sk_44, sk_45, sk_46, sk_47, sk_48, sk_49, sk_50, sk_51, sk_52, sk_53, sn_0, sn_1, sn_2, sn_3, sn_4, sn_5, sn_6, sn_7, sn_8, sn_9, sn_10, sn_11, sn_12, sn_13, sn_14, sn_15, sn_16, sn_17, sn_18, sn_19, sn_20, sn_21, sn_22, sn_23, sn_24, sn_25, sn_26, sn_27, sn_28, sn_29, sn_30, sn_31, sn_32, sn_33, sn_34, sn_35, sn_36, sn_37, sn_38, sn_39, sn_40, sn_41, sn_42, sn_43, sn_44, sn_45, sn_46, sn_47, sn_48, sn_49, sn_50, sn_51, sn_52, sn_53, rf_2_1, rf_2_2, rf_2_3, rf_2_4, rf_1_0, rf_1_1, rf_8_0, rf_7_0, rf_10_0, rf_7_1, rf_12_0, rf_7_2, rf_14_0, rf_7_3, rf_16_1, rf_16_2, rf_16_3, rf_16_4, rf_16_5, rf_16_6, rf_16_7, rf_1_2, rf_24_1, rf_24_2, rf_24_3, rf_24_4, rf_24_5, rf_24_6, rf_24_7, rf_1_3, rf_32_2, rf_32_3, rf_32_4, rf_32_5, rf_32_6, rf_32_7, rf_32_8, rf_32_9, rf_32_10, rf_32_12, rf_32_14, rf_32_15, rf_32_16, rf_32_18, rf_32_19, rf_32_21, rf_32_25, rf_32_26, rf_32_27, rf_32_28, rf_32_30, true_and, and_true, true_or, or_true, or_false, false_or, false_and, and_false, not_true, not_false_iff, ne_eq, and_self, eq_self, if_true, if_false, ite_true, ite_false, Nat.reduceLeDiff, Int.cast_ofNat_Int, Int.reduceLT, Int.reduceLE, Int.reduceEq, Int.reduceNeg, reduceCtorEq, jup_ap, Nat.reduceEqDiff, Nat.reduceAdd]
          exact h0 (fun q => hp q.2.1) m Fr.rf
        · have hr := (com_ins h h3).1
          have hgd := (hs.2.2.2.2.2.2 r hr.1 (by rw [h.1]; exact hr.2)).1
          have hlo : ∀ b, b < 16 → ∀ j, m1 b j = m b j := fun b hb j => hF b (by simp; omega) j
          have hah : ∀ x ∈ PLm m, m1 (16 + 6) x = ahF m (nc p) x := fun x hx => sh_ahead h hs hx
          have hsn : ∀ x : Int, 1 ≤ x → x ≤ n → m1 (16 + 5) x = b2i (vs m (nc p) x) := fun x a b => (hs.2.2.2.2.2.2 x a (by rw [h.1]; exact b)).2
          simp only [x_T_lies_0, x_T_lies_1, x_T_lies_4, x_T_lies_5, x_T_lies_6, x_T_lies_9, x_T_lies_10, x_T_lies_13, x_T_lies_14, x_T_lies_15, x_T_lies_18, x_T_lies_19, x_T_lies_22, x_T_lies_23, x_T_lies_24, x_T_lies_25, x_T_lies_26, x_T_lies_29, x_T_lies_32, x_T_lies_33, x_T_lies_36, x_T_lies_37, x_T_lies_40, x_T_lies_43, x_T_lies_44, x_T_lies_45, x_T_lies_46, x_T_lies_49, x_T_lies_50, x_T_lies_51, x_T_lies_54, x_T_lies_55, x_T_lies_58, x_T_lies_61, x_T_lies_62, x_T_lies_63, x_T_lies_66, x_T_lies_67, x_T_lies_70, w_V_isGood (Or.inl rfl), b01_0, sk_0, sk_1, sk_2, sk_3, sk_4, sk_5, sk_6, sk_7, sk_8, sk_9, sk_10, sk_11, sk_12, sk_13, sk_14, sk_15, sk_16, sk_17, sk_18, sk_19, sk_20, sk_21, sk_22, sk_23, sk_24, sk_25, sk_26, sk_27, sk_28, sk_29, sk_30, sk_31, sk_32, sk_33, sk_34, sk_35, sk_36, sk_37, sk_38, sk_39, sk_40, sk_41, sk_42, sk_43, sk_44, sk_45, sk_46, sk_47, sk_48, sk_49, sk_50, sk_51, sk_52, sk_53, sn_0, sn_1, sn_2, sn_3, sn_4, sn_5, sn_6, sn_7, sn_8, sn_9, sn_10, sn_11, sn_12, sn_13, sn_14, sn_15, sn_16, sn_17, sn_18, sn_19, sn_20, sn_21, sn_22, sn_23, sn_24, sn_25, sn_26, sn_27, sn_28, sn_29, sn_30, sn_31, sn_32, sn_33, sn_34, sn_35, sn_36, sn_37, sn_38, sn_39, sn_40, sn_41, sn_42, sn_43, sn_44, sn_45, sn_46, sn_47, sn_48, sn_49, sn_50, sn_51, sn_52, sn_53, rf_2_1, rf_2_2, rf_2_3, rf_2_4, rf_1_0, rf_1_1, rf_8_0, rf_7_0, rf_10_0, rf_7_1, rf_12_0, rf_7_2, rf_14_0, rf_7_3, rf_16_1, rf_16_2, rf_16_3, rf_16_4, rf_16_5, rf_16_6, rf_16_7, rf_1_2, rf_24_1, rf_24_2, rf_24_3, rf_24_4, rf_24_5, rf_24_6, rf_24_7, rf_1_3, rf_32_2, rf_32_3, rf_32_4, rf_32_5, rf_32_6, rf_32_7, rf_32_8, rf_32_9, rf_32_10, rf_32_12, rf_32_14, rf_32_15, rf_32_16, rf_32_18, rf_32_19, rf_32_21, rf_32_25, rf_32_26, rf_32_27, rf_32_28, rf_32_30, true_and, and_true, true_or, or_true, or_false, false_or, false_and, and_false, not_true, not_false_iff, ne_eq, and_self, eq_self, if_true, if_false, ite_true, ite_false, Nat.reduceLeDiff, Int.cast_ofNat_Int, Int.reduceLT, Int.reduceLE, Int.reduceEq, Int.reduceNeg, reduceCtorEq, jup_ap, Nat.reduceEqDiff, Nat.reduceAdd, Int.one_ne_zero]
          cases hg : gd m (nc p) r
          · have hz : m1 (16 + 4) r = 0 := by rw [hgd, show gd m (8 + 2 * p.toNat) r = false from hg]; rfl
            rw [if_neg (by simp [show m1 20 r = 0 from hz])]
            exact h0 (fun q => by have := q.2.2; rw [hg] at this; cases this) m1 hF
          · have hz : m1 (16 + 4) r = 1 := by rw [hgd, show gd m (8 + 2 * p.toNat) r = true from hg]; rfl
            rw [if_pos (by rw [show m1 20 r = 1 from hz]; simp; omega)]
            have hq := hQ ⟨⟨by omega, h3⟩, hp, hg⟩ m1 hF
            by_cases e : side = 0
            · rw [if_neg (fun q => q e), w_T_cFrom (s := s) (Or.inl rfl) h hlo hah L h3]
              rw [if_pos e] at hq
              simp only [x_T_lies_0, x_T_lies_1, x_T_lies_4, x_T_lies_5, x_T_lies_6, x_T_lies_9, x_T_lies_10, x_T_lies_13, x_T_lies_14, x_T_lies_15, x_T_lies_18, x_T_lies_19, x_T_lies_22, x_T_lies_23, x_T_lies_24, x_T_lies_25, x_T_lies_26, x_T_lies_29, x_T_lies_32, x_T_lies_33, x_T_lies_36, x_T_lies_37, x_T_lies_40, x_T_lies_43, x_T_lies_44, x_T_lies_45, x_T_lies_46, x_T_lies_49, x_T_lies_50, x_T_lies_51, x_T_lies_54, x_T_lies_55, x_T_lies_58, x_T_lies_61, x_T_lies_62, x_T_lies_63, x_T_lies_66, x_T_lies_67, x_T_lies_70, sk_0, sk_1, sk_2, sk_3, sk_4, sk_5, sk_6, sk_7, sk_8, sk_9, sk_10, sk_11, sk_12, sk_13, sk_14, sk_15, sk_16, sk_17, sk_18, sk_19, sk_20, sk_21, sk_22, sk_23, sk_24, sk_25, sk_26, sk_27, sk_28, sk_29, sk_30, sk_31, sk_32, sk_33, sk_34, sk_35, sk_36, sk_37, sk_38, sk_39, sk_40, sk_41, sk_42, sk_43, sk_44, sk_45, sk_46, sk_47, sk_48, sk_49, sk_50, sk_51, sk_52, sk_53, sn_0, sn_1, sn_2, sn_3, sn_4, sn_5, sn_6, sn_7, sn_8, sn_9, sn_10, sn_11, sn_12, sn_13, sn_14, sn_15, sn_16, sn_17, sn_18, sn_19, sn_20, sn_21, sn_22, sn_23, sn_24, sn_25, sn_26, sn_27, sn_28, sn_29, sn_30, sn_31, sn_32, sn_33, sn_34, sn_35, sn_36, sn_37, sn_38, sn_39, sn_40, sn_41, sn_42, sn_43, sn_44, sn_45, sn_46, sn_47, sn_48, sn_49, sn_50, sn_51, sn_52, sn_53, rf_2_1, rf_2_2, rf_2_3, rf_2_4, rf_1_0, rf_1_1, rf_8_0, rf_7_0, rf_10_0, rf_7_1, rf_12_0, rf_7_2, rf_14_0, rf_7_3, rf_16_1, rf_16_2, rf_16_3, rf_16_4, rf_16_5, rf_16_6, rf_16_7, rf_1_2, rf_24_1, rf_24_2, rf_24_3, rf_24_4, rf_24_5, rf_24_6, rf_24_7, rf_1_3, rf_32_2, rf_32_3, rf_32_4, rf_32_5, rf_32_6, rf_32_7, rf_32_8, rf_32_9, rf_32_10, rf_32_12, rf_32_14, rf_32_15, rf_32_16, rf_32_18, rf_32_19, rf_32_21, rf_32_25, rf_32_26, rf_32_27, rf_32_28, rf_32_30, true_and, and_true, true_or, or_true, or_false, false_or, false_and, and_false, not_true, not_false_iff, ne_eq, and_self, eq_self, if_true, if_false, ite_true, ite_false, Nat.reduceLeDiff, Int.cast_ofNat_Int, Int.reduceLT, Int.reduceLE, Int.reduceEq, Int.reduceNeg, reduceCtorEq, jup_ap, Nat.reduceEqDiff, Nat.reduceAdd]
              exact hq
            · rw [if_pos e, w_T_cTo (s := s) (Or.inl rfl) h hlo hah hsn L h3]
              rw [if_neg e] at hq
              simp only [x_T_lies_0, x_T_lies_1, x_T_lies_4, x_T_lies_5, x_T_lies_6, x_T_lies_9, x_T_lies_10, x_T_lies_13, x_T_lies_14, x_T_lies_15, x_T_lies_18, x_T_lies_19, x_T_lies_22, x_T_lies_23, x_T_lies_24, x_T_lies_25, x_T_lies_26, x_T_lies_29, x_T_lies_32, x_T_lies_33, x_T_lies_36, x_T_lies_37, x_T_lies_40, x_T_lies_43, x_T_lies_44, x_T_lies_45, x_T_lies_46, x_T_lies_49, x_T_lies_50, x_T_lies_51, x_T_lies_54, x_T_lies_55, x_T_lies_58, x_T_lies_61, x_T_lies_62, x_T_lies_63, x_T_lies_66, x_T_lies_67, x_T_lies_70, sk_0, sk_1, sk_2, sk_3, sk_4, sk_5, sk_6, sk_7, sk_8, sk_9, sk_10, sk_11, sk_12, sk_13, sk_14, sk_15, sk_16, sk_17, sk_18, sk_19, sk_20, sk_21, sk_22, sk_23, sk_24, sk_25, sk_26, sk_27, sk_28, sk_29, sk_30, sk_31, sk_32, sk_33, sk_34, sk_35, sk_36, sk_37, sk_38, sk_39, sk_40, sk_41, sk_42, sk_43, sk_44, sk_45, sk_46, sk_47, sk_48, sk_49, sk_50, sk_51, sk_52, sk_53, sn_0, sn_1, sn_2, sn_3, sn_4, sn_5, sn_6, sn_7, sn_8, sn_9, sn_10, sn_11, sn_12, sn_13, sn_14, sn_15, sn_16, sn_17, sn_18, sn_19, sn_20, sn_21, sn_22, sn_23, sn_24, sn_25, sn_26, sn_27, sn_28, sn_29, sn_30, sn_31, sn_32, sn_33, sn_34, sn_35, sn_36, sn_37, sn_38, sn_39, sn_40, sn_41, sn_42, sn_43, sn_44, sn_45, sn_46, sn_47, sn_48, sn_49, sn_50, sn_51, sn_52, sn_53, rf_2_1, rf_2_2, rf_2_3, rf_2_4, rf_1_0, rf_1_1, rf_8_0, rf_7_0, rf_10_0, rf_7_1, rf_12_0, rf_7_2, rf_14_0, rf_7_3, rf_16_1, rf_16_2, rf_16_3, rf_16_4, rf_16_5, rf_16_6, rf_16_7, rf_1_2, rf_24_1, rf_24_2, rf_24_3, rf_24_4, rf_24_5, rf_24_6, rf_24_7, rf_1_3, rf_32_2, rf_32_3, rf_32_4, rf_32_5, rf_32_6, rf_32_7, rf_32_8, rf_32_9, rf_32_10, rf_32_12, rf_32_14, rf_32_15, rf_32_16, rf_32_18, rf_32_19, rf_32_21, rf_32_25, rf_32_26, rf_32_27, rf_32_28, rf_32_30, true_and, and_true, true_or, or_true, or_false, false_or, false_and, and_false, not_true, not_false_iff, ne_eq, and_self, eq_self, if_true, if_false, ite_true, ite_false, Nat.reduceLeDiff, Int.cast_ofNat_Int, Int.reduceLT, Int.reduceLE, Int.reduceEq, Int.reduceNeg, reduceCtorEq, jup_ap, Nat.reduceEqDiff, Nat.reduceAdd]
              exact hq
      · rw [if_neg h3]
        exact h0 (fun q => h3 q.1.2) m Fr.rf
