theorem dlt_ex {c : jM} {a : Nat} {x : Int} : ∀ k : Nat, dlt c a x k = true ↔ ∃ d : Int, (1 ≤ d ∧ d ≤ k) ∧ cellV c d 0 = 1 ∧ cellV c d 5 = x ∧ gd c a d = true
  | 0 => by
    simp only [dlt, Bool.false_eq_true, false_iff]
    rintro ⟨d, h1, -⟩
    omega
  | k + 1 => by
    unfold dlt
    rw [Bool.or_eq_true, dlt_ex k, Bool.and_eq_true, Bool.and_eq_true, decide_eq_true_eq, decide_eq_true_eq]
    constructor
    · rintro (⟨⟨h1, h2⟩, h3⟩ | ⟨d, h1, h2⟩)
      · exact ⟨(k : Int) + 1, by omega, h2, h3, h1⟩
      · exact ⟨d, by omega, h2⟩
    · rintro ⟨d, h1, h2, h3, h4⟩
      by_cases e : d = (k : Int) + 1
      · subst e
        exact Or.inl ⟨⟨h4, h2⟩, h3⟩
      · exact Or.inr ⟨d, by omega, h2, h3, h4⟩
theorem wl_M_del {c m : jM} {n a : Nat} (hn : n ≤ 250) (hM : MB c m n) (hg : ∀ r : Int, 1 ≤ r → r ≤ n → m 42 r = b2i (gd c a r)) (L : Nat) (x : Int) (Q : jV → jG → jM → Prop) :
    ∀ (d : Nat) (i : Int), 1 ≤ i → i + d = (n : Int) + 1 → (∀ e : Int, 1 ≤ e → e < i → ¬ (cellV c e 0 = 1 ∧ cellV c e 5 = x ∧ gd c a e = true)) → wp 40 2 [jO (some 32), jI x, jI i] [] (g0 L) m Q = Q (jI (b2i (dlt c a x n))) (g0 L) m := by
  have h1 := hM.1
  intro d
  induction d with
  | zero =>
    intro i i1 i2 hI
    have hlt : (n : Int) < i := by omega
    have e : dlt c a x n = false := by
      cases q : dlt c a x n
      · rfl
      · obtain ⟨d, h1, h2⟩ := (dlt_ex n).mp q
        exact absurd h2 (hI d h1.1 (by omega))
    rw [x_M_isDeleted_2]
    simp only [x_M_isDeleted_3, x_M_isDeleted_4, x_M_isDeleted_7, x_M_isDeleted_47, x_M_isDeleted_48, h1, hlt, e, sk_0, sk_1, sk_2, sk_3, sk_4, sk_5, sk_6, sk_7, sk_8, sk_9, sk_10, sk_11, sk_12, sk_13, sk_14, sk_15, sk_16, sk_17, sk_18, sk_19, sk_20, sk_21, sk_22, sk_23, sk_24, sk_25, sk_26, sk_27, sk_28, sk_29, sk_30, sk_31, sk_32, sk_33, sk_34, sk_35, sk_36, sk_37, sk_38, sk_39, sk_40, sk_41, sk_42, sk_43, sk_44, sk_45, sk_46, sk_47, sk_48, sk_49, sk_50, sk_51, sk_52, sk_53, sn_0, sn_1, sn_2, sn_3, sn_4, sn_5, sn_6, sn_7, sn_8, sn_9, sn_10, sn_11, sn_12, sn_13, sn_14, sn_15, sn_16, sn_17, sn_18, sn_19, sn_20, sn_21, sn_22, sn_23, sn_24, sn_25, sn_26, sn_27, sn_28, sn_29, sn_30, sn_31, sn_32, sn_33, sn_34, sn_35, sn_36, sn_37, sn_38, sn_39, sn_40, sn_41, sn_42, sn_43, sn_44, sn_45, sn_46, sn_47, sn_48, sn_49, sn_50, sn_51, sn_52, sn_53, rf_2_1, rf_2_2, rf_2_3, rf_2_4, rf_1_0, rf_1_1, rf_8_0, rf_7_0, rf_10_0, rf_7_1, rf_12_0, rf_7_2, rf_14_0, rf_7_3, rf_16_1, rf_16_2, rf_16_3, rf_16_4, rf_16_5, rf_16_6, rf_16_7, rf_1_2, rf_24_1, rf_24_2, rf_24_3, rf_24_4, rf_24_5, rf_24_6, rf_24_7, rf_1_3, rf_32_2, rf_32_3, rf_32_4, rf_32_5, rf_32_6, rf_32_7, rf_32_8, rf_32_9, rf_32_10, rf_32_12, rf_32_14, rf_32_15, rf_32_16, rf_32_18, rf_32_19, rf_32_21, rf_32_25, rf_32_26, rf_32_27, rf_32_28, rf_32_30, true_and, and_true, true_or, or_true, or_false, false_or, false_and, and_false, not_true, not_false_iff, ne_eq, and_self, eq_self, if_true, if_false, ite_true, ite_false, Nat.reduceLeDiff, Int.cast_ofNat_Int, Int.reduceLT, Int.reduceLE, Int.reduceEq, Int.reduceNeg, reduceCtorEq, jup_ap, Nat.reduceEqDiff, Nat.reduceAdd]
    rfl
  | succ d ih =>
    intro i i1 i2 hI
    have hlt : ¬ (n : Int) < i := by omega
    have hb : 0 ≤ i ∧ i < 251 := by omega
    have hrow := hM.2.1 i i1 (by omega)
    have e1 : jwr (i + 1) = i + 1 := jw1 (by omega) (by omega)
    have go : ¬ (cellV c i 0 = 1 ∧ cellV c i 5 = x ∧ gd c a i = true) → wp 40 2 [jO (some 32), jI x, jI (i + 1)] [] (g0 L) m Q = Q (jI (b2i (dlt c a x n))) (g0 L) m := fun hno => ih (i + 1) (by omega) (by omega) (fun e a b => by
      by_cases q : e = i
      · rw [q]; exact hno
      · exact hI e a (by omega))
    rw [x_M_isDeleted_2]
    simp only [x_M_isDeleted_0, x_M_isDeleted_1, x_M_isDeleted_3, x_M_isDeleted_4, x_M_isDeleted_7, x_M_isDeleted_10, x_M_isDeleted_11, x_M_isDeleted_14, x_M_isDeleted_15, x_M_isDeleted_16, x_M_isDeleted_17, x_M_isDeleted_20, x_M_isDeleted_21, x_M_isDeleted_24, x_M_isDeleted_25, x_M_isDeleted_26, x_M_isDeleted_27, x_M_isDeleted_30, x_M_isDeleted_31, x_M_isDeleted_34, x_M_isDeleted_35, x_M_isDeleted_36, x_M_isDeleted_39, x_M_isDeleted_40, x_M_isDeleted_41, x_M_isDeleted_44, x_M_isDeleted_47, x_M_isDeleted_48, h1, hlt, hb, e1, hrow.1, hrow.2.2.2.2.2.1, hg i i1 (by omega), b2i_0, sk_0, sk_1, sk_2, sk_3, sk_4, sk_5, sk_6, sk_7, sk_8, sk_9, sk_10, sk_11, sk_12, sk_13, sk_14, sk_15, sk_16, sk_17, sk_18, sk_19, sk_20, sk_21, sk_22, sk_23, sk_24, sk_25, sk_26, sk_27, sk_28, sk_29, sk_30, sk_31, sk_32, sk_33, sk_34, sk_35, sk_36, sk_37, sk_38, sk_39, sk_40, sk_41, sk_42, sk_43, sk_44, sk_45, sk_46, sk_47, sk_48, sk_49, sk_50, sk_51, sk_52, sk_53, sn_0, sn_1, sn_2, sn_3, sn_4, sn_5, sn_6, sn_7, sn_8, sn_9, sn_10, sn_11, sn_12, sn_13, sn_14, sn_15, sn_16, sn_17, sn_18, sn_19, sn_20, sn_21, sn_22, sn_23, sn_24, sn_25, sn_26, sn_27, sn_28, sn_29, sn_30, sn_31, sn_32, sn_33, sn_34, sn_35, sn_36, sn_37, sn_38, sn_39, sn_40, sn_41, sn_42, sn_43, sn_44, sn_45, sn_46, sn_47, sn_48, sn_49, sn_50, sn_51, sn_52, sn_53, rf_2_1, rf_2_2, rf_2_3, rf_2_4, rf_1_0, rf_1_1, rf_8_0, rf_7_0, rf_10_0, rf_7_1, rf_12_0, rf_7_2, rf_14_0, rf_7_3, rf_16_1, rf_16_2, rf_16_3, rf_16_4, rf_16_5, rf_16_6, rf_16_7, rf_1_2, rf_24_1, rf_24_2, rf_24_3, rf_24_4, rf_24_5, rf_24_6, rf_24_7, rf_1_3, rf_32_2, rf_32_3, rf_32_4, rf_32_5, rf_32_6, rf_32_7, rf_32_8, rf_32_9, rf_32_10, rf_32_12, rf_32_14, rf_32_15, rf_32_16, rf_32_18, rf_32_19, rf_32_21, rf_32_25, rf_32_26, rf_32_27, rf_32_28, rf_32_30, true_and, and_true, true_or, or_true, or_false, false_or, false_and, and_false, not_true, not_false_iff, ne_eq, and_self, eq_self, if_true, if_false, ite_true, ite_false, Nat.reduceLeDiff, Int.cast_ofNat_Int, Int.reduceLT, Int.reduceLE, Int.reduceEq, Int.reduceNeg, reduceCtorEq, jup_ap, Nat.reduceEqDiff, Nat.reduceAdd]
    by_cases q1 : cellV c i 0 = 1
    · rw [if_neg (fun q => q q1)]
      by_cases q2 : cellV c i 5 = x
      · rw [if_neg (fun q => q q2)]
        cases q3 : gd c a i
        · simp only [true_and, and_true, true_or, or_true, or_false, false_or, false_and, and_false, not_true, not_false_iff, ne_eq, and_self, eq_self, if_true, if_false, ite_true, ite_false, Nat.reduceLeDiff, Int.cast_ofNat_Int, Int.reduceLT, Int.reduceLE, Int.reduceEq, Int.reduceNeg, reduceCtorEq, jup_ap, Nat.reduceEqDiff, Nat.reduceAdd]
          exact go (fun q => by rw [q3] at q; cases q.2.2)
        · simp only [true_and, and_true, true_or, or_true, or_false, false_or, false_and, and_false, not_true, not_false_iff, ne_eq, and_self, eq_self, if_true, if_false, ite_true, ite_false, Nat.reduceLeDiff, Int.cast_ofNat_Int, Int.reduceLT, Int.reduceLE, Int.reduceEq, Int.reduceNeg, reduceCtorEq, jup_ap, Nat.reduceEqDiff, Nat.reduceAdd, Bool.true_eq_false]
          rw [(dlt_ex n).mpr ⟨i, by omega, q1, q2, q3⟩]
          rfl
      · rw [if_pos q2]
        exact go (fun q => q2 q.2.1)
    · rw [if_pos q1]
      exact go (fun q => q1 q.1)
theorem w_M_isDeleted {c m : jM} {n a : Nat} (hn : n ≤ 250) (hM : MB c m n) (hg : ∀ r : Int, 1 ≤ r → r ≤ n → m 42 r = b2i (gd c a r)) (L : Nat) (x : Int) (Q : jV → jG → jM → Prop) : wp 40 0 [jO (some 32), jI x, jU] [] (g0 L) m Q = Q (jI (b2i (dlt c a x n))) (g0 L) m := by
  simp only [x_M_isDeleted_0, x_M_isDeleted_1]
  exact wl_M_del hn hM hg L x Q n 1 (by omega) (by omega) (fun e a b => by omega)
/-- how many of the first j are seen -/
def cq (q : Int → Bool) (l : List Int) (j : Nat) : Int := (((l.take j).filter q).length : Int)
theorem cq_ar {q : Int → Bool} {f : Int → Int} {N j : Nat} (hj : j ≤ N) : cq q (ar f N) j = (((ar f j).filter q).length : Int) := by
  unfold cq
  rw [ar_take _ _ j hj]
theorem cq_0 (q : Int → Bool) (l : List Int) : cq q l 0 = 0 := rfl
theorem cq_succ {q : Int → Bool} {l : List Int} {j : Nat} {x : Int} (h : l[j]? = some x) : cq q l (j + 1) = cq q l j + b2i (q x) := by
  unfold cq
  rw [List.take_succ, h, List.filter_append, List.length_append]
  cases e : q x
  · simp [e, b2i]
  · simp [e, b2i]
theorem cq_mono {q : Int → Bool} {l : List Int} {i j : Nat} (h : i ≤ j) : cq q l i ≤ cq q l j := by
  unfold cq
  exact Int.ofNat_le.mpr (((List.take_sublist_take_left h).filter q).length_le)
theorem vs_eq {c : jM} {n : Nat} (h : CI c n) {a : Nat} {x : Int} (hx : x ∈ PLm c) : vs c a x = (gd c a x && !dlt c a x n) := by
  have := (h.plm.mp hx).2
  unfold vs
  rw [this, h.1]
  simp
theorem vs_kb {c : jM} {a : Nat} {x : Int} (h : vs c a x = true) : kb c a x = true := by
  unfold vs gd at h
  simp only [Bool.and_eq_true] at h
  exact h.1.1.1
theorem KL_vis (c : jM) (a : Nat) : (KLm c a).filter (vs c a) = visL c a := by
  unfold KLm visL
  rw [List.filter_filter]
  refine List.filter_congr (fun x _ => ?_)
  cases e : vs c a x
  · simp
  · rw [vs_kb e]
    simp
def SnP (c m1 : jM) (a : Nat) (f : Int → Int) (k s : Nat) : Prop := s ≤ k ∧ m1 32 17 = (s : Int) ∧ ar (m1 46) s = (ar f k).filter (vs c a) ∧ ∀ j : Nat, j < k → m1 45 j = cq (vs c a) (ar f k) j
theorem SnP.len {c m1 : jM} {a : Nat} {f : Int → Int} {k s : Nat} (h : SnP c m1 a f k s) : cq (vs c a) (ar f k) k = (s : Int) := by
  rw [cq_ar (Nat.le_refl _), ← h.2.2.1, ar_len]
theorem cq_take {q : Int → Bool} {f : Int → Int} {j k N : Nat} (h : j ≤ k) (h2 : j ≤ N) : cq q (ar f k) j = cq q (ar f N) j := by
  rw [cq_ar h, cq_ar h2]
theorem wl_M_look {c m : jM} {n : Nat} (h : CI c n) (hM : MB c m n) (L : Nat) {p : Int} (hg : ∀ r : Int, 1 ≤ r → r ≤ n → m 42 r = b2i (gd c (nc p) r)) (N : Nat) (hNn : N ≤ n) (hN : m 32 13 = (N : Int)) (hP : ar (m 43) N = KLm c (nc p)) (Q : jV → jG → jM → Prop)
    (hQ : ∀ m' s l3, Fr m m' [32, 45, 46] → (∀ j, j ≠ 17 → m' 32 j = m 32 j) → SnP c m' (nc p) (m 43) N s → wp 43 102 [jO (some 32), jI p, jI (N : Int), l3] [] (g0 L) m' Q) :
    ∀ (d k : Nat) (l3 : jV) (m1 : jM) (s : Nat), k + d = N → Fr m m1 [32, 45, 46] → (∀ j, j ≠ 17 → m1 32 j = m 32 j) → SnP c m1 (nc p) (m 43) k s → wp 43 31 [jO (some 32), jI p, jI (k : Int), l3] [] (g0 L) m1 Q := by
  have h2 := h.2.1
  intro d
  induction d with
  | zero =>
    intro k l3 m1 s hk hF hf hI
    have : k = N := by omega
    subst this
    have e0 : m1 32 13 = (k : Int) := by rw [hf 13 (by decide)]; exact hN
    rw [x_M_look_31]
    simp only [x_M_look_32, x_M_look_33, x_M_look_36, e0, Int.le_refl, sk_0, sk_1, sk_2, sk_3, sk_4, sk_5, sk_6, sk_7, sk_8, sk_9, sk_10, sk_11, sk_12, sk_13, sk_14, sk_15, sk_16, sk_17, sk_18, sk_19, sk_20, sk_21, sk_22, sk_23, sk_24, sk_25, sk_26, sk_27, sk_28, sk_29, sk_30, sk_31, sk_32, sk_33, sk_34, sk_35, sk_36, sk_37, sk_38, sk_39, sk_40, sk_41, sk_42, sk_43, sk_44, sk_45, sk_46, sk_47, sk_48, sk_49, sk_50, sk_51, sk_52, sk_53, sn_0, sn_1, sn_2, sn_3, sn_4, sn_5, sn_6, sn_7, sn_8, sn_9, sn_10, sn_11, sn_12, sn_13, sn_14, sn_15, sn_16, sn_17, sn_18, sn_19, sn_20, sn_21, sn_22, sn_23, sn_24, sn_25, sn_26, sn_27, sn_28, sn_29, sn_30, sn_31, sn_32, sn_33, sn_34, sn_35, sn_36, sn_37, sn_38, sn_39, sn_40, sn_41, sn_42, sn_43, sn_44, sn_45, sn_46, sn_47, sn_48, sn_49, sn_50, sn_51, sn_52, sn_53, rf_2_1, rf_2_2, rf_2_3, rf_2_4, rf_1_0, rf_1_1, rf_8_0, rf_7_0, rf_10_0, rf_7_1, rf_12_0, rf_7_2, rf_14_0, rf_7_3, rf_16_1, rf_16_2, rf_16_3, rf_16_4, rf_16_5, rf_16_6, rf_16_7, rf_1_2, rf_24_1, rf_24_2, rf_24_3, rf_24_4, rf_24_5, rf_24_6, rf_24_7, rf_1_3, rf_32_2, rf_32_3, rf_32_4, rf_32_5, rf_32_6, rf_32_7, rf_32_8, rf_32_9, rf_32_10, rf_32_12, rf_32_14, rf_32_15, rf_32_16, rf_32_18, rf_32_19, rf_32_21, rf_32_25, rf_32_26, rf_32_27, rf_32_28, rf_32_30, true_and, and_true, true_or, or_true, or_false, false_or, false_and, and_false, not_true, not_false_iff, ne_eq, and_self, eq_self, if_true, if_false, ite_true, ite_false, Nat.reduceLeDiff, Int.cast_ofNat_Int, Int.reduceLT, Int.reduceLE, Int.reduceEq, Int.reduceNeg, reduceCtorEq, jup_ap, Nat.reduceEqDiff, Nat.reduceAdd]
    exact hQ m1 s l3 hF hf hI
  | succ d ih =>
    intro k l3 m1 s hk hF hf hI
    have e0 : m1 32 13 = (N : Int) := by rw [hf 13 (by decide)]; exact hN
    have hlt : ¬ (N : Int) ≤ (k : Int) := by omega
    have hb : (0 : Int) ≤ (k : Int) ∧ (k : Int) < 251 := by omega
    have hb2 : (0 : Int) ≤ (k : Int) ∧ (k : Int) < 252 := by omega
    obtain ⟨i1, i2, i3, i4⟩ := id hI
    have hbs : (0 : Int) ≤ (s : Int) ∧ (s : Int) < 251 := by omega
    have l1 : k < 1000000 := by omega
    have l2 : s < 1000000 := by omega
    obtain ⟨r, hr⟩ : ∃ r, r = m 43 k := ⟨_, rfl⟩
    have e1 : m1 43 k = r := by rw [hF 43 (by simp), hr]
    have hmem : r ∈ PLm c := by
      have hm : r ∈ ar (m 43) N := ar_mem.mpr ⟨k, by omega, hr.symm⟩
      rw [hP] at hm
      exact (List.mem_filter.mp hm).1
    have hrb := (h.plm.mp hmem).1
    have hrb2 : 0 ≤ r ∧ r < 251 := by omega
    have eg : m1 42 r = b2i (gd c (nc p) r) := by rw [hF 42 (by simp)]; exact hg r hrb.1 hrb.2
    have hve := vs_eq h (a := nc p) hmem
    have hsc : ar (m 43) (k + 1) = ar (m 43) k ++ [r] := by rw [ar_succ, hr]
    have hlen := hI.len
    have hM2 : MB c (jup m1 45 (k : Int) (s : Int)) n := (hM.mk ⟨fun b hb j => hF b (by simp; omega) j, hf 1 (by decide)⟩).mk (MK.rf.up (by decide))
    have hg2 : ∀ r : Int, 1 ≤ r → r ≤ n → (jup m1 45 (k : Int) (s : Int)) 42 r = b2i (gd c (nc p) r) := fun r a b => by
      rw [jup_ap, if_neg (by omega), hF 42 (by simp)]
      exact hg r a b
    have hah : ∀ (m2 : jM), (∀ j, m2 45 j = (jup m1 45 (k : Int) (s : Int)) 45 j) → ∀ j : Nat, j < k + 1 → m2 45 j = cq (vs c (nc p)) (ar (m 43) (k + 1)) j := fun m2 hm j hj => by
      rw [hm, jup_ap]
      by_cases e : j = k
      · rw [e, if_pos ⟨rfl, rfl⟩, cq_take (N := k) (by omega) (Nat.le_refl _), hlen]
      · rw [if_neg (by omega), i4 j (by omega), cq_take (k := k) (N := k + 1) (by omega) (by omega)]
    have skip : vs c (nc p) r = false → wp 43 31 [jO (some 32), jI p, jI ((k + 1 : Nat) : Int), jI r] [] (g0 L) (jup m1 45 (k : Int) (s : Int)) Q := fun hno => by
      refine ih (k + 1) _ _ s (by omega) (hF.up (by simp)) (fun j hj => by rw [jup_ap, if_neg (by omega)]; exact hf j hj) ⟨by omega, by rw [jup_ap, if_neg (by omega)]; exact i2, ?_, hah _ (fun _ => rfl)⟩
      rw [hsc, List.filter_append, List.filter_cons, hno, show ar ((jup m1 45 (k : Int) (s : Int)) 46) s = ar (m1 46) s from ar_congr (fun i _ => by rw [jup_ap, if_neg (by omega)]), i3]
      simp
    rw [x_M_look_31]
    simp only [x_M_look_0, x_M_look_1, x_M_look_4, x_M_look_5, x_M_look_8, x_M_look_9, x_M_look_10, x_M_look_11, x_M_look_14, x_M_look_15, x_M_look_16, x_M_look_19, x_M_look_20, x_M_look_21, x_M_look_24, x_M_look_25, x_M_look_26, x_M_look_29, x_M_look_30, x_M_look_32, x_M_look_33, x_M_look_36, x_M_look_39, x_M_look_40, x_M_look_43, x_M_look_44, x_M_look_45, x_M_look_48, x_M_look_49, x_M_look_50, x_M_look_53, x_M_look_54, x_M_look_55, x_M_look_56, x_M_look_57, x_M_look_60, x_M_look_61, x_M_look_62, x_M_look_65, x_M_look_66, x_M_look_67, x_M_look_70, x_M_look_73, x_M_look_76, x_M_look_77, x_M_look_80, x_M_look_81, x_M_look_84, x_M_look_85, x_M_look_86, x_M_look_87, x_M_look_88, x_M_look_91, x_M_look_92, x_M_look_93, x_M_look_96, x_M_look_99, x_M_look_103, x_M_look_106, x_M_look_107, x_M_look_110, x_M_look_111, x_M_look_114, x_M_look_115, x_M_look_116, x_M_look_117, x_M_look_120, e0, e1, i2, eg, w_M_isDeleted h2 hM2 hg2 L, hlt, hb, hb2, hbs, hrb2, jwS l1, jwS l2, b2i_0, sk_0, sk_1, sk_2, sk_3, sk_4, sk_5, sk_6, sk_7, sk_8, sk_9, sk_10, sk_11, sk_12, sk_13, sk_14, sk_15, sk_16, sk_17, sk_18, sk_19, sk_20, sk_21, sk_22, sk_23, sk_24, sk_25, sk_26, sk_27, sk_28, sk_29, sk_30, sk_31, sk_32, sk_33, sk_34, sk_35, sk_36, sk_37, sk_38, sk_39, sk_40, sk_41, sk_42, sk_43, sk_44, sk_45, sk_46, sk_47, sk_48, sk_49, sk_50, sk_51, sk_52, sk_53, sn_0, sn_1, sn_2, sn_3, sn_4, sn_5, sn_6, sn_7, sn_8, sn_9, sn_10, sn_11, sn_12, sn_13, sn_14, sn_15, sn_16, sn_17, sn_18, sn_19, sn_20, sn_21, sn_22, sn_23, sn_24, sn_25, sn_26, sn_27, sn_28, sn_29, sn_30, sn_31, sn_32, sn_33, sn_34, sn_35, sn_36, sn_37, sn_38, sn_39, sn_40, sn_41, sn_42, sn_43, sn_44, sn_45, sn_46, sn_47, sn_48, sn_49, sn_50, sn_51, sn_52, sn_53, rf_2_1, rf_2_2, rf_2_3, rf_2_4, rf_1_0, rf_1_1, rf_8_0, rf_7_0, rf_10_0, rf_7_1, rf_12_0, rf_7_2, rf_14_0, rf_7_3, rf_16_1, rf_16_2, rf_16_3, rf_16_4, rf_16_5, rf_16_6, rf_16_7, rf_1_2, rf_24_1, rf_24_2, rf_24_3, rf_24_4, rf_24_5, rf_24_6, rf_24_7, rf_1_3, rf_32_2, rf_32_3, rf_32_4, rf_32_5, rf_32_6, rf_32_7, rf_32_8, rf_32_9, rf_32_10, rf_32_12, rf_32_14, rf_32_15, rf_32_16, rf_32_18, rf_32_19, rf_32_21, rf_32_25, rf_32_26, rf_32_27, rf_32_28, rf_32_30, true_and, and_true, true_or, or_true, or_false, false_or, false_and, and_false, not_true, not_false_iff, ne_eq, and_self, eq_self, if_true, if_false, ite_true, ite_false, Nat.reduceLeDiff, Int.cast_ofNat_Int, Int.reduceLT, Int.reduceLE, Int.reduceEq, Int.reduceNeg, reduceCtorEq, jup_ap, Nat.reduceEqDiff, Nat.reduceAdd]
    cases q1 : gd c (nc p) r
    · simp only [true_and, and_true, true_or, or_true, or_false, false_or, false_and, and_false, not_true, not_false_iff, ne_eq, and_self, eq_self, if_true, if_false, ite_true, ite_false, Nat.reduceLeDiff, Int.cast_ofNat_Int, Int.reduceLT, Int.reduceLE, Int.reduceEq, Int.reduceNeg, reduceCtorEq, jup_ap, Nat.reduceEqDiff, Nat.reduceAdd]
      exact skip (by rw [hve, q1]; rfl)
    · simp only [true_and, and_true, true_or, or_true, or_false, false_or, false_and, and_false, not_true, not_false_iff, ne_eq, and_self, eq_self, if_true, if_false, ite_true, ite_false, Nat.reduceLeDiff, Int.cast_ofNat_Int, Int.reduceLT, Int.reduceLE, Int.reduceEq, Int.reduceNeg, reduceCtorEq, jup_ap, Nat.reduceEqDiff, Nat.reduceAdd, Bool.true_eq_false]
      cases q2 : dlt c (nc p) r n
      · simp only [true_and, and_true, true_or, or_true, or_false, false_or, false_and, and_false, not_true, not_false_iff, ne_eq, and_self, eq_self, if_true, if_false, ite_true, ite_false, Nat.reduceLeDiff, Int.cast_ofNat_Int, Int.reduceLT, Int.reduceLE, Int.reduceEq, Int.reduceNeg, reduceCtorEq, jup_ap, Nat.reduceEqDiff, Nat.reduceAdd]
        have hv : vs c (nc p) r = true := by rw [hve, q1, q2]; rfl
        refine ih (k + 1) _ _ (s + 1) (by omega) (((hF.up (by simp)).up (by simp)).up (by simp)) (fun j hj => ?_) ⟨by omega, by rw [jup_ap, if_pos ⟨rfl, rfl⟩], ?_, hah _ (fun j => by rw [jup_ap, if_neg (by omega), jup_ap, if_neg (by omega)])⟩
        · rw [jup_ap, if_neg (fun q => hj q.2), jup_ap, if_neg (by omega), jup_ap, if_neg (by omega)]
          exact hf j hj
        · rw [hsc, List.filter_append, List.filter_cons, hv, ar_succ, ← i3]
          congr 1
          · exact ar_congr (fun i hi => by rw [jup_ap, if_neg (by omega), jup_ap, if_neg (by omega), jup_ap, if_neg (by omega)])
          · rw [jup_ap, if_neg (by omega), jup_ap, if_pos ⟨rfl, rfl⟩]
            rfl
      · simp only [true_and, and_true, true_or, or_true, or_false, false_or, false_and, and_false, not_true, not_false_iff, ne_eq, and_self, eq_self, if_true, if_false, ite_true, ite_false, Nat.reduceLeDiff, Int.cast_ofNat_Int, Int.reduceLT, Int.reduceLE, Int.reduceEq, Int.reduceNeg, reduceCtorEq, jup_ap, Nat.reduceEqDiff, Nat.reduceAdd, Bool.true_eq_false]
        exact skip (by rw [hve, q1, q2]; rfl)
