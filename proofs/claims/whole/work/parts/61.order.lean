theorem ord_ins {K : Int → Int} {f f' : Int → Int} {N k : Nat} {r : Int} (hk : k ≤ N) (h1 : ∀ i : Nat, i < k → f' i = f i) (h2 : f' k = r) (h3 : ∀ i : Nat, k < i → i ≤ N → f' i = f ((i : Int) - 1))
    (h4 : ∀ j : Nat, k ≤ j → j < N → K r < K (f j)) (h5 : ∀ j : Nat, j + 1 = k → ¬ K r < K (f j)) : (ar f' (N + 1)).reverse = pS K r (ar f N).reverse := by
  rw [ar_ins hk h1 h2 h3]
  obtain ⟨l, hl⟩ : ∃ l, l = ar f N := ⟨_, rfl⟩
  rw [← hl]
  have hu : ∀ x ∈ (l.drop k).reverse, K r < K x := by
    intro x hx
    obtain ⟨i, hi⟩ := List.getElem?_of_mem (List.mem_reverse.mp hx)
    rw [List.getElem?_drop, hl] at hi
    by_cases hlt : k + i < N
    · rw [ar_get hlt] at hi
      rw [← Option.some.inj hi]
      exact h4 (k + i) (by omega) hlt
    · rw [List.getElem?_eq_none (by rw [ar_len]; omega)] at hi
      cases hi
  have hw : ∀ x, ((l.take k).reverse).head? = some x → ¬ K r < K x := by
    intro x hx
    rw [List.head?_reverse, hl, ar_take _ _ k hk, List.getLast?_eq_getElem?, ar_len] at hx
    by_cases hk0 : k = 0
    · rw [List.getElem?_eq_none (by rw [ar_len]; omega)] at hx
      cases hx
    · rw [ar_get (by omega)] at hx
      rw [← Option.some.inj hx]
      exact h5 (k - 1) (by omega)
  have h6 := pS_split hw _ hu
  rw [← List.reverse_append, List.take_append_drop] at h6
  rw [h6]
  simp
theorem pOk0 : ∀ (xs l : List Int), xs.Nodup → (∀ x ∈ xs, x ∉ l) → pOk (fun _ => 0) l xs
  | [], _, _, _ => trivial
  | x :: xs, l, h, hd => by
    have h2 := List.nodup_cons.mp h
    refine ⟨Or.inl rfl, hd x List.mem_cons_self, pOk0 xs _ h2.2 (fun y hy q => ?_)⟩
    rcases List.mem_cons.mp q with z | z
    · exact h2.1 (by rw [← z]; exact hy)
    · exact hd y (List.mem_cons_of_mem _ hy) z
def sel (c : jM) (a : Nat) (s r : Int) : Bool := decide (cellV c r 0 = s) && kb c a r
def selL (c : jM) (a : Nat) (s : Int) (k : Nat) : List Int := (rowsL k).filter (sel c a s)
theorem selL_succ (c : jM) (a : Nat) (s : Int) (k : Nat) : selL c a s (k + 1) = if sel c a s ((k : Int) + 1) = true then selL c a s k ++ [(k : Int) + 1] else selL c a s k := by
  unfold selL
  rw [rowsL_succ, List.filter_append]
  by_cases e : sel c a s ((k : Int) + 1) = true
  · rw [if_pos e, List.filter_cons, if_pos e]
    rfl
  · rw [if_neg e, List.filter_cons, if_neg e]
    simp
/-- the order of those rows is the class's, with the others left out -/
theorem sel_ord {c : jM} {n : Nat} (h : CI c n) (a : Nat) (s : Int) : ((selL c a s n).foldl (pI (key c) (fun _ => 0)) []).reverse = (ar (c 5) n).filter (sel c a s) := by
  have h1 := p_filter (K := key c) (F := fun _ => 0) (p := sel c a s) (rowsL n) (pOk0 _ _ (rowsL_nodup n) (fun x _ q => by cases q)) (fun _ _ _ => Or.inl rfl) (fun x hx y hy e => by
    have hx2 := rowsL_mem.mp hx
    have hy2 := rowsL_mem.mp hy
    exact h.2.2.2.1 x y hx2.1 hx2.2 hy2.1 hy2.2 e)
  rw [← h.2.2.2.2.2.2.1] at h1
  unfold selL
  rw [← h1, ← List.filter_reverse, List.reverse_reverse]
theorem wl_M_ord {c m : jM} {n : Nat} (h : CI c n) (hM : MB c m n) (L : Nat) (p s r : Int) (hr : 1 ≤ r ∧ r ≤ n) (N : Nat) (hN : N < 250) (hb : ∀ j : Nat, j < N → 1 ≤ m 48 j ∧ m 48 j ≤ n) (Q : jV → jG → jM → Prop)
    (hQ : ∀ (m' : jM) (k : Nat), Fr m m' [48] → k ≤ N → (∀ j : Nat, j < k → m' 48 j = m 48 j) → m' 48 k = r → (∀ j : Nat, k < j → j ≤ N → m' 48 j = m 48 ((j : Int) - 1)) → (∀ j : Nat, k ≤ j → j < N → key c r < key c (m 48 j)) → (∀ j : Nat, j + 1 = k → ¬ key c r < key c (m 48 j)) → wp 38 95 [jO (some 32), jI p, jI s, jI r, jI (k : Int)] [] (g0 L) m' Q) :
    ∀ (i : Nat) (m1 : jM), i ≤ N → Fr m m1 [48] → (∀ j : Nat, j < i → m1 48 j = m 48 j) → (∀ j : Nat, i < j → j ≤ N → m1 48 j = m 48 ((j : Int) - 1)) → (∀ j : Nat, i ≤ j → j < N → key c r < key c (m 48 j)) →
      wp 38 43 [jO (some 32), jI p, jI s, jI r, jI (i : Int)] [] (g0 L) m1 Q := by
  intro i
  induction i with
  | zero =>
    intro m1 hi hF h1 h2 h3
    rw [x_M_findOrder_43]
    simp only [x_M_findOrder_45, x_M_findOrder_87, x_M_findOrder_88, x_M_findOrder_91, x_M_findOrder_93, x_M_findOrder_94, sk_0, sk_1, sk_2, sk_3, sk_4, sk_5, sk_6, sk_7, sk_8, sk_9, sk_10, sk_11, sk_12, sk_13, sk_14, sk_15, sk_16, sk_17, sk_18, sk_19, sk_20, sk_21, sk_22, sk_23, sk_24, sk_25, sk_26, sk_27, sk_28, sk_29, sk_30, sk_31, sk_32, sk_33, sk_34, sk_35, sk_36, sk_37, sk_38, sk_39, sk_40, sk_41, sk_42, sk_43, sk_44, sk_45, sk_46, sk_47, sk_48, sk_49, sk_50, sk_51, sk_52, sk_53, sn_0, sn_1, sn_2, sn_3, sn_4, sn_5, sn_6, sn_7, sn_8, sn_9, sn_10, sn_11, sn_12, sn_13, sn_14, sn_15, sn_16, sn_17, sn_18, sn_19, sn_20, sn_21, sn_22, sn_23, sn_24, sn_25, sn_26, sn_27, sn_28, sn_29, sn_30, sn_31, sn_32, sn_33, sn_34, sn_35, sn_36, sn_37, sn_38, sn_39, sn_40, sn_41, sn_42, sn_43, sn_44, sn_45, sn_46, sn_47, sn_48, sn_49, sn_50, sn_51, sn_52, sn_53, rf_2_1, rf_2_2, rf_2_3, rf_2_4, rf_1_0, rf_1_1, rf_8_0, rf_7_0, rf_10_0, rf_7_1, rf_12_0, rf_7_2, rf_14_0, rf_7_3, rf_16_1, rf_16_2, rf_16_3, rf_16_4, rf_16_5, rf_16_6, rf_16_7, rf_1_2, rf_24_1, rf_24_2, rf_24_3, rf_24_4, rf_24_5, rf_24_6, rf_24_7, rf_1_3, rf_32_2, rf_32_3, rf_32_4, rf_32_5, rf_32_6, rf_32_7, rf_32_8, rf_32_9, rf_32_10, rf_32_12, rf_32_14, rf_32_15, rf_32_16, rf_32_18, rf_32_19, rf_32_21, rf_32_25, rf_32_26, rf_32_27, rf_32_28, rf_32_30, true_and, and_true, true_or, or_true, or_false, false_or, false_and, and_false, not_true, not_false_iff, ne_eq, and_self, eq_self, if_true, if_false, ite_true, ite_false, Nat.reduceLeDiff, Int.cast_ofNat_Int, Int.reduceLT, Int.reduceLE, Int.reduceEq, Int.reduceNeg, reduceCtorEq, jup_ap, Nat.reduceEqDiff, Nat.reduceAdd]
    refine hQ _ 0 (hF.up (by simp)) (Nat.zero_le _) (fun j hj => by omega) (by rw [jup_ap, if_pos ⟨rfl, rfl⟩]) (fun j h4 h5 => ?_) h3 (fun j hj => by omega)
    rw [jup_ap, if_neg (by omega)]
    exact h2 j h4 h5
  | succ i ih =>
    intro m1 hi hF h1 h2 h3
    have e1 : m1 48 i = m 48 i := h1 i (by omega)
    have hM1 : MB c m1 n := hM.mk ⟨fun b hb j => hF b (by simp; omega) j, hF 32 (by simp) 1⟩
    have hbi := hb i (by omega)
    have hb1 : (0 : Int) ≤ ((i + 1 : Nat) : Int) ∧ ((i + 1 : Nat) : Int) < 251 := by omega
    have hb2 : (0 : Int) ≤ (i : Int) ∧ (i : Int) < 251 := by omega
    have fin : ¬ key c r < key c (m 48 i) → wp 38 95 [jO (some 32), jI p, jI s, jI r, jI ((i + 1 : Nat) : Int)] [] (g0 L) (jup m1 48 ((i + 1 : Nat) : Int) r) Q := fun hc => by
      refine hQ _ (i + 1) (hF.up (by simp)) hi (fun j hj => ?_) (by rw [jup_ap, if_pos ⟨rfl, rfl⟩]) (fun j h4 h5 => ?_) h3 (fun j hj => ?_)
      · rw [jup_ap, if_neg (by omega)]
        exact h1 j hj
      · rw [jup_ap, if_neg (by omega)]
        exact h2 j h4 h5
      · have : j = i := by omega
        rw [this]
        exact hc
    have go : key c r < key c (m 48 i) → wp 38 43 [jO (some 32), jI p, jI s, jI r, jI (i : Int)] [] (g0 L) (jup m1 48 ((i + 1 : Nat) : Int) (m 48 i)) Q := fun hc => by
      refine ih _ (by omega) (hF.up (by simp)) (fun j hj => ?_) (fun j h4 h5 => ?_) (fun j h4 h5 => ?_)
      · rw [jup_ap, if_neg (by omega)]
        exact h1 j (by omega)
      · rw [jup_ap]
        by_cases hj : j = i + 1
        · rw [if_pos ⟨rfl, by omega⟩, show ((j : Int) - 1) = (i : Int) by omega]
        · rw [if_neg (by omega)]
          exact h2 j (by omega) h5
      · by_cases hj : j = i
        · rw [hj]; exact hc
        · exact h3 j (by omega) h5
    have hpos : ¬ ((i + 1 : Nat) : Int) ≤ 0 := by omega
    have wb := fun Q => w_M_bf h hM1 L hr hbi Q
    rw [x_M_findOrder_43]
    simp only [x_M_findOrder_0, x_M_findOrder_1, x_M_findOrder_2, x_M_findOrder_5, x_M_findOrder_6, x_M_findOrder_8, x_M_findOrder_9, x_M_findOrder_12, x_M_findOrder_15, x_M_findOrder_16, x_M_findOrder_19, x_M_findOrder_20, x_M_findOrder_21, x_M_findOrder_22, x_M_findOrder_25, x_M_findOrder_26, x_M_findOrder_27, x_M_findOrder_28, x_M_findOrder_31, x_M_findOrder_34, x_M_findOrder_37, x_M_findOrder_38, x_M_findOrder_41, x_M_findOrder_45, x_M_findOrder_48, x_M_findOrder_49, x_M_findOrder_50, x_M_findOrder_51, x_M_findOrder_54, x_M_findOrder_56, x_M_findOrder_57, x_M_findOrder_58, x_M_findOrder_59, x_M_findOrder_62, x_M_findOrder_65, x_M_findOrder_66, x_M_findOrder_69, x_M_findOrder_71, x_M_findOrder_72, x_M_findOrder_75, x_M_findOrder_77, x_M_findOrder_78, x_M_findOrder_79, x_M_findOrder_80, x_M_findOrder_81, x_M_findOrder_84, x_M_findOrder_87, x_M_findOrder_88, x_M_findOrder_91, x_M_findOrder_93, x_M_findOrder_94, x_M_findOrder_96, x_M_findOrder_97, x_M_findOrder_100, x_M_findOrder_101, x_M_findOrder_102, x_M_findOrder_105, x_M_findOrder_108, x_M_findOrder_111, sk_0, sk_1, sk_2, sk_3, sk_4, sk_5, sk_6, sk_7, sk_8, sk_9, sk_10, sk_11, sk_12, sk_13, sk_14, sk_15, sk_16, sk_17, sk_18, sk_19, sk_20, sk_21, sk_22, sk_23, sk_24, sk_25, sk_26, sk_27, sk_28, sk_29, sk_30, sk_31, sk_32, sk_33, sk_34, sk_35, sk_36, sk_37, sk_38, sk_39, sk_40, sk_41, sk_42, sk_43, sk_44, sk_45, sk_46, sk_47, sk_48, sk_49, sk_50, sk_51, sk_52, sk_53, sn_0, sn_1, sn_2, sn_3, sn_4, sn_5, sn_6, sn_7, sn_8, sn_9, sn_10, sn_11, sn_12, sn_13, sn_14, sn_15, sn_16, sn_17, sn_18, sn_19, sn_20, sn_21, sn_22, sn_23, sn_24, sn_25, sn_26, sn_27, sn_28, sn_29, sn_30, sn_31, sn_32, sn_33, sn_34, sn_35, sn_36, sn_37, sn_38, sn_39, sn_40, sn_41, sn_42, sn_43, sn_44, sn_45, sn_46, sn_47, sn_48, sn_49, sn_50, sn_51, sn_52, sn_53, rf_2_1, rf_2_2, rf_2_3, rf_2_4, rf_1_0, rf_1_1, rf_8_0, rf_7_0, rf_10_0, rf_7_1, rf_12_0, rf_7_2, rf_14_0, rf_7_3, rf_16_1, rf_16_2, rf_16_3, rf_16_4, rf_16_5, rf_16_6, rf_16_7, rf_1_2, rf_24_1, rf_24_2, rf_24_3, rf_24_4, rf_24_5, rf_24_6, rf_24_7, rf_1_3, rf_32_2, rf_32_3, rf_32_4, rf_32_5, rf_32_6, rf_32_7, rf_32_8, rf_32_9, rf_32_10, rf_32_12, rf_32_14, rf_32_15, rf_32_16, rf_32_18, rf_32_19, rf_32_21, rf_32_25, rf_32_26, rf_32_27, rf_32_28, rf_32_30, true_and, and_true, true_or, or_true, or_false, false_or, false_and, and_false, not_true, not_false_iff, ne_eq, and_self, eq_self, if_true, if_false, ite_true, ite_false, Nat.reduceLeDiff, Int.cast_ofNat_Int, Int.reduceLT, Int.reduceLE, Int.reduceEq, Int.reduceNeg, reduceCtorEq, jup_ap, Nat.reduceEqDiff, Nat.reduceAdd, hb1, hb2, hpos, wb, e1, b01_0, show jwr (((i + 1 : Nat) : Int) - 1) = (i : Int) from (jw1 (by omega) (by omega)).trans (by omega), show jwr (((i + 1 : Nat) : Int) + -1) = (i : Int) from (jw1 (by omega) (by omega)).trans (by omega)]
    by_cases hc : key c r < key c (m 48 i)
    · rw [if_neg (fun q => q hc)]
      exact go hc
    · rw [if_pos hc]
      exact fin hc
def OrdP (c m1 : jM) (a : Nat) (s : Int) (k N : Nat) : Prop := N ≤ k ∧ m1 32 20 = (N : Int) ∧ (ar (m1 48) N).reverse = (selL c a s k).foldl (pI (key c) (fun _ => 0)) []
theorem wl_M_fo {c m : jM} {n : Nat} (h : CI c n) (hM : MB c m n) (L : Nat) {p : Int} (hp : 0 ≤ p ∧ p < 4) (s : Int) (Q : jV → jG → jM → Prop)
    (hQ : ∀ m' N, Fr m m' [32, 48] → (∀ j, j ≠ 20 → m' 32 j = m 32 j) → OrdP c m' (nc p) s n N → Q jU (g0 L) m') :
    ∀ (d k : Nat) (l4 : jV) (m1 : jM) (N : Nat), k + d = n → Fr m m1 [32, 48] → (∀ j, j ≠ 20 → m1 32 j = m 32 j) → OrdP c m1 (nc p) s k N → wp 38 7 [jO (some 32), jI p, jI s, jI ((k : Int) + 1), l4] [] (g0 L) m1 Q := by
  have h2 := h.2.1
  have h1 := hM.1
  intro d
  induction d with
  | zero =>
    intro k l4 m1 N hk hF hf hI
    have : k = n := by omega
    subst this
    have e0 : m1 32 1 = (k : Int) := by rw [hf 1 (by decide)]; exact h1
    have hlt : (k : Int) < (k : Int) + 1 := by omega
    rw [x_M_findOrder_7]
    simp only [x_M_findOrder_8, x_M_findOrder_9, x_M_findOrder_12, x_M_findOrder_111, e0, hlt, sk_0, sk_1, sk_2, sk_3, sk_4, sk_5, sk_6, sk_7, sk_8, sk_9, sk_10, sk_11, sk_12, sk_13, sk_14, sk_15, sk_16, sk_17, sk_18, sk_19, sk_20, sk_21, sk_22, sk_23, sk_24, sk_25, sk_26, sk_27, sk_28, sk_29, sk_30, sk_31, sk_32, sk_33, sk_34, sk_35, sk_36, sk_37, sk_38, sk_39, sk_40, sk_41, sk_42, sk_43, sk_44, sk_45, sk_46, sk_47, sk_48, sk_49, sk_50, sk_51, sk_52, sk_53, sn_0, sn_1, sn_2, sn_3, sn_4, sn_5, sn_6, sn_7, sn_8, sn_9, sn_10, sn_11, sn_12, sn_13, sn_14, sn_15, sn_16, sn_17, sn_18, sn_19, sn_20, sn_21, sn_22, sn_23, sn_24, sn_25, sn_26, sn_27, sn_28, sn_29, sn_30, sn_31, sn_32, sn_33, sn_34, sn_35, sn_36, sn_37, sn_38, sn_39, sn_40, sn_41, sn_42, sn_43, sn_44, sn_45, sn_46, sn_47, sn_48, sn_49, sn_50, sn_51, sn_52, sn_53, rf_2_1, rf_2_2, rf_2_3, rf_2_4, rf_1_0, rf_1_1, rf_8_0, rf_7_0, rf_10_0, rf_7_1, rf_12_0, rf_7_2, rf_14_0, rf_7_3, rf_16_1, rf_16_2, rf_16_3, rf_16_4, rf_16_5, rf_16_6, rf_16_7, rf_1_2, rf_24_1, rf_24_2, rf_24_3, rf_24_4, rf_24_5, rf_24_6, rf_24_7, rf_1_3, rf_32_2, rf_32_3, rf_32_4, rf_32_5, rf_32_6, rf_32_7, rf_32_8, rf_32_9, rf_32_10, rf_32_12, rf_32_14, rf_32_15, rf_32_16, rf_32_18, rf_32_19, rf_32_21, rf_32_25, rf_32_26, rf_32_27, rf_32_28, rf_32_30, true_and, and_true, true_or, or_true, or_false, false_or, false_and, and_false, not_true, not_false_iff, ne_eq, and_self, eq_self, if_true, if_false, ite_true, ite_false, Nat.reduceLeDiff, Int.cast_ofNat_Int, Int.reduceLT, Int.reduceLE, Int.reduceEq, Int.reduceNeg, reduceCtorEq, jup_ap, Nat.reduceEqDiff, Nat.reduceAdd]
    exact hQ m1 N hF hf hI
  | succ d ih =>
    intro k l4 m1 N hk hF hf hI
    have e0 : m1 32 1 = (n : Int) := by rw [hf 1 (by decide)]; exact h1
    have hn : ¬ (n : Int) < (k : Int) + 1 := by omega
    have hb : 0 ≤ (k : Int) + 1 ∧ (k : Int) + 1 < 251 := by omega
    have hM1 : MB c m1 n := hM.mk ⟨fun b hb j => hF b (by simp; omega) j, hf 1 (by decide)⟩
    have hrow := hM1.2.1 ((k : Int) + 1) (by omega) (by omega)
    have hsk := selL_succ c (nc p) s k
    have skip : sel c (nc p) s ((k : Int) + 1) = false → ∀ l4, wp 38 7 [jO (some 32), jI p, jI s, jI (jwr ((k : Int) + 1 + 1)), l4] [] (g0 L) m1 Q := fun hno l4 => by
      rw [jwSS (k := k) (by omega)]
      refine ih (k + 1) l4 m1 N (by omega) hF hf ⟨Nat.le_succ_of_le hI.1, hI.2.1, ?_⟩
      rw [hsk, hno]
      exact hI.2.2
    obtain ⟨i1, i2, i3⟩ := id hI
    rw [x_M_findOrder_7]
    simp only [x_M_findOrder_8, x_M_findOrder_9, x_M_findOrder_12, x_M_findOrder_15, x_M_findOrder_16, x_M_findOrder_19, x_M_findOrder_20, x_M_findOrder_21, x_M_findOrder_22, x_M_findOrder_25, x_M_findOrder_26, x_M_findOrder_27, x_M_findOrder_28, x_M_findOrder_31, x_M_findOrder_34, x_M_findOrder_37, x_M_findOrder_38, x_M_findOrder_41, x_M_findOrder_105, x_M_findOrder_108, w_M_kr h hM1 L hp hb, hrow.1, b2i_0, e0, i2, hn, hb, sk_0, sk_1, sk_2, sk_3, sk_4, sk_5, sk_6, sk_7, sk_8, sk_9, sk_10, sk_11, sk_12, sk_13, sk_14, sk_15, sk_16, sk_17, sk_18, sk_19, sk_20, sk_21, sk_22, sk_23, sk_24, sk_25, sk_26, sk_27, sk_28, sk_29, sk_30, sk_31, sk_32, sk_33, sk_34, sk_35, sk_36, sk_37, sk_38, sk_39, sk_40, sk_41, sk_42, sk_43, sk_44, sk_45, sk_46, sk_47, sk_48, sk_49, sk_50, sk_51, sk_52, sk_53, sn_0, sn_1, sn_2, sn_3, sn_4, sn_5, sn_6, sn_7, sn_8, sn_9, sn_10, sn_11, sn_12, sn_13, sn_14, sn_15, sn_16, sn_17, sn_18, sn_19, sn_20, sn_21, sn_22, sn_23, sn_24, sn_25, sn_26, sn_27, sn_28, sn_29, sn_30, sn_31, sn_32, sn_33, sn_34, sn_35, sn_36, sn_37, sn_38, sn_39, sn_40, sn_41, sn_42, sn_43, sn_44, sn_45, sn_46, sn_47, sn_48, sn_49, sn_50, sn_51, sn_52, sn_53, rf_2_1, rf_2_2, rf_2_3, rf_2_4, rf_1_0, rf_1_1, rf_8_0, rf_7_0, rf_10_0, rf_7_1, rf_12_0, rf_7_2, rf_14_0, rf_7_3, rf_16_1, rf_16_2, rf_16_3, rf_16_4, rf_16_5, rf_16_6, rf_16_7, rf_1_2, rf_24_1, rf_24_2, rf_24_3, rf_24_4, rf_24_5, rf_24_6, rf_24_7, rf_1_3, rf_32_2, rf_32_3, rf_32_4, rf_32_5, rf_32_6, rf_32_7, rf_32_8, rf_32_9, rf_32_10, rf_32_12, rf_32_14, rf_32_15, rf_32_16, rf_32_18, rf_32_19, rf_32_21, rf_32_25, rf_32_26, rf_32_27, rf_32_28, rf_32_30, true_and, and_true, true_or, or_true, or_false, false_or, false_and, and_false, not_true, not_false_iff, ne_eq, and_self, eq_self, if_true, if_false, ite_true, ite_false, Nat.reduceLeDiff, Int.cast_ofNat_Int, Int.reduceLT, Int.reduceLE, Int.reduceEq, Int.reduceNeg, reduceCtorEq, jup_ap, Nat.reduceEqDiff, Nat.reduceAdd]
    by_cases hs : cellV c ((k : Int) + 1) 0 = s
    · rw [if_neg (fun q => q hs)]
      cases hk2 : kb c (nc p) ((k : Int) + 1)
      · simp only [true_and, and_true, true_or, or_true, or_false, false_or, false_and, and_false, not_true, not_false_iff, ne_eq, and_self, eq_self, if_true, if_false, ite_true, ite_false, Nat.reduceLeDiff, Int.cast_ofNat_Int, Int.reduceLT, Int.reduceLE, Int.reduceEq, Int.reduceNeg, reduceCtorEq, jup_ap, Nat.reduceEqDiff, Nat.reduceAdd]
        exact skip (by unfold sel; rw [hk2]; simp) _
      · simp only [true_and, and_true, true_or, or_true, or_false, false_or, false_and, and_false, not_true, not_false_iff, ne_eq, and_self, eq_self, if_true, if_false, ite_true, ite_false, Nat.reduceLeDiff, Int.cast_ofNat_Int, Int.reduceLT, Int.reduceLE, Int.reduceEq, Int.reduceNeg, reduceCtorEq, jup_ap, Nat.reduceEqDiff, Nat.reduceAdd, Bool.true_eq_false]
        have hsel : sel c (nc p) s ((k : Int) + 1) = true := by unfold sel; rw [hk2, hs]; simp
        rw [if_pos hsel] at hsk
        have hbd : ∀ j : Nat, j < N → 1 ≤ m1 48 j ∧ m1 48 j ≤ n := fun j hj => by
          have hm : m1 48 j ∈ (ar (m1 48) N).reverse := List.mem_reverse.mpr (ar_mem.mpr ⟨j, hj, rfl⟩)
          rw [i3] at hm
          rcases (p_mem _ _).mp hm with q | q
          · have := rowsL_mem.mp (List.mem_filter.mp q).1
            omega
          · cases q
        refine wl_M_ord h hM1 L p s ((k : Int) + 1) (by omega) N (by omega) hbd Q (fun m2 k2 hF2 k3 g1 g2 g3 g4 g5 => ?_) N m1 (Nat.le_refl _) Fr.rf (fun _ _ => rfl) (fun j a b => by omega) (fun j a b => by omega)
        have e5 : m2 32 20 = (N : Int) := by rw [hF2 32 (by simp)]; exact i2
        have l1 : k < 1000000 := by omega
        have l2 : N < 1000000 := by omega
        simp only [x_M_findOrder_95, x_M_findOrder_96, x_M_findOrder_97, x_M_findOrder_100, x_M_findOrder_101, x_M_findOrder_102, x_M_findOrder_105, x_M_findOrder_108, e5, jwS l2, jwSS l1, sk_0, sk_1, sk_2, sk_3, sk_4, sk_5, sk_6, sk_7, sk_8, sk_9, sk_10, sk_11, sk_12, sk_13, sk_14, sk_15, sk_16, sk_17, sk_18, sk_19, sk_20, sk_21, sk_22, sk_23, sk_24, sk_25, sk_26, sk_27, sk_28, sk_29, sk_30, sk_31, sk_32, sk_33, sk_34, sk_35, sk_36, sk_37, sk_38, sk_39, sk_40, sk_41, sk_42, sk_43, sk_44, sk_45, sk_46, sk_47, sk_48, sk_49, sk_50, sk_51, sk_52, sk_53, sn_0, sn_1, sn_2, sn_3, sn_4, sn_5, sn_6, sn_7, sn_8, sn_9, sn_10, sn_11, sn_12, sn_13, sn_14, sn_15, sn_16, sn_17, sn_18, sn_19, sn_20, sn_21, sn_22, sn_23, sn_24, sn_25, sn_26, sn_27, sn_28, sn_29, sn_30, sn_31, sn_32, sn_33, sn_34, sn_35, sn_36, sn_37, sn_38, sn_39, sn_40, sn_41, sn_42, sn_43, sn_44, sn_45, sn_46, sn_47, sn_48, sn_49, sn_50, sn_51, sn_52, sn_53, rf_2_1, rf_2_2, rf_2_3, rf_2_4, rf_1_0, rf_1_1, rf_8_0, rf_7_0, rf_10_0, rf_7_1, rf_12_0, rf_7_2, rf_14_0, rf_7_3, rf_16_1, rf_16_2, rf_16_3, rf_16_4, rf_16_5, rf_16_6, rf_16_7, rf_1_2, rf_24_1, rf_24_2, rf_24_3, rf_24_4, rf_24_5, rf_24_6, rf_24_7, rf_1_3, rf_32_2, rf_32_3, rf_32_4, rf_32_5, rf_32_6, rf_32_7, rf_32_8, rf_32_9, rf_32_10, rf_32_12, rf_32_14, rf_32_15, rf_32_16, rf_32_18, rf_32_19, rf_32_21, rf_32_25, rf_32_26, rf_32_27, rf_32_28, rf_32_30, true_and, and_true, true_or, or_true, or_false, false_or, false_and, and_false, not_true, not_false_iff, ne_eq, and_self, eq_self, if_true, if_false, ite_true, ite_false, Nat.reduceLeDiff, Int.cast_ofNat_Int, Int.reduceLT, Int.reduceLE, Int.reduceEq, Int.reduceNeg, reduceCtorEq, jup_ap, Nat.reduceEqDiff, Nat.reduceAdd]
        refine ih (k + 1) _ _ (N + 1) (by omega) ((hF.trans (hF2.weak (by simp))).up (by simp)) (fun j hj => ?_) ⟨by omega, by rw [jup_ap, if_pos ⟨rfl, rfl⟩], ?_⟩
        · rw [jup_ap, if_neg (fun q => hj q.2), hF2 32 (by simp)]
          exact hf j hj
        · rw [hsk, List.foldl_append, ← i3]
          have := ord_ins (K := key c) k3 g1 g2 g3 g4 g5
          rw [show ar ((jup m2 32 20 ((N + 1 : Nat) : Int)) 48) (N + 1) = ar (m2 48) (N + 1) from ar_congr (fun i _ => by rw [jup_ap, if_neg (by omega)]), this]
          rfl
    · rw [if_pos hs]
      exact skip (by unfold sel; simp [hs]) _
theorem w_M_findOrder {c m : jM} {n : Nat} (h : CI c n) (hM : MB c m n) (L : Nat) {p : Int} (hp : 0 ≤ p ∧ p < 4) (s : Int) (Q : jV → jG → jM → Prop)
    (hQ : ∀ m' N, Fr m m' [32, 48] → (∀ j, j ≠ 20 → m' 32 j = m 32 j) → N ≤ n → m' 32 20 = (N : Int) → ar (m' 48) N = (ar (c 5) n).filter (sel c (nc p) s) → Q jU (g0 L) m') : wp 38 0 [jO (some 32), jI p, jI s, jU, jU] [] (g0 L) m Q := by
  simp only [x_M_findOrder_0, x_M_findOrder_1, x_M_findOrder_2, x_M_findOrder_5, x_M_findOrder_6, sk_0, sk_1, sk_2, sk_3, sk_4, sk_5, sk_6, sk_7, sk_8, sk_9, sk_10, sk_11, sk_12, sk_13, sk_14, sk_15, sk_16, sk_17, sk_18, sk_19, sk_20, sk_21, sk_22, sk_23, sk_24, sk_25, sk_26, sk_27, sk_28, sk_29, sk_30, sk_31, sk_32, sk_33, sk_34, sk_35, sk_36, sk_37, sk_38, sk_39, sk_40, sk_41, sk_42, sk_43, sk_44, sk_45, sk_46, sk_47, sk_48, sk_49, sk_50, sk_51, sk_52, sk_53, sn_0, sn_1, sn_2, sn_3, sn_4, sn_5, sn_6, sn_7, sn_8, sn_9, sn_10, sn_11, sn_12, sn_13, sn_14, sn_15, sn_16, sn_17, sn_18, sn_19, sn_20, sn_21, sn_22, sn_23, sn_24, sn_25, sn_26, sn_27, sn_28, sn_29, sn_30, sn_31, sn_32, sn_33, sn_34, sn_35, sn_36, sn_37, sn_38, sn_39, sn_40, sn_41, sn_42, sn_43, sn_44, sn_45, sn_46, sn_47, sn_48, sn_49, sn_50, sn_51, sn_52, sn_53, rf_2_1, rf_2_2, rf_2_3, rf_2_4, rf_1_0, rf_1_1, rf_8_0, rf_7_0, rf_10_0, rf_7_1, rf_12_0, rf_7_2, rf_14_0, rf_7_3, rf_16_1, rf_16_2, rf_16_3, rf_16_4, rf_16_5, rf_16_6, rf_16_7, rf_1_2, rf_24_1, rf_24_2, rf_24_3, rf_24_4, rf_24_5, rf_24_6, rf_24_7, rf_1_3, rf_32_2, rf_32_3, rf_32_4, rf_32_5, rf_32_6, rf_32_7, rf_32_8, rf_32_9, rf_32_10, rf_32_12, rf_32_14, rf_32_15, rf_32_16, rf_32_18, rf_32_19, rf_32_21, rf_32_25, rf_32_26, rf_32_27, rf_32_28, rf_32_30, true_and, and_true, true_or, or_true, or_false, false_or, false_and, and_false, not_true, not_false_iff, ne_eq, and_self, eq_self, if_true, if_false, ite_true, ite_false, Nat.reduceLeDiff, Int.cast_ofNat_Int, Int.reduceLT, Int.reduceLE, Int.reduceEq, Int.reduceNeg, reduceCtorEq, jup_ap, Nat.reduceEqDiff, Nat.reduceAdd]
  have hM1 : MB c (jup m 32 20 0) n := hM.mk (MK.rf.upf (by decide))
  refine wl_M_fo h hM1 L hp s Q (fun m' N hF hf hO => hQ m' N (fun b hb j => ?_) (fun j hj => ?_) hO.1 hO.2.1 ?_) n 0 jU _ 0 (by omega) Fr.rf (fun _ _ => rfl) ⟨Nat.le_refl _, (by rw [jup_ap, if_pos ⟨rfl, rfl⟩]; rfl), rfl⟩
  · rw [hF b hb, jup_ap, if_neg (fun q => hb (by rw [q.1]; simp))]
  · rw [hf j hj, jup_ap, if_neg (fun q => hj q.2)]
  · rw [← sel_ord h, ← hO.2.2, List.reverse_reverse]
