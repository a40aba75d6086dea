theorem ne1 (v : Nat) : (v = v + 1) = False := by simp
theorem nf1 (v : Nat) : (v + 1 = v) = False := by simp
theorem ne2 (v : Nat) : (v = v + 2) = False := by simp
theorem nf2 (v : Nat) : (v + 2 = v) = False := by simp
theorem ne3 (v : Nat) : (v = v + 3) = False := by simp
theorem nf3 (v : Nat) : (v + 3 = v) = False := by simp
theorem ne4 (v : Nat) : (v = v + 4) = False := by simp
theorem nf4 (v : Nat) : (v + 4 = v) = False := by simp
theorem ne5 (v : Nat) : (v = v + 5) = False := by simp
theorem nf5 (v : Nat) : (v + 5 = v) = False := by simp
theorem ne6 (v : Nat) : (v = v + 6) = False := by simp
theorem nf6 (v : Nat) : (v + 6 = v) = False := by simp
theorem ne7 (v : Nat) : (v = v + 7) = False := by simp
theorem nf7 (v : Nat) : (v + 7 = v) = False := by simp
theorem kv0 {v : Nat} (hv : isW v) {L : Nat} : (jsh (g0 L) v).1 = 12 := by rcases hv with rfl | rfl <;> rfl
theorem rv1 {v : Nat} (hv : isW v) {L : Nat} : (g0 L).2 v 1 = some (v + 1) := by rcases hv with rfl | rfl <;> rfl
theorem kv1 {v : Nat} (hv : isW v) {L : Nat} : (jsh (g0 L) (v + 1)).1 = 1 := by rcases hv with rfl | rfl <;> rfl
theorem nv1 {v : Nat} (hv : isW v) {L : Nat} : (jsh (g0 L) (v + 1)).2 = 250 := by rcases hv with rfl | rfl <;> rfl
theorem rv2 {v : Nat} (hv : isW v) {L : Nat} : (g0 L).2 v 2 = some (v + 2) := by rcases hv with rfl | rfl <;> rfl
theorem kv2 {v : Nat} (hv : isW v) {L : Nat} : (jsh (g0 L) (v + 2)).1 = 1 := by rcases hv with rfl | rfl <;> rfl
theorem nv2 {v : Nat} (hv : isW v) {L : Nat} : (jsh (g0 L) (v + 2)).2 = 250 := by rcases hv with rfl | rfl <;> rfl
theorem rv3 {v : Nat} (hv : isW v) {L : Nat} : (g0 L).2 v 3 = some (v + 3) := by rcases hv with rfl | rfl <;> rfl
theorem kv3 {v : Nat} (hv : isW v) {L : Nat} : (jsh (g0 L) (v + 3)).1 = 1 := by rcases hv with rfl | rfl <;> rfl
theorem nv3 {v : Nat} (hv : isW v) {L : Nat} : (jsh (g0 L) (v + 3)).2 = 250 := by rcases hv with rfl | rfl <;> rfl
theorem rv4 {v : Nat} (hv : isW v) {L : Nat} : (g0 L).2 v 4 = some (v + 4) := by rcases hv with rfl | rfl <;> rfl
theorem kv4 {v : Nat} (hv : isW v) {L : Nat} : (jsh (g0 L) (v + 4)).1 = 2 := by rcases hv with rfl | rfl <;> rfl
theorem nv4 {v : Nat} (hv : isW v) {L : Nat} : (jsh (g0 L) (v + 4)).2 = 251 := by rcases hv with rfl | rfl <;> rfl
theorem rv5 {v : Nat} (hv : isW v) {L : Nat} : (g0 L).2 v 5 = some (v + 5) := by rcases hv with rfl | rfl <;> rfl
theorem kv5 {v : Nat} (hv : isW v) {L : Nat} : (jsh (g0 L) (v + 5)).1 = 2 := by rcases hv with rfl | rfl <;> rfl
theorem nv5 {v : Nat} (hv : isW v) {L : Nat} : (jsh (g0 L) (v + 5)).2 = 251 := by rcases hv with rfl | rfl <;> rfl
theorem rv6 {v : Nat} (hv : isW v) {L : Nat} : (g0 L).2 v 6 = some (v + 6) := by rcases hv with rfl | rfl <;> rfl
theorem kv6 {v : Nat} (hv : isW v) {L : Nat} : (jsh (g0 L) (v + 6)).1 = 1 := by rcases hv with rfl | rfl <;> rfl
theorem nv6 {v : Nat} (hv : isW v) {L : Nat} : (jsh (g0 L) (v + 6)).2 = 251 := by rcases hv with rfl | rfl <;> rfl
theorem rv7 {v : Nat} (hv : isW v) {L : Nat} : (g0 L).2 v 7 = some (v + 7) := by rcases hv with rfl | rfl <;> rfl
theorem kv7 {v : Nat} (hv : isW v) {L : Nat} : (jsh (g0 L) (v + 7)).1 = 1 := by rcases hv with rfl | rfl <;> rfl
theorem nv7 {v : Nat} (hv : isW v) {L : Nat} : (jsh (g0 L) (v + 7)).2 = 251 := by rcases hv with rfl | rfl <;> rfl
theorem ka0 {a : Nat} (ha : isN a) {L : Nat} : (jsh (g0 L) a).1 = 10 := by rcases ha with rfl | rfl | rfl | rfl <;> rfl
theorem ra0 {a : Nat} (ha : isN a) {L : Nat} : (g0 L).2 a 0 = some (a + 1) := by rcases ha with rfl | rfl | rfl | rfl <;> rfl
theorem ka1 {a : Nat} (ha : isN a) {L : Nat} : (jsh (g0 L) (a + 1)).1 = 2 := by rcases ha with rfl | rfl | rfl | rfl <;> rfl
theorem na1 {a : Nat} (ha : isN a) {L : Nat} : (jsh (g0 L) (a + 1)).2 = 251 := by rcases ha with rfl | rfl | rfl | rfl <;> rfl
def b2i (b : Bool) : Int := if b = true then 1 else 0
theorem b2i_01 (b : Bool) : b2i b = 0 ∨ b2i b = 1 := by cases b <;> simp [b2i]
theorem b2i_0 (b : Bool) : (b2i b = 0) = (b = false) := by cases b <;> simp [b2i]
def kb (m : jM) (a : Nat) (r : Int) : Bool := decide ((0 ≤ r ∧ r < 251) ∧ m (a + 1) r ≠ 0)
def gd (m : jM) (a : Nat) (r : Int) : Bool := kb m a r && !kb m a (undoV m r)
/-- a good delete of x among the first k rows -/
def dlt (m : jM) (a : Nat) (x : Int) : Nat → Bool
  | 0 => false
  | k + 1 => (gd m a ((k : Int) + 1) && decide (cellV m ((k : Int) + 1) 0 = 1) && decide (cellV m ((k : Int) + 1) 5 = x)) || dlt m a x k
def vs (m : jM) (a : Nat) (x : Int) : Bool := gd m a x && decide (cellV m x 0 = 0) && !dlt m a x (m 2 0).toNat
theorem b01_kb (m : jM) (a : Nat) (r : Int) : b01 ((0 ≤ r ∧ r < 251) ∧ m (a + 1) r ≠ 0) = b2i (kb m a r) := by
  unfold b01 b2i kb
  simp only [decide_eq_true_eq]
theorem w_N_kb {a : Nat} (ha : isN a) (L : Nat) (r : Int) (m : jM) (Q : jV → jG → jM → Prop) : wp 81 0 [jO (some a), jI r] [] (g0 L) m Q = Q (jI (b2i (kb m a r))) (g0 L) m := by
  rw [w_N_knows ha, b01_kb]
theorem Fr.cell {m m1 : jM} {S : List Nat} (h : Fr m m1 S) (h2 : 2 ∉ S) (h3 : 3 ∉ S) (r w : Int) : cellV m1 r w = cellV m r w := by
  unfold cellV
  rw [h 2 h2, h 3 h3]
theorem Fr.undo {m m1 : jM} {S : List Nat} (h : Fr m m1 S) (h2 : 2 ∉ S) (h4 : 4 ∉ S) (r : Int) : undoV m1 r = undoV m r := by
  unfold undoV
  rw [h 2 h2, h 4 h4]
theorem Fr.kb {m m1 : jM} {S : List Nat} (h : Fr m m1 S) {a : Nat} (h2 : a + 1 ∉ S) (r : Int) : kb m1 a r = kb m a r := by
  show decide _ = decide _
  simp only [h (a + 1) h2]
theorem dlt_big {m : jM} {a : Nat} {x : Int} (hd : ∀ d : Int, 1 ≤ d → d ≤ m 2 0 → cellV m d 0 = 1 → 1 ≤ cellV m d 5 ∧ cellV m d 5 < d) : ∀ k : Nat, (k : Int) ≤ m 2 0 → (k : Int) ≤ x → dlt m a x k = false
  | 0, _, _ => rfl
  | k + 1, h1, h2 => by
    unfold dlt
    rw [dlt_big hd k (by omega) (by omega)]
    by_cases h : cellV m ((k : Int) + 1) 0 = 1
    · have := hd ((k : Int) + 1) (by omega) (by omega) h
      rw [show decide (cellV m ((k : Int) + 1) 5 = x) = false from decide_eq_false (by omega)]
      simp
    · simp [h]
theorem wl_V_mark {v a : Nat} (hv : isW v) (ha : isN a) (L : Nat) (m : jM) (Q : jV → jG → jM → Prop) (hn : 0 ≤ m 2 0 ∧ m 2 0 ≤ 250)
    (hd : ∀ d : Int, 1 ≤ d → d ≤ m 2 0 → cellV m d 0 = 1 → 1 ≤ cellV m d 5 ∧ cellV m d 5 < d)
    (hQ : ∀ m', Fr m m' [v + 4, v + 5] → (∀ x : Int, 1 ≤ x → x ≤ m 2 0 → m' (v + 4) x = b2i (gd m a x) ∧ m' (v + 5) x = b2i (vs m a x)) → Q jU (g0 L) m') :
    ∀ (d : Nat) (r : Int) (l4 : jV) (m1 : jM), 1 ≤ r → r + d = m 2 0 + 1 → Fr m m1 [v + 4, v + 5] →
      (∀ x : Int, 1 ≤ x → x < r → m1 (v + 4) x = b2i (gd m a x) ∧ m1 (v + 5) x = b2i (gd m a x && decide (cellV m x 0 = 0) && !dlt m a x (r - 1).toNat)) →
      wp 98 2 [jO (some v), jO (some 2), jO (some a), jI r, l4] [] (g0 L) m1 Q := by
  have n2 : 2 ∉ [v + 4, v + 5] := by simp
  have n3 : 3 ∉ [v + 4, v + 5] := by simp
  have n4 : 4 ∉ [v + 4, v + 5] := by unfold isW at hv; simp; omega
  have na : a + 1 ∉ [v + 4, v + 5] := by unfold isW at hv; unfold isN at ha; simp; omega
  intro d
  induction d with
  | zero =>
    intro r l4 m1 h1 h2 hF hI
    have hc : m1 2 0 = m 2 0 := hF 2 n2 0
    rw [x_V_markGoodAndSeen_2]
    simp only [x_V_markGoodAndSeen_0, x_V_markGoodAndSeen_1, x_V_markGoodAndSeen_3, x_V_markGoodAndSeen_4, x_V_markGoodAndSeen_7, x_V_markGoodAndSeen_10, x_V_markGoodAndSeen_11, x_V_markGoodAndSeen_12, x_V_markGoodAndSeen_13, x_V_markGoodAndSeen_16, x_V_markGoodAndSeen_18, x_V_markGoodAndSeen_19, x_V_markGoodAndSeen_22, x_V_markGoodAndSeen_23, x_V_markGoodAndSeen_24, x_V_markGoodAndSeen_25, x_V_markGoodAndSeen_28, x_V_markGoodAndSeen_31, x_V_markGoodAndSeen_32, x_V_markGoodAndSeen_33, x_V_markGoodAndSeen_34, x_V_markGoodAndSeen_37, x_V_markGoodAndSeen_40, x_V_markGoodAndSeen_43, x_V_markGoodAndSeen_44, x_V_markGoodAndSeen_47, x_V_markGoodAndSeen_48, x_V_markGoodAndSeen_49, x_V_markGoodAndSeen_50, x_V_markGoodAndSeen_53, x_V_markGoodAndSeen_54, x_V_markGoodAndSeen_55, x_V_markGoodAndSeen_58, x_V_markGoodAndSeen_59, x_V_markGoodAndSeen_60, x_V_markGoodAndSeen_63, x_V_markGoodAndSeen_65, x_V_markGoodAndSeen_68, x_V_markGoodAndSeen_69, x_V_markGoodAndSeen_72, x_V_markGoodAndSeen_73, x_V_markGoodAndSeen_74, x_V_markGoodAndSeen_75, x_V_markGoodAndSeen_78, x_V_markGoodAndSeen_79, x_V_markGoodAndSeen_80, x_V_markGoodAndSeen_83, x_V_markGoodAndSeen_85, x_V_markGoodAndSeen_86, x_V_markGoodAndSeen_89, x_V_markGoodAndSeen_90, x_V_markGoodAndSeen_91, x_V_markGoodAndSeen_92, x_V_markGoodAndSeen_93, x_V_markGoodAndSeen_96, x_V_markGoodAndSeen_99, x_V_markGoodAndSeen_102, x_V_markGoodAndSeen_105, w_R_count, sk_0, sk_1, sk_2, sk_3, sk_4, sk_5, sk_6, sk_7, sk_8, sk_9, sk_10, sk_11, sk_12, sk_13, sk_14, sk_15, sk_16, sk_17, sk_18, sk_19, sk_20, sk_21, sk_22, sk_23, sk_24, sk_25, sk_26, sk_27, sk_28, sk_29, sk_30, sk_31, sk_32, sk_33, sk_34, sk_35, sk_36, sk_37, sk_38, sk_39, sk_40, sk_41, sk_42, sk_43, sk_44, sk_45, sk_46, sk_47, sk_48, sk_49, sk_50, sk_51, sk_52, sk_53, sn_0, sn_1, sn_2, sn_3, sn_4, sn_5, sn_6, sn_7, sn_8, sn_9, sn_10, sn_11, sn_12, sn_13, sn_14, sn_15, sn_16, sn_17, sn_18, sn_19, sn_20, sn_21, sn_22, sn_23, sn_24, sn_25, sn_26, sn_27, sn_28, sn_29, sn_30, sn_31, sn_32, sn_33, sn_34, sn_35, sn_36, sn_37, sn_38, sn_39, sn_40, sn_41, sn_42, sn_43, sn_44, sn_45, sn_46, sn_47, sn_48, sn_49, sn_50, sn_51, sn_52, sn_53, rf_2_1, rf_2_2, rf_2_3, rf_2_4, rf_1_0, rf_1_1, rf_8_0, rf_7_0, rf_10_0, rf_7_1, rf_12_0, rf_7_2, rf_14_0, rf_7_3, rf_16_1, rf_16_2, rf_16_3, rf_16_4, rf_16_5, rf_16_6, rf_16_7, rf_1_2, rf_24_1, rf_24_2, rf_24_3, rf_24_4, rf_24_5, rf_24_6, rf_24_7, rf_1_3, rf_32_2, rf_32_3, rf_32_4, rf_32_5, rf_32_6, rf_32_7, rf_32_8, rf_32_9, rf_32_10, rf_32_12, rf_32_14, rf_32_15, rf_32_16, rf_32_18, rf_32_19, rf_32_21, rf_32_25, rf_32_26, rf_32_27, rf_32_28, rf_32_30, true_and, and_true, true_or, or_true, or_false, false_or, false_and, and_false, not_true, not_false_iff, ne_eq, and_self, eq_self, if_true, if_false, ite_true, ite_false, Nat.reduceLeDiff, Int.cast_ofNat_Int, Int.reduceLT, Int.reduceLE, Int.reduceEq, Int.reduceNeg, reduceCtorEq, jup_ap, Nat.reduceEqDiff, Nat.reduceAdd, kv0 hv, rv1 hv, kv1 hv, nv1 hv, rv2 hv, kv2 hv, nv2 hv, rv3 hv, kv3 hv, nv3 hv, rv4 hv, kv4 hv, nv4 hv, rv5 hv, kv5 hv, nv5 hv, rv6 hv, kv6 hv, nv6 hv, rv7 hv, kv7 hv, nv7 hv, ka0 ha, ra0 ha, ka1 ha, na1 ha]
    rw [hc, if_pos (by omega)]
    refine hQ m1 hF (fun x hx1 hx2 => ?_)
    have h := hI x hx1 (by omega)
    refine ⟨h.1, ?_⟩
    rw [h.2]
    unfold vs
    rw [show (r - 1).toNat = (m 2 0).toNat by omega]
  | succ d ih =>
    intro r l4 m1 h1 h2 hF hI
    have hc : m1 2 0 = m 2 0 := hF 2 n2 0
    have hc2 : m1 2 0 ≤ 250 := by omega
    have wc := fun r w Q => w_R_cell L r w m1 Q hc2
    have wu := fun r Q => w_R_undoOf L r m1 Q hc2
    have wk := fun r Q => w_N_kb ha L r m1 Q
    have e1 : jwr (r + 1) = r + 1 := jw1 (by omega) (by omega)
    rw [x_V_markGoodAndSeen_2]
    simp only [x_V_markGoodAndSeen_0, x_V_markGoodAndSeen_1, x_V_markGoodAndSeen_3, x_V_markGoodAndSeen_4, x_V_markGoodAndSeen_7, x_V_markGoodAndSeen_10, x_V_markGoodAndSeen_11, x_V_markGoodAndSeen_12, x_V_markGoodAndSeen_13, x_V_markGoodAndSeen_16, x_V_markGoodAndSeen_18, x_V_markGoodAndSeen_19, x_V_markGoodAndSeen_22, x_V_markGoodAndSeen_23, x_V_markGoodAndSeen_24, x_V_markGoodAndSeen_25, x_V_markGoodAndSeen_28, x_V_markGoodAndSeen_31, x_V_markGoodAndSeen_32, x_V_markGoodAndSeen_33, x_V_markGoodAndSeen_34, x_V_markGoodAndSeen_37, x_V_markGoodAndSeen_40, x_V_markGoodAndSeen_43, x_V_markGoodAndSeen_44, x_V_markGoodAndSeen_47, x_V_markGoodAndSeen_48, x_V_markGoodAndSeen_49, x_V_markGoodAndSeen_50, x_V_markGoodAndSeen_53, x_V_markGoodAndSeen_54, x_V_markGoodAndSeen_55, x_V_markGoodAndSeen_58, x_V_markGoodAndSeen_59, x_V_markGoodAndSeen_60, x_V_markGoodAndSeen_63, x_V_markGoodAndSeen_65, x_V_markGoodAndSeen_68, x_V_markGoodAndSeen_69, x_V_markGoodAndSeen_72, x_V_markGoodAndSeen_73, x_V_markGoodAndSeen_74, x_V_markGoodAndSeen_75, x_V_markGoodAndSeen_78, x_V_markGoodAndSeen_79, x_V_markGoodAndSeen_80, x_V_markGoodAndSeen_83, x_V_markGoodAndSeen_85, x_V_markGoodAndSeen_86, x_V_markGoodAndSeen_89, x_V_markGoodAndSeen_90, x_V_markGoodAndSeen_91, x_V_markGoodAndSeen_92, x_V_markGoodAndSeen_93, x_V_markGoodAndSeen_96, x_V_markGoodAndSeen_99, x_V_markGoodAndSeen_102, x_V_markGoodAndSeen_105, w_R_count, wc, wu, wk, w_V_hide hv, b2i_0, hF.cell n2 n3, hF.undo n2 n4, hF.kb na, e1, sk_0, sk_1, sk_2, sk_3, sk_4, sk_5, sk_6, sk_7, sk_8, sk_9, sk_10, sk_11, sk_12, sk_13, sk_14, sk_15, sk_16, sk_17, sk_18, sk_19, sk_20, sk_21, sk_22, sk_23, sk_24, sk_25, sk_26, sk_27, sk_28, sk_29, sk_30, sk_31, sk_32, sk_33, sk_34, sk_35, sk_36, sk_37, sk_38, sk_39, sk_40, sk_41, sk_42, sk_43, sk_44, sk_45, sk_46, sk_47, sk_48, sk_49, sk_50, sk_51, sk_52, sk_53, sn_0, sn_1, sn_2, sn_3, sn_4, sn_5, sn_6, sn_7, sn_8, sn_9, sn_10, sn_11, sn_12, sn_13, sn_14, sn_15, sn_16, sn_17, sn_18, sn_19, sn_20, sn_21, sn_22, sn_23, sn_24, sn_25, sn_26, sn_27, sn_28, sn_29, sn_30, sn_31, sn_32, sn_33, sn_34, sn_35, sn_36, sn_37, sn_38, sn_39, sn_40, sn_41, sn_42, sn_43, sn_44, sn_45, sn_46, sn_47, sn_48, sn_49, sn_50, sn_51, sn_52, sn_53, rf_2_1, rf_2_2, rf_2_3, rf_2_4, rf_1_0, rf_1_1, rf_8_0, rf_7_0, rf_10_0, rf_7_1, rf_12_0, rf_7_2, rf_14_0, rf_7_3, rf_16_1, rf_16_2, rf_16_3, rf_16_4, rf_16_5, rf_16_6, rf_16_7, rf_1_2, rf_24_1, rf_24_2, rf_24_3, rf_24_4, rf_24_5, rf_24_6, rf_24_7, rf_1_3, rf_32_2, rf_32_3, rf_32_4, rf_32_5, rf_32_6, rf_32_7, rf_32_8, rf_32_9, rf_32_10, rf_32_12, rf_32_14, rf_32_15, rf_32_16, rf_32_18, rf_32_19, rf_32_21, rf_32_25, rf_32_26, rf_32_27, rf_32_28, rf_32_30, true_and, and_true, true_or, or_true, or_false, false_or, false_and, and_false, not_true, not_false_iff, ne_eq, and_self, eq_self, if_true, if_false, ite_true, ite_false, Nat.reduceLeDiff, Int.cast_ofNat_Int, Int.reduceLT, Int.reduceLE, Int.reduceEq, Int.reduceNeg, reduceCtorEq, jup_ap, Nat.reduceEqDiff, Nat.reduceAdd, kv0 hv, rv1 hv, kv1 hv, nv1 hv, rv2 hv, kv2 hv, nv2 hv, rv3 hv, kv3 hv, nv3 hv, rv4 hv, kv4 hv, nv4 hv, rv5 hv, kv5 hv, nv5 hv, rv6 hv, kv6 hv, nv6 hv, rv7 hv, kv7 hv, nv7 hv, ka0 ha, ra0 ha, ka1 ha, na1 ha]
    have hb : 0 ≤ r ∧ r < 251 := by omega
    rw [hc, if_neg (by omega)]
    simp only [hb, ne1, ne2, ne3, ne4, ne5, ne6, ne7, nf1, nf2, nf3, nf4, nf5, nf6, nf7, true_and, and_true, true_or, or_true, or_false, false_or, false_and, and_false, not_true, not_false_iff, ne_eq, and_self, eq_self, if_true, if_false, ite_true, ite_false, Nat.reduceLeDiff, Int.cast_ofNat_Int, Int.reduceLT, Int.reduceLE, Int.reduceEq, Int.reduceNeg, reduceCtorEq, jup_ap, Nat.reduceEqDiff, Nat.reduceAdd]
    have hst : ∀ x : Int, dlt m a x r.toNat = ((gd m a r && decide (cellV m r 0 = 1) && decide (cellV m r 5 = x)) || dlt m a x (r - 1).toNat) := by
      intro x
      rw [show r.toNat = (r - 1).toNat + 1 by omega]
      show ((gd m a (((r - 1).toNat : Int) + 1) && decide (cellV m (((r - 1).toNat : Int) + 1) 0 = 1) && decide (cellV m (((r - 1).toNat : Int) + 1) 5 = x)) || dlt m a x (r - 1).toNat) = _
      rw [show ((r - 1).toNat : Int) + 1 = r by omega]
    have key : ∀ (gb : Bool) (s0 : Int) (l4 : jV), gb = gd m a r → s0 = b2i (gb && decide (cellV m r 0 = 0)) → ¬ (gb = true ∧ cellV m r 0 = 1) →
        wp 98 2 [jO (some v), jO (some 2), jO (some a), jI (r + 1), l4] [] (g0 L) (jup (jup m1 (v + 4) r (b2i gb)) (v + 5) r s0) Q := by
      intro gb s0 l4 hg hs hno
      refine ih (r + 1) l4 _ (by omega) (by omega) ((hF.up (by simp)).up (by simp)) (fun x hx1 hx2 => ?_)
      rw [show (r + 1 - 1).toNat = r.toNat by omega, hst x]
      have hz : (gd m a r && decide (cellV m r 0 = 1) && decide (cellV m r 5 = x)) = false := by
        rw [← hg]
        cases gb
        · rfl
        · have : ¬ cellV m r 0 = 1 := fun q => hno ⟨rfl, q⟩
          simp [this]
      rw [hz, Bool.false_or]
      by_cases hx : x = r
      · subst hx
        rw [dlt_big hd (x - 1).toNat (by omega) (by omega)]
        simp only [jup_ap, ne1, ne2, ne3, ne4, ne5, ne6, ne7, nf1, nf2, nf3, nf4, nf5, nf6, nf7, true_and, and_true, true_or, or_true, or_false, false_or, false_and, and_false, not_true, not_false_iff, ne_eq, and_self, eq_self, if_true, if_false, ite_true, ite_false, Nat.reduceLeDiff, Int.cast_ofNat_Int, Int.reduceLT, Int.reduceLE, Int.reduceEq, Int.reduceNeg, reduceCtorEq, jup_ap, Nat.reduceEqDiff, Nat.reduceAdd]
        refine ⟨by rw [hg], ?_⟩
        rw [hs, hg]
        simp
      · have := hI x hx1 (by omega)
        simp only [jup_ap, hx, ne1, ne2, ne3, ne4, ne5, ne6, ne7, nf1, nf2, nf3, nf4, nf5, nf6, nf7, true_and, and_true, true_or, or_true, or_false, false_or, false_and, and_false, not_true, not_false_iff, ne_eq, and_self, eq_self, if_true, if_false, ite_true, ite_false, Nat.reduceLeDiff, Int.cast_ofNat_Int, Int.reduceLT, Int.reduceLE, Int.reduceEq, Int.reduceNeg, reduceCtorEq, jup_ap, Nat.reduceEqDiff, Nat.reduceAdd]
        exact this
    have hgk : gd m a r = (kb m a r && !kb m a (undoV m r)) := rfl
    cases hk : kb m a r
    · have hg : gd m a r = false := by rw [hgk, hk]; rfl
      simp only [true_and, and_true, true_or, or_true, or_false, false_or, false_and, and_false, not_true, not_false_iff, ne_eq, and_self, eq_self, if_true, if_false, ite_true, ite_false, Nat.reduceLeDiff, Int.cast_ofNat_Int, Int.reduceLT, Int.reduceLE, Int.reduceEq, Int.reduceNeg, reduceCtorEq, jup_ap, Nat.reduceEqDiff, Nat.reduceAdd]
      exact key false 0 _ hg.symm rfl (by simp)
    · cases hu : kb m a (undoV m r)
      · have hg : gd m a r = true := by rw [hgk, hk, hu]; rfl
        simp only [true_and, and_true, true_or, or_true, or_false, false_or, false_and, and_false, not_true, not_false_iff, ne_eq, and_self, eq_self, if_true, if_false, ite_true, ite_false, Nat.reduceLeDiff, Int.cast_ofNat_Int, Int.reduceLT, Int.reduceLE, Int.reduceEq, Int.reduceNeg, reduceCtorEq, jup_ap, Nat.reduceEqDiff, Nat.reduceAdd, Bool.true_eq_false, Int.one_ne_zero]
        by_cases h0 : cellV m r 0 = 0
        · have h10 : ¬ cellV m r 0 = 1 := by omega
          simp only [h0, true_and, and_true, true_or, or_true, or_false, false_or, false_and, and_false, not_true, not_false_iff, ne_eq, and_self, eq_self, if_true, if_false, ite_true, ite_false, Nat.reduceLeDiff, Int.cast_ofNat_Int, Int.reduceLT, Int.reduceLE, Int.reduceEq, Int.reduceNeg, reduceCtorEq, jup_ap, Nat.reduceEqDiff, Nat.reduceAdd, Int.one_ne_zero]
          exact key true 1 _ hg.symm (by rw [h0]; rfl) (by rw [h0]; simp)
        · simp only [h0, true_and, and_true, true_or, or_true, or_false, false_or, false_and, and_false, not_true, not_false_iff, ne_eq, and_self, eq_self, if_true, if_false, ite_true, ite_false, Nat.reduceLeDiff, Int.cast_ofNat_Int, Int.reduceLT, Int.reduceLE, Int.reduceEq, Int.reduceNeg, reduceCtorEq, jup_ap, Nat.reduceEqDiff, Nat.reduceAdd]
          by_cases h10 : cellV m r 0 = 1
          · simp only [h10, true_and, and_true, true_or, or_true, or_false, false_or, false_and, and_false, not_true, not_false_iff, ne_eq, and_self, eq_self, if_true, if_false, ite_true, ite_false, Nat.reduceLeDiff, Int.cast_ofNat_Int, Int.reduceLT, Int.reduceLE, Int.reduceEq, Int.reduceNeg, reduceCtorEq, jup_ap, Nat.reduceEqDiff, Nat.reduceAdd]
            rw [w_R_cell L _ _ _ _ (by simp only [jup_ap]; rw [if_neg (by unfold isW at hv; omega), if_neg (by unfold isW at hv; omega)]; omega)]
            refine ⟨kv0 hv, ?_⟩
            have hF2 : Fr m (jup (jup m1 (v + 4) r 1) (v + 5) r 0) [v + 4, v + 5] := (hF.up (by simp)).up (by simp)
            have h5 := hd r h1 (by omega) h10
            rw [w_V_hide hv, hF2.cell n2 n3, if_pos (by omega)]
            refine ih (r + 1) _ _ (by omega) (by omega) (hF2.up (by simp)) (fun x hx1 hx2 => ?_)
            rw [show (r + 1 - 1).toNat = r.toNat by omega, hst x, hg, h10]
            by_cases hx : x = r
            · subst hx
              have hne : ¬ x = cellV m x 5 := by omega
              simp only [jup_ap, hne, ne1, ne2, ne3, ne4, ne5, ne6, ne7, nf1, nf2, nf3, nf4, nf5, nf6, nf7, true_and, and_true, true_or, or_true, or_false, false_or, false_and, and_false, not_true, not_false_iff, ne_eq, and_self, eq_self, if_true, if_false, ite_true, ite_false, Nat.reduceLeDiff, Int.cast_ofNat_Int, Int.reduceLT, Int.reduceLE, Int.reduceEq, Int.reduceNeg, reduceCtorEq, jup_ap, Nat.reduceEqDiff, Nat.reduceAdd]
              rw [hg, h10]
              exact ⟨rfl, rfl⟩
            · have h8 := hI x hx1 (by omega)
              by_cases hf : x = cellV m r 5
              · subst hf
                simp only [jup_ap, hx, ne1, ne2, ne3, ne4, ne5, ne6, ne7, nf1, nf2, nf3, nf4, nf5, nf6, nf7, true_and, and_true, true_or, or_true, or_false, false_or, false_and, and_false, not_true, not_false_iff, ne_eq, and_self, eq_self, if_true, if_false, ite_true, ite_false, Nat.reduceLeDiff, Int.cast_ofNat_Int, Int.reduceLT, Int.reduceLE, Int.reduceEq, Int.reduceNeg, reduceCtorEq, jup_ap, Nat.reduceEqDiff, Nat.reduceAdd]
                refine ⟨h8.1, ?_⟩
                simp [b2i]
              · have hf2 : ¬ cellV m r 5 = x := fun q => hf q.symm
                simp only [jup_ap, hx, hf, ne1, ne2, ne3, ne4, ne5, ne6, ne7, nf1, nf2, nf3, nf4, nf5, nf6, nf7, true_and, and_true, true_or, or_true, or_false, false_or, false_and, and_false, not_true, not_false_iff, ne_eq, and_self, eq_self, if_true, if_false, ite_true, ite_false, Nat.reduceLeDiff, Int.cast_ofNat_Int, Int.reduceLT, Int.reduceLE, Int.reduceEq, Int.reduceNeg, reduceCtorEq, jup_ap, Nat.reduceEqDiff, Nat.reduceAdd]
                refine ⟨h8.1, ?_⟩
                rw [h8.2]
                simp [hf2]
          · simp only [h10, true_and, and_true, true_or, or_true, or_false, false_or, false_and, and_false, not_true, not_false_iff, ne_eq, and_self, eq_self, if_true, if_false, ite_true, ite_false, Nat.reduceLeDiff, Int.cast_ofNat_Int, Int.reduceLT, Int.reduceLE, Int.reduceEq, Int.reduceNeg, reduceCtorEq, jup_ap, Nat.reduceEqDiff, Nat.reduceAdd]
            exact key true 0 _ hg.symm (by simp [h0]; rfl) (by simp [h10])
      · have hg : gd m a r = false := by rw [hgk, hk, hu]; rfl
        simp only [true_and, and_true, true_or, or_true, or_false, false_or, false_and, and_false, not_true, not_false_iff, ne_eq, and_self, eq_self, if_true, if_false, ite_true, ite_false, Nat.reduceLeDiff, Int.cast_ofNat_Int, Int.reduceLT, Int.reduceLE, Int.reduceEq, Int.reduceNeg, reduceCtorEq, jup_ap, Nat.reduceEqDiff, Nat.reduceAdd, Bool.true_eq_false]
        exact key false 0 _ hg.symm rfl (by simp)
