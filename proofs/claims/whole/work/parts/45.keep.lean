theorem nc_lt {p : Int} (h : 0 ≤ p ∧ p < 4) : 8 ≤ nc p ∧ nc p ≤ 14 := by unfold nc; omega
theorem nc_ne {p q : Int} (hp : 0 ≤ p ∧ p < 4) (hq : 0 ≤ q ∧ q < 4) (h : q ≠ p) : nc q ≠ nc p ∧ nc q ≠ nc p + 1 ∧ nc q + 1 ≠ nc p ∧ nc q + 1 ≠ nc p + 1 := by unfold nc; omega
theorem lrn_fr {m : jM} {a : Nat} {r t : Int} : Fr m (lrn m a r t) [a, a + 1] := ((Fr.rf.up (by simp)).up (by simp)).up (by simp)
theorem lrn_kn (m : jM) (a : Nat) (r t x : Int) : lrn m a r t (a + 1) x = if x = r then 1 else m (a + 1) x := by
  unfold lrn
  simp only [jup_ap]
  rw [if_neg (by omega), if_neg (by omega)]
  simp
theorem lrn_ct (m : jM) (a : Nat) (r t : Int) : lrn m a r t a 1 = m a 1 + 1 := by
  unfold lrn
  simp [jup_ap]
theorem lrn_tm (m : jM) (a : Nat) (r t : Int) : lrn m a r t a 2 = if m a 2 < t then t else m a 2 := by
  unfold lrn
  simp [jup_ap]
set_option maxHeartbeats 1000000 in
theorem CI_add {m m1 : jM} {n : Nat} {p t s d v f z : Int} (h : CI m n) (hn : n < 250) (hp : 0 ≤ p ∧ p < 4) (ht : t = m (nc p) 2 + 1) (hA : AddP m m1 n p t s d v f z) (hR : RC m n p s d v f z) : CI (lrn m1 (nc p) ((n : Int) + 1) t) (n + 1) := by
  obtain ⟨h1, h2, h3, h4, h5, h6, h7, h8, h9, h10⟩ := h
  obtain ⟨A0, A1, A2, A3, A4, A5, A6, A7⟩ := hA
  have hNp := h10 p hp.1 hp.2
  have hkn := hR.kn hNp
  have hr0 := hR.1
  obtain ⟨a, hae⟩ : ∃ a, a = nc p := ⟨_, rfl⟩
  have hal : 8 ≤ a ∧ a ≤ 14 := by rw [hae]; exact nc_lt hp
  rw [← hae] at ht ⊢
  have hF : Fr m1 (lrn m1 a ((n : Int) + 1) t) [a, a + 1] := lrn_fr
  have q16 : ∀ b, b < 8 → b ∉ [a, a + 1] := fun b hb => by simp; omega
  obtain ⟨m', hm'⟩ : ∃ m', m' = lrn m1 a ((n : Int) + 1) t := ⟨_, rfl⟩
  rw [← hm'] at hF ⊢
  have l1 : ∀ x, m' (a + 1) x = if x = (n : Int) + 1 then 1 else m (a + 1) x := fun x => by rw [hm', lrn_kn, A0 (a + 1) (by simp; omega)]
  have l2 : m' a 1 = m a 1 + 1 := by rw [hm', lrn_ct, A0 a (by simp; omega)]
  have l3 : m' a 2 = t := by rw [hm', lrn_tm, A0 a (by simp; omega), if_pos (by omega)]
  have c1 : ∀ r w, cellV m' r w = cellV m1 r w := hF.cell (q16 2 (by decide)) (q16 3 (by decide))
  have k1 : ∀ r, key m' r = key m1 r := hF.key (q16 2 (by decide)) (q16 3 (by decide))
  have kE : key m' = key m1 := funext k1
  have c2 : ∀ r w : Int, r ≤ n → cellV m' r w = cellV m r w := fun r w hr => by rw [c1, A2 r w hr]
  have c3 : ∀ w : Int, 0 ≤ w → w < 7 → cellV m' ((n : Int) + 1) w = rowC p t s d v f z w := fun w a b => by rw [c1, A3 w a b]
  have k2 : ∀ r : Int, r ≤ n → key m' r = key m r := fun r hr => by unfold key; rw [c2 r 2 hr, c2 r 1 hr]
  have k3 : key m' ((n : Int) + 1) = 4 * t + p := by unfold key; rw [c3 2 (by decide) (by decide), c3 1 (by decide) (by decide)]; rfl
  have d0 : cellV m' ((n : Int) + 1) 0 = s := by rw [c3 0 (by decide) (by decide)]; rfl
  have d1 : cellV m' ((n : Int) + 1) 1 = p := by rw [c3 1 (by decide) (by decide)]; rfl
  have d2 : cellV m' ((n : Int) + 1) 2 = t := by rw [c3 2 (by decide) (by decide)]; rfl
  have d3 : cellV m' ((n : Int) + 1) 3 = d := by rw [c3 3 (by decide) (by decide)]; rfl
  have d4 : cellV m' ((n : Int) + 1) 4 = v := by rw [c3 4 (by decide) (by decide)]; rfl
  have d5 : cellV m' ((n : Int) + 1) 5 = f := by rw [c3 5 (by decide) (by decide)]; rfl
  have d6 : cellV m' ((n : Int) + 1) 6 = z := by rw [c3 6 (by decide) (by decide)]; rfl
  have htr : 1 ≤ t ∧ t ≤ (n : Int) + 1 := by
    have := hNp.2.2.2.2.2
    rw [← hae] at this
    omega
  have hlow : ∀ r : Int, 1 ≤ r → r ≤ n → kb m a r = true → key m' r < 4 * t + p := by
    intro r g1 g2 g3
    have g4 := (hNp.2.2.1 r g1 g2 (by rw [← hae]; exact g3)).2.2
    rw [← hae] at g4
    have g5 := (h3 r g1 g2).2.1
    rw [k2 r g2]
    unfold key
    omega
  have hii : ∀ x, isIns m x ((n : Int) + 1) → isIns m' x ((n : Int) + 1) := fun x q => ⟨q.1, q.2.1, by rw [c2 x 0 (by have := q.2.1; omega)]; exact q.2.2⟩
  have b4 : ∀ r, m' 4 r = if s = 5 ∧ r = f then (n : Int) + 1 else m 4 r := fun r => by rw [hF 4 (q16 4 (by decide)), A7]
  have hcast : ((n + 1 : Nat) : Int) = (n : Int) + 1 := by omega
  have hins : insL m' (n + 1) = insL m n ++ (if s = 0 then [(n : Int) + 1] else []) := by
    unfold insL
    rw [rowsL_succ, List.filter_append]
    congr 1
    · exact List.filter_congr (fun x hx => by rw [c2 x 0 (rowsL_mem.mp hx).2])
    · by_cases q : s = 0
      · rw [if_pos q, List.filter_cons, if_pos (by rw [d0, q]; rfl)]
        rfl
      · rw [if_neg q, List.filter_cons, if_neg (by rw [d0]; simpa using q)]
        rfl
  have hfold : (insL m n).foldl (pI (key m') (frs m')) [] = PLm m := by
    rw [h6]
    exact p_congr _ _ (fun x hx => ⟨k2 x (insL_mem.mp hx).1.2, c2 x 5 (insL_mem.mp hx).1.2⟩) (fun x hx => by cases hx)
  have hcwm : ∀ j : Nat, m' 6 j = m1 6 j := fun j => hF 6 (q16 6 (by decide)) j
  have hP1 : PLm m' = PLm m1 := by
    unfold PLm
    rw [hF 2 (q16 2 (by decide))]
    exact ar_congr (fun i _ => hcwm i)
  refine ⟨by rw [hF 2 (q16 2 (by decide)), A1]; omega, by omega, fun r g1 g2 => ?_, fun r r' g1 g2 g3 g4 g5 => ?_, ?_, ?_, ?_, fun r g1 g2 => ?_, fun r g1 => ?_, fun q g1 g2 => ?_⟩
  · by_cases hrn : r ≤ n
    · exact RowOk.move (by omega) c2 k2 hrn (h3 r g1 hrn)
    · have : r = (n : Int) + 1 := by omega
      subst this
      obtain ⟨r0, r1, r2, r3, r4, r5, r6⟩ := hR
      unfold RowOk
      rw [d0, d1, d2, d3, d4, d5, d6]
      refine ⟨r0, hp, by omega, fun q => ⟨(r1 q).1.imp_right (fun w => ⟨hii _ w.1, ?_⟩), (r1 q).2⟩, fun q => ⟨hii _ (r2 q).1.1, (r2 q).2⟩, fun q => ⟨hii _ (r3 q).1.1, (r3 q).2.1.imp_left (fun w => hii _ w.1), (r3 q).2.2⟩, fun q => ⟨hii _ (r4 q).1.1, hii _ (r4 q).2.1⟩, fun q => ⟨(r5 q).1.imp_right (fun w => hii _ w.1), (r5 q).2⟩, fun q => ?_⟩
      · rw [k3]
        have := w.1.2.1
        exact hlow f w.1.1 (by omega) (by rw [hae]; exact w.2)
      · obtain ⟨w1, w2, w3, w4, w5⟩ := r6 q
        rw [c2 f 0 w1.2, c2 f 1 w1.2]
        exact ⟨by omega, w2, w3, w5⟩
  · have hx : ∀ r : Int, 1 ≤ r → r ≤ n → key m' r ≠ 4 * t + p := by
      intro r g1 g2 g3
      have g5 := (h3 r g1 g2).2.1
      have g6 : cellV m r 1 = p := by
        rw [k2 r g2] at g3
        unfold key at g3
        omega
      have := hlow r g1 g2 (by rw [hae]; exact hNp.2.2.2.1 r g1 g2 g6)
      omega
    by_cases e1 : r ≤ n <;> by_cases e2 : r' ≤ n
    · rw [k2 r e1, k2 r' e2] at g5
      exact h4 r r' g1 e1 g3 e2 g5
    · have : r' = (n : Int) + 1 := by omega
      subst this
      rw [k3] at g5
      exact absurd g5 (hx r g1 e1)
    · have : r = (n : Int) + 1 := by omega
      subst this
      rw [k3] at g5
      exact absurd g5.symm (hx r' g3 e2)
    · omega
  · rw [hins, List.length_append, hF 2 (q16 2 (by decide))]
    by_cases q : s = 0
    · rw [if_pos q, (A5 q).1, h5]
      rfl
    · rw [if_neg q, (A6 q).1, h5]
      rfl
  · rw [hins, List.foldl_append, hfold, hP1]
    by_cases q : s = 0
    · rw [if_pos q, (A5 q).2]
      show _ = pI (key m') (frs m') (PLm m) ((n : Int) + 1)
      unfold pI frs
      rw [d5, kE]
    · rw [if_neg q]
      show PLm m1 = PLm m
      unfold PLm
      rw [(A6 q).1]
      exact ar_congr (fun i _ => (A6 q).2 i)
  · rw [rowsL_succ, List.foldl_append]
    have e0 : (rowsL n).foldl (pI (key m') (fun _ => 0)) [] = (ar (m 5) n).reverse := by
      rw [h7]
      exact p_congr _ _ (fun x hx => ⟨k2 x (rowsL_mem.mp hx).2, rfl⟩) (fun x hx => by cases hx)
    rw [e0]
    show _ = pI (key m') (fun _ => 0) (ar (m 5) n).reverse ((n : Int) + 1)
    unfold pI
    rw [if_pos rfl, kE, ← A4]
    congr 1
    exact ar_congr (fun i _ => hF 5 (q16 5 (by decide)) i)
  · rw [b4 r]
    by_cases hrn : r ≤ n
    · by_cases hs : s = 5 ∧ r = f
      · rw [if_pos hs]
        obtain ⟨hs5, rfl⟩ := hs
        obtain ⟨w1, w2, w3, w4, w5⟩ := hR.2.2.2.2.2.2 hs5
        refine Or.inr ⟨by omega, by rw [d0]; exact hs5, d5, fun u u1 u2 u3 u4 => ?_⟩
        by_cases hu : u ≤ n
        · rw [c2 u 0 hu] at u3
          rw [c2 u 5 hu] at u4
          rcases h8 r g1 hrn with o | o
          · exact absurd u4 (o.2 u u1 hu u3)
          · omega
        · omega
      · rw [if_neg hs]
        rcases h8 r g1 hrn with o | o
        · refine Or.inl ⟨o.1, fun u u1 u2 u3 => ?_⟩
          by_cases hu : u ≤ n
          · rw [c2 u 0 hu] at u3
            rw [c2 u 5 hu]
            exact o.2 u u1 hu u3
          · have : u = (n : Int) + 1 := by omega
            subst this
            rw [d0] at u3
            rw [d5]
            exact fun q => hs ⟨u3, q.symm⟩
        · obtain ⟨o1, o2, o3, o4⟩ := o
          refine Or.inr ⟨by omega, by rw [c2 _ 0 o1.2]; exact o2, by rw [c2 _ 5 o1.2]; exact o3, fun u u1 u2 u3 u4 => ?_⟩
          by_cases hu : u ≤ n
          · rw [c2 u 0 hu] at u3
            rw [c2 u 5 hu] at u4
            exact o4 u u1 hu u3 u4
          · have : u = (n : Int) + 1 := by omega
            subst this
            rw [d0] at u3
            rw [d5] at u4
            exact absurd ⟨u3, u4.symm⟩ hs
    · have : r = (n : Int) + 1 := by omega
      subst this
      have hnf : ¬ (s = 5 ∧ (n : Int) + 1 = f) := fun q => by
        have := (hR.2.2.2.2.2.2 q.1).1
        omega
      rw [if_neg hnf, h9 _ (by omega)]
      refine Or.inl ⟨rfl, fun u u1 u2 u3 => ?_⟩
      by_cases hu : u ≤ n
      · rw [c2 u 0 hu] at u3
        rw [c2 u 5 hu]
        have := ((h3 u u1 hu).2.2.2.2.2.2.2.2 u3).1
        omega
      · have : u = (n : Int) + 1 := by omega
        subst this
        rw [d0] at u3
        rw [d5]
        have := (hR.2.2.2.2.2.2 u3).1
        omega
  · rw [b4 r, if_neg (fun q => by
      have := (hR.2.2.2.2.2.2 q.1).1
      omega)]
    exact h9 r (by omega)
  · by_cases hq : q = p
    · subst hq
      obtain ⟨N0, N1, N2, N3, N4, N5⟩ := hNp
      rw [← hae] at N0 N1 N2 N3 N4 N5
      unfold NodeOk
      rw [← hae]
      have kb1 : ∀ r, r ≠ (n : Int) + 1 → kb m' a r = kb m a r := fun r hr => by
        unfold kb
        rw [l1 r, if_neg hr]
      have kb2 : kb m' a ((n : Int) + 1) = true := kb_iff.mpr ⟨by omega, by rw [l1, if_pos rfl]; decide⟩
      refine ⟨fun r a1 a2 => ?_, fun r a1 a2 a3 => ?_, fun r a1 a2 a3 => ?_, fun r a1 a2 a3 => ?_, ?_, by rw [l3]; omega⟩
      · rw [l1]
        split
        · exact Or.inr rfl
        · exact N0 r a1 a2
      · rw [l1, if_neg (by omega)]
        exact N1 r a1 a2 (by omega)
      · by_cases hr : r ≤ n
        · rw [kb1 r (by omega)] at a3
          obtain ⟨o1, o2, o3⟩ := N2 r a1 hr a3
          have hro := h3 r a1 hr
          rw [c2 r 5 hr, c2 r 6 hr, c2 r 2 hr, l3]
          refine ⟨fun w => ?_, fun w => ?_, by omega⟩
          · have hk := o1 w
            by_cases e : cellV m r 5 = (n : Int) + 1
            · rw [e]; exact kb2
            · rw [kb1 _ e]; exact hk
          · have hk := o2 w
            by_cases e : cellV m r 6 = (n : Int) + 1
            · rw [e]; exact kb2
            · rw [kb1 _ e]; exact hk
        · have : r = (n : Int) + 1 := by omega
          subst this
          rw [d5, d6, d2, l3]
          refine ⟨fun w => ?_, fun w => ?_, by omega⟩
          · by_cases e : f = (n : Int) + 1
            · rw [e]; exact kb2
            · rw [kb1 _ e, hae]; exact hkn.1 w
          · by_cases e : z = (n : Int) + 1
            · rw [e]; exact kb2
            · rw [kb1 _ e, hae]; exact hkn.2 w
      · by_cases hr : r ≤ n
        · rw [kb1 r (by omega)]
          rw [c2 r 1 hr] at a3
          exact N3 r a1 hr a3
        · have : r = (n : Int) + 1 := by omega
          rw [this]; exact kb2
      · rw [l2, N4]
        unfold cntK
        rw [sumI_snoc, show (1 : Int) + (n : Int) = (n : Int) + 1 by omega, kb2]
        rw [sumI_congr n 1 (g := fun r => b2i (kb m' a r)) (fun j j1 j2 => by rw [kb1 j (by omega)])]
        rfl
    · have hne := nc_ne hp ⟨g1, g2⟩ hq
      have hql := nc_lt (p := q) ⟨g1, g2⟩
      rw [← hae] at hne
      obtain ⟨N0, N1, N2, N3, N4, N5⟩ := h10 q g1 g2
      unfold NodeOk
      obtain ⟨b, hbe⟩ : ∃ b, b = nc q := ⟨_, rfl⟩
      rw [← hbe] at hne hql N0 N1 N2 N3 N4 N5 ⊢
      have u1 : ∀ x, m' (b + 1) x = m (b + 1) x := fun x => by rw [hF (b + 1) (by simp; omega), A0 (b + 1) (by simp; omega)]
      have u2 : ∀ x, m' b x = m b x := fun x => by rw [hF b (by simp; omega), A0 b (by simp; omega)]
      have kb1 : ∀ r, kb m' b r = kb m b r := fun r => by
        unfold kb
        rw [u1 r]
      refine ⟨fun r a1 a2 => by rw [u1]; exact N0 r a1 a2, fun r a1 a2 a3 => by rw [u1]; exact N1 r a1 a2 (by omega), fun r a1 a2 a3 => ?_, fun r a1 a2 a3 => ?_, ?_, by rw [u2]; omega⟩
      · rw [kb1] at a3
        by_cases hr : r ≤ n
        · rw [c2 r 5 hr, c2 r 6 hr, c2 r 2 hr, kb1, kb1, u2]
          exact N2 r a1 hr a3
        · have := (kb_iff.mp a3).2
          exact absurd (N1 r (by omega) (by omega) (by omega)) this
      · by_cases hr : r ≤ n
        · rw [c2 r 1 hr] at a3
          rw [kb1]
          exact N3 r a1 hr a3
        · have : r = (n : Int) + 1 := by omega
          subst this
          rw [d1] at a3
          exact absurd a3.symm hq
      · rw [u2, N4]
        unfold cntK
        rw [sumI_snoc, show (1 : Int) + (n : Int) = (n : Int) + 1 by omega, kb1, kb_false (N1 _ (by omega) (by omega) (by omega))]
        rw [sumI_congr n 1 (g := fun r => b2i (kb m' b r)) (fun j j1 j2 => by rw [kb1 j])]
        simp [b2i]
