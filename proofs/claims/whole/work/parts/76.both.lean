/-! what is said of a node's look is said of the cells below 8 and of what it knows -/
section Lp
variable {m m1 : jM} {a : Nat}
theorem lp_cell {m m1 : jM} {a : Nat} (hF : ∀ b, b < 8 ∨ b = a + 1 → ∀ j, m1 b j = m b j) : cellV m1 = cellV m := by
  funext r w
  unfold cellV
  rw [hF 2 (Or.inl (by decide)), hF 3 (Or.inl (by decide))]
theorem lp_undo (hF : ∀ b, b < 8 ∨ b = a + 1 → ∀ j, m1 b j = m b j) : undoV m1 = undoV m := by
  funext r
  unfold undoV
  rw [hF 2 (Or.inl (by decide)), hF 4 (Or.inl (by decide))]
theorem lp_kb (hF : ∀ b, b < 8 ∨ b = a + 1 → ∀ j, m1 b j = m b j) : kb m1 a = kb m a := by
  funext r
  unfold kb
  rw [hF (a + 1) (Or.inr rfl)]
theorem lp_gd (hF : ∀ b, b < 8 ∨ b = a + 1 → ∀ j, m1 b j = m b j) : gd m1 a = gd m a := by
  funext r
  unfold gd
  rw [lp_kb hF, lp_undo hF]
theorem lp_dlt (hF : ∀ b, b < 8 ∨ b = a + 1 → ∀ j, m1 b j = m b j) (x : Int) : ∀ k, dlt m1 a x k = dlt m a x k
  | 0 => rfl
  | k + 1 => by
    unfold dlt
    rw [lp_dlt hF x k, lp_gd hF, lp_cell hF]
theorem lp_vs (hF : ∀ b, b < 8 ∨ b = a + 1 → ∀ j, m1 b j = m b j) : vs m1 a = vs m a := by
  funext x
  unfold vs
  rw [lp_gd hF, lp_cell hF, lp_dlt hF, hF 2 (Or.inl (by decide))]
theorem lp_PL (hF : ∀ b, b < 8 ∨ b = a + 1 → ∀ j, m1 b j = m b j) : PLm m1 = PLm m := by
  unfold PLm
  rw [hF 2 (Or.inl (by decide))]
  exact ar_congr (fun i _ => hF 6 (Or.inl (by decide)) i)
theorem lp_vis (hF : ∀ b, b < 8 ∨ b = a + 1 → ∀ j, m1 b j = m b j) : visL m1 a = visL m a := by
  unfold visL
  rw [lp_PL hF, lp_vs hF]
theorem lp_tx (hF : ∀ b, b < 8 ∨ b = a + 1 → ∀ j, m1 b j = m b j) : tx m1 a = tx m a := by
  funext i
  unfold tx txt
  rw [lp_vis hF, lp_cell hF]
theorem lp_ah (hF : ∀ b, b < 8 ∨ b = a + 1 → ∀ j, m1 b j = m b j) : ahF m1 a = ahF m a := by
  funext x
  unfold ahF
  rw [lp_PL hF, lp_vs hF]
theorem lp_ab (hF : ∀ b, b < 8 ∨ b = a + 1 → ∀ j, m1 b j = m b j) : abF m1 a = abF m a := by
  funext x
  unfold abF
  rw [lp_ah hF, lp_vs hF]
theorem lp_ly (hF : ∀ b, b < 8 ∨ b = a + 1 → ∀ j, m1 b j = m b j) : lyF m1 a = lyF m a ∧ lyT m1 a = lyT m a := by
  have e : lyF m1 a = lyF m a := by
    funext r
    unfold lyF
    rw [lp_ah hF, lp_cell hF]
  refine ⟨e, ?_⟩
  funext r
  unfold lyT
  rw [e, lp_ab hF, lp_cell hF]
theorem lp_stE (hF : ∀ b, b < 8 ∨ b = a + 1 → ∀ j, m1 b j = m b j) (s : Nat) : stE m1 a s = stE m a s := by
  funext r
  unfold stE
  rw [lp_cell hF, lp_ah hF, lp_ab hF]
theorem lp_sv (hF : ∀ b, b < 8 ∨ b = a + 1 → ∀ j, m1 b j = m b j) (s : Nat) (k c : Int) : ∀ j, svK m1 a s k c j = svK m a s k c j
  | 0 => rfl
  | j + 1 => by
    unfold svK
    rw [lp_sv hF s k c j, lp_gd hF, lp_cell hF, lp_ah hF, lp_stE hF, hF 5 (Or.inl (by decide))]
theorem lp_kd (hF : ∀ b, b < 8 ∨ b = a + 1 → ∀ j, m1 b j = m b j) (x : Int) : ∀ j, kdK m1 a x j = kdK m a x j
  | 0 => rfl
  | j + 1 => by
    unfold kdK
    rw [lp_kd hF x j, lp_gd hF, lp_cell hF, hF 5 (Or.inl (by decide))]
end Lp
theorem PlP.lp {c c' m : jM} {n : Nat} {p : Int} {N s : Nat} (h : PlP c m n p N s) (hF : ∀ b, b < 8 ∨ b = nc p + 1 → ∀ j, c' b j = c b j) : PlP c' m n p N s := by
  have e1 := lp_gd hF
  have e2 := lp_vs hF
  have e3 := lp_vis hF
  have e4 : KLm c' (nc p) = KLm c (nc p) := by
    unfold KLm
    rw [lp_PL hF, lp_kb hF]
  unfold PlP at h ⊢
  rw [e1, e2, e3, e4]
  exact h
theorem LkP.lp {c c' m : jM} {n : Nat} {p : Int} {N s : Nat} (h : LkP c m n p N s) (hF : ∀ b, b < 8 ∨ b = nc p + 1 → ∀ j, c' b j = c b j) : LkP c' m n p N s :=
  ⟨h.1.lp hF, fun k e a1 a2 a3 a4 => by rw [lp_sv hF]; exact h.2 k e a1 a2 a3 a4⟩
theorem MI.lp {c c' m : jM} {n : Nat} (h : MI c m n) (hM : MB c' m n) (hF : ∀ b, (b < 8 ∨ ∃ p : Int, (0 ≤ p ∧ p < 4) ∧ b = nc p + 1) → ∀ j, c' b j = c b j) : MI c' m n := by
  refine ⟨hM, ?_⟩
  rcases h.2 with q | ⟨p, N, s, q1, q2, q3⟩
  · exact Or.inl q
  · exact Or.inr ⟨p, N, s, q1, q2, q3.lp (fun b hb j => hF b (hb.imp id (fun w => ⟨p, q1, w⟩)) j)⟩
theorem MI.lo {c c' m : jM} {n : Nat} (h : MI c m n) (hF : ∀ b, b < 16 → ∀ j, c' b j = c b j) : MI c' m n := h.lp (h.1.lo hF) (fun b hb j => hF b (by
  rcases hb with w | ⟨p, w1, w2⟩
  · omega
  · have := nc_lt w1
    omega) j)
theorem MB.hi {c m m1 : jM} {n : Nat} (h : MB c m n) (hF : ∀ b, 32 ≤ b → ∀ j, m1 b j = m b j) : MB c m1 n := by
  obtain ⟨k1, k2, k3, k4⟩ := h
  refine ⟨by rw [hF 32 (by decide)]; exact k1, fun r a b => ?_, fun p r a b d e => ?_, fun p a b => ?_⟩
  · rw [hF 33 (by decide), hF 34 (by decide), hF 35 (by decide), hF 36 (by decide), hF 37 (by decide), hF 38 (by decide), hF 39 (by decide)]
    exact k2 r a b
  · rw [hF 40 (by decide)]
    exact k3 p r a b d e
  · rw [hF 41 (by decide)]
    exact k4 p a b
theorem MI.hi {c m m1 : jM} {n : Nat} (h : MI c m n) (hF : ∀ b, 32 ≤ b → ∀ j, m1 b j = m b j) : MI c m1 n := by
  refine ⟨h.1.hi hF, ?_⟩
  rw [hF 32 (by decide)]
  rcases h.2 with q | ⟨p, N, s, q1, q2, q3⟩
  · exact Or.inl q
  · exact Or.inr ⟨p, N, s, q1, q2, q3.fr (fun b b1 b2 j => hF b (by omega) j) (hF 32 (by decide) _) (hF 32 (by decide) _)⟩
/-- what holds between the law's steps -/
def IN (m : jM) (n : Nat) : Prop := CI m n ∧ MI m m n
theorem IN.ask {m m1 m' : jM} {n : Nat} (h : IN m n) (h1 : VF m m1) (h2 : MK m1 m') (h3 : MI m m' n) : IN m' n ∧ ∀ j, m' 0 j = m 0 j := by
  have e : ∀ b, b < 16 → ∀ j, m' b j = m b j := fun b hb j => (h2.lo b (by omega) j).trans (h1 b (Or.inl hb) j)
  exact ⟨⟨h.1.fr e, h3.lo e⟩, e 0 (by decide)⟩
theorem IN.vf {m m1 : jM} {n : Nat} (h : IN m n) (h1 : VF m m1) : MI m m1 n := h.2.hi (fun b hb j => h1 b (Or.inr hb) j)
theorem IN.mk {m m1 : jM} {n : Nat} {p s d v f z : Int} (h : IN m n) (h1 : MkP m m1 n p s d v f z) : MI m m1 n := h.2.hi (fun b hb j => h1.2.2.2.2.2 b (Or.inr hb) j)
theorem IN.made {m m1 m' : jM} {n : Nat} {p s d v f z : Int} (h1 : MkP m m1 n p s d v f z) (h2 : LoF m1 m') (h3 : MAdd m m' n p s d v f z) : IN m' (n + 1) ∧ ∀ j, m' 0 j = m 0 j := by
  obtain ⟨a1, a2, a3, a4, a5, a6⟩ := h1
  obtain ⟨b1, b2, b3, b4, b5, b6⟩ := h3
  have hM : MB m1 m' (n + 1) := by
    refine ⟨by rw [b1]; omega, fun r r1 r2 => ?_, fun q r q1 q2 r1 r2 => ?_, fun q q1 q2 => ?_⟩
    · by_cases e : r ≤ (n : Int)
      · rw [a2 r 0 e, a2 r 1 e, a2 r 2 e, a2 r 3 e, a2 r 4 e, a2 r 5 e, a2 r 6 e]
        exact b2 r r1 e
      · have : r = (n : Int) + 1 := by omega
        rw [this, a3 0 (by omega) (by omega), a3 1 (by omega) (by omega), a3 2 (by omega) (by omega), a3 3 (by omega) (by omega), a3 4 (by omega) (by omega), a3 5 (by omega) (by omega), a3 6 (by omega) (by omega)]
        exact b3
    · rw [b4 q r q1 q2 r1 r2, a4 q r q1 q2]
    · rw [b5 q q1 q2, a5 q q1 q2]
  have e : ∀ b, b < 16 → ∀ j, m' b j = m1 b j := fun b hb j => h2 b (by omega) j
  exact ⟨⟨a1.fr e, MI.lo ⟨hM, Or.inl b6⟩ e⟩, fun j => (h2 0 (by decide) j).trans (a6 0 (Or.inl rfl) j)⟩
theorem IN.ln {m m1 : jM} {n : Nat} {p r : Int} (h : IN m n) (h1 : LnP m m1 n p r) : MI m m1 n := h.2.hi (fun b hb j => h1.2.2.2.2 b (Or.inr (by omega)) j)
theorem IN.seen {m m1 m' : jM} {n : Nat} {p r : Int} (h1 : LnP m m1 n p r) (h2 : LoF m1 m') (h3 : MLr m m' n p r) : IN m' n ∧ ∀ j, m' 0 j = m 0 j := by
  obtain ⟨a1, a2, a3, a4, a5⟩ := h1
  obtain ⟨b1, b2, b3, b4, b5⟩ := h3
  have hM : MB m1 m' n := by
    refine ⟨b1, fun x r1 r2 => ?_, fun q x q1 q2 r1 r2 => ?_, fun q q1 q2 => ?_⟩
    · rw [a2, a2, a2, a2, a2, a2, a2]
      exact b2 x r1 r2
    · rw [b3 q x q1 q2 r1 r2, a3 q x q1 q2]
    · rw [b4 q q1 q2, a4 q q1 q2]
  have e : ∀ b, b < 16 → ∀ j, m' b j = m1 b j := fun b hb j => h2 b (by omega) j
  exact ⟨⟨a1.fr e, MI.lo ⟨hM, Or.inl b5⟩ e⟩, fun j => (h2 0 (by decide) j).trans (a5 0 (Or.inl (by decide)) j)⟩
theorem IN.mt {m m1 : jM} {n k : Nat} {p q : Int} (hp : 0 ≤ p ∧ p < 4) (h : IN m n) (h1 : MtP m m1 n p q k) : MI m m1 n := h.2.hi (fun b hb j => h1.2.2.2.2 b (by have := nc_lt hp; omega) (by have := nc_lt hp; omega) j)
theorem IN.met {m m1 m' : jM} {n : Nat} {p q : Int} (hp : 0 ≤ p ∧ p < 4) (h : IN m n) (h1 : MtP m m1 n p q n) (h2 : LoF m1 m') (h3 : MMt m m' n p q n) (h4 : m' 32 11 = -1 ∨ (MI m m' n ∧ MtN m p q n)) : IN m' n ∧ ∀ j, m' 0 j = m 0 j := by
  obtain ⟨a1, a2, a3, a4, a5⟩ := h1
  obtain ⟨b1, b2, b3, b4⟩ := h3
  have hal := nc_lt hp
  have hM : MB m1 m' n := by
    refine ⟨b1, fun x r1 r2 => ?_, fun o x o1 o2 x1 x2 => ?_, fun o o1 o2 => ?_⟩
    · rw [a2, a2, a2, a2, a2, a2, a2]
      exact b2 x r1 r2
    · rw [b3 o x o1 o2 x1 x2]
      by_cases e : o = p
      · subst e
        rw [a3]
        by_cases k1 : (1 ≤ x ∧ x ≤ (n : Int)) ∧ kb m (nc q) x = true
        · rw [if_pos k1, if_pos ⟨⟨rfl, k1.1⟩, k1.2⟩]
        · rw [if_neg k1, if_neg (fun w => k1 ⟨w.1.2, w.2⟩)]
      · have := nc_ne hp ⟨o1, o2⟩ e
        rw [if_neg (fun w => e w.1.1), a5 (nc o + 1) (by omega) (by omega)]
    · rw [b4 o o1 o2]
      by_cases e : o = p
      · subst e
        rw [if_pos rfl, a4]
      · have := nc_ne hp ⟨o1, o2⟩ e
        rw [if_neg e, a5 (nc o) (by omega) (by omega)]
  have e : ∀ b, b < 16 → ∀ j, m' b j = m1 b j := fun b hb j => h2 b (by omega) j
  have hI : MI m1 m' n := by
    rcases h4 with w | w
    · exact ⟨hM, Or.inl w⟩
    · refine w.1.lp hM (fun b hb j => ?_)
      by_cases z : b = nc p + 1
      · rw [z, a3]
        by_cases k1 : (1 ≤ j ∧ j ≤ (n : Int)) ∧ kb m (nc q) j = true
        · have hn := h.1.2.1
          rw [if_pos k1, b2i_kb h.1 hp (by omega), w.2 j k1.1.1 k1.1.2 k1.2]
          rfl
        · rw [if_neg k1]
      · refine a5 b (fun y => ?_) z j
        rcases hb with w | ⟨o, o1, o2⟩
        · omega
        · unfold nc at y o2
          omega
  exact ⟨⟨a1.fr e, hI.lo e⟩, fun j => (h2 0 (by decide) j).trans (a5 0 (by omega) (by omega) j)⟩
