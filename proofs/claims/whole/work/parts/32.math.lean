/-! PLACES: putting a row behind another, past those that are later -/
def pS (K : Int → Int) (r : Int) : List Int → List Int
  | [] => [r]
  | x :: l => if K r < K x then x :: pS K r l else r :: x :: l
def pF (K : Int → Int) (f r : Int) : List Int → List Int
  | [] => [r]
  | x :: l => if x = f then x :: pS K r l else x :: pF K f r l
def pI (K F : Int → Int) (l : List Int) (r : Int) : List Int := if F r = 0 then pS K r l else pF K (F r) r l
theorem pS_mem {K : Int → Int} {r x : Int} {l : List Int} : x ∈ pS K r l ↔ x = r ∨ x ∈ l := by
  induction l with
  | nil => simp [pS]
  | cons y l ih =>
    unfold pS
    split
    · rw [List.mem_cons, List.mem_cons, ih, or_left_comm]
    · simp
theorem pF_mem {K : Int → Int} {f r x : Int} {l : List Int} : x ∈ pF K f r l ↔ x = r ∨ x ∈ l := by
  induction l with
  | nil => simp [pF]
  | cons y l ih =>
    unfold pF
    split
    · rw [List.mem_cons, List.mem_cons, pS_mem, or_left_comm]
    · rw [List.mem_cons, List.mem_cons, ih, or_left_comm]
theorem pI_mem {K F : Int → Int} {r x : Int} {l : List Int} : x ∈ pI K F l r ↔ x = r ∨ x ∈ l := by
  unfold pI
  split
  · exact pS_mem
  · exact pF_mem
theorem pS_comm {K : Int → Int} {a b : Int} (h : K a ≠ K b) (l : List Int) : pS K a (pS K b l) = pS K b (pS K a l) := by
  induction l with
  | nil =>
    simp only [pS]
    by_cases h1 : K a < K b
    · rw [if_pos h1, if_neg (by omega)]
    · rw [if_neg h1, if_pos (by omega)]
  | cons x l ih =>
    by_cases h1 : K a < K x <;> by_cases h2 : K b < K x
    · simp only [pS, h1, h2, if_true, ih]
    · have h3 : K a < K b := by omega
      simp only [pS, h1, h2, h3, if_true, if_false]
    · have h3 : K b < K a := by omega
      simp only [pS, h1, h2, h3, if_true, if_false]
    · by_cases h3 : K a < K b
      · have h4 : ¬ K b < K a := by omega
        simp only [pS, h1, h2, h3, h4, if_true, if_false]
      · have h4 : K b < K a := by omega
        simp only [pS, h1, h2, h3, h4, if_true, if_false]
theorem pFS_comm {K : Int → Int} {a b f : Int} (h : K a ≠ K b) (hb : b ≠ f) (l : List Int) (hf : f ∈ l) : pF K f a (pS K b l) = pS K b (pF K f a l) := by
  induction l with
  | nil => cases hf
  | cons x l ih =>
    by_cases h2 : K b < K x <;> by_cases hx : x = f
    · subst hx
      simp only [pS, pF, h2, if_true, pS_comm h]
    · have hf2 : f ∈ l := (List.mem_cons.mp hf).resolve_left (fun q => hx q.symm)
      simp only [pS, pF, h2, hx, if_true, if_false, ih hf2]
    · subst hx
      simp only [pS, pF, h2, hb, if_true, if_false]
    · simp only [pS, pF, h2, hx, hb, if_true, if_false]
theorem pFF_comm {K : Int → Int} {a b f f' : Int} (h : K a ≠ K b) (ha : a ≠ f') (hb : b ≠ f) (l : List Int) (hf : f ∈ l) (hf' : f' ∈ l) : pF K f a (pF K f' b l) = pF K f' b (pF K f a l) := by
  induction l with
  | nil => cases hf
  | cons x l ih =>
    by_cases hx : x = f <;> by_cases hx' : x = f'
    · simp only [pF, hx, hx', if_true]
      rw [← hx, hx']
      simp only [pF, if_true, pS_comm h]
    · have h2 : f' ∈ l := (List.mem_cons.mp hf').resolve_left (fun q => hx' q.symm)
      simp only [pF, hx, hx', if_true, if_false]
      rw [← hx]
      simp only [pF, hx', if_true, if_false]
      rw [pFS_comm (fun q => h q.symm) ha l h2]
    · have h2 : f ∈ l := (List.mem_cons.mp hf).resolve_left (fun q => hx q.symm)
      simp only [pF, hx, hx', if_true, if_false]
      rw [← hx']
      simp only [pF, hx, if_true, if_false]
      rw [pFS_comm h hb l h2]
    · have h1 : f ∈ l := (List.mem_cons.mp hf).resolve_left (fun q => hx q.symm)
      have h2 : f' ∈ l := (List.mem_cons.mp hf').resolve_left (fun q => hx' q.symm)
      simp only [pF, hx, hx', if_false, ih h1 h2]
theorem pI_comm {K F : Int → Int} {a b : Int} (h : K a ≠ K b) (hab : F a ≠ 0 → F a ≠ b) (hba : F b ≠ 0 → F b ≠ a) (l : List Int) (ha : F a = 0 ∨ F a ∈ l) (hb : F b = 0 ∨ F b ∈ l) : pI K F (pI K F l b) a = pI K F (pI K F l a) b := by
  unfold pI
  by_cases h1 : F a = 0 <;> by_cases h2 : F b = 0
  · rw [if_pos h1, if_pos h2, if_pos h1, if_pos h2, pS_comm h]
  · rw [if_pos h1, if_neg h2, if_pos h1, if_neg h2, pFS_comm (fun q => h q.symm) (fun q => hba h2 q.symm) l (hb.resolve_left h2)]
  · rw [if_neg h1, if_pos h2, if_neg h1, if_pos h2, pFS_comm h (fun q => hab h1 q.symm) l (ha.resolve_left h1)]
  · rw [if_neg h1, if_neg h2, if_neg h1, if_neg h2, pFF_comm h (fun q => hba h2 q.symm) (fun q => hab h1 q.symm) l (ha.resolve_left h1) (hb.resolve_left h2)]
/-- in this order each one's place to go behind is there when it comes -/
def pOk (F : Int → Int) (l : List Int) : List Int → Prop
  | [] => True
  | r :: xs => (F r = 0 ∨ F r ∈ l) ∧ r ∉ l ∧ pOk F (r :: l) xs
theorem pOk_new {F : Int → Int} : ∀ (xs l : List Int), pOk F l xs → ∀ x ∈ xs, x ∉ l
  | [], _, _, x, hx => by cases hx
  | r :: xs, l, h, x, hx => by
    rcases List.mem_cons.mp hx with rfl | hx
    · exact h.2.1
    · exact fun q => pOk_new xs (r :: l) h.2.2 x hx (List.mem_cons_of_mem _ q)
theorem pOk_congr {F : Int → Int} : ∀ (xs l l' : List Int), (∀ x, x ∈ l ↔ x ∈ l') → pOk F l xs → pOk F l' xs
  | [], _, _, _, _ => trivial
  | r :: xs, l, l', h, hk => ⟨hk.1.imp_right (h _).mp, fun q => hk.2.1 ((h _).mpr q), pOk_congr xs (r :: l) (r :: l') (fun x => by rw [List.mem_cons, List.mem_cons, h x]) hk.2.2⟩
theorem pOk_app {F : Int → Int} : ∀ (xs ys l : List Int), pOk F l (xs ++ ys) ↔ pOk F l xs ∧ pOk F (xs.reverse ++ l) ys
  | [], ys, l => by simp [pOk]
  | x :: xs, ys, l => by
    rw [List.cons_append, pOk, pOk, pOk_app xs ys (x :: l), List.reverse_cons, List.append_assoc]
    simp only [List.cons_append, List.nil_append, and_assoc]
theorem p_move {K F : Int → Int} {y : Int} : ∀ (us vs P l : List Int), (∀ x, x ∈ P ↔ x ∈ l) → pOk F l (us ++ y :: vs) → (F y = 0 ∨ F y ∈ l) → y ∉ l → (∀ a ∈ us, K a ≠ K y) →
    (us ++ y :: vs).foldl (pI K F) P = (y :: (us ++ vs)).foldl (pI K F) P ∧ pOk F (y :: l) (us ++ vs)
  | [], vs, P, l, _, hk, _, _, _ => ⟨rfl, hk.2.2⟩
  | u :: us, vs, P, l, hP, hk, hy, hyl, hK => by
    obtain ⟨k1, k2, k3⟩ := hk
    have hyu : y ≠ u := by
      intro q
      have := pOk_new _ _ k3 y (List.mem_append_right _ List.mem_cons_self)
      exact this (by rw [q]; exact List.mem_cons_self)
    have hP2 : ∀ x, x ∈ pI K F P u ↔ x ∈ u :: l := fun x => by rw [pI_mem, List.mem_cons, hP]
    obtain ⟨e1, e2⟩ := p_move us vs (pI K F P u) (u :: l) hP2 k3 (hy.imp_right (List.mem_cons_of_mem _)) (fun q => by
      rcases List.mem_cons.mp q with q | q
      · exact hyu q
      · exact hyl q) (fun a ha => hK a (List.mem_cons_of_mem _ ha))
    refine ⟨?_, ?_⟩
    · show (us ++ y :: vs).foldl (pI K F) (pI K F P u) = (us ++ vs).foldl (pI K F) (pI K F (pI K F P y) u)
      rw [e1]
      show (us ++ vs).foldl (pI K F) (pI K F (pI K F P u) y) = _
      rw [pI_comm (fun q => hK u List.mem_cons_self q.symm) ?_ ?_ P (hy.imp_right (hP _).mpr) (k1.imp_right (hP _).mpr)]
      · intro h0 q
        rcases hy with z | z
        · exact h0 z
        · rw [q] at z
          exact k2 z
      · intro h0 q
        rcases k1 with z | z
        · exact h0 z
        · rw [q] at z
          exact hyl z
    · refine ⟨k1.imp_right (List.mem_cons_of_mem _), fun q => ?_, pOk_congr _ _ _ (fun x => by simp only [List.mem_cons]; exact or_left_comm) e2⟩
      rcases List.mem_cons.mp q with q | q
      · exact hyu q.symm
      · exact k2 q
/-- the order in which rows come doesn't matter -/
theorem p_perm {K F : Int → Int} : ∀ (ys xs P l : List Int), (∀ x, x ∈ P ↔ x ∈ l) → pOk F l xs → pOk F l ys → xs.Perm ys → (∀ a ∈ ys, ∀ b ∈ ys, K a = K b → a = b) → xs.foldl (pI K F) P = ys.foldl (pI K F) P
  | [], xs, P, l, _, _, _, hp, _ => by rw [List.Perm.eq_nil hp]
  | y :: ys, xs, P, l, hP, hx, hy, hp, hK => by
    have hm : y ∈ xs := hp.mem_iff.mpr List.mem_cons_self
    obtain ⟨us, vs, rfl⟩ := List.append_of_mem hm
    have hn : ∀ a ∈ us, a ≠ y := by
      intro a ha q
      subst q
      have h1 := ((pOk_app us (a :: vs) l).mp hx).2.2.1
      exact h1 (List.mem_append_left _ (List.mem_reverse.mpr ha))
    have hK2 : ∀ a ∈ us, K a ≠ K y := fun a ha q => hn a ha (hK a (hp.mem_iff.mp (List.mem_append_left _ ha)) y List.mem_cons_self q)
    obtain ⟨e1, e2⟩ := p_move us vs P l hP hx hy.1 hy.2.1 hK2
    rw [e1]
    have hp2 : (us ++ vs).Perm ys := (List.perm_cons y).mp (List.perm_middle.symm.trans hp)
    exact p_perm ys (us ++ vs) (pI K F P y) (y :: l) (fun x => by rw [pI_mem, List.mem_cons, hP]) e2 hy.2.2 hp2 (fun a ha b hb => hK a (List.mem_cons_of_mem _ ha) b (List.mem_cons_of_mem _ hb))
theorem pS_filter {K : Int → Int} {p : Int → Bool} {r : Int} (h : p r = false) (l : List Int) : (pS K r l).filter p = l.filter p := by
  induction l with
  | nil => simp [pS, h]
  | cons x l ih =>
    unfold pS
    split
    · rw [List.filter_cons, List.filter_cons, ih]
    · rw [List.filter_cons, h]
      rfl
theorem pF_filter {K : Int → Int} {p : Int → Bool} {f r : Int} (h : p r = false) (l : List Int) : (pF K f r l).filter p = l.filter p := by
  induction l with
  | nil => simp [pF, h]
  | cons x l ih =>
    unfold pF
    split
    · rw [List.filter_cons, List.filter_cons, pS_filter h]
    · rw [List.filter_cons, List.filter_cons, ih]
theorem p_skip {K F : Int → Int} {p : Int → Bool} : ∀ (xs P : List Int), (∀ x ∈ xs, p x = false) → (xs.foldl (pI K F) P).filter p = P.filter p
  | [], _, _ => rfl
  | x :: xs, P, h => by
    show (xs.foldl (pI K F) (pI K F P x)).filter p = _
    rw [p_skip xs _ (fun y hy => h y (List.mem_cons_of_mem _ hy))]
    unfold pI
    split
    · exact pS_filter (h x List.mem_cons_self) P
    · exact pF_filter (h x List.mem_cons_self) P
theorem p_mem {K F : Int → Int} {x : Int} : ∀ (xs P : List Int), x ∈ xs.foldl (pI K F) P ↔ x ∈ xs ∨ x ∈ P
  | [], P => by simp
  | y :: xs, P => by
    show x ∈ xs.foldl (pI K F) (pI K F P y) ↔ _
    rw [p_mem xs, pI_mem, List.mem_cons, or_left_comm, or_assoc]
theorem pOk_filt {F : Int → Int} {p : Int → Bool} : ∀ (xs l l' : List Int), pOk F l xs → (∀ r ∈ xs, p r = true → F r = 0 ∨ p (F r) = true) → (∀ x ∈ l, p x = true → x ∈ l') → (∀ x ∈ l', x ∈ l) → pOk F l' (xs.filter p)
  | [], _, _, _, _, _, _ => trivial
  | r :: xs, l, l', h, hc, h1, h2 => by
    by_cases hr : p r = true
    · rw [List.filter_cons, if_pos hr]
      refine ⟨?_, fun q => h.2.1 (h2 _ q), pOk_filt xs (r :: l) (r :: l') h.2.2 (fun x hx => hc x (List.mem_cons_of_mem _ hx)) (fun x hx hp => ?_) (fun x hx => ?_)⟩
      · rcases h.1 with z | z
        · exact Or.inl z
        · rcases hc r List.mem_cons_self hr with w | w
          · exact Or.inl w
          · exact Or.inr (h1 _ z w)
      · rcases List.mem_cons.mp hx with rfl | hx
        · exact List.mem_cons_self
        · exact List.mem_cons_of_mem _ (h1 x hx hp)
      · rcases List.mem_cons.mp hx with rfl | hx
        · exact List.mem_cons_self
        · exact List.mem_cons_of_mem _ (h2 x hx)
    · rw [List.filter_cons, if_neg hr]
      refine pOk_filt xs (r :: l) l' h.2.2 (fun x hx => hc x (List.mem_cons_of_mem _ hx)) (fun x hx hp => ?_) (fun x hx => List.mem_cons_of_mem _ (h2 x hx))
      rcases List.mem_cons.mp hx with rfl | hx
      · exact absurd hp hr
      · exact h1 x hx hp
theorem pOk_rest {F : Int → Int} {p : Int → Bool} : ∀ (xs l l' : List Int), pOk F l xs → (∀ x ∈ l, x ∈ l') → (∀ x ∈ xs, p x = true → x ∈ l') → (∀ x ∈ xs, p x = false → x ∉ l') → pOk F l' (xs.filter fun x => !p x)
  | [], _, _, _, _, _, _ => trivial
  | r :: xs, l, l', h, h1, h2, h3 => by
    cases hr : p r with
    | true =>
      rw [List.filter_cons, if_neg (by simp [hr])]
      refine pOk_rest xs (r :: l) l' h.2.2 (fun x hx => ?_) (fun x hx => h2 x (List.mem_cons_of_mem _ hx)) (fun x hx => h3 x (List.mem_cons_of_mem _ hx))
      rcases List.mem_cons.mp hx with rfl | hx
      · exact h2 x List.mem_cons_self hr
      · exact h1 x hx
    | false =>
      rw [List.filter_cons, if_pos (by simp [hr])]
      refine ⟨h.1.imp_right (h1 _), h3 r List.mem_cons_self hr, pOk_rest xs (r :: l) (r :: l') h.2.2 (fun x hx => ?_) (fun x hx hp => List.mem_cons_of_mem _ (h2 x (List.mem_cons_of_mem _ hx) hp)) (fun x hx hp q => ?_)⟩
      · rcases List.mem_cons.mp hx with rfl | hx
        · exact List.mem_cons_self
        · exact List.mem_cons_of_mem _ (h1 x hx)
      · rcases List.mem_cons.mp q with q | q
        · subst q
          exact pOk_new _ _ h.2.2 x hx List.mem_cons_self
        · exact h3 x (List.mem_cons_of_mem _ hx) hp q
/-- of all rows those that one knows: as if only they had come -/
theorem p_filter {K F : Int → Int} {p : Int → Bool} (xs : List Int) (h : pOk F [] xs) (hc : ∀ r ∈ xs, p r = true → F r = 0 ∨ p (F r) = true) (hK : ∀ a ∈ xs, ∀ b ∈ xs, K a = K b → a = b) :
    (xs.foldl (pI K F) []).filter p = (xs.filter p).foldl (pI K F) [] := by
  have hp : xs.Perm (xs.filter p ++ xs.filter fun x => !p x) := (List.filter_append_perm p xs).symm
  have hk2 : pOk F [] (xs.filter p ++ xs.filter fun x => !p x) := by
    rw [pOk_app]
    refine ⟨pOk_filt xs [] [] h hc (fun x hx => by cases hx) (fun x hx => hx), pOk_rest xs [] _ h (fun x hx => by cases hx) (fun x hx hpx => ?_) (fun x hx hpx q => ?_)⟩
    · exact List.mem_append_left _ (List.mem_reverse.mpr (List.mem_filter.mpr ⟨hx, hpx⟩))
    · rcases List.mem_append.mp q with q | q
      · have := (List.mem_filter.mp (List.mem_reverse.mp q)).2
        rw [hpx] at this
        cases this
      · cases q
  rw [p_perm _ xs [] [] (fun _ => Iff.rfl) h hk2 hp (fun a ha b hb => hK a (hp.mem_iff.mpr ha) b (hp.mem_iff.mpr hb)), List.foldl_append, p_skip _ _ (fun x hx => by simpa using (List.mem_filter.mp hx).2)]
  refine List.filter_eq_self.mpr fun x hx => ?_
  rcases (p_mem _ _).mp hx with q | q
  · exact (List.mem_filter.mp q).2
  · cases q
