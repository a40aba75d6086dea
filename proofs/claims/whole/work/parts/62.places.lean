theorem pS_sorted {K : Int → Int} {r : Int} : ∀ l : List Int, l.Pairwise (fun x y => K y ≤ K x) → (pS K r l).Pairwise (fun x y => K y ≤ K x)
  | [], _ => by simp [pS]
  | x :: l, h => by
    have h2 := List.pairwise_cons.mp h
    unfold pS
    split
    · rename_i hlt
      refine List.pairwise_cons.mpr ⟨fun y hy => ?_, pS_sorted l h2.2⟩
      rcases pS_mem.mp hy with z | z
      · rw [z]; omega
      · exact h2.1 y z
    · rename_i hlt
      refine List.pairwise_cons.mpr ⟨fun y hy => ?_, h⟩
      rcases List.mem_cons.mp hy with z | z
      · rw [z]; omega
      · have := h2.1 y z
        omega
theorem p0_sorted {K : Int → Int} : ∀ (xs P : List Int), P.Pairwise (fun x y => K y ≤ K x) → (xs.foldl (pI K (fun _ => 0)) P).Pairwise (fun x y => K y ≤ K x)
  | [], _, h => h
  | x :: xs, P, h => p0_sorted xs _ (by
    unfold pI
    rw [if_pos rfl]
    exact pS_sorted P h)
theorem CI.oSort {c : jM} {n : Nat} (h : CI c n) : (ar (c 5) n).Pairwise (fun x y => key c x ≤ key c y) := by
  have := p0_sorted (K := key c) (rowsL n) [] List.Pairwise.nil
  rw [← h.2.2.2.2.2.2.1] at this
  exact List.pairwise_reverse.mp this
theorem CI.oMem {c : jM} {n : Nat} (h : CI c n) {x : Int} : x ∈ ar (c 5) n ↔ 1 ≤ x ∧ x ≤ n := by
  rw [← List.mem_reverse, h.2.2.2.2.2.2.1, p_mem, rowsL_mem]
  simp
theorem CI.oNodup {c : jM} {n : Nat} (h : CI c n) : (ar (c 5) n).Nodup := by
  have := p_nodup (K := key c) (F := fun _ => 0) (rowsL n) [] (by simp) (rowsL_nodup n) (fun x _ q => by cases q)
  rw [← h.2.2.2.2.2.2.1] at this
  exact (List.reverse_perm _).nodup_iff.mp this
theorem pOk_asc {K F : Int → Int} : ∀ (xs l : List Int), xs.Pairwise (fun x y => K x ≤ K y) → xs.Nodup → (∀ x ∈ xs, x ∉ l) → (∀ r ∈ xs, F r = 0 ∨ F r ∈ l ∨ (F r ∈ xs ∧ K (F r) < K r)) → pOk F l xs
  | [], _, _, _, _, _ => trivial
  | x :: xs, l, hs, hn, hd, hF => by
    have s2 := List.pairwise_cons.mp hs
    have n2 := List.nodup_cons.mp hn
    refine ⟨?_, hd x List.mem_cons_self, pOk_asc xs (x :: l) s2.2 n2.2 (fun y hy q => ?_) (fun r hr => ?_)⟩
    · rcases hF x List.mem_cons_self with q | q | q
      · exact Or.inl q
      · exact Or.inr q
      · exfalso
        rcases List.mem_cons.mp q.1 with z | z
        · have := q.2
          rw [z] at this
          omega
        · have := s2.1 _ z
          omega
    · rcases List.mem_cons.mp q with z | z
      · exact n2.1 (by rw [← z]; exact hy)
      · exact hd y (List.mem_cons_of_mem _ hy) z
    · rcases hF r (List.mem_cons_of_mem _ hr) with q | q | q
      · exact Or.inl q
      · exact Or.inr (Or.inl (List.mem_cons_of_mem _ q))
      · rcases List.mem_cons.mp q.1 with z | z
        · exact Or.inr (Or.inl (by rw [z]; exact List.mem_cons_self))
        · exact Or.inr (Or.inr ⟨z, q.2⟩)
theorem pI_perm {K F : Int → Int} {r : Int} {l : List Int} : (pI K F l r).Perm (r :: l) := by
  have h1 : ∀ l : List Int, (pS K r l).Perm (r :: l) := by
    intro l
    induction l with
    | nil => exact List.Perm.refl _
    | cons x l ih =>
      unfold pS
      split
      · exact (ih.cons x).trans (List.Perm.swap r x l)
      · exact List.Perm.refl _
  have h2 : ∀ (f : Int) (l : List Int), (pF K f r l).Perm (r :: l) := by
    intro f l
    induction l with
    | nil => exact List.Perm.refl _
    | cons x l ih =>
      unfold pF
      split
      · exact ((h1 l).cons x).trans (List.Perm.swap r x l)
      · exact (ih.cons x).trans (List.Perm.swap r x l)
  unfold pI
  split
  · exact h1 l
  · exact h2 _ l
theorem p_permL {K F : Int → Int} : ∀ (xs P : List Int), (xs.foldl (pI K F) P).Perm (xs ++ P)
  | [], P => List.Perm.refl _
  | x :: xs, P => by
    refine (p_permL xs (pI K F P x)).trans ?_
    refine ((List.Perm.refl xs).append pI_perm).trans ?_
    exact List.perm_middle
theorem CI.oPerm {c : jM} {n : Nat} (h : CI c n) : (ar (c 5) n).Perm (rowsL n) := by
  have := p_permL (K := key c) (F := fun _ => 0) (rowsL n) []
  rw [← h.2.2.2.2.2.2.1, List.append_nil] at this
  exact (List.reverse_perm _).symm.trans this
theorem rowsL_sorted (n : Nat) : (rowsL n).Pairwise (fun x y : Int => x ≤ y) := by
  induction n with
  | zero => simp [rowsL]
  | succ n ih =>
    rw [rowsL_succ, List.pairwise_append]
    refine ⟨ih, by simp, fun a ha b hb => ?_⟩
    have := rowsL_mem.mp ha
    rw [List.mem_singleton] at hb
    omega
/-- the places that a node knows -/
def KLm (c : jM) (a : Nat) : List Int := (PLm c).filter (kb c a)
theorem sel_places {c : jM} {n : Nat} (h : CI c n) {p : Int} (hp : 0 ≤ p ∧ p < 4) : ((ar (c 5) n).filter (sel c (nc p) 0)).foldl (pI (key c) (frs c)) [] = KLm c (nc p) := by
  have hN := (h.2.2.2.2.2.2.2.2.2 p hp.1 hp.2).2.2.1
  have hm : ∀ r, r ∈ (ar (c 5) n).filter (sel c (nc p) 0) ↔ (1 ≤ r ∧ r ≤ n) ∧ sel c (nc p) 0 r = true := fun r => by rw [List.mem_filter, h.oMem]
  have hF : ∀ r : Int, 1 ≤ r → r ≤ n → cellV c r 0 = 0 → frs c r = 0 ∨ (1 ≤ frs c r ∧ frs c r < r ∧ cellV c (frs c r) 0 = 0 ∧ key c (frs c r) < key c r) := fun r a b e => by
    rcases ((h.2.2.1 r a b).2.2.2.1 e).1 with q | q
    · exact Or.inl q
    · exact Or.inr ⟨q.1.1, q.1.2.1, q.1.2.2, q.2⟩
  have hsel : ∀ r, sel c (nc p) 0 r = true ↔ cellV c r 0 = 0 ∧ kb c (nc p) r = true := fun r => by
    unfold sel
    rw [Bool.and_eq_true, decide_eq_true_eq]
  have hkF : ∀ r : Int, 1 ≤ r → r ≤ n → kb c (nc p) r = true → frs c r ≠ 0 → kb c (nc p) (frs c r) = true := fun r a b e q => (hN r a b e).1 q
  have hK : ∀ x y : Int, (1 ≤ x ∧ x ≤ n) → (1 ≤ y ∧ y ≤ n) → key c x = key c y → x = y := fun x y a b e => h.2.2.2.1 x y a.1 a.2 b.1 b.2 e
  have hperm : ((ar (c 5) n).filter (sel c (nc p) 0)).Perm (selL c (nc p) 0 n) := h.oPerm.filter _
  have ok1 : pOk (frs c) [] ((ar (c 5) n).filter (sel c (nc p) 0)) := by
    refine pOk_asc (K := key c) _ _ (h.oSort.filter _) (h.oNodup.filter _) (fun x _ q => by cases q) (fun r hr => ?_)
    have h1 := (hm r).mp hr
    have h2 := (hsel r).mp h1.2
    rcases hF r h1.1.1 h1.1.2 h2.1 with q | q
    · exact Or.inl q
    · exact Or.inr (Or.inr ⟨(hm _).mpr ⟨by omega, (hsel _).mpr ⟨q.2.2.1, hkF r h1.1.1 h1.1.2 h2.2 (by omega)⟩⟩, q.2.2.2⟩)
  have ok2 : pOk (frs c) [] (insL c n) := by
    refine pOk_asc (K := fun x => x) _ _ ((rowsL_sorted n).filter _) ((rowsL_nodup n).filter _) (fun x _ q => by cases q) (fun r hr => ?_)
    have h1 := insL_mem.mp hr
    rcases hF r h1.1.1 h1.1.2 h1.2 with q | q
    · exact Or.inl q
    · exact Or.inr (Or.inr ⟨insL_mem.mpr ⟨by omega, q.2.2.1⟩, q.2.1⟩)
  have e1 : (insL c n).filter (kb c (nc p)) = selL c (nc p) 0 n := by
    unfold insL selL
    rw [List.filter_filter]
    refine List.filter_congr (fun x _ => ?_)
    unfold sel
    rw [Bool.and_comm]
  have ok3 : pOk (frs c) [] (selL c (nc p) 0 n) := by
    rw [← e1]
    refine pOk_filt _ [] [] ok2 (fun r hr hk => ?_) (fun x hx => by cases hx) (fun x hx => hx)
    have h1 := insL_mem.mp hr
    by_cases q : frs c r = 0
    · exact Or.inl q
    · exact Or.inr (hkF r h1.1.1 h1.1.2 hk q)
  rw [p_perm _ _ [] [] (fun _ => Iff.rfl) ok1 ok3 hperm (fun x hx y hy e => hK x y ((hm x).mp (hperm.mem_iff.mpr hx)).1 ((hm y).mp (hperm.mem_iff.mpr hy)).1 e), ← e1]
  unfold KLm
  rw [h.2.2.2.2.2.1]
  refine (p_filter _ ok2 (fun r hr hk => ?_) (fun x hx y hy e => hK x y (insL_mem.mp hx).1 (insL_mem.mp hy).1 e)).symm
  have h1 := insL_mem.mp hr
  by_cases q : frs c r = 0
  · exact Or.inl q
  · exact Or.inr (hkF r h1.1.1 h1.1.2 hk q)
