/-! a new row keeps the invariant -/
theorem pS_congr {K K' : Int → Int} {r : Int} (hr : K r = K' r) : ∀ l : List Int, (∀ x ∈ l, K x = K' x) → pS K r l = pS K' r l
  | [], _ => rfl
  | x :: l, h => by
    unfold pS
    rw [hr, h x List.mem_cons_self, pS_congr hr l (fun y hy => h y (List.mem_cons_of_mem _ hy))]
theorem pF_congr {K K' : Int → Int} {f r : Int} (hr : K r = K' r) : ∀ l : List Int, (∀ x ∈ l, K x = K' x) → pF K f r l = pF K' f r l
  | [], _ => rfl
  | x :: l, h => by
    unfold pF
    rw [pS_congr hr l (fun y hy => h y (List.mem_cons_of_mem _ hy)), pF_congr hr l (fun y hy => h y (List.mem_cons_of_mem _ hy))]
theorem pI_congr {K K' F F' : Int → Int} {r : Int} {l : List Int} (hr : K r = K' r) (hf : F r = F' r) (h : ∀ x ∈ l, K x = K' x) : pI K F l r = pI K' F' l r := by
  unfold pI
  rw [hf, pS_congr hr l h, pF_congr hr l h]
theorem p_congr {K K' F F' : Int → Int} : ∀ (xs P : List Int), (∀ x ∈ xs, K x = K' x ∧ F x = F' x) → (∀ x ∈ P, K x = K' x) → xs.foldl (pI K F) P = xs.foldl (pI K' F') P
  | [], _, _, _ => rfl
  | x :: xs, P, h, hP => by
    show xs.foldl (pI K F) (pI K F P x) = xs.foldl (pI K' F') (pI K' F' P x)
    have hx := h x List.mem_cons_self
    rw [pI_congr hx.1 hx.2 hP]
    refine p_congr xs _ (fun y hy => h y (List.mem_cons_of_mem _ hy)) (fun y hy => ?_)
    rcases pI_mem.mp hy with q | q
    · rw [q]; exact hx.1
    · exact hP y q
theorem sumI_congr {f g : Int → Int} : ∀ (d : Nat) (i : Int), (∀ j, i ≤ j → j < i + d → f j = g j) → sumI f i d = sumI g i d
  | 0, _, _ => rfl
  | d + 1, i, h => by
    unfold sumI
    rw [h i (by omega) (by omega), sumI_congr d (i + 1) (fun j h1 h2 => h j (by omega) (by omega))]
theorem sumI_snoc (f : Int → Int) : ∀ (d : Nat) (i : Int), sumI f i (d + 1) = sumI f i d + f (i + d)
  | 0, i => by simp [sumI]
  | d + 1, i => by
    show f i + sumI f (i + 1) (d + 1) = f i + sumI f (i + 1) d + f (i + ((d + 1 : Nat) : Int))
    rw [sumI_snoc f d (i + 1), show i + 1 + (d : Int) = i + ((d + 1 : Nat) : Int) by omega]
    omega
theorem kb_iff {m : jM} {a : Nat} {r : Int} : kb m a r = true ↔ (0 ≤ r ∧ r < 251) ∧ m (a + 1) r ≠ 0 := by
  unfold kb
  rw [decide_eq_true_eq]
theorem kb_false {m : jM} {a : Nat} {r : Int} (h : m (a + 1) r = 0) : kb m a r = false := by
  unfold kb
  rw [decide_eq_false_iff_not]
  exact fun q => q.2 h
/-- the new row is one that may be made by p -/
def RC (m : jM) (n : Nat) (p s d v f z : Int) : Prop :=
  (0 ≤ s ∧ s ≤ 5) ∧ (s = 0 → (f = 0 ∨ (isIns m f ((n : Int) + 1) ∧ kb m (nc p) f = true)) ∧ z = 0) ∧ (s = 1 → (isIns m f ((n : Int) + 1) ∧ kb m (nc p) f = true) ∧ z = 0) ∧
  (s = 2 → (isIns m f ((n : Int) + 1) ∧ kb m (nc p) f = true) ∧ ((isIns m z ((n : Int) + 1) ∧ kb m (nc p) z = true) ∨ (z = 0 ∧ d < 2)) ∧ (0 ≤ d ∧ d < 4) ∧ (0 ≤ v ∧ v ≤ 9)) ∧
  (s = 3 → (isIns m f ((n : Int) + 1) ∧ kb m (nc p) f = true) ∧ (isIns m z ((n : Int) + 1) ∧ kb m (nc p) z = true)) ∧ (s = 4 → (f = 0 ∨ (isIns m f ((n : Int) + 1) ∧ kb m (nc p) f = true)) ∧ z = 0) ∧
  (s = 5 → (1 ≤ f ∧ f ≤ n) ∧ cellV m f 0 ≠ 5 ∧ cellV m f 1 = p ∧ m 4 f = 0 ∧ z = 0)
theorem RC.kn {m : jM} {n : Nat} {p s d v f z : Int} (h : RC m n p s d v f z) (hN : NodeOk m n p) : (f ≠ 0 → kb m (nc p) f = true) ∧ (z ≠ 0 → kb m (nc p) z = true) := by
  obtain ⟨h0, h1, h2, h3, h4, h5, h6⟩ := h
  rcases (show s = 0 ∨ s = 1 ∨ s = 2 ∨ s = 3 ∨ s = 4 ∨ s = 5 by omega) with e | e | e | e | e | e
  · have := h1 e
    exact ⟨fun q => (this.1.resolve_left q).2, fun q => absurd this.2 q⟩
  · have := h2 e
    exact ⟨fun q => this.1.2, fun q => absurd this.2 q⟩
  · have := h3 e
    exact ⟨fun q => this.1.2, fun q => (this.2.1.resolve_right (fun w => q w.1)).2⟩
  · have := h4 e
    exact ⟨fun q => this.1.2, fun q => this.2.2⟩
  · have := h5 e
    exact ⟨fun q => (this.1.resolve_left q).2, fun q => absurd this.2 q⟩
  · have := h6 e
    exact ⟨fun q => hN.2.2.2.1 f this.1.1 this.1.2 this.2.2.1, fun q => absurd this.2.2.2.2 q⟩
theorem RowOk.move {m m' : jM} {n n' : Nat} (hnn : n ≤ n') (hc : ∀ r w : Int, r ≤ n → cellV m' r w = cellV m r w) (hk : ∀ r : Int, r ≤ n → key m' r = key m r) {r : Int} (hr : r ≤ n) (h : RowOk m n r) : RowOk m' n' r := by
  have hi : ∀ x, isIns m x r → isIns m' x r := fun x q => ⟨q.1, q.2.1, by rw [hc x 0 (by have := q.2.1; omega)]; exact q.2.2⟩
  obtain ⟨h1, h2, h3, h4, h5, h6, h7, h8, h9⟩ := h
  unfold RowOk
  simp only [hc r _ hr]
  refine ⟨h1, h2, by omega, fun q => ?_, fun q => ?_, fun q => ?_, fun q => ?_, fun q => ?_, fun q => ?_⟩
  · obtain ⟨a, b⟩ := h4 q
    refine ⟨a.imp_right (fun w => ⟨hi _ w.1, ?_⟩), b⟩
    have := w.1.2.1
    rw [hk _ (by omega), hk _ hr]
    exact w.2
  · exact ⟨hi _ (h5 q).1, (h5 q).2⟩
  · exact ⟨hi _ (h6 q).1, (h6 q).2.1.imp_left (hi _), (h6 q).2.2⟩
  · exact ⟨hi _ (h7 q).1, hi _ (h7 q).2⟩
  · exact ⟨(h8 q).1.imp_right (hi _), (h8 q).2⟩
  · obtain ⟨a, b, c, e⟩ := h9 q
    have e1 : cellV m r 5 ≤ n := by omega
    rw [hc _ 0 e1, hc _ 1 e1]
    exact ⟨a, b, c, e⟩
