/-! what the class's cells keep between calls -/
def rowsL (n : Nat) : List Int := (List.range n).map fun (i : Nat) => (i : Int) + 1
theorem rowsL_succ (n : Nat) : rowsL (n + 1) = rowsL n ++ [(n : Int) + 1] := by
  unfold rowsL
  rw [List.range_succ, List.map_append]
  rfl
theorem rowsL_mem {n : Nat} {x : Int} : x ∈ rowsL n ↔ 1 ≤ x ∧ x ≤ n := by
  unfold rowsL
  rw [List.mem_map]
  constructor
  · rintro ⟨i, h1, rfl⟩
    have := List.mem_range.mp h1
    omega
  · intro h
    exact ⟨(x - 1).toNat, List.mem_range.mpr (by omega), by omega⟩
def frs (m : jM) (r : Int) : Int := cellV m r 5
def insL (m : jM) (n : Nat) : List Int := (rowsL n).filter fun r => decide (cellV m r 0 = 0)
/-- an insert among the rows ahead of r -/
def isIns (m : jM) (x r : Int) : Prop := 1 ≤ x ∧ x < r ∧ cellV m x 0 = 0
/-- a row is as rows are made -/
def RowOk (m : jM) (n r : Int) : Prop :=
  (0 ≤ cellV m r 0 ∧ cellV m r 0 ≤ 5) ∧ (0 ≤ cellV m r 1 ∧ cellV m r 1 < 4) ∧ (1 ≤ cellV m r 2 ∧ cellV m r 2 ≤ n) ∧
  (cellV m r 0 = 0 → (cellV m r 5 = 0 ∨ (isIns m (cellV m r 5) r ∧ key m (cellV m r 5) < key m r)) ∧ cellV m r 6 = 0) ∧
  (cellV m r 0 = 1 → isIns m (cellV m r 5) r ∧ cellV m r 6 = 0) ∧
  (cellV m r 0 = 2 → isIns m (cellV m r 5) r ∧ (isIns m (cellV m r 6) r ∨ (cellV m r 6 = 0 ∧ cellV m r 3 < 2)) ∧ (0 ≤ cellV m r 3 ∧ cellV m r 3 < 4) ∧ (0 ≤ cellV m r 4 ∧ cellV m r 4 ≤ 9)) ∧
  (cellV m r 0 = 3 → isIns m (cellV m r 5) r ∧ isIns m (cellV m r 6) r) ∧
  (cellV m r 0 = 4 → (cellV m r 5 = 0 ∨ isIns m (cellV m r 5) r) ∧ cellV m r 6 = 0) ∧
  (cellV m r 0 = 5 → (1 ≤ cellV m r 5 ∧ cellV m r 5 < r) ∧ cellV m (cellV m r 5) 0 ≠ 5 ∧ cellV m (cellV m r 5) 1 = cellV m r 1 ∧ cellV m r 6 = 0)
def cntK (m : jM) (a : Nat) (n : Nat) : Int := sumI (fun r => b2i (kb m a r)) 1 n
def NodeOk (m : jM) (n : Nat) (p : Int) : Prop :=
  (∀ r : Int, 0 ≤ r → r < 251 → (m (nc p + 1) r = 0 ∨ m (nc p + 1) r = 1)) ∧ (∀ r : Int, 0 ≤ r → r < 251 → (r < 1 ∨ (n : Int) < r) → m (nc p + 1) r = 0) ∧
  (∀ r : Int, 1 ≤ r → r ≤ n → kb m (nc p) r = true → (cellV m r 5 ≠ 0 → kb m (nc p) (cellV m r 5) = true) ∧ (cellV m r 6 ≠ 0 → kb m (nc p) (cellV m r 6) = true) ∧ cellV m r 2 ≤ m (nc p) 2) ∧
  (∀ r : Int, 1 ≤ r → r ≤ n → cellV m r 1 = p → kb m (nc p) r = true) ∧ m (nc p) 1 = cntK m (nc p) n ∧ (0 ≤ m (nc p) 2 ∧ m (nc p) 2 ≤ n)
def CI (m : jM) (n : Nat) : Prop :=
  m 2 0 = (n : Int) ∧ n ≤ 250 ∧ (∀ r : Int, 1 ≤ r → r ≤ n → RowOk m n r) ∧ (∀ r r' : Int, 1 ≤ r → r ≤ n → 1 ≤ r' → r' ≤ n → key m r = key m r' → r = r') ∧
  m 2 5 = ((insL m n).length : Int) ∧ PLm m = (insL m n).foldl (pI (key m) (frs m)) [] ∧ (ar (m 5) n).reverse = (rowsL n).foldl (pI (key m) (fun _ => 0)) [] ∧
  (∀ r : Int, 1 ≤ r → r ≤ n → (m 4 r = 0 ∧ ∀ u : Int, 1 ≤ u → u ≤ n → cellV m u 0 = 5 → cellV m u 5 ≠ r) ∨ ((1 ≤ m 4 r ∧ m 4 r ≤ n) ∧ cellV m (m 4 r) 0 = 5 ∧ cellV m (m 4 r) 5 = r ∧ ∀ u : Int, 1 ≤ u → u ≤ n → cellV m u 0 = 5 → cellV m u 5 = r → u = m 4 r)) ∧
  (∀ r : Int, (n : Int) < r → m 4 r = 0) ∧ ∀ p : Int, 0 ≤ p → p < 4 → NodeOk m n p
theorem pI_len {K F : Int → Int} {r : Int} {l : List Int} : (pI K F l r).length = l.length + 1 := by
  have h1 : ∀ l : List Int, (pS K r l).length = l.length + 1 := by
    intro l
    induction l with
    | nil => rfl
    | cons x l ih =>
      unfold pS
      split
      · rw [List.length_cons, ih, List.length_cons]
      · rfl
  have h2 : ∀ (f : Int) (l : List Int), (pF K f r l).length = l.length + 1 := by
    intro f l
    induction l with
    | nil => rfl
    | cons x l ih =>
      unfold pF
      split
      · rw [List.length_cons, h1, List.length_cons]
      · rw [List.length_cons, ih, List.length_cons]
  unfold pI
  split
  · exact h1 l
  · exact h2 _ l
theorem p_len {K F : Int → Int} : ∀ (xs P : List Int), (xs.foldl (pI K F) P).length = xs.length + P.length
  | [], P => by simp
  | x :: xs, P => by
    show (xs.foldl (pI K F) (pI K F P x)).length = _
    rw [p_len xs, pI_len, List.length_cons]
    omega
theorem pI_nodup {K F : Int → Int} {r : Int} {l : List Int} (h : l.Nodup) (hr : r ∉ l) : (pI K F l r).Nodup := by
  have h1 : ∀ l : List Int, l.Nodup → r ∉ l → (pS K r l).Nodup := by
    intro l
    induction l with
    | nil => intro _ _; simp [pS]
    | cons x l ih =>
      intro hn hm
      unfold pS
      have hn2 := List.nodup_cons.mp hn
      split
      · refine List.nodup_cons.mpr ⟨fun q => ?_, ih hn2.2 (fun q => hm (List.mem_cons_of_mem _ q))⟩
        rcases pS_mem.mp q with z | z
        · exact hm (by rw [z]; exact List.mem_cons_self)
        · exact hn2.1 z
      · exact List.nodup_cons.mpr ⟨hm, hn⟩
  have h2 : ∀ (f : Int) (l : List Int), l.Nodup → r ∉ l → (pF K f r l).Nodup := by
    intro f l
    induction l with
    | nil => intro _ _; simp [pF]
    | cons x l ih =>
      intro hn hm
      unfold pF
      have hn2 := List.nodup_cons.mp hn
      split
      · refine List.nodup_cons.mpr ⟨fun q => ?_, h1 l hn2.2 (fun q => hm (List.mem_cons_of_mem _ q))⟩
        rcases pS_mem.mp q with z | z
        · exact hm (by rw [z]; exact List.mem_cons_self)
        · exact hn2.1 z
      · refine List.nodup_cons.mpr ⟨fun q => ?_, ih hn2.2 (fun q => hm (List.mem_cons_of_mem _ q))⟩
        rcases pF_mem.mp q with z | z
        · exact hm (by rw [z]; exact List.mem_cons_self)
        · exact hn2.1 z
  unfold pI
  split
  · exact h1 l h hr
  · exact h2 _ l h hr
theorem p_nodup {K F : Int → Int} : ∀ (xs P : List Int), P.Nodup → xs.Nodup → (∀ x ∈ xs, x ∉ P) → (xs.foldl (pI K F) P).Nodup
  | [], P, h, _, _ => h
  | x :: xs, P, h, hx, hd => by
    have h2 := List.nodup_cons.mp hx
    refine p_nodup xs _ (pI_nodup h (hd x List.mem_cons_self)) h2.2 (fun y hy q => ?_)
    rcases pI_mem.mp q with z | z
    · exact h2.1 (by rw [← z]; exact hy)
    · exact hd y (List.mem_cons_of_mem _ hy) z
theorem rowsL_nodup (n : Nat) : (rowsL n).Nodup := by
  induction n with
  | zero => simp [rowsL]
  | succ n ih =>
    rw [rowsL_succ, List.nodup_append]
    refine ⟨ih, by simp, fun a ha b hb => ?_⟩
    have := rowsL_mem.mp ha
    rw [List.mem_singleton] at hb
    omega
theorem ar_inj {f : Int → Int} {n : Nat} (h : (ar f n).Nodup) {i j : Nat} (hi : i < n) (hj : j < n) (e : f i = f j) : i = j := by
  have h1 := ar_get (f := f) hi
  have h2 := ar_get (f := f) hj
  rw [e, ← h2] at h1
  exact (List.getElem?_inj (by rw [ar_len]; exact hi) h).mp h1
theorem insL_mem {m : jM} {n : Nat} {x : Int} : x ∈ insL m n ↔ (1 ≤ x ∧ x ≤ n) ∧ cellV m x 0 = 0 := by
  unfold insL
  rw [List.mem_filter, rowsL_mem, decide_eq_true_eq]
theorem insL_len (m : jM) (n : Nat) : (insL m n).length ≤ n := by
  have := List.length_filter_le (fun r => decide (cellV m r 0 = 0)) (rowsL n)
  unfold insL
  rw [show (rowsL n).length = n by simp [rowsL]] at this
  exact this
/-- what shows needs -/
theorem CI.cw {m : jM} {n : Nat} (h : CI m n) : CW m := by
  obtain ⟨h1, h2, h3, h4, h5, h6, h7, h8, h9, h10⟩ := h
  obtain ⟨N, hN⟩ : ∃ N, N = (insL m n).length := ⟨_, rfl⟩
  have hle : N ≤ n := by rw [hN]; exact insL_len m n
  rw [← hN] at h5
  have hP : PLm m = ar (m 6) N := by
    unfold PLm
    rw [h5]
    rfl
  have hmem : ∀ j : Nat, j < N → 1 ≤ m 6 j ∧ m 6 j ≤ n := by
    intro j hj
    have hm : m 6 j ∈ ar (m 6) N := ar_mem.mpr ⟨j, hj, rfl⟩
    rw [← hP, h6] at hm
    rcases (p_mem _ _).mp hm with q | q
    · exact (insL_mem.mp q).1
    · cases q
  have hnd : (ar (m 6) N).Nodup := by
    rw [← hP, h6]
    exact p_nodup _ _ (by simp) ((rowsL_nodup n).filter _) (fun x _ q => by cases q)
  refine ⟨by omega, fun d hd1 hd2 hd3 => ?_, by omega, fun j hj => ?_, fun j k hj hk e => ?_⟩
  · have := (h3 d hd1 (by omega)).2.2.2.2.1 hd3
    exact ⟨this.1.1, this.1.2.1⟩
  · have := hmem j (by omega)
    omega
  · exact ar_inj hnd (by omega) (by omega) e
