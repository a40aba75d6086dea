/-! arrays as lists -/
def ar (f : Int → Int) (n : Nat) : List Int := (List.range n).map fun (i : Nat) => f (i : Int)
theorem ar_len (f : Int → Int) (n : Nat) : (ar f n).length = n := by simp [ar]
theorem ar_get {f : Int → Int} {n i : Nat} (h : i < n) : (ar f n)[i]? = some (f i) := by
  unfold ar
  rw [List.getElem?_map, List.getElem?_range h]
  rfl
theorem ar_congr {f g : Int → Int} {n : Nat} (h : ∀ i : Nat, i < n → f i = g i) : ar f n = ar g n := List.map_congr_left fun i hi => h i (List.mem_range.mp hi)
theorem ar_succ (f : Int → Int) (n : Nat) : ar f (n + 1) = ar f n ++ [f n] := by
  unfold ar
  rw [List.range_succ, List.map_append]
  rfl
theorem ar_mem {f : Int → Int} {n : Nat} {x : Int} : x ∈ ar f n ↔ ∃ i : Nat, i < n ∧ f i = x := by
  unfold ar
  simp
theorem ar_take (f : Int → Int) (n : Nat) : ∀ k : Nat, k ≤ n → (ar f n).take k = ar f k := by
  intro k hk
  apply List.ext_getElem?
  intro i
  by_cases h : i < k
  · rw [List.getElem?_take_of_lt h, ar_get (by omega), ar_get h]
  · rw [List.getElem?_eq_none (by rw [List.length_take, ar_len]; omega), List.getElem?_eq_none (by rw [ar_len]; omega)]
theorem ar_ins {f f' : Int → Int} {n k : Nat} {x : Int} (hk : k ≤ n) (h1 : ∀ i : Nat, i < k → f' i = f i) (h2 : f' k = x) (h3 : ∀ i : Nat, k < i → i ≤ n → f' i = f ((i : Int) - 1)) : ar f' (n + 1) = (ar f n).take k ++ x :: (ar f n).drop k := by
  apply List.ext_getElem?
  intro i
  have hl : ((ar f n).take k).length = k := by rw [List.length_take, ar_len]; omega
  by_cases hi : i < n + 1
  · rw [ar_get hi]
    by_cases h : i < k
    · rw [List.getElem?_append_left (by omega), List.getElem?_take_of_lt h, ar_get (by omega), h1 i h]
    · rw [List.getElem?_append_right (by omega), hl]
      by_cases he : i = k
      · rw [he, Nat.sub_self, h2]
        rfl
      · rw [show i - k = (i - k - 1) + 1 by omega, List.getElem?_cons_succ, List.getElem?_drop, ar_get (by omega), h3 i (by omega) (by omega)]
        congr 2
        omega
  · rw [List.getElem?_eq_none (by rw [ar_len]; omega), List.getElem?_eq_none (by simp [hl, ar_len]; omega)]
theorem pS_split {K : Int → Int} {r : Int} {w : List Int} (hw : ∀ x, w.head? = some x → ¬ K r < K x) : ∀ u : List Int, (∀ x ∈ u, K r < K x) → pS K r (u ++ w) = u ++ r :: w
  | [], _ => by
    cases w with
    | nil => rfl
    | cons x l => simp only [List.nil_append, pS]; rw [if_neg (hw x rfl)]
  | x :: u, h => by
    simp only [List.cons_append, pS]
    rw [if_pos (h x List.mem_cons_self), pS_split hw u (fun y hy => h y (List.mem_cons_of_mem _ hy))]
theorem pF_split {K : Int → Int} {f r : Int} (u w : List Int) (h : f ∉ u) : pF K f r (u ++ f :: w) = u ++ f :: pS K r w := by
  induction u with
  | nil => simp [pF]
  | cons x u ih =>
    simp only [List.cons_append, pF]
    rw [if_neg (fun q => h (by rw [q]; exact List.mem_cons_self)), ih (fun q => h (List.mem_cons_of_mem _ q))]
/-- nothing but these cells has changed -/
def Fr (m m' : jM) (S : List Nat) : Prop := ∀ b, b ∉ S → ∀ j, m' b j = m b j
theorem Fr.rf {m : jM} {S : List Nat} : Fr m m S := fun _ _ _ => rfl
theorem Fr.trans {m m1 m2 : jM} {S : List Nat} (h : Fr m m1 S) (h' : Fr m1 m2 S) : Fr m m2 S := fun b hb j => (h' b hb j).trans (h b hb j)
theorem Fr.up {m m1 : jM} {S : List Nat} (h : Fr m m1 S) {a : Nat} (ha : a ∈ S) {i x : Int} : Fr m (jup m1 a i x) S := fun b hb j => by
  rw [jup_ap, if_neg (fun q => hb (by rw [q.1]; exact ha))]
  exact h b hb j
theorem Fr.weak {m m1 : jM} {S S' : List Nat} (h : Fr m m1 S) (hs : ∀ a ∈ S, a ∈ S') : Fr m m1 S' := fun b hb j => h b (fun q => hb (hs b q)) j
