/-! THE SMALL MACHINE. A value is a number, a cell's place (or none), or unset. Cells are numbered 0, 1, ..; cell 0 is the law's script.
    g = (kind and length of each cell, the references that cells hold), m = the numbers that cells hold.
    kinds: 1 int[], 2 boolean[], 3.. arrays of references, 9 the script, 10 + c an object of class c -/
abbrev jV : Type := Int ⊕ Option Nat ⊕ Unit
def jI (x : Int) : jV := Sum.inl x
def jO (o : Option Nat) : jV := Sum.inr (Sum.inl o)
def jU : jV := Sum.inr (Sum.inr ())
abbrev jG : Type := List (Nat × Nat) × (Nat → Int → Option Nat)
abbrev jM : Type := Nat → Int → Int
abbrev jS : Type := Nat × List jV × List jV × jG × jM
abbrev jR : Type := jV × jG × jM
/-- a call: the pc behind it, the method, how many arguments, how many locals, the receiver's kind (0: none), whether it answers nothing -/
abbrev jC : Type := Nat × Nat × Nat × Nat × Nat × Bool
abbrev jOp : Type := (List jV → List jV → jG → jM → Option jS) ⊕ (List jV → jG → jM → Option jR) ⊕ jC
abbrev jK : Type := Nat → Nat → List jV → List jV → jG → jM → Option jR
def jwr (z : Int) : Int := (z + 2147483648) % 4294967296 - 2147483648
def jrg (z : Int) : Prop := -2147483648 ≤ z ∧ z < 2147483648
def jup (m : jM) (a : Nat) (i v : Int) : jM := fun b j => if b = a ∧ j = i then v else m b j
def jur (m : Nat → Int → Option Nat) (a : Nat) (i : Int) (v : Option Nat) : Nat → Int → Option Nat := fun b j => if b = a ∧ j = i then v else m b j
def jsh (g : jG) (a : Nat) : Nat × Nat := g.1.getD a (0, 0)
def jpop : Nat → List jV → List jV → Option (List jV × List jV)
  | 0, acc, st => some (acc, st)
  | n + 1, acc, v :: st => jpop n (v :: acc) st
  | _ + 1, _, [] => none
/-- the receiver is there, and of its class -/
def jrc (rc : Nat) (g : jG) (as : List jV) : Bool := match as with
  | Sum.inr (Sum.inl (some a)) :: _ => rc == 0 || (jsh g a).1 == rc
  | _ => rc == 0
def jstep (o : jOp) (k : jK) (j : Nat) (ls st : List jV) (g : jG) (m : jM) : Option jR := match o with
  | Sum.inl s => (s ls st g m).bind fun q => k j q.1 q.2.1 q.2.2.1 q.2.2.2.1 q.2.2.2.2
  | Sum.inr (Sum.inl f) => f st g m
  | Sum.inr (Sum.inr c) => (jpop c.2.2.1 [] st).bind fun q => if jrc c.2.2.2.2.1 g q.1 = true ∧ q.2.length ≤ 8 then
      (k c.2.1 0 (q.1 ++ List.replicate (c.2.2.2.1 - c.2.2.1) jU) [] g m).bind fun r => k j c.1 ls (if c.2.2.2.2.2 = true then q.2 else r.1 :: q.2) r.2.1 r.2.2 else none
def jrun (P : Nat → Nat → jOp) : Nat → jK
  | 0 => fun _ _ _ _ _ _ => none
  | n + 1 => fun j pc ls st g m => jstep (P j pc) (jrun P n) j ls st g m
theorem jrun_0 (P : Nat → Nat → jOp) (j pc : Nat) (ls st : List jV) (g : jG) (m : jM) : jrun P 0 j pc ls st g m = none := rfl
theorem jrun_s (P : Nat → Nat → jOp) (n j pc : Nat) (ls st : List jV) (g : jG) (m : jM) : jrun P (n + 1) j pc ls st g m = jstep (P j pc) (jrun P n) j ls st g m := rfl
theorem jstep_mono {k k' : jK} (h : ∀ j pc ls st g m r, k j pc ls st g m = some r → k' j pc ls st g m = some r) (o : jOp) (j : Nat) (ls st : List jV) (g : jG) (m : jM) (r : jR) (e : jstep o k j ls st g m = some r) : jstep o k' j ls st g m = some r := by
  rcases o with s | f | c
  · obtain ⟨q, h1, h2⟩ := Option.bind_eq_some_iff.mp e
    exact Option.bind_eq_some_iff.mpr ⟨q, h1, h _ _ _ _ _ _ _ h2⟩
  · exact e
  · obtain ⟨q, h1, h2⟩ := Option.bind_eq_some_iff.mp e
    refine Option.bind_eq_some_iff.mpr ⟨q, h1, ?_⟩
    by_cases hc : jrc c.2.2.2.2.1 g q.1 = true ∧ q.2.length ≤ 8
    · rw [if_pos hc] at h2 ⊢
      obtain ⟨r1, h3, h4⟩ := Option.bind_eq_some_iff.mp h2
      exact Option.bind_eq_some_iff.mpr ⟨r1, h _ _ _ _ _ _ _ h3, h _ _ _ _ _ _ _ h4⟩
    · rw [if_neg hc] at h2
      cases h2
theorem jrun_mono1 (P : Nat → Nat → jOp) : ∀ (n j pc : Nat) (ls st : List jV) (g : jG) (m : jM) (r : jR), jrun P n j pc ls st g m = some r → jrun P (n + 1) j pc ls st g m = some r
  | 0, _, _, _, _, _, _, _, e => by rw [jrun_0] at e; cases e
  | n + 1, j, pc, ls, st, g, m, r, e => by
    rw [jrun_s] at e ⊢
    exact jstep_mono (jrun_mono1 P n) _ _ _ _ _ _ _ e
theorem jrun_mono (P : Nat → Nat → jOp) {n k : Nat} (h : n ≤ k) {j pc : Nat} {ls st : List jV} {g : jG} {m : jM} {r : jR} (e : jrun P n j pc ls st g m = some r) : jrun P k j pc ls st g m = some r := by
  induction h with
  | refl => exact e
  | step _ ih => exact jrun_mono1 P _ _ _ _ _ _ _ _ ih
/-- from here the method comes to its end, with Q of its answer and of what the cells then hold -/
def jwp (P : Nat → Nat → jOp) (j pc : Nat) (ls st : List jV) (g : jG) (m : jM) (Q : jV → jG → jM → Prop) : Prop := ∃ (n : Nat) (r : jR), jrun P n j pc ls st g m = some r ∧ Q r.1 r.2.1 r.2.2
section JW
variable {P : Nat → Nat → jOp} {j pc : Nat} {ls st : List jV} {g : jG} {m : jM} {Q : jV → jG → jM → Prop}
theorem jwp_mono {Q' : jV → jG → jM → Prop} (h : jwp P j pc ls st g m Q) (hq : ∀ r g' m', Q r g' m' → Q' r g' m') : jwp P j pc ls st g m Q' := by
  obtain ⟨n, r, e, q⟩ := h
  exact ⟨n, r, e, hq _ _ _ q⟩
theorem jwp_of {s : List jV → List jV → jG → jM → Option jS} (h : P j pc = Sum.inl s) : jwp P j pc ls st g m Q = ∃ q, s ls st g m = some q ∧ jwp P j q.1 q.2.1 q.2.2.1 q.2.2.2.1 q.2.2.2.2 Q := by
  refine propext ⟨fun ⟨n, r, e, q⟩ => ?_, fun ⟨q, hs, n, r, e, q2⟩ => ⟨n + 1, r, ?_, q2⟩⟩
  · cases n with
    | zero => rw [jrun_0] at e; cases e
    | succ n =>
      rw [jrun_s, h] at e
      obtain ⟨q1, h1, h2⟩ := Option.bind_eq_some_iff.mp e
      exact ⟨q1, h1, n, r, h2, q⟩
  · rw [jrun_s, h]
    exact Option.bind_eq_some_iff.mpr ⟨q, hs, e⟩
theorem jwp_step {s : List jV → List jV → jG → jM → Option jS} {pc' : Nat} {ls' st' : List jV} {g' : jG} {m' : jM} (h : P j pc = Sum.inl s) (hs : s ls st g m = some (pc', ls', st', g', m')) : jwp P j pc ls st g m Q = jwp P j pc' ls' st' g' m' Q := by
  rw [jwp_of h, hs]
  exact propext ⟨fun ⟨q, e, w⟩ => by cases e; exact w, fun w => ⟨_, rfl, w⟩⟩
theorem jwp_if {c : Prop} [Decidable c] {s : List jV → List jV → jG → jM → Option jS} {q1 q2 : jS} (h : P j pc = Sum.inl s) (hs : s ls st g m = if c then some q1 else some q2) :
    jwp P j pc ls st g m Q = if c then jwp P j q1.1 q1.2.1 q1.2.2.1 q1.2.2.2.1 q1.2.2.2.2 Q else jwp P j q2.1 q2.2.1 q2.2.2.1 q2.2.2.2.1 q2.2.2.2.2 Q := by
  by_cases hc : c
  · rw [if_pos hc] at hs ⊢
    exact jwp_step h hs
  · rw [if_neg hc] at hs ⊢
    exact jwp_step h hs
theorem jwp_chk {c : Prop} [Decidable c] {s : List jV → List jV → jG → jM → Option jS} {q1 : jS} (h : P j pc = Sum.inl s) (hs : s ls st g m = if c then some q1 else none) :
    jwp P j pc ls st g m Q = (c ∧ jwp P j q1.1 q1.2.1 q1.2.2.1 q1.2.2.2.1 q1.2.2.2.2 Q) := by
  by_cases hc : c
  · rw [if_pos hc] at hs
    rw [jwp_step h hs]
    exact propext ⟨fun w => ⟨hc, w⟩, fun w => w.2⟩
  · rw [if_neg hc] at hs
    rw [jwp_of h, hs]
    exact propext ⟨fun ⟨q, e, w⟩ => (by cases e), fun w => absurd w.1 hc⟩
theorem jwp_ret {f : List jV → jG → jM → Option jR} {r : jV} {g' : jG} {m' : jM} (h : P j pc = Sum.inr (Sum.inl f)) (hs : f st g m = some (r, g', m')) : jwp P j pc ls st g m Q = Q r g' m' := by
  refine propext ⟨fun ⟨n, r, e, q⟩ => ?_, fun q => ⟨1, _, by rw [jrun_s, h]; exact hs, q⟩⟩
  cases n with
  | zero => rw [jrun_0] at e; cases e
  | succ n =>
    rw [jrun_s, h] at e
    have e2 := hs.symm.trans e
    cases e2
    exact q
theorem jwp_retc {c : Prop} [Decidable c] {f : List jV → jG → jM → Option jR} {r : jV} {g' : jG} {m' : jM} (h : P j pc = Sum.inr (Sum.inl f)) (hs : f st g m = if c then some (r, g', m') else none) : jwp P j pc ls st g m Q = (c ∧ Q r g' m') := by
  by_cases hc : c
  · rw [if_pos hc] at hs
    rw [jwp_ret h hs]
    exact propext ⟨fun w => ⟨hc, w⟩, fun w => w.2⟩
  · rw [if_neg hc] at hs
    refine propext ⟨fun ⟨n, r, e, q⟩ => ?_, fun w => absurd w.1 hc⟩
    cases n with
    | zero => rw [jrun_0] at e; cases e
    | succ n =>
      rw [jrun_s, h] at e
      exact absurd (hs.symm.trans e) (by simp)
theorem jwp_call {nx j' n mL rc : Nat} {vd : Bool} {as rest : List jV} (h : P j pc = Sum.inr (Sum.inr (nx, j', n, mL, rc, vd))) (hp : jpop n [] st = some (as, rest)) (hl : rest.length ≤ 8) :
    jwp P j pc ls st g m Q = (jrc rc g as = true ∧ jwp P j' 0 (as ++ List.replicate (mL - n) jU) [] g m (fun r g' m' => jwp P j nx ls (if vd = true then rest else r :: rest) g' m' Q)) := by
  refine propext ⟨fun ⟨k, r, e, q⟩ => ?_, fun ⟨hc, k1, r1, e1, k2, r2, e2, q⟩ => ⟨max k1 k2 + 1, r2, ?_, q⟩⟩
  · cases k with
    | zero => rw [jrun_0] at e; cases e
    | succ k =>
      rw [jrun_s, h] at e
      obtain ⟨q1, h1, h2⟩ := Option.bind_eq_some_iff.mp e
      have h1 : jpop n [] st = some q1 := h1
      rw [hp] at h1
      cases h1
      by_cases hc : jrc rc g as = true ∧ rest.length ≤ 8
      · have h2 := (if_pos hc).symm.trans h2
        obtain ⟨r1, h3, h4⟩ := Option.bind_eq_some_iff.mp h2
        exact ⟨hc.1, k, r1, h3, k, r, h4, q⟩
      · have h2 := (if_neg hc).symm.trans h2
        cases h2
  · rw [jrun_s, h]
    refine Option.bind_eq_some_iff.mpr ⟨(as, rest), hp, (if_pos ⟨hc, hl⟩).trans ?_⟩
    exact Option.bind_eq_some_iff.mpr ⟨r1, jrun_mono P (Nat.le_max_left _ _) e1, jrun_mono P (Nat.le_max_right _ _) e2⟩
theorem jwp_callV {nx j' n mL rc : Nat} {vd : Bool} {a : Nat} {as rest : List jV} (h : P j pc = Sum.inr (Sum.inr (nx, j', n, mL, rc, vd))) (h0 : (rc == 0) = false) (hp : jpop n [] st = some (jO (some a) :: as, rest)) (hl : rest.length ≤ 8) :
    jwp P j pc ls st g m Q = ((jsh g a).1 = rc ∧ jwp P j' 0 ((jO (some a) :: as) ++ List.replicate (mL - n) jU) [] g m (fun r g' m' => jwp P j nx ls (if vd = true then rest else r :: rest) g' m' Q)) := by
  rw [jwp_call h hp hl]
  refine propext ⟨fun w => ⟨?_, w.2⟩, fun w => ⟨?_, w.2⟩⟩
  · have := w.1
    simpa [jrc, jO, h0] using this
  · simp [jrc, jO, h0, w.1]
theorem jwp_callS {nx j' n mL : Nat} {vd : Bool} {as rest : List jV} (h : P j pc = Sum.inr (Sum.inr (nx, j', n, mL, 0, vd))) (hp : jpop n [] st = some (as, rest)) (hl : rest.length ≤ 8) :
    jwp P j pc ls st g m Q = jwp P j' 0 (as ++ List.replicate (mL - n) jU) [] g m (fun r g' m' => jwp P j nx ls (if vd = true then rest else r :: rest) g' m' Q) := by
  rw [jwp_call h hp hl]
  refine propext ⟨fun w => w.2, fun w => ⟨?_, w⟩⟩
  unfold jrc
  split <;> rfl
theorem jwp_sw {c : Prop} [Decidable c] {a b : Nat} : jwp P j (if c then a else b) ls st g m Q = if c then jwp P j a ls st g m Q else jwp P j b ls st g m Q := by
  by_cases h : c
  · rw [if_pos h, if_pos h]
  · rw [if_neg h, if_neg h]
end JW
-- ===== the instructions =====
def jbad : jOp := Sum.inl fun _ _ _ _ => none
def o_push (nx : Nat) (z : Int) : jOp := Sum.inl fun ls st g m => some (nx, ls, jI z :: st, g, m)
def o_null (nx : Nat) : jOp := Sum.inl fun ls st g m => some (nx, ls, jO none :: st, g, m)
def o_iload (nx i : Nat) : jOp := Sum.inl fun ls st g m => match ls[i]? with
  | some (Sum.inl x) => some (nx, ls, jI x :: st, g, m)
  | _ => none
def o_aload (nx i : Nat) : jOp := Sum.inl fun ls st g m => match ls[i]? with
  | some (Sum.inr (Sum.inl o)) => some (nx, ls, jO o :: st, g, m)
  | _ => none
def o_istore (nx i : Nat) : jOp := Sum.inl fun ls st g m => match st with
  | Sum.inl x :: st => some (nx, ls.set i (jI x), st, g, m)
  | _ => none
def o_astore (nx i : Nat) : jOp := Sum.inl fun ls st g m => match st with
  | Sum.inr (Sum.inl o) :: st => some (nx, ls.set i (jO o), st, g, m)
  | _ => none
def o_iinc (nx i : Nat) (z : Int) : jOp := Sum.inl fun ls st g m => match ls[i]? with
  | some (Sum.inl x) => some (nx, ls.set i (jI (jwr (x + z))), st, g, m)
  | _ => none
def o_bin (nx : Nat) (f : Int → Int → Int) : jOp := Sum.inl fun ls st g m => match st with
  | Sum.inl y :: Sum.inl x :: st => some (nx, ls, jI (f x y) :: st, g, m)
  | _ => none
def f_add (x y : Int) : Int := jwr (x + y)
def f_sub (x y : Int) : Int := jwr (x - y)
def f_mul (x y : Int) : Int := jwr (x * y)
def f_and (x y : Int) : Int := (Int32.ofInt x &&& Int32.ofInt y).toInt
def f_or (x y : Int) : Int := (Int32.ofInt x ||| Int32.ofInt y).toInt
def f_xor (x y : Int) : Int := (Int32.ofInt x ^^^ Int32.ofInt y).toInt
def f_shl (x y : Int) : Int := (Int32.ofInt x <<< (Int32.ofInt y &&& 31)).toInt
def f_shr (x y : Int) : Int := (Int32.ofInt x >>> (Int32.ofInt y &&& 31)).toInt
def f_max (x y : Int) : Int := if x < y then y else x
def f_min (x y : Int) : Int := if y < x then y else x
def f_div (x y : Int) : Int := (Int32.ofInt x / Int32.ofInt y).toInt
def f_rem (x y : Int) : Int := (Int32.ofInt x - Int32.ofInt x / Int32.ofInt y * Int32.ofInt y).toInt
def o_mm (nx : Nat) (f : Int → Int → Int) : jOp := Sum.inl fun ls st g m => match st with
  | Sum.inl y :: Sum.inl x :: st => if st.length ≤ 8 then some (nx, ls, jI (f x y) :: st, g, m) else none
  | _ => none
def o_dv (nx : Nat) (f : Int → Int → Int) : jOp := Sum.inl fun ls st g m => match st with
  | Sum.inl y :: Sum.inl x :: st => if y ≠ 0 then some (nx, ls, jI (f x y) :: st, g, m) else none
  | _ => none
def o_if_eq (nx tg : Nat) : jOp := Sum.inl fun ls st g m => match st with
  | Sum.inl x :: st => if x = 0 then some (tg, ls, st, g, m) else some (nx, ls, st, g, m)
  | _ => none
def o_if_ne (nx tg : Nat) : jOp := Sum.inl fun ls st g m => match st with
  | Sum.inl x :: st => if x ≠ 0 then some (tg, ls, st, g, m) else some (nx, ls, st, g, m)
  | _ => none
def o_if_lt (nx tg : Nat) : jOp := Sum.inl fun ls st g m => match st with
  | Sum.inl x :: st => if x < 0 then some (tg, ls, st, g, m) else some (nx, ls, st, g, m)
  | _ => none
def o_if_ge (nx tg : Nat) : jOp := Sum.inl fun ls st g m => match st with
  | Sum.inl x :: st => if 0 ≤ x then some (tg, ls, st, g, m) else some (nx, ls, st, g, m)
  | _ => none
def o_if_gt (nx tg : Nat) : jOp := Sum.inl fun ls st g m => match st with
  | Sum.inl x :: st => if 0 < x then some (tg, ls, st, g, m) else some (nx, ls, st, g, m)
  | _ => none
def o_if_le (nx tg : Nat) : jOp := Sum.inl fun ls st g m => match st with
  | Sum.inl x :: st => if x ≤ 0 then some (tg, ls, st, g, m) else some (nx, ls, st, g, m)
  | _ => none
def o_ic_eq (nx tg : Nat) : jOp := Sum.inl fun ls st g m => match st with
  | Sum.inl y :: Sum.inl x :: st => if x = y then some (tg, ls, st, g, m) else some (nx, ls, st, g, m)
  | _ => none
def o_ic_ne (nx tg : Nat) : jOp := Sum.inl fun ls st g m => match st with
  | Sum.inl y :: Sum.inl x :: st => if x ≠ y then some (tg, ls, st, g, m) else some (nx, ls, st, g, m)
  | _ => none
def o_ic_lt (nx tg : Nat) : jOp := Sum.inl fun ls st g m => match st with
  | Sum.inl y :: Sum.inl x :: st => if x < y then some (tg, ls, st, g, m) else some (nx, ls, st, g, m)
  | _ => none
def o_ic_ge (nx tg : Nat) : jOp := Sum.inl fun ls st g m => match st with
  | Sum.inl y :: Sum.inl x :: st => if y ≤ x then some (tg, ls, st, g, m) else some (nx, ls, st, g, m)
  | _ => none
def o_ic_gt (nx tg : Nat) : jOp := Sum.inl fun ls st g m => match st with
  | Sum.inl y :: Sum.inl x :: st => if y < x then some (tg, ls, st, g, m) else some (nx, ls, st, g, m)
  | _ => none
def o_ic_le (nx tg : Nat) : jOp := Sum.inl fun ls st g m => match st with
  | Sum.inl y :: Sum.inl x :: st => if x ≤ y then some (tg, ls, st, g, m) else some (nx, ls, st, g, m)
  | _ => none
def o_goto (tg : Nat) : jOp := Sum.inl fun ls st g m => some (tg, ls, st, g, m)
def o_ifnull (nx tg : Nat) : jOp := Sum.inl fun ls st g m => match st with
  | Sum.inr (Sum.inl none) :: st => some (tg, ls, st, g, m)
  | Sum.inr (Sum.inl (some _)) :: st => some (nx, ls, st, g, m)
  | _ => none
def o_ifnonnull (nx tg : Nat) : jOp := Sum.inl fun ls st g m => match st with
  | Sum.inr (Sum.inl none) :: st => some (nx, ls, st, g, m)
  | Sum.inr (Sum.inl (some _)) :: st => some (tg, ls, st, g, m)
  | _ => none
def jsw (x : Int) (d : Nat) : List (Int × Nat) → Nat
  | [] => d
  | q :: r => if x = q.1 then q.2 else jsw x d r
def o_switch (d : Nat) (t : List (Int × Nat)) : jOp := Sum.inl fun ls st g m => match st with
  | Sum.inl x :: st => some (jsw x d t, ls, st, g, m)
  | _ => none
def o_getI (nx c : Nat) (f : Int) : jOp := Sum.inl fun ls st g m => match st with
  | Sum.inr (Sum.inl (some a)) :: st => if (jsh g a).1 = c then some (nx, ls, jI (m a f) :: st, g, m) else none
  | _ => none
def o_getR (nx c : Nat) (f : Int) : jOp := Sum.inl fun ls st g m => match st with
  | Sum.inr (Sum.inl (some a)) :: st => if (jsh g a).1 = c then some (nx, ls, jO (g.2 a f) :: st, g, m) else none
  | _ => none
def o_putI (nx c : Nat) (f : Int) : jOp := Sum.inl fun ls st g m => match st with
  | Sum.inl x :: Sum.inr (Sum.inl (some a)) :: st => if (jsh g a).1 = c then some (nx, ls, st, g, jup m a f x) else none
  | _ => none
def o_putR (nx c : Nat) (f : Int) : jOp := Sum.inl fun ls st g m => match st with
  | Sum.inr (Sum.inl o) :: Sum.inr (Sum.inl (some a)) :: st => if (jsh g a).1 = c then some (nx, ls, st, (g.1, jur g.2 a f o), m) else none
  | _ => none
def o_nald (nx kd : Nat) : jOp := Sum.inl fun ls st g m => match st with
  | Sum.inl i :: Sum.inr (Sum.inl (some a)) :: st => if (jsh g a).1 = kd ∧ 0 ≤ i ∧ i < (jsh g a).2 then some (nx, ls, jI (m a i) :: st, g, m) else none
  | _ => none
def o_aald (nx kd : Nat) : jOp := Sum.inl fun ls st g m => match st with
  | Sum.inl i :: Sum.inr (Sum.inl (some a)) :: st => if (jsh g a).1 = kd ∧ 0 ≤ i ∧ i < (jsh g a).2 then some (nx, ls, jO (g.2 a i) :: st, g, m) else none
  | _ => none
def o_iast (nx : Nat) : jOp := Sum.inl fun ls st g m => match st with
  | Sum.inl x :: Sum.inl i :: Sum.inr (Sum.inl (some a)) :: st => if (jsh g a).1 = 1 ∧ 0 ≤ i ∧ i < (jsh g a).2 then some (nx, ls, st, g, jup m a i x) else none
  | _ => none
def o_zast (nx : Nat) : jOp := Sum.inl fun ls st g m => match st with
  | Sum.inl x :: Sum.inl i :: Sum.inr (Sum.inl (some a)) :: st => if ((jsh g a).1 = 2 ∧ 0 ≤ i ∧ i < (jsh g a).2) ∧ (x = 0 ∨ x = 1) then some (nx, ls, st, g, jup m a i x) else none
  | _ => none
def o_aast (nx kd c : Nat) : jOp := Sum.inl fun ls st g m => match st with
  | Sum.inr (Sum.inl (some b)) :: Sum.inl i :: Sum.inr (Sum.inl (some a)) :: st => if ((jsh g a).1 = kd ∧ 0 ≤ i ∧ i < (jsh g a).2) ∧ (jsh g b).1 = c then some (nx, ls, st, (g.1, jur g.2 a i (some b)), m) else none
  | _ => none
def o_alen (nx kd : Nat) : jOp := Sum.inl fun ls st g m => match st with
  | Sum.inr (Sum.inl (some a)) :: st => if (jsh g a).1 = kd ∧ (jsh g a).2 ≤ 100000 then some (nx, ls, jI (jsh g a).2 :: st, g, m) else none
  | _ => none
def o_sald (nx : Nat) : jOp := Sum.inl fun ls st g m => match st with
  | Sum.inl i :: Sum.inr (Sum.inl (some 0)) :: st => if 0 ≤ i ∧ i < (jsh g 0).2 then some (nx, ls, jI (m 0 i) :: st, g, m) else none
  | _ => none
def o_slen (nx : Nat) : jOp := Sum.inl fun ls st g m => match st with
  | Sum.inr (Sum.inl (some 0)) :: st => if (jsh g 0).2 ≤ 100000 then some (nx, ls, jI (jsh g 0).2 :: st, g, m) else none
  | _ => none
def o_newa (nx kd : Nat) : jOp := Sum.inl fun ls st g m => match st with
  | Sum.inl n :: st => if 0 ≤ n ∧ n ≤ 100000 then some (nx, ls, jO (some g.1.length) :: st, (g.1 ++ [(kd, n.toNat)], g.2), m) else none
  | _ => none
def o_new (nx c n : Nat) : jOp := Sum.inl fun ls st g m => some (nx, ls, jO (some g.1.length) :: st, (g.1 ++ [(c, n)], g.2), m)
def o_dup (nx : Nat) : jOp := Sum.inl fun ls st g m => match st with
  | v :: st => some (nx, ls, v :: v :: st, g, m)
  | _ => none
def o_dup2 (nx : Nat) : jOp := Sum.inl fun ls st g m => match st with
  | v :: w :: st => some (nx, ls, v :: w :: v :: w :: st, g, m)
  | _ => none
def o_dupx1 (nx : Nat) : jOp := Sum.inl fun ls st g m => match st with
  | v :: w :: st => some (nx, ls, v :: w :: v :: st, g, m)
  | _ => none
def o_dupx2 (nx : Nat) : jOp := Sum.inl fun ls st g m => match st with
  | v :: w :: u :: st => some (nx, ls, v :: w :: u :: v :: st, g, m)
  | _ => none
def o_pop (nx : Nat) : jOp := Sum.inl fun ls st g m => match st with
  | _ :: st => some (nx, ls, st, g, m)
  | _ => none
def o_objinit (nx : Nat) : jOp := Sum.inl fun ls st g m => match st with
  | Sum.inr (Sum.inl (some _)) :: st => if st.length ≤ 8 then some (nx, ls, st, g, m) else none
  | _ => none
def o_iret : jOp := Sum.inr (Sum.inl fun st g m => match st with
  | [Sum.inl x] => some (jI x, g, m)
  | _ => none)
def o_zret : jOp := Sum.inr (Sum.inl fun st g m => match st with
  | [Sum.inl x] => if x = 0 ∨ x = 1 then some (jI x, g, m) else none
  | _ => none)
def o_aret : jOp := Sum.inr (Sum.inl fun st g m => match st with
  | [Sum.inr (Sum.inl o)] => some (jO o, g, m)
  | _ => none)
def o_vret : jOp := Sum.inr (Sum.inl fun st g m => match st with
  | [] => some (jU, g, m)
  | _ => none)
def o_call (nx j n mL rc : Nat) (vd : Bool) : jOp := Sum.inr (Sum.inr (nx, j, n, mL, rc, vd))
