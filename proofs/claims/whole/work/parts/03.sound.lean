/-! THE SMALL MACHINE AND THE KIT'S: what a run of the small machine says of the machine -/
theorem jrg_wr (z : Int) : jrg (jwr z) := by unfold jrg jwr; omega
theorem jwr_id {z : Int} (h : jrg z) : jwr z = z := by unfold jrg at h; unfold jwr; omega
theorem jti {z : Int} (h : jrg z) : (Int32.ofInt z).toInt = z := by
  unfold jrg at h
  exact Int32.toInt_ofInt_of_le (by omega) (by omega)
theorem jrg_t (x : Int32) : jrg x.toInt := ⟨by have := x.le_toInt; omega, by have := x.toInt_lt; omega⟩
theorem jof_wr (z : Int) : Int32.ofInt (jwr z) = Int32.ofInt z := by
  apply Int32.toInt_inj.mp
  rw [jti (jrg_wr z), Int32.toInt_ofInt]
  unfold jwr
  show _ = Int.bmod z 4294967296
  rw [Int.bmod_def]
  split <;> omega
theorem jlt {x y : Int} (hx : jrg x) (hy : jrg y) : Int32.ofInt x < Int32.ofInt y ↔ x < y := by rw [Int32.lt_iff_toInt_lt, jti hx, jti hy]
theorem jle {x y : Int} (hx : jrg x) (hy : jrg y) : Int32.ofInt x ≤ Int32.ofInt y ↔ x ≤ y := by rw [Int32.le_iff_toInt_le, jti hx, jti hy]
theorem jeq {x y : Int} (hx : jrg x) (hy : jrg y) : Int32.ofInt x = Int32.ofInt y ↔ x = y := by rw [← Int32.toInt_inj, jti hx, jti hy]
theorem jz0 : (0 : Int32) = Int32.ofInt 0 := by decide
theorem jrg0 : jrg 0 := by unfold jrg; omega
theorem jin {i : Int} {n : Nat} (hi : jrg i) (h0 : 0 ≤ i) (h : i < n) : vp_in (Int32.ofInt i) n := by rw [vp_in_iff, jti hi]; exact ⟨h0, h⟩
theorem jcl_of {i : Int} (hi : jrg i) : (Int32.ofInt i).toNatClampNeg = i.toNat := by
  unfold jrg at hi
  exact Int32.toNatClampNeg_ofInt_of_le (by omega) (by omega)
def jcv (ad : Nat → Nat) (v : jV) : Value := match v with
  | Sum.inl x => .int (Int32.ofInt x)
  | Sum.inr (Sum.inl o) => va_rf (o.map ad)
  | Sum.inr (Sum.inr _) => .null
theorem jcv_cat (ad : Nat → Nat) (v : jV) : (jcv ad v).category = 1 := by
  rcases v with x | (_ | a) | u <;> rfl
def jok (N : Nat) (v : jV) : Prop := match v with
  | Sum.inl x => jrg x
  | Sum.inr (Sum.inl (some a)) => a < N
  | _ => True
theorem jok_mono {N N' : Nat} {v : jV} (h : jok N v) (hn : N ≤ N') : jok N' v := by
  rcases v with x | (_ | a) | u
  · exact h
  · trivial
  · exact Nat.lt_of_lt_of_le h hn
  · trivial
theorem jcv_ag {N : Nat} {ad ad' : Nat → Nat} (h : ∀ a, a < N → ad' a = ad a) {v : jV} (hv : jok N v) : jcv ad' v = jcv ad v := by
  rcases v with x | (_ | a) | u
  · rfl
  · rfl
  · show va_rf (some (ad' a)) = va_rf (some (ad a))
    rw [h a hv]
  · rfl
-- the locals
def jlp (ad : Nat → Nat) (i : Nat) (v : jV) : Option (Nat × Value) := match v with
  | Sum.inr (Sum.inr _) => none
  | v => some (i, jcv ad v)
theorem jlp_some {ad : Nat → Nat} {i : Nat} {v : jV} (h : v ≠ jU) : jlp ad i v = some (i, jcv ad v) := by
  rcases v with x | o | u
  · rfl
  · rfl
  · exact absurd rfl h
theorem jlp_of {ad : Nat → Nat} {i : Nat} {v : jV} {q : Nat × Value} (h : jlp ad i v = some q) : v ≠ jU ∧ q = (i, jcv ad v) := by
  rcases v with x | o | u
  · cases h; exact ⟨fun h => (by cases h), rfl⟩
  · cases h; exact ⟨fun h => (by cases h), rfl⟩
  · cases h
def jlv (ad : Nat → Nat) (ls : List jV) : List (Nat × Value) := (List.range ls.length).filterMap fun i => (ls[i]?).bind fun v => jlp ad i v
def jL (ad : Nat → Nat) (ls : List jV) (lsA : Array Slot) : Prop := lv_has lsA ls.length (jlv ad ls)
theorem jlv_mem {ad : Nat → Nat} {ls : List jV} {i : Nat} {v : jV} (h : ls[i]? = some v) (hv : v ≠ jU) : (i, jcv ad v) ∈ jlv ad ls := by
  refine List.mem_filterMap.mpr ⟨i, List.mem_range.mpr (List.getElem?_eq_some_iff.mp h).1, ?_⟩
  rw [h]
  exact jlp_some hv
theorem jlv_of {ad : Nat → Nat} {ls : List jV} {q : Nat × Value} (h : q ∈ jlv ad ls) : ∃ v, ls[q.1]? = some v ∧ v ≠ jU ∧ q.2 = jcv ad v := by
  obtain ⟨i, -, h2⟩ := List.mem_filterMap.mp h
  obtain ⟨v, h3, h4⟩ := Option.bind_eq_some_iff.mp h2
  obtain ⟨h5, h6⟩ := jlp_of h4
  subst h6
  exact ⟨v, h3, h5, rfl⟩
theorem jL_get {ad : Nat → Nat} {ls : List jV} {lsA : Array Slot} (h : jL ad ls lsA) {i : Nat} {v : jV} (hi : ls[i]? = some v) (hv : v ≠ jU) : lsA[i]? = some (.val (jcv ad v)) := h.2.2 (i, jcv ad v) (jlv_mem hi hv)
theorem jL_set {ad : Nat → Nat} {ls : List jV} {lsA : Array Slot} {i : Nat} {v : jV} {V : Value} (hV : jcv ad v = V) (h : lv_has lsA ls.length ((i, V) :: (jlv ad ls).filter (fun q => !(q.1 == i) && !(q.1 + 1 == i && q.2.category == 2)))) : jL ad (ls.set i v) lsA := by
  subst hV
  refine ⟨by rw [List.length_set]; exact h.1, h.2.1, fun q hq => ?_⟩
  obtain ⟨w, h1, h2, h3⟩ := jlv_of hq
  obtain ⟨k, V⟩ := q
  simp only at h1 h3
  subst h3
  by_cases hk : k = i
  · subst hk
    have hl : k < ls.length := by
      have := (List.getElem?_eq_some_iff.mp h1).1
      rwa [List.length_set] at this
    rw [List.getElem?_set_self hl] at h1
    cases h1
    exact h.2.2 _ List.mem_cons_self
  · rw [List.getElem?_set_ne (Ne.symm hk)] at h1
    refine h.2.2 (k, jcv ad w) (List.mem_cons_of_mem _ (List.mem_filter.mpr ⟨jlv_mem h1 h2, ?_⟩))
    simp [hk, jcv_cat]
theorem jL_ag {N : Nat} {ad ad' : Nat → Nat} (h : ∀ a, a < N → ad' a = ad a) {ls : List jV} {lsA : Array Slot} (hok : ∀ v ∈ ls, jok N v) (hl : jL ad ls lsA) : jL ad' ls lsA := by
  refine ⟨hl.1, hl.2.1, fun q hq => ?_⟩
  obtain ⟨w, h1, h2, h3⟩ := jlv_of hq
  obtain ⟨k, V⟩ := q
  simp only at h1 h3
  subst h3
  show lsA[k]? = _
  rw [jcv_ag h (hok w (List.mem_of_getElem? h1))]
  exact jL_get hl h1 h2
theorem jmap_ag {N : Nat} {ad ad' : Nat → Nat} (h : ∀ a, a < N → ad' a = ad a) {st : List jV} (hok : ∀ v ∈ st, jok N v) : st.map (jcv ad') = st.map (jcv ad) := List.map_congr_left fun v hv => jcv_ag h (hok v hv)
-- the cells
def jfv (ad : Nat → Nat) (g : jG) (m : jM) (k f : Nat) (b : Bool) : Value := if b = true then va_rf ((g.2 k f).map ad) else .int (Int32.ofInt (m k f))
def jfs (ad : Nat → Nat) (g : jG) (m : jM) (k : Nat) (bs : List Bool) : List Value := (List.range bs.length).map fun f => jfv ad g m k f (bs.getD f false)
def jce (tc : Nat → ClassId) (ad : Nat → Nat) (g : jG) (m : jM) (k : Nat) : va_E :=
  if (jsh g k).1 < 10 then
    if (jsh g k).1 ≤ 2 then .inl (tc (jsh g k).1, (jsh g k).2, .inl fun i => Int32.ofInt (m k i))
    else .inl (tc (jsh g k).1, (jsh g k).2, .inr (.inr (.inr (.inr fun i => (g.2 k i).map ad))))
  else .inr ((jsh g k).1 - 10, jfs ad g m k (tm_F ((jsh g k).1 - 10)))
def jcw (tc : Nat → ClassId) (ad : Nat → Nat) (g : jG) (m : jM) : va_W := (List.range (g.1.length - 1)).map fun k => (ad (k + 1), jce tc ad g m (k + 1))
theorem jcw_len (tc : Nat → ClassId) (ad : Nat → Nat) (g : jG) (m : jM) : (jcw tc ad g m).length = g.1.length - 1 := by simp [jcw]
theorem jcw_get {tc : Nat → ClassId} {ad : Nat → Nat} {g : jG} {m : jM} {k : Nat} (h0 : 0 < k) (hk : k < g.1.length) : (jcw tc ad g m)[k - 1]? = some (ad k, jce tc ad g m k) := by
  unfold jcw
  rw [List.getElem?_map, List.getElem?_range (by omega)]
  show some (ad (k - 1 + 1), jce tc ad g m (k - 1 + 1)) = _
  rw [show k - 1 + 1 = k by omega]
theorem jcw_at {tc : Nat → ClassId} {ad : Nat → Nat} {g : jG} {m : jM} {i : Nat} {q : Nat × va_E} (h : (jcw tc ad g m)[i]? = some q) : i + 1 < g.1.length ∧ q = (ad (i + 1), jce tc ad g m (i + 1)) := by
  have hl := (List.getElem?_eq_some_iff.mp h).1
  rw [jcw_len] at hl
  have h2 := jcw_get (tc := tc) (ad := ad) (g := g) (m := m) (k := i + 1) (by omega) (by omega)
  rw [Nat.add_sub_cancel] at h2
  exact ⟨by omega, Option.some.inj (h.symm.trans h2)⟩
theorem jsh_lt {g : jG} {a : Nat} (h : (jsh g a).1 ≠ 0) : a < g.1.length := by
  rcases Nat.lt_or_ge a g.1.length with q | q
  · exact q
  · exfalso
    apply h
    unfold jsh
    rw [List.getD_eq_getElem?_getD, List.getElem?_eq_none q]
    rfl
theorem jce_m {tc : Nat → ClassId} {ad : Nat → Nat} {g : jG} {m : jM} {a k : Nat} {i v : Int} (h : k ≠ a) : jce tc ad g (jup m a i v) k = jce tc ad g m k := by
  have e : ∀ j, jup m a i v k j = m k j := fun j => by unfold jup; rw [if_neg (fun q => h q.1)]
  unfold jce jfs jfv
  simp only [e]
theorem jce_r {tc : Nat → ClassId} {ad : Nat → Nat} {g : jG} {m : jM} {a k : Nat} {i : Int} {v : Option Nat} (h : k ≠ a) : jce tc ad (g.1, jur g.2 a i v) m k = jce tc ad g m k := by
  have e : ∀ j, jur g.2 a i v k j = g.2 k j := fun j => by unfold jur; rw [if_neg (fun q => h q.1)]
  unfold jce jfs jfv jsh
  simp only [e]
theorem jcw_set {tc : Nat → ClassId} {ad : Nat → Nat} {g g' : jG} {m m' : jM} {a : Nat} (h0 : 0 < a) (hl : g'.1.length = g.1.length) (h : ∀ k, k ≠ a → jce tc ad g' m' k = jce tc ad g m k) : jcw tc ad g' m' = (jcw tc ad g m).set (a - 1) (ad a, jce tc ad g' m' a) := by
  apply List.ext_getElem?
  intro i
  by_cases hi : i + 1 < g.1.length
  · have h1 := jcw_get (tc := tc) (ad := ad) (g := g') (m := m') (k := i + 1) (by omega) (by omega)
    have h2 := jcw_get (tc := tc) (ad := ad) (g := g) (m := m) (k := i + 1) (by omega) (by omega)
    rw [Nat.add_sub_cancel] at h1 h2
    rw [h1]
    by_cases ha : i + 1 = a
    · subst ha
      rw [Nat.add_sub_cancel, List.getElem?_set_self (by rw [jcw_len]; omega)]
    · rw [List.getElem?_set_ne (by omega), h2, h _ ha]
  · rw [List.getElem?_eq_none (by rw [jcw_len]; omega), List.getElem?_eq_none (by rw [List.length_set, jcw_len]; omega)]
theorem jce_ag {tc : Nat → ClassId} {ad ad' : Nat → Nat} {g g' : jG} {m : jM} {k N : Nat} (h : ∀ a, a < N → ad' a = ad a) (hr : ∀ i b, g.2 k i = some b → b < N) (hs : jsh g' k = jsh g k) (h2 : g'.2 = g.2) : jce tc ad' g' m k = jce tc ad g m k := by
  have e : ∀ i, (g'.2 k i).map ad' = (g.2 k i).map ad := by
    intro i
    rw [h2]
    cases hi : g.2 k i with
    | none => rfl
    | some b => show some (ad' b) = some (ad b); rw [h b (hr i b hi)]
  unfold jce jfs jfv
  simp only [e, hs]
theorem jcw_push {tc : Nat → ClassId} {ad ad' : Nat → Nat} {g : jG} {m : jM} {q : Nat × Nat} (h : ∀ a, a < g.1.length → ad' a = ad a) (hr : ∀ a i b, g.2 a i = some b → b < g.1.length) (h0 : 0 < g.1.length) :
    jcw tc ad' (g.1 ++ [q], g.2) m = jcw tc ad g m ++ [(ad' g.1.length, jce tc ad' (g.1 ++ [q], g.2) m g.1.length)] := by
  apply List.ext_getElem?
  intro i
  by_cases hi : i + 1 < g.1.length
  · have h1 := jcw_get (tc := tc) (ad := ad') (g := (g.1 ++ [q], g.2)) (m := m) (k := i + 1) (by omega) (by simp; omega)
    have h2 := jcw_get (tc := tc) (ad := ad) (g := g) (m := m) (k := i + 1) (by omega) (by omega)
    rw [Nat.add_sub_cancel] at h1 h2
    rw [h1, List.getElem?_append_left (by rw [jcw_len]; omega), h2, h _ hi, jce_ag (g := g) (g' := (g.1 ++ [q], g.2)) h (hr (i + 1)) ?_ rfl]
    unfold jsh
    simp only [List.getD_eq_getElem?_getD]
    rw [List.getElem?_append_left hi]
  · by_cases he : i + 1 = g.1.length
    · have h1 := jcw_get (tc := tc) (ad := ad') (g := (g.1 ++ [q], g.2)) (m := m) (k := i + 1) (by omega) (by simp; omega)
      rw [Nat.add_sub_cancel] at h1
      rw [h1, List.getElem?_append_right (by rw [jcw_len]; omega), jcw_len, show i - (g.1.length - 1) = 0 by omega, he]
      rfl
    · rw [List.getElem?_eq_none (by rw [jcw_len]; simp; omega), List.getElem?_eq_none (by simp [jcw_len]; omega)]
/-- what holds of the numbers and the references at every time -/
def jom (g : jG) (m : jM) : Prop := (∀ a i, jrg (m a i)) ∧ (∀ a i b, g.2 a i = some b → b < g.1.length) ∧ (∀ a, g.1.length ≤ a → ∀ i, m a i = 0 ∧ g.2 a i = none) ∧ (jsh g 0).1 = 9
theorem jom_up {g : jG} {m : jM} (h : jom g m) {a : Nat} {i v : Int} (ha : a < g.1.length) (hv : jrg v) : jom g (jup m a i v) := by
  obtain ⟨h1, h2, h3, h4⟩ := h
  refine ⟨fun b j => ?_, h2, fun b hb j => ⟨?_, (h3 b hb j).2⟩, h4⟩
  · unfold jup
    split
    · exact hv
    · exact h1 b j
  · unfold jup
    rw [if_neg (fun q => by omega)]
    exact (h3 b hb j).1
theorem jom_ur {g : jG} {m : jM} (h : jom g m) {a : Nat} {i : Int} {o : Option Nat} (ha : a < g.1.length) (hv : ∀ b, o = some b → b < g.1.length) : jom (g.1, jur g.2 a i o) m := by
  obtain ⟨h1, h2, h3, h4⟩ := h
  refine ⟨h1, fun b j x => ?_, fun b hb j => ⟨(h3 b hb j).1, ?_⟩, h4⟩
  · show jur g.2 a i o b j = some x → x < g.1.length
    unfold jur
    split
    · exact hv x
    · exact h2 b j x
  · show jur g.2 a i o b j = none
    have hb : g.1.length ≤ b := hb
    unfold jur
    rw [if_neg (fun q => by omega)]
    exact (h3 b hb j).2
theorem jsh_push {g : jG} {q : Nat × Nat} {r : Nat → Int → Option Nat} {a : Nat} (h : a < g.1.length) : jsh (g.1 ++ [q], r) a = jsh g a := by
  unfold jsh
  simp only [List.getD_eq_getElem?_getD]
  rw [List.getElem?_append_left h]
theorem jsh_last {g : jG} {q : Nat × Nat} {r : Nat → Int → Option Nat} : jsh (g.1 ++ [q], r) g.1.length = q := by
  unfold jsh
  simp [List.getD_eq_getElem?_getD]
theorem jom_push {g : jG} {m : jM} (h : jom g m) (q : Nat × Nat) : jom (g.1 ++ [q], g.2) m := by
  obtain ⟨h1, h2, h3, h4⟩ := h
  have h0 : 0 < g.1.length := jsh_lt (a := 0) (by rw [h4]; decide)
  refine ⟨h1, fun a i b hb => ?_, fun a ha i => h3 a ?_ i, by rw [jsh_push h0]; exact h4⟩
  · have := h2 a i b hb
    simp
    omega
  · simp at ha
    omega
