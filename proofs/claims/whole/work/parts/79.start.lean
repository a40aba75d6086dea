/-! the law's entry: where the small machine starts, the machine starts -/
theorem st_ar {s : State} {args : Array Value} {ty : FieldType} (h : (Cond.arrayClass ty).before args s = true) : ∃ cA : ClassId, ArrOfT s cA ty ∧ s.vm.findClass ("[" ++ ty.toString) = some cA := by
  obtain ⟨c, k, comp, h1, h2, h3⟩ := Cond.arrayClass_spec (show (Cond.arrayClass ty).holds args s none s [] = true from h)
  exact ⟨c, fun n z => ⟨fun k h => (by cases h), k, h2, comp, h3⟩, h1⟩
theorem st_ao {s : State} {C : String} (h : va_AO C s) : ∃ cA : ClassId, ArrOfT s cA (.object C) ∧ va_RA s cA (.object C) := by
  obtain ⟨comp, cA, kA, f4, -, f2, f3, f1⟩ := Cond.arrayOver_spec (show (Cond.arrayOver (.object C)).holds #[] s none s [] = true from h)
  exact ⟨cA, fun N z => ⟨fun k h => (by cases h), kA, f2, comp, f3⟩, kA, comp, f2, f3, f4, f1⟩
theorem st_K {s : State} {args : Array Value} (hts : ∀ w ∈ lw_tbl, w.before args s = true) : ∃ (D : va_G) (tc : Nat → ClassId), va_K D vwCl (jtys tc) s := by
  have hg : ∀ w ∈ jgw, w.before args s = true := fun w hw => hts w (List.mem_filter.mp hw).1
  obtain ⟨c0, i0, h0⟩ := u_known hg tm_in0 (hg _ wd_127)
  obtain ⟨c1, i1, h1⟩ := u_known hg tm_in1 (hg _ wd_121)
  obtain ⟨c2, i2, h2⟩ := u_known hg tm_in2 (hg _ wd_131)
  obtain ⟨c3, i3, h3⟩ := u_known hg tm_in3 (hg _ wd_1)
  obtain ⟨c4, i4, h4⟩ := u_known hg tm_in4 (hg _ wd_6)
  obtain ⟨a1, x1, y1⟩ := st_ar (hg _ wd_281)
  obtain ⟨a2, x2, y2⟩ := st_ar (hg _ wd_289)
  obtain ⟨a3, x3, y3⟩ := st_ao (va_AO.of (hts _ wo_Node))
  refine ⟨(fun c => [c0, c1, c2, c3, c4].getD c 0, fun c => [i0, i1, i2, i3, i4].getD c i0), fun k => [0, a1, a2, a3].getD k 0, fun c q hq => ?_, fun k q hq => ?_⟩
  · have hc : c < 5 := (List.getElem?_eq_some_iff.mp hq).1
    rcases (show c = 0 ∨ c = 1 ∨ c = 2 ∨ c = 3 ∨ c = 4 by omega) with rfl | rfl | rfl | rfl | rfl
    · obtain rfl := Option.some.inj (show some (tm_C0, tm_T0, 3) = some q from hq)
      exact h0
    · obtain rfl := Option.some.inj (show some (tm_C1, tm_T1, 6) = some q from hq)
      exact h1
    · obtain rfl := Option.some.inj (show some (tm_C2, tm_T2, 8) = some q from hq)
      exact h2
    · obtain rfl := Option.some.inj (show some (tm_C3, tm_T3, 4) = some q from hq)
      exact h3
    · obtain rfl := Option.some.inj (show some (tm_C4, tm_T4, 31) = some q from hq)
      exact h4
  · have hc : k < 3 := (List.getElem?_eq_some_iff.mp hq).1
    rcases (show k = 0 ∨ k = 1 ∨ k = 2 by omega) with rfl | rfl | rfl
    · obtain rfl := Option.some.inj (show some (a1, FieldType.int) = some q from hq)
      exact ⟨x1, y1⟩
    · obtain rfl := Option.some.inj (show some (a2, FieldType.boolean) = some q from hq)
      exact ⟨x2, y2⟩
    · obtain rfl := Option.some.inj (show some (a3, FieldType.object "TextMarks$Node") = some q from hq)
      exact ⟨x3, y3⟩
/-- the script as the small machine's cell 0 -/
def stM (L : Nat) (xs : Nat → Int32) : jM := fun a i => if a = 0 ∧ 0 ≤ i ∧ i < (L : Int) then (xs i.toNat).toInt else 0
abbrev stG (L : Nat) : jG := ([(9, L)], fun _ _ => none)
theorem stM_0 {L : Nat} {xs : Nat → Int32} (a : Nat) (j : Int) (h : a ≠ 0) : stM L xs a j = 0 := if_neg (fun q => h q.1)
theorem stM_rg {L : Nat} {xs : Nat → Int32} (a : Nat) (j : Int) : jrg (stM L xs a j) := by
  unfold stM
  split
  · exact jrg_t _
  · exact jrg0
theorem stM_at {L : Nat} {xs : Nat → Int32} (i : Nat) (h : i < L) : stM L xs 0 i = (xs i).toInt := by
  unfold stM
  rw [if_pos ⟨rfl, by omega, by omega⟩, Int.toNat_natCast]
theorem st_om (L : Nat) (xs : Nat → Int32) : jom (stG L) (stM L xs) := by
  refine ⟨fun a i => stM_rg a i, fun a i b h => (by cases h), fun a ha i => ⟨stM_0 a i ?_, rfl⟩, rfl⟩
  have : 1 ≤ a := ha
  omega
theorem st_L (b : Nat) : jL (fun _ => b) [jO (some 0), jU, jU, jU] ((lg_sl [Value.ref b] ++ List.replicate (4 - (lg_sl [Value.ref b]).length) Slot.unset).toArray) := by
  have hl := lv_entry [Value.ref b] (n := 4) (Nat.le_of_ble_eq_true rfl)
  refine ⟨hl.1, hl.2.1, fun q hq => ?_⟩
  obtain ⟨v, h1, h2, h3⟩ := jlv_of hq
  obtain ⟨k, V⟩ := q
  simp only at h1 h3
  subst h3
  have hk : k < 4 := (List.getElem?_eq_some_iff.mp h1).1
  rcases (show k = 0 ∨ k = 1 ∨ k = 2 ∨ k = 3 by omega) with rfl | rfl | rfl | rfl
  · have h4 := jlv_args (fun _ => b) [jO (some 0)] 0 0 v (by obtain rfl := Option.some.inj (show some (jO (some 0)) = some v from h1); rfl)
    exact hl.2.2 _ h4
  · exact absurd (Option.some.inj (show some jU = some v from h1)).symm h2
  · exact absurd (Option.some.inj (show some jU = some v from h1)).symm h2
  · exact absurd (Option.some.inj (show some jU = some v from h1)).symm h2
theorem st_Ns {s : State} {args : Array Value} (hts : ∀ w ∈ lw_tbl, w.before args s = true) : jNs s := ⟨fun w hw hn => va_Nw.of (jnest_tab hn) (hts w hw), fun C hC => va_AO.of (hts _ hC)⟩
theorem st_rooms (L : Nat) : jcl (stG L) (g0 L) = 53 ∧ jsl (stG L) (g0 L) ≤ 20000 := by
  refine ⟨rfl, ?_⟩
  show ((sh0 L).map Prod.snd).sum - (([(9, L)] : List (Nat × Nat)).map Prod.snd).sum ≤ 20000
  unfold sh0
  simp only [List.map_cons, List.map_nil, List.sum_cons, List.sum_nil]
  omega
