theorem jcw_pos {g : jG} {m : jM} (hm : jom g m) {a kd : Nat} (hs : (jsh g a).1 = kd) (h9 : kd ≠ 9) (h0 : kd ≠ 0) : 0 < a ∧ a < g.1.length := by
  refine ⟨?_, jsh_lt (by rw [hs]; exact h0)⟩
  rcases Nat.eq_zero_or_pos a with q | q
  · subst q
    exact absurd (hs.symm.trans hm.2.2.2) h9
  · exact q
theorem jcw_obj {tc : Nat → ClassId} {ad : Nat → Nat} {g : jG} {m : jM} (hm : jom g m) {a ci : Nat} (hs : (jsh g a).1 = 10 + ci) : (jcw tc ad g m)[a - 1]? = some (ad a, .inr (ci, jfs ad g m a (tm_F ci))) := by
  obtain ⟨h1, h2⟩ := jcw_pos hm hs (by omega) (by omega)
  rw [jcw_get h1 h2]
  unfold jce
  rw [if_neg (by rw [hs]; omega), hs, Nat.add_sub_cancel_left]
theorem jcw_num {tc : Nat → ClassId} {ad : Nat → Nat} {g : jG} {m : jM} (hm : jom g m) {a kd : Nat} (hs : (jsh g a).1 = kd) (h1 : 0 < kd) (h2 : kd ≤ 2) : (jcw tc ad g m)[a - 1]? = some (ad a, .inl (tc kd, (jsh g a).2, .inl fun i => Int32.ofInt (m a i))) := by
  obtain ⟨q1, q2⟩ := jcw_pos hm hs (by omega) (by omega)
  rw [jcw_get q1 q2]
  unfold jce
  rw [if_pos (by rw [hs]; omega), if_pos (by rw [hs]; exact h2), hs]
theorem jcw_ref {tc : Nat → ClassId} {ad : Nat → Nat} {g : jG} {m : jM} (hm : jom g m) {a kd : Nat} (hs : (jsh g a).1 = kd) (h1 : 2 < kd) (h2 : kd < 9) : (jcw tc ad g m)[a - 1]? = some (ad a, .inl (tc kd, (jsh g a).2, .inr (.inr (.inr (.inr fun i => (g.2 a i).map ad))))) := by
  obtain ⟨q1, q2⟩ := jcw_pos hm hs (by omega) (by omega)
  rw [jcw_get q1 q2]
  unfold jce
  rw [if_pos (by rw [hs]; omega), if_neg (by rw [hs]; omega), hs]
theorem jfs_get {ad : Nat → Nat} {g : jG} {m : jM} {a k : Nat} {bs : List Bool} {b : Bool} (h : bs[k]? = some b) : (jfs ad g m a bs)[k]? = some (jfv ad g m a k b) := by
  unfold jfs
  have hl := (List.getElem?_eq_some_iff.mp h).1
  rw [List.getElem?_map, List.getElem?_range hl]
  show some (jfv ad g m a k (bs.getD k false)) = _
  rw [List.getD_eq_getElem?_getD, h]
  rfl
theorem jfs_len {ad : Nat → Nat} {g : jG} {m : jM} {a : Nat} {bs : List Bool} : (jfs ad g m a bs).length = bs.length := by simp [jfs]
theorem jfs_at {ad : Nat → Nat} {g : jG} {m : jM} {a : Nat} {bs : List Bool} {i : Nat} (h : i < bs.length) : (jfs ad g m a bs)[i]? = some (jfv ad g m a i (bs.getD i false)) := by
  unfold jfs
  rw [List.getElem?_map, List.getElem?_range h]
  rfl
theorem jfs_up {ad : Nat → Nat} {g : jG} {m : jM} {a k : Nat} {x : Int} {bs : List Bool} (h : bs[k]? = some false) : jfs ad g (jup m a k x) a bs = (jfs ad g m a bs).set k (.int (Int32.ofInt x)) := by
  have hl := (List.getElem?_eq_some_iff.mp h).1
  apply List.ext_getElem?
  intro i
  by_cases hi : i < bs.length
  · rw [jfs_at hi]
    by_cases hk : i = k
    · subst hk
      rw [List.getElem?_set_self (by rw [jfs_len]; exact hl), List.getD_eq_getElem?_getD, h]
      show some (Value.int (Int32.ofInt (jup m a i x a i))) = _
      unfold jup
      rw [if_pos ⟨rfl, rfl⟩]
    · rw [List.getElem?_set_ne (Ne.symm hk), jfs_at hi]
      unfold jfv jup
      rw [if_neg (fun q : a = a ∧ (i : Int) = k => hk (by omega))]
  · rw [List.getElem?_eq_none (by rw [jfs_len]; omega), List.getElem?_eq_none (by rw [List.length_set, jfs_len]; omega)]
theorem jfs_ur {ad : Nat → Nat} {g : jG} {m : jM} {a k : Nat} {o : Option Nat} {bs : List Bool} (h : bs[k]? = some true) : jfs ad (g.1, jur g.2 a k o) m a bs = (jfs ad g m a bs).set k (va_rf (o.map ad)) := by
  have hl := (List.getElem?_eq_some_iff.mp h).1
  apply List.ext_getElem?
  intro i
  by_cases hi : i < bs.length
  · rw [jfs_at hi]
    by_cases hk : i = k
    · subst hk
      rw [List.getElem?_set_self (by rw [jfs_len]; exact hl), List.getD_eq_getElem?_getD, h]
      show some (va_rf ((jur g.2 a i o a i).map ad)) = _
      unfold jur
      rw [if_pos ⟨rfl, rfl⟩]
    · rw [List.getElem?_set_ne (Ne.symm hk), jfs_at hi]
      unfold jfv jur
      dsimp only
      rw [if_neg (fun q : a = a ∧ (i : Int) = k => hk (by omega))]
  · rw [List.getElem?_eq_none (by rw [jfs_len]; omega), List.getElem?_eq_none (by rw [List.length_set, jfs_len]; omega)]
theorem jcw_putI {tc : Nat → ClassId} {ad : Nat → Nat} {g : jG} {m : jM} (hm : jom g m) {a ci k : Nat} {x : Int} (hs : (jsh g a).1 = 10 + ci) (hf : (tm_F ci)[k]? = some false) : (jcw tc ad g m).set (a - 1) (ad a, .inr (ci, (jfs ad g m a (tm_F ci)).set k (.int (Int32.ofInt x)))) = jcw tc ad g (jup m a k x) := by
  obtain ⟨q1, q2⟩ := jcw_pos hm hs (by omega) (by omega)
  rw [jcw_set (g := g) (m := m) q1 rfl (fun i hi => jce_m hi)]
  congr 2
  unfold jce
  rw [if_neg (by rw [hs]; omega), hs, Nat.add_sub_cancel_left, jfs_up hf]
theorem jcw_putR {tc : Nat → ClassId} {ad : Nat → Nat} {g : jG} {m : jM} (hm : jom g m) {a ci k : Nat} {o : Option Nat} (hs : (jsh g a).1 = 10 + ci) (hf : (tm_F ci)[k]? = some true) : (jcw tc ad g m).set (a - 1) (ad a, .inr (ci, (jfs ad g m a (tm_F ci)).set k (va_rf (o.map ad)))) = jcw tc ad (g.1, jur g.2 a k o) m := by
  obtain ⟨q1, q2⟩ := jcw_pos hm hs (by omega) (by omega)
  rw [jcw_set (g := g) (m := m) (g' := (g.1, jur g.2 a k o)) q1 rfl (fun i hi => jce_r hi)]
  congr 2
  unfold jce
  have hs2 : jsh (g.1, jur g.2 a k o) a = jsh g a := rfl
  rw [hs2, if_neg (by rw [hs]; omega), hs, Nat.add_sub_cancel_left, jfs_ur hf]
theorem jcw_putA {tc : Nat → ClassId} {ad : Nat → Nat} {g : jG} {m : jM} (hm : jom g m) {a kd : Nat} {i x : Int} (hs : (jsh g a).1 = kd) (h1 : 0 < kd) (h2 : kd ≤ 2) (hi : 0 ≤ i) : (jcw tc ad g m).set (a - 1) (ad a, .inl (tc kd, (jsh g a).2, .inl (upd (fun i => Int32.ofInt (m a i)) i.toNat (Int32.ofInt x)))) = jcw tc ad g (jup m a i x) := by
  obtain ⟨q1, q2⟩ := jcw_pos hm hs (by omega) (by omega)
  rw [jcw_set (g := g) (m := m) q1 rfl (fun i hi => jce_m hi)]
  congr 2
  unfold jce
  rw [if_pos (by rw [hs]; omega), if_pos (by rw [hs]; exact h2), hs]
  congr 3
  congr 1
  funext k
  unfold upd jup
  by_cases hk : k = i.toNat
  · rw [if_pos hk, if_pos ⟨rfl, by omega⟩]
  · rw [if_neg hk, if_neg (fun q => hk (by omega))]
theorem jcw_putB {tc : Nat → ClassId} {ad : Nat → Nat} {g : jG} {m : jM} (hm : jom g m) {a b kd : Nat} {i : Int} (hs : (jsh g a).1 = kd) (h1 : 2 < kd) (h2 : kd < 9) (hi : 0 ≤ i) : (jcw tc ad g m).set (a - 1) (ad a, .inl (tc kd, (jsh g a).2, .inr (.inr (.inr (.inr (va_up (fun i => (g.2 a i).map ad) i.toNat (some (ad b)))))))) = jcw tc ad (g.1, jur g.2 a i (some b)) m := by
  obtain ⟨q1, q2⟩ := jcw_pos hm hs (by omega) (by omega)
  rw [jcw_set (g := g) (m := m) (g' := (g.1, jur g.2 a i (some b))) q1 rfl (fun i hi => jce_r hi)]
  congr 2
  unfold jce
  have hs2 : jsh (g.1, jur g.2 a i (some b)) a = jsh g a := rfl
  rw [hs2, if_pos (by rw [hs]; omega), if_neg (by rw [hs]; omega), hs]
  suffices e : (va_up (fun i => (g.2 a i).map ad) i.toNat (some (ad b))) = fun (k : Nat) => (jur g.2 a i (some b) a k).map ad by
    rw [e]
  funext k
  unfold va_up jur
  by_cases hk : k = i.toNat
  · rw [if_pos hk, if_pos ⟨rfl, by omega⟩]
    rfl
  · rw [if_neg hk, if_neg (fun q => hk (by omega))]
theorem jsh0 {g : jG} {m : jM} {a : Nat} {i x : Int} (ha : 0 < a) : jExt g m g (jup m a i x) := ⟨⟨[], by simp⟩, fun k => by unfold jup; rw [if_neg (fun q => by omega)]⟩
theorem jshr {g : jG} {m : jM} {r : Nat → Int → Option Nat} : jExt g m (g.1, r) m := ⟨⟨[], by simp⟩, fun k => rfl⟩
theorem snd_getI {j pc ci k idx : Nat} {C : String} {T : u_T} {N : Nat} (hd : decode (tm_c j) pc = .ok (.getfield idx, 3)) (hc : vwCl[ci]? = some (C, T, N)) (hin : ∀ w ∈ u_ws C T N, w ∈ jgw) (hk : k < N) (hlink : Cond.fieldLink (tm_y j).cls idx (T k).1 (T k).2.1 (T k).2.2.1 ∈ jgw) (hf : (tm_F ci)[k]? = some false) : jSnd j pc (o_getI (pc + 3) (10 + ci) k) := by
  refine jSnd_step fun l ls st g m q h => ?_
  split at h
  · rename_i a st'
    by_cases hs : (jsh g a).1 = 10 + ci
    · rw [if_pos hs] at h
      obtain rfl := Option.some.inj h
      refine jSim_pure rfl (fun hm h1 h2 => ⟨h1, jok_cons (hm.1 a k) (jok_t h2)⟩) fun p e R s mth args below meth c D tc A ad H locs cells slots Q lsA hA hce hsl kk => ?_
      exact va_get hA.1.1 hA.1.2.1 hA.1.2.2.2.2.2.1 hin hA.1.2.2.2.2.1 hA.1.2.2.2.2.2.2.2.2.2.2.1 hA.2.2.1.1 (a - 1) (jcw_obj hA.2.2.1.2.2.2 hs) hc k hk (hA.1.2.2.2.2.2.1 _ hlink) (fun _ h9 => h9) (jfs_get hf) hd (kk lsA hA.2.2.2.1)
    · rw [if_neg hs] at h
      cases h
  · cases h
theorem snd_getR {j pc ci k idx : Nat} {C : String} {T : u_T} {N : Nat} (hd : decode (tm_c j) pc = .ok (.getfield idx, 3)) (hc : vwCl[ci]? = some (C, T, N)) (hin : ∀ w ∈ u_ws C T N, w ∈ jgw) (hk : k < N) (hlink : Cond.fieldLink (tm_y j).cls idx (T k).1 (T k).2.1 (T k).2.2.1 ∈ jgw) (hf : (tm_F ci)[k]? = some true) : jSnd j pc (o_getR (pc + 3) (10 + ci) k) := by
  refine jSnd_step fun l ls st g m q h => ?_
  split at h
  · rename_i a st'
    by_cases hs : (jsh g a).1 = 10 + ci
    · rw [if_pos hs] at h
      obtain rfl := Option.some.inj h
      refine jSim_pure rfl (fun hm h1 h2 => ⟨h1, jok_cons ?_ (jok_t h2)⟩) fun p e R s mth args below meth c D tc A ad H locs cells slots Q lsA hA hce hsl kk => ?_
      · show jok _ (Sum.inr (Sum.inl (g.2 a k)))
        cases hq : g.2 a k with
        | none => trivial
        | some b => exact hm.2.1 a k b hq
      · exact va_get hA.1.1 hA.1.2.1 hA.1.2.2.2.2.2.1 hin hA.1.2.2.2.2.1 hA.1.2.2.2.2.2.2.2.2.2.2.1 hA.2.2.1.1 (a - 1) (jcw_obj hA.2.2.1.2.2.2 hs) hc k hk (hA.1.2.2.2.2.2.1 _ hlink) (fun _ h9 => h9) (jfs_get hf) hd (kk lsA hA.2.2.2.1)
    · rw [if_neg hs] at h
      cases h
  · cases h
/-- behind a write: all stands as before, but for what was written -/
theorem jAt_wr {j : Nat} {p : Program} {R : Room} {s : State} {mth : MethodId} {args : Array Value} {meth : Method} {c : Code} {D : va_G} {tc : Nat → ClassId} {A : Nat → Prop} {ad : Nat → Nat} {ls st st' : List jV} {g g' : jG} {m m' : jM} {H H' : Heap} {locs locs' : List Loc} {lsA : Array Slot}
    (h : jAt j p R s mth args meth c D tc A ad ls st g m H locs lsA) (hl : g'.1 = g.1) (hx : jExt g m g' m') (hP : va_P D vwCl (jcw tc ad g' m') H') (hD : va_D A (jcw tc ad g' m')) (hS : va_S A s.heap H' locs') (hm : jom g' m') (hst : ∀ v ∈ st', jok g.1.length v) : jAt j p R s mth args meth c D tc A ad ls st' g' m' H' locs' lsA := by
  obtain ⟨h1, h2, h3, h4, h5, h6, h7, h8⟩ := h
  exact ⟨h1, h2, ⟨hP, hD, hS, hm⟩, h4, by rw [hl]; exact h5, by rw [hl]; exact hst, h7, h8.ext hx h3.2.2.2.2.2.2 (fun _ _ => rfl)⟩
theorem jcl_eq {g g' : jG} (h : g'.1 = g.1) : jcl g g' = 0 ∧ jsl g g' = 0 := by
  unfold jcl jsl jsz
  rw [h]
  exact ⟨Nat.sub_self _, Nat.sub_self _⟩
theorem snd_putI {j pc ci k idx : Nat} {C : String} {T : u_T} {N : Nat} (hd : decode (tm_c j) pc = .ok (.putfield idx, 3)) (hc : vwCl[ci]? = some (C, T, N)) (hin : ∀ w ∈ u_ws C T N, w ∈ jgw) (ty0 : Nat → FieldType) (hty : ∀ k, k < N → parseFieldDescriptor (T k).2.2.1 = some (ty0 k)) (hnm : ∀ a, a < N → ∀ b, b < N → a ≠ b → (T a).2.1 ≠ (T b).2.1) (hk : k < N) (hlink : Cond.fieldLink (tm_y j).cls idx (T k).1 (T k).2.1 (T k).2.2.1 ∈ jgw) (hfin : (T k).2.2.2 = false) (hty1 : ty0 k = .int) (hf : (tm_F ci)[k]? = some false) : jSnd j pc (o_putI (pc + 3) (10 + ci) k) := by
  refine jSnd_step fun l ls st g m q h => ?_
  split at h
  · rename_i x a st'
    by_cases hs : (jsh g a).1 = 10 + ci
    · rw [if_pos hs] at h
      obtain rfl := Option.some.inj h
      intro h9
      have ha : 0 < a := by
        rcases Nat.eq_zero_or_pos a with z | z
        · subst z; omega
        · exact z
      refine ⟨jsh0 ha, fun p e R s mth args below meth c D tc A ad H locs cells slots Q lsA hA hce hsl kk => ?_⟩
      simp only [jcl_rf, jsl_rf, Nat.add_zero] at hce hsl kk
      have hm := hA.2.2.1.2.2.2
      have hx : jrg x := jok_h hA.2.2.2.2.2.1
      refine va_put (ty := .int) (v := .int (Int32.ofInt x)) hA.1.1 hA.1.2.1 hA.1.2.2.2.2.2.1 hin ty0 hty hnm hA.1.2.2.2.2.1 hA.1.2.2.2.2.2.2.2.2.2.2.1 hA.2.2.1.1 hA.2.2.1.2.1 hA.2.2.1.2.2.1 (a - 1) (jcw_obj hm hs) hc k hk (hA.1.2.2.2.2.2.1 _ hlink) (fun _ h9 => h9) hfin ((hty k hk).trans (by rw [hty1])) rfl rfl (by rw [jfs_len]; exact (List.getElem?_eq_some_iff.mp hf).1) hd (fun H1 locs1 hP1 hD1 hS1 => ?_)
      rw [jcw_putI hm hs hf] at hP1 hD1
      exact kk ad H1 locs1 lsA (fun _ _ => rfl) (jAt_wr hA rfl (jsh0 ha) hP1 hD1 hS1 (jom_up hm (jcw_pos hm hs (by omega) (by omega)).2 hx) (jok_t (jok_t hA.2.2.2.2.2.1)))
    · rw [if_neg hs] at h
      cases h
  · cases h
theorem snd_putR {j pc ci k idx : Nat} {C : String} {T : u_T} {N : Nat} (hd : decode (tm_c j) pc = .ok (.putfield idx, 3)) (hc : vwCl[ci]? = some (C, T, N)) (hin : ∀ w ∈ u_ws C T N, w ∈ jgw) (ty0 : Nat → FieldType) (hty : ∀ k, k < N → parseFieldDescriptor (T k).2.2.1 = some (ty0 k)) (hnm : ∀ a, a < N → ∀ b, b < N → a ≠ b → (T a).2.1 ≠ (T b).2.1) (hk : k < N) (hlink : Cond.fieldLink (tm_y j).cls idx (T k).1 (T k).2.1 (T k).2.2.1 ∈ jgw) (hfin : (T k).2.2.2 = false) (hnf : ∀ o : Option Nat, narrow (ty0 k) (va_rf o) = va_rf o ∧ fits (ty0 k) (va_rf o) = true) (hf : (tm_F ci)[k]? = some true) : jSnd j pc (o_putR (pc + 3) (10 + ci) k) := by
  refine jSnd_step fun l ls st g m q h => ?_
  split at h
  · rename_i o a st'
    by_cases hs : (jsh g a).1 = 10 + ci
    · rw [if_pos hs] at h
      obtain rfl := Option.some.inj h
      intro h9
      refine ⟨jshr, fun p e R s mth args below meth c D tc A ad H locs cells slots Q lsA hA hce hsl kk => ?_⟩
      obtain ⟨ec, es⟩ := jcl_eq (g := g) (g' := (g.1, jur g.2 a k o)) rfl
      dsimp only at hce hsl kk
      simp only [ec, es, Nat.add_zero] at hce hsl kk
      have hm := hA.2.2.1.2.2.2
      have ho : ∀ b, o = some b → b < g.1.length := fun b hb => by
        have h8 := jok_h hA.2.2.2.2.2.1
        subst hb
        exact h8
      refine va_put (ty := ty0 k) (v := va_rf (o.map ad)) hA.1.1 hA.1.2.1 hA.1.2.2.2.2.2.1 hin ty0 hty hnm hA.1.2.2.2.2.1 hA.1.2.2.2.2.2.2.2.2.2.2.1 hA.2.2.1.1 hA.2.2.1.2.1 hA.2.2.1.2.2.1 (a - 1) (jcw_obj hm hs) hc k hk (hA.1.2.2.2.2.2.1 _ hlink) (fun _ h9 => h9) hfin (hty k hk) (hnf _).1 (hnf _).2 (by rw [jfs_len]; exact (List.getElem?_eq_some_iff.mp hf).1) hd (fun H1 locs1 hP1 hD1 hS1 => ?_)
      rw [jcw_putR hm hs hf] at hP1 hD1
      exact kk ad H1 locs1 lsA (fun _ _ => rfl) (jAt_wr hA rfl jshr hP1 hD1 hS1 (jom_ur hm (jcw_pos hm hs (by omega) (by omega)).2 ho) (jok_t (jok_t hA.2.2.2.2.2.1)))
    · rw [if_neg hs] at h
      cases h
  · cases h
theorem snd_putRF {j pc ci k idx : Nat} {C : String} {T : u_T} {N : Nat} (hd : decode (tm_c j) pc = .ok (.putfield idx, 3)) (hc : vwCl[ci]? = some (C, T, N)) (hin : ∀ w ∈ u_ws C T N, w ∈ jgw) (ty0 : Nat → FieldType) (hty : ∀ k, k < N → parseFieldDescriptor (T k).2.2.1 = some (ty0 k)) (hnm : ∀ a, a < N → ∀ b, b < N → a ≠ b → (T a).2.1 ≠ (T b).2.1) (hk : k < N) (hlink : Cond.fieldLink (tm_y j).cls idx (T k).1 (T k).2.1 (T k).2.2.1 ∈ jgw) (hfin : (T k).2.2.2 = true) (hin2 : (tm_y j).name = "<init>") (hdecl : (T k).1 = (tm_y j).cls) (hnf : ∀ o : Option Nat, narrow (ty0 k) (va_rf o) = va_rf o ∧ fits (ty0 k) (va_rf o) = true) (hf : (tm_F ci)[k]? = some true) : jSnd j pc (o_putR (pc + 3) (10 + ci) k) := by
  refine jSnd_step fun l ls st g m q h => ?_
  split at h
  · rename_i o a st'
    by_cases hs : (jsh g a).1 = 10 + ci
    · rw [if_pos hs] at h
      obtain rfl := Option.some.inj h
      intro h9
      refine ⟨jshr, fun p e R s mth args below meth c D tc A ad H locs cells slots Q lsA hA hce hsl kk => ?_⟩
      obtain ⟨ec, es⟩ := jcl_eq (g := g) (g' := (g.1, jur g.2 a k o)) rfl
      dsimp only at hce hsl kk
      simp only [ec, es, Nat.add_zero] at hce hsl kk
      have hm := hA.2.2.1.2.2.2
      have ho : ∀ b, o = some b → b < g.1.length := fun b hb => by
        have h8 := jok_h hA.2.2.2.2.2.1
        subst hb
        exact h8
      refine va_putF (ty := ty0 k) (v := va_rf (o.map ad)) hA.1.1 hA.1.2.1 hA.1.2.2.2.2.2.1 hin ty0 hty hnm hA.1.2.2.2.2.1 hA.1.2.2.2.2.2.2.2.2.2.2.1 hA.2.2.1.1 hA.2.2.1.2.1 hA.2.2.1.2.2.1 (a - 1) (jcw_obj hm hs) hc k hk (hA.1.2.2.2.2.2.1 _ hlink) (fun _ h9 => h9) hfin (hA.1.2.2.2.2.2.2.2.1 hin2) hdecl (hty k hk) (hnf _).1 (hnf _).2 (by rw [jfs_len]; exact (List.getElem?_eq_some_iff.mp hf).1) hd (fun H1 locs1 hP1 hD1 hS1 => ?_)
      rw [jcw_putR hm hs hf] at hP1 hD1
      exact kk ad H1 locs1 lsA (fun _ _ => rfl) (jAt_wr hA rfl jshr hP1 hD1 hS1 (jom_ur hm (jcw_pos hm hs (by omega) (by omega)).2 ho) (jok_t (jok_t hA.2.2.2.2.2.1)))
    · rw [if_neg hs] at h
      cases h
  · cases h
theorem snd_iald {j pc : Nat} (hd : decode (tm_c j) pc = .ok (.iaload, 1)) : jSnd j pc (o_nald (pc + 1) 1) := by
  refine jSnd_step fun l ls st g m q h => ?_
  split at h
  · rename_i i a st'
    by_cases hs : (jsh g a).1 = 1 ∧ 0 ≤ i ∧ i < (jsh g a).2
    · rw [if_pos hs] at h
      obtain rfl := Option.some.inj h
      refine jSim_pure rfl (fun hm h1 h2 => ⟨h1, jok_cons (hm.1 a i) (jok_t (jok_t h2))⟩) fun p e R s mth args below meth c D tc A ad H locs cells slots Q lsA hA hce hsl kk => ?_
      have hi : jrg i := jok_h hA.2.2.2.2.2.1
      refine va_iald hA.1.1 hA.1.2.1 hA.1.2.2.2.2.2.2.2.2.2.2.1 hA.2.2.1.1 (a - 1) 0 (jcw_num hA.2.2.1.2.2.2 hs.1 (by decide) (by decide)) rfl (jin hi hs.2.1 hs.2.2) hd ?_
      rw [jcl_of hi, Int.toNat_of_nonneg hs.2.1]
      exact kk lsA hA.2.2.2.1
    · rw [if_neg hs] at h
      cases h
  · cases h
theorem snd_zald {j pc : Nat} (hd : decode (tm_c j) pc = .ok (.baload, 1)) : jSnd j pc (o_nald (pc + 1) 2) := by
  refine jSnd_step fun l ls st g m q h => ?_
  split at h
  · rename_i i a st'
    by_cases hs : (jsh g a).1 = 2 ∧ 0 ≤ i ∧ i < (jsh g a).2
    · rw [if_pos hs] at h
      obtain rfl := Option.some.inj h
      refine jSim_pure rfl (fun hm h1 h2 => ⟨h1, jok_cons (hm.1 a i) (jok_t (jok_t h2))⟩) fun p e R s mth args below meth c D tc A ad H locs cells slots Q lsA hA hce hsl kk => ?_
      have hi : jrg i := jok_h hA.2.2.2.2.2.1
      refine va_zald hA.1.1 hA.1.2.1 hA.1.2.2.2.2.2.2.2.2.2.2.1 hA.2.2.1.1 (a - 1) 1 (jcw_num hA.2.2.1.2.2.2 hs.1 (by decide) (by decide)) rfl (jin hi hs.2.1 hs.2.2) hd ?_
      rw [jcl_of hi, Int.toNat_of_nonneg hs.2.1]
      exact kk lsA hA.2.2.2.1
    · rw [if_neg hs] at h
      cases h
  · cases h
theorem snd_aald {j pc kd t0 : Nat} {C : String} (hd : decode (tm_c j) pc = .ok (.aaload, 1)) (h1 : 2 < kd) (h2 : kd < 9) (ht : tm_T[t0]? = some (kd, .object C)) : jSnd j pc (o_aald (pc + 1) kd) := by
  refine jSnd_step fun l ls st g m q h => ?_
  split at h
  · rename_i i a st'
    by_cases hs : (jsh g a).1 = kd ∧ 0 ≤ i ∧ i < (jsh g a).2
    · rw [if_pos hs] at h
      obtain rfl := Option.some.inj h
      refine jSim_pure rfl (fun hm k1 k2 => ⟨k1, jok_cons ?_ (jok_t (jok_t k2))⟩) fun p e R s mth args below meth c D tc A ad H locs cells slots Q lsA hA hce hsl kk => ?_
      · show jok _ (Sum.inr (Sum.inl (g.2 a i)))
        cases hq : g.2 a i with
        | none => trivial
        | some b => exact hm.2.1 a i b hq
      · have hi : jrg i := jok_h hA.2.2.2.2.2.1
        refine va_aldq (C := C) hA.1.1 hA.1.2.1 hA.1.2.2.2.2.2.2.2.2.2.2.1 hA.2.2.1.1 (a - 1) t0 (jcw_ref hA.2.2.1.2.2.2 hs.1 h1 h2) (by unfold jtys; rw [List.getElem?_map, ht]; rfl) (jin hi hs.2.1 hs.2.2) hd ?_
        rw [jcl_of hi, Int.toNat_of_nonneg hs.2.1]
        exact kk lsA hA.2.2.2.1
    · rw [if_neg hs] at h
      cases h
  · cases h
theorem snd_iast {j pc : Nat} (hd : decode (tm_c j) pc = .ok (.iastore, 1)) : jSnd j pc (o_iast (pc + 1)) := by
  refine jSnd_step fun l ls st g m q h => ?_
  split at h
  · rename_i x i a st'
    by_cases hs : (jsh g a).1 = 1 ∧ 0 ≤ i ∧ i < (jsh g a).2
    · rw [if_pos hs] at h
      obtain rfl := Option.some.inj h
      intro h9
      have ha : 0 < a := by
        rcases Nat.eq_zero_or_pos a with z | z
        · subst z; omega
        · exact z
      refine ⟨jsh0 ha, fun p e R s mth args below meth c D tc A ad H locs cells slots Q lsA hA hce hsl kk => ?_⟩
      simp only [jcl_rf, jsl_rf, Nat.add_zero] at hce hsl kk
      have hm := hA.2.2.1.2.2.2
      have hx : jrg x := jok_h hA.2.2.2.2.2.1
      have hi : jrg i := jok_h (jok_t hA.2.2.2.2.2.1)
      refine va_iast (x := Int32.ofInt x) hA.1.1 hA.1.2.1 hA.1.2.2.2.2.2.2.2.2.2.2.1 hA.2.2.1.1 hA.2.2.1.2.1 hA.2.2.1.2.2.1 (a - 1) 0 (jcw_num hm hs.1 (by decide) (by decide)) rfl (jin hi hs.2.1 hs.2.2) hd (fun H1 locs1 hP1 hD1 hS1 => ?_)
      rw [jcl_of hi, jcw_putA hm hs.1 (by decide) (by decide) hs.2.1] at hP1 hD1
      exact kk ad H1 locs1 lsA (fun _ _ => rfl) (jAt_wr hA rfl (jsh0 ha) hP1 hD1 hS1 (jom_up hm (jcw_pos hm hs.1 (by omega) (by omega)).2 hx) (jok_t (jok_t (jok_t hA.2.2.2.2.2.1))))
    · rw [if_neg hs] at h
      cases h
  · cases h
theorem snd_zast {j pc : Nat} (hd : decode (tm_c j) pc = .ok (.bastore, 1)) : jSnd j pc (o_zast (pc + 1)) := by
  refine jSnd_step fun l ls st g m q h => ?_
  split at h
  · rename_i x i a st'
    by_cases hs : ((jsh g a).1 = 2 ∧ 0 ≤ i ∧ i < (jsh g a).2) ∧ (x = 0 ∨ x = 1)
    · rw [if_pos hs] at h
      obtain rfl := Option.some.inj h
      obtain ⟨hs, hx01⟩ := hs
      have hz : vp_nar .boolean (Int32.ofInt x) = Int32.ofInt x := by rcases hx01 with rfl | rfl <;> decide
      intro h9
      have ha : 0 < a := by
        rcases Nat.eq_zero_or_pos a with z | z
        · subst z; omega
        · exact z
      refine ⟨jsh0 ha, fun p e R s mth args below meth c D tc A ad H locs cells slots Q lsA hA hce hsl kk => ?_⟩
      simp only [jcl_rf, jsl_rf, Nat.add_zero] at hce hsl kk
      have hm := hA.2.2.1.2.2.2
      have hx : jrg x := jok_h hA.2.2.2.2.2.1
      have hi : jrg i := jok_h (jok_t hA.2.2.2.2.2.1)
      refine va_zast (x := Int32.ofInt x) hA.1.1 hA.1.2.1 hA.1.2.2.2.2.2.2.2.2.2.2.1 hA.2.2.1.1 hA.2.2.1.2.1 hA.2.2.1.2.2.1 (a - 1) 1 (jcw_num hm hs.1 (by decide) (by decide)) rfl (jin hi hs.2.1 hs.2.2) hd (fun H1 locs1 hP1 hD1 hS1 => ?_)
      rw [hz] at hP1 hD1
      rw [jcl_of hi, jcw_putA hm hs.1 (by decide) (by decide) hs.2.1] at hP1 hD1
      exact kk ad H1 locs1 lsA (fun _ _ => rfl) (jAt_wr hA rfl (jsh0 ha) hP1 hD1 hS1 (jom_up hm (jcw_pos hm hs.1 (by omega) (by omega)).2 hx) (jok_t (jok_t (jok_t hA.2.2.2.2.2.1))))
    · rw [if_neg hs] at h
      cases h
  · cases h
theorem snd_aast {j pc kd t0 ci : Nat} {C : String} {T : u_T} {N : Nat} (hd : decode (tm_c j) pc = .ok (.aastore, 1)) (h1 : 2 < kd) (h2 : kd < 9) (ht : tm_T[t0]? = some (kd, .object C)) (hc : vwCl[ci]? = some (C, T, N)) : jSnd j pc (o_aast (pc + 1) kd (10 + ci)) := by
  refine jSnd_step fun l ls st g m q h => ?_
  split at h
  · rename_i b i a st'
    by_cases hs : ((jsh g a).1 = kd ∧ 0 ≤ i ∧ i < (jsh g a).2) ∧ (jsh g b).1 = 10 + ci
    · rw [if_pos hs] at h
      obtain rfl := Option.some.inj h
      obtain ⟨hs, hsb⟩ := hs
      intro h9
      refine ⟨jshr, fun p e R s mth args below meth c D tc A ad H locs cells slots Q lsA hA hce hsl kk => ?_⟩
      obtain ⟨ec, es⟩ := jcl_eq (g := g) (g' := (g.1, jur g.2 a i (some b))) rfl
      dsimp only at hce hsl kk
      simp only [ec, es, Nat.add_zero] at hce hsl kk
      have hm := hA.2.2.1.2.2.2
      have hi : jrg i := jok_h (jok_t hA.2.2.2.2.2.1)
      have hb : b < g.1.length := jok_h hA.2.2.2.2.2.1
      refine va_astq hA.1.1 hA.1.2.1 hA.1.2.2.2.2.2.2.2.2.2.2.1 hA.2.2.1.1 hA.2.2.1.2.1 hA.2.2.1.2.2.1 (a - 1) t0 (b - 1) ci (jcw_ref hm hs.1 h1 h2) (by unfold jtys; rw [List.getElem?_map, ht]; rfl) (jcw_obj hm hsb) hc (jin hi hs.2.1 hs.2.2) hd (fun H1 locs1 hP1 hD1 hS1 => ?_)
      rw [jcl_of hi, jcw_putB hm hs.1 h1 h2 hs.2.1] at hP1 hD1
      exact kk ad H1 locs1 lsA (fun _ _ => rfl) (jAt_wr hA rfl jshr hP1 hD1 hS1 (jom_ur hm (jcw_pos hm hs.1 (by omega) (by omega)).2 (fun x hx => by cases hx; exact hb)) (jok_t (jok_t (jok_t hA.2.2.2.2.2.1))))
    · rw [if_neg hs] at h
      cases h
  · cases h
theorem snd_alen {j pc kd t0 : Nat} {ty : FieldType} (hd : decode (tm_c j) pc = .ok (.arraylength, 1)) (h0 : 0 < kd) (h1 : kd < 9) (ht : tm_T[t0]? = some (kd, ty)) : jSnd j pc (o_alen (pc + 1) kd) := by
  refine jSnd_step fun l ls st g m q h => ?_
  split at h
  · rename_i a st'
    by_cases hs : (jsh g a).1 = kd ∧ (jsh g a).2 ≤ 100000
    · rw [if_pos hs] at h
      obtain rfl := Option.some.inj h
      refine jSim_pure rfl (fun hm k1 k2 => ⟨k1, jok_cons (show jrg _ from ⟨by omega, by omega⟩) (jok_t k2)⟩) fun p e R s mth args below meth c D tc A ad H locs cells slots Q lsA hA hce hsl kk => ?_
      have hm := hA.2.2.1.2.2.2
      have ht2 : (jtys tc)[t0]? = some (tc kd, ty) := by unfold jtys; rw [List.getElem?_map, ht]; rfl
      by_cases hk : kd ≤ 2
      · exact va_alen (v := Int32.ofInt (jsh g a).2) hA.1.1 hA.1.2.1 hA.1.2.2.2.2.2.2.2.2.2.2.1 hA.2.2.1.1 (a - 1) t0 (jcw_num hm hs.1 h0 hk) ht2 Int32.ofInt_eq_ofNat.symm hd (kk lsA hA.2.2.2.1)
      · exact va_alen (v := Int32.ofInt (jsh g a).2) hA.1.1 hA.1.2.1 hA.1.2.2.2.2.2.2.2.2.2.2.1 hA.2.2.1.1 (a - 1) t0 (jcw_ref hm hs.1 (by omega) h1) ht2 Int32.ofInt_eq_ofNat.symm hd (kk lsA hA.2.2.2.1)
    · rw [if_neg hs] at h
      cases h
  · cases h
theorem snd_sald {pc : Nat} (hd : decode (tm_c tm_law) pc = .ok (.iaload, 1)) : jSnd tm_law pc (o_sald (pc + 1)) := by
  refine jSnd_step fun l ls st g m q h => ?_
  split at h
  · rename_i i st'
    by_cases hs : 0 ≤ i ∧ i < (jsh g 0).2
    · rw [if_pos hs] at h
      obtain rfl := Option.some.inj h
      refine jSim_pure rfl (fun hm h1 h2 => ⟨h1, jok_cons (hm.1 0 i) (jok_t (jok_t h2))⟩) fun p e R s mth args below meth c D tc A ad H locs cells slots Q lsA hA hce hsl kk => ?_
      have hi : jrg i := jok_h hA.2.2.2.2.2.1
      obtain ⟨b, L, xs, q1, q2, q3, q4, q5, q6, q7⟩ := hA.2.2.2.2.2.2.2 rfl
      rw [q5] at hs
      have hs2 : i < (L : Int) := hs.2
      have hv : Int32.ofInt (m 0 i) = xs i.toNat := by
        have h8 := q6 i.toNat (by omega)
        rw [Int.toNat_of_nonneg hs.1] at h8
        rw [h8, Int32.ofInt_toInt]
      have k2 := kk lsA hA.2.2.2.1
      have e2 : ((jI (m 0 i) :: st').map (jcv ad)) = .int (xs i.toNat) :: st'.map (jcv ad) := by rw [← hv]; rfl
      rw [e2] at k2
      have e3 : ((Sum.inl i :: Sum.inr (Sum.inl (some 0)) :: st' : List jV).map (jcv ad)) = .int (Int32.ofInt i) :: .ref b :: st'.map (jcv ad) := by rw [← q1]; rfl
      rw [e3]
      refine va_sld hA.1.1 hA.1.2.1 q2 q3 q4 hA.2.2.1.2.2.1 (jin hi hs.1 hs2) hd ?_
      rw [jcl_of hi]
      exact k2
    · rw [if_neg hs] at h
      cases h
  · cases h
theorem snd_slen {pc : Nat} (hd : decode (tm_c tm_law) pc = .ok (.arraylength, 1)) : jSnd tm_law pc (o_slen (pc + 1)) := by
  refine jSnd_step fun l ls st g m q h => ?_
  split at h
  · rename_i st'
    by_cases hs : (jsh g 0).2 ≤ 100000
    · rw [if_pos hs] at h
      obtain rfl := Option.some.inj h
      refine jSim_pure rfl (fun hm h1 h2 => ⟨h1, jok_cons (show jrg _ from ⟨by omega, by omega⟩) (jok_t h2)⟩) fun p e R s mth args below meth c D tc A ad H locs cells slots Q lsA hA hce hsl kk => ?_
      obtain ⟨b, L, xs, q1, q2, q3, q4, q5, q6, q7⟩ := hA.2.2.2.2.2.2.2 rfl
      have k2 := kk lsA hA.2.2.2.1
      have e2 : ((jI (jsh g 0).2 :: st').map (jcv ad)) = .int (Int32.ofNat L) :: st'.map (jcv ad) := by
        rw [q5]
        show Value.int (Int32.ofInt (L : Int)) :: _ = _
        rw [Int32.ofInt_eq_ofNat]
      rw [e2] at k2
      have e3 : ((Sum.inr (Sum.inl (some 0)) :: st' : List jV).map (jcv ad)) = .ref b :: st'.map (jcv ad) := by rw [← q1]; rfl
      rw [e3]
      exact va_slen hA.1.1 hA.1.2.1 q2 q3 q4 hA.2.2.1.2.2.1 hd k2
    · rw [if_neg hs] at h
      cases h
  · cases h
