theorem jcat_sum (ad : Nat → Nat) : ∀ st : List jV, ((st.map (jcv ad)).map fun v => v.category).sum = st.length
  | [] => rfl
  | v :: st => by
    rw [List.map_cons, List.map_cons, List.sum_cons, jcv_cat, jcat_sum ad st, List.length_cons]
    omega
theorem snd_mm {j pc idx : Nat} (hd : decode (tm_c j) pc = .ok (.invokestatic idx, 3)) (w1 : Cond.methodLink (tm_y j).cls idx Lib.Math.max.name ∈ jgw) (w2 : Cond.static Lib.Math.max.name ∈ jgw) (w3 : Cond.initialized "java/lang/Math" ∈ jgw) (w4 : Cond.code Lib.Math.max.name Lib.Math.max.code 2 (some .int) ∈ jgw) (hf : 1 ≤ tm_f j) (ho : 21 ≤ tm_o j) : jSnd j pc (o_mm (pc + 3) f_max) := by
  refine jSnd_step fun l ls st g m q h => ?_
  split at h
  · rename_i y x st'
    by_cases hs : st'.length ≤ 8
    · rw [if_pos hs] at h
      obtain rfl := Option.some.inj h
      refine jSim_pure rfl (fun hm h1 h2 => ⟨h1, jok_cons ?_ (jok_t (jok_t h2))⟩) fun p e R s mth args below meth c D tc A ad H locs cells slots Q lsA hA hce hsl kk => ?_
      · show jrg (f_max x y)
        unfold f_max
        split
        · exact jok_h h2
        · exact jok_h (jok_t h2)
      · have hy : jrg y := jok_h hA.2.2.2.2.2.1
        have hx : jrg x := jok_h (jok_t hA.2.2.2.2.2.1)
        have hts := hA.1.2.2.2.2.2.1
        refine va_mmax (x := Int32.ofInt x) (y := Int32.ofInt y) hA.1.1 hA.1.2.1 (hA.1.2.2.2.1.trans (hA.2.2.2.2.2.2.1.symm.trans hA.2.2.2.1.1.symm)) hA.1.2.2.2.2.1 (hts _ w1) (hts _ w2) (hts _ w3) (hts _ w4) (Nat.le_trans hf hA.1.2.2.2.2.2.2.2.2.1) (by rw [jcat_sum]; have := hA.1.2.2.2.2.2.2.2.2.2.1; omega) hce hsl hd ?_
        have e1 : (if Int32.ofInt x < Int32.ofInt y then Int32.ofInt y else Int32.ofInt x) = Int32.ofInt (f_max x y) := by
          unfold f_max
          by_cases hc : x < y
          · rw [if_pos hc, if_pos ((jlt hx hy).mpr hc)]
          · rw [if_neg hc, if_neg (fun q => hc ((jlt hx hy).mp q))]
        rw [e1]
        exact kk lsA hA.2.2.2.1
    · rw [if_neg hs] at h
      cases h
  · cases h
theorem snd_table {j pc d len : Nat} {dflt lo hi : Int} {offs : Array Int} {t : List (Int × Nat)} (hd : decode (tm_c j) pc = .ok (.tableswitch dflt lo hi offs, len)) (htd : (pc : Int) + dflt = (d : Int)) (hall : ∀ x : Int, ¬ x < lo → ¬ hi < x → ∃ off, offs[(x - lo).toNat]? = some off ∧ (pc : Int) + off = ((jsw x d t : Nat) : Int)) (hout : ∀ x : Int, (x < lo ∨ hi < x) → jsw x d t = d) : jSnd j pc (o_switch d t) := by
  refine jSnd_step fun l ls st g m q h => ?_
  split at h
  · rename_i x st'
    obtain rfl := Option.some.inj h
    refine jSim_pure rfl (fun hm h1 h2 => ⟨h1, jok_t h2⟩) fun p e R s mth args below meth c D tc A ad H locs cells slots Q lsA hA hce hsl kk => ?_
    have hx : jrg x := jok_h hA.2.2.2.2.2.1
    by_cases hc : x < lo ∨ hi < x
    · refine lv_tableOut (x := Int32.ofInt x) (tgt := d) hA.1.1 hA.1.2.1 hd (by rw [jti hx]; exact hc) htd ?_
      have k2 := kk lsA hA.2.2.2.1
      rw [hout x hc] at k2
      exact k2
    · obtain ⟨off, e1, e2⟩ := hall x (fun q => hc (Or.inl q)) (fun q => hc (Or.inr q))
      exact lv_tableIn (x := Int32.ofInt x) hA.1.1 hA.1.2.1 hd (by rw [jti hx]; exact fun q => hc (Or.inl q)) (by rw [jti hx]; exact fun q => hc (Or.inr q)) (by rw [jti hx]; exact e1) e2 (kk lsA hA.2.2.2.1)
  · cases h
theorem snd_lookup {j pc d len : Nat} {dflt : Int} {ps : Array (Int × Int)} {t : List (Int × Nat)} (hd : decode (tm_c j) pc = .ok (.lookupswitch dflt ps, len)) (hp : (ps.toList.zip (ps.toList.drop 1)).all (fun (a, next) => a.1 < next.1) = true) (ho : ∀ x : Int, (pc : Int) + Op.lookupswitch.offset ps.toList dflt x = ((jsw x d t : Nat) : Int)) : jSnd j pc (o_switch d t) := by
  refine jSnd_step fun l ls st g m q h => ?_
  split at h
  · rename_i x st'
    obtain rfl := Option.some.inj h
    refine jSim_pure rfl (fun hm h1 h2 => ⟨h1, jok_t h2⟩) fun p e R s mth args below meth c D tc A ad H locs cells slots Q lsA hA hce hsl kk => ?_
    have hx : jrg x := jok_h hA.2.2.2.2.2.1
    exact lv_lookup (x := Int32.ofInt x) hA.1.1 hA.1.2.1 hd hp (by rw [jti hx]) (ho x) (kk lsA hA.2.2.2.1)
  · cases h
theorem snd_objinit {j pc idx : Nat} (hd : decode (tm_c j) pc = .ok (.invokespecial idx, 3)) (w1 : Cond.methodLink (tm_y j).cls idx objectInit ∈ jgw) (w2 : Cond.instanceMethod objectInit ∈ jgw) (w3 : Cond.code objectInit ⟨#[0xb1]⟩ 1 none ∈ jgw) (hf : 1 ≤ tm_f j) (ho : 21 ≤ tm_o j) : jSnd j pc (o_objinit (pc + 3)) := by
  refine jSnd_step fun l ls st g m q h => ?_
  split at h
  · rename_i a st'
    by_cases hs : st'.length ≤ 8
    · rw [if_pos hs] at h
      obtain rfl := Option.some.inj h
      refine jSim_pure rfl (fun hm h1 h2 => ⟨h1, jok_t h2⟩) fun p e R s mth args below meth c D tc A ad H locs cells slots Q lsA hA hce hsl kk => ?_
      have hts := hA.1.2.2.2.2.2.1
      exact W.objInit hA.1.1 hA.1.2.1 hA.1.2.2.2.2.1 (hts _ w1) (hts _ w2) (hts _ w3) rfl (hA.2.2.2.1.1.trans (hA.2.2.2.2.2.2.1.trans hA.1.2.2.2.1.symm)) rfl hd (Nat.le_trans hf hA.1.2.2.2.2.2.2.2.2.1) (by show 2 * 0 + _ + 12 ≤ _; rw [jcat_sum]; have := hA.1.2.2.2.2.2.2.2.2.2.1; omega) (kk lsA hA.2.2.2.1)
    · rw [if_neg hs] at h
      cases h
  · cases h
-- new cells
def jadd (ad : Nat → Nat) (k q : Nat) : Nat → Nat := fun a => if a = k then q else ad a
theorem jadd_ag {ad : Nat → Nat} {k q : Nat} : ∀ a, a < k → jadd ad k q a = ad a := fun a ha => by unfold jadd; rw [if_neg (by omega)]
theorem jpush_ext {g : jG} {m : jM} {q : Nat × Nat} : jExt g m (g.1 ++ [q], g.2) m := ⟨⟨[q], rfl⟩, fun _ => rfl⟩
theorem jpush_cl {g : jG} {q : Nat × Nat} : jcl g (g.1 ++ [q], g.2) = 1 ∧ jsl g (g.1 ++ [q], g.2) = q.2 := by
  unfold jcl jsl jsz
  constructor
  · simp
  · simp
theorem jAt_push {j : Nat} {p : Program} {R : Room} {s : State} {mth : MethodId} {args : Array Value} {meth : Method} {c : Code} {D : va_G} {tc : Nat → ClassId} {A : Nat → Prop} {ad : Nat → Nat} {ls st st' : List jV} {g : jG} {m : jM} {H H' : Heap} {locs locs' : List Loc} {lsA : Array Slot} {q : Nat × Nat} {x : Nat} {E : va_E}
    (h : jAt j p R s mth args meth c D tc A ad ls st g m H locs lsA) (hE : jce tc (jadd ad g.1.length x) (g.1 ++ [q], g.2) m g.1.length = E) (hP : va_P D vwCl (jcw tc ad g m ++ [(x, E)]) H') (hD : va_D A (jcw tc ad g m ++ [(x, E)])) (hS : va_S A s.heap H' locs') (hst : ∀ v ∈ st', jok g.1.length v) : jAt j p R s mth args meth c D tc A (jadd ad g.1.length x) ls (jO (some g.1.length) :: st') (g.1 ++ [q], g.2) m H' locs' lsA := by
  obtain ⟨h1, h2, h3, h4, h5, h6, h7, h8⟩ := h
  have hm := h3.2.2.2
  have h0 : 0 < g.1.length := jsh_lt (a := 0) (by rw [hm.2.2.2]; decide)
  have e : jcw tc (jadd ad g.1.length x) (g.1 ++ [q], g.2) m = jcw tc ad g m ++ [(x, E)] := by
    rw [jcw_push jadd_ag hm.2.1 h0, hE]
    unfold jadd
    rw [if_pos rfl]
  have hl : (g.1 ++ [q]).length = g.1.length + 1 := by simp
  refine ⟨h1, h2, ⟨by rw [e]; exact hP, by rw [e]; exact hD, hS, jom_push hm q⟩, jL_ag jadd_ag h5 h4, fun v hv => ?_, jok_cons ?_ (fun v hv => ?_), h7, h8.ext jpush_ext hm.2.2.2 jadd_ag⟩
  · exact jok_mono (h5 v hv) (by show _ ≤ (g.1 ++ [q]).length; omega)
  · show g.1.length < (g.1 ++ [q]).length
    omega
  · exact jok_mono (hst v hv) (by show _ ≤ (g.1 ++ [q]).length; omega)
theorem jmap_push {g : jG} {ad : Nat → Nat} {x : Nat} {st : List jV} (h : ∀ v ∈ st, jok g.1.length v) : (jO (some g.1.length) :: st).map (jcv (jadd ad g.1.length x)) = .ref x :: st.map (jcv ad) := by
  show va_rf (some (jadd ad g.1.length x g.1.length)) :: st.map _ = _
  rw [jmap_ag jadd_ag h]
  unfold jadd
  rw [if_pos rfl]
  rfl
theorem snd_newI {j pc : Nat} (hd : decode (tm_c j) pc = .ok (.newarray .int, 2)) (w1 : Cond.arrayClass .int ∈ jgw) : jSnd j pc (o_newa (pc + 2) 1) := by
  refine jSnd_step fun l ls st g m q h => ?_
  split at h
  · rename_i n st'
    by_cases hs : 0 ≤ n ∧ n ≤ 100000
    · rw [if_pos hs] at h
      obtain rfl := Option.some.inj h
      intro h9
      refine ⟨jpush_ext, fun p e R s mth args below meth c D tc A ad H locs cells slots Q lsA hA hce hsl kk => ?_⟩
      dsimp only at hce hsl kk
      rw [jpush_cl.1] at hce
      rw [jpush_cl.2] at hsl
      simp only [jpush_cl.1, jpush_cl.2] at kk
      have hm := hA.2.2.1.2.2.2
      have hn : jrg n := jok_h hA.2.2.2.2.2.1
      have hts := hA.1.2.2.2.2.2.1
      have hK := hA.1.2.2.2.2.2.2.2.2.2.2.1
      refine va_newa (atype := .int) (ty := .int) (N' := n.toNat) (a0 := (n.toNat, .inl fun _ => 0)) hA.1.1 hA.1.2.1 (hts _ w1) rfl hK hA.2.2.1.1 hA.2.2.1.2.1 hA.2.2.1.2.2.1 hA.2.1 (fun _ => rfl) (fun q => by rw [jz0] at q; have := (jlt hn jrg0).mp q; omega) (jcl_of hn) (by show n.toNat * 4 ≤ 536870912; omega) hce hsl hd (fun x cA H1 hK1 hP1 hD1 hS1 => ?_)
      have hcA : cA = tc 1 := by
        have e1 : s.vm.findClass ("[" ++ (.int : FieldType).toString) = some cA := (hK1.2 (jtys tc).length (cA, .int) (by simp)).2
        have e2 : s.vm.findClass ("[" ++ (.int : FieldType).toString) = some (tc 1) := (hK.2 0 (tc 1, .int) rfl).2
        exact Option.some.inj (e1.symm.trans e2)
      subst hcA
      have k2 := kk (jadd ad g.1.length x) H1 locs lsA jadd_ag (jAt_push hA (E := .inl (tc 1, n.toNat, .inl fun _ => 0)) (by
        unfold jce
        rw [jsh_last]
        show Sum.inl _ = _
        congr 3
        congr 1
        funext i
        rw [(hm.2.2.1 g.1.length (Nat.le_refl _) i).1]
        rfl) hP1 hD1 hS1 (jok_t hA.2.2.2.2.2.1))
      rw [jmap_push (jok_t hA.2.2.2.2.2.1)] at k2
      exact k2
    · rw [if_neg hs] at h
      cases h
  · cases h
theorem snd_newZ {j pc : Nat} (hd : decode (tm_c j) pc = .ok (.newarray .boolean, 2)) (w1 : Cond.arrayClass .boolean ∈ jgw) : jSnd j pc (o_newa (pc + 2) 2) := by
  refine jSnd_step fun l ls st g m q h => ?_
  split at h
  · rename_i n st'
    by_cases hs : 0 ≤ n ∧ n ≤ 100000
    · rw [if_pos hs] at h
      obtain rfl := Option.some.inj h
      intro h9
      refine ⟨jpush_ext, fun p e R s mth args below meth c D tc A ad H locs cells slots Q lsA hA hce hsl kk => ?_⟩
      dsimp only at hce hsl kk
      rw [jpush_cl.1] at hce
      rw [jpush_cl.2] at hsl
      simp only [jpush_cl.1, jpush_cl.2] at kk
      have hm := hA.2.2.1.2.2.2
      have hn : jrg n := jok_h hA.2.2.2.2.2.1
      have hts := hA.1.2.2.2.2.2.1
      have hK := hA.1.2.2.2.2.2.2.2.2.2.2.1
      refine va_newa (atype := .boolean) (ty := .boolean) (N' := n.toNat) (a0 := (n.toNat, .inl fun _ => 0)) hA.1.1 hA.1.2.1 (hts _ w1) rfl hK hA.2.2.1.1 hA.2.2.1.2.1 hA.2.2.1.2.2.1 hA.2.1 (fun _ => rfl) (fun q => by rw [jz0] at q; have := (jlt hn jrg0).mp q; omega) (jcl_of hn) (by show n.toNat * 1 ≤ 536870912; omega) hce hsl hd (fun x cA H1 hK1 hP1 hD1 hS1 => ?_)
      have hcA : cA = tc 2 := by
        have e1 : s.vm.findClass ("[" ++ (.boolean : FieldType).toString) = some cA := (hK1.2 (jtys tc).length (cA, .boolean) (by simp)).2
        have e2 : s.vm.findClass ("[" ++ (.boolean : FieldType).toString) = some (tc 2) := (hK.2 1 (tc 2, .boolean) rfl).2
        exact Option.some.inj (e1.symm.trans e2)
      subst hcA
      have k2 := kk (jadd ad g.1.length x) H1 locs lsA jadd_ag (jAt_push hA (E := .inl (tc 2, n.toNat, .inl fun _ => 0)) (by
        unfold jce
        rw [jsh_last]
        show Sum.inl _ = _
        congr 3
        congr 1
        funext i
        rw [(hm.2.2.1 g.1.length (Nat.le_refl _) i).1]
        rfl) hP1 hD1 hS1 (jok_t hA.2.2.2.2.2.1))
      rw [jmap_push (jok_t hA.2.2.2.2.2.1)] at k2
      exact k2
    · rw [if_neg hs] at h
      cases h
  · cases h
theorem snd_newQ {j pc idx kd t0 : Nat} {C : String} (hd : decode (tm_c j) pc = .ok (.anewarray idx, 3)) (w1 : Cond.classLink (tm_y j).cls idx C ∈ jgw) (w2 : Cond.arrayOver (.object C) ∈ lw_tbl) (h1 : 2 < kd) (h2 : kd < 9) (ht : tm_T[t0]? = some (kd, .object C)) : jSnd j pc (o_newa (pc + 3) kd) := by
  refine jSnd_step fun l ls st g m q h => ?_
  split at h
  · rename_i n st'
    by_cases hs : 0 ≤ n ∧ n ≤ 100000
    · rw [if_pos hs] at h
      obtain rfl := Option.some.inj h
      intro h9
      refine ⟨jpush_ext, fun p e R s mth args below meth c D tc A ad H locs cells slots Q lsA hA hce hsl kk => ?_⟩
      dsimp only at hce hsl kk
      rw [jpush_cl.1] at hce
      rw [jpush_cl.2] at hsl
      simp only [jpush_cl.1, jpush_cl.2] at kk
      have hm := hA.2.2.1.2.2.2
      have hn : jrg n := jok_h hA.2.2.2.2.2.1
      have hts := hA.1.2.2.2.2.2.1
      have hK := hA.1.2.2.2.2.2.2.2.2.2.2.1
      have hN := hA.1.2.2.2.2.2.2.2.2.2.2.2
      refine va_newq (C := C) (N' := n.toNat) hA.1.1 hA.1.2.1 hA.1.2.2.2.2.1 (hts _ w1) (hN.2 C w2) hK hA.2.2.1.1 hA.2.2.1.2.1 hA.2.2.1.2.2.1 hA.2.1 (fun q => by rw [jz0] at q; have := (jlt hn jrg0).mp q; omega) (jcl_of hn) (by omega) hce hsl hd (fun x cA H1 hK1 hP1 hD1 hS1 => ?_)
      have hcA : cA = tc kd := by
        obtain ⟨kA, comp, -, -, -, e1⟩ := (hK1.2 (jtys tc).length (cA, .object C) (by simp)).2
        obtain ⟨kA2, comp2, -, -, -, e2⟩ := (hK.2 t0 (tc kd, .object C) (by unfold jtys; rw [List.getElem?_map, ht]; rfl)).2
        exact Option.some.inj (e1.symm.trans e2)
      subst hcA
      have k2 := kk (jadd ad g.1.length x) H1 locs lsA jadd_ag (jAt_push hA (E := .inl (tc kd, n.toNat, .inr (.inr (.inr (.inr fun _ => none))))) (by
        unfold jce
        rw [jsh_last]
        show (if kd < 10 then (if kd ≤ 2 then _ else _) else _) = _
        rw [if_pos (by omega), if_neg (by omega)]
        suffices e : (fun (i : Nat) => (g.2 g.1.length i).map (jadd ad g.1.length x)) = fun _ => none by
          show Sum.inl (tc kd, n.toNat, Sum.inr (Sum.inr (Sum.inr (Sum.inr (fun (i : Nat) => (g.2 g.1.length i).map (jadd ad g.1.length x)))))) = _
          rw [e]
        funext i
        rw [(hm.2.2.1 g.1.length (Nat.le_refl _) i).2]
        rfl) hP1 hD1 hS1 (jok_t hA.2.2.2.2.2.1))
      rw [jmap_push (jok_t hA.2.2.2.2.2.1)] at k2
      exact k2
    · rw [if_neg hs] at h
      cases h
  · cases h
theorem snd_new {j pc idx ci N : Nat} {C : String} {T : u_T} (hd : decode (tm_c j) pc = .ok (.new idx, 3)) (hc : vwCl[ci]? = some (C, T, N)) (hin : ∀ w ∈ u_ws C T N, w ∈ jgw) (ty0 : Nat → FieldType) (hty : ∀ k, k < N → parseFieldDescriptor (T k).2.2.1 = some (ty0 k)) (w1 : Cond.classLink (tm_y j).cls idx C ∈ jgw) (w2 : Cond.instantiable C N ∈ jgw) (w3 : Cond.initialized C ∈ jgw)
    (hF : (tm_F ci).length = N) (hdf : ∀ k, k < N → defaultValue (ty0 k) = if (tm_F ci).getD k false = true then .null else .int 0) : jSnd j pc (o_new (pc + 3) (10 + ci) N) := by
  refine jSnd_step fun l ls st g m q h => ?_
  obtain rfl := Option.some.inj h
  intro h9
  refine ⟨jpush_ext, fun p e R s mth args below meth c D tc A ad H locs cells slots Q lsA hA hce hsl kk => ?_⟩
  dsimp only at hce hsl kk
  rw [jpush_cl.1] at hce
  rw [jpush_cl.2] at hsl
  simp only [jpush_cl.1, jpush_cl.2] at kk
  have hm := hA.2.2.1.2.2.2
  have hts := hA.1.2.2.2.2.2.1
  have hK := hA.1.2.2.2.2.2.2.2.2.2.2.1
  refine va_new (fs := jfs ad g m g.1.length (tm_F ci)) hA.1.1 hA.1.2.1 hts hin ty0 hty hA.1.2.2.2.2.1 (hts _ w1) (hts _ w2) (hts _ w3) hK hA.2.2.1.1 hA.2.2.1.2.1 hA.2.2.1.2.2.1 hA.2.1 hc (fun k hk => ?_) hce hsl hd (fun x H1 hP1 hD1 hS1 => ?_)
  · rw [hdf k hk]
    unfold vp_V
    rw [List.getD_eq_getElem?_getD (l := jfs ad g m g.1.length (tm_F ci)), jfs_at (by omega)]
    show _ = jfv ad g m g.1.length k ((tm_F ci).getD k false)
    unfold jfv
    rw [(hm.2.2.1 g.1.length (Nat.le_refl _) k).1, (hm.2.2.1 g.1.length (Nat.le_refl _) k).2]
    split <;> rfl
  · have k2 := kk (jadd ad g.1.length x) H1 locs lsA jadd_ag (jAt_push hA (E := .inr (ci, jfs ad g m g.1.length (tm_F ci))) (by
      unfold jce
      rw [jsh_last]
      show (if 10 + ci < 10 then _ else Sum.inr (10 + ci - 10, _)) = _
      rw [if_neg (by omega), Nat.add_sub_cancel_left]
      congr 2
      unfold jfs jfv
      apply List.map_congr_left
      intro f _
      rw [(hm.2.2.1 g.1.length (Nat.le_refl _) f).2]
      rfl) hP1 hD1 hS1 hA.2.2.2.2.2.1)
    rw [jmap_push hA.2.2.2.2.2.1] at k2
    exact k2
-- ends
theorem snd_iret {j pc : Nat} (hd : decode (tm_c j) pc = .ok (.ireturn, 1)) (hr : tm_r j = some .int) : jSnd j pc o_iret := by
  intro l k hk ls st g m res e
  unfold jstep o_iret at e
  dsimp only at e
  split at e
  · obtain rfl := Option.some.inj e
    intro h9
    refine ⟨jExt.rf, fun p e R s mth args below meth c D tc A ad H locs cells slots Q lsA hA hce hsl fin => ?_⟩
    have k2 := fin ad H locs lsA pc (fun _ _ => rfl) hA.2.2.1 (jok_h hA.2.2.2.2.2.1) ⟨hd, Or.inl hr⟩
    simp only [jcl_rf, jsl_rf, Nat.add_zero] at k2
    exact k2
  · cases e
theorem snd_zret {j pc : Nat} (hd : decode (tm_c j) pc = .ok (.ireturn, 1)) (hr : tm_r j = some .boolean) : jSnd j pc o_zret := by
  intro l k hk ls st g m res e
  unfold jstep o_zret at e
  dsimp only at e
  split at e
  · rename_i x
    by_cases hx : x = 0 ∨ x = 1
    · rw [if_pos hx] at e
      obtain rfl := Option.some.inj e
      intro h9
      refine ⟨jExt.rf, fun p e R s mth args below meth c D tc A ad H locs cells slots Q lsA hA hce hsl fin => ?_⟩
      have k2 := fin ad H locs lsA pc (fun _ _ => rfl) hA.2.2.1 (jok_h hA.2.2.2.2.2.1) ⟨hd, Or.inr ⟨hr, hx⟩⟩
      simp only [jcl_rf, jsl_rf, Nat.add_zero] at k2
      exact k2
    · rw [if_neg hx] at e
      cases e
  · cases e
theorem snd_aret {j pc : Nat} {n : String} (hd : decode (tm_c j) pc = .ok (.areturn, 1)) (hr : tm_r j = some (.object n)) : jSnd j pc o_aret := by
  intro l k hk ls st g m res e
  unfold jstep o_aret at e
  dsimp only at e
  split at e
  · obtain rfl := Option.some.inj e
    intro h9
    refine ⟨jExt.rf, fun p e R s mth args below meth c D tc A ad H locs cells slots Q lsA hA hce hsl fin => ?_⟩
    have k2 := fin ad H locs lsA pc (fun _ _ => rfl) hA.2.2.1 (jok_h hA.2.2.2.2.2.1) ⟨hd, n, hr⟩
    simp only [jcl_rf, jsl_rf, Nat.add_zero] at k2
    exact k2
  · cases e
theorem snd_vret {j pc : Nat} (hd : decode (tm_c j) pc = .ok (.return_, 1)) (hr : tm_r j = none) : jSnd j pc o_vret := by
  intro l k hk ls st g m res e
  unfold jstep o_vret at e
  dsimp only at e
  split at e
  · obtain rfl := Option.some.inj e
    intro h9
    refine ⟨jExt.rf, fun p e R s mth args below meth c D tc A ad H locs cells slots Q lsA hA hce hsl fin => ?_⟩
    have k2 := fin ad H locs lsA pc (fun _ _ => rfl) hA.2.2.1 trivial ⟨hd, hr⟩
    simp only [jcl_rf, jsl_rf, Nat.add_zero] at k2
    exact k2
  · cases e
