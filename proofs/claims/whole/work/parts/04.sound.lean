/-! what stands at a point of a method's walk -/
def jtys (tc : Nat → ClassId) : List (ClassId × FieldType) := tm_T.map fun q => (tc q.1, q.2)
def jgw : List Cond := lw_tbl.filter goodWord
def jnest : Cond → Bool
  | .fieldLinkNest .. => true
  | .methodLinkNest .. => true
  | _ => false
def jNs (U : State) : Prop := (∀ w ∈ lw_tbl, jnest w = true → va_Nw w U) ∧ ∀ C, Cond.arrayOver (.object C) ∈ lw_tbl → va_AO C U
theorem jnest_tab {w : Cond} (h : jnest w = true) : w.onTables = true := by
  cases w <;> first | rfl | (cases h; done)
theorem jNs_warm {s U : State} (hW : s.WarmedH U.vm) (h : jNs s) : jNs U := by
  refine ⟨fun w hw hn => ?_, fun C hC => (h.2 C hC).moved hW.alike⟩
  have h1 := h.1 w hw hn
  cases w <;> first | (cases hn; done) | exact va_Nw.warmF hW h1 | exact va_Nw.warmM hW h1
theorem jNs_vm {s U : State} (hv : s.vm = U.vm) (hA : s.vm.Alike U.vm) (h : jNs s) : jNs U := ⟨fun w hw hn => va_Nw.same (jnest_tab hn) hv (h.1 w hw hn), fun C hC => (h.2 C hC).moved hA⟩
def jCx (j : Nat) (p : Program) (R : Room) (s : State) (mth : MethodId) (args : Array Value) (meth : Method) (c : Code) (D : va_G) (tc : Nat → ClassId) : Prop :=
  p.tables.exec = Jvm.exec ∧ c.code = tm_c j ∧ meth.sig.returnType = tm_r j ∧ c.maxLocals = tm_l j ∧ s.vm.findClass (tm_y j).cls = some mth.cls ∧ (∀ w ∈ jgw, w.before args s = true) ∧ meth.locks = false ∧ ((tm_y j).name = "<init>" → meth.name = "<init>") ∧ tm_f j ≤ R.frames ∧ tm_o j ≤ R.locals ∧ va_K D vwCl (jtys tc) s ∧ jNs s
def jRep (D : va_G) (tc : Nat → ClassId) (A : Nat → Prop) (H0 : Heap) (ad : Nat → Nat) (g : jG) (m : jM) (H : Heap) (locs : List Loc) : Prop := va_P D vwCl (jcw tc ad g m) H ∧ va_D A (jcw tc ad g m) ∧ va_S A H0 H locs ∧ jom g m
def jScr (j : Nat) (A : Nat → Prop) (ad : Nat → Nat) (g : jG) (m : jM) (s : State) : Prop := j = tm_law → ∃ (b L : Nat) (xs : Nat → Int32), ad 0 = b ∧ va_X b L xs s s.heap ∧ b < s.heap.size ∧ ¬ A b ∧ jsh g 0 = (9, L) ∧ (∀ i : Nat, i < L → m 0 i = (xs i).toInt) ∧ L < 2147483648
def jAt (j : Nat) (p : Program) (R : Room) (s : State) (mth : MethodId) (args : Array Value) (meth : Method) (c : Code) (D : va_G) (tc : Nat → ClassId) (A : Nat → Prop) (ad : Nat → Nat) (ls st : List jV) (g : jG) (m : jM) (H : Heap) (locs : List Loc) (lsA : Array Slot) : Prop :=
  jCx j p R s mth args meth c D tc ∧ (∀ q, s.heap.size ≤ q → A q) ∧ jRep D tc A s.heap ad g m H locs ∧ jL ad ls lsA ∧ (∀ v ∈ ls, jok g.1.length v) ∧ (∀ v ∈ st, jok g.1.length v) ∧ ls.length = tm_l j ∧ jScr j A ad g m s
def jExt (g : jG) (m : jM) (g' : jG) (m' : jM) : Prop := (∃ t, g'.1 = g.1 ++ t) ∧ ∀ i, m' 0 i = m 0 i
def jcl (g g' : jG) : Nat := g'.1.length - g.1.length
def jsz (g : jG) : Nat := (g.1.map Prod.snd).sum
def jsl (g g' : jG) : Nat := jsz g' - jsz g
theorem jExt.rf {g : jG} {m : jM} : jExt g m g m := ⟨⟨[], by simp⟩, fun _ => rfl⟩
theorem jExt.trans {g g1 g2 : jG} {m m1 m2 : jM} (h : jExt g m g1 m1) (h' : jExt g1 m1 g2 m2) : jExt g m g2 m2 := by
  obtain ⟨⟨t, e⟩, k⟩ := h
  obtain ⟨⟨t', e'⟩, k'⟩ := h'
  exact ⟨⟨t ++ t', by rw [e', e, List.append_assoc]⟩, fun i => (k' i).trans (k i)⟩
theorem jExt.len {g g1 : jG} {m m1 : jM} (h : jExt g m g1 m1) : g.1.length ≤ g1.1.length := by
  obtain ⟨⟨t, e⟩, -⟩ := h
  rw [e, List.length_append]
  omega
theorem jExt.sz {g g1 : jG} {m m1 : jM} (h : jExt g m g1 m1) : jsz g ≤ jsz g1 := by
  obtain ⟨⟨t, e⟩, -⟩ := h
  unfold jsz
  rw [e, List.map_append, List.sum_append]
  omega
theorem jExt.sh {g g1 : jG} {m m1 : jM} (h : jExt g m g1 m1) {a : Nat} (ha : a < g.1.length) : jsh g1 a = jsh g a := by
  obtain ⟨⟨t, e⟩, -⟩ := h
  unfold jsh
  simp only [List.getD_eq_getElem?_getD]
  rw [e, List.getElem?_append_left ha]
theorem jScr.ext {j : Nat} {A : Nat → Prop} {ad ad' : Nat → Nat} {g g1 : jG} {m m1 : jM} {s : State} (h : jScr j A ad g m s) (hx : jExt g m g1 m1) (h9 : (jsh g 0).1 = 9) (ha : ∀ a, a < g.1.length → ad' a = ad a) : jScr j A ad' g1 m1 s := by
  intro hj
  have h0 : 0 < g.1.length := jsh_lt (a := 0) (by rw [h9]; decide)
  obtain ⟨b, L, xs, q1, q2, q3, q4, q5, q6, q7⟩ := h hj
  exact ⟨b, L, xs, (ha 0 h0).trans q1, q2, q3, q4, (hx.sh h0).trans q5, fun i hi => (hx.2 i).trans (q6 i hi), q7⟩
/-- the stack with which a method ends -/
def jst (ad : Nat → Nat) (r : jV) : List Value := match r with
  | Sum.inr (Sum.inr _) => []
  | v => [jcv ad v]
def jRet (j pc : Nat) (r : jV) : Prop := match r with
  | Sum.inl x => decode (tm_c j) pc = .ok (.ireturn, 1) ∧ (tm_r j = some .int ∨ (tm_r j = some .boolean ∧ (x = 0 ∨ x = 1)))
  | Sum.inr (Sum.inl _) => decode (tm_c j) pc = .ok (.areturn, 1) ∧ ∃ n, tm_r j = some (.object n)
  | Sum.inr (Sum.inr _) => decode (tm_c j) pc = .ok (.return_, 1) ∧ tm_r j = none
def jWs (l : Launch) (j pc : Nat) (ls st : List jV) (g : jG) (m : jM) (res : jR) : Prop := (jsh g 0).1 = 9 → jExt g m res.2.1 res.2.2 ∧
  ∀ (p : Program) (e : Env) (R : Room) (s : State) (mth : MethodId) (args : Array Value) (below : List Frame) (meth : Method) (c : Code) (D : va_G) (tc : Nat → ClassId) (A : Nat → Prop) (ad : Nat → Nat) (H : Heap) (locs : List Loc) (cells slots : Nat) (Q : State → Prop) (lsA : Array Slot),
    jAt j p R s mth args meth c D tc A ad ls st g m H locs lsA → cells + jcl g res.2.1 ≤ R.cells → slots + jsl g res.2.1 ≤ R.slots →
    (∀ (ad' : Nat → Nat) (H' : Heap) (locs' : List Loc) (lsA' : Array Slot) (pc' : Nat), (∀ a, a < g.1.length → ad' a = ad a) → jRep D tc A s.heap ad' res.2.1 res.2.2 H' locs' → jok res.2.1.1.length res.1 → jRet j pc' res.1 →
      W p l e R s mth args below meth c H' locs' (cells + jcl g res.2.1) (slots + jsl g res.2.1) Q (F0 mth pc' lsA' (jst ad' res.1))) →
    W p l e R s mth args below meth c H locs cells slots Q (F0 mth pc lsA (st.map (jcv ad)))
def jSnd (j pc : Nat) (o : jOp) : Prop := ∀ (l : Launch) (k : jK), (∀ j pc ls st g m res, k j pc ls st g m = some res → jWs l j pc ls st g m res) → ∀ ls st g m res, jstep o k j ls st g m = some res → jWs l j pc ls st g m res
theorem jAdq {P : Nat → Nat → jOp} (hP : ∀ j pc, jSnd j pc (P j pc)) (l : Launch) : ∀ (n j pc : Nat) (ls st : List jV) (g : jG) (m : jM) (res : jR), jrun P n j pc ls st g m = some res → jWs l j pc ls st g m res
  | 0, _, _, _, _, _, _, _, e => by rw [jrun_0] at e; cases e
  | n + 1, j, pc, ls, st, g, m, res, e => by
    rw [jrun_s] at e
    exact hP j pc l (jrun P n) (jAdq hP l n) ls st g m res e
def jSim (l : Launch) (j pc : Nat) (ls st : List jV) (g : jG) (m : jM) (q : jS) : Prop := (jsh g 0).1 = 9 → jExt g m q.2.2.2.1 q.2.2.2.2 ∧
  ∀ (p : Program) (e : Env) (R : Room) (s : State) (mth : MethodId) (args : Array Value) (below : List Frame) (meth : Method) (c : Code) (D : va_G) (tc : Nat → ClassId) (A : Nat → Prop) (ad : Nat → Nat) (H : Heap) (locs : List Loc) (cells slots : Nat) (Q : State → Prop) (lsA : Array Slot),
    jAt j p R s mth args meth c D tc A ad ls st g m H locs lsA → cells + jcl g q.2.2.2.1 ≤ R.cells → slots + jsl g q.2.2.2.1 ≤ R.slots →
    (∀ (ad' : Nat → Nat) (H' : Heap) (locs' : List Loc) (lsA' : Array Slot), (∀ a, a < g.1.length → ad' a = ad a) → jAt j p R s mth args meth c D tc A ad' q.2.1 q.2.2.1 q.2.2.2.1 q.2.2.2.2 H' locs' lsA' →
      W p l e R s mth args below meth c H' locs' (cells + jcl g q.2.2.2.1) (slots + jsl g q.2.2.2.1) Q (F0 mth q.1 lsA' (q.2.2.1.map (jcv ad')))) →
    W p l e R s mth args below meth c H locs cells slots Q (F0 mth pc lsA (st.map (jcv ad)))
theorem jSim_then {l : Launch} {j pc : Nat} {ls st : List jV} {g : jG} {m : jM} {q : jS} {res : jR} (h : jSim l j pc ls st g m q) (w : jWs l j q.1 q.2.1 q.2.2.1 q.2.2.2.1 q.2.2.2.2 res) : jWs l j pc ls st g m res := by
  intro h9
  obtain ⟨x1, w1⟩ := h h9
  have h0 : 0 < g.1.length := jsh_lt (a := 0) (by rw [h9]; decide)
  obtain ⟨x2, w2⟩ := w (by rw [x1.sh h0]; exact h9)
  have l1 := x1.len
  have l2 := x2.len
  have z1 := x1.sz
  have z2 := x2.sz
  refine ⟨x1.trans x2, fun p e R s mth args below meth c D tc A ad H locs cells slots Q lsA hAt hc hs fin => ?_⟩
  unfold jcl jsl at *
  refine w1 p e R s mth args below meth c D tc A ad H locs cells slots Q lsA hAt (by omega) (by omega) fun ad1 H1 locs1 lsA1 ag1 hAt1 => ?_
  refine w2 p e R s mth args below meth c D tc A ad1 H1 locs1 _ _ Q lsA1 hAt1 (by omega) (by omega) fun ad2 H2 locs2 lsA2 pc2 ag2 hR hk hr => ?_
  have k := fin ad2 H2 locs2 lsA2 pc2 (fun a ha => (ag2 a (by omega)).trans (ag1 a ha)) hR hk hr
  rw [show cells + (q.2.2.2.1.1.length - g.1.length) + (res.2.1.1.length - q.2.2.2.1.1.length) = cells + (res.2.1.1.length - g.1.length) by omega,
    show slots + (jsz q.2.2.2.1 - jsz g) + (jsz res.2.1 - jsz q.2.2.2.1) = slots + (jsz res.2.1 - jsz g) by omega]
  exact k
theorem jSnd_step {j pc : Nat} {s : List jV → List jV → jG → jM → Option jS} (h : ∀ (l : Launch) (ls st : List jV) (g : jG) (m : jM) (q : jS), s ls st g m = some q → jSim l j pc ls st g m q) : jSnd j pc (Sum.inl s) := by
  intro l k hk ls st g m res e
  obtain ⟨q, h1, h2⟩ := Option.bind_eq_some_iff.mp e
  exact jSim_then (h l ls st g m q h1) (hk _ _ _ _ _ _ _ h2)
theorem jcl_rf (g : jG) : jcl g g = 0 := Nat.sub_self _
theorem jsl_rf (g : jG) : jsl g g = 0 := Nat.sub_self _
theorem jSim_pure {l : Launch} {j pc pc' : Nat} {ls st ls' st' : List jV} {g : jG} {m : jM} (hl : ls'.length = ls.length) (hok : jom g m → (∀ v ∈ ls, jok g.1.length v) → (∀ v ∈ st, jok g.1.length v) → (∀ v ∈ ls', jok g.1.length v) ∧ (∀ v ∈ st', jok g.1.length v))
    (hw : ∀ (p : Program) (e : Env) (R : Room) (s : State) (mth : MethodId) (args : Array Value) (below : List Frame) (meth : Method) (c : Code) (D : va_G) (tc : Nat → ClassId) (A : Nat → Prop) (ad : Nat → Nat) (H : Heap) (locs : List Loc) (cells slots : Nat) (Q : State → Prop) (lsA : Array Slot), jAt j p R s mth args meth c D tc A ad ls st g m H locs lsA → cells ≤ R.cells → slots ≤ R.slots →
      (∀ lsA' : Array Slot, jL ad ls' lsA' → W p l e R s mth args below meth c H locs cells slots Q (F0 mth pc' lsA' (st'.map (jcv ad)))) → W p l e R s mth args below meth c H locs cells slots Q (F0 mth pc lsA (st.map (jcv ad)))) : jSim l j pc ls st g m (pc', ls', st', g, m) := by
  intro h9
  refine ⟨jExt.rf, fun p e R s mth args below meth c D tc A ad H locs cells slots Q lsA hAt hc hs kk => ?_⟩
  have kk := fun ad' H' locs' lsA' h1 h2 => kk ad' H' locs' lsA' h1 h2
  simp only [jcl_rf, jsl_rf, Nat.add_zero] at hc hs kk
  refine hw p e R s mth args below meth c D tc A ad H locs cells slots Q lsA hAt hc hs fun lsA' hL => ?_
  obtain ⟨hC, hAA, hR, hl0, k1, k2, hn, hX⟩ := hAt
  obtain ⟨o1, o2⟩ := hok hR.2.2.2 k1 k2
  exact kk ad H locs lsA' (fun _ _ => rfl) ⟨hC, hAA, hR, hL, o1, o2, hl.trans hn, hX⟩
theorem jok_cons {N : Nat} {v : jV} {st : List jV} (h : jok N v) (hs : ∀ v ∈ st, jok N v) : ∀ w ∈ v :: st, jok N w := by
  intro w hw
  rcases List.mem_cons.mp hw with rfl | hw
  · exact h
  · exact hs w hw
theorem jok_t {N : Nat} {v : jV} {st : List jV} (hs : ∀ w ∈ v :: st, jok N w) : ∀ w ∈ st, jok N w := fun w hw => hs w (List.mem_cons_of_mem _ hw)
theorem jok_h {N : Nat} {v : jV} {st : List jV} (hs : ∀ w ∈ v :: st, jok N w) : jok N v := hs v List.mem_cons_self
theorem jok_set {N i : Nat} {v : jV} {ls : List jV} (h : jok N v) (hs : ∀ v ∈ ls, jok N v) : ∀ w ∈ ls.set i v, jok N w := by
  intro w hw
  rcases List.mem_or_eq_of_mem_set hw with q | q
  · exact hs w q
  · rw [q]; exact h
theorem jnU_I {x : Int} : (Sum.inl x : jV) ≠ jU := fun h => by cases h
theorem jnU_O {o : Option Nat} : (Sum.inr (Sum.inl o) : jV) ≠ jU := fun h => by cases h
theorem snd_bad (j pc : Nat) : jSnd j pc jbad := jSnd_step fun l ls st g m q h => by cases h
theorem snd_iconst {j pc : Nat} {n z : Int} (hd : decode (tm_c j) pc = .ok (.iconst n, 1)) (hn : Int32.ofInt n = Int32.ofInt z) (hz : jrg z) : jSnd j pc (o_push (pc + 1) z) := by
  refine jSnd_step fun l ls st g m q h => ?_
  obtain rfl := Option.some.inj h
  refine jSim_pure rfl (fun _ h1 h2 => ⟨h1, jok_cons hz h2⟩) fun p e R s mth args below meth c D tc A ad H locs cells slots Q lsA hA hce hsl kk => ?_
  exact lv_iconst hA.1.1 hA.1.2.1 hd hn (kk lsA hA.2.2.2.1)
theorem snd_bipush {j pc : Nat} {n z : Int} (hd : decode (tm_c j) pc = .ok (.bipush n, 2)) (hn : (Int8.ofInt n).toInt32 = Int32.ofInt z) (hz : jrg z) : jSnd j pc (o_push (pc + 2) z) := by
  refine jSnd_step fun l ls st g m q h => ?_
  obtain rfl := Option.some.inj h
  refine jSim_pure rfl (fun _ h1 h2 => ⟨h1, jok_cons hz h2⟩) fun p e R s mth args below meth c D tc A ad H locs cells slots Q lsA hA hce hsl kk => ?_
  exact lv_bipush hA.1.1 hA.1.2.1 hd hn (kk lsA hA.2.2.2.1)
theorem snd_sipush {j pc : Nat} {n z : Int} (hd : decode (tm_c j) pc = .ok (.sipush n, 3)) (hn : (Int16.ofInt n).toInt32 = Int32.ofInt z) (hz : jrg z) : jSnd j pc (o_push (pc + 3) z) := by
  refine jSnd_step fun l ls st g m q h => ?_
  obtain rfl := Option.some.inj h
  refine jSim_pure rfl (fun _ h1 h2 => ⟨h1, jok_cons hz h2⟩) fun p e R s mth args below meth c D tc A ad H locs cells slots Q lsA hA hce hsl kk => ?_
  exact lv_sipush hA.1.1 hA.1.2.1 hd hn (kk lsA hA.2.2.2.1)
theorem snd_ldc {j pc i : Nat} {z : Int} (hd : decode (tm_c j) pc = .ok (.ldc i, 2)) (hw : Cond.constant (tm_y j).cls i (Int32.ofInt z) ∈ jgw) (hz : jrg z) : jSnd j pc (o_push (pc + 2) z) := by
  refine jSnd_step fun l ls st g m q h => ?_
  obtain rfl := Option.some.inj h
  refine jSim_pure rfl (fun _ h1 h2 => ⟨h1, jok_cons hz h2⟩) fun p e R s mth args below meth c D tc A ad H locs cells slots Q lsA hA hce hsl kk => ?_
  exact lv_ldc hA.1.1 hA.1.2.1 hA.1.2.2.2.2.1 (hA.1.2.2.2.2.2.1 _ hw) hd (kk lsA hA.2.2.2.1)
theorem snd_null {j pc : Nat} (hd : decode (tm_c j) pc = .ok (.aconst_null, 1)) : jSnd j pc (o_null (pc + 1)) := by
  refine jSnd_step fun l ls st g m q h => ?_
  obtain rfl := Option.some.inj h
  refine jSim_pure rfl (fun _ h1 h2 => ⟨h1, jok_cons trivial h2⟩) fun p e R s mth args below meth c D tc A ad H locs cells slots Q lsA hA hce hsl kk => ?_
  exact lv_null hA.1.1 hA.1.2.1 hd (kk lsA hA.2.2.2.1)
theorem snd_iload {j pc i : Nat} (hd : decode (tm_c j) pc = .ok (.iload i, 2)) : jSnd j pc (o_iload (pc + 2) i) := by
  refine jSnd_step fun l ls st g m q h => ?_
  split at h
  · rename_i x hx
    obtain rfl := Option.some.inj h
    refine jSim_pure rfl (fun _ h1 h2 => ⟨h1, jok_cons (h1 _ (List.mem_of_getElem? hx)) h2⟩) fun p e R s mth args below meth c D tc A ad H locs cells slots Q lsA hA hce hsl kk => ?_
    exact lv_iload hA.1.1 hA.1.2.1 hd (jL_get hA.2.2.2.1 hx jnU_I) (kk lsA hA.2.2.2.1)
  · cases h
theorem snd_iload_n {j pc i : Nat} {k : Fin 4} (hd : decode (tm_c j) pc = .ok (.iload_n k, 1)) (hk : (k : Nat) = i) : jSnd j pc (o_iload (pc + 1) i) := by
  refine jSnd_step fun l ls st g m q h => ?_
  split at h
  · rename_i x hx
    obtain rfl := Option.some.inj h
    refine jSim_pure rfl (fun _ h1 h2 => ⟨h1, jok_cons (h1 _ (List.mem_of_getElem? hx)) h2⟩) fun p e R s mth args below meth c D tc A ad H locs cells slots Q lsA hA hce hsl kk => ?_
    exact lv_iload_n hA.1.1 hA.1.2.1 hd hk (jL_get hA.2.2.2.1 hx jnU_I) (kk lsA hA.2.2.2.1)
  · cases h
theorem snd_aload {j pc i : Nat} (hd : decode (tm_c j) pc = .ok (.aload i, 2)) : jSnd j pc (o_aload (pc + 2) i) := by
  refine jSnd_step fun l ls st g m q h => ?_
  split at h
  · rename_i o hx
    obtain rfl := Option.some.inj h
    refine jSim_pure rfl (fun _ h1 h2 => ⟨h1, jok_cons (h1 _ (List.mem_of_getElem? hx)) h2⟩) fun p e R s mth args below meth c D tc A ad H locs cells slots Q lsA hA hce hsl kk => ?_
    cases o with
    | none => exact lv_aloadN hA.1.1 hA.1.2.1 hd (jL_get hA.2.2.2.1 hx jnU_O) (kk lsA hA.2.2.2.1)
    | some a => exact lv_aload hA.1.1 hA.1.2.1 hd (jL_get hA.2.2.2.1 hx jnU_O) (kk lsA hA.2.2.2.1)
  · cases h
theorem snd_aload_n {j pc i : Nat} {k : Fin 4} (hd : decode (tm_c j) pc = .ok (.aload_n k, 1)) (hk : (k : Nat) = i) : jSnd j pc (o_aload (pc + 1) i) := by
  refine jSnd_step fun l ls st g m q h => ?_
  split at h
  · rename_i o hx
    obtain rfl := Option.some.inj h
    refine jSim_pure rfl (fun _ h1 h2 => ⟨h1, jok_cons (h1 _ (List.mem_of_getElem? hx)) h2⟩) fun p e R s mth args below meth c D tc A ad H locs cells slots Q lsA hA hce hsl kk => ?_
    cases o with
    | none => exact lv_aload_nN hA.1.1 hA.1.2.1 hd hk (jL_get hA.2.2.2.1 hx jnU_O) (kk lsA hA.2.2.2.1)
    | some a => exact lv_aload_n hA.1.1 hA.1.2.1 hd hk (jL_get hA.2.2.2.1 hx jnU_O) (kk lsA hA.2.2.2.1)
  · cases h
theorem snd_istore {j pc i : Nat} (hd : decode (tm_c j) pc = .ok (.istore i, 2)) (hi : i < tm_l j) : jSnd j pc (o_istore (pc + 2) i) := by
  refine jSnd_step fun l ls st g m q h => ?_
  split at h
  · rename_i x st'
    obtain rfl := Option.some.inj h
    refine jSim_pure (by simp) (fun _ h1 h2 => ⟨jok_set (jok_h h2) h1, jok_t h2⟩) fun p e R s mth args below meth c D tc A ad H locs cells slots Q lsA hA hce hsl kk => ?_
    exact lv_istore hA.1.1 hA.1.2.1 hd hA.2.2.2.1 (by rw [hA.2.2.2.2.2.2.1]; exact hi) rfl (fun ls' hl => kk ls' (jL_set rfl hl))
  · cases h
theorem snd_istore_n {j pc i : Nat} {k : Fin 4} (hd : decode (tm_c j) pc = .ok (.istore_n k, 1)) (hk : (k : Nat) = i) (hi : i < tm_l j) : jSnd j pc (o_istore (pc + 1) i) := by
  refine jSnd_step fun l ls st g m q h => ?_
  split at h
  · rename_i x st'
    obtain rfl := Option.some.inj h
    refine jSim_pure (by simp) (fun _ h1 h2 => ⟨jok_set (jok_h h2) h1, jok_t h2⟩) fun p e R s mth args below meth c D tc A ad H locs cells slots Q lsA hA hce hsl kk => ?_
    exact lv_istore_n hA.1.1 hA.1.2.1 hd hk hA.2.2.2.1 (by rw [hA.2.2.2.2.2.2.1]; exact hi) rfl (fun ls' hl => kk ls' (jL_set rfl hl))
  · cases h
theorem snd_astore {j pc i : Nat} (hd : decode (tm_c j) pc = .ok (.astore i, 2)) (hi : i < tm_l j) : jSnd j pc (o_astore (pc + 2) i) := by
  refine jSnd_step fun l ls st g m q h => ?_
  split at h
  · rename_i o st'
    obtain rfl := Option.some.inj h
    refine jSim_pure (by simp) (fun _ h1 h2 => ⟨jok_set (jok_h h2) h1, jok_t h2⟩) fun p e R s mth args below meth c D tc A ad H locs cells slots Q lsA hA hce hsl kk => ?_
    cases o with
    | none => exact lv_astoreN hA.1.1 hA.1.2.1 hd hA.2.2.2.1 (by rw [hA.2.2.2.2.2.2.1]; exact hi) rfl (fun ls' hl => kk ls' (jL_set rfl hl))
    | some a => exact lv_astore hA.1.1 hA.1.2.1 hd hA.2.2.2.1 (by rw [hA.2.2.2.2.2.2.1]; exact hi) rfl (fun ls' hl => kk ls' (jL_set rfl hl))
  · cases h
theorem snd_astore_n {j pc i : Nat} {k : Fin 4} (hd : decode (tm_c j) pc = .ok (.astore_n k, 1)) (hk : (k : Nat) = i) (hi : i < tm_l j) : jSnd j pc (o_astore (pc + 1) i) := by
  refine jSnd_step fun l ls st g m q h => ?_
  split at h
  · rename_i o st'
    obtain rfl := Option.some.inj h
    refine jSim_pure (by simp) (fun _ h1 h2 => ⟨jok_set (jok_h h2) h1, jok_t h2⟩) fun p e R s mth args below meth c D tc A ad H locs cells slots Q lsA hA hce hsl kk => ?_
    cases o with
    | none => exact lv_astore_nN hA.1.1 hA.1.2.1 hd hk hA.2.2.2.1 (by rw [hA.2.2.2.2.2.2.1]; exact hi) rfl (fun ls' hl => kk ls' (jL_set rfl hl))
    | some a => exact lv_astore_n hA.1.1 hA.1.2.1 hd hk hA.2.2.2.1 (by rw [hA.2.2.2.2.2.2.1]; exact hi) rfl (fun ls' hl => kk ls' (jL_set rfl hl))
  · cases h
theorem snd_iinc {j pc i : Nat} {z : Int} (hd : decode (tm_c j) pc = .ok (.iinc i z, 3)) (hi : i < tm_l j) : jSnd j pc (o_iinc (pc + 3) i z) := by
  refine jSnd_step fun l ls st g m q h => ?_
  split at h
  · rename_i x hx
    obtain rfl := Option.some.inj h
    refine jSim_pure (by simp) (fun _ h1 h2 => ⟨jok_set (jrg_wr _) h1, h2⟩) fun p e R s mth args below meth c D tc A ad H locs cells slots Q lsA hA hce hsl kk => ?_
    obtain ⟨k, hk⟩ := List.getElem?_of_mem (jlv_mem (ad := ad) hx jnU_I)
    exact lv_iinc hA.1.1 hA.1.2.1 hd hA.2.2.2.1 hk (v := Int32.ofInt (jwr (x + z))) (by rw [jof_wr, Int32.ofInt_add]) (by rw [hA.2.2.2.2.2.2.1]; exact hi) rfl (fun ls' hl => kk ls' (jL_set rfl hl))
  · cases h
theorem jf_add {x y : Int} : Int32.ofInt (f_add x y) = Int32.ofInt x + Int32.ofInt y := by unfold f_add; rw [jof_wr, Int32.ofInt_add]
theorem jf_sub {x y : Int} : Int32.ofInt (f_sub x y) = Int32.ofInt x - Int32.ofInt y := by unfold f_sub; rw [jof_wr, Int32.ofInt_sub]
theorem jf_mul {x y : Int} : Int32.ofInt (f_mul x y) = Int32.ofInt x * Int32.ofInt y := by unfold f_mul; rw [jof_wr, Int32.ofInt_mul]
theorem jf_and {x y : Int} : Int32.ofInt (f_and x y) = Int32.ofInt x &&& Int32.ofInt y := Int32.ofInt_toInt _
theorem jf_or {x y : Int} : Int32.ofInt (f_or x y) = Int32.ofInt x ||| Int32.ofInt y := Int32.ofInt_toInt _
theorem jf_xor {x y : Int} : Int32.ofInt (f_xor x y) = Int32.ofInt x ^^^ Int32.ofInt y := Int32.ofInt_toInt _
theorem jf_shl {x y : Int} : Int32.ofInt (f_shl x y) = Int32.ofInt x <<< (Int32.ofInt y &&& 31) := Int32.ofInt_toInt _
theorem jf_shr {x y : Int} : Int32.ofInt (f_shr x y) = Int32.ofInt x >>> (Int32.ofInt y &&& 31) := Int32.ofInt_toInt _
theorem jf_div {x y : Int} : Int32.ofInt (f_div x y) = Int32.ofInt x / Int32.ofInt y := Int32.ofInt_toInt _
theorem jf_rem {x y : Int} : Int32.ofInt (f_rem x y) = Int32.ofInt x - Int32.ofInt x / Int32.ofInt y * Int32.ofInt y := Int32.ofInt_toInt _
theorem snd_iadd {j pc : Nat} (hd : decode (tm_c j) pc = .ok (.iadd, 1)) : jSnd j pc (o_bin (pc + 1) f_add) := by
  refine jSnd_step fun l ls st g m q h => ?_
  split at h
  · rename_i y x st'
    obtain rfl := Option.some.inj h
    refine jSim_pure rfl (fun _ h1 h2 => ⟨h1, jok_cons (show jrg (f_add x y) from jrg_wr _) (jok_t (jok_t h2))⟩) fun p e R s mth args below meth c D tc A ad H locs cells slots Q lsA hA hce hsl kk => ?_
    refine lv_iadd (x := Int32.ofInt x) (y := Int32.ofInt y) hA.1.1 hA.1.2.1 hd ?_
    rw [← jf_add]
    exact kk lsA hA.2.2.2.1
  · cases h
theorem snd_isub {j pc : Nat} (hd : decode (tm_c j) pc = .ok (.isub, 1)) : jSnd j pc (o_bin (pc + 1) f_sub) := by
  refine jSnd_step fun l ls st g m q h => ?_
  split at h
  · rename_i y x st'
    obtain rfl := Option.some.inj h
    refine jSim_pure rfl (fun _ h1 h2 => ⟨h1, jok_cons (show jrg (f_sub x y) from jrg_wr _) (jok_t (jok_t h2))⟩) fun p e R s mth args below meth c D tc A ad H locs cells slots Q lsA hA hce hsl kk => ?_
    refine lv_isub (x := Int32.ofInt x) (y := Int32.ofInt y) hA.1.1 hA.1.2.1 hd ?_
    rw [← jf_sub]
    exact kk lsA hA.2.2.2.1
  · cases h
theorem snd_imul {j pc : Nat} (hd : decode (tm_c j) pc = .ok (.imul, 1)) : jSnd j pc (o_bin (pc + 1) f_mul) := by
  refine jSnd_step fun l ls st g m q h => ?_
  split at h
  · rename_i y x st'
    obtain rfl := Option.some.inj h
    refine jSim_pure rfl (fun _ h1 h2 => ⟨h1, jok_cons (show jrg (f_mul x y) from jrg_wr _) (jok_t (jok_t h2))⟩) fun p e R s mth args below meth c D tc A ad H locs cells slots Q lsA hA hce hsl kk => ?_
    refine lv_imul (x := Int32.ofInt x) (y := Int32.ofInt y) hA.1.1 hA.1.2.1 hd ?_
    rw [← jf_mul]
    exact kk lsA hA.2.2.2.1
  · cases h
theorem snd_iand {j pc : Nat} (hd : decode (tm_c j) pc = .ok (.iand, 1)) : jSnd j pc (o_bin (pc + 1) f_and) := by
  refine jSnd_step fun l ls st g m q h => ?_
  split at h
  · rename_i y x st'
    obtain rfl := Option.some.inj h
    refine jSim_pure rfl (fun _ h1 h2 => ⟨h1, jok_cons (show jrg (f_and x y) from jrg_t _) (jok_t (jok_t h2))⟩) fun p e R s mth args below meth c D tc A ad H locs cells slots Q lsA hA hce hsl kk => ?_
    refine lv_iand (x := Int32.ofInt x) (y := Int32.ofInt y) hA.1.1 hA.1.2.1 hd ?_
    rw [← jf_and]
    exact kk lsA hA.2.2.2.1
  · cases h
theorem snd_ior {j pc : Nat} (hd : decode (tm_c j) pc = .ok (.ior, 1)) : jSnd j pc (o_bin (pc + 1) f_or) := by
  refine jSnd_step fun l ls st g m q h => ?_
  split at h
  · rename_i y x st'
    obtain rfl := Option.some.inj h
    refine jSim_pure rfl (fun _ h1 h2 => ⟨h1, jok_cons (show jrg (f_or x y) from jrg_t _) (jok_t (jok_t h2))⟩) fun p e R s mth args below meth c D tc A ad H locs cells slots Q lsA hA hce hsl kk => ?_
    refine lv_ior (x := Int32.ofInt x) (y := Int32.ofInt y) hA.1.1 hA.1.2.1 hd ?_
    rw [← jf_or]
    exact kk lsA hA.2.2.2.1
  · cases h
theorem snd_ixor {j pc : Nat} (hd : decode (tm_c j) pc = .ok (.ixor, 1)) : jSnd j pc (o_bin (pc + 1) f_xor) := by
  refine jSnd_step fun l ls st g m q h => ?_
  split at h
  · rename_i y x st'
    obtain rfl := Option.some.inj h
    refine jSim_pure rfl (fun _ h1 h2 => ⟨h1, jok_cons (show jrg (f_xor x y) from jrg_t _) (jok_t (jok_t h2))⟩) fun p e R s mth args below meth c D tc A ad H locs cells slots Q lsA hA hce hsl kk => ?_
    refine lv_ixor (x := Int32.ofInt x) (y := Int32.ofInt y) hA.1.1 hA.1.2.1 hd ?_
    rw [← jf_xor]
    exact kk lsA hA.2.2.2.1
  · cases h
theorem snd_ishl {j pc : Nat} (hd : decode (tm_c j) pc = .ok (.ishl, 1)) : jSnd j pc (o_bin (pc + 1) f_shl) := by
  refine jSnd_step fun l ls st g m q h => ?_
  split at h
  · rename_i y x st'
    obtain rfl := Option.some.inj h
    refine jSim_pure rfl (fun _ h1 h2 => ⟨h1, jok_cons (show jrg (f_shl x y) from jrg_t _) (jok_t (jok_t h2))⟩) fun p e R s mth args below meth c D tc A ad H locs cells slots Q lsA hA hce hsl kk => ?_
    refine lv_ishl (x := Int32.ofInt x) (y := Int32.ofInt y) hA.1.1 hA.1.2.1 hd ?_
    rw [← jf_shl]
    exact kk lsA hA.2.2.2.1
  · cases h
theorem snd_ishr {j pc : Nat} (hd : decode (tm_c j) pc = .ok (.ishr, 1)) : jSnd j pc (o_bin (pc + 1) f_shr) := by
  refine jSnd_step fun l ls st g m q h => ?_
  split at h
  · rename_i y x st'
    obtain rfl := Option.some.inj h
    refine jSim_pure rfl (fun _ h1 h2 => ⟨h1, jok_cons (show jrg (f_shr x y) from jrg_t _) (jok_t (jok_t h2))⟩) fun p e R s mth args below meth c D tc A ad H locs cells slots Q lsA hA hce hsl kk => ?_
    refine lv_ishr (x := Int32.ofInt x) (y := Int32.ofInt y) hA.1.1 hA.1.2.1 hd ?_
    rw [← jf_shr]
    exact kk lsA hA.2.2.2.1
  · cases h
theorem snd_idiv {j pc : Nat} (hd : decode (tm_c j) pc = .ok (.idiv, 1)) : jSnd j pc (o_dv (pc + 1) f_div) := by
  refine jSnd_step fun l ls st g m q h => ?_
  split at h
  · rename_i y x st'
    by_cases hy : y ≠ 0
    · rw [if_pos hy] at h
      obtain rfl := Option.some.inj h
      refine jSim_pure rfl (fun _ h1 h2 => ⟨h1, jok_cons (show jrg (f_div x y) from jrg_t _) (jok_t (jok_t h2))⟩) fun p e R s mth args below meth c D tc A ad H locs cells slots Q lsA hA hce hsl kk => ?_
      have hry : jrg y := jok_h hA.2.2.2.2.2.1
      refine lv_idiv (x := Int32.ofInt x) (y := Int32.ofInt y) hA.1.1 hA.1.2.1 hd (fun hz => hy ?_) ?_
      · rw [jz0] at hz
        exact (jeq hry jrg0).mp hz
      · rw [← jf_div]
        exact kk lsA hA.2.2.2.1
    · rw [if_neg hy] at h
      cases h
  · cases h
theorem snd_irem {j pc : Nat} (hd : decode (tm_c j) pc = .ok (.irem, 1)) : jSnd j pc (o_dv (pc + 1) f_rem) := by
  refine jSnd_step fun l ls st g m q h => ?_
  split at h
  · rename_i y x st'
    by_cases hy : y ≠ 0
    · rw [if_pos hy] at h
      obtain rfl := Option.some.inj h
      refine jSim_pure rfl (fun _ h1 h2 => ⟨h1, jok_cons (show jrg (f_rem x y) from jrg_t _) (jok_t (jok_t h2))⟩) fun p e R s mth args below meth c D tc A ad H locs cells slots Q lsA hA hce hsl kk => ?_
      have hry : jrg y := jok_h hA.2.2.2.2.2.1
      refine lv_irem (x := Int32.ofInt x) (y := Int32.ofInt y) hA.1.1 hA.1.2.1 hd (fun hz => hy ?_) ?_
      · rw [jz0] at hz
        exact (jeq hry jrg0).mp hz
      · rw [← jf_rem]
        exact kk lsA hA.2.2.2.1
    · rw [if_neg hy] at h
      cases h
  · cases h
theorem snd_if_eq {j pc tg : Nat} {off : Int} (hd : decode (tm_c j) pc = .ok (.ifCond .eq off, 3)) (ht : (pc : Int) + off = (tg : Int)) : jSnd j pc (o_if_eq (pc + 3) tg) := by
  refine jSnd_step fun l ls st g m q h => ?_
  split at h
  · rename_i x st'
    by_cases hc : x = 0
    · rw [if_pos hc] at h
      obtain rfl := Option.some.inj h
      refine jSim_pure rfl (fun _ h1 h2 => ⟨h1, jok_t h2⟩) fun p e R s mth args below meth c D tc A ad H locs cells slots Q lsA hA hce hsl kk => ?_
      have hx : jrg x := jok_h hA.2.2.2.2.2.1
      exact lv_if_eq (x := Int32.ofInt x) hA.1.1 hA.1.2.1 hd ht (fun _ => kk lsA hA.2.2.2.1) (fun q => absurd (by rw [jz0]; exact (jeq hx jrg0).mpr hc) q)
    · rw [if_neg hc] at h
      obtain rfl := Option.some.inj h
      refine jSim_pure rfl (fun _ h1 h2 => ⟨h1, jok_t h2⟩) fun p e R s mth args below meth c D tc A ad H locs cells slots Q lsA hA hce hsl kk => ?_
      have hx : jrg x := jok_h hA.2.2.2.2.2.1
      exact lv_if_eq (x := Int32.ofInt x) hA.1.1 hA.1.2.1 hd ht (fun q => absurd ((jeq hx jrg0).mp (by rw [← jz0]; exact q)) hc) (fun _ => kk lsA hA.2.2.2.1)
  · cases h
theorem snd_if_ne {j pc tg : Nat} {off : Int} (hd : decode (tm_c j) pc = .ok (.ifCond .ne off, 3)) (ht : (pc : Int) + off = (tg : Int)) : jSnd j pc (o_if_ne (pc + 3) tg) := by
  refine jSnd_step fun l ls st g m q h => ?_
  split at h
  · rename_i x st'
    by_cases hc : x ≠ 0
    · rw [if_pos hc] at h
      obtain rfl := Option.some.inj h
      refine jSim_pure rfl (fun _ h1 h2 => ⟨h1, jok_t h2⟩) fun p e R s mth args below meth c D tc A ad H locs cells slots Q lsA hA hce hsl kk => ?_
      have hx : jrg x := jok_h hA.2.2.2.2.2.1
      exact lv_if_ne (x := Int32.ofInt x) hA.1.1 hA.1.2.1 hd ht (fun _ => kk lsA hA.2.2.2.1) (fun q => absurd ((jeq hx jrg0).mp (by rw [← jz0]; exact q)) hc)
    · rw [if_neg hc] at h
      obtain rfl := Option.some.inj h
      refine jSim_pure rfl (fun _ h1 h2 => ⟨h1, jok_t h2⟩) fun p e R s mth args below meth c D tc A ad H locs cells slots Q lsA hA hce hsl kk => ?_
      have hx : jrg x := jok_h hA.2.2.2.2.2.1
      exact lv_if_ne (x := Int32.ofInt x) hA.1.1 hA.1.2.1 hd ht (fun q => absurd (by rw [jz0]; exact (jeq hx jrg0).mpr (Decidable.not_not.mp hc)) q) (fun _ => kk lsA hA.2.2.2.1)
  · cases h
theorem snd_if_lt {j pc tg : Nat} {off : Int} (hd : decode (tm_c j) pc = .ok (.ifCond .lt off, 3)) (ht : (pc : Int) + off = (tg : Int)) : jSnd j pc (o_if_lt (pc + 3) tg) := by
  refine jSnd_step fun l ls st g m q h => ?_
  split at h
  · rename_i x st'
    by_cases hc : x < 0
    · rw [if_pos hc] at h
      obtain rfl := Option.some.inj h
      refine jSim_pure rfl (fun _ h1 h2 => ⟨h1, jok_t h2⟩) fun p e R s mth args below meth c D tc A ad H locs cells slots Q lsA hA hce hsl kk => ?_
      have hx : jrg x := jok_h hA.2.2.2.2.2.1
      exact lv_if_lt (x := Int32.ofInt x) hA.1.1 hA.1.2.1 hd ht (fun _ => kk lsA hA.2.2.2.1) (fun q => absurd (by rw [jz0]; exact (jlt hx jrg0).mpr hc) q)
    · rw [if_neg hc] at h
      obtain rfl := Option.some.inj h
      refine jSim_pure rfl (fun _ h1 h2 => ⟨h1, jok_t h2⟩) fun p e R s mth args below meth c D tc A ad H locs cells slots Q lsA hA hce hsl kk => ?_
      have hx : jrg x := jok_h hA.2.2.2.2.2.1
      exact lv_if_lt (x := Int32.ofInt x) hA.1.1 hA.1.2.1 hd ht (fun q => absurd ((jlt hx jrg0).mp (by rw [← jz0]; exact q)) hc) (fun _ => kk lsA hA.2.2.2.1)
  · cases h
theorem snd_if_ge {j pc tg : Nat} {off : Int} (hd : decode (tm_c j) pc = .ok (.ifCond .ge off, 3)) (ht : (pc : Int) + off = (tg : Int)) : jSnd j pc (o_if_ge (pc + 3) tg) := by
  refine jSnd_step fun l ls st g m q h => ?_
  split at h
  · rename_i x st'
    by_cases hc : 0 ≤ x
    · rw [if_pos hc] at h
      obtain rfl := Option.some.inj h
      refine jSim_pure rfl (fun _ h1 h2 => ⟨h1, jok_t h2⟩) fun p e R s mth args below meth c D tc A ad H locs cells slots Q lsA hA hce hsl kk => ?_
      have hx : jrg x := jok_h hA.2.2.2.2.2.1
      exact lv_if_ge (x := Int32.ofInt x) hA.1.1 hA.1.2.1 hd ht (fun _ => kk lsA hA.2.2.2.1) (fun q => absurd (by rw [jz0]; exact (jle jrg0 hx).mpr hc) q)
    · rw [if_neg hc] at h
      obtain rfl := Option.some.inj h
      refine jSim_pure rfl (fun _ h1 h2 => ⟨h1, jok_t h2⟩) fun p e R s mth args below meth c D tc A ad H locs cells slots Q lsA hA hce hsl kk => ?_
      have hx : jrg x := jok_h hA.2.2.2.2.2.1
      exact lv_if_ge (x := Int32.ofInt x) hA.1.1 hA.1.2.1 hd ht (fun q => absurd ((jle jrg0 hx).mp (by rw [← jz0]; exact q)) hc) (fun _ => kk lsA hA.2.2.2.1)
  · cases h
theorem snd_if_gt {j pc tg : Nat} {off : Int} (hd : decode (tm_c j) pc = .ok (.ifCond .gt off, 3)) (ht : (pc : Int) + off = (tg : Int)) : jSnd j pc (o_if_gt (pc + 3) tg) := by
  refine jSnd_step fun l ls st g m q h => ?_
  split at h
  · rename_i x st'
    by_cases hc : 0 < x
    · rw [if_pos hc] at h
      obtain rfl := Option.some.inj h
      refine jSim_pure rfl (fun _ h1 h2 => ⟨h1, jok_t h2⟩) fun p e R s mth args below meth c D tc A ad H locs cells slots Q lsA hA hce hsl kk => ?_
      have hx : jrg x := jok_h hA.2.2.2.2.2.1
      exact lv_if_gt (x := Int32.ofInt x) hA.1.1 hA.1.2.1 hd ht (fun _ => kk lsA hA.2.2.2.1) (fun q => absurd (by rw [jz0]; exact (jlt jrg0 hx).mpr hc) q)
    · rw [if_neg hc] at h
      obtain rfl := Option.some.inj h
      refine jSim_pure rfl (fun _ h1 h2 => ⟨h1, jok_t h2⟩) fun p e R s mth args below meth c D tc A ad H locs cells slots Q lsA hA hce hsl kk => ?_
      have hx : jrg x := jok_h hA.2.2.2.2.2.1
      exact lv_if_gt (x := Int32.ofInt x) hA.1.1 hA.1.2.1 hd ht (fun q => absurd ((jlt jrg0 hx).mp (by rw [← jz0]; exact q)) hc) (fun _ => kk lsA hA.2.2.2.1)
  · cases h
theorem snd_if_le {j pc tg : Nat} {off : Int} (hd : decode (tm_c j) pc = .ok (.ifCond .le off, 3)) (ht : (pc : Int) + off = (tg : Int)) : jSnd j pc (o_if_le (pc + 3) tg) := by
  refine jSnd_step fun l ls st g m q h => ?_
  split at h
  · rename_i x st'
    by_cases hc : x ≤ 0
    · rw [if_pos hc] at h
      obtain rfl := Option.some.inj h
      refine jSim_pure rfl (fun _ h1 h2 => ⟨h1, jok_t h2⟩) fun p e R s mth args below meth c D tc A ad H locs cells slots Q lsA hA hce hsl kk => ?_
      have hx : jrg x := jok_h hA.2.2.2.2.2.1
      exact lv_if_le (x := Int32.ofInt x) hA.1.1 hA.1.2.1 hd ht (fun _ => kk lsA hA.2.2.2.1) (fun q => absurd (by rw [jz0]; exact (jle hx jrg0).mpr hc) q)
    · rw [if_neg hc] at h
      obtain rfl := Option.some.inj h
      refine jSim_pure rfl (fun _ h1 h2 => ⟨h1, jok_t h2⟩) fun p e R s mth args below meth c D tc A ad H locs cells slots Q lsA hA hce hsl kk => ?_
      have hx : jrg x := jok_h hA.2.2.2.2.2.1
      exact lv_if_le (x := Int32.ofInt x) hA.1.1 hA.1.2.1 hd ht (fun q => absurd ((jle hx jrg0).mp (by rw [← jz0]; exact q)) hc) (fun _ => kk lsA hA.2.2.2.1)
  · cases h
theorem snd_ic_eq {j pc tg : Nat} {off : Int} (hd : decode (tm_c j) pc = .ok (.if_icmp .eq off, 3)) (ht : (pc : Int) + off = (tg : Int)) : jSnd j pc (o_ic_eq (pc + 3) tg) := by
  refine jSnd_step fun l ls st g m q h => ?_
  split at h
  · rename_i y x st'
    by_cases hc : x = y
    · rw [if_pos hc] at h
      obtain rfl := Option.some.inj h
      refine jSim_pure rfl (fun _ h1 h2 => ⟨h1, jok_t (jok_t h2)⟩) fun p e R s mth args below meth c D tc A ad H locs cells slots Q lsA hA hce hsl kk => ?_
      have hy : jrg y := jok_h hA.2.2.2.2.2.1
      have hx : jrg x := jok_h (jok_t hA.2.2.2.2.2.1)
      exact lv_icmp_eq (x := Int32.ofInt x) (y := Int32.ofInt y) hA.1.1 hA.1.2.1 hd ht (fun _ => kk lsA hA.2.2.2.1) (fun q => absurd ((jeq hx hy).mpr hc) q)
    · rw [if_neg hc] at h
      obtain rfl := Option.some.inj h
      refine jSim_pure rfl (fun _ h1 h2 => ⟨h1, jok_t (jok_t h2)⟩) fun p e R s mth args below meth c D tc A ad H locs cells slots Q lsA hA hce hsl kk => ?_
      have hy : jrg y := jok_h hA.2.2.2.2.2.1
      have hx : jrg x := jok_h (jok_t hA.2.2.2.2.2.1)
      exact lv_icmp_eq (x := Int32.ofInt x) (y := Int32.ofInt y) hA.1.1 hA.1.2.1 hd ht (fun q => absurd ((jeq hx hy).mp q) hc) (fun _ => kk lsA hA.2.2.2.1)
  · cases h
theorem snd_ic_ne {j pc tg : Nat} {off : Int} (hd : decode (tm_c j) pc = .ok (.if_icmp .ne off, 3)) (ht : (pc : Int) + off = (tg : Int)) : jSnd j pc (o_ic_ne (pc + 3) tg) := by
  refine jSnd_step fun l ls st g m q h => ?_
  split at h
  · rename_i y x st'
    by_cases hc : x ≠ y
    · rw [if_pos hc] at h
      obtain rfl := Option.some.inj h
      refine jSim_pure rfl (fun _ h1 h2 => ⟨h1, jok_t (jok_t h2)⟩) fun p e R s mth args below meth c D tc A ad H locs cells slots Q lsA hA hce hsl kk => ?_
      have hy : jrg y := jok_h hA.2.2.2.2.2.1
      have hx : jrg x := jok_h (jok_t hA.2.2.2.2.2.1)
      exact lv_icmp_ne (x := Int32.ofInt x) (y := Int32.ofInt y) hA.1.1 hA.1.2.1 hd ht (fun _ => kk lsA hA.2.2.2.1) (fun q => absurd ((jeq hx hy).mp q) hc)
    · rw [if_neg hc] at h
      obtain rfl := Option.some.inj h
      refine jSim_pure rfl (fun _ h1 h2 => ⟨h1, jok_t (jok_t h2)⟩) fun p e R s mth args below meth c D tc A ad H locs cells slots Q lsA hA hce hsl kk => ?_
      have hy : jrg y := jok_h hA.2.2.2.2.2.1
      have hx : jrg x := jok_h (jok_t hA.2.2.2.2.2.1)
      exact lv_icmp_ne (x := Int32.ofInt x) (y := Int32.ofInt y) hA.1.1 hA.1.2.1 hd ht (fun q => absurd ((jeq hx hy).mpr (Decidable.not_not.mp hc)) q) (fun _ => kk lsA hA.2.2.2.1)
  · cases h
theorem snd_ic_lt {j pc tg : Nat} {off : Int} (hd : decode (tm_c j) pc = .ok (.if_icmp .lt off, 3)) (ht : (pc : Int) + off = (tg : Int)) : jSnd j pc (o_ic_lt (pc + 3) tg) := by
  refine jSnd_step fun l ls st g m q h => ?_
  split at h
  · rename_i y x st'
    by_cases hc : x < y
    · rw [if_pos hc] at h
      obtain rfl := Option.some.inj h
      refine jSim_pure rfl (fun _ h1 h2 => ⟨h1, jok_t (jok_t h2)⟩) fun p e R s mth args below meth c D tc A ad H locs cells slots Q lsA hA hce hsl kk => ?_
      have hy : jrg y := jok_h hA.2.2.2.2.2.1
      have hx : jrg x := jok_h (jok_t hA.2.2.2.2.2.1)
      exact lv_icmp_lt (x := Int32.ofInt x) (y := Int32.ofInt y) hA.1.1 hA.1.2.1 hd ht (fun _ => kk lsA hA.2.2.2.1) (fun q => absurd ((jlt hx hy).mpr hc) q)
    · rw [if_neg hc] at h
      obtain rfl := Option.some.inj h
      refine jSim_pure rfl (fun _ h1 h2 => ⟨h1, jok_t (jok_t h2)⟩) fun p e R s mth args below meth c D tc A ad H locs cells slots Q lsA hA hce hsl kk => ?_
      have hy : jrg y := jok_h hA.2.2.2.2.2.1
      have hx : jrg x := jok_h (jok_t hA.2.2.2.2.2.1)
      exact lv_icmp_lt (x := Int32.ofInt x) (y := Int32.ofInt y) hA.1.1 hA.1.2.1 hd ht (fun q => absurd ((jlt hx hy).mp q) hc) (fun _ => kk lsA hA.2.2.2.1)
  · cases h
theorem snd_ic_ge {j pc tg : Nat} {off : Int} (hd : decode (tm_c j) pc = .ok (.if_icmp .ge off, 3)) (ht : (pc : Int) + off = (tg : Int)) : jSnd j pc (o_ic_ge (pc + 3) tg) := by
  refine jSnd_step fun l ls st g m q h => ?_
  split at h
  · rename_i y x st'
    by_cases hc : y ≤ x
    · rw [if_pos hc] at h
      obtain rfl := Option.some.inj h
      refine jSim_pure rfl (fun _ h1 h2 => ⟨h1, jok_t (jok_t h2)⟩) fun p e R s mth args below meth c D tc A ad H locs cells slots Q lsA hA hce hsl kk => ?_
      have hy : jrg y := jok_h hA.2.2.2.2.2.1
      have hx : jrg x := jok_h (jok_t hA.2.2.2.2.2.1)
      exact lv_icmp_ge (x := Int32.ofInt x) (y := Int32.ofInt y) hA.1.1 hA.1.2.1 hd ht (fun _ => kk lsA hA.2.2.2.1) (fun q => absurd ((jle hy hx).mpr hc) q)
    · rw [if_neg hc] at h
      obtain rfl := Option.some.inj h
      refine jSim_pure rfl (fun _ h1 h2 => ⟨h1, jok_t (jok_t h2)⟩) fun p e R s mth args below meth c D tc A ad H locs cells slots Q lsA hA hce hsl kk => ?_
      have hy : jrg y := jok_h hA.2.2.2.2.2.1
      have hx : jrg x := jok_h (jok_t hA.2.2.2.2.2.1)
      exact lv_icmp_ge (x := Int32.ofInt x) (y := Int32.ofInt y) hA.1.1 hA.1.2.1 hd ht (fun q => absurd ((jle hy hx).mp q) hc) (fun _ => kk lsA hA.2.2.2.1)
  · cases h
theorem snd_ic_gt {j pc tg : Nat} {off : Int} (hd : decode (tm_c j) pc = .ok (.if_icmp .gt off, 3)) (ht : (pc : Int) + off = (tg : Int)) : jSnd j pc (o_ic_gt (pc + 3) tg) := by
  refine jSnd_step fun l ls st g m q h => ?_
  split at h
  · rename_i y x st'
    by_cases hc : y < x
    · rw [if_pos hc] at h
      obtain rfl := Option.some.inj h
      refine jSim_pure rfl (fun _ h1 h2 => ⟨h1, jok_t (jok_t h2)⟩) fun p e R s mth args below meth c D tc A ad H locs cells slots Q lsA hA hce hsl kk => ?_
      have hy : jrg y := jok_h hA.2.2.2.2.2.1
      have hx : jrg x := jok_h (jok_t hA.2.2.2.2.2.1)
      exact lv_icmp_gt (x := Int32.ofInt x) (y := Int32.ofInt y) hA.1.1 hA.1.2.1 hd ht (fun _ => kk lsA hA.2.2.2.1) (fun q => absurd ((jlt hy hx).mpr hc) q)
    · rw [if_neg hc] at h
      obtain rfl := Option.some.inj h
      refine jSim_pure rfl (fun _ h1 h2 => ⟨h1, jok_t (jok_t h2)⟩) fun p e R s mth args below meth c D tc A ad H locs cells slots Q lsA hA hce hsl kk => ?_
      have hy : jrg y := jok_h hA.2.2.2.2.2.1
      have hx : jrg x := jok_h (jok_t hA.2.2.2.2.2.1)
      exact lv_icmp_gt (x := Int32.ofInt x) (y := Int32.ofInt y) hA.1.1 hA.1.2.1 hd ht (fun q => absurd ((jlt hy hx).mp q) hc) (fun _ => kk lsA hA.2.2.2.1)
  · cases h
theorem snd_ic_le {j pc tg : Nat} {off : Int} (hd : decode (tm_c j) pc = .ok (.if_icmp .le off, 3)) (ht : (pc : Int) + off = (tg : Int)) : jSnd j pc (o_ic_le (pc + 3) tg) := by
  refine jSnd_step fun l ls st g m q h => ?_
  split at h
  · rename_i y x st'
    by_cases hc : x ≤ y
    · rw [if_pos hc] at h
      obtain rfl := Option.some.inj h
      refine jSim_pure rfl (fun _ h1 h2 => ⟨h1, jok_t (jok_t h2)⟩) fun p e R s mth args below meth c D tc A ad H locs cells slots Q lsA hA hce hsl kk => ?_
      have hy : jrg y := jok_h hA.2.2.2.2.2.1
      have hx : jrg x := jok_h (jok_t hA.2.2.2.2.2.1)
      exact lv_icmp_le (x := Int32.ofInt x) (y := Int32.ofInt y) hA.1.1 hA.1.2.1 hd ht (fun _ => kk lsA hA.2.2.2.1) (fun q => absurd ((jle hx hy).mpr hc) q)
    · rw [if_neg hc] at h
      obtain rfl := Option.some.inj h
      refine jSim_pure rfl (fun _ h1 h2 => ⟨h1, jok_t (jok_t h2)⟩) fun p e R s mth args below meth c D tc A ad H locs cells slots Q lsA hA hce hsl kk => ?_
      have hy : jrg y := jok_h hA.2.2.2.2.2.1
      have hx : jrg x := jok_h (jok_t hA.2.2.2.2.2.1)
      exact lv_icmp_le (x := Int32.ofInt x) (y := Int32.ofInt y) hA.1.1 hA.1.2.1 hd ht (fun q => absurd ((jle hx hy).mp q) hc) (fun _ => kk lsA hA.2.2.2.1)
  · cases h
theorem snd_goto {j pc tg : Nat} {off : Int} (hd : decode (tm_c j) pc = .ok (.goto off, 3)) (ht : (pc : Int) + off = (tg : Int)) : jSnd j pc (o_goto tg) := by
  refine jSnd_step fun l ls st g m q h => ?_
  obtain rfl := Option.some.inj h
  refine jSim_pure rfl (fun _ h1 h2 => ⟨h1, h2⟩) fun p e R s mth args below meth c D tc A ad H locs cells slots Q lsA hA hce hsl kk => ?_
  exact lv_goto hA.1.1 hA.1.2.1 hd ht (kk lsA hA.2.2.2.1)
theorem snd_ifnull {j pc tg : Nat} {off : Int} (hd : decode (tm_c j) pc = .ok (.ifnull off, 3)) (ht : (pc : Int) + off = (tg : Int)) : jSnd j pc (o_ifnull (pc + 3) tg) := by
  refine jSnd_step fun l ls st g m q h => ?_
  split at h
  · obtain rfl := Option.some.inj h
    refine jSim_pure rfl (fun _ h1 h2 => ⟨h1, jok_t h2⟩) fun p e R s mth args below meth c D tc A ad H locs cells slots Q lsA hA hce hsl kk => ?_
    exact lv_ifnullN hA.1.1 hA.1.2.1 hd ht (kk lsA hA.2.2.2.1)
  · obtain rfl := Option.some.inj h
    refine jSim_pure rfl (fun _ h1 h2 => ⟨h1, jok_t h2⟩) fun p e R s mth args below meth c D tc A ad H locs cells slots Q lsA hA hce hsl kk => ?_
    exact lv_ifnull hA.1.1 hA.1.2.1 hd (kk lsA hA.2.2.2.1)
  · cases h
theorem snd_ifnonnull {j pc tg : Nat} {off : Int} (hd : decode (tm_c j) pc = .ok (.ifnonnull off, 3)) (ht : (pc : Int) + off = (tg : Int)) : jSnd j pc (o_ifnonnull (pc + 3) tg) := by
  refine jSnd_step fun l ls st g m q h => ?_
  split at h
  · obtain rfl := Option.some.inj h
    refine jSim_pure rfl (fun _ h1 h2 => ⟨h1, jok_t h2⟩) fun p e R s mth args below meth c D tc A ad H locs cells slots Q lsA hA hce hsl kk => ?_
    exact lv_ifnonnullN hA.1.1 hA.1.2.1 hd (kk lsA hA.2.2.2.1)
  · obtain rfl := Option.some.inj h
    refine jSim_pure rfl (fun _ h1 h2 => ⟨h1, jok_t h2⟩) fun p e R s mth args below meth c D tc A ad H locs cells slots Q lsA hA hce hsl kk => ?_
    exact lv_ifnonnull hA.1.1 hA.1.2.1 hd ht (kk lsA hA.2.2.2.1)
  · cases h
theorem snd_dup {j pc : Nat} (hd : decode (tm_c j) pc = .ok (.dup, 1)) : jSnd j pc (o_dup (pc + 1)) := by
  refine jSnd_step fun l ls st g m q h => ?_
  split at h
  · obtain rfl := Option.some.inj h
    refine jSim_pure rfl (fun _ h1 h2 => ⟨h1, jok_cons (jok_h h2) h2⟩) fun p e R s mth args below meth c D tc A ad H locs cells slots Q lsA hA hce hsl kk => ?_
    exact lv_dup hA.1.1 hA.1.2.1 hd (jcv_cat _ _) (kk lsA hA.2.2.2.1)
  · cases h
theorem snd_dup2 {j pc : Nat} (hd : decode (tm_c j) pc = .ok (.dup2, 1)) : jSnd j pc (o_dup2 (pc + 1)) := by
  refine jSnd_step fun l ls st g m q h => ?_
  split at h
  · obtain rfl := Option.some.inj h
    refine jSim_pure rfl (fun _ h1 h2 => ⟨h1, jok_cons (jok_h h2) (jok_cons (jok_h (jok_t h2)) h2)⟩) fun p e R s mth args below meth c D tc A ad H locs cells slots Q lsA hA hce hsl kk => ?_
    exact lv_dup2_11 hA.1.1 hA.1.2.1 hd (jcv_cat _ _) (jcv_cat _ _) (kk lsA hA.2.2.2.1)
  · cases h
theorem snd_dupx1 {j pc : Nat} (hd : decode (tm_c j) pc = .ok (.dup_x1, 1)) : jSnd j pc (o_dupx1 (pc + 1)) := by
  refine jSnd_step fun l ls st g m q h => ?_
  split at h
  · obtain rfl := Option.some.inj h
    refine jSim_pure rfl (fun _ h1 h2 => ⟨h1, jok_cons (jok_h h2) (jok_cons (jok_h (jok_t h2)) (jok_cons (jok_h h2) (jok_t (jok_t h2))))⟩) fun p e R s mth args below meth c D tc A ad H locs cells slots Q lsA hA hce hsl kk => ?_
    exact lv_dup_x1 hA.1.1 hA.1.2.1 hd (jcv_cat _ _) (jcv_cat _ _) (kk lsA hA.2.2.2.1)
  · cases h
theorem snd_dupx2 {j pc : Nat} (hd : decode (tm_c j) pc = .ok (.dup_x2, 1)) : jSnd j pc (o_dupx2 (pc + 1)) := by
  refine jSnd_step fun l ls st g m q h => ?_
  split at h
  · obtain rfl := Option.some.inj h
    refine jSim_pure rfl (fun _ h1 h2 => ⟨h1, jok_cons (jok_h h2) (jok_cons (jok_h (jok_t h2)) (jok_cons (jok_h (jok_t (jok_t h2))) (jok_cons (jok_h h2) (jok_t (jok_t (jok_t h2))))))⟩) fun p e R s mth args below meth c D tc A ad H locs cells slots Q lsA hA hce hsl kk => ?_
    exact lv_dup_x2 hA.1.1 hA.1.2.1 hd (jcv_cat _ _) (jcv_cat _ _) (jcv_cat _ _) (kk lsA hA.2.2.2.1)
  · cases h
theorem snd_pop {j pc : Nat} (hd : decode (tm_c j) pc = .ok (.pop, 1)) : jSnd j pc (o_pop (pc + 1)) := by
  refine jSnd_step fun l ls st g m q h => ?_
  split at h
  · obtain rfl := Option.some.inj h
    refine jSim_pure rfl (fun _ h1 h2 => ⟨h1, jok_t h2⟩) fun p e R s mth args below meth c D tc A ad H locs cells slots Q lsA hA hce hsl kk => ?_
    exact lv_pop hA.1.1 hA.1.2.1 hd (jcv_cat _ _) (kk lsA hA.2.2.2.1)
  · cases h
