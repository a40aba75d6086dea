theorem jpop_spec : ∀ (n : Nat) (acc st as rest : List jV), jpop n acc st = some (as, rest) → ∃ ys, st = ys ++ rest ∧ as = ys.reverse ++ acc ∧ ys.length = n
  | 0, acc, st, as, rest, h => by
    cases h
    exact ⟨[], rfl, rfl, rfl⟩
  | n + 1, acc, [], as, rest, h => by cases h
  | n + 1, acc, v :: st, as, rest, h => by
    obtain ⟨ys, e1, e2, e3⟩ := jpop_spec n (v :: acc) st as rest h
    exact ⟨v :: ys, by rw [e1]; rfl, by rw [e2]; simp, by simp [e3]⟩
theorem jlv_args (ad : Nat → Nat) : ∀ (vs : List jV) (i k : Nat) (v : jV), vs[k]? = some v → (i + k, jcv ad v) ∈ lv_args i (vs.map (jcv ad))
  | [], i, k, v, h => by simp at h
  | w :: vs, i, 0, v, h => by
    cases h
    exact List.mem_cons_self
  | w :: vs, i, k + 1, v, h => by
    have h2 := jlv_args ad vs (i + 1) k v (by simpa using h)
    show _ ∈ (i, jcv ad w) :: lv_args (if (jcv ad w).category = 2 then i + 2 else i + 1) (vs.map (jcv ad))
    rw [jcv_cat, if_neg (by decide)]
    rw [show i + (k + 1) = i + 1 + k by omega]
    exact List.mem_cons_of_mem _ h2
theorem jlg_len (ad : Nat → Nat) : ∀ vs : List jV, (lg_sl (vs.map (jcv ad))).length = vs.length
  | [] => rfl
  | v :: vs => by
    have h := jlg_len ad vs
    unfold lg_sl at h ⊢
    rw [List.map_cons, List.flatMap_cons, List.length_append, h, jcv_cat, if_neg (by decide), List.length_cons, List.length_cons, List.length_nil]
    omega
def jrv (ad : Nat → Nat) (r : jV) : Option Value := match r with
  | Sum.inr (Sum.inr _) => none
  | v => some (jcv ad v)
def jws (j : Nat) : List Cond := Cond.code (tm_y j) (tm_c j) (tm_l j) (tm_r j) :: jgw
def jrm (j : Nat) (g : jG) (res : jR) : Room := { frames := tm_f j, cells := jcl g res.2.1, slots := jsl g res.2.1, locals := tm_o j }
def jPre (D : va_G) (tc : Nat → ClassId) (ad : Nat → Nat) (g : jG) (m : jM) (sz : Nat) (U : State) : Prop := U.heap.size = sz ∧ va_P D vwCl (jcw tc ad g m) U.heap ∧ va_K D vwCl (jtys tc) U ∧ va_D (fun _ => True) (jcw tc ad g m) ∧ jNs U
def jQc (j : Nat) (D : va_G) (tc : Nat → ClassId) (ad : Nat → Nat) (g : jG) (m : jM) (sz : Nat) (res : jR) : Array Value → State → Outcome → State → Prop := fun _ st o t =>
  (∃ ad' : Nat → Nat, (∀ a, a < g.1.length → ad' a = ad a) ∧ o = .returned (jrv ad' res.1) ∧ va_P D vwCl (jcw tc ad' res.2.1 res.2.2) t.heap ∧ va_D (va_A (jcw tc ad g m) sz) (jcw tc ad' res.2.1 res.2.2) ∧ jom res.2.1 res.2.2 ∧ jok res.2.1.1.length res.1 ∧ (res.1 = jU ↔ tm_r j = none)) ∧ va_F (va_A (jcw tc ad g m) sz) st t
set_option maxHeartbeats 1000000 in
/-- a run of the small machine is a contract -/
theorem jMet {l : Launch} {j : Nat} {vs : List jV} {g : jG} {m : jM} {res : jR} {D : va_G} {tc : Nat → ClassId} {ad : Nat → Nat} {sz : Nat} (h : jWs l j 0 (vs ++ List.replicate (tm_l j - vs.length) jU) [] g m res) (hj : j ≠ tm_law) (hy : plainName (tm_y j).cls = true) (hvs : ∀ v ∈ vs, jok g.1.length v) (hlen : vs.length ≤ tm_l j) (hm : jom g m) :
    Met l (tm_y j) (jws j) (jrm j g res) (va_Pc (vs.map (jcv ad)) (jPre D tc ad g m sz)) (jQc j D tc ad g m sz res) (jcl g res.2.1) (jsl g res.2.1) (va_A (jcw tc ad g m) sz) := by
  refine Met.ofW (cc := tm_c j) (maxL := tm_l j) (ret := tm_r j) hy rfl ?_
  intro p e s mth args below meth c s₁ B hml hv
  obtain ⟨rfl, hsz, hP, hK, hD0, hN⟩ := hv
  subst hsz
  have hts := atoms_spec (ws := jws j) B.pre
  have hown : s.vm.findClass (tm_y j).cls = some mth.cls := findClass_of_methodNamed B.named
  have hCx : jCx j p (headSpec (jws j) (jrm j g res)).room s mth (vs.map (jcv ad)).toArray meth c D tc := ⟨B.exec, B.bytes, B.returns, hml, hown, fun w hw => hts w (List.mem_cons_of_mem _ hw), B.notSynchronized, fun q => (name_of_methodNamed B.named B.method).1.trans q, Nat.le_refl _, Nat.le_refl _, hK, hN⟩
  have hl := lv_entry (vs.map (jcv ad)) (n := tm_l j) (by rw [jlg_len]; exact hlen)
  rw [lg_entry_eq]
  generalize (lg_sl (vs.map (jcv ad)) ++ List.replicate (tm_l j - (lg_sl (vs.map (jcv ad))).length) Slot.unset).toArray = lsA at hl ⊢
  have hll : (vs ++ List.replicate (tm_l j - vs.length) jU).length = tm_l j := by simp; omega
  have hL : jL ad (vs ++ List.replicate (tm_l j - vs.length) jU) lsA := by
    refine ⟨hl.1.trans hll.symm, hl.2.1, fun q hq => ?_⟩
    obtain ⟨v, h1, h2, h3⟩ := jlv_of hq
    obtain ⟨k, V⟩ := q
    simp only at h1 h3
    subst h3
    by_cases hk : k < vs.length
    · rw [List.getElem?_append_left hk] at h1
      have h4 := jlv_args ad vs 0 k v h1
      rw [Nat.zero_add] at h4
      exact hl.2.2 _ h4
    · rw [List.getElem?_append_right (by omega)] at h1
      exact absurd (List.eq_of_mem_replicate (List.mem_of_getElem? h1)) h2
  have hok : ∀ v ∈ vs ++ List.replicate (tm_l j - vs.length) jU, jok g.1.length v := by
    intro v hv
    rcases List.mem_append.mp hv with q | q
    · exact hvs v q
    · rw [List.eq_of_mem_replicate q]; trivial
  obtain ⟨hx, hw⟩ := h hm.2.2.2
  refine hw p e _ s mth _ below meth c D tc (va_A (jcw tc ad g m) s.heap.size) ad s.heap [] 0 0 _ lsA ⟨hCx, fun q hq => Or.inr hq, ⟨hP, hD0.self, va_S.rf, hm⟩, hL, hok, fun v hv => by simp at hv, hll, fun hj' => absurd hj' hj⟩ (by rw [Nat.zero_add]; exact Nat.le_refl _) (by rw [Nat.zero_add]; exact Nat.le_refl _) fun ad' H' locs' lsA' pc' ag hR hk hr => ?_
  rw [Nat.zero_add, Nat.zero_add]
  obtain ⟨r, g', m'⟩ := res
  have hq : ∀ (v : Option Value) (t : State), v = jrv ad' r → (r = jU ↔ tm_r j = none) → t.heap = H' → jQc j D tc ad g m s.heap.size (r, g', m') (vs.map (jcv ad)).toArray s (.returned v) t := fun v t hv hu ht =>
    ⟨⟨ad', ag, by rw [hv], by rw [ht]; exact hR.1, hR.2.1, hR.2.2.2, hk, hu⟩, hR.2.2.1.F ht⟩
  rcases r with x | o | u
  · obtain ⟨hd, hr | ⟨hr, hx01⟩⟩ := hr
    · exact W.iret B.exec B.bytes (B.returns.trans hr) (fun t ht _ => hq _ t rfl ⟨fun q => (by cases q), fun q => (by rw [hr] at q; cases q)⟩ ht) hR.2.2.1.2.2 hd (hlocks := B.notSynchronized)
    · exact W.zret (ty := .boolean) B.exec B.bytes (B.returns.trans hr) (by rcases hx01 with rfl | rfl <;> decide) (fun t ht _ => hq _ t rfl ⟨fun q => (by cases q), fun q => (by rw [hr] at q; cases q)⟩ ht) hR.2.2.1.2.2 hd (hlocks := B.notSynchronized)
  · obtain ⟨hd, n, hr⟩ := hr
    exact W.aret B.exec B.bytes (B.returns.trans hr) (Or.inl ⟨n, rfl⟩) (by cases o with
      | none => exact Or.inl rfl
      | some a => exact Or.inr ⟨_, rfl⟩) (fun t ht _ => hq _ t rfl ⟨fun q => (by cases q), fun q => (by rw [hr] at q; cases q)⟩ ht) hR.2.2.1.2.2 hd (hlocks := B.notSynchronized)
  · obtain ⟨hd, hr⟩ := hr
    exact W.vret B.exec B.bytes (B.returns.trans hr) (fun t ht _ => hq _ t rfl ⟨fun _ => hr, fun _ => rfl⟩ ht) hR.2.2.1.2.2 hd (hlocks := B.notSynchronized)
theorem jgood {l : List Cond} (h : ∀ w ∈ l, w ∈ jgw) : GoodIn jgw l := fun w hw => ⟨h w hw, good_of_word (List.mem_filter.mp (h w hw)).2⟩
theorem jgood_ws {j : Nat} (hcw : Cond.code (tm_y j) (tm_c j) (tm_l j) (tm_r j) ∈ jgw) : GoodIn jgw (jws j) := jgood fun w hw => by
  rcases List.mem_cons.mp hw with rfl | q
  · exact hcw
  · exact q
theorem jblind {D : va_G} {tc : Nat → ClassId} {ad : Nat → Nat} {g : jG} {m : jM} {sz : Nat} {vs : List Value} : FrameBlind (va_Pc vs (jPre D tc ad g m sz)) := by
  intro a U f mk q
  obtain ⟨q0, q1, qP, qK, qD, qN⟩ := q
  exact ⟨q0, q1, qP, va_K.moved (u := U) (U := U.calling f mk a) (Vm.Alike.refl U.vm) qK, qD, jNs_vm (s := U) (U := U.calling f mk a) rfl (Vm.Alike.refl U.vm) qN⟩
set_option maxHeartbeats 1000000 in
theorem snd_callG {j pc j' n rc : Nat} {vd : Bool} (hvd : vd = true ↔ tm_r j' = none)
    (HR : ∀ (l : Launch) (as rest : List jV) (g : jG) (m : jM) (res : jR), jWs l j' 0 (as ++ List.replicate (tm_l j' - n) jU) [] g m res → as.length = n → jrc rc g as = true → rest.length ≤ 8 →
      ∀ (p : Program) (e : Env) (R : Room) (s : State) (mth : MethodId) (args : Array Value) (below : List Frame) (meth : Method) (c : Code) (D : va_G) (tc : Nat → ClassId) (A : Nat → Prop) (ad : Nat → Nat) (H : Heap) (locs : List Loc) (cells slots : Nat) (lsA : Array Slot) (ls : List jV), jAt j p R s mth args meth c D tc A ad ls (as.reverse ++ rest) g m H locs lsA → cells + jcl g res.2.1 ≤ R.cells → slots + jsl g res.2.1 ≤ R.slots →
        va_Run p l e R s mth args below meth c H locs cells slots (jcl g res.2.1) (jsl g res.2.1) (F0 mth pc lsA ((as.reverse ++ rest).map (jcv ad))) (rest.map (jcv ad)) (jQc j' D tc ad g m H.size res #[]) (va_A (jcw tc ad g m) H.size)) : jSnd j pc (o_call (pc + 3) j' n (tm_l j') rc vd) := by
  intro l k hk ls st g m res e
  obtain ⟨⟨as, rest⟩, h1, h2⟩ := Option.bind_eq_some_iff.mp e
  by_cases hc : jrc rc g as = true ∧ rest.length ≤ 8
  · have h2 := (if_pos hc).symm.trans h2
    obtain ⟨r1, h3, h4⟩ := Option.bind_eq_some_iff.mp h2
    have w1 := hk _ _ _ _ _ _ _ h3
    have w2 := hk _ _ _ _ _ _ _ h4
    obtain ⟨ys, e1, e2, e3⟩ := jpop_spec _ _ _ _ _ h1
    have hst : st = as.reverse ++ rest := by rw [e1, e2]; simp
    have hnl : as.length = n := by rw [e2]; simpa using e3
    clear e h1 h2 e1 e2 e3
    subst hst
    intro h9
    have h0 : 0 < g.1.length := jsh_lt (a := 0) (by rw [h9]; decide)
    obtain ⟨x1, -⟩ := w1 h9
    obtain ⟨x2, v2⟩ := w2 (by rw [x1.sh h0]; exact h9)
    have l1 := x1.len
    have l2 := x2.len
    have z1 := x1.sz
    have z2 := x2.sz
    refine ⟨x1.trans x2, fun p e R s mth args below meth c D tc A ad H locs cells slots Q lsA hA hce hsl fin => ?_⟩
    have b1 : cells + jcl g r1.2.1 ≤ R.cells := by unfold jcl at *; omega
    have b2 : slots + jsl g r1.2.1 ≤ R.slots := by unfold jsl at *; omega
    have hrun := HR l as rest g m r1 w1 hnl hc.1 hc.2 p e R s mth args below meth c D tc A ad H locs cells slots lsA ls hA b1 b2
    obtain ⟨hC, hAA, hR, hL, k1, k2, hn, hX⟩ := hA
    intro T hT X
    obtain ⟨v, st₀, t, T', L, q0, X', hL', q1, q2, ⟨⟨ad1, ag, hv, hP1, hD1, hm1, hk1, hu1⟩, hz, hkk⟩, stp⟩ := hrun T hT X
    cases hv
    rw [q0] at hz hkk
    have hF : ∀ q, va_A (jcw tc ad g m) H.size q → A q := by
      intro q hq
      rcases hq with ⟨i, E, hq⟩ | hq
      · exact hR.2.1.2 i _ hq
      · exact hAA q (Nat.le_trans hR.2.2.1.1 hq)
    have hS1 : va_S A s.heap T'.heap (locs ++ L) := ⟨Nat.le_trans hR.2.2.1.1 (by rw [q1]; exact hz), fun q a1 a2 => by
      rw [q1, hkk q (Nat.lt_of_lt_of_le a1 hR.2.2.1.1) (fun z => a2 (hF q z))]
      exact hR.2.2.1.2.1 q a1 a2, fun q hq => by
      rcases List.mem_append.mp hq with a | a
      · exact hR.2.2.1.2.2 q a
      · exact hF _ (hL' q a)⟩
    have krest : ∀ w ∈ rest, jok g.1.length w := fun w hw => k2 w (List.mem_append_right _ hw)
    have hst1 : ∀ w ∈ (if vd = true then rest else r1.1 :: rest), jok r1.2.1.1.length w := by
      intro w hw
      split at hw
      · exact jok_mono (krest w hw) l1
      · rcases List.mem_cons.mp hw with rfl | hw
        · exact hk1
        · exact jok_mono (krest w hw) l1
    have hAt1 : jAt j p R s mth args meth c D tc A ad1 ls (if vd = true then rest else r1.1 :: rest) r1.2.1 r1.2.2 T'.heap (locs ++ L) lsA :=
      ⟨hC, hAA, ⟨by rw [q1]; exact hP1, hD1.weaken (fun i q _ hq => hF q.1 hq), hS1, hm1⟩, jL_ag ag k1 hL, fun w hw => jok_mono (k1 w hw) l1, hst1, hn, hX.ext x1 h9 ag⟩
    have hW := v2 p e R s mth args below meth c D tc A ad1 T'.heap (locs ++ L) (cells + jcl g r1.2.1) (slots + jsl g r1.2.1) Q lsA hAt1 (by unfold jcl at *; omega) (by unfold jsl at *; omega) (fun ad2 H2 locs2 lsA2 pc2 ag2 hR2 hk2 hr2 => by
      have kf := fin ad2 H2 locs2 lsA2 pc2 (fun a ha => (ag2 a (by omega)).trans (ag a ha)) hR2 hk2 hr2
      have c1 : cells + jcl g r1.2.1 + jcl r1.2.1 res.2.1 = cells + jcl g res.2.1 := by unfold jcl; omega
      have c2 : slots + jsl g r1.2.1 + jsl r1.2.1 res.2.1 = slots + jsl g res.2.1 := by unfold jsl; omega
      rw [c1, c2]
      exact kf)
    obtain ⟨t2, a1, a2⟩ := hW T' rfl X'
    refine ⟨t2, stp t2 ?_, a2⟩
    have es : (jrv ad1 r1.1).toList ++ rest.map (jcv ad) = (if vd = true then rest else r1.1 :: rest).map (jcv ad1) := by
      by_cases hvt : vd = true
      · rw [if_pos hvt, jmap_ag ag krest, hu1.mpr (hvd.mp hvt)]
        rfl
      · rw [if_neg hvt, List.map_cons, jmap_ag ag krest]
        have hne : r1.1 ≠ jU := fun q => hvt (hvd.mpr (hu1.mp q))
        have : jrv ad1 r1.1 = some (jcv ad1 r1.1) := by
          rcases hr : r1.1 with x | o | u
          · rfl
          · rfl
          · exact absurd hr hne
        rw [this]
        rfl
    show Steps p.tables e below (T'.setTop (F0 mth (pc + 3) lsA ((jrv ad1 r1.1).toList ++ rest.map (jcv ad)))) t2
    rw [es]
    exact a1
  · have h2 := (if_neg hc).symm.trans h2
    cases h2
theorem jrc_obj {rc : Nat} {g : jG} {as : List jV} (h0 : rc ≠ 0) (h : jrc rc g as = true) : ∃ a as', as = jO (some a) :: as' ∧ (jsh g a).1 = rc := by
  have hz : (rc == 0) = false := by simpa using h0
  rcases as with _ | ⟨v, as'⟩
  · simp [jrc, hz] at h
  · rcases v with x | (_ | a) | u
    · simp [jrc, hz] at h
    · simp [jrc, hz] at h
    · refine ⟨a, as', rfl, ?_⟩
      simpa [jrc, hz] using h
    · simp [jrc, hz] at h
theorem jpre_ok {j : Nat} {p : Program} {R : Room} {s : State} {mth : MethodId} {args : Array Value} {meth : Method} {c : Code} {D : va_G} {tc : Nat → ClassId} {A : Nat → Prop} {ad : Nat → Nat} {ls st : List jV} {g : jG} {m : jM} {H : Heap} {locs : List Loc} {lsA : Array Slot} (hA : jAt j p R s mth args meth c D tc A ad ls st g m H locs lsA) (U : State) (hU : U.heap = H) (hW : s.WarmedH U.vm) : jPre D tc ad g m H.size U := by
  have hK := hA.1.2.2.2.2.2.2.2.2.2.2.1
  exact ⟨by rw [hU], by rw [hU]; exact hA.2.2.1.1, va_K.moved hW.alike hK, hA.2.2.1.2.1.weaken (fun _ _ _ _ => trivial), jNs_warm hW hA.1.2.2.2.2.2.2.2.2.2.2.2⟩
set_option maxHeartbeats 1000000 in
theorem snd_callV {j pc j' n idx : Nat} {vd : Bool} {ci N : Nat} {T : u_T} (hc : vwCl[ci]? = some ((tm_y j').cls, T, N)) (hd : decode (tm_c j) pc = .ok (.invokevirtual idx, 3)) (hvd : vd = true ↔ tm_r j' = none) (hj : j' ≠ tm_law) (hy : plainName (tm_y j').cls = true) (hcw : Cond.code (tm_y j') (tm_c j') (tm_l j') (tm_r j') ∈ jgw) (w1 : Cond.methodLink (tm_y j).cls idx (tm_y j') ∈ jgw) (w2 : Cond.instanceMethod (tm_y j') ∈ jgw) (w3 : Cond.selects (tm_y j').cls (tm_y j') (tm_y j') ∈ jgw) (w4 : Cond.initialized (tm_y j').cls ∈ jgw) (hyd : (tm_y j').cls ≠ "java/lang/invoke/MethodHandle" ∧ (tm_y j').cls ≠ "java/lang/invoke/VarHandle" ∧ (parseMethodDescriptor (tm_y j').desc).map (fun d => d.parameters.length) = some n) (hnl : n + 1 ≤ tm_l j') (hR : tm_f j' + 1 ≤ tm_f j ∧ 8 + (tm_l j' + 11) + tm_o j' ≤ tm_o j) : jSnd j pc (o_call (pc + 3) j' (n + 1) (tm_l j') (10 + ci) vd) := by
  refine snd_callG hvd fun l as rest g m res hw hnn hrc hrest p e R s mth args below meth c D tc A ad H locs cells slots lsA ls hA hce hsl => ?_
  have hm := hA.2.2.1.2.2.2
  have hts := hA.1.2.2.2.2.2.1
  have hRR : (jrm j' g res).frames + 1 ≤ R.frames ∧ 8 + (tm_l j' + 11) + (jrm j' g res).locals ≤ R.locals := ⟨Nat.le_trans hR.1 hA.1.2.2.2.2.2.2.2.2.1, Nat.le_trans hR.2 hA.1.2.2.2.2.2.2.2.2.2.1⟩
  have hvs : ∀ v ∈ as, jok g.1.length v := fun v hv => hA.2.2.2.2.2.1 v (List.mem_append_left _ (List.mem_reverse.mpr hv))
  rw [← hnn] at hw
  have hM := jMet (D := D) (tc := tc) (ad := ad) (sz := H.size) hw hj hy hvs (by rw [hnn]; exact hnl) hm
  have hsz : (F0 mth pc lsA ((as.reverse ++ rest).map (jcv ad))).locals.size = tm_l j := hA.2.2.2.1.1.trans hA.2.2.2.2.2.2.1
  have hWr : 2 * (F0 mth pc lsA ((as.reverse ++ rest).map (jcv ad))).monitorRoom + ((rest.map (jcv ad)).map fun v => v.category).sum ≤ 8 := lv_room (by rw [jcat_sum]; exact hrest)
  obtain ⟨a, as', rfl, hs⟩ := jrc_obj (by omega) hrc
  have hst : ((jO (some a) :: as').reverse ++ rest).map (jcv ad) = (as'.map (jcv ad)).reverse ++ .ref (ad a) :: rest.map (jcv ad) := by
    simp [jcv, jO, va_rf]
  exact va_runV (As := (as'.map (jcv ad))) (rest := rest.map (jcv ad)) (C := (tm_y j').cls) (b := ad a) (g := F0 mth pc lsA _) ⟨hA.1.1, hA.1.2.1, hA.1.2.2.2.1, hA.1.2.2.2.2.1, hts⟩ hM ⟨callB_of n hts (jgood_ws hcw) rfl rfl rfl (hts _ w4) (hts _ w1) hyd hRR, hts _ w2, hts _ w3⟩ ⟨jblind, va_recv hA.1.2.2.2.2.2.2.2.2.2.2.1 hA.2.2.1.1 hc (jcw_obj hm hs), fun U hU hW => ⟨rfl, jpre_ok hA U hU hW⟩⟩ rfl (by simpa using hnn) hsz hst hWr hd ⟨hce, hsl⟩
set_option maxHeartbeats 1000000 in
theorem snd_callVN {j pc j' n idx : Nat} {vd : Bool} {host : String} {ci N : Nat} {T : u_T} (hc : vwCl[ci]? = some ((tm_y j').cls, T, N)) (hd : decode (tm_c j) pc = .ok (.invokevirtual idx, 3)) (hvd : vd = true ↔ tm_r j' = none) (hj : j' ≠ tm_law) (hy : plainName (tm_y j').cls = true) (hcw : Cond.code (tm_y j') (tm_c j') (tm_l j') (tm_r j') ∈ jgw) (w1 : Cond.methodLinkNest (tm_y j).cls idx (tm_y j') host ∈ lw_tbl) (w2 : Cond.instanceMethod (tm_y j') ∈ jgw) (w3 : Cond.selects (tm_y j').cls (tm_y j') (tm_y j') ∈ jgw) (w4 : Cond.initialized (tm_y j').cls ∈ jgw) (hyd : (tm_y j').cls ≠ "java/lang/invoke/MethodHandle" ∧ (tm_y j').cls ≠ "java/lang/invoke/VarHandle" ∧ (parseMethodDescriptor (tm_y j').desc).map (fun d => d.parameters.length) = some n) (hnl : n + 1 ≤ tm_l j') (hR : tm_f j' + 1 ≤ tm_f j ∧ 8 + (tm_l j' + 11) + tm_o j' ≤ tm_o j) : jSnd j pc (o_call (pc + 3) j' (n + 1) (tm_l j') (10 + ci) vd) := by
  refine snd_callG hvd fun l as rest g m res hw hnn hrc hrest p e R s mth args below meth c D tc A ad H locs cells slots lsA ls hA hce hsl => ?_
  have hm := hA.2.2.1.2.2.2
  have hts := hA.1.2.2.2.2.2.1
  have hRR : (jrm j' g res).frames + 1 ≤ R.frames ∧ 8 + (tm_l j' + 11) + (jrm j' g res).locals ≤ R.locals := ⟨Nat.le_trans hR.1 hA.1.2.2.2.2.2.2.2.2.1, Nat.le_trans hR.2 hA.1.2.2.2.2.2.2.2.2.2.1⟩
  have hvs : ∀ v ∈ as, jok g.1.length v := fun v hv => hA.2.2.2.2.2.1 v (List.mem_append_left _ (List.mem_reverse.mpr hv))
  rw [← hnn] at hw
  have hM := jMet (D := D) (tc := tc) (ad := ad) (sz := H.size) hw hj hy hvs (by rw [hnn]; exact hnl) hm
  have hsz : (F0 mth pc lsA ((as.reverse ++ rest).map (jcv ad))).locals.size = tm_l j := hA.2.2.2.1.1.trans hA.2.2.2.2.2.2.1
  have hWr : 2 * (F0 mth pc lsA ((as.reverse ++ rest).map (jcv ad))).monitorRoom + ((rest.map (jcv ad)).map fun v => v.category).sum ≤ 8 := lv_room (by rw [jcat_sum]; exact hrest)
  obtain ⟨a, as', rfl, hs⟩ := jrc_obj (by omega) hrc
  have hst : ((jO (some a) :: as').reverse ++ rest).map (jcv ad) = (as'.map (jcv ad)).reverse ++ .ref (ad a) :: rest.map (jcv ad) := by
    simp [jcv, jO, va_rf]
  exact va_runVN (As := (as'.map (jcv ad))) (rest := rest.map (jcv ad)) (C := (tm_y j').cls) (b := ad a) (g := F0 mth pc lsA _) ⟨hA.1.1, hA.1.2.1, hA.1.2.2.2.1, hA.1.2.2.2.2.1, hts⟩ hM ⟨va_cnB n hts (jgood_ws hcw) rfl rfl rfl (hA.1.2.2.2.2.2.2.2.2.2.2.2.1 _ w1 rfl) (hts _ w4) hyd hRR, hts _ w2, hts _ w3⟩ ⟨jblind, va_recv hA.1.2.2.2.2.2.2.2.2.2.2.1 hA.2.2.1.1 hc (jcw_obj hm hs), fun U hU hW => ⟨rfl, jpre_ok hA U hU hW⟩⟩ rfl (by simpa using hnn) hsz hst hWr hd ⟨hce, hsl⟩
set_option maxHeartbeats 1000000 in
theorem snd_callS {j pc j' n idx : Nat} {vd : Bool} (hd : decode (tm_c j) pc = .ok (.invokestatic idx, 3)) (hvd : vd = true ↔ tm_r j' = none) (hj : j' ≠ tm_law) (hy : plainName (tm_y j').cls = true) (hcw : Cond.code (tm_y j') (tm_c j') (tm_l j') (tm_r j') ∈ jgw) (w1 : Cond.methodLink (tm_y j).cls idx (tm_y j') ∈ jgw) (w2 : Cond.static (tm_y j') ∈ jgw) (w4 : Cond.initialized (tm_y j').cls ∈ jgw) (hyd : (tm_y j').cls ≠ "java/lang/invoke/MethodHandle" ∧ (tm_y j').cls ≠ "java/lang/invoke/VarHandle" ∧ (parseMethodDescriptor (tm_y j').desc).map (fun d => d.parameters.length) = some n) (hnl : n ≤ tm_l j') (hR : tm_f j' + 1 ≤ tm_f j ∧ 8 + (tm_l j' + 11) + tm_o j' ≤ tm_o j) : jSnd j pc (o_call (pc + 3) j' (n) (tm_l j') (0) vd) := by
  refine snd_callG hvd fun l as rest g m res hw hnn hrc hrest p e R s mth args below meth c D tc A ad H locs cells slots lsA ls hA hce hsl => ?_
  have hm := hA.2.2.1.2.2.2
  have hts := hA.1.2.2.2.2.2.1
  have hRR : (jrm j' g res).frames + 1 ≤ R.frames ∧ 8 + (tm_l j' + 11) + (jrm j' g res).locals ≤ R.locals := ⟨Nat.le_trans hR.1 hA.1.2.2.2.2.2.2.2.2.1, Nat.le_trans hR.2 hA.1.2.2.2.2.2.2.2.2.2.1⟩
  have hvs : ∀ v ∈ as, jok g.1.length v := fun v hv => hA.2.2.2.2.2.1 v (List.mem_append_left _ (List.mem_reverse.mpr hv))
  rw [← hnn] at hw
  have hM := jMet (D := D) (tc := tc) (ad := ad) (sz := H.size) hw hj hy hvs (by rw [hnn]; exact hnl) hm
  have hsz : (F0 mth pc lsA ((as.reverse ++ rest).map (jcv ad))).locals.size = tm_l j := hA.2.2.2.1.1.trans hA.2.2.2.2.2.2.1
  have hWr : 2 * (F0 mth pc lsA ((as.reverse ++ rest).map (jcv ad))).monitorRoom + ((rest.map (jcv ad)).map fun v => v.category).sum ≤ 8 := lv_room (by rw [jcat_sum]; exact hrest)
  have hst : (as.reverse ++ rest).map (jcv ad) = (as.map (jcv ad)).reverse ++ rest.map (jcv ad) := by simp
  exact va_runS (As := (as.map (jcv ad))) (rest := rest.map (jcv ad)) (g := F0 mth pc lsA _) ⟨hA.1.1, hA.1.2.1, hA.1.2.2.2.1, hA.1.2.2.2.2.1, hts⟩ hM ⟨callB_of n hts (jgood_ws hcw) rfl rfl rfl (hts _ w4) (hts _ w1) hyd hRR, hts _ w2⟩ ⟨jblind, fun U hU hW => ⟨rfl, jpre_ok hA U hU hW⟩⟩ rfl (by simpa using hnn) hsz hst hWr hd ⟨hce, hsl⟩
set_option maxHeartbeats 1000000 in
theorem snd_callSN {j pc j' n idx : Nat} {vd : Bool} {host : String} (hd : decode (tm_c j) pc = .ok (.invokestatic idx, 3)) (hvd : vd = true ↔ tm_r j' = none) (hj : j' ≠ tm_law) (hy : plainName (tm_y j').cls = true) (hcw : Cond.code (tm_y j') (tm_c j') (tm_l j') (tm_r j') ∈ jgw) (w1 : Cond.methodLinkNest (tm_y j).cls idx (tm_y j') host ∈ lw_tbl) (w2 : Cond.static (tm_y j') ∈ jgw) (w4 : Cond.initialized (tm_y j').cls ∈ jgw) (hyd : (tm_y j').cls ≠ "java/lang/invoke/MethodHandle" ∧ (tm_y j').cls ≠ "java/lang/invoke/VarHandle" ∧ (parseMethodDescriptor (tm_y j').desc).map (fun d => d.parameters.length) = some n) (hnl : n ≤ tm_l j') (hR : tm_f j' + 1 ≤ tm_f j ∧ 8 + (tm_l j' + 11) + tm_o j' ≤ tm_o j) : jSnd j pc (o_call (pc + 3) j' (n) (tm_l j') (0) vd) := by
  refine snd_callG hvd fun l as rest g m res hw hnn hrc hrest p e R s mth args below meth c D tc A ad H locs cells slots lsA ls hA hce hsl => ?_
  have hm := hA.2.2.1.2.2.2
  have hts := hA.1.2.2.2.2.2.1
  have hRR : (jrm j' g res).frames + 1 ≤ R.frames ∧ 8 + (tm_l j' + 11) + (jrm j' g res).locals ≤ R.locals := ⟨Nat.le_trans hR.1 hA.1.2.2.2.2.2.2.2.2.1, Nat.le_trans hR.2 hA.1.2.2.2.2.2.2.2.2.2.1⟩
  have hvs : ∀ v ∈ as, jok g.1.length v := fun v hv => hA.2.2.2.2.2.1 v (List.mem_append_left _ (List.mem_reverse.mpr hv))
  rw [← hnn] at hw
  have hM := jMet (D := D) (tc := tc) (ad := ad) (sz := H.size) hw hj hy hvs (by rw [hnn]; exact hnl) hm
  have hsz : (F0 mth pc lsA ((as.reverse ++ rest).map (jcv ad))).locals.size = tm_l j := hA.2.2.2.1.1.trans hA.2.2.2.2.2.2.1
  have hWr : 2 * (F0 mth pc lsA ((as.reverse ++ rest).map (jcv ad))).monitorRoom + ((rest.map (jcv ad)).map fun v => v.category).sum ≤ 8 := lv_room (by rw [jcat_sum]; exact hrest)
  have hst : (as.reverse ++ rest).map (jcv ad) = (as.map (jcv ad)).reverse ++ rest.map (jcv ad) := by simp
  exact va_runSN (As := (as.map (jcv ad))) (rest := rest.map (jcv ad)) (g := F0 mth pc lsA _) ⟨hA.1.1, hA.1.2.1, hA.1.2.2.2.1, hA.1.2.2.2.2.1, hts⟩ hM ⟨va_cnB n hts (jgood_ws hcw) rfl rfl rfl (hA.1.2.2.2.2.2.2.2.2.2.2.2.1 _ w1 rfl) (hts _ w4) hyd hRR, hts _ w2, trivial⟩ ⟨jblind, fun U hU hW => ⟨rfl, jpre_ok hA U hU hW⟩⟩ rfl (by simpa using hnn) hsz hst hWr hd ⟨hce, hsl⟩
set_option maxHeartbeats 1000000 in
theorem snd_callI {j pc j' n idx : Nat} {vd : Bool} {ci N : Nat} {T : u_T} (hc : vwCl[ci]? = some ((tm_y j').cls, T, N)) (hd : decode (tm_c j) pc = .ok (.invokespecial idx, 3)) (hvd : vd = true ↔ tm_r j' = none) (hj : j' ≠ tm_law) (hy : plainName (tm_y j').cls = true) (hcw : Cond.code (tm_y j') (tm_c j') (tm_l j') (tm_r j') ∈ jgw) (w1 : Cond.methodLink (tm_y j).cls idx (tm_y j') ∈ jgw) (w2 : Cond.instanceMethod (tm_y j') ∈ jgw) (w3 : (tm_y j').name = "<init>") (w5 : tm_r j' = none) (w4 : Cond.initialized (tm_y j').cls ∈ jgw) (hyd : (tm_y j').cls ≠ "java/lang/invoke/MethodHandle" ∧ (tm_y j').cls ≠ "java/lang/invoke/VarHandle" ∧ (parseMethodDescriptor (tm_y j').desc).map (fun d => d.parameters.length) = some n) (hnl : n + 1 ≤ tm_l j') (hR : tm_f j' + 1 ≤ tm_f j ∧ 8 + (tm_l j' + 11) + tm_o j' ≤ tm_o j) : jSnd j pc (o_call (pc + 3) j' (n + 1) (tm_l j') (10 + ci) vd) := by
  refine snd_callG hvd fun l as rest g m res hw hnn hrc hrest p e R s mth args below meth c D tc A ad H locs cells slots lsA ls hA hce hsl => ?_
  have hm := hA.2.2.1.2.2.2
  have hts := hA.1.2.2.2.2.2.1
  have hRR : (jrm j' g res).frames + 1 ≤ R.frames ∧ 8 + (tm_l j' + 11) + (jrm j' g res).locals ≤ R.locals := ⟨Nat.le_trans hR.1 hA.1.2.2.2.2.2.2.2.2.1, Nat.le_trans hR.2 hA.1.2.2.2.2.2.2.2.2.2.1⟩
  have hvs : ∀ v ∈ as, jok g.1.length v := fun v hv => hA.2.2.2.2.2.1 v (List.mem_append_left _ (List.mem_reverse.mpr hv))
  rw [← hnn] at hw
  have hM := jMet (D := D) (tc := tc) (ad := ad) (sz := H.size) hw hj hy hvs (by rw [hnn]; exact hnl) hm
  have hsz : (F0 mth pc lsA ((as.reverse ++ rest).map (jcv ad))).locals.size = tm_l j := hA.2.2.2.1.1.trans hA.2.2.2.2.2.2.1
  have hWr : 2 * (F0 mth pc lsA ((as.reverse ++ rest).map (jcv ad))).monitorRoom + ((rest.map (jcv ad)).map fun v => v.category).sum ≤ 8 := lv_room (by rw [jcat_sum]; exact hrest)
  obtain ⟨a, as', rfl, hs⟩ := jrc_obj (by omega) hrc
  have hst : ((jO (some a) :: as').reverse ++ rest).map (jcv ad) = (as'.map (jcv ad)).reverse ++ .ref (ad a) :: rest.map (jcv ad) := by
    simp [jcv, jO, va_rf]
  have hcw2 : jws j' = Cond.code (tm_y j') (tm_c j') (tm_l j') none :: jgw := by unfold jws; rw [w5]
  exact va_runI (As := (as'.map (jcv ad))) (rest := rest.map (jcv ad)) (b := ad a) (g := F0 mth pc lsA _) ⟨hA.1.1, hA.1.2.1, hA.1.2.2.2.1, hA.1.2.2.2.2.1, hts⟩ hM ⟨callB_of n hts (jgood_ws hcw) hcw2 rfl rfl (hts _ w4) (hts _ w1) hyd hRR, w3, hts _ w2⟩ ⟨jblind, fun U hU hW => ⟨rfl, jpre_ok hA U hU hW⟩⟩ rfl (by simpa using hnn) hsz hst hWr hd ⟨hce, hsl⟩
set_option maxHeartbeats 1000000 in
theorem snd_callIN {j pc j' n idx : Nat} {vd : Bool} {host : String} {ci N : Nat} {T : u_T} (hc : vwCl[ci]? = some ((tm_y j').cls, T, N)) (hd : decode (tm_c j) pc = .ok (.invokespecial idx, 3)) (hvd : vd = true ↔ tm_r j' = none) (hj : j' ≠ tm_law) (hy : plainName (tm_y j').cls = true) (hcw : Cond.code (tm_y j') (tm_c j') (tm_l j') (tm_r j') ∈ jgw) (w1 : Cond.methodLinkNest (tm_y j).cls idx (tm_y j') host ∈ lw_tbl) (w2 : Cond.instanceMethod (tm_y j') ∈ jgw) (w3 : (tm_y j').name = "<init>") (w5 : tm_r j' = none) (w4 : Cond.initialized (tm_y j').cls ∈ jgw) (hyd : (tm_y j').cls ≠ "java/lang/invoke/MethodHandle" ∧ (tm_y j').cls ≠ "java/lang/invoke/VarHandle" ∧ (parseMethodDescriptor (tm_y j').desc).map (fun d => d.parameters.length) = some n) (hnl : n + 1 ≤ tm_l j') (hR : tm_f j' + 1 ≤ tm_f j ∧ 8 + (tm_l j' + 11) + tm_o j' ≤ tm_o j) : jSnd j pc (o_call (pc + 3) j' (n + 1) (tm_l j') (10 + ci) vd) := by
  refine snd_callG hvd fun l as rest g m res hw hnn hrc hrest p e R s mth args below meth c D tc A ad H locs cells slots lsA ls hA hce hsl => ?_
  have hm := hA.2.2.1.2.2.2
  have hts := hA.1.2.2.2.2.2.1
  have hRR : (jrm j' g res).frames + 1 ≤ R.frames ∧ 8 + (tm_l j' + 11) + (jrm j' g res).locals ≤ R.locals := ⟨Nat.le_trans hR.1 hA.1.2.2.2.2.2.2.2.2.1, Nat.le_trans hR.2 hA.1.2.2.2.2.2.2.2.2.2.1⟩
  have hvs : ∀ v ∈ as, jok g.1.length v := fun v hv => hA.2.2.2.2.2.1 v (List.mem_append_left _ (List.mem_reverse.mpr hv))
  rw [← hnn] at hw
  have hM := jMet (D := D) (tc := tc) (ad := ad) (sz := H.size) hw hj hy hvs (by rw [hnn]; exact hnl) hm
  have hsz : (F0 mth pc lsA ((as.reverse ++ rest).map (jcv ad))).locals.size = tm_l j := hA.2.2.2.1.1.trans hA.2.2.2.2.2.2.1
  have hWr : 2 * (F0 mth pc lsA ((as.reverse ++ rest).map (jcv ad))).monitorRoom + ((rest.map (jcv ad)).map fun v => v.category).sum ≤ 8 := lv_room (by rw [jcat_sum]; exact hrest)
  obtain ⟨a, as', rfl, hs⟩ := jrc_obj (by omega) hrc
  have hst : ((jO (some a) :: as').reverse ++ rest).map (jcv ad) = (as'.map (jcv ad)).reverse ++ .ref (ad a) :: rest.map (jcv ad) := by
    simp [jcv, jO, va_rf]
  have hcw2 : jws j' = Cond.code (tm_y j') (tm_c j') (tm_l j') none :: jgw := by unfold jws; rw [w5]
  exact va_runIN (As := (as'.map (jcv ad))) (rest := rest.map (jcv ad)) (b := ad a) (g := F0 mth pc lsA _) ⟨hA.1.1, hA.1.2.1, hA.1.2.2.2.1, hA.1.2.2.2.2.1, hts⟩ hM ⟨va_cnB n hts (jgood_ws hcw) hcw2 rfl rfl (hA.1.2.2.2.2.2.2.2.2.2.2.2.1 _ w1 rfl) (hts _ w4) hyd hRR, w3, hts _ w2⟩ ⟨jblind, fun U hU hW => ⟨rfl, jpre_ok hA U hU hW⟩⟩ rfl (by simpa using hnn) hsz hst hWr hd ⟨hce, hsl⟩
def jAll (j : Nat) : Nat → List jOp → Prop
  | _, [] => True
  | k, o :: l => jSnd j k o ∧ jAll j (k + 1) l
