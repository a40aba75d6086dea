/-! bits (the first family is the kit's, pasted as it is given for pasting) -/
def bt (x : Int32) (i : Nat) : Bool := x.toBitVec.getLsbD i
theorem b_ext {x y : Int32} (h : ∀ i, i < 32 → bt x i = bt y i) : x = y := Int32.toBitVec_inj.mp (BitVec.eq_of_getLsbD_eq (fun i hi => h i hi))
theorem b_or (x y : Int32) (i : Nat) : bt (x ||| y) i = (bt x i || bt y i) := by unfold bt; rw [Int32.toBitVec_or, BitVec.getLsbD_or]
theorem b_and (x y : Int32) (i : Nat) : bt (x &&& y) i = (bt x i && bt y i) := by unfold bt; rw [Int32.toBitVec_and, BitVec.getLsbD_and]
theorem b_xor (x y : Int32) (i : Nat) : bt (x ^^^ y) i = (bt x i ^^ bt y i) := by unfold bt; rw [Int32.toBitVec_xor, BitVec.getLsbD_xor]
theorem b_big {x : Int32} {i : Nat} (h : 32 ≤ i) : bt x i = false := BitVec.getLsbD_of_ge _ _ h
theorem b_255 (i : Nat) : bt 255 i = decide (i < 8) := by
  rcases Nat.lt_or_ge i 32 with h | h
  · exact (by decide +kernel : ∀ i, i < 32 → bt 255 i = decide (i < 8)) i h
  · rw [b_big h, decide_eq_false (by omega)]
theorem b_65535 (i : Nat) : bt 65535 i = decide (i < 16) := by
  rcases Nat.lt_or_ge i 32 with h | h
  · exact (by decide +kernel : ∀ i, i < 32 → bt 65535 i = decide (i < 16)) i h
  · rw [b_big h, decide_eq_false (by omega)]
theorem b_m1 : ∀ i, i < 32 → bt (-1) i = true := by decide +kernel
theorem b_0 (i : Nat) : bt 0 i = false := BitVec.getLsbD_zero
theorem s_l : ∀ n, n < 32 → ((nI n &&& 31).toBitVec.smod 32).toNat = n := by decide +kernel
theorem s_u : ∀ n, n < 32 → (((nI n).toUInt32 &&& Int32.toUInt32 31).toBitVec % 32).toNat = n := by decide +kernel
theorem b_shl (n : Nat) (hn : n < 32) (x : Int32) {i : Nat} (hi : i < 32) : bt (x <<< (nI n &&& 31)) i = (decide (n ≤ i) && bt x (i - n)) := by
  unfold bt
  rw [Int32.toBitVec_shiftLeft]
  show (x.toBitVec <<< ((nI n &&& 31).toBitVec.smod 32).toNat).getLsbD i = _
  rw [s_l n hn, BitVec.getLsbD_shiftLeft]
  rcases Nat.lt_or_ge i n with h | h
  · simp [h, Nat.not_le.mpr h]
  · simp [hi, h, Nat.not_lt.mpr h]
theorem b_ushr (n : Nat) (hn : n < 32) (x : Int32) (i : Nat) : bt ((x.toUInt32 >>> ((nI n).toUInt32 &&& Int32.toUInt32 31)).toInt32) i = bt x (n + i) := by
  show (x.toUInt32 >>> ((nI n).toUInt32 &&& Int32.toUInt32 31)).toBitVec.getLsbD i = x.toUInt32.toBitVec.getLsbD (n + i)
  rw [UInt32.toBitVec_shiftRight]
  show (x.toUInt32.toBitVec >>> (((nI n).toUInt32 &&& Int32.toUInt32 31).toBitVec % 32).toNat).getLsbD i = _
  rw [s_u n hn, BitVec.getLsbD_ushiftRight]
theorem b_sshr (n : Nat) (hn : n < 32) (x : Int32) {i : Nat} (hi : i < 32) : bt (x >>> (nI n &&& 31)) i = if n + i < 32 then bt x (n + i) else bt x 31 := by
  unfold bt
  rw [Int32.toBitVec_shiftRight]
  show (x.toBitVec.sshiftRight ((nI n &&& 31).toBitVec.smod 32).toNat).getLsbD i = _
  rw [s_l n hn, BitVec.getLsbD_sshiftRight, BitVec.msb_eq_getLsbD_last]
  simp [hi]
/-! four values of four bits in one number -/
def pntV (k x X : Int) : Int := f_or (f_and X (f_xor (f_shl 15 (4 * k)) (-1))) (f_shl x (4 * k))
def nib (k X : Int) : Int := f_and (f_shr X (4 * k)) 15
def BB (X : Int) (i : Nat) : Bool := bt (Int32.ofInt X) i
theorem b_15 : ∀ i, i < 32 → bt 15 i = decide (i < 4) := by decide +kernel
theorem ofI_nI (n : Nat) : Int32.ofInt (n : Int) = nI n := Int32.ofInt_eq_ofNat
theorem pnt_bit {k : Nat} (hk : k < 4) (x X : Int) {i : Nat} (hi : i < 32) : BB (pntV k x X) i = ((BB X i && !(decide (4 * k ≤ i) && decide (i - 4 * k < 4))) || (decide (4 * k ≤ i) && BB x (i - 4 * k))) := by
  unfold BB pntV
  rw [jf_or, b_or, jf_and, b_and, jf_xor, b_xor, jf_shl, jf_shl]
  have e : Int32.ofInt (4 * (k : Int)) = nI (4 * k) := by
    rw [← ofI_nI]
    rfl
  rw [e, b_shl (4 * k) (by omega) _ hi, b_shl (4 * k) (by omega) _ hi, show Int32.ofInt (-1) = -1 from by decide, b_m1 i hi, show Int32.ofInt 15 = 15 from by decide, b_15 (i - 4 * k) (by omega)]
  cases (decide (4 * k ≤ i) && decide (i - 4 * k < 4)) <;> simp
theorem nib_bit {k : Nat} (hk : k < 4) (X : Int) {i : Nat} (hi : i < 32) : BB (nib k X) i = (decide (i < 4) && BB X (4 * k + i)) := by
  unfold BB nib
  rw [jf_and, b_and, jf_shr]
  have e : Int32.ofInt (4 * (k : Int)) = nI (4 * k) := by
    rw [← ofI_nI]
    rfl
  rw [e, b_sshr (4 * k) (by omega) _ hi, show Int32.ofInt 15 = 15 from by decide, b_15 i hi]
  by_cases h4 : i < 4
  · rw [if_pos (by omega), decide_eq_true h4]
    simp
  · rw [decide_eq_false h4]
    simp
theorem BB_inj {X Y : Int} (hX : jrg X) (hY : jrg Y) (h : ∀ i, i < 32 → BB X i = BB Y i) : X = Y := by
  have := b_ext h
  exact (jeq hX hY).mp this
theorem nib_rg (k X : Int) : jrg (nib k X) := jrg_t _
theorem pnt_rg (k x X : Int) : jrg (pntV k x X) := jrg_t _
theorem BB_small : ∀ n : Nat, n < 16 → ∀ i, i < 32 → 4 ≤ i → BB (n : Int) i = false := by
  have : ∀ n, n < 16 → ∀ i, i < 32 → 4 ≤ i → bt (nI n) i = false := by decide +kernel
  intro n hn i hi h4
  unfold BB
  rw [ofI_nI]
  exact this n hn i hi h4
theorem nib_pnt {k l : Nat} (hk : k < 4) (hl : l < 4) {x : Int} (hx : 0 ≤ x ∧ x ≤ 15) (X : Int) : nib l (pntV k x X) = if l = k then x else nib l X := by
  have hsm : ∀ i, i < 32 → 4 ≤ i → BB x i = false := by
    intro i h1 h2
    have := BB_small x.toNat (by omega) i h1 h2
    rwa [Int.toNat_of_nonneg hx.1] at this
  by_cases e : l = k
  · rw [if_pos e]
    subst e
    refine BB_inj (nib_rg _ _) (by unfold jrg; omega) (fun i hi => ?_)
    rw [nib_bit hl _ hi]
    by_cases h4 : i < 4
    · rw [decide_eq_true h4, Bool.true_and, pnt_bit hl x X (by omega), decide_eq_true (show 4 * l ≤ 4 * l + i by omega), show 4 * l + i - 4 * l = i by omega, decide_eq_true h4]
      simp
    · rw [decide_eq_false h4, Bool.false_and, hsm i hi (by omega)]
  · rw [if_neg e]
    refine BB_inj (nib_rg _ _) (nib_rg _ _) (fun i hi => ?_)
    rw [nib_bit hl _ hi, nib_bit hl _ hi]
    by_cases h4 : i < 4
    · rw [decide_eq_true h4, Bool.true_and, Bool.true_and, pnt_bit hk x X (by omega)]
      by_cases hlt : l < k
      · rw [decide_eq_false (show ¬ 4 * k ≤ 4 * l + i by omega)]
        simp
      · rw [decide_eq_true (show 4 * k ≤ 4 * l + i by omega), decide_eq_false (show ¬ 4 * l + i - 4 * k < 4 by omega), hsm (4 * l + i - 4 * k) (by omega) (by omega)]
        simp
    · rw [decide_eq_false h4]
      rfl
/-- no more than four values -/
def low16 (X : Int) : Prop := jrg X ∧ ∀ i, 16 ≤ i → i < 32 → BB X i = false
theorem low16_0 : low16 0 := ⟨jrg0, fun i _ _ => by unfold BB; rw [← jz0]; exact b_0 i⟩
theorem low16_pnt {k : Nat} (hk : k < 4) {x : Int} (hx : 0 ≤ x ∧ x ≤ 15) {X : Int} (h : low16 X) : low16 (pntV k x X) := by
  refine ⟨pnt_rg _ _ _, fun i h1 h2 => ?_⟩
  have := BB_small x.toNat (by omega) (i - 4 * k) (by omega) (by omega)
  rw [Int.toNat_of_nonneg hx.1] at this
  rw [pnt_bit hk x X h2, h.2 i h1 h2, this]
  simp
theorem nib_ext {X Y : Int} (hX : low16 X) (hY : low16 Y) (h : ∀ k : Nat, k < 4 → nib k X = nib k Y) : X = Y := by
  refine BB_inj hX.1 hY.1 (fun i hi => ?_)
  by_cases h16 : i < 16
  · have e := h (i / 4) (by omega)
    have e1 := nib_bit (k := i / 4) (by omega) X (i := i % 4) (by omega)
    have e2 := nib_bit (k := i / 4) (by omega) Y (i := i % 4) (by omega)
    rw [e, e2, decide_eq_true (show i % 4 < 4 by omega), Bool.true_and, Bool.true_and, show 4 * (i / 4) + i % 4 = i by omega] at e1
    exact e1.symm
  · rw [hX.2 i (by omega) hi, hY.2 i (by omega) hi]
theorem nib_0 {k : Nat} (hk : k < 4) : nib k 0 = 0 := by
  refine BB_inj (nib_rg _ _) jrg0 (fun i hi => ?_)
  rw [nib_bit hk _ hi]
  unfold BB
  rw [← jz0, b_0, b_0]
  simp
