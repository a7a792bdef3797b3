/-! bits of an int (begun from kit/laws/BITS) -/
def bt (x : Int32) (i : Nat) : Bool := x.toBitVec.getLsbD i
theorem b_ext {x y : Int32} (h : ∀ i, i < 32 → bt x i = bt y i) : x = y := Int32.toBitVec_inj.mp (BitVec.eq_of_getLsbD_eq (fun i hi => h i hi))
theorem b_or (x y : Int32) (i : Nat) : bt (x ||| y) i = (bt x i || bt y i) := by unfold bt; rw [Int32.toBitVec_or, BitVec.getLsbD_or]
theorem b_and (x y : Int32) (i : Nat) : bt (x &&& y) i = (bt x i && bt y i) := by unfold bt; rw [Int32.toBitVec_and, BitVec.getLsbD_and]
theorem b_xor (x y : Int32) (i : Nat) : bt (x ^^^ y) i = (bt x i ^^ bt y i) := by unfold bt; rw [Int32.toBitVec_xor, BitVec.getLsbD_xor]
theorem b_big {x : Int32} {i : Nat} (h : 32 ≤ i) : bt x i = false := BitVec.getLsbD_of_ge _ _ h
theorem b_m1 : ∀ i, i < 32 → bt (-1) i = true := by decide +kernel
theorem b_0 (i : Nat) : bt 0 i = false := BitVec.getLsbD_zero
theorem s_l : ∀ n, n < 32 → ((nI n &&& 31).toBitVec.smod 32).toNat = n := by decide +kernel
theorem s_u : ∀ n, n < 32 → (((nI n).toUInt32 &&& Int32.toUInt32 31).toBitVec % 32).toNat = n := by decide +kernel
theorem b_shl (n : Nat) (hn : n < 32) (x : Int32) {i : Nat} (hi : i < 32) : bt (x <<< (nI n &&& 31)) i = (decide (n ≤ i) && bt x (i - n)) := by
  unfold bt
  rw [Int32.toBitVec_shiftLeft]
  show (x.toBitVec <<< ((nI n &&& 31).toBitVec.smod 32).toNat).getLsbD i = _
  rw [s_l n hn, BitVec.getLsbD_shiftLeft]
  rcases Nat.lt_or_ge i n with h | h
  · simp [h, Nat.not_le.mpr h]
  · simp [hi, h, Nat.not_lt.mpr h]
theorem b_sshr (n : Nat) (hn : n < 32) (x : Int32) {i : Nat} (hi : i < 32) : bt (x >>> (nI n &&& 31)) i = if n + i < 32 then bt x (n + i) else bt x 31 := by
  unfold bt
  rw [Int32.toBitVec_shiftRight]
  show (x.toBitVec.sshiftRight ((nI n &&& 31).toBitVec.smod 32).toNat).getLsbD i = _
  rw [s_l n hn, BitVec.getLsbD_sshiftRight, BitVec.msb_eq_getLsbD_last]
  simp [hi]
theorem bt_1 (i : Nat) (hi : i < 32) : bt 1 i = decide (i = 0) := (by decide +kernel : ∀ i, i < 32 → bt 1 i = decide (i = 0)) i hi
theorem bt_one {k i : Nat} (hk : k < 32) (hi : i < 32) : bt ((1 : Int32) <<< (nI k &&& 31)) i = decide (i = k) := by
  rw [b_shl k hk _ hi]
  by_cases h : k ≤ i
  · rw [decide_eq_true h, Bool.true_and, bt_1 _ (by omega)]
    by_cases e : i = k
    · rw [decide_eq_true e, decide_eq_true (by omega)]
    · rw [decide_eq_false e, decide_eq_false (by omega)]
  · rw [decide_eq_false h, Bool.false_and, decide_eq_false (by omega)]
theorem bt_not (x : Int32) {i : Nat} (hi : i < 32) : bt (x ^^^ -1) i = !bt x i := by
  rw [b_xor, b_m1 i hi, Bool.xor_true]
theorem and1 (x : Int32) : (x &&& 1 = 0 ↔ bt x 0 = false) ∧ (x &&& 1 = 1 ↔ bt x 0 = true) := by
  have h : ∀ i, i < 32 → bt (x &&& 1) i = (decide (i = 0) && bt x 0) := fun i hi => by
    rw [b_and, bt_1 i hi, Bool.and_comm]
    by_cases e : i = 0
    · subst e; rfl
    · rw [decide_eq_false e, Bool.false_and, Bool.false_and]
  cases hb : bt x 0 with
  | false =>
    have : x &&& 1 = 0 := b_ext fun i hi => by rw [h i hi, hb, Bool.and_false, b_0]
    exact ⟨⟨fun _ => rfl, fun _ => this⟩, ⟨fun e => by rw [this] at e; exact absurd e (by decide), fun e => by cases e⟩⟩
  | true =>
    have : x &&& 1 = 1 := b_ext fun i hi => by rw [h i hi, hb, Bool.and_true, bt_1 i hi]
    exact ⟨⟨fun e => by rw [this] at e; exact absurd e (by decide), fun e => by cases e⟩, ⟨fun _ => rfl, fun _ => this⟩⟩
theorem hn_0 {x : Int32} {k : Nat} (hk : k < 32) : (x >>> (nI k &&& 31)) &&& 1 = 0 ↔ bt x k = false := by
  rw [(and1 _).1, b_sshr k hk x (by omega), if_pos (by omega), Nat.add_zero]
theorem hn_1 {x : Int32} {k : Nat} (hk : k < 32) : (x >>> (nI k &&& 31)) &&& 1 = 1 ↔ bt x k = true := by
  rw [(and1 _).2, b_sshr k hk x (by omega), if_pos (by omega), Nat.add_zero]
theorem hn_t {x : Int32} {k : Nat} (hk : k < 32) : ¬ (x >>> (nI k &&& 31)) &&& 1 = 0 ↔ bt x k = true := by
  rw [hn_0 hk]; cases bt x k <;> simp
theorem bt_ne {x y : Int32} (h : x ≠ y) : ∃ i, i < 32 ∧ bt x i ≠ bt y i := by
  refine Classical.byContradiction fun hc => h (b_ext fun i hi => ?_)
  exact Classical.byContradiction fun h2 => hc ⟨i, hi, h2⟩
