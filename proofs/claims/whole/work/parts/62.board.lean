/-! a board, and how both sides hold it -/
abbrev Bd : Type := (Nat → Nat) × (Nat → UInt64) × (Nat → Bool) × (Nat → Nat) × (Nat → Nat → Nat × Nat) × (Nat → Bool) × (Nat → Nat) × (Nat → Nat) × (Nat → Option Nat) × (Nat → Nat) × (Nat → Nat) × (Nat → Nat → UInt64)
abbrev bK (β : Bd) : Nat → Nat := β.1
abbrev bX (β : Bd) : Nat → UInt64 := β.2.1
abbrev bF (β : Bd) : Nat → Bool := β.2.2.1
abbrev bZ (β : Bd) : Nat → Nat := β.2.2.2.1
abbrev bS (β : Bd) : Nat → Nat → Nat × Nat := β.2.2.2.2.1
abbrev bL (β : Bd) : Nat → Bool := β.2.2.2.2.2.1
abbrev bO (β : Bd) : Nat → Nat := β.2.2.2.2.2.2.1
abbrev b1 (β : Bd) : Nat → Nat := β.2.2.2.2.2.2.2.1
abbrev b2 (β : Bd) : Nat → Option Nat := β.2.2.2.2.2.2.2.2.1
abbrev bm (β : Bd) : Nat → Nat := β.2.2.2.2.2.2.2.2.2.1
abbrev bn (β : Bd) : Nat → Nat := β.2.2.2.2.2.2.2.2.2.2.1
abbrev bA (β : Bd) : Nat → Nat → UInt64 := β.2.2.2.2.2.2.2.2.2.2.2
def oI : Option Nat → Int32
  | none => -1
  | some k => nI k
def enc (s : Nat × Nat) : Int32 := nI (s.1 * 16777216 + s.2)
def fig (w : Nat) : UInt64 := FP.ddiv (FP.i2d (nI w)) 4652007308841189376
def stN (p : Nat × Nat) (v : Nat) : Bool := decide (p.1 = 1 ∧ p.2 = v) || decide (13 ≤ p.1 ∧ p.2 + 24 = v)
def nmB : Nat → (Nat → Nat × Nat) → Nat → Bool
  | 0, _, _ => false
  | z + 1, s, v => nmB z s v || stN (s z) v
def tmN : Nat → (Nat → Nat × Nat) → Nat → Nat
  | 0, _, _ => 0
  | z + 1, s, t => tmN z s t + (if 13 ≤ (s z).1 ∧ (s z).2 = t then 1 else 0)
def FR (z : Nat) (s : Nat → Nat × Nat) (I : Nat → Nat → Int32) (o : Nat) : Prop := I o 1 = nI z ∧ (∀ k, k < z → I (o + 1) k = enc (s k)) ∧ (∀ v, v < 32 → bt (I o 2) v = nmB z s v) ∧ (∀ t, t < 6 → I (o + 2) t = nI (tmN z s t))
def GR (β : Bd) (t : Nat) (I : Nat → Nat → Int32) (D : Nat → Nat → UInt64) (g : Nat) : Prop := I g 0 = bi (bL β t) ∧ (bL β t = true → I g 1 = nI (bO β t) ∧ I g 2 = nI (b1 β t) ∧ I g 3 = oI (b2 β t) ∧ I g 4 = nI (bm β t) ∧ I g 5 = nI (bn β t) ∧ (∀ k, k < bm β t → D (g + 1) k = bA β (2 * t) k) ∧ (∀ k, k < bn β t → D (g + 2) k = bA β (2 * t + 1) k))
def CBg (oK oN oF : Nat) (ff gg : Nat → Nat) (β : Bd) (I : Nat → Nat → Int32) (D : Nat → Nat → UInt64) : Prop :=
  (∀ c, c < 24 → I oK c = nI (bK β c) ∧ (bF β c = true → D oN c = bX β c) ∧ Sm (D oN c) ∧ I oF c = bi (bF β c) ∧ FR (bZ β c) (bS β c) I (ff c)) ∧ ∀ t, t < 6 → GR β t I D (gg t)
/-- the class's board -/
def CB (β : Bd) (I : Nat → Nat → Int32) (D : Nat → Nat → UInt64) (R : Nat → Nat → Option Nat) : Prop := CBg 109 110 111 (fo R) (go R) β I D
/-- the class's image -/
def CK (β : Bd) (I : Nat → Nat → Int32) (D : Nat → Nat → UInt64) : Prop := CBg 2 3 4 (fun c => 7 + 3 * c) (fun t => 79 + 3 * t) β I D
def MR (p : Nat × Nat) (mk : Int32) (F : Nat → UInt64) : Prop := (p.1 = 0 → ∃ j, j < 96 ∧ mk = nI (100 + j) ∧ F j = fig p.2) ∧ (p.1 = 1 → mk = nI p.2) ∧ (2 ≤ p.1 → p.1 ≤ 12 → mk = nI (198 + p.1)) ∧ (13 ≤ p.1 → mk = nI (300 + 10 * (p.1 - 13) + p.2))
def RBg (k f n s mk fg la ou on ot ax axs : Nat) (β : Bd) (I : Nat → Nat → Int32) (D : Nat → Nat → UInt64) : Prop :=
  (∀ c, c < 24 → I k c = nI (bK β c) ∧ I f c = bi (bF β c) ∧ (bF β c = true → D n c = bX β c) ∧ Sm (D n c) ∧ I s c = nI (bZ β c) ∧ ∀ j, j < bZ β c → MR (bS β c j) (I (mk + c) j) (D (fg + c))) ∧
  ∀ t, t < 6 → I la t = bi (bL β t) ∧ (bL β t = true → I ou t = nI (bO β t) ∧ I on t = nI (b1 β t) ∧ I ot t = oI (b2 β t) ∧ I ax (2 * t) = nI (bm β t) ∧ I ax (2 * t + 1) = nI (bn β t) ∧ (∀ k, k < bm β t → D (axs + 2 * t) k = bA β (2 * t) k) ∧ (∀ k, k < bn β t → D (axs + 2 * t + 1) k = bA β (2 * t + 1) k))
/-- the reference's board, its image, what its formulas name -/
def RB (β : Bd) (I : Nat → Nat → Int32) (D : Nat → Nat → UInt64) : Prop := RBg 261 262 263 264 266 291 315 316 317 318 319 321 β I D
def RK (β : Bd) (I : Nat → Nat → Int32) (D : Nat → Nat → UInt64) : Prop := RBg 431 433 435 432 437 462 434 486 487 488 489 491 β I D
def RN (β : Bd) (I : Nat → Nat → Int32) : Prop := ∀ c, c < 24 → (∀ v, v < 32 → bt (I 333 c) v = (decide (v < 24) && nmB (bZ β c) (bS β c) v)) ∧ ∀ t, t < 6 → I (335 + c) t = nI (tmN (bZ β c) (bS β c) t)
def stV (p : Nat × Nat) : Prop := p.1 ≤ 17 ∧ (p.1 = 0 → p.2 < 10000000) ∧ (p.1 = 1 → p.2 < 24) ∧ (2 ≤ p.1 → p.1 ≤ 12 → p.2 = 0) ∧ (13 ≤ p.1 → p.2 < 6)
def pops (a : Nat) : Nat := if a ≤ 1 then 0 else if a = 2 then 1 else if a ≤ 11 then 2 else if a = 12 then 3 else 0
def hgt (s : Nat → Nat × Nat) : Nat → Nat
  | 0 => 0
  | k + 1 => hgt s k + 1 - pops (s k).1
def stOK (z : Nat) (s : Nat → Nat × Nat) : Prop := (∀ k, k < z → stV (s k) ∧ pops (s k).1 ≤ hgt s k ∧ hgt s (k + 1) ≤ 36) ∧ (0 < z → hgt s z = 1)
/-- who names whom: cells 0 .. 23, tables 24 .. 29 -/
def ed (β : Bd) (u v : Nat) : Bool := if u < 24 then nmB (bZ β u) (bS β u) v else bL β (u - 24) && decide (v = bO β (u - 24))
def acyc (β : Bd) : Prop := ∃ ρ : Nat → Nat, ∀ u v, u < 30 → v < 30 → ed β u v = true → ρ v < ρ u
def BV (β : Bd) : Prop :=
  (∀ c, c < 24 → bK β c < 6 ∧ bZ β c ≤ 96 ∧ (0 < bZ β c → bF β c = false) ∧ (bF β c = true → okB (bX β c)) ∧ stOK (bZ β c) (bS β c)) ∧
  (∀ t, t < 6 → bL β t = true → bO β t < 24 ∧ b1 β t < 24 ∧ bZ β (b1 β t) = 0 ∧ (∀ o, b2 β t = some o → o < 24 ∧ o ≠ b1 β t ∧ bZ β o = 0) ∧ 1 ≤ bm β t ∧ bm β t ≤ 8 ∧ (b2 β t = none → bn β t = 0) ∧ (b2 β t ≠ none → 1 ≤ bn β t) ∧ bn β t ≤ 8 ∧ (∀ k, k < bm β t → Sm (bA β (2 * t) k)) ∧ (∀ k, k < bn β t → Sm (bA β (2 * t + 1) k))) ∧ acyc β
/-- what the class has learnt: who is reached, read, how heavy -/
def anyB : Nat → (Nat → Bool) → Bool
  | 0, _ => false
  | n + 1, p => anyB n p || p n
def sumN : Nat → (Nat → Nat) → Nat
  | 0, _ => 0
  | n + 1, f => sumN n f + f n
def vr (β : Bd) (t v : Nat) : Bool := decide (v = b1 β t) || decide (b2 β t = some v)
def cas (β : Bd) (t : Nat) : Nat := bm β t * (if b2 β t = none then 1 else bn β t)
abbrev tmB (β : Bd) (c t : Nat) : Nat := tmN (bZ β c) (bS β c) t
def bu (I : Nat → Nat → Int32) (v : Nat) : Nat := (I 208 v).toNatClampNeg
def shr (I : Nat → Nat → Int32) (c : Nat) : Nat := (I 209 c).toNatClampNeg
def NMc (β : Bd) (I : Nat → Nat → Int32) (c : Nat) : Prop :=
  (∀ v, v < 32 → bt (I 206 c) v = (decide (v = c) || anyB 24 fun k => nmB (bZ β c) (bS β c) k && bt (I 206 k) v)) ∧
  (∀ v, v < 32 → bt (I 207 c) v = ((decide (bZ β c = 0) && decide (v = c) || anyB 24 fun k => nmB (bZ β c) (bS β c) k && bt (I 207 k) v) || anyB 6 fun t => decide (0 < tmB β c t) && bL β t && (bt (I 207 (bO β t)) v && !vr β t v))) ∧
  I 209 c = nI (if bZ β c = 0 then 0 else min 2001 (1 + sumN 6 fun t => if bL β t = true then tmB β c t * bu I (24 + t) else 0)) ∧
  I 208 c = nI (if bZ β c = 0 then 0 else min 2001 (sumN 24 fun k => if bt (I 206 c) k = true then shr I k else 0))
def NMt (β : Bd) (I : Nat → Nat → Int32) (t : Nat) : Prop := I 208 (24 + t) = nI (if bL β t = true then min 2001 (bu I (bO β t) * cas β t) else 0)
def NM (β : Bd) (I : Nat → Nat → Int32) : Prop := (∀ c, c < 24 → NMc β I c) ∧ ∀ t, t < 6 → NMt β I t
/-! sums, any -/
theorem anyB_iff {p : Nat → Bool} : ∀ {n : Nat}, anyB n p = true ↔ ∃ k, k < n ∧ p k = true
  | 0 => ⟨fun h => (by cases h), fun ⟨k, hk, _⟩ => absurd hk (Nat.not_lt_zero k)⟩
  | n + 1 => by
    rw [anyB, Bool.or_eq_true, anyB_iff]
    constructor
    · rintro (⟨k, hk, h⟩ | h)
      · exact ⟨k, by omega, h⟩
      · exact ⟨n, by omega, h⟩
    · rintro ⟨k, hk, h⟩
      rcases Nat.lt_or_ge k n with h2 | h2
      · exact Or.inl ⟨k, h2, h⟩
      · rw [show k = n by omega] at h
        exact Or.inr h
theorem anyB_cg {p q : Nat → Bool} : ∀ {n : Nat}, (∀ k, k < n → p k = q k) → anyB n p = anyB n q
  | 0, _ => rfl
  | n + 1, h => by rw [anyB, anyB, anyB_cg (fun k hk => h k (by omega)), h n (by omega)]
theorem sumN_cg {f g : Nat → Nat} : ∀ {n : Nat}, (∀ k, k < n → f k = g k) → sumN n f = sumN n g
  | 0, _ => rfl
  | n + 1, h => by rw [sumN, sumN, sumN_cg (fun k hk => h k (by omega)), h n (by omega)]
theorem sumN_le {f g : Nat → Nat} : ∀ {n : Nat}, (∀ k, k < n → f k ≤ g k) → sumN n f ≤ sumN n g
  | 0, _ => Nat.le_refl _
  | n + 1, h => by
    rw [sumN, sumN]
    exact Nat.add_le_add (sumN_le (fun k hk => h k (by omega))) (h n (by omega))
theorem sumN_b {f : Nat → Nat} {M : Nat} : ∀ {n : Nat}, (∀ k, k < n → f k ≤ M) → sumN n f ≤ n * M
  | 0, _ => by simp [sumN]
  | n + 1, h => by
    have := sumN_b (n := n) (fun k hk => h k (by omega))
    have := h n (by omega)
    rw [sumN, Nat.succ_mul]
    omega
theorem bi_b {b c : Bool} (h : bi b = bi c) : b = c := by cases b <;> cases c <;> first | rfl | exact absurd h (by decide)
theorem tm_nm {z : Nat} {s : Nat → Nat × Nat} {t : Nat} (h : ∀ k, k < z → stV (s k)) : nmB z s (24 + t) = decide (0 < tmN z s t) := by
  induction z with
  | zero => rfl
  | succ z ih =>
    rw [nmB, tmN, ih (fun k hk => h k (by omega))]
    obtain ⟨h1, h2, h3, h4, h5⟩ := h z (by omega)
    unfold stN
    by_cases e : 13 ≤ (s z).1 ∧ (s z).2 = t
    · rw [if_pos e, decide_eq_true (show 13 ≤ (s z).1 ∧ (s z).2 + 24 = 24 + t from ⟨e.1, by omega⟩), Bool.or_true, Bool.or_true, decide_eq_true (by omega)]
    · rw [if_neg e, decide_eq_false (show ¬ (13 ≤ (s z).1 ∧ (s z).2 + 24 = 24 + t) from fun q => e ⟨q.1, by omega⟩), Bool.or_false, decide_eq_false (show ¬ ((s z).1 = 1 ∧ (s z).2 = 24 + t) from fun q => by have := h3 q.1; omega), Bool.or_false, Nat.add_zero]
theorem tmN_le {s : Nat → Nat × Nat} {t : Nat} : ∀ z, tmN z s t ≤ z
  | 0 => Nat.le_refl _
  | z + 1 => by
    have := tmN_le (s := s) (t := t) z
    rw [tmN]
    split <;> omega
