/-! chance: the drawn inputs -/
def drK (k : Int32) : Int32 := (k * 1103515245) + 12345
def drX (k : Int32) : UInt64 := FP.ddiv (FP.i2d (((k.toUInt32 >>> ((9 : Int32).toUInt32 &&& Int32.toUInt32 31)).toInt32 - (k.toUInt32 >>> ((9 : Int32).toUInt32 &&& Int32.toUInt32 31)).toInt32 / 401 * 401) - 200)) 4620693217682128896
def lot (p : Nat → Bool) (β : Bd) : Nat → Nat → Int32 → VEnv → VEnv
  | 0, _, _, η => η
  | m + 1, i, k, η => if p i = true then lot p β m (i + 1) (drK k) (fu η i (0, kp (nI (bK β i)) (drX (drK k)))) else lot p β m (i + 1) k η
theorem lot_lo {p : Nat → Bool} {β : Bd} : ∀ {m i : Nat} {k : Int32} {η : VEnv} {v : Nat}, v < i → lot p β m i k η v = η v
  | 0, _, _, _, _, _ => rfl
  | m + 1, i, k, η, v, h => by
    unfold lot
    split
    · rw [lot_lo (by omega), fu_n (by omega)]
    · rw [lot_lo (by omega)]
theorem lot_eq {p : Nat → Bool} {β : Bd} : ∀ {m i : Nat} {k : Int32} {η η' : VEnv} {v : Nat}, p v = true → i ≤ v → v < i + m → lot p β m i k η v = lot p β m i k η' v
  | 0, _, _, _, _, _, _, h1, h2 => absurd h2 (by omega)
  | m + 1, i, k, η, η', v, hp, h1, h2 => by
    unfold lot
    by_cases e : v = i
    · subst e
      rw [if_pos hp, if_pos hp, lot_lo (by omega), lot_lo (by omega), fu_s, fu_s]
    · split
      · exact lot_eq hp (by omega) (by omega)
      · exact lot_eq hp (by omega) (by omega)
theorem lot_ne {p : Nat → Bool} {β : Bd} : ∀ {m i : Nat} {k : Int32} {η : VEnv}, (∀ c, (η c).1 = 0 → (η c).2 ≠ 0x8000000000000000) → ∀ c, (lot p β m i k η c).1 = 0 → (lot p β m i k η c).2 ≠ 0x8000000000000000
  | 0, _, _, _, h => h
  | m + 1, i, k, η, h => by
    unfold lot
    split
    · exact lot_ne (fun c => fu_ne h)
    · exact lot_ne h
theorem drX_sm (k : Int32) : Sm (drX k) := sm_i8 _
/-! the greatest common part -/
theorem dv_20 : ∀ i, i < 21 → ∀ w, w < 21 → ¬ w = 0 → nI i - nI i / nI w * nI w = nI (i % w) := by decide +kernel
theorem c144 {d a b : Nat} {I : Nat → Nat → Int32} {D : Nat → Nat → UInt64} {R : Nat → Nat → Option Nat} {Q : j_Po} (ha : a ≤ 20) (hb : b ≤ 20) (hq : Q (some (.int (nI (Nat.gcd b a)))) w1 (I, D, RR R)) : j_Call d 144 [.int (nI a), .int (nI b)] w1 (I, D, RR R) 0 0 Q := by
  have loop : ∀ (y x k : Nat), y ≤ 20 → x ≤ 20 → k + y ≤ 31 → Nat.gcd y x = Nat.gcd b a → j_W 144 d 0 0 0 0 7 [none, none, some (.int (nI x)), some (.int (nI y)), some (.int (nI k)), none] [] w1 (I, D, RR R) Q := by
    intro y
    induction y using Nat.strongRecOn with
    | ind y ih =>
      intro x k hy hx hk hg
      have n0 : nI y = 0 ↔ y = 0 := nI_eq (b := 0) (by omega) (by decide)
      refine u144h hy (by omega) (Nat.zero_le _) (fun h => absurd h (by omega)) (fun _ h => ?_) (fun _ h => h) (fun _ h => ?_)
      · have := n0.mp h
        subst this
        rw [Nat.gcd_zero_left] at hg
        rw [hg]; exact hq
      · have hy0 : ¬ y = 0 := fun q => h (n0.mpr q)
        rw [dv_20 x (by omega) y (by omega) hy0]
        have hlt := Nat.mod_lt x (Nat.pos_of_ne_zero hy0)
        exact ih (x % y) hlt y (k + 1) (by omega) hy (by omega) (by rw [← Nat.gcd_rec]; exact hg)
  exact u144e (Nat.zero_le _) (loop b a 0 hb ha (by omega) rfl)
theorem c274 {I : Nat → Nat → Int32} {D : Nat → Nat → UInt64} {R : Nat → Nat → Option Nat} {Q : j_Po} : ∀ (b a d : Nat), b ≤ 20 → a ≤ 20 → b + 1 ≤ d → (Q (some (.int (nI (Nat.gcd b a)))) w1 (I, D, RR R)) → j_Call d 274 [.int (nI a), .int (nI b)] w1 (I, D, RR R) 0 0 Q := by
  intro b
  induction b using Nat.strongRecOn generalizing Q with
  | ind b ih =>
    intro a d hb ha hd hq
    have n0 : nI b = 0 ↔ b = 0 := nI_eq (b := 0) (by omega) (by decide)
    refine u274 (v := nI (Nat.gcd (a % b) b)) hb (fun Q2 b0 hq2 => ?_) (by omega) (fun h => h) (fun h q => h (n0.mpr q)) (fun h => by rw [← Nat.gcd_rec]; exact hq) (fun h => ?_)
    · have hlt := Nat.mod_lt a (Nat.pos_of_ne_zero b0)
      rw [dv_20 a (by omega) b (by omega) b0]
      exact ih (a % b) hlt b (d - 1) (by omega) hb (by omega) hq2
    · have := n0.mp h
      subst this
      rw [Nat.gcd_zero_left] at hq; exact hq
