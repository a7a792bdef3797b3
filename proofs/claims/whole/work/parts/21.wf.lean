/-! the references that move: which formulas and grids the board has -/
def isBF (o : Nat) : Prop := o = 99 ∨ ∃ k, k < 24 ∧ o = 114 + 3 * k
def isBG (o : Nat) : Prop := o = 102 ∨ ∃ k, k < 6 ∧ o = 186 + 3 * k
theorem isBF_F {o : Nat} (h : isBF o) : isF o := by
  rcases h with rfl | ⟨k, hk, rfl⟩
  · unfold isF; decide +kernel
  · have : ∀ k, k < 24 → isF (114 + 3 * k) := by unfold isF; decide +kernel
    exact this k hk
theorem isBG_G {o : Nat} (h : isBG o) : isG o := by
  rcases h with rfl | ⟨k, hk, rfl⟩
  · unfold isG; decide +kernel
  · have : ∀ k, k < 6 → isG (186 + 3 * k) := by unfold isG; decide +kernel
    exact this k hk
abbrev fo (R : Nat → Nat → Option Nat) (c : Nat) : Nat := (R 112 c).getD 0
abbrev go (R : Nat → Nat → Option Nat) (t : Nat) : Nat := (R 113 t).getD 0
abbrev fm (R : Nat → Nat → Option Nat) : Nat := (R 97 2).getD 0
abbrev gs (R : Nat → Nat → Option Nat) : Nat := (R 0 6).getD 0
def WFR (R : Nat → Nat → Option Nat) : Prop :=
  (∀ c, c < 24 → R 112 c = some (fo R c) ∧ isBF (fo R c)) ∧ (∀ t, t < 6 → R 113 t = some (go R t) ∧ isBG (go R t)) ∧ (R 97 2 = some (fm R) ∧ isBF (fm R)) ∧ (R 0 6 = some (gs R) ∧ isBG (gs R))
/-- and all are apart -/
def WFD (R : Nat → Nat → Option Nat) : Prop := (∀ c c', c < 24 → c' < 24 → fo R c = fo R c' → c = c') ∧ (∀ c, c < 24 → fo R c ≠ fm R) ∧ (∀ t t', t < 6 → t' < 6 → go R t = go R t' → t = t') ∧ (∀ t, t < 6 → go R t ≠ gs R)
theorem WFR.f {R : Nat → Nat → Option Nat} (h : WFR R) (c : Nat) (hc : c < 24) : R 112 c = some ((R 112 c).getD 0) ∧ isF ((R 112 c).getD 0) := ⟨(h.1 c hc).1, isBF_F (h.1 c hc).2⟩
theorem WFR.g {R : Nat → Nat → Option Nat} (h : WFR R) (t : Nat) (ht : t < 6) : R 113 t = some ((R 113 t).getD 0) ∧ isG ((R 113 t).getD 0) := ⟨(h.2.1 t ht).1, isBG_G (h.2.1 t ht).2⟩
theorem WFR.m {R : Nat → Nat → Option Nat} (h : WFR R) : R 97 2 = some ((R 97 2).getD 0) ∧ isF ((R 97 2).getD 0) := ⟨h.2.2.1.1, isBF_F h.2.2.1.2⟩
theorem WFR.s {R : Nat → Nat → Option Nat} (h : WFR R) : R 0 6 = some ((R 0 6).getD 0) ∧ isG ((R 0 6).getD 0) := ⟨h.2.2.2.1, isBG_G h.2.2.2.2⟩
