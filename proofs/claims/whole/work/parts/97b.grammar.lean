/-! the grammar -/
/-! the grammar. A state: where the token at hand begins and ends, the token, the steps so far. An outcome: the place of the fault, or a state. PP: the smallest relation closed under the rules; modes 0 one, 1 term, 2 its loop, 3 sum, 4 its loop, 5 whole, 6 parts, 7 their loop -/
abbrev PSt := Nat × Nat × (Nat × Nat) × Nat × (Nat → Nat × Nat)
abbrev POut := Nat ⊕ PSt
abbrev pb (s : PSt) : Nat := s.1
abbrev pe (s : PSt) : Nat := s.2.1
abbrev ptk (s : PSt) : Nat × Nat := s.2.2.1
abbrev pz (s : PSt) : Nat := s.2.2.2.1
abbrev pS (s : PSt) : Nat → Nat × Nat := s.2.2.2.2
def addP (s : PSt) (a w : Nat) : PSt := (s.1, s.2.1, s.2.2.1, s.2.2.2.1 + 1, fu s.2.2.2.2 s.2.2.2.1 (a, w))
def nxP (T : Nat → Nat) (n : Nat) (s s' : PSt) : Prop := Lx T n (pe s) (pb s') (pe s') (ptk s') ∧ pz s' = pz s ∧ pS s' = pS s
def mapO (f : PSt → PSt) : POut → POut
  | .inl x => .inl x
  | .inr s => .inr (f s)
def opT (c : Nat) : Nat := if c = 42 then 5 else if c = 47 then 6 else 7
def opS (c : Nat) : Nat := if c = 43 then 3 else 4
def opW (c : Nat) : Nat := if c = 60 then 8 else 9
def isT (c : Nat) : Prop := c = 42 ∨ c = 47 ∨ c = 37
def isS (c : Nat) : Prop := c = 43 ∨ c = 45
def isW (c : Nat) : Prop := c = 60 ∨ c = 61
abbrev PRel := Nat → Nat → Nat → Nat → PSt → POut → Prop
def PC0 (T : Nat → Nat) (n : Nat) (P : PRel) : Prop :=
  (∀ dep s s', ((ptk s).1 = 257 ∨ (ptk s).1 = 258) → nxP T n (addP s 0 (ptk s).2) s' → P 0 dep 0 0 s (.inr s')) ∧
  (∀ dep s s', (ptk s).1 = 259 → nxP T n (addP s 1 (ptk s).2) s' → P 0 dep 0 0 s (.inr s')) ∧
  (∀ dep s s1 o, (ptk s).1 = 260 → nxP T n s s1 → P 6 dep (if (ptk s).2 = 12 then 3 else 2) 0 s1 o → P 0 dep 0 0 s (mapO (fun t => addP t (ptk s).2 0) o)) ∧
  (∀ dep s s1 s2, (ptk s).1 = 261 → nxP T n s s1 → (ptk s1).1 = 257 → (ptk s1).2 ≤ 5000 → nxP T n (addP s1 (13 + (ptk s).2) ((ptk s1).2 / 1000)) s2 → P 0 dep 0 0 s (.inr s2)) ∧
  (∀ dep s s1, (ptk s).1 = 261 → nxP T n s s1 → ¬ ((ptk s1).1 = 257 ∧ (ptk s1).2 ≤ 5000) → P 0 dep 0 0 s (.inl (pb s1))) ∧
  (∀ dep s, (ptk s).1 = 45 → 4 ≤ dep → P 0 dep 0 0 s (.inl (pb s))) ∧
  (∀ dep s s1 o, (ptk s).1 = 45 → dep < 4 → nxP T n s s1 → P 0 (dep + 1) 0 0 s1 o → P 0 dep 0 0 s (mapO (fun t => addP t 2 0) o)) ∧
  (∀ dep s o, (ptk s).1 = 40 → P 6 dep 1 0 s o → P 0 dep 0 0 s o) ∧
  (∀ dep s, (ptk s).1 ≠ 257 → (ptk s).1 ≠ 258 → (ptk s).1 ≠ 259 → (ptk s).1 ≠ 260 → (ptk s).1 ≠ 261 → (ptk s).1 ≠ 45 → (ptk s).1 ≠ 40 → P 0 dep 0 0 s (.inl (pb s)))
def PC1 (T : Nat → Nat) (n : Nat) (P : PRel) : Prop :=
  (∀ dep s f, P 0 dep 0 0 s (.inl f) → P 1 dep 0 0 s (.inl f)) ∧
  (∀ dep s s1 o, P 0 dep 0 0 s (.inr s1) → P 2 dep 0 0 s1 o → P 1 dep 0 0 s o) ∧
  (∀ dep s, ¬ isT (ptk s).1 → P 2 dep 0 0 s (.inr s)) ∧
  (∀ dep s s1 f, isT (ptk s).1 → nxP T n s s1 → P 0 dep 0 0 s1 (.inl f) → P 2 dep 0 0 s (.inl f)) ∧
  (∀ dep s s1 s2 o, isT (ptk s).1 → nxP T n s s1 → P 0 dep 0 0 s1 (.inr s2) → P 2 dep 0 0 (addP s2 (opT (ptk s).1) 0) o → P 2 dep 0 0 s o)
def PC2 (T : Nat → Nat) (n : Nat) (P : PRel) : Prop :=
  (∀ dep s f, P 1 dep 0 0 s (.inl f) → P 3 dep 0 0 s (.inl f)) ∧
  (∀ dep s s1 o, P 1 dep 0 0 s (.inr s1) → P 4 dep 0 0 s1 o → P 3 dep 0 0 s o) ∧
  (∀ dep s, ¬ isS (ptk s).1 → P 4 dep 0 0 s (.inr s)) ∧
  (∀ dep s s1 f, isS (ptk s).1 → nxP T n s s1 → P 1 dep 0 0 s1 (.inl f) → P 4 dep 0 0 s (.inl f)) ∧
  (∀ dep s s1 s2 o, isS (ptk s).1 → nxP T n s s1 → P 1 dep 0 0 s1 (.inr s2) → P 4 dep 0 0 (addP s2 (opS (ptk s).1) 0) o → P 4 dep 0 0 s o)
def PC3 (T : Nat → Nat) (n : Nat) (P : PRel) : Prop :=
  (∀ dep s f, P 3 dep 0 0 s (.inl f) → P 5 dep 0 0 s (.inl f)) ∧
  (∀ dep s s1, P 3 dep 0 0 s (.inr s1) → ¬ isW (ptk s1).1 → P 5 dep 0 0 s (.inr s1)) ∧
  (∀ dep s s1 s2 o, P 3 dep 0 0 s (.inr s1) → isW (ptk s1).1 → nxP T n s1 s2 → P 3 dep 0 0 s2 o → P 5 dep 0 0 s (mapO (fun t => addP t (opW (ptk s1).1) 0) o)) ∧
  (∀ dep k s, (4 ≤ dep ∨ (ptk s).1 ≠ 40) → P 6 dep k 0 s (.inl (pb s))) ∧
  (∀ dep k s o, dep < 4 → (ptk s).1 = 40 → P 7 dep k 0 s o → P 6 dep k 0 s o) ∧
  (∀ dep k s s', nxP T n s s' → P 7 dep k k s (.inr s')) ∧
  (∀ dep k i s s1 f, i < k → nxP T n s s1 → P 5 (dep + 1) 0 0 s1 (.inl f) → P 7 dep k i s (.inl f)) ∧
  (∀ dep k i s s1 s2, i < k → nxP T n s s1 → P 5 (dep + 1) 0 0 s1 (.inr s2) → (ptk s2).1 ≠ (if i + 1 < k then 44 else 41) → P 7 dep k i s (.inl (pb s2))) ∧
  (∀ dep k i s s1 s2 o, i < k → nxP T n s s1 → P 5 (dep + 1) 0 0 s1 (.inr s2) → (ptk s2).1 = (if i + 1 < k then 44 else 41) → P 7 dep k (i + 1) s2 o → P 7 dep k i s o)
def PCl (T : Nat → Nat) (n : Nat) (P : PRel) : Prop := PC0 T n P ∧ PC1 T n P ∧ PC2 T n P ∧ PC3 T n P
def PP (T : Nat → Nat) (n : Nat) : PRel := fun m dep k i s o => ∀ P, PCl T n P → P m dep k i s o
section GR
variable {T : Nat → Nat} {n : Nat}
theorem PP0 : PC0 T n (PP T n) :=
  ⟨fun dep s s' h1 h2 P hP => hP.1.1 dep s s' h1 h2, fun dep s s' h1 h2 P hP => hP.1.2.1 dep s s' h1 h2, fun dep s s1 o h1 h2 h3 P hP => hP.1.2.2.1 dep s s1 o h1 h2 (h3 P hP), fun dep s s1 s2 h1 h2 h3 h4 h5 P hP => hP.1.2.2.2.1 dep s s1 s2 h1 h2 h3 h4 h5, fun dep s s1 h1 h2 h3 P hP => hP.1.2.2.2.2.1 dep s s1 h1 h2 h3, fun dep s h1 h2 P hP => hP.1.2.2.2.2.2.1 dep s h1 h2, fun dep s s1 o h1 h2 h3 h4 P hP => hP.1.2.2.2.2.2.2.1 dep s s1 o h1 h2 h3 (h4 P hP), fun dep s o h1 h2 P hP => hP.1.2.2.2.2.2.2.2.1 dep s o h1 (h2 P hP), fun dep s a b c d e f g P hP => hP.1.2.2.2.2.2.2.2.2 dep s a b c d e f g⟩
theorem PP1 : PC1 T n (PP T n) :=
  ⟨fun dep s f h P hP => hP.2.1.1 dep s f (h P hP), fun dep s s1 o h1 h2 P hP => hP.2.1.2.1 dep s s1 o (h1 P hP) (h2 P hP), fun dep s h P hP => hP.2.1.2.2.1 dep s h, fun dep s s1 f h1 h2 h3 P hP => hP.2.1.2.2.2.1 dep s s1 f h1 h2 (h3 P hP), fun dep s s1 s2 o h1 h2 h3 h4 P hP => hP.2.1.2.2.2.2 dep s s1 s2 o h1 h2 (h3 P hP) (h4 P hP)⟩
theorem PP2 : PC2 T n (PP T n) :=
  ⟨fun dep s f h P hP => hP.2.2.1.1 dep s f (h P hP), fun dep s s1 o h1 h2 P hP => hP.2.2.1.2.1 dep s s1 o (h1 P hP) (h2 P hP), fun dep s h P hP => hP.2.2.1.2.2.1 dep s h, fun dep s s1 f h1 h2 h3 P hP => hP.2.2.1.2.2.2.1 dep s s1 f h1 h2 (h3 P hP), fun dep s s1 s2 o h1 h2 h3 h4 P hP => hP.2.2.1.2.2.2.2 dep s s1 s2 o h1 h2 (h3 P hP) (h4 P hP)⟩
theorem PP3 : PC3 T n (PP T n) :=
  ⟨fun dep s f h P hP => hP.2.2.2.1 dep s f (h P hP), fun dep s s1 h1 h2 P hP => hP.2.2.2.2.1 dep s s1 (h1 P hP) h2, fun dep s s1 s2 o h1 h2 h3 h4 P hP => hP.2.2.2.2.2.1 dep s s1 s2 o (h1 P hP) h2 h3 (h4 P hP), fun dep k s h P hP => hP.2.2.2.2.2.2.1 dep k s h, fun dep k s o h1 h2 h3 P hP => hP.2.2.2.2.2.2.2.1 dep k s o h1 h2 (h3 P hP), fun dep k s s' h P hP => hP.2.2.2.2.2.2.2.2.1 dep k s s' h, fun dep k i s s1 f h1 h2 h3 P hP => hP.2.2.2.2.2.2.2.2.2.1 dep k i s s1 f h1 h2 (h3 P hP), fun dep k i s s1 s2 h1 h2 h3 h4 P hP => hP.2.2.2.2.2.2.2.2.2.2.1 dep k i s s1 s2 h1 h2 (h3 P hP) h4, fun dep k i s s1 s2 o h1 h2 h3 h4 h5 P hP => hP.2.2.2.2.2.2.2.2.2.2.2 dep k i s s1 s2 o h1 h2 (h3 P hP) h4 (h5 P hP)⟩
/-- a state that reads sensibly -/
def okP (n : Nat) (s : PSt) : Prop := pb s ≤ pe s ∧ pe s ≤ n ∧ ((ptk s).1 ≠ 256 → pb s < pe s)
theorem nxP.ok {s s' : PSt} (h : nxP T n s s') (hs : okP n s) : okP n s' ∧ pe s ≤ pb s' := by
  obtain ⟨h1, h2, h3, h4⟩ := h.1.le hs.2.1
  exact ⟨⟨h2, h3, h4⟩, h1⟩
/-- what a reading does: it goes on, each step has its token -/
def gP (n : Nat) : PRel := fun m dep k i s o => okP n s → match o with
  | .inl f => f ≤ n
  | .inr s' => okP n s' ∧ pz s ≤ pz s' ∧ pz s' + pb s ≤ pz s + pb s' ∧ pe s ≤ pe s' ∧ ((m ≠ 2 ∧ m ≠ 4) → pe s ≤ pb s') ∧ ((m = 0 ∨ m = 1 ∨ m = 3 ∨ m = 5 ∨ m = 6) → pb s < pe s)
theorem gP0 : PC0 T n (gP n) := by
  refine ⟨fun dep s s' h1 h2 hs => ?_, fun dep s s' h1 h2 hs => ?_, fun dep s s1 o h1 h2 h3 hs => ?_, fun dep s s1 s2 h1 h2 h3 h4 h5 hs => ?_, fun dep s s1 h1 h2 h3 hs => ?_, fun dep s h1 h2 hs => ?_, fun dep s s1 o h1 h2 h3 h4 hs => ?_, fun dep s o h1 h2 hs => ?_, fun dep s a b c d e f g hs => ?_⟩
  · have e0 : okP n s' ∧ pe s ≤ pb s' := h2.ok hs
    have e1 : pz s' = pz s + 1 := h2.2.1
    have e2 := hs.2.2 (by omega)
    have e3 := e0.1.1
    exact ⟨e0.1, by omega, by omega, by omega, fun _ => e0.2, fun _ => e2⟩
  · have e0 : okP n s' ∧ pe s ≤ pb s' := h2.ok hs
    have e1 : pz s' = pz s + 1 := h2.2.1
    have e2 := hs.2.2 (by omega)
    have e3 := e0.1.1
    exact ⟨e0.1, by omega, by omega, by omega, fun _ => e0.2, fun _ => e2⟩
  · have e0 := h2.ok hs
    have e1 := h2.2.1
    have e2 := hs.2.2 (by omega)
    have e3 := e0.1.1
    have e4 := h3 e0.1
    cases o with
    | inl f => exact e4
    | inr t =>
      obtain ⟨k1, k2, k3, k4, k5, k6⟩ := e4
      have k7 : pe s1 ≤ pb t := k5 ⟨by decide, by decide⟩
      exact ⟨k1, (by show pz s ≤ pz t + 1; omega), (by show pz t + 1 + pb s ≤ pz s + pb t; omega), (by show pe s ≤ pe t; omega), fun _ => (by show pe s ≤ pb t; omega), fun _ => e2⟩
  · have e0 := h2.ok hs
    have f0 : okP n s2 ∧ pe s1 ≤ pb s2 := h5.ok e0.1
    have f1 : pz s2 = pz s1 + 1 := h5.2.1
    have e1 := h2.2.1
    have e2 := hs.2.2 (by omega)
    have e3 := e0.1.1
    have f3 := f0.1.1
    exact ⟨f0.1, by omega, by omega, by omega, fun _ => by omega, fun _ => e2⟩
  · have e0 := h2.ok hs
    have := e0.1.1
    have := e0.1.2.1
    show pb s1 ≤ n
    omega
  · have := hs.1
    have := hs.2.1
    show pb s ≤ n
    omega
  · have e0 := h3.ok hs
    have e1 := h3.2.1
    have e2 := hs.2.2 (by omega)
    have e3 := e0.1.1
    have e4 := h4 e0.1
    cases o with
    | inl f => exact e4
    | inr t =>
      obtain ⟨k1, k2, k3, k4, k5, k6⟩ := e4
      have k7 : pe s1 ≤ pb t := k5 ⟨by decide, by decide⟩
      exact ⟨k1, (by show pz s ≤ pz t + 1; omega), (by show pz t + 1 + pb s ≤ pz s + pb t; omega), (by show pe s ≤ pe t; omega), fun _ => (by show pe s ≤ pb t; omega), fun _ => e2⟩
  · have e4 := h2 hs
    cases o with
    | inl f => exact e4
    | inr t =>
      obtain ⟨k1, k2, k3, k4, k5, k6⟩ := e4
      exact ⟨k1, k2, k3, k4, fun _ => k5 ⟨by decide, by decide⟩, fun _ => k6 (by decide)⟩
  · have := hs.1
    have := hs.2.1
    show pb s ≤ n
    omega
/-- a loop of operators: the operator has its token -/
theorem gPl {s s1 s2 : PSt} {o : POut} {m a dep : Nat} (hs : okP n s) (hne : (ptk s).1 ≠ 256) (h2 : nxP T n s s1) (h3 : okP n s1 → okP n s2 ∧ pz s1 ≤ pz s2 ∧ pz s2 + pb s1 ≤ pz s1 + pb s2 ∧ pe s1 ≤ pe s2 ∧ pe s1 ≤ pb s2) (h4 : gP n m dep 0 0 (addP s2 a 0) o) (hm : m = 2 ∨ m = 4) : match (generalizing := false) o with
  | .inl f => f ≤ n
  | .inr s' => okP n s' ∧ pz s ≤ pz s' ∧ pz s' + pb s ≤ pz s + pb s' ∧ pe s ≤ pe s' ∧ ((m ≠ 2 ∧ m ≠ 4) → pe s ≤ pb s') ∧ ((m = 0 ∨ m = 1 ∨ m = 3 ∨ m = 5 ∨ m = 6) → pb s < pe s) := by
  have e0 := h2.ok hs
  have e1 := h2.2.1
  have e2 := hs.2.2 hne
  have e3 := e0.1.1
  obtain ⟨k1, k2, k3, k4, k5⟩ := h3 e0.1
  have e4 := h4 k1
  cases o with
  | inl f => exact e4
  | inr t =>
    obtain ⟨q1, q2, q3, q4, q5, q6⟩ := e4
    have q2' : pz s2 + 1 ≤ pz t := q2
    have q3' : pz t + pb s2 ≤ pz s2 + 1 + pb t := q3
    have q4' : pe s2 ≤ pe t := q4
    exact ⟨q1, by omega, by omega, by omega, fun h => by omega, fun h => by omega⟩
theorem gP1 : PC1 T n (gP n) := by
  refine ⟨fun dep s f h hs => h hs, fun dep s s1 o h1 h2 hs => ?_, fun dep s h hs => ⟨hs, Nat.le_refl _, Nat.le_refl _, Nat.le_refl _, fun h => absurd rfl h.1, fun h => by omega⟩, fun dep s s1 f h1 h2 h3 hs => h3 (h2.ok hs).1, fun dep s s1 s2 o h1 h2 h3 h4 hs => gPl hs (by unfold isT at h1; omega) h2 (fun h => by obtain ⟨k1, k2, k3, k4, k5, k6⟩ := h3 h; exact ⟨k1, k2, k3, k4, k5 ⟨by decide, by decide⟩⟩) h4 (Or.inl rfl)⟩
  obtain ⟨k1, k2, k3, k4, k5, k6⟩ := h1 hs
  have e4 := h2 k1
  cases o with
  | inl f => exact e4
  | inr t =>
    obtain ⟨q1, q2, q3, q4, q5, q6⟩ := e4
    have k7 := k5 ⟨by decide, by decide⟩
    have k8 := k6 (by decide)
    exact ⟨q1, by omega, by omega, by omega, fun _ => by omega, fun _ => k8⟩
theorem gP2 : PC2 T n (gP n) := by
  refine ⟨fun dep s f h hs => h hs, fun dep s s1 o h1 h2 hs => ?_, fun dep s h hs => ⟨hs, Nat.le_refl _, Nat.le_refl _, Nat.le_refl _, fun h => absurd rfl h.2, fun h => by omega⟩, fun dep s s1 f h1 h2 h3 hs => h3 (h2.ok hs).1, fun dep s s1 s2 o h1 h2 h3 h4 hs => gPl hs (by unfold isS at h1; omega) h2 (fun h => by obtain ⟨k1, k2, k3, k4, k5, k6⟩ := h3 h; exact ⟨k1, k2, k3, k4, k5 ⟨by decide, by decide⟩⟩) h4 (Or.inr rfl)⟩
  obtain ⟨k1, k2, k3, k4, k5, k6⟩ := h1 hs
  have e4 := h2 k1
  cases o with
  | inl f => exact e4
  | inr t =>
    obtain ⟨q1, q2, q3, q4, q5, q6⟩ := e4
    have k7 := k5 ⟨by decide, by decide⟩
    have k8 := k6 (by decide)
    exact ⟨q1, by omega, by omega, by omega, fun _ => by omega, fun _ => k8⟩
theorem gP3 : PC3 T n (gP n) := by
  refine ⟨fun dep s f h hs => h hs, fun dep s s1 h1 h2 hs => ?_, fun dep s s1 s2 o h1 h2 h3 h4 hs => ?_, fun dep k s h hs => ?_, fun dep k s o h1 h2 h3 hs => ?_, fun dep k s s' h hs => ?_, fun dep k i s s1 f h1 h2 h3 hs => h3 (h2.ok hs).1, fun dep k i s s1 s2 h1 h2 h3 h4 hs => ?_, fun dep k i s s1 s2 o h1 h2 h3 h4 h5 hs => ?_⟩
  · obtain ⟨k1, k2, k3, k4, k5, k6⟩ := h1 hs
    exact ⟨k1, k2, k3, k4, fun _ => k5 ⟨by decide, by decide⟩, fun _ => k6 (by decide)⟩
  · obtain ⟨k1, k2, k3, k4, k5, k6⟩ := h1 hs
    have e0 := h3.ok k1
    have e1 := h3.2.1
    have e2 := k1.2.2 (by unfold isW at h2; omega)
    have e3 := e0.1.1
    have e4 := h4 e0.1
    have k7 := k5 ⟨by decide, by decide⟩
    have k8 := k6 (by decide)
    cases o with
    | inl f => exact e4
    | inr t =>
      obtain ⟨q1, q2, q3, q4, q5, q6⟩ := e4
      exact ⟨q1, (by show pz s ≤ pz t + 1; omega), (by show pz t + 1 + pb s ≤ pz s + pb t; omega), (by show pe s ≤ pe t; omega), fun _ => (by show pe s ≤ pb t; omega), fun _ => k8⟩
  · have := hs.1
    have := hs.2.1
    show pb s ≤ n
    omega
  · have e4 := h3 hs
    have e2 := hs.2.2 (by omega)
    cases o with
    | inl f => exact e4
    | inr t =>
      obtain ⟨k1, k2, k3, k4, k5, k6⟩ := e4
      exact ⟨k1, k2, k3, k4, fun _ => k5 ⟨by decide, by decide⟩, fun _ => e2⟩
  · have e0 := h.ok hs
    have e1 := h.2.1
    have e3 := e0.1.1
    have e4 := hs.1
    exact ⟨e0.1, by omega, by omega, by omega, fun _ => e0.2, fun h => by omega⟩
  · obtain ⟨k1, -⟩ := h3 (h2.ok hs).1
    have := k1.1
    have := k1.2.1
    show pb s2 ≤ n
    omega
  · have e0 := h2.ok hs
    have e1 := h2.2.1
    have e3 := e0.1.1
    have e5 := hs.1
    obtain ⟨k1, k2, k3, k4, k5, k6⟩ := h3 e0.1
    have k7 := k5 ⟨by decide, by decide⟩
    have k9 := k1.1
    have e4 := h5 k1
    cases o with
    | inl f => exact e4
    | inr t =>
      obtain ⟨q1, q2, q3, q4, q5, q6⟩ := e4
      have q7 := q5 ⟨by decide, by decide⟩
      exact ⟨q1, by omega, by omega, by omega, fun _ => by omega, fun h => by omega⟩
theorem PP.g {m dep k i : Nat} {s : PSt} {o : POut} (h : PP T n m dep k i s o) : gP n m dep k i s o := h _ ⟨gP0, gP1, gP2, gP3⟩
end GR
