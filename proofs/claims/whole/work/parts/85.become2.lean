/-! image and back: the boards, all of them -/
theorem l153if {I : Nat → Nat → Int32} {d : Nat} {D : Nat → Nat → UInt64} {R : Nat → Nat → Option Nat} {Q : j_Po} {β : Bd} (hR : WFR R) (hV : BV β) (hd : 2 ≤ d) (hS : ∀ c, c < 24 → FR (bZ β c) (bS β c) I ((R 112 c).getD 0)) (hA : ∀ c c2, c < 24 → c2 < 24 → ∀ i j, i ≤ 2 → j ≤ 2 → (7 + 3 * c) + i ≠ ((R 112 c2).getD 0) + j) (hB : ∀ c c2, c < 24 → c2 < 24 → c ≠ c2 → ∀ i j, i ≤ 2 → j ≤ 2 → (7 + 3 * c) + i ≠ (7 + 3 * c2) + j) (hq : ∀ J, (∀ o, (∀ c, c < 24 → o ≠ (7 + 3 * c) ∧ o ≠ (7 + 3 * c) + 1 ∧ o ≠ (7 + 3 * c) + 2) → J o = I o) → (∀ c, c < 24 → FR (bZ β c) (bS β c) J (7 + 3 * c)) → j_W 153 d 0 0 0 0 76 [some (.ref 1), some (.ref 108), some (.int (nI 0))] [] w1 (J, D, RR R) Q) (m : Nat) : ∀ (J : Nat → Nat → Int32) (k : Nat), k ≤ 24 → 24 - k = m → (∀ o, (∀ c, c < k → o ≠ (7 + 3 * c) ∧ o ≠ (7 + 3 * c) + 1 ∧ o ≠ (7 + 3 * c) + 2) → J o = I o) → (∀ c, c < k → FR (bZ β c) (bS β c) J (7 + 3 * c)) → j_W 153 d 0 0 0 0 47 [some (.ref 1), some (.ref 108), some (.int (nI k))] [] w1 (J, D, RR R) Q := by
  induction m with
  | zero =>
    intro J k hk hm h1 h2
    have : k = 24 := by omega
    subst this
    refine s153if (β := β) hR (Nat.le_refl _) hd (fun _ => hq J h1 h2) (fun h => absurd (Nat.le_refl _) h) (fun h => absurd (Nat.le_refl _) h) (fun h => absurd (Nat.le_refl _) h) (fun h => absurd (Nat.le_refl _) h)
  | succ m ih =>
    intro J k hk hm h1 h2
    have hkn : ¬ 24 ≤ k := by omega
    have hI2 : ∀ c i, c < 24 → i ≤ 2 → J (((R 112 c).getD 0) + i) = I (((R 112 c).getD 0) + i) := fun c i hc hi => h1 _ (fun c2 h2 => ⟨fun e => hA c2 c (by omega) hc 0 i (by omega) hi (by omega), fun e => hA c2 c (by omega) hc 1 i (by omega) hi e.symm, fun e => hA c2 c (by omega) hc 2 i (by omega) hi e.symm⟩)
    have ihx : ∀ J4 : Nat → Nat → Int32, (∀ o, o ≠ (7 + 3 * k) → o ≠ (7 + 3 * k) + 1 → o ≠ (7 + 3 * k) + 2 → J4 o = J o) → FR (bZ β k) (bS β k) J4 (7 + 3 * k) → j_W 153 d 0 0 0 0 47 [some (.ref 1), some (.ref 108), some (.int (nI (k + 1)))] [] w1 (J4, D, RR R) Q := fun J4 e1 e2 => ih J4 (k + 1) (by omega) (by omega) (fun o ho => (e1 o (ho k (by omega)).1 (ho k (by omega)).2.1 (ho k (by omega)).2.2).trans (h1 o (fun c hc => ho c (by omega)))) (fun c hc => by
      by_cases e : c = k
      · subst e; exact e2
      · have hb := hB c k (by omega) (by omega) e
        exact (h2 c (by omega)).cg (e1 _ (hb 0 0 (by omega) (by omega)) (hb 0 1 (by omega) (by omega)) (hb 0 2 (by omega) (by omega))) (e1 _ (hb 1 0 (by omega) (by omega)) (hb 1 1 (by omega) (by omega)) (hb 1 2 (by omega) (by omega))) (e1 _ (hb 2 0 (by omega) (by omega)) (hb 2 1 (by omega) (by omega)) (hb 2 2 (by omega) (by omega))))
    exact s153if (β := β) hR hk hd (fun h1 => absurd h1 hkn) (fun h1 => hA k k (by omega) (by omega)) (fun h1 => (hV.1 k (by omega)).2.1) (fun h1 => ((hS k (by omega)).cg (hI2 k 0 (by omega) (by omega)) (hI2 k 1 (by omega) (by omega)) (hI2 k 2 (by omega) (by omega)))) (fun h1 J4 h3 h4 => ihx J4 h3 h4)
theorem l153ig {I : Nat → Nat → Int32} {d : Nat} {D : Nat → Nat → UInt64} {R : Nat → Nat → Option Nat} {Q : j_Po} {β : Bd} (hR : WFR R) (hV : BV β) (hd : 2 ≤ d) (hS : ∀ c, c < 6 → GR β c I D ((R 113 c).getD 0)) (hA : ∀ c c2, c < 6 → c2 < 6 → ∀ i j, i ≤ 2 → j ≤ 2 → (79 + 3 * c) + i ≠ ((R 113 c2).getD 0) + j) (hB : ∀ c c2, c < 6 → c2 < 6 → c ≠ c2 → ∀ i j, i ≤ 2 → j ≤ 2 → (79 + 3 * c) + i ≠ (79 + 3 * c2) + j) (hq : ∀ J E, (∀ o, (∀ c, c < 6 → o ≠ (79 + 3 * c)) → J o = I o) → (∀ o, (∀ c, c < 6 → o ≠ (79 + 3 * c) + 1 ∧ o ≠ (79 + 3 * c) + 2) → E o = D o) → (∀ c, c < 6 → GR β c J E (79 + 3 * c)) → Q none w1 (J, E, RR R)) (m : Nat) : ∀ (J : Nat → Nat → Int32) (E : Nat → Nat → UInt64) (k : Nat), k ≤ 6 → 6 - k = m → (∀ o, (∀ c, c < k → o ≠ (79 + 3 * c)) → J o = I o) → (∀ o, (∀ c, c < k → o ≠ (79 + 3 * c) + 1 ∧ o ≠ (79 + 3 * c) + 2) → E o = D o) → (∀ c, c < k → GR β c J E (79 + 3 * c)) → j_W 153 d 0 0 0 0 76 [some (.ref 1), some (.ref 108), some (.int (nI k))] [] w1 (J, E, RR R) Q := by
  induction m with
  | zero =>
    intro J E k hk hm h1 h2 h3
    have : k = 6 := by omega
    subst this
    refine s153ig (β := β) hR (Nat.le_refl _) hd (fun _ => hq J E h1 h2 h3) (fun h => absurd (Nat.le_refl _) h) (fun h => absurd (Nat.le_refl _) h) (fun h => absurd (Nat.le_refl _) h)
  | succ m ih =>
    intro J E k hk hm h1 h2 h3
    have hkn : ¬ 6 ≤ k := by omega
    have hI2 : ∀ c, c < 6 → J ((R 113 c).getD 0) = I ((R 113 c).getD 0) := fun c hc => h1 _ (fun c2 h2 => fun e => hA c2 c (by omega) hc 0 0 (by omega) (by omega) (by omega))
    have hD2 : ∀ c i, c < 6 → 1 ≤ i → i ≤ 2 → E (((R 113 c).getD 0) + i) = D (((R 113 c).getD 0) + i) := fun c i hc hi hi2 => h2 _ (fun c2 h2 => ⟨fun e => hA c2 c (by omega) hc 1 i (by omega) hi2 e.symm, fun e => hA c2 c (by omega) hc 2 i (by omega) hi2 e.symm⟩)
    have ihx : ∀ (J4 : Nat → Nat → Int32) (E5 : Nat → Nat → UInt64), (∀ o, o ≠ (79 + 3 * k) → J4 o = J o) → (∀ i, i < 6 → J4 (79 + 3 * k) i = J ((R 113 k).getD 0) i) → (∀ o, o ≠ (79 + 3 * k) + 1 → o ≠ (79 + 3 * k) + 2 → E5 o = E o) → (∀ q, q < 8 → E5 ((79 + 3 * k) + 1) q = E (((R 113 k).getD 0) + 1) q) → (∀ q, q < 8 → E5 ((79 + 3 * k) + 2) q = E (((R 113 k).getD 0) + 2) q) → j_W 153 d 0 0 0 0 76 [some (.ref 1), some (.ref 108), some (.int (nI (k + 1)))] [] w1 (J4, E5, RR R) Q := fun J4 E5 e1 e2 e3 e4 e5 => ih J4 E5 (k + 1) (by omega) (by omega) (fun o ho => (e1 o (ho k (by omega))).trans (h1 o (fun c hc => ho c (by omega)))) (fun o ho => (e3 o (ho k (by omega)).1 (ho k (by omega)).2).trans (h2 o (fun c hc => ho c (by omega)))) (fun c hc => by
      by_cases e : c = k
      · subst e
        exact (hS c (by omega)).bec hV (by omega) (fun i hi => (e2 i hi).trans (by rw [hI2 c (by omega)])) (fun q hq => (e4 q hq).trans (by rw [hD2 c 1 (by omega) (by omega) (by omega)])) (fun q hq => (e5 q hq).trans (by rw [hD2 c 2 (by omega) (by omega) (by omega)]))
      · have hb := hB c k (by omega) (by omega) e
        exact (h3 c (by omega)).cg (e1 _ (hb 0 0 (by omega) (by omega))) (e3 _ (hb 1 1 (by omega) (by omega)) (hb 1 2 (by omega) (by omega))) (e3 _ (hb 2 1 (by omega) (by omega)) (hb 2 2 (by omega) (by omega))))
    exact s153ig (β := β) hR hk hd (fun h1 => absurd h1 hkn) (fun h1 => hA k k (by omega) (by omega)) (fun h1 => (by rw [hI2 k (by omega), (hS k (by omega)).1]; exact bi_01 _)) (fun h1 J4 E5 h4 h5 h6 h7 h8 => ihx J4 E5 h4 h5 h6 h7 h8)
theorem l153kf {I : Nat → Nat → Int32} {d : Nat} {D : Nat → Nat → UInt64} {R : Nat → Nat → Option Nat} {Q : j_Po} {β : Bd} (hR : WFR R) (hV : BV β) (hd : 2 ≤ d) (hS : ∀ c, c < 24 → FR (bZ β c) (bS β c) I (7 + 3 * c)) (hA : ∀ c c2, c < 24 → c2 < 24 → ∀ i j, i ≤ 2 → j ≤ 2 → ((R 112 c).getD 0) + i ≠ (7 + 3 * c2) + j) (hB : ∀ c c2, c < 24 → c2 < 24 → c ≠ c2 → ∀ i j, i ≤ 2 → j ≤ 2 → ((R 112 c).getD 0) + i ≠ ((R 112 c2).getD 0) + j) (hq : ∀ J, (∀ o, (∀ c, c < 24 → o ≠ ((R 112 c).getD 0) ∧ o ≠ ((R 112 c).getD 0) + 1 ∧ o ≠ ((R 112 c).getD 0) + 2) → J o = I o) → (∀ c, c < 24 → FR (bZ β c) (bS β c) J ((R 112 c).getD 0)) → j_W 153 d 0 0 0 0 76 [some (.ref 108), some (.ref 1), some (.int (nI 0))] [] w1 (J, D, RR R) Q) (m : Nat) : ∀ (J : Nat → Nat → Int32) (k : Nat), k ≤ 24 → 24 - k = m → (∀ o, (∀ c, c < k → o ≠ ((R 112 c).getD 0) ∧ o ≠ ((R 112 c).getD 0) + 1 ∧ o ≠ ((R 112 c).getD 0) + 2) → J o = I o) → (∀ c, c < k → FR (bZ β c) (bS β c) J ((R 112 c).getD 0)) → j_W 153 d 0 0 0 0 47 [some (.ref 108), some (.ref 1), some (.int (nI k))] [] w1 (J, D, RR R) Q := by
  induction m with
  | zero =>
    intro J k hk hm h1 h2
    have : k = 24 := by omega
    subst this
    refine s153kf (β := β) hR (Nat.le_refl _) hd (fun _ => hq J h1 h2) (fun h => absurd (Nat.le_refl _) h) (fun h => absurd (Nat.le_refl _) h) (fun h => absurd (Nat.le_refl _) h) (fun h => absurd (Nat.le_refl _) h)
  | succ m ih =>
    intro J k hk hm h1 h2
    have hkn : ¬ 24 ≤ k := by omega
    have hI2 : ∀ c i, c < 24 → i ≤ 2 → J ((7 + 3 * c) + i) = I ((7 + 3 * c) + i) := fun c i hc hi => h1 _ (fun c2 h2 => ⟨fun e => hA c2 c (by omega) hc 0 i (by omega) hi (by omega), fun e => hA c2 c (by omega) hc 1 i (by omega) hi e.symm, fun e => hA c2 c (by omega) hc 2 i (by omega) hi e.symm⟩)
    have ihx : ∀ J4 : Nat → Nat → Int32, (∀ o, o ≠ ((R 112 k).getD 0) → o ≠ ((R 112 k).getD 0) + 1 → o ≠ ((R 112 k).getD 0) + 2 → J4 o = J o) → FR (bZ β k) (bS β k) J4 ((R 112 k).getD 0) → j_W 153 d 0 0 0 0 47 [some (.ref 108), some (.ref 1), some (.int (nI (k + 1)))] [] w1 (J4, D, RR R) Q := fun J4 e1 e2 => ih J4 (k + 1) (by omega) (by omega) (fun o ho => (e1 o (ho k (by omega)).1 (ho k (by omega)).2.1 (ho k (by omega)).2.2).trans (h1 o (fun c hc => ho c (by omega)))) (fun c hc => by
      by_cases e : c = k
      · subst e; exact e2
      · have hb := hB c k (by omega) (by omega) e
        exact (h2 c (by omega)).cg (e1 _ (hb 0 0 (by omega) (by omega)) (hb 0 1 (by omega) (by omega)) (hb 0 2 (by omega) (by omega))) (e1 _ (hb 1 0 (by omega) (by omega)) (hb 1 1 (by omega) (by omega)) (hb 1 2 (by omega) (by omega))) (e1 _ (hb 2 0 (by omega) (by omega)) (hb 2 1 (by omega) (by omega)) (hb 2 2 (by omega) (by omega))))
    exact s153kf (β := β) hR hk hd (fun h1 => absurd h1 hkn) (fun h1 => hA k k (by omega) (by omega)) (fun h1 => (hV.1 k (by omega)).2.1) (fun h1 => ((hS k (by omega)).cg (hI2 k 0 (by omega) (by omega)) (hI2 k 1 (by omega) (by omega)) (hI2 k 2 (by omega) (by omega)))) (fun h1 J4 h3 h4 => ihx J4 h3 h4)
theorem l153kg {I : Nat → Nat → Int32} {d : Nat} {D : Nat → Nat → UInt64} {R : Nat → Nat → Option Nat} {Q : j_Po} {β : Bd} (hR : WFR R) (hV : BV β) (hd : 2 ≤ d) (hS : ∀ c, c < 6 → GR β c I D (79 + 3 * c)) (hA : ∀ c c2, c < 6 → c2 < 6 → ∀ i j, i ≤ 2 → j ≤ 2 → ((R 113 c).getD 0) + i ≠ (79 + 3 * c2) + j) (hB : ∀ c c2, c < 6 → c2 < 6 → c ≠ c2 → ∀ i j, i ≤ 2 → j ≤ 2 → ((R 113 c).getD 0) + i ≠ ((R 113 c2).getD 0) + j) (hq : ∀ J E, (∀ o, (∀ c, c < 6 → o ≠ ((R 113 c).getD 0)) → J o = I o) → (∀ o, (∀ c, c < 6 → o ≠ ((R 113 c).getD 0) + 1 ∧ o ≠ ((R 113 c).getD 0) + 2) → E o = D o) → (∀ c, c < 6 → GR β c J E ((R 113 c).getD 0)) → Q none w1 (J, E, RR R)) (m : Nat) : ∀ (J : Nat → Nat → Int32) (E : Nat → Nat → UInt64) (k : Nat), k ≤ 6 → 6 - k = m → (∀ o, (∀ c, c < k → o ≠ ((R 113 c).getD 0)) → J o = I o) → (∀ o, (∀ c, c < k → o ≠ ((R 113 c).getD 0) + 1 ∧ o ≠ ((R 113 c).getD 0) + 2) → E o = D o) → (∀ c, c < k → GR β c J E ((R 113 c).getD 0)) → j_W 153 d 0 0 0 0 76 [some (.ref 108), some (.ref 1), some (.int (nI k))] [] w1 (J, E, RR R) Q := by
  induction m with
  | zero =>
    intro J E k hk hm h1 h2 h3
    have : k = 6 := by omega
    subst this
    refine s153kg (β := β) hR (Nat.le_refl _) hd (fun _ => hq J E h1 h2 h3) (fun h => absurd (Nat.le_refl _) h) (fun h => absurd (Nat.le_refl _) h) (fun h => absurd (Nat.le_refl _) h)
  | succ m ih =>
    intro J E k hk hm h1 h2 h3
    have hkn : ¬ 6 ≤ k := by omega
    have hI2 : ∀ c, c < 6 → J (79 + 3 * c) = I (79 + 3 * c) := fun c hc => h1 _ (fun c2 h2 => fun e => hA c2 c (by omega) hc 0 0 (by omega) (by omega) (by omega))
    have hD2 : ∀ c i, c < 6 → 1 ≤ i → i ≤ 2 → E ((79 + 3 * c) + i) = D ((79 + 3 * c) + i) := fun c i hc hi hi2 => h2 _ (fun c2 h2 => ⟨fun e => hA c2 c (by omega) hc 1 i (by omega) hi2 e.symm, fun e => hA c2 c (by omega) hc 2 i (by omega) hi2 e.symm⟩)
    have ihx : ∀ (J4 : Nat → Nat → Int32) (E5 : Nat → Nat → UInt64), (∀ o, o ≠ ((R 113 k).getD 0) → J4 o = J o) → (∀ i, i < 6 → J4 ((R 113 k).getD 0) i = J (79 + 3 * k) i) → (∀ o, o ≠ ((R 113 k).getD 0) + 1 → o ≠ ((R 113 k).getD 0) + 2 → E5 o = E o) → (∀ q, q < 8 → E5 (((R 113 k).getD 0) + 1) q = E ((79 + 3 * k) + 1) q) → (∀ q, q < 8 → E5 (((R 113 k).getD 0) + 2) q = E ((79 + 3 * k) + 2) q) → j_W 153 d 0 0 0 0 76 [some (.ref 108), some (.ref 1), some (.int (nI (k + 1)))] [] w1 (J4, E5, RR R) Q := fun J4 E5 e1 e2 e3 e4 e5 => ih J4 E5 (k + 1) (by omega) (by omega) (fun o ho => (e1 o (ho k (by omega))).trans (h1 o (fun c hc => ho c (by omega)))) (fun o ho => (e3 o (ho k (by omega)).1 (ho k (by omega)).2).trans (h2 o (fun c hc => ho c (by omega)))) (fun c hc => by
      by_cases e : c = k
      · subst e
        exact (hS c (by omega)).bec hV (by omega) (fun i hi => (e2 i hi).trans (by rw [hI2 c (by omega)])) (fun q hq => (e4 q hq).trans (by rw [hD2 c 1 (by omega) (by omega) (by omega)])) (fun q hq => (e5 q hq).trans (by rw [hD2 c 2 (by omega) (by omega) (by omega)]))
      · have hb := hB c k (by omega) (by omega) e
        exact (h3 c (by omega)).cg (e1 _ (hb 0 0 (by omega) (by omega))) (e3 _ (hb 1 1 (by omega) (by omega)) (hb 1 2 (by omega) (by omega))) (e3 _ (hb 2 1 (by omega) (by omega)) (hb 2 2 (by omega) (by omega))))
    exact s153kg (β := β) hR hk hd (fun h1 => absurd h1 hkn) (fun h1 => hA k k (by omega) (by omega)) (fun h1 => (by rw [hI2 k (by omega), (hS k (by omega)).1]; exact bi_01 _)) (fun h1 J4 E5 h4 h5 h6 h7 h8 => ihx J4 E5 h4 h5 h6 h7 h8)
theorem c153i {d : Nat} {I : Nat → Nat → Int32} {D : Nat → Nat → UInt64} {R : Nat → Nat → Option Nat} {Q : j_Po} {β : Bd} (hR : WFR R) (hW : WFD R) (hV : BV β) (hd : 2 ≤ d) (hC : CB β I D R) (hq : ∀ J E, (∀ o, (o < 2 ∨ 96 < o) → J o = I o) → (∀ o, (o < 2 ∨ 96 < o) → E o = D o) → CK β J E → Q none w1 (J, E, RR R)) : j_Call d 153 [.ref 1, .ref 108] w1 (I, D, RR R) 0 0 Q := by
  have hf : ∀ c, c < 24 → 99 ≤ fo R c ∧ fo R c ≠ 100 ∧ fo R c ≠ 101 ∧ fo R c + 2 < 186 ∧ (fo R c = 99 ∨ 114 ≤ fo R c) := fun c hc => by rcases isBF_rng (hR.1 c hc).2 with h | h <;> omega
  have hg : ∀ c, c < 6 → (go R c = 102 ∨ (186 ≤ go R c ∧ go R c ≤ 201)) := fun c hc => isBG_rng (hR.2.1 c hc).2
  have eI : ∀ o, o ≠ 2 → o ≠ 4 → (j_uo (j_uo I 2 (va_cpy (I 109) (I 2) 0 0 24)) 4 (va_cpy ((j_uo I 2 (va_cpy (I 109) (I 2) 0 0 24)) 111) ((j_uo I 2 (va_cpy (I 109) (I 2) 0 0 24)) 4) 0 0 24)) o = I o := fun o h1 h2 => by rw [j_uo_ne _ _ h2, j_uo_ne _ _ h1]
  have eD : ∀ o, o ≠ 3 → (j_uo D 3 (va_cpy (D 110) (D 3) 0 0 24)) o = D o := fun o h1 => by rw [j_uo_ne _ _ h1]
  have v0 : ∀ c, c < 24 → (j_uo (j_uo I 2 (va_cpy (I 109) (I 2) 0 0 24)) 4 (va_cpy ((j_uo I 2 (va_cpy (I 109) (I 2) 0 0 24)) 111) ((j_uo I 2 (va_cpy (I 109) (I 2) 0 0 24)) 4) 0 0 24)) 2 c = I 109 c := fun c hc => by
    rw [j_uo_ne _ _ (by decide), j_uo_same, va_cpy_in _ _ (by omega) (by omega)]; congr 1; omega
  have v1 : ∀ c, c < 24 → (j_uo D 3 (va_cpy (D 110) (D 3) 0 0 24)) 3 c = D 110 c := fun c hc => by
    rw [j_uo_same, va_cpy_in _ _ (by omega) (by omega)]; congr 1; omega
  have v2 : ∀ c, c < 24 → (j_uo (j_uo I 2 (va_cpy (I 109) (I 2) 0 0 24)) 4 (va_cpy ((j_uo I 2 (va_cpy (I 109) (I 2) 0 0 24)) 111) ((j_uo I 2 (va_cpy (I 109) (I 2) 0 0 24)) 4) 0 0 24)) 4 c = I 111 c := fun c hc => by
    rw [j_uo_same, va_cpy_in _ _ (by omega) (by omega), j_uo_ne _ _ (by decide)]; congr 1; omega
  refine s153i hR hd (fun q hq => ?_) ?_
  · rw [j_uo_ne _ _ (by decide), Nat.zero_add, (hC.1 q hq).2.2.2.1]; exact bi_01 _
  have hSf : ∀ c, c < 24 → FR (bZ β c) (bS β c) (j_uo (j_uo I 2 (va_cpy (I 109) (I 2) 0 0 24)) 4 (va_cpy ((j_uo I 2 (va_cpy (I 109) (I 2) 0 0 24)) 111) ((j_uo I 2 (va_cpy (I 109) (I 2) 0 0 24)) 4) 0 0 24)) ((R 112 c).getD 0) := fun c hc => by
    have := hf c hc; unfold fo at this
    have e0 := eI ((R 112 c).getD 0) (by omega) (by omega)
    have e1 := eI ((R 112 c).getD 0 + 1) (by omega) (by omega)
    have e2 := eI ((R 112 c).getD 0 + 2) (by omega) (by omega)
    exact (hC.1 c hc).2.2.2.2.cg e0 e1 e2
  have hAf : ∀ c c2, c < 24 → c2 < 24 → ∀ i j, i ≤ 2 → j ≤ 2 → (7 + 3 * c) + i ≠ ((R 112 c2).getD 0) + j := fun c c2 hc hc2 i j hi hj => by have := hf c2 hc2; unfold fo at this; omega
  have hBf : ∀ c c2, c < 24 → c2 < 24 → c ≠ c2 → ∀ i j, i ≤ 2 → j ≤ 2 → (7 + 3 * c) + i ≠ (7 + 3 * c2) + j := fun c c2 hc hc2 e i j hi hj => by omega
  have hSg : ∀ J1 : Nat → Nat → Int32, (∀ o, (∀ c, c < 24 → o ≠ (7 + 3 * c) ∧ o ≠ (7 + 3 * c) + 1 ∧ o ≠ (7 + 3 * c) + 2) → J1 o = (j_uo (j_uo I 2 (va_cpy (I 109) (I 2) 0 0 24)) 4 (va_cpy ((j_uo I 2 (va_cpy (I 109) (I 2) 0 0 24)) 111) ((j_uo I 2 (va_cpy (I 109) (I 2) 0 0 24)) 4) 0 0 24)) o) → ∀ c, c < 6 → GR β c J1 (j_uo D 3 (va_cpy (D 110) (D 3) 0 0 24)) ((R 113 c).getD 0) := fun J1 h1 c hc => by
    have := hg c hc; unfold go at this
    have e0 := (h1 ((R 113 c).getD 0) (fun c2 h => by omega)).trans (eI ((R 113 c).getD 0) (by omega) (by omega))
    have e1 := eD ((R 113 c).getD 0 + 1) (by omega)
    have e2 := eD ((R 113 c).getD 0 + 2) (by omega)
    exact (hC.2 c hc).cg e0 e1 e2
  have hAg : ∀ c c2, c < 6 → c2 < 6 → ∀ i j, i ≤ 2 → j ≤ 2 → (79 + 3 * c) + i ≠ ((R 113 c2).getD 0) + j := fun c c2 hc hc2 i j hi hj => by have := hg c2 hc2; unfold go at this; omega
  have hBg : ∀ c c2, c < 6 → c2 < 6 → c ≠ c2 → ∀ i j, i ≤ 2 → j ≤ 2 → (79 + 3 * c) + i ≠ (79 + 3 * c2) + j := fun c c2 hc hc2 e i j hi hj => by omega
  refine l153if (β := β) hR hV hd hSf hAf hBf (fun J1 h1 h2 => ?_) 24 _ 0 (Nat.zero_le _) rfl (fun o _ => rfl) (fun c hc => absurd hc (Nat.not_lt_zero _))
  refine l153ig (β := β) hR hV hd (hSg J1 h1) hAg hBg (fun J2 E2 g1 g2 g3 => ?_) 6 J1 _ 0 (Nat.zero_le _) rfl (fun o _ => rfl) (fun o _ => rfl) (fun c hc => absurd hc (Nat.not_lt_zero _))
  refine hq J2 E2 (fun o ho => ?_) (fun o ho => ?_) ⟨fun c hc => ?_, g3⟩
  · exact (g1 o (fun c hc => by omega)).trans ((h1 o (fun c hc => by omega)).trans (eI o (by omega) (by omega)))
  · exact (g2 o (fun c hc => by omega)).trans (eD o (by omega))
  · obtain ⟨p1, p2, p3, p4, -⟩ := hC.1 c hc
    have e2 : J2 2 = _ := (g1 2 (fun c hc => by omega)).trans (h1 2 (fun c hc => by omega))
    have e4 : J2 4 = _ := (g1 4 (fun c hc => by omega)).trans (h1 4 (fun c hc => by omega))
    have e3 : E2 3 = _ := g2 3 (fun c hc => by omega)
    rw [e2, e3, e4, v0 c hc, v1 c hc, v2 c hc]
    exact ⟨p1, p2, p3, p4, (h2 c hc).cg (g1 _ (fun c2 hc2 => by omega)) (g1 _ (fun c2 hc2 => by omega)) (g1 _ (fun c2 hc2 => by omega))⟩
theorem c153k {d : Nat} {I : Nat → Nat → Int32} {D : Nat → Nat → UInt64} {R : Nat → Nat → Option Nat} {Q : j_Po} {β : Bd} (hR : WFR R) (hW : WFD R) (hV : BV β) (hd : 2 ≤ d) (hC : CK β I D) (hq : ∀ J E, (∀ o, ¬ CBP o → J o = I o) → (∀ o, ¬ CBP o → E o = D o) → CB β J E R → Q none w1 (J, E, RR R)) : j_Call d 153 [.ref 108, .ref 1] w1 (I, D, RR R) 0 0 Q := by
  have hf : ∀ c, c < 24 → 99 ≤ fo R c ∧ fo R c ≠ 100 ∧ fo R c ≠ 101 ∧ fo R c + 2 < 186 ∧ (fo R c = 99 ∨ 114 ≤ fo R c) := fun c hc => by rcases isBF_rng (hR.1 c hc).2 with h | h <;> omega
  have hg : ∀ c, c < 6 → (go R c = 102 ∨ (186 ≤ go R c ∧ go R c ≤ 201)) := fun c hc => isBG_rng (hR.2.1 c hc).2
  have eI : ∀ o, o ≠ 109 → o ≠ 111 → (j_uo (j_uo I 109 (va_cpy (I 2) (I 109) 0 0 24)) 111 (va_cpy ((j_uo I 109 (va_cpy (I 2) (I 109) 0 0 24)) 4) ((j_uo I 109 (va_cpy (I 2) (I 109) 0 0 24)) 111) 0 0 24)) o = I o := fun o h1 h2 => by rw [j_uo_ne _ _ h2, j_uo_ne _ _ h1]
  have eD : ∀ o, o ≠ 110 → (j_uo D 110 (va_cpy (D 3) (D 110) 0 0 24)) o = D o := fun o h1 => by rw [j_uo_ne _ _ h1]
  have v0 : ∀ c, c < 24 → (j_uo (j_uo I 109 (va_cpy (I 2) (I 109) 0 0 24)) 111 (va_cpy ((j_uo I 109 (va_cpy (I 2) (I 109) 0 0 24)) 4) ((j_uo I 109 (va_cpy (I 2) (I 109) 0 0 24)) 111) 0 0 24)) 109 c = I 2 c := fun c hc => by
    rw [j_uo_ne _ _ (by decide), j_uo_same, va_cpy_in _ _ (by omega) (by omega)]; congr 1; omega
  have v1 : ∀ c, c < 24 → (j_uo D 110 (va_cpy (D 3) (D 110) 0 0 24)) 110 c = D 3 c := fun c hc => by
    rw [j_uo_same, va_cpy_in _ _ (by omega) (by omega)]; congr 1; omega
  have v2 : ∀ c, c < 24 → (j_uo (j_uo I 109 (va_cpy (I 2) (I 109) 0 0 24)) 111 (va_cpy ((j_uo I 109 (va_cpy (I 2) (I 109) 0 0 24)) 4) ((j_uo I 109 (va_cpy (I 2) (I 109) 0 0 24)) 111) 0 0 24)) 111 c = I 4 c := fun c hc => by
    rw [j_uo_same, va_cpy_in _ _ (by omega) (by omega), j_uo_ne _ _ (by decide)]; congr 1; omega
  refine s153k hR hd (fun q hq => ?_) ?_
  · rw [j_uo_ne _ _ (by decide), Nat.zero_add, (hC.1 q hq).2.2.2.1]; exact bi_01 _
  have hSf : ∀ c, c < 24 → FR (bZ β c) (bS β c) (j_uo (j_uo I 109 (va_cpy (I 2) (I 109) 0 0 24)) 111 (va_cpy ((j_uo I 109 (va_cpy (I 2) (I 109) 0 0 24)) 4) ((j_uo I 109 (va_cpy (I 2) (I 109) 0 0 24)) 111) 0 0 24)) (7 + 3 * c) := fun c hc => by
    have e0 := eI (7 + 3 * c) (by omega) (by omega)
    have e1 := eI (7 + 3 * c + 1) (by omega) (by omega)
    have e2 := eI (7 + 3 * c + 2) (by omega) (by omega)
    exact (hC.1 c hc).2.2.2.2.cg e0 e1 e2
  have hAf : ∀ c c2, c < 24 → c2 < 24 → ∀ i j, i ≤ 2 → j ≤ 2 → ((R 112 c).getD 0) + i ≠ (7 + 3 * c2) + j := fun c c2 hc hc2 i j hi hj => by have := hf c hc; unfold fo at this; omega
  have hBf : ∀ c c2, c < 24 → c2 < 24 → c ≠ c2 → ∀ i j, i ≤ 2 → j ≤ 2 → ((R 112 c).getD 0) + i ≠ ((R 112 c2).getD 0) + j := fun c c2 hc hc2 e i j hi hj => isBF_ne hR hW hc hc2 e i j hi hj
  have hSg : ∀ J1 : Nat → Nat → Int32, (∀ o, (∀ c, c < 24 → o ≠ ((R 112 c).getD 0) ∧ o ≠ ((R 112 c).getD 0) + 1 ∧ o ≠ ((R 112 c).getD 0) + 2) → J1 o = (j_uo (j_uo I 109 (va_cpy (I 2) (I 109) 0 0 24)) 111 (va_cpy ((j_uo I 109 (va_cpy (I 2) (I 109) 0 0 24)) 4) ((j_uo I 109 (va_cpy (I 2) (I 109) 0 0 24)) 111) 0 0 24)) o) → ∀ c, c < 6 → GR β c J1 (j_uo D 110 (va_cpy (D 3) (D 110) 0 0 24)) (79 + 3 * c) := fun J1 h1 c hc => by
    have e0 := (h1 (79 + 3 * c) (fun c2 h => by have := hf c2 h; unfold fo at this; omega)).trans (eI (79 + 3 * c) (by omega) (by omega))
    have e1 := eD (79 + 3 * c + 1) (by omega)
    have e2 := eD (79 + 3 * c + 2) (by omega)
    exact (hC.2 c hc).cg e0 e1 e2
  have hAg : ∀ c c2, c < 6 → c2 < 6 → ∀ i j, i ≤ 2 → j ≤ 2 → ((R 113 c).getD 0) + i ≠ (79 + 3 * c2) + j := fun c c2 hc hc2 i j hi hj => by have := hg c hc; unfold go at this; omega
  have hBg : ∀ c c2, c < 6 → c2 < 6 → c ≠ c2 → ∀ i j, i ≤ 2 → j ≤ 2 → ((R 113 c).getD 0) + i ≠ ((R 113 c2).getD 0) + j := fun c c2 hc hc2 e i j hi hj => isBG_ne hR hW hc hc2 e i j hi hj
  refine l153kf (β := β) hR hV hd hSf hAf hBf (fun J1 h1 h2 => ?_) 24 _ 0 (Nat.zero_le _) rfl (fun o _ => rfl) (fun c hc => absurd hc (Nat.not_lt_zero _))
  refine l153kg (β := β) hR hV hd (hSg J1 h1) hAg hBg (fun J2 E2 g1 g2 g3 => ?_) 6 J1 _ 0 (Nat.zero_le _) rfl (fun o _ => rfl) (fun o _ => rfl) (fun c hc => absurd hc (Nat.not_lt_zero _))
  refine hq J2 E2 (fun o ho => ?_) (fun o ho => ?_) ⟨fun c hc => ?_, g3⟩
  · unfold CBP at ho
    exact (g1 o (fun c hc => by have := hg c hc; unfold go at this; omega)).trans ((h1 o (fun c hc => by have := hf c hc; unfold fo at this; omega)).trans (eI o (by omega) (by omega)))
  · unfold CBP at ho
    exact (g2 o (fun c hc => by have := hg c hc; unfold go at this; omega)).trans (eD o (by omega))
  · obtain ⟨p1, p2, p3, p4, -⟩ := hC.1 c hc
    have e2 : J2 109 = _ := (g1 109 (fun c hc => by have := hg c hc; unfold go at this; omega)).trans (h1 109 (fun c hc => by have := hf c hc; unfold fo at this; omega))
    have e4 : J2 111 = _ := (g1 111 (fun c hc => by have := hg c hc; unfold go at this; omega)).trans (h1 111 (fun c hc => by have := hf c hc; unfold fo at this; omega))
    have e3 : E2 110 = _ := g2 110 (fun c hc => by have := hg c hc; unfold go at this; omega)
    rw [e2, e3, e4, v0 c hc, v1 c hc, v2 c hc]
    have := hf c hc
    unfold fo at this
    have f0 := g1 ((R 112 c).getD 0) (fun c2 hc2 => by have := hg c2 hc2; unfold go at this; omega)
    have f1 := g1 ((R 112 c).getD 0 + 1) (fun c2 hc2 => by have := hg c2 hc2; unfold go at this; omega)
    have f2 := g1 ((R 112 c).getD 0 + 2) (fun c2 hc2 => by have := hg c2 hc2; unfold go at this; omega)
    exact ⟨p1, p2, p3, p4, (h2 c hc).cg f0 f1 f2⟩
