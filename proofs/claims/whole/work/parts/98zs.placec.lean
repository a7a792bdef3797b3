/-! asks: the place of a case, the class -/
theorem pl_nat : ∀ k, k < 65 → ∀ w, w < 9 → 1 ≤ w → ((nI k / nI w) * 10) + (nI k - nI k / nI w * nI w) = nI (10 * (k / w) + k % w) := by decide +kernel
theorem nI_pm1 : ∀ k, k < 65 → ¬ nI k = -1 := by decide +kernel
theorem c124 {β : Bd} {I : Nat → Nat → Int32} {D : Nat → Nat → UInt64} {R : Nat → Nat → Option Nat} {Q : j_Po} {d t g : Nat} {l : Bool} {T : Tl} (hg : isG g) (hV : BV β) (hG : GR β t I D g) (ht : t < 6) (hl : bL β t = true) (hk : plK l T ≤ 64) (hd : 1 ≤ d) (hq : Q (some (.int (plV l (wd β t) T))) w1 (I, D, RR R)) : j_Call d 124 [.ref g, .int (if tG T = 0 then -1 else nI (plK l T))] w1 (I, D, RR R) 0 0 Q := by
  obtain ⟨k64, kw, k8, kc⟩ := cas_64 hV ht hl
  obtain ⟨-, -, -, -, e5, -⟩ := hG.2 hl
  obtain ⟨-, -, -, -, v5, w6, v7, v8, v9, -⟩ := hV.2.1 t ht hl
  have sz : (I g 5 ≤ 0 ∧ wd β t = 1) ∨ (¬ I g 5 ≤ 0 ∧ I g 5 = nI (wd β t)) := by
    unfold wd
    by_cases hb : b2 β t = none
    · rw [if_pos hb, e5, v7 hb]; exact Or.inl ⟨by decide, rfl⟩
    · rw [if_neg hb, e5]
      have := v8 hb
      exact Or.inr ⟨fun h => by
        have := (nI_leI (a := bn β t) (b := 0) (by omega) (by decide)).mp h
        omega, rfl⟩
  have res : ¬ (if tG T = 0 then -1 else nI (plK l T)) = -1 → tG T ≠ 0 := fun h q => h (if_pos q)
  have non : (if tG T = 0 then -1 else nI (plK l T)) = -1 → Q (some (.int (-1))) w1 (I, D, RR R) := fun h => by
    by_cases q : tG T = 0
    · unfold plV at hq; rw [if_pos q] at hq; exact hq
    · rw [if_neg q] at h; exact absurd h (nI_pm1 _ (by omega))
  have pv : tG T ≠ 0 → plV l (wd β t) T = nI (10 * (plK l T / wd β t) + plK l T % wd β t) := fun q => if_neg q
  refine u124 hg hd (fun _ h => non h) (fun h5 h => ?_) (fun _ h => non h) (fun h5 h h1 => ?_) (fun h5 h h1 => ?_) (fun h5 h h1 => ?_)
  · have ew : wd β t = 1 := sz.elim (fun h => h.2) (fun h => absurd h5 h.1)
    have q := res h
    rw [if_neg q]
    have e := pl_nat (plK l T) (by omega) 1 (by decide) (by decide)
    rw [pv q, ew, ← e] at hq; exact hq
  · have ew : I g 5 = nI (wd β t) := sz.elim (fun h => absurd h.1 h5) (fun h => h.2)
    rw [ew]
    exact fun q => by
      have := (nI_eqN (a := wd β t) (b := 0) (by omega) (by decide)).mp q
      omega
  · have ew : I g 5 = nI (wd β t) := sz.elim (fun h => absurd h.1 h5) (fun h => h.2)
    have q := res h
    rw [if_neg q, ew]
    have e := pl_nat (plK l T) (by omega) (wd β t) (by omega) kw
    rw [pv q, ← e] at hq; exact hq
  · have ew : I g 5 = nI (wd β t) := sz.elim (fun h => absurd h.1 h5) (fun h => h.2)
    rw [ew] at h1
    exact absurd ((nI_leI (a := 1) (b := wd β t) (by decide) (by omega)).mpr kw) h1
