/-! image and back, both sides -/
theorem lD3' : 3 ≤ lD := by decide
theorem both_image : BothI Inv 152 280 [] := fun σ h => by
  have hT := h
  obtain ⟨⟨hR, hW⟩, ⟨β, hL⟩, hRe⟩ := h
  show j_Call lD 152 [.ref 0] w1 (σ.1, σ.2.1, RR σ.2.2) 0 0 (PEnd 280 [] Inv)
  have hV := hL.2.2.2.1
  have fin : ∀ J1 E2, (∀ o, (o < 2 ∨ 96 < o) → J1 o = σ.1 o) → (∀ o, (o < 2 ∨ 96 < o) → E2 o = σ.2.1 o) → CK β J1 E2 → PEnd 280 [] Inv (some (.int (nI (nfor β)))) w1 (j_u J1 0 4 1, E2, RR σ.2.2) := fun J1 E2 h1 h2 h3 => by
    have f1 : ∀ o, o ≠ 0 → (o < 2 ∨ 96 < o) → j_u J1 0 4 1 o = σ.1 o := fun o ho h => by rw [← h1 o h]; funext i; rw [j_u_o _ _ _ ho]
    refine pend_go (c280 (β := β) lD2 hV (hL.2.1.cg (fun o a b => f1 o (by omega) (by omega)) (fun o a b => h2 o (by omega))) (fun K E k1 k2 k3 e1 kR => ⟨(K, E, σ.2.2), rfl, rfl, rfl, ?_⟩))
    have g1 : ∀ o, o ≠ 0 → o ≠ 260 → (96 < o) → (o < 431 ∨ 503 ≤ o) → K o = σ.1 o := fun o a b c e => (k1 o e b).trans (f1 o a (by omega))
    have g2 : ∀ o, 96 < o → (o < 431 ∨ 503 ≤ o) → E o = σ.2.1 o := fun o a b => (e1 o b).trans (h2 o (by omega))
    have k0 : K 0 4 = 1 := by rw [k1 0 (by decide) (by decide), j_u_same]
    obtain ⟨a1, a2, a3, a4, a5, a6, a7⟩ := hL
    obtain ⟨r1, r2, r3, r4, r5⟩ := hRe
    refine Inv.mk (β := β) hR hW (a1.cg hR (fun o ho => ?_) (fun o ho => ?_)) (a2.cg (fun o x y => g1 o (by omega) (by omega) (by omega) (by omega)) (fun o x y => g2 o (by omega) (by omega))) (a3.cg (fun o x y => g1 o (by omega) (by omega) (by omega) (by omega))) a4 (a5.cg (fun o x y => g1 o (by omega) (by omega) (by omega) (by omega))) (a6.cg (g1 205 (by decide) (by decide) (by decide) (by decide))) (fun v hv => ?_) ⟨r1.cg (σ' := (K, E, σ.2.2)) (fun o ho => ?_) (fun o ho => ?_), r2.cg (σ' := (K, E, σ.2.2)) ?_ ?_ ?_ ?_, ?_, Or.inr k0, fun _ => ⟨β, h3.cg (fun o x y => ?_) (fun o x y => ?_), kR, a4, σ.1, a5, a7⟩⟩
    · unfold CBP at ho; exact g1 o (by omega) (by omega) (by omega) (by omega)
    · unfold CBP at ho; exact g2 o (by omega) (by omega)
    · unfold bu; rw [g1 208 (by decide) (by decide) (by decide) (by decide)]; exact a7 v hv
    · unfold rowsP at ho; exact g1 o (by omega) (by omega) (by omega) (by omega)
    · unfold rowsP at ho; exact g2 o (by omega) (by omega)
    · show K 97 1 = σ.1 97 1
      rw [g1 97 (by decide) (by decide) (by decide) (by decide)]
    · show K 260 34 = σ.1 260 34
      rw [k2 34 (by decide), f1 260 (by decide) (by decide)]
    · exact g1 98 (by decide) (by decide) (by decide) (by decide)
    · exact g1 422 (by decide) (by decide) (by decide) (by decide)
    · exact k0.trans k3.symm
    · show K o = J1 o
      rw [k1 o (by omega) (by omega)]; funext i; rw [j_u_o _ _ _ (by omega)]
    · exact e1 o (by omega)
  exact s152 (β := β) hR hW lD3' (hV) (hL.1) (fun J1 E2 h3 h4 h5 => hL.1.cg hR (fun o ho => by unfold CBP at ho; rw [← h3 o (by omega)]; funext i; rw [j_u_o _ _ _ (by omega)]) (fun o ho => by unfold CBP at ho; exact h4 o (by omega))) (fun J1 E2 h3 h4 h5 => fin J1 E2 h3 h4 h5)
theorem lD4'' : 4 ≤ lD := by decide
theorem both_back : BothI Inv 156 282 [] := fun σ h => by
  have hT := h
  obtain ⟨⟨hR, hW⟩, ⟨β, hL⟩, hRe⟩ := h
  show j_Call lD 156 [.ref 0] w1 (σ.1, σ.2.1, RR σ.2.2) 0 0 (PEnd 282 [] Inv)
  by_cases h04 : σ.1 0 4 = 0
  · have h57 : (σ.1 260 57) = 0 := hRe.2.2.1.symm.trans h04
    exact s156 (β := β) hR hW lD4'' (fun h1 => False.elim (by first | exact absurd h1 h04 | exact absurd h04 h1 | exact (Int32.not_lt.mpr h1) h04 | exact (Int32.not_lt.mpr h04) h1 | exact h1 (Int32.not_le.mp h04) | exact h04 (Int32.not_le.mp h1) | omega)) (fun h1 => False.elim (by first | exact absurd h1 h04 | exact absurd h04 h1 | exact (Int32.not_lt.mpr h1) h04 | exact (Int32.not_lt.mpr h04) h1 | exact h1 (Int32.not_le.mp h04) | exact h04 (Int32.not_le.mp h1) | omega)) (fun h1 J2 E3 h4 h5 h6 => False.elim (by first | exact absurd h1 h04 | exact absurd h04 h1 | exact (Int32.not_lt.mpr h1) h04 | exact (Int32.not_lt.mpr h04) h1 | exact h1 (Int32.not_le.mp h04) | exact h04 (Int32.not_le.mp h1) | omega)) (fun h1 J2 E3 h4 h5 h6 => False.elim (by first | exact absurd h1 h04 | exact absurd h04 h1 | exact (Int32.not_lt.mpr h1) h04 | exact (Int32.not_lt.mpr h04) h1 | exact h1 (Int32.not_le.mp h04) | exact h04 (Int32.not_le.mp h1) | omega)) (fun h1 J2 E3 h4 h5 h6 J7 h8 h9 h10 => False.elim (by first | exact absurd h1 h04 | exact absurd h04 h1 | exact (Int32.not_lt.mpr h1) h04 | exact (Int32.not_lt.mpr h04) h1 | exact h1 (Int32.not_le.mp h04) | exact h04 (Int32.not_le.mp h1) | omega)) (fun h1 J2 E3 h4 h5 h6 J7 h8 h9 h10 => False.elim (by first | exact absurd h1 h04 | exact absurd h04 h1 | exact (Int32.not_lt.mpr h1) h04 | exact (Int32.not_lt.mpr h04) h1 | exact h1 (Int32.not_le.mp h04) | exact h04 (Int32.not_le.mp h1) | omega)) (fun h1 => pend_same hT (s282e lD2 (fun g1 => False.elim (by first | exact absurd g1 h57 | exact absurd h57 g1 | exact (Int32.not_lt.mpr g1) h57 | exact (Int32.not_lt.mpr h57) g1 | exact g1 (Int32.not_le.mp h57) | exact h57 (Int32.not_le.mp g1) | omega)) (fun g1 => False.elim (by first | exact absurd g1 h57 | exact absurd h57 g1 | exact (Int32.not_lt.mpr g1) h57 | exact (Int32.not_lt.mpr h57) g1 | exact g1 (Int32.not_le.mp h57) | exact h57 (Int32.not_le.mp g1) | omega)) (fun g1 => ⟨rfl, rfl, rfl⟩)))
  have h57 : ¬ (σ.1 260 57) = 0 := fun e => h04 (hRe.2.2.1.trans e)
  obtain ⟨γ, gC, gK, gV, J0, j0, j2000⟩ := hRe.2.2.2.2 h04
  have NBX : ∀ {J2 : Nat → Nat → Int32}, (∀ o, ¬ CBP o → J2 o = σ.1 o) → NB J2 := fun hJ => hL.2.2.2.2.1.nb.cg (hJ _ (by unfold CBP; omega)) (hJ _ (by unfold CBP; omega))
  have fin : ∀ (J2 : Nat → Nat → Int32) (E3 : Nat → Nat → UInt64) (J7 : Nat → Nat → Int32), (∀ o, ¬ CBP o → J2 o = σ.1 o) → (∀ o, ¬ CBP o → E3 o = σ.2.1 o) → CB γ J2 E3 σ.2.2 → (∀ o', (o' < 205 ∨ 211 ≤ o') → J7 o' = J2 o') → NM γ J7 → OrdB γ J7 → PEnd 282 [] Inv (some (.int (nI (nfor γ)))) w1 (J7, E3, RR σ.2.2) := fun J2 E3 J7 h1 h2 h3 h4 h5 h6 => by
    have f1 : ∀ o, ¬ CBP o → (o < 205 ∨ 211 ≤ o) → J7 o = σ.1 o := fun o a b => (h4 o b).trans (h1 o a)
    refine pend_go (c282 (β := γ) lD2 (by rw [f1 260 (by unfold CBP; omega) (by decide)]; exact h57) gV (gK.cg (fun o a b => f1 o (by unfold CBP; omega) (by omega)) (fun o a b => h2 o (by unfold CBP; omega))) (fun K E k1 e1 kB kN => ⟨(K, E, σ.2.2), rfl, rfl, rfl, ?_⟩))
    have nmK : NM γ K := h5.cg (fun o x y => k1 o (by omega))
    refine Inv.mk (β := γ) hR hW (h3.cg hR (fun o ho => ?_) (fun o ho => ?_)) kB kN gV nmK (h6.cg (k1 205 (by omega))) (fun v hv => ?_) (hRe.cg' (fun o ho => ?_) (fun o ho => ?_) ?_ ?_ ?_ ?_)
    · have hb := ho
      unfold CBP at hb
      exact (k1 o (by omega)).trans (h4 o (by omega))
    · unfold CBP at ho; exact e1 o (by omega)
    · have := NM.mono gV gV lessB.rf j0 nmK v hv
      have := j2000 v hv
      omega
    · unfold restP at ho; exact (k1 o (by omega)).trans (f1 o (by unfold CBP; omega) (by omega))
    · unfold restP at ho; exact (e1 o (by omega)).trans (h2 o (by unfold CBP; omega))
    · rw [k1 97 (by omega), f1 97 (by unfold CBP; omega) (by omega)]
    · rw [k1 260 (by omega), f1 260 (by unfold CBP; omega) (by omega)]
    · rw [k1 260 (by omega), f1 260 (by unfold CBP; omega) (by omega)]
    · rw [k1 0 (by omega), f1 0 (by unfold CBP; omega) (by omega)]
  exact s156 (β := γ) hR hW lD4'' (fun h1 => gV) (fun h1 => gC) (fun h1 J2 E3 h4 h5 h6 => h6) (fun h1 J2 E3 h4 h5 h6 => NBX h4) (fun h1 J2 E3 h4 h5 h6 J7 h8 h9 h10 => h6.cg hR (fun o ho => by unfold CBP at ho; exact h8 o (by omega)) (fun _ _ => rfl)) (fun h1 J2 E3 h4 h5 h6 J7 h8 h9 h10 => fin J2 E3 J7 h4 h5 h6 h8 h9 h10) (fun h1 => absurd h1 h04)
