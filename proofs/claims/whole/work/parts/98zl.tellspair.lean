/-! tells: the pair -/
theorem i_ge {x : Int32} (h : ¬ x < -1) (h2 : ¬ x = -1) : 0 ≤ x := by
  rw [Int32.le_iff_toInt_le]
  have h3 := Int32.not_lt.mp h
  rw [Int32.le_iff_toInt_le] at h3
  have h4 : x.toInt ≠ (-1 : Int32).toInt := fun e => h2 (Int32.toInt_inj.mp e)
  have e1 : (-1 : Int32).toInt = -1 := rfl
  have e0 : (0 : Int32).toInt = 0 := rfl
  omega
theorem both_tells (a b e w : Int32) : BothI Inv 148 276 [.int a, .int b, .int e, .int w] := fun σ h => by
  have hT := h
  obtain ⟨⟨hR, hW⟩, ⟨β, hC, hB, hN', hV, hN, hO, hb⟩, hRe⟩ := h
  have hrows := hRe.1
  show j_Call lD 148 [.ref 0, .int a, .int b, .int e, .int w] w1 (σ.1, σ.2.1, RR σ.2.2) 0 0 (PEnd 276 [.int a, .int b, .int e, .int w] Inv)
  have bad : ¬ ((∃ k : Nat, k < 6 ∧ a = nI k) ∧ (∃ k : Nat, k < 4 ∧ b = nI k) ∧ (∃ k : Nat, k < 24 ∧ e = nI k) ∧ (¬ w < (0 : Int32) ∧ ¬ (3 : Int32) < w)) → PEnd 276 [.int a, .int b, .int e, .int w] Inv (some (.int (-2))) w1 (σ.1, σ.2.1, RR σ.2.2) := fun hb => pend_same hT (u276r lD3 (fun k1 q1 e1 k2 q2 e2 k3 q3 e3 g _ => absurd ⟨⟨k1, q1, e1⟩, ⟨k2, q2, e2⟩, ⟨k3, q3, e3⟩, g⟩ hb) (fun k1 q1 e1 k2 q2 e2 k3 q3 e3 g _ _ => absurd ⟨⟨k1, q1, e1⟩, ⟨k2, q2, e2⟩, ⟨k3, q3, e3⟩, g⟩ hb) (fun k1 q1 e1 k2 q2 e2 k3 q3 e3 g _ _ _ => absurd ⟨⟨k1, q1, e1⟩, ⟨k2, q2, e2⟩, ⟨k3, q3, e3⟩, g⟩ hb) (fun k1 q1 e1 k2 q2 e2 k3 q3 e3 g _ _ _ => absurd ⟨⟨k1, q1, e1⟩, ⟨k2, q2, e2⟩, ⟨k3, q3, e3⟩, g⟩ hb) (fun _ _ _ _ _ _ _ _ _ _ => ⟨rfl, rfl, rfl⟩) (fun _ _ _ _ _ _ _ => ⟨rfl, rfl, rfl⟩) (fun _ _ _ _ => ⟨rfl, rfl, rfl⟩) (fun _ => ⟨rfl, rfl, rfl⟩))
  have e6 : ∀ {t k : Nat}, t < 24 → k < 24 → nI t = nI k → k = t := fun h1 h2 h => nI_in24 h1 h2 h
  -- the reference's road to 60
  have go : ∀ {t r c k : Nat} (J : Nat → Nat → Int32) (E : Nat → Nat → UInt64) (Q : j_Po), a = nI t → b = nI r → e = nI c → w = nI k → t < 6 → r < 4 → c < 24 → k ≤ 3 → RB β J E → bL β t = true → (k < 2 ∨ bZ β c = 0) → j_W 276 lD 0 0 0 0 60 [some (.ref 260), some (.int (nI t)), some (.int (nI r)), some (.int (nI c)), some (.int (nI k))] [] w1 (J, E, RR σ.2.2) Q → j_Call lD 276 [.ref 260, .int a, .int b, .int e, .int w] w1 (J, E, RR σ.2.2) 0 0 Q := by
    intro t r c k J E Q ha hb' he hw ht hr hc hk hB2 hl hz hq
    subst ha; subst hb'; subst he; subst hw
    have hwr : (¬ nI k < (0 : Int32) ∧ ¬ (3 : Int32) < nI k) := ⟨fun h => by
      have := (nI_ltI (a := k) (b := 0) (by omega) (by decide)).mp h
      omega, fun h => by
      have := (nI_ltI (a := 3) (b := k) (by decide) (by omega)).mp h
      omega⟩
    have h315 : ¬ J 315 t = 0 := by rw [(hB2.2 t ht).1, hl]; decide
    refine u276r lD3 (fun k1 q1 e1 k2 q2 e2 k3 q3 e3 g h => absurd (by rw [e6 (by omega) (by omega) e1] at h; exact h) h315) (fun k1 q1 e1 k2 q2 e2 k3 q3 e3 g h g2 => ?_) (fun k1 q1 e1 k2 q2 e2 k3 q3 e3 g h g2 g3 => ?_) (fun k1 q1 e1 k2 q2 e2 k3 q3 e3 g h g2 g3 => ?_) (fun k1 q1 e1 k2 q2 e2 k3 q3 e3 g => absurd hwr g) (fun _ _ _ _ _ _ g => absurd ⟨c, hc, rfl⟩ g) (fun _ _ _ g => absurd ⟨r, hr, rfl⟩ g) (fun g => absurd ⟨t, ht, rfl⟩ g)
    · rw [e6 (by omega) (by omega) e1, e6 (by omega) (by omega) e2, e6 (by omega) (by omega) e3]; exact hq
    · exfalso
      rcases hz with hz | hz
      · exact g2 ((nI_leI (a := k) (b := 1) (by omega) (by decide)).mpr (by omega))
      · exact g3 (by rw [e6 (by omega) (by omega) e3, (hB2.1 c hc).2.2.2.2.1, hz]; rfl)
    · rw [e6 (by omega) (by omega) e1, e6 (by omega) (by omega) e2, e6 (by omega) (by omega) e3]; exact hq
  have main : ∀ {t r c k : Nat}, a = nI t → b = nI r → e = nI c → w = nI k → t < 6 → r < 4 → c < 24 → k ≤ 3 → bL β t = true → (k < 2 ∨ bZ β c = 0) → j_W 148 lD 0 0 0 0 70 [some (.ref 0), some (.int (nI t)), some (.int (nI r)), some (.int (nI c)), some (.int (nI k)), none] [] w1 (σ.1, σ.2.1, RR σ.2.2) (PEnd 276 [.int a, .int b, .int e, .int w] Inv) := by
    intro t r c k ha hb' he hw ht hr hc hk hl hz
    obtain ⟨n, hn, m1, m3, r0, r1, r5, rk⟩ := hrows r hr
    obtain ⟨k64, -⟩ := cas_64 hV ht hl
    have hRB := rbn_of hB hN'
    have same : ∀ (v : Int32), j_W 276 lD 0 0 0 0 60 [some (.ref 260), some (.int (nI t)), some (.int (nI r)), some (.int (nI c)), some (.int (nI k))] [] w1 (σ.1, σ.2.1, RR σ.2.2) (fun r w τ => r = some (.int v) ∧ w = w1 ∧ τ = e3 σ) → PEnd 276 [.int a, .int b, .int e, .int w] Inv (some (.int v)) w1 (σ.1, σ.2.1, RR σ.2.2) := fun v hv => pend_same hT (go σ.1 σ.2.1 _ ha hb' he hw ht hr hc hk hB hl hz hv)
    refine u148s (β := β) hR hr ht lD2 (fun _ _ => hV) (fun _ _ => ht) (fun _ _ => hC.2 t ht) (fun _ _ => hl) (fun g1 g2 g3 => ?_) (fun g1 g2 g3 => same _ (u276s (β := β) hr ht hV lD3 (fun _ _ => ht) (fun _ _ => hRB) (fun _ _ => hl) (fun _ _ h => absurd (r1.trans (r5.symm.trans h)) g3) (fun _ _ _ => ⟨rfl, rfl, rfl⟩) (fun _ h => absurd (r0.symm.trans g2) h) (fun h => absurd (i_ge m1 (fun q => g1 (r0.trans q))) h))) (fun g1 g2 => same _ (u276s (β := β) hr ht hV lD3 (fun _ _ => ht) (fun _ _ => hRB) (fun _ _ => hl) (fun _ h _ => absurd (r0.trans h) g2) (fun _ h _ => absurd (r0.trans h) g2) (fun _ _ => ⟨rfl, rfl, rfl⟩) (fun h => absurd (i_ge m1 (fun q => g1 (r0.trans q))) h))) (fun g1 => same _ (u276s (β := β) hr ht hV lD3 (fun _ _ => ht) (fun _ _ => hRB) (fun _ _ => hl) (fun h _ _ => absurd (by rw [← r0, g1] at h; exact h) (by decide)) (fun h _ _ => absurd (by rw [← r0, g1] at h; exact h) (by decide)) (fun h _ => absurd (by rw [← r0, g1] at h; exact h) (by decide)) (fun _ => ⟨rfl, rfl, rfl⟩)))
    have hnc : n = cas β t := (nI_eqN (by omega) (by omega)).mp (r1.symm.trans g3)
    subst hnc
    -- both tell
    have ref : ∀ (v : Int32) (J : Nat → Nat → Int32) (E : Nat → Nat → UInt64), FRc σ.1 σ.2.1 J E → (∀ Q : j_Po, (∀ i, i < cas β t → J (511 + r) i = σ.1 (248 + 3 * r + 2) i) → (∀ i, i < cas β t → σ.1 (248 + 3 * r + 2) i = 0 → E (506 + r) i = σ.2.1 (248 + 3 * r + 1) i ∧ Fi (σ.2.1 (248 + 3 * r + 1) i)) → J 504 r = nI (cas β t) → RB β J E → (∀ K F, FRr J E K F → Q (some (.int v)) w1 (K, F, RR σ.2.2)) → j_W 276 lD 0 0 0 0 102 [some (.ref 260), some (.int (nI t)), some (.int (nI r)), some (.int (nI c)), some (.int (nI k))] [] w1 (J, E, RR σ.2.2) Q) → PEnd 276 [.int a, .int b, .int e, .int w] Inv (some (.int v)) w1 (J, E, RR σ.2.2) := by
      intro v J E h1 hv
      have hB2 := FRc.rb h1 hB
      have o503 : J 503 = σ.1 503 := h1.1 503 (by decide) (by decide) (by decide) (by decide)
      have o504 : J 504 = σ.1 504 := h1.1 504 (by decide) (by decide) (by decide) (by decide)
      have o511 : J (511 + r) = σ.1 (511 + r) := h1.1 _ (by omega) (by omega) (by omega) (by omega)
      have o506 : E (506 + r) = σ.2.1 (506 + r) := h1.2.2.2.1 _ (by omega) (by omega) (by omega)
      have hN2 : RN β J := hN'.cg (fun o a1 a2 => h1.1 o (by omega) (by omega) (by omega) (by omega))
      have h504 : J 504 r = nI (cas β t) := by rw [o504]; exact r5
      refine pend_tell hT h1 (fun Q hQ => go J E Q ha hb' he hw ht hr hc hk hB2 hl hz (u276s (β := β) hr ht hV lD3 (fun _ _ => ht) (fun _ _ => rbn_of hB2 hN2) (fun _ _ => hl) (fun _ _ _ => ?_) (fun _ _ h => absurd h504 h) (fun _ h => absurd (by rw [o503, ← r0]; exact g2) h) (fun h => absurd (by rw [o503]; exact i_ge m1 (fun q => g1 (r0.trans q))) h)))
      refine hv Q (fun i hi => by rw [o511]; exact (rk i hi).1.symm) (fun i hi h0 => ?_) h504 hB2 hQ
      rw [o506]
      obtain ⟨x1, x2, x3⟩ := rk i hi
      obtain ⟨y1, y2⟩ := x3 (x1.symm.trans h0)
      exact ⟨y1.symm, by rw [y1]; exact y2.1.1⟩
    have h4 : k = 0 ∨ k = 1 ∨ k = 2 ∨ k = 3 := by omega
    rcases h4 with h4 | h4 | h4 | h4
    · subst h4
      refine u148_0 hR hV hC hN hO hr ht hc hl (by decide) ht hl (Nat.le_refl _) (fun _ _ _ _ _ => k64) (fun _ _ _ h _ => h) (fun _ _ _ _ h k hk => (h k hk).1) (fun J E h1 _ _ => by rw [h1.1 _ (by omega) (by omega) (by omega) (by omega)]; exact r1) (fun _ _ _ _ _ => Nat.le_refl _) (fun J E h1 _ _ => ?_)
      rw [h1.1 (248 + 3 * r + 2) (by omega) (by omega) (by omega) (by omega), h1.2.2.2.1 (248 + 3 * r + 1) (by omega) (by omega) (by omega)]
      exact ref _ J E h1 (fun Q p1 p2 p3 p4 p5 => u276_0 (f := σ.1 (248 + 3 * r + 2)) (x := σ.2.1 (248 + 3 * r + 1)) hV p4 hr ht hc hl lD100 p3 p1 p2 (Nat.le_refl _) p5)
    · subst h4
      exact u148_1 hR hV hC hN hO hr ht hc hl (by decide) r1 (Nat.le_refl _) (fun J E h1 => ref _ J E h1 (fun Q p1 p2 p3 p4 p5 => u276_1 (f := σ.1 (248 + 3 * r + 2)) (x := σ.2.1 (248 + 3 * r + 1)) hV p4 hr ht hc hl lD100 p3 p1 p2 (Nat.le_refl _) p5))
    · subst h4
      exact u148_2 hR hV hC hN hO hr ht hc hl (by decide) r1 (Nat.le_refl _) (fun J E h1 => ref _ J E h1 (fun Q p1 p2 p3 p4 p5 => u276_2 (f := σ.1 (248 + 3 * r + 2)) (x := σ.2.1 (248 + 3 * r + 1)) hV p4 hr ht hc hl lD100 p3 p1 p2 (Nat.le_refl _) p5))
    · subst h4
      exact u148_3 hR hV hC hN hO hr ht hc hl (by decide) r1 (Nat.le_refl _) (fun J E h1 => ref _ J E h1 (fun Q p1 p2 p3 p4 p5 => u276_3 (f := σ.1 (248 + 3 * r + 2)) (x := σ.2.1 (248 + 3 * r + 1)) hV p4 hr ht hc hl lD100 p3 p1 p2 (Nat.le_refl _) p5))
  have laid : ∀ {t : Nat}, t < 6 → ((¬ σ.1 ((σ.2.2 113 t).getD 0) 0 = 0) ↔ bL β t = true) := fun {t} ht => by
    have e0 : σ.1 ((σ.2.2 113 t).getD 0) 0 = bi (bL β t) := (hC.2 t ht).1
    rw [e0]
    cases bL β t with
    | false => exact ⟨fun h => absurd rfl h, fun h => by cases h⟩
    | true => exact ⟨fun _ => rfl, fun _ => by decide⟩
  have wk : ∀ {k : Nat}, k ≤ 3 → (nI k < 2 ↔ k < 2) := fun {k} hk => nI_ltI (a := k) (b := 2) (by omega) (by decide)
  have fz : ∀ {c : Nat}, c < 24 → (σ.1 ((σ.2.2 112 c).getD 0) 1 ≤ 0 ↔ bZ β c = 0) := fun {c} hc => by
    show σ.1 (fo σ.2.2 c) 1 ≤ 0 ↔ _
    have := (hV.1 c hc).2.1
    rw [(hC.1 c hc).2.2.2.2.1, show (0 : Int32) = nI 0 from rfl, nI_leI (by omega) (by decide)]; omega
  have ref3 : ∀ {t r c k : Nat}, a = nI t → b = nI r → e = nI c → w = nI k → t < 6 → r < 4 → c < 24 → k ≤ 3 → (bL β t = false ∨ (bL β t = true ∧ ¬ k < 2 ∧ ¬ bZ β c = 0)) → PEnd 276 [.int a, .int b, .int e, .int w] Inv (some (.int (-3))) w1 (σ.1, σ.2.1, RR σ.2.2) := by
    intro t r c k ha hb' he hw ht hr hc hk hor
    subst ha; subst hb'; subst he; subst hw
    have hwr : (¬ nI k < (0 : Int32) ∧ ¬ (3 : Int32) < nI k) := ⟨fun h => by
      have := (nI_ltI (a := k) (b := 0) (by omega) (by decide)).mp h
      omega, fun h => by
      have := (nI_ltI (a := 3) (b := k) (by decide) (by omega)).mp h
      omega⟩
    have h315 := (hB.2 t ht).1
    have h264 := (hB.1 c hc).2.2.2.2.1
    have hz9 := (hV.1 c hc).2.1
    refine pend_same hT (u276r lD3 (fun _ _ _ _ _ _ _ _ _ _ _ => ⟨rfl, rfl, rfl⟩) (fun k1 q1 e1 k2 q2 e2 k3 q3 e3 g h g2 => ?_) (fun _ _ _ _ _ _ _ _ _ _ _ _ _ => ⟨rfl, rfl, rfl⟩) (fun k1 q1 e1 k2 q2 e2 k3 q3 e3 g h g2 g3 => ?_) (fun k1 q1 e1 k2 q2 e2 k3 q3 e3 g => absurd hwr g) (fun _ _ _ _ _ _ g => absurd ⟨c, hc, rfl⟩ g) (fun _ _ _ g => absurd ⟨r, hr, rfl⟩ g) (fun g => absurd ⟨t, ht, rfl⟩ g))
    · exfalso
      rcases hor with hl | ⟨_, h2, _⟩
      · exact h (by rw [e6 (by omega) (by omega) e1, h315, hl]; rfl)
      · have := (nI_leI (a := k) (b := 1) (by omega) (by decide)).mp g2
        omega
    · exfalso
      rcases hor with hl | ⟨_, _, h3⟩
      · exact h (by rw [e6 (by omega) (by omega) e1, h315, hl]; rfl)
      · rw [e6 (by omega) (by omega) e3, h264] at g3
        exact h3 ((nI_eq (b := 0) (by omega) (by decide)).mp g3)
  refine u148r hR lD2 (fun t ht ea r hr eb c hc ee g => bad (fun q => q.2.2.2.1 g)) (fun t ht ea r hr eb c hc ee g g2 g3 => ?_) (fun t ht ea r hr eb c hc ee g g2 g3 g4 => ?_) (fun t ht ea r hr eb c hc ee g g2 g3 g4 g5 => ?_) (fun t ht ea r hr eb c hc ee g g2 g3 g4 g5 => ?_) (fun t ht ea r hr eb c hc ee g g2 => bad (fun q => g2 (Int32.not_lt.mp q.2.2.2.2))) (fun t ht ea r hr eb g => bad (fun q => g q.2.2.1)) (fun t ht ea g => bad (fun q => g q.2.1)) (fun g => bad (fun q => g q.1))
  all_goals
    obtain ⟨k, hk, ew⟩ := nI_rng (z := 3) (Int32.not_lt.mp g) g2 (by decide)
  · refine ref3 ea eb ee ew ht hr hc hk (Or.inl ?_)
    cases hb : bL β t with
    | false => rfl
    | true => exact absurd g3 ((laid ht).mpr hb)
  · have g6 : k < 2 := (wk hk).mp (by rw [← ew]; exact g4)
    have := main ea eb ee ew ht hr hc hk ((laid ht).mp g3) (Or.inl g6)
    rw [← ew] at this
    exact this
  · have := main ea eb ee ew ht hr hc hk ((laid ht).mp g3) (Or.inr ((fz hc).mp g5))
    rw [← ew] at this
    exact this
  · rw [ew] at g4
    exact ref3 ea eb ee ew ht hr hc hk (Or.inr ⟨(laid ht).mp g3, fun q => g4 ((wk hk).mpr q), fun q => g5 ((fz hc).mpr q)⟩)
