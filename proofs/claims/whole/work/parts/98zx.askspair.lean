/-! asks: the pair -/
theorem Inv.ask3 {σ : j_I3} (h : Inv σ) {K : Nat → Nat → Int32} (hK : ∀ o, o ≠ 210 → ¬ (359 ≤ o ∧ o ≤ 362) → o ≠ 427 → o ≠ 428 → K o = σ.1 o) : Inv (K, σ.2.1, σ.2.2) := by
  obtain ⟨⟨hR, hW⟩, ⟨β, hL⟩, hRe⟩ := h
  obtain ⟨a1, a2, a3, a4, a5, a6, a7⟩ := hL
  have gb : ∀ u, u < 6 → go σ.2.2 u ≠ 210 ∧ go σ.2.2 u < 359 := fun u hu => by
    rcases (hR.2.1 u hu).2 with h | ⟨k, h1, h2⟩ <;> omega
  have fb : ∀ c, c < 24 → fo σ.2.2 c ≠ 210 ∧ fo σ.2.2 c + 1 ≠ 210 ∧ fo σ.2.2 c + 2 ≠ 210 ∧ fo σ.2.2 c < 350 := fun c hc => by
    rcases (hR.1 c hc).2 with h | ⟨k, h1, h2⟩ <;> omega
  have hk : ∀ o, o ≠ 210 → o < 359 → K o = σ.1 o := fun o h1 h2 => hK o h1 (by omega) (by omega) (by omega)
  refine ⟨⟨hR, hW⟩, ⟨β, ⟨fun c hc => ?_, fun u hu => ?_⟩, a2.cg (fun o x y => hk o (by omega) (by omega)) (fun _ _ _ => rfl), a3.cg (fun o x y => hk o (by omega) y), a4, a5.cg (fun o x y => hk o (by omega) (by omega)), a6.cg (hk _ (by decide) (by decide)), fun v hv => ?_⟩, hRe.cg' (fun o ho => ?_) (fun o ho => rfl) ?_ ?_ ?_ ?_⟩
  · obtain ⟨f1, f2, f3, f4⟩ := fb c hc
    obtain ⟨b1, b2, b3, b4, b5⟩ := a1.1 c hc
    show K 109 c = _ ∧ _ ∧ _ ∧ K 111 c = _ ∧ FR _ _ K _
    rw [hk 109 (by decide) (by decide), hk 111 (by decide) (by decide)]
    exact ⟨b1, b2, b3, b4, b5.cg (hk _ f1 (by omega)) (hk _ f2 (by omega)) (hk _ f3 (by omega))⟩
  · obtain ⟨f1, f2⟩ := gb u hu
    exact (a1.2 u hu).cg (hk _ f1 f2) rfl rfl
  · unfold bu
    show (K 208 v).toNatClampNeg ≤ 2000
    rw [hk 208 (by decide) (by decide)]
    exact a7 v hv
  · unfold restP at ho; exact hK o (by omega) (by omega) (by omega) (by omega)
  · rw [hk 97 (by decide) (by decide)]
  · rw [hk 260 (by decide) (by decide)]
  · rw [hk 260 (by decide) (by decide)]
  · rw [hk 0 (by decide) (by decide)]
theorem both_asks (a b : Int32) : BothI Inv 123 260 [.int a, .int b] := fun σ h => by
  have hT := h
  obtain ⟨⟨hR, hW⟩, ⟨β, hC, hB, hN', hV, hN, hO, hb⟩, hRe⟩ := h
  show j_Call lD 123 [.ref 0, .int a, .int b] w1 (σ.1, σ.2.1, RR σ.2.2) 0 0 (PEnd 260 [.int a, .int b] Inv)
  have hRB := rbn_of hB hN'
  have tl : ∀ {t : Nat}, t < 6 → ((¬ σ.1 (go σ.2.2 t) 0 = 0) ↔ bL β t = true) := fun {t} ht => by
    rw [(hC.2 t ht).1]
    cases bL β t with
    | false => exact ⟨fun h => absurd rfl h, fun h => by cases h⟩
    | true => exact ⟨fun _ => rfl, fun _ => by decide⟩
  have tr : ∀ {J : Nat → Nat → Int32} {E : Nat → Nat → UInt64} {t : Nat}, RB β J E → t < 6 → ((¬ J 315 t = 0) ↔ bL β t = true) := fun {J E t} hB2 ht => by
    rw [(hB2.2 t ht).1]
    cases bL β t with
    | false => exact ⟨fun h => absurd rfl h, fun h => by cases h⟩
    | true => exact ⟨fun _ => rfl, fun _ => by decide⟩
  have e6 : ∀ {t k : Nat}, t < 6 → k < 6 → nI t = nI k → k = t := fun h1 h2 h => ((nI_eqN (by omega) (by omega)).mp h).symm
  have bad : (¬ (¬ b < (0 : Int32) ∧ ¬ (8 : Int32) < b)) → ∀ t, t < 6 → a = nI t → PEnd 260 [.int a, .int b] Inv (some (.int (-2))) w1 (σ.1, σ.2.1, RR σ.2.2) := fun nb t ht e => pend_same hT (u260r lD2 (fun _ _ _ h => absurd h nb) (fun _ _ _ h => absurd h nb) (fun _ _ _ _ => ⟨rfl, rfl, rfl⟩) (fun h => absurd ⟨t, ht, e⟩ h))
  by_cases ha : ∃ k : Nat, k < 6 ∧ a = nI k
  case neg =>
    have na : ∀ {P : Prop} (k : Nat), k < 6 → a = nI k → P := fun k hk e => absurd ⟨k, hk, e⟩ ha
    exact u123r hR lD1 (fun k hk e => na k hk e) (fun k hk e => na k hk e) (fun k hk e => na k hk e) (fun k hk e => na k hk e) (fun k hk e => na k hk e) (fun k hk e => na k hk e) (fun k hk e => na k hk e) (fun k hk e => na k hk e) (fun k hk e => na k hk e) (fun k hk e => na k hk e) (fun k hk e => na k hk e) (fun k hk e => na k hk e) (fun h => pend_same hT (u260r lD2 (fun k hk e => na k hk e) (fun k hk e => na k hk e) (fun k hk e => na k hk e) (fun _ => ⟨rfl, rfl, rfl⟩)))
  obtain ⟨t, ht, rfl⟩ := ha
  by_cases hbr : (¬ b < (0 : Int32) ∧ ¬ (8 : Int32) < b)
  case neg =>
    have nb : ∀ {P : Prop}, ¬ b < 0 → b ≤ 8 → P := fun h1 h2 => absurd ⟨h1, Int32.not_lt.mpr h2⟩ hbr
    exact u123r hR lD1 (fun k hk e _ => bad hbr t ht rfl) (fun _ _ _ h1 h2 => nb h1 h2) (fun _ _ _ h1 h2 => nb h1 h2) (fun _ _ _ h1 h2 => nb h1 h2) (fun _ _ _ h1 h2 => nb h1 h2) (fun _ _ _ h1 h2 => nb h1 h2) (fun _ _ _ h1 h2 => nb h1 h2) (fun _ _ _ h1 h2 => nb h1 h2) (fun _ _ _ h1 h2 => nb h1 h2) (fun _ _ _ h1 h2 => nb h1 h2) (fun _ _ _ h1 h2 => nb h1 h2) (fun _ _ _ _ _ => bad hbr t ht rfl) (fun h => absurd ⟨t, ht, rfl⟩ h)
  obtain ⟨f, hf, rfl⟩ := nI_rng (z := 8) (Int32.not_lt.mp hbr.1) (Int32.not_lt.mp hbr.2) (by decide)
  have n0 : ∀ {P : Prop}, nI f < 0 → P := fun h => absurd h hbr.1
  have n8 : ∀ {P : Prop}, ¬ nI f ≤ 8 → P := fun h => absurd (Int32.not_lt.mp hbr.2) h
  by_cases hl : bL β t = true
  case neg =>
    have hl0 := hl
    have c0 : ∀ {P : Prop}, ∀ k, k < 6 → nI t = nI k → ¬ σ.1 ((σ.2.2 113 k).getD 0) 0 = 0 → P := fun k hk e h => absurd ((tl ht).mp (by rw [e6 ht hk e] at h; exact h)) hl0
    refine u123r hR lD1 (fun _ _ _ h => n0 h) (fun k hk e _ _ h => c0 k hk e h) (fun k hk e _ _ h => c0 k hk e h) (fun k hk e _ _ h => c0 k hk e h) (fun k hk e _ _ h => c0 k hk e h) (fun k hk e _ _ h => c0 k hk e h) (fun k hk e _ _ h => c0 k hk e h) (fun k hk e _ _ h => c0 k hk e h) (fun k hk e _ _ h => c0 k hk e h) (fun k hk e _ _ h => c0 k hk e h) (fun k hk e _ _ _ => ?_) (fun _ _ _ _ h => n8 h) (fun h => absurd ⟨t, ht, rfl⟩ h)
    exact pend_same hT (u260r lD2 (fun k hk e _ g => absurd ((tr hB ht).mp (by rw [e6 ht hk e] at g; exact g)) hl0) (fun _ _ _ _ _ => ⟨rfl, rfl, rfl⟩) (fun _ _ _ h => absurd hbr h) (fun h => absurd ⟨t, ht, rfl⟩ h))
  have hg : isG (go σ.2.2 t) := (hR.g t ht).2
  obtain ⟨k64, kw, k8, kc⟩ := cas_64 hV ht hl
  obtain ⟨v1, v2, -, v4, v5, v6, v7, v8, v9, -⟩ := hV.2.1 t ht hl
  have go' : ∀ (I2 : Nat → Nat → Int32) (D2 : Nat → Nat → UInt64) (Q : j_Po), RB β I2 D2 → j_W 260 lD 0 0 0 0 32 [some (.ref 260), some (.int (nI t)), some (.int (nI f)), none] [] w1 (I2, D2, RR σ.2.2) Q → j_Call lD 260 [.ref 260, .int (nI t), .int (nI f)] w1 (I2, D2, RR σ.2.2) 0 0 Q := fun I2 D2 Q hB2 hq => u260r lD2 (fun k hk e _ _ => by rw [e6 ht hk e]; exact hq) (fun k hk e _ h => absurd h ((tr hB2 hk).mpr (by rw [e6 ht hk e]; exact hl))) (fun _ _ _ h => absurd hbr h) (fun h => absurd ⟨t, ht, rfl⟩ h)
  have hcc := (hC.2 t ht).2 hl
  have hbb := (hB.2 t ht).2 hl
  -- what it tells of the places
  have place : ∀ (l : Bool) (T : Tl), T = tal (csV β (env β) t) (cas β t) → (∀ q, q < cas β t → (csV β (env β) t q).1 = 0 → Sm (csV β (env β) t q).2) → plK l T ≤ 64 := fun l T hT2 hs => by
    subst hT2
    obtain ⟨-, -, -, -, o5, o6⟩ := tal_ok (v := csV β (env β) t) (n := cas β t) hs
    unfold plK; split <;> omega
  have m0 : f = 0 → j_W 123 lD 0 0 0 0 88 [some (.ref 0), some (.int (nI t)), none, some (.ref (go σ.2.2 t))] [] w1 (σ.1, σ.2.1, RR σ.2.2) (PEnd 260 [.int (nI t), .int (nI f)] Inv) := fun e => by
    subst e
    refine u123_0 hR hV hC hN hO hg ht hl lD50 ht hl (Nat.le_refl _) (fun J E h1 h2 h3 => (h1.cb hR hC).2 t ht) (fun J E h1 h2 h3 => place true _ rfl (fun q hq => (h3 q hq).2)) (fun J E h1 h2 h3 => ?_) (fun J E h1 h2 h3 => pend_tell hT h1 (fun Q hQ => go' _ _ _ (FRc.rb h1 hB) (u260_0 hV ht lD100 (FRc.rb h1 hB).st (FRc.rb h1 hB).inp ht hl (by decide) (fun K F k1 _ => hQ K F k1))))
    exact h2.2.2.2.2.2.2.1
  have m1 : f = 1 → j_W 123 lD 0 0 0 0 101 [some (.ref 0), some (.int (nI t)), none, some (.ref (go σ.2.2 t))] [] w1 (σ.1, σ.2.1, RR σ.2.2) (PEnd 260 [.int (nI t), .int (nI f)] Inv) := fun e => by
    subst e
    refine u123_1 hR hV hC hN hO hg ht hl lD50 ht hl (Nat.le_refl _) (fun J E h1 h2 h3 => (h1.cb hR hC).2 t ht) (fun J E h1 h2 h3 => place false _ rfl (fun q hq => (h3 q hq).2)) (fun J E h1 h2 h3 => ?_) (fun J E h1 h2 h3 => pend_tell hT h1 (fun Q hQ => go' _ _ _ (FRc.rb h1 hB) (u260_1 hV ht lD100 (FRc.rb h1 hB).st (FRc.rb h1 hB).inp ht hl (by decide) (fun K F k1 _ => hQ K F k1))))
    exact h2.2.2.2.2.2.2.2.1
  have m2 : f = 2 → j_W 123 lD 0 0 0 0 114 [some (.ref 0), some (.int (nI t)), none, some (.ref (go σ.2.2 t))] [] w1 (σ.1, σ.2.1, RR σ.2.2) (PEnd 260 [.int (nI t), .int (nI f)] Inv) := fun e => by
    subst e
    refine u123_2 hR hV hC hN hO hg ht hl lD50 hV hC ht hl (Nat.le_refl _) (fun x h1 h2 => ⟨_, σ, rfl, rfl, rfl, go' _ _ _ hB (u260_2 (X := fun c v => bt (σ.1 206 c) v) (rd := fun c => σ.1 207 c) hV ht lD100 hN.rc hN.rd hRB ht hl (fun J y g1 g2 => ⟨(J, σ.2.1, σ.2.2), ?_, rfl, rfl, hT.rd (fun o ho => g1 o (by omega) (by omega))⟩))⟩)
    have e : y = x := b_ext (fun c hc => by
      rw [g2 c hc]
      by_cases c24 : c < 24
      · rw [h1 c c24, decide_eq_true c24, Bool.true_and]; rfl
      · rw [h2 c (by omega) hc, decide_eq_false c24, Bool.false_and])
    rw [e]
  have m3 : f = 3 → j_W 123 lD 0 0 0 0 127 [some (.ref 0), some (.int (nI t)), none, some (.ref (go σ.2.2 t))] [] w1 (σ.1, σ.2.1, RR σ.2.2) (PEnd 260 [.int (nI t), .int (nI f)] Inv) := fun e => by
    subst e
    obtain ⟨Lv, hLe⟩ := LeE.ex hV hN.rc (fun c => σ.1 207 c)
    refine u123_3 (Lv := Lv) hR hV hC hN hO hg ht hl hLe lD50 hC ht hl (fun J h1 => ?_)
    have hB2 : RB β J σ.2.1 := hB.cg (fun o a1 a2 => h1 o (by omega)) (fun _ _ _ => rfl)
    have hN2 : RBN β J := hRB.frm (fun o a1 a2 => h1 o (by omega))
    refine ⟨_, (J, σ.2.1, σ.2.2), rfl, rfl, rfl, go' _ _ _ hB2 (u260_3 ht lD100 ?_)⟩
    have loop : ∀ (m k : Nat) (K : Nat → Nat → Int32), m + k = 6 → FLe J K → (∀ u, u < k → K 427 u = 0) → j_W 260 lD 0 0 0 0 148 [some (.ref 260), some (.int (nI t)), none, some (.int (nI k))] [] w1 (K, σ.2.1, RR σ.2.2) (fun r w τ => ∃ σ2 : j_I3, r = some (.int (Lv t)) ∧ w = w1 ∧ τ = (σ2.1, σ2.2.1, RR σ2.2.2) ∧ Inv σ2) := by
      intro m
      induction m with
      | zero =>
        intro k K hk hF h0
        have : k = 6 := by omega
        subst this
        refine u260_3h (X := fun c v => bt (σ.1 206 c) v) (rd := fun c => σ.1 207 c) (Lv := Lv) hV ht (Nat.le_refl _) hN.rc hN.rd hLe lD100 (fun _ => hF.rs hB2.st) (fun _ => hF.rn hN2) (fun _ => ht) (fun _ => hl) (fun _ => h0) (fun _ K2 f1 => ⟨(K2, σ.2.1, σ.2.2), rfl, rfl, rfl, hT.ask3 (fun o o1 o2 o3 o4 => ?_)⟩) (fun h => absurd (Nat.le_refl _) h)
        rw [f1 o (by omega) (by omega) o3 o4, hF o (by omega) (by omega) o3 o4, h1 o o1]
      | succ m ih =>
        intro k K hk hF h0
        have ex : ∀ {P : Prop}, 6 ≤ k → P := fun h => absurd h (by omega)
        refine u260_3h (X := fun c v => bt (σ.1 206 c) v) (rd := fun c => σ.1 207 c) (Lv := Lv) hV ht (by omega) hN.rc hN.rd hLe lD100 (fun h => ex h) (fun h => ex h) (fun h => ex h) (fun h => ex h) (fun h => ex h) (fun h => ex h) (fun _ => ih (k + 1) _ (by omega) (hF.tr (fun o _ _ o3 _ => by funext i; rw [j_u_o _ _ _ o3])) (fun u hu => ?_))
        by_cases e : u = k
        · subst e; rw [j_u_same]
        · rw [j_u_k _ _ e]; exact h0 u (by omega)
    exact loop 6 0 J rfl (fun _ _ _ _ _ => rfl) (fun u hu => absurd hu (Nat.not_lt_zero u))
  have m4 : f = 4 → j_W 123 lD 0 0 0 0 140 [some (.ref 0), some (.int (nI t)), none, some (.ref (go σ.2.2 t))] [] w1 (σ.1, σ.2.1, RR σ.2.2) (PEnd 260 [.int (nI t), .int (nI f)] Inv) := fun e => by
    subst e
    refine u123_4 hg ht lD1 ⟨_, σ, rfl, rfl, rfl, go' _ _ _ hB (u260_4 (X := fun c v => bt (σ.1 206 c) v) (bv := bu σ.1) hV ht hbb.1 lD90 hN.rc hN.be (Nat.le_refl _) v1 hRB (fun J b' _ _ _ _ _ => ht) (fun J b' _ _ _ _ _ => hl) (fun J b' _ g2 _ _ _ => g2) (fun J b' _ _ g3 _ _ => g3) (fun J b' g1 g2 g3 g4 g5 J2 b2' f1 f2 f3 f4 f5 => ⟨(J2, σ.2.1, σ.2.2), ?_, rfl, rfl, hT.rd (fun o ho => (f1 o (by omega) (by omega)).trans (g1 o (by omega) (by omega)))⟩))⟩
    have h1 := hb (24 + t) (by omega)
    have h2 := hN.2 t ht
    unfold NMt at h2
    have h3 : bu σ.1 (24 + t) = (if bL β t = true then min 2001 (bu σ.1 (bO β t) * cas β t) else 0) := hN.be.2 t ht
    rw [h2, ← h3, show b2' = bu σ.1 (24 + t) by omega]
  have m5 : f = 5 → j_W 123 lD 0 0 0 0 153 [some (.ref 0), some (.int (nI t)), none, some (.ref (go σ.2.2 t))] [] w1 (σ.1, σ.2.1, RR σ.2.2) (PEnd 260 [.int (nI t), .int (nI f)] Inv) := fun e => by
    subst e
    refine u123_5 hg ht lD1 (pend_same hT (go' _ _ _ hB (u260_5 hV ht hbb.1 lD90 ⟨?_, rfl, rfl⟩)))
    rw [hcc.2.2.2.1, hbb.2.2.2.1]
  have m6 : f = 6 → j_W 123 lD 0 0 0 0 158 [some (.ref 0), some (.int (nI t)), none, some (.ref (go σ.2.2 t))] [] w1 (σ.1, σ.2.1, RR σ.2.2) (PEnd 260 [.int (nI t), .int (nI f)] Inv) := fun e => by
    subst e
    refine u123_6 hg ht lD1 (pend_same hT (go' _ _ _ hB (u260_6 hV ht hbb.1 lD90 (fun _ => ⟨?_, rfl, rfl⟩) (fun h => ⟨?_, rfl, rfl⟩))))
    · rw [hcc.2.2.2.2.1, hbb.2.2.2.2.1]
    · have e3 := hbb.2.2.1
      have hbn : b2 β t = none := by
        cases hb2 : b2 β t with
        | none => rfl
        | some o =>
          rw [hb2] at e3
          exact absurd (e3.symm.trans h) (nI_ne_m1 (by have := (v4 o hb2).1; omega))
      rw [hcc.2.2.2.2.1, v7 hbn]; rfl
  have m7 : f = 7 → j_W 123 lD 0 0 0 0 163 [some (.ref 0), some (.int (nI t)), none, some (.ref (go σ.2.2 t))] [] w1 (σ.1, σ.2.1, RR σ.2.2) (PEnd 260 [.int (nI t), .int (nI f)] Inv) := fun e => by
    subst e
    exact u123_7 hR hV hC hN hO hg ht hl lD50 hC ht hl (pend_same hT (go' _ _ _ hB (u260_7 hV ht lD90 hB.st ht hl ⟨rfl, rfl, rfl⟩)))
  have m8 : f = 8 → j_W 123 lD 0 0 0 0 172 [some (.ref 0), some (.int (nI t)), none, some (.ref (go σ.2.2 t))] [] w1 (σ.1, σ.2.1, RR σ.2.2) (PEnd 260 [.int (nI t), .int (nI f)] Inv) := fun e => by
    subst e
    exact u123_8 hR hV hC hN hO hg ht hl lD50 hC ht hl (pend_same hT (go' _ _ _ hB (u260_8 hV ht lD90 hB.st ht hl ⟨rfl, rfl, rfl⟩)))
  have t0 : ∀ k, k < 9 → nI f = nI k → f = k := fun k hk e => (nI_eqN (by omega) (by omega)).mp e
  have c1 : ∀ {P : Nat → Prop}, P t → ∀ k, k < 6 → nI t = nI k → P k := fun h k hk e => by rw [e6 ht hk e]; exact h
  refine u123r hR lD1 (fun _ _ _ h => n0 h) (fun k hk e _ _ _ g => by rw [e6 ht hk e]; exact m0 (t0 0 (by decide) g)) (fun k hk e _ _ _ _ g => by rw [e6 ht hk e]; exact m1 (t0 1 (by decide) g)) (fun k hk e _ _ _ _ _ g => by rw [e6 ht hk e]; exact m2 (t0 2 (by decide) g)) (fun k hk e _ _ _ _ _ _ g => by rw [e6 ht hk e]; exact m3 (t0 3 (by decide) g)) (fun k hk e _ _ _ _ _ _ _ g => by rw [e6 ht hk e]; exact m4 (t0 4 (by decide) g)) (fun k hk e _ _ _ _ _ _ _ _ g => by rw [e6 ht hk e]; exact m5 (t0 5 (by decide) g)) (fun k hk e _ _ _ _ _ _ _ _ _ g => by rw [e6 ht hk e]; exact m6 (t0 6 (by decide) g)) (fun k hk e _ _ _ _ _ _ _ _ _ _ g => by rw [e6 ht hk e]; exact m7 (t0 7 (by decide) g)) (fun k hk e _ _ _ g0 g1 g2 g3 g4 g5 g6 g7 => ?_) (fun k hk e _ _ g => absurd hl (fun q => (tl ht).mpr q (by rw [e6 ht hk e] at g; exact g))) (fun _ _ _ _ h => n8 h) (fun h => absurd ⟨t, ht, rfl⟩ h)
  rw [e6 ht hk e]
  refine m8 ?_
  have hb9 : f = 0 ∨ f = 1 ∨ f = 2 ∨ f = 3 ∨ f = 4 ∨ f = 5 ∨ f = 6 ∨ f = 7 ∨ f = 8 := by omega
  rcases hb9 with rfl | rfl | rfl | rfl | rfl | rfl | rfl | rfl | rfl
  · exact absurd rfl g0
  · exact absurd rfl g1
  · exact absurd rfl g2
  · exact absurd rfl g3
  · exact absurd rfl g4
  · exact absurd rfl g5
  · exact absurd rfl g6
  · exact absurd rfl g7
  · rfl
