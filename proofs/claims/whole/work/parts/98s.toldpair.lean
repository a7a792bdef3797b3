/-! told, would -/
section TD
variable {β : Bd} {I J : Nat → Nat → Int32} {D E : Nat → Nat → UInt64} {R : Nat → Nat → Option Nat} {Q : j_Po}
theorem c206 (hV : BV β) (hS : RSt β I D) {η : VEnv} (hI : RIn β I D η) {d c o : Nat} {x : UInt64} (hc : c < 24) (ho : o < 24) (hx : Sm x) (hd : 90 ≤ d) (hq : ∀ J E, FRr I D J E → VQ (J 380 o) (J 388 o) (E 372 o) (val β (fu η c (0, kp (nI (bK β c)) x)) o) → Q (some (.double (E 372 o))) w1 (J, E, RR R)) : j_Call d 206 [.ref 260, .int (nI c), .double x, .int (nI o)] w1 (I, D, RR R) 0 0 Q := by
  refine u206a hc (by omega) ?_
  refine u206b (η := fu η c (0, kp (nI (bK β c)) x)) hV hc ho hd (hS.cg (fun q _ _ a => by funext i; rw [j_u_o _ _ _ a]) (fun q _ _ a => by funext i; rw [j_u_o _ _ _ a])) (fun k hk => ?_) ho (Nat.le_refl _) (fun _ _ _ _ => (hI c hc).1) (fun K F h1 h2 => ?_)
  · by_cases e : k = c
    · subst e
      rw [j_u_same, j_u_same, fu_s]
      exact ⟨Or.inr rfl, hx, fun _ => ⟨fun h => absurd h (by decide), fun _ => rfl⟩⟩
    · rw [j_u_k _ _ e, j_u_k _ _ e, fu_n e]; exact hI k hk
  · have e1 : (j_u F 263 c (D 263 c)) 372 o = F 372 o := j_u_o _ _ _ (by decide)
    have := hq (j_u K 262 c (I 262 c)) (j_u F 263 c (D 263 c)) ⟨fun q a => ?_, fun i a1 a2 a3 a4 => ?_, fun q a => ?_⟩ (by rw [j_u_o _ _ _ (by decide), j_u_o _ _ _ (by decide), e1]; exact h2)
    · rw [e1] at this; exact this
    · funext i
      by_cases e : q = 262
      · subst e
        by_cases e2 : i = c
        · subst e2; rw [j_u_same]
        · rw [j_u_k _ _ e2, h1.1 262 a, j_u_k _ _ e2]
      · rw [j_u_o _ _ _ e, h1.1 q a, j_u_o _ _ _ e]
    · rw [j_u_o _ _ _ (by decide), h1.2.1 i a1 a2 a3 a4, j_u_o _ _ _ (by decide)]
    · funext i
      by_cases e : q = 263
      · subst e
        by_cases e2 : i = c
        · subst e2; rw [j_u_same]
        · rw [j_u_k _ _ e2, h1.2.2 263 a, j_u_k _ _ e2]
      · rw [j_u_o _ _ _ e, h1.2.2 q a, j_u_o _ _ _ e]
theorem Inv.rd {σ : j_I3} (h : Inv σ) {K : Nat → Nat → Int32} (hK : ∀ o, ¬ (359 ≤ o ∧ o ≤ 362) → K o = σ.1 o) : Inv (K, σ.2.1, σ.2.2) := by
  obtain ⟨⟨hR, hW⟩, ⟨β, hL⟩, hRe⟩ := h
  refine ⟨⟨hR, hW⟩, ⟨β, hL.cg (σ' := (K, σ.2.1, σ.2.2)) hR (fun o ho => ?_) (fun o ho => rfl) rfl rfl⟩, hRe.cg' (fun o ho => ?_) (fun o ho => rfl) ?_ ?_ ?_ ?_⟩
  · unfold liveP CBP at ho; exact hK o (by omega)
  · unfold restP at ho; exact hK o (by omega)
  · rw [hK 97 (by decide)]
  · rw [hK 260 (by decide)]
  · rw [hK 260 (by decide)]
  · rw [hK 0 (by decide)]
theorem rbn_of (hB : RB β I D) (hN : RN β I) : RBN β I := ⟨fun c hc => ⟨(hB.1 c hc).2.2.2.2.1, (hN c hc).1, (hN c hc).2⟩, fun t ht => ⟨(hB.2 t ht).1, fun hl => by
  obtain ⟨a1, a2, a3, a4, a5, -⟩ := (hB.2 t ht).2 hl
  exact ⟨a1, a2, a3, a4, a5⟩⟩⟩
theorem bu_nI (hN : NM β I) {c : Nat} (hc : c < 24) : I 208 c = nI (bu I c) := by
  have e := (hN.1 c hc).2.2.2
  unfold bu
  rw [e, nI_clamp (by split <;> omega)]
end TD
theorem both_told (a b : Int32) : BothI Inv 32 176 [.int a, .int b] := fun σ h => by
  have hT := h
  obtain ⟨⟨hR, hW⟩, ⟨β, hC, hB, hN', hV, hN, hO, hb⟩, hRe⟩ := h
  show j_Call lD 32 [.ref 0, .int a, .int b] w1 (σ.1, σ.2.1, RR σ.2.2) 0 0 (PEnd 176 [.int a, .int b] Inv)
  have hRB := rbn_of hB hN'
  by_cases hbr : (¬ b < (0 : Int32) ∧ ¬ (7 : Int32) < b)
  case neg =>
    have nb : ∀ k : Int32, (¬ k < (0 : Int32) ∧ ¬ (7 : Int32) < k) → ¬ b = k := fun k hk e => hbr (e ▸ hk)
    refine u32r hR lD1 (fun c hc e h => absurd h (nb 0 (by decide))) (fun c hc e _ h => absurd h (nb 1 (by decide))) (fun c hc e _ _ h => absurd h (nb 2 (by decide))) (fun c hc e _ _ _ h => absurd h (nb 3 (by decide))) (fun c hc e _ _ _ _ h => absurd h (nb 4 (by decide))) (fun c hc e _ _ _ _ _ h => absurd h (nb 5 (by decide))) (fun c hc e _ _ _ _ _ _ h => absurd h (nb 6 (by decide))) (fun c hc e _ _ _ _ _ _ _ h => absurd h (nb 7 (by decide))) (fun c hc e _ _ _ _ _ _ _ _ => ?_) (fun h => ?_)
    · exact pend_same hT (u176r lD2 (fun _ _ _ h => absurd h hbr) (fun _ _ _ _ => ⟨rfl, rfl, rfl⟩) (fun _ => ⟨rfl, rfl, rfl⟩))
    · exact pend_same hT (u176r lD2 (fun k hk e => absurd ⟨k, hk, e⟩ h) (fun k hk e => absurd ⟨k, hk, e⟩ h) (fun _ => ⟨rfl, rfl, rfl⟩))
  by_cases ha : ∃ k : Nat, k < 24 ∧ a = nI k
  case neg =>
    have na : ∀ {P : Prop} (k : Nat), k < 24 → a = nI k → P := fun k hk e => absurd ⟨k, hk, e⟩ ha
    exact u32r hR lD1 (fun k hk e => na k hk e) (fun k hk e => na k hk e) (fun k hk e => na k hk e) (fun k hk e => na k hk e) (fun k hk e => na k hk e) (fun k hk e => na k hk e) (fun k hk e => na k hk e) (fun k hk e => na k hk e) (fun k hk e => na k hk e) (fun h => pend_same hT (u176r lD2 (fun k hk e => na k hk e) (fun k hk e => na k hk e) (fun _ => ⟨rfl, rfl, rfl⟩)))
  obtain ⟨c, hc, rfl⟩ := ha
  obtain ⟨b1, hb1, rfl⟩ := nI_rng (z := 7) (Int32.not_lt.mp hbr.1) (Int32.not_lt.mp hbr.2) (by decide)
  have one : ∀ {P : Nat → Prop}, P c → ∀ k, k < 24 → nI c = nI k → P k := fun h k hk e => by rw [nI_in24 hc hk e]; exact h
  -- the reference's road
  have go : ∀ (I2 : Nat → Nat → Int32) (D2 : Nat → Nat → UInt64) (Q : j_Po), j_W 176 lD 0 0 0 0 20 [some (.ref 260), some (.int (nI c)), some (.int (nI b1))] [] w1 (I2, D2, RR σ.2.2) Q → j_Call lD 176 [.ref 260, .int (nI c), .int (nI b1)] w1 (I2, D2, RR σ.2.2) 0 0 Q := fun I2 D2 Q hq => u176r lD2 (fun k hk e _ => by rw [nI_in24 hc hk e]; exact hq) (fun _ _ _ h => absurd hbr h) (fun h => absurd ⟨c, hc, rfl⟩ h)
  have hcc := hC.1 c hc
  have hbb := hB.1 c hc
  have hz9 := (hV.1 c hc).2.1
  have zc : (σ.1 ((σ.2.2 112 c).getD 0) 1 ≤ 0) ↔ bZ β c = 0 := by
    show σ.1 (fo σ.2.2 c) 1 ≤ 0 ↔ _
    rw [hcc.2.2.2.2.1, show (0 : Int32) = nI 0 from rfl, nI_leI (by omega) (by decide)]; omega
  have zr : σ.1 264 c = 0 ↔ bZ β c = 0 := by rw [hbb.2.2.2.2.1]; exact nI_eq (b := 0) (by omega) (by decide)
  have gf : σ.1 111 c = 0 ↔ σ.1 262 c = 0 := by rw [hcc.2.2.2.1, hbb.2.1]
  have n32 := u32r (I := σ.1) (D := σ.2.1) (a := nI c) (b := nI b1) (Q := PEnd 176 [.int (nI c), .int (nI b1)] Inv) hR lD1
  have hb8 : b1 = 0 ∨ b1 = 1 ∨ b1 = 2 ∨ b1 = 3 ∨ b1 = 4 ∨ b1 = 5 ∨ b1 = 6 ∨ b1 = 7 := by omega
  have nn : ∀ k, k < 8 → k ≠ b1 → ¬ nI b1 = nI k := fun k hk h e => h ((nI_eqN (by omega) (by omega)).mp e).symm
  have main : (b1 = 0 → j_W 32 lD 0 0 0 0 56 [some (.ref 0), some (.int (nI c)), none] [] w1 (σ.1, σ.2.1, RR σ.2.2) (PEnd 176 [.int (nI c), .int (nI b1)] Inv)) ∧ (b1 = 1 → j_W 32 lD 0 0 0 0 66 [some (.ref 0), some (.int (nI c)), none] [] w1 (σ.1, σ.2.1, RR σ.2.2) (PEnd 176 [.int (nI c), .int (nI b1)] Inv)) ∧ (b1 = 2 → j_W 32 lD 0 0 0 0 83 [some (.ref 0), some (.int (nI c)), none] [] w1 (σ.1, σ.2.1, RR σ.2.2) (PEnd 176 [.int (nI c), .int (nI b1)] Inv)) ∧ (b1 = 3 → j_W 32 lD 0 0 0 0 93 [some (.ref 0), some (.int (nI c)), none] [] w1 (σ.1, σ.2.1, RR σ.2.2) (PEnd 176 [.int (nI c), .int (nI b1)] Inv)) ∧ (b1 = 4 → j_W 32 lD 0 0 0 0 103 [some (.ref 0), some (.int (nI c)), none] [] w1 (σ.1, σ.2.1, RR σ.2.2) (PEnd 176 [.int (nI c), .int (nI b1)] Inv)) ∧ (b1 = 5 → j_W 32 lD 0 0 0 0 113 [some (.ref 0), some (.int (nI c)), none] [] w1 (σ.1, σ.2.1, RR σ.2.2) (PEnd 176 [.int (nI c), .int (nI b1)] Inv)) ∧ (b1 = 6 → j_W 32 lD 0 0 0 0 122 [some (.ref 0), some (.int (nI c)), none] [] w1 (σ.1, σ.2.1, RR σ.2.2) (PEnd 176 [.int (nI c), .int (nI b1)] Inv)) ∧ (b1 = 7 → j_W 32 lD 0 0 0 0 131 [some (.ref 0), some (.int (nI c)), none] [] w1 (σ.1, σ.2.1, RR σ.2.2) (PEnd 176 [.int (nI c), .int (nI b1)] Inv)) := by
    refine ⟨fun e => ?_, fun e => ?_, fun e => ?_, fun e => ?_, fun e => ?_, fun e => ?_, fun e => ?_, fun e => ?_⟩ <;> subst e
    · exact u32_0 hR hc lD1 (pend_same hT (go _ _ _ (u176_0 hV hc lD90 ⟨by rw [hcc.1, hbb.1], rfl, rfl⟩)))
    · exact u32_1 hR hc lD1 (fun h => pend_same hT (go _ _ _ (u176_1 hV hc lD90 (fun h2 => absurd (zr.mpr (zc.mp h)) h2) (fun _ => ⟨rfl, rfl, rfl⟩)))) (fun h => pend_same hT (go _ _ _ (u176_1 hV hc lD90 (fun _ => ⟨rfl, rfl, rfl⟩) (fun h2 => absurd (zc.mpr (zr.mp h2)) h))))
    · exact u32_2 hR hc lD1 (⟨_, σ, rfl, rfl, rfl, go _ _ _ (u176_2 (rd := fun c => σ.1 207 c) hV hc lD90 hN.rd hc (Nat.le_refl _) hRB (fun J h1 _ => ⟨(J, σ.2.1, σ.2.2), rfl, rfl, rfl, hT.rd (fun o ho => h1 o (by omega) (by omega))⟩))⟩)
    · exact u32_3 hR hc lD1 (pend_same hT (go _ _ _ (u176_3 (X := fun c v => bt (σ.1 206 c) v) hV hc lD90 (Nat.le_refl _) hRB hN.rc hV.2.2 hc (fun x hx => ⟨by rw [show x = σ.1 206 c from b_ext (fun i hi => hx i hi)], rfl, rfl⟩))))
    · exact u32_4 hR hc lD1 (⟨_, σ, rfl, rfl, rfl, go _ _ _ (u176_4 (X := fun c v => bt (σ.1 206 c) v) (bv := bu σ.1) hV hc lD90 hN.rc hN.be (Nat.le_refl _) hc hRB (fun J b h1 _ _ _ h5 => ⟨(J, σ.2.1, σ.2.2), by
        have := hb c (by omega)
        rw [bu_nI hN hc, show b = bu σ.1 c by omega], rfl, rfl, hT.rd (fun o ho => h1 o (by omega) (by omega))⟩))⟩)
    · refine u32_5 hR hV hC hN hO hc lD50 hc (Nat.le_refl _) (fun J E h1 h2 => pend_tell hT h1 (fun Q hQ => go _ _ _ (u176_5 (η := env β) hV hc lD90 (FRc.rb h1 hB).st (FRc.rb h1 hB).inp hc (Nat.le_refl _) (fun K F k1 k2 => ?_))))
      have := hQ K F k1
      rw [n32_d _ h2.2.2.2, ← k2.1] at this; exact this
    · refine u32_6 hR hV hC hN hO hc lD50 hc (Nat.le_refl _) (fun _ _ _ h => h.2.2.2) (fun J E h1 h2 => pend_tell hT h1 (fun Q hQ => go _ _ _ (u176_6 (η := env β) hV hc lD90 (FRc.rb h1 hB).st (FRc.rb h1 hB).inp hc (Nat.le_refl _) (fun K F k1 k2 => ?_))))
      have := hQ K F k1
      rw [show blV (val β (env β) c).1 = K 388 c from k2.2.1.symm] at this; exact this
    · exact u32_7 hR hc lD1 (fun h g => pend_same hT (go _ _ _ (u176_7 hV hc lD90 (fun h2 => absurd (zr.mpr (zc.mp h)) h2) (fun _ h3 => absurd (gf.mp g) h3) (fun _ _ => ⟨rfl, rfl, rfl⟩)))) (fun h g => pend_same hT (go _ _ _ (u176_7 hV hc lD90 (fun h2 => absurd (zr.mpr (zc.mp h)) h2) (fun _ _ => ⟨rfl, rfl, rfl⟩) (fun _ h3 => absurd (gf.mpr h3) g)))) (fun h => pend_same hT (go _ _ _ (u176_7 hV hc lD90 (fun _ => ⟨rfl, rfl, rfl⟩) (fun h2 => absurd (zc.mpr (zr.mp h2)) h) (fun h2 => absurd (zc.mpr (zr.mp h2)) h))))
  obtain ⟨m0, m1, m2, m3, m4, m5, m6, m7⟩ := main
  have t0 : ∀ k, k < 8 → nI b1 = nI k → b1 = k := fun k hk e => (nI_eqN (by omega) (by omega)).mp e
  exact n32 (fun k hk e g => by rw [nI_in24 hc hk e]; exact m0 (t0 0 (by decide) g)) (fun k hk e _ g => by rw [nI_in24 hc hk e]; exact m1 (t0 1 (by decide) g)) (fun k hk e _ _ g => by rw [nI_in24 hc hk e]; exact m2 (t0 2 (by decide) g)) (fun k hk e _ _ _ g => by rw [nI_in24 hc hk e]; exact m3 (t0 3 (by decide) g)) (fun k hk e _ _ _ _ g => by rw [nI_in24 hc hk e]; exact m4 (t0 4 (by decide) g)) (fun k hk e _ _ _ _ _ g => by rw [nI_in24 hc hk e]; exact m5 (t0 5 (by decide) g)) (fun k hk e _ _ _ _ _ _ g => by rw [nI_in24 hc hk e]; exact m6 (t0 6 (by decide) g)) (fun k hk e _ _ _ _ _ _ _ g => by rw [nI_in24 hc hk e]; exact m7 (t0 7 (by decide) g)) (fun k hk e g0 g1 g2 g3 g4 g5 g6 g7 => by
    exfalso
    rcases hb8 with rfl | rfl | rfl | rfl | rfl | rfl | rfl | rfl
    · exact g0 rfl
    · exact g1 rfl
    · exact g2 rfl
    · exact g3 rfl
    · exact g4 rfl
    · exact g5 rfl
    · exact g6 rfl
    · exact g7 rfl) (fun h => absurd ⟨c, hc, rfl⟩ h)
