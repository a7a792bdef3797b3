/-! clear -/
/-! fewer names: no heavier -/
def lessB (β β' : Bd) : Prop := (∀ c, c < 24 → bZ β' c = 0 ∨ (bZ β' c = bZ β c ∧ bS β' c = bS β c)) ∧ ∀ t, t < 6 → bL β' t = true → bL β t = true ∧ bO β' t = bO β t ∧ cas β' t = cas β t
theorem lessB.nm {β β' : Bd} (h : lessB β β') {c v : Nat} (hc : c < 24) (hn : nmB (bZ β' c) (bS β' c) v = true) : nmB (bZ β c) (bS β c) v = true := by
  rcases h.1 c hc with h1 | ⟨h1, h2⟩
  · rw [h1] at hn; cases hn
  · rw [h1, h2] at hn; exact hn
theorem lessB.ed {β β' : Bd} (h : lessB β β') {u v : Nat} (hu : u < 30) (he : ed β' u v = true) : ed β u v = true := by
  unfold _root_.Jvm.Pilot.CWhatIfSheetLaw_law_r7392_438e3f.ed at he ⊢
  split at he
  · rename_i hc
    rw [if_pos hc]; exact h.nm hc he
  · rename_i hc
    rw [if_neg hc]
    simp only [Bool.and_eq_true, decide_eq_true_eq] at he ⊢
    obtain ⟨h1, h2, -⟩ := h.2 (u - 24) (by omega) he.1
    exact ⟨h1, by rw [he.2, h2]⟩
theorem lessB.acyc {β β' : Bd} (h : lessB β β') (hA : acyc β) : acyc β' := by
  obtain ⟨ρ, hρ⟩ := hA
  exact ⟨ρ, fun u v hu hv he => hρ u v hu hv (h.ed hu he)⟩
theorem bu_mono {β β' : Bd} {X X' : Nat → Nat → Bool} {bv bv' : Nat → Nat} (hV : BV β) (hV' : BV β') (h : lessB β β') (hX : RcE β X) (hX' : RcE β' X') (hE : BuE β X bv) (hE' : BuE β' X' bv') : ∀ v, v < 30 → bv' v ≤ bv v := by
  obtain ⟨ρ, hρ⟩ := hV.2.2
  have sub : ∀ c, c < 24 → ∀ k, k < 24 → X' c k = true → X c k = true := fun c hc k hk hx => by
    refine hX'.cl (h.acyc hV.2.2) (T := fun v => X c v = true) (fun u v hu hv h1 hn => hX.tr2 hV.2.2 hc (by omega) hv h1 hu (h.nm hu hn)) c hc ?_ k (by omega) hx
    rw [hX c hc c (by omega), decide_eq_true rfl, Bool.true_or]
  have key : ∀ n v, v < 30 → ρ v < n → bv' v ≤ bv v := by
    intro n
    induction n with
    | zero => intro v _ h; omega
    | succ n ih =>
      intro v hv hr
      by_cases hc : v < 24
      · rw [hE'.1 v hc, hE.1 v hc]
        rcases h.1 v hc with h1 | ⟨h1, h2⟩
        · rw [if_pos h1]; exact Nat.zero_le _
        · rw [h1]
          by_cases hz : bZ β v = 0
          · rw [if_pos hz, if_pos hz]; exact Nat.le_refl _
          · rw [if_neg hz, if_neg hz]
            have : (sumN 24 fun k => if X' v k = true then (if bZ β' k = 0 then 0 else min 2001 (1 + sumN 6 fun t => if bL β' t = true then tmB β' k t * bv' (24 + t) else 0)) else 0) ≤ (sumN 24 fun k => if X v k = true then (if bZ β k = 0 then 0 else min 2001 (1 + sumN 6 fun t => if bL β t = true then tmB β k t * bv (24 + t) else 0)) else 0) := by
              refine sumN_le fun k hk => ?_
              cases hx : X' v k with
              | false => rw [if_neg (by decide)]; exact Nat.zero_le _
              | true =>
                rw [if_pos rfl, if_pos (sub v hc k hk hx)]
                rcases h.1 k hk with g1 | ⟨g1, g2⟩
                · rw [if_pos g1]; exact Nat.zero_le _
                · rw [g1]
                  by_cases hz2 : bZ β k = 0
                  · rw [if_pos hz2]; exact Nat.zero_le _
                  · rw [if_neg hz2, if_neg hz2]
                    have hrk := hX.rank hρ hc hk (sub v hc k hk hx)
                    have h3 : (sumN 6 fun t => if bL β' t = true then tmB β' k t * bv' (24 + t) else 0) ≤ (sumN 6 fun t => if bL β t = true then tmB β k t * bv (24 + t) else 0) := by
                      refine sumN_le fun t ht => ?_
                      cases hl : bL β' t with
                      | false => rw [if_neg (by decide)]; exact Nat.zero_le _
                      | true =>
                        rw [if_pos rfl, if_pos (h.2 t ht hl).1]
                        have e : tmB β' k t = tmB β k t := by show tmN (bZ β' k) (bS β' k) t = tmN (bZ β k) (bS β k) t; rw [g1, g2]
                        rw [e]
                        rcases Nat.eq_zero_or_pos (tmB β k t) with h0 | h0
                        · rw [h0, Nat.zero_mul]; exact Nat.zero_le _
                        · have := hρ k (24 + t) (by omega) (by omega) (ed_tm hV hk h0)
                          exact Nat.mul_le_mul_left _ (ih (24 + t) (by omega) (by omega))
                    generalize (sumN 6 fun t => if bL β' t = true then tmB β' k t * bv' (24 + t) else 0) = a at h3 ⊢
                    generalize (sumN 6 fun t => if bL β t = true then tmB β k t * bv (24 + t) else 0) = b at h3 ⊢
                    omega
            generalize (sumN 24 fun k => if X' v k = true then (if bZ β' k = 0 then 0 else min 2001 (1 + sumN 6 fun t => if bL β' t = true then tmB β' k t * bv' (24 + t) else 0)) else 0) = a at this ⊢
            generalize (sumN 24 fun k => if X v k = true then (if bZ β k = 0 then 0 else min 2001 (1 + sumN 6 fun t => if bL β t = true then tmB β k t * bv (24 + t) else 0)) else 0) = b at this ⊢
            omega
      · have e : v = 24 + (v - 24) := by omega
        have ht : v - 24 < 6 := by omega
        rw [e, hE'.2 _ ht, hE.2 _ ht]
        cases hl : bL β' (v - 24) with
        | false => rw [if_neg (by decide)]; exact Nat.zero_le _
        | true =>
          obtain ⟨h1, h2, h3⟩ := h.2 _ ht hl
          rw [if_pos rfl, if_pos h1, h2, h3]
          have ho := (hV.2.1 _ ht h1).1
          have := hρ (24 + (v - 24)) (bO β (v - 24)) (by omega) (by omega) (ed_out h1)
          rw [← e] at this
          have := Nat.mul_le_mul_right (cas β (v - 24)) (ih (bO β (v - 24)) (by omega) (by omega))
          omega
  exact fun v hv => key (ρ v + 1) v hv (by omega)
theorem NM.mono {β β' : Bd} {I J : Nat → Nat → Int32} (hV : BV β) (hV' : BV β') (h : lessB β β') (hI : NM β I) (hJ : NM β' J) : ∀ v, v < 30 → bu J v ≤ bu I v := bu_mono hV hV' h hI.rc hJ.rc hI.be hJ.be
/-! clear -/
theorem isBF_rng {o : Nat} (h : isBF o) : o = 99 ∨ (114 ≤ o ∧ o ≤ 183) := by
  rcases h with h | ⟨k, hk, h⟩ <;> omega
theorem isBG_rng {o : Nat} (h : isBG o) : o = 102 ∨ (186 ≤ o ∧ o ≤ 201) := by
  rcases h with h | ⟨k, hk, h⟩ <;> omega
def bclr (β : Bd) (k : Nat) : Bd := (β.1, β.2.1, fu β.2.2.1 k false, fu β.2.2.2.1 k 0, β.2.2.2.2)
theorem bclr_less {β : Bd} {k : Nat} : lessB β (bclr β k) := by
  refine ⟨fun c hc => ?_, fun t ht hl => ⟨hl, rfl, rfl⟩⟩
  by_cases e : c = k
  · subst e; exact Or.inl fu_s
  · exact Or.inr ⟨fu_n e, rfl⟩
theorem bclr_V {β : Bd} {k : Nat} (h : BV β) : BV (bclr β k) := by
  refine ⟨fun c hc => ?_, fun t ht hl => ?_, bclr_less.acyc h.2.2⟩
  · obtain ⟨a1, a2, a3, a4, a5⟩ := h.1 c hc
    by_cases e : c = k
    · subst e
      have z0 : bZ (bclr β c) c = 0 := fu_s
      have f0 : bF (bclr β c) c = false := fu_s
      refine ⟨a1, by rw [z0]; omega, fun _ => f0, fun hf => ?_, ⟨fun q hq => ?_, fun hq => ?_⟩⟩
      · rw [f0] at hf; cases hf
      · rw [z0] at hq; omega
      · rw [z0] at hq; omega
    · have z0 : bZ (bclr β k) c = bZ β c := fu_n e
      have f0 : bF (bclr β k) c = bF β c := fu_n e
      rw [z0, f0]
      exact ⟨a1, a2, a3, a4, a5⟩
  · obtain ⟨a1, a2, a3, a4, a5⟩ := h.2.1 t ht hl
    have z : ∀ o, bZ β o = 0 → bZ (bclr β k) o = 0 := fun o h0 => by
      by_cases e : o = k
      · subst e; exact fu_s
      · exact (fu_n e).trans h0
    exact ⟨a1, a2, z _ a3, fun o ho => by obtain ⟨b1, b2, b3⟩ := a4 o ho; exact ⟨b1, b2, z _ b3⟩, a5⟩
theorem bclr_o {β : Bd} {k : Nat} : otherC β (bclr β k) k := ⟨rfl, fun c hc e => ⟨rfl, rfl, fu_n e, fu_n e, rfl⟩⟩
theorem isBF_ne {R : Nat → Nat → Option Nat} (hR : WFR R) (hW : WFD R) {c k : Nat} (hc : c < 24) (hk : k < 24) (e : c ≠ k) : ∀ i j, i ≤ 2 → j ≤ 2 → fo R c + i ≠ fo R k + j := fun i j hi hj h => by
  have h0 := hW.1 c k hc hk
  have h1 := (hR.1 c hc).2
  have h2 := (hR.1 k hk).2
  unfold isBF at h1 h2
  rcases h1 with h1 | ⟨p, hp, h1⟩ <;> rcases h2 with h2 | ⟨q, hq, h2⟩
  · exact e (h0 (h1.trans h2.symm))
  · omega
  · omega
  · exact e (h0 (by omega))
theorem clr_CB {β : Bd} {σ : j_I3} {J : Nat → Nat → Int32} (hR : WFR σ.2.2) (hW : WFD σ.2.2) (h : CB β σ.1 σ.2.1 σ.2.2) {k : Nat} (hk : k < 24) (j1 : ∀ o, o ≠ ((σ.2.2 112 k).getD 0) → o ≠ ((σ.2.2 112 k).getD 0) + 2 → J o = σ.1 o) (j2 : J ((σ.2.2 112 k).getD 0) 1 = 0) (j3 : J ((σ.2.2 112 k).getD 0) 2 = 0) (j4 : ∀ t, t < 6 → J (((σ.2.2 112 k).getD 0) + 2) t = 0) : CB (bclr β k) (j_u J 111 k 0) σ.2.1 σ.2.2 := by
  obtain ⟨c1, c2, c3, c4, c5⟩ := h.1 k hk
  have hbk : isBF ((σ.2.2 112 k).getD 0) := (hR.1 k hk).2
  replace hbk := isBF_rng hbk
  have hJ : ∀ o, o ≠ 111 → j_u J 111 k 0 o = J o := fun o ho => by funext i; rw [j_u_o _ _ _ ho]
  refine h.cell bclr_o (fun i e => ?_) (fun i e => ?_) (fun i e => rfl) (fun c hc e => ?_) (fun t ht => ?_) ⟨?_, fun hb => ?_, c3, ?_, ?_⟩
  · rw [hJ 109 (by decide), j1 109 (by omega) (by omega)]
  · rw [j_u_k _ _ e, j1 111 (by omega) (by omega)]
  · have hb := (hR.1 c hc).2
    replace hb := isBF_rng hb
    have d0 := isBF_ne hR hW hc hk e
    have d := fun i j hi hj => d0 i j hi hj
    exact ⟨rfl, (hJ _ (by omega)).trans (j1 _ (d 0 0 (by omega) (by omega)) (d 0 2 (by omega) (by omega))), (hJ _ (by omega)).trans (j1 _ (d 1 0 (by omega) (by omega)) (d 1 2 (by omega) (by omega))), (hJ _ (by omega)).trans (j1 _ (d 2 0 (by omega) (by omega)) (d 2 2 (by omega) (by omega)))⟩
  · have hb := (hR.2.1 t ht).2
    replace hb := isBG_rng hb
    exact ⟨rfl, (hJ _ (by omega)).trans (j1 _ (by omega) (by omega)), rfl, rfl⟩
  · rw [hJ 109 (by decide), j1 109 (by omega) (by omega)]; exact c1
  · rw [show bF (bclr β k) k = false from fu_s] at hb; cases hb
  · rw [j_u_same, show bF (bclr β k) k = false from fu_s]; rfl
  · rw [show bZ (bclr β k) k = 0 from fu_s]
    refine ⟨?_, fun q hq => absurd hq (Nat.not_lt_zero q), fun v hv => ?_, fun t ht => ?_⟩
    · rw [hJ _ (show (σ.2.2 112 k).getD 0 ≠ 111 by omega)]; exact j2
    · rw [hJ _ (show (σ.2.2 112 k).getD 0 ≠ 111 by omega), show J (fo σ.2.2 k) 2 = 0 from j3, b_0]; rfl
    · rw [hJ _ (show (σ.2.2 112 k).getD 0 + 2 ≠ 111 by omega)]; exact j4 t ht
theorem clr_inv {β : Bd} {σ : j_I3} (hR : WFR σ.2.2) (hW : WFD σ.2.2) (hL : Live β σ) (hRe : Rest σ) {k : Nat} (hk : k < 24) {J K L : Nat → Nat → Int32} (j1 : ∀ o, o ≠ ((σ.2.2 112 k).getD 0) → o ≠ ((σ.2.2 112 k).getD 0) + 2 → J o = σ.1 o) (j2 : J ((σ.2.2 112 k).getD 0) 1 = 0) (j3 : J ((σ.2.2 112 k).getD 0) 2 = 0) (j4 : ∀ t, t < 6 → J (((σ.2.2 112 k).getD 0) + 2) t = 0)
    (k1 : ∀ o, (o < 205 ∨ 211 ≤ o) → K o = j_u J 111 k 0 o) (k2 : NM (bclr β k) K) (k3 : OrdB (bclr β k) K) (l1 : TnI (j_u K 264 k 0) k (bS β k) 0 L) : Inv (j_u L 262 k 0, j_u σ.2.1 263 k FP.dconst0, σ.2.2) := by
  obtain ⟨a1, a2, a3, a4, a5, a6, a7⟩ := hL
  have hbk : isBF ((σ.2.2 112 k).getD 0) := (hR.1 k hk).2
  replace hbk := isBF_rng hbk
  have hV' := bclr_V (k := k) a4
  have hC := clr_CB hR hW a1 hk j1 j2 j3 j4
  have hKs : ∀ o, o ≠ 111 → o ≠ ((σ.2.2 112 k).getD 0) → o ≠ ((σ.2.2 112 k).getD 0) + 2 → (o < 205 ∨ 211 ≤ o) → K o = σ.1 o := fun o h1 h2 h3 h4 => by
    rw [k1 o h4, ← j1 o h2 h3]
    funext i; rw [j_u_o _ _ _ h1]
  have hLK : ∀ o, o ≠ 262 → o ≠ 264 → o ≠ 333 → o ≠ 335 + k → j_u L 262 k 0 o = K o := fun o h1 h2 h3 h4 => by
    funext i
    rw [j_u_o _ _ _ h1, l1.1 o h3 h4, j_u_o _ _ _ h2]
  have hLI : ∀ o, 211 ≤ o → o ≠ 262 → o ≠ 264 → o ≠ 333 → o ≠ 335 + k → j_u L 262 k 0 o = σ.1 o := fun o h0 h1 h2 h3 h4 => (hLK o h1 h2 h3 h4).trans (hKs o (by omega) (by omega) (by omega) (by omega))
  have hg : ∀ o, o ≠ 263 → j_u σ.2.1 263 k FP.dconst0 o = σ.2.1 o := fun o h1 => by funext i; rw [j_u_o _ _ _ h1]
  have z0 : bZ (bclr β k) k = 0 := fu_s
  have f0 : bF (bclr β k) k = false := fu_s
  obtain ⟨d1, d2, d3, d4, d5, d6⟩ := a2.1 k hk
  refine Inv.mk (β := bclr β k) hR hW (hC.cg hR (fun o ho => ?_) (fun o ho => ?_)) (a2.cell bclr_o (fun i e => ?_) (fun i e => ?_) (fun i e => ?_) (fun i e => ?_) (fun c hc e => ?_) (fun o h1 h2 => ?_) (fun o h1 h2 => ?_) ⟨?_, ?_, fun hb => ?_, ?_, ?_, ?_⟩) (fun c hc => ?_) hV' (k2.cg (fun o h1 h2 => hLK o (by omega) (by omega) (by omega) (by omega))) (k3.cg (hLK 205 (by omega) (by omega) (by omega) (by omega))) (fun v hv => ?_) (hRe.cg' (fun o ho => ?_) (fun o ho => ?_) ?_ ?_ ?_ ?_)
  · unfold CBP at ho
    rw [hLK o (by omega) (by omega) (by omega) (by omega), k1 o (by omega)]
  · unfold CBP at ho
    exact hg o (by omega)
  · rw [hLI 261 (by omega) (by omega) (by omega) (by omega) (by omega)]
  · rw [j_u_k _ _ e, l1.1 262 (by omega) (by omega), j_u_o _ _ _ (by decide), hKs 262 (by omega) (by omega) (by omega) (by omega)]
  · rw [j_u_o _ _ _ (by decide), l1.1 264 (by omega) (by omega), j_u_k _ _ e, hKs 264 (by omega) (by omega) (by omega) (by omega)]
  · rw [j_u_k _ _ e]
  · exact ⟨hLI _ (by omega) (by omega) (by omega) (by omega) (by omega), hg _ (by omega)⟩
  · exact hLI o (by omega) (by omega) (by omega) (by omega) (by omega)
  · exact hg o (by omega)
  · rw [hLI 261 (by omega) (by omega) (by omega) (by omega) (by omega)]; exact d1
  · rw [j_u_same, f0]; rfl
  · rw [f0] at hb; cases hb
  · rw [j_u_same]; exact sm_0
  · rw [j_u_o _ _ _ (by decide), l1.1 264 (by omega) (by omega), j_u_same, z0]; rfl
  · intro j hj
    rw [z0] at hj; exact absurd hj (Nat.not_lt_zero j)
  · by_cases e : c = k
    · subst e
      rw [z0]
      refine ⟨fun v hv => ?_, fun t ht => ?_⟩
      · rw [j_u_o _ _ _ (by decide), l1.2.2.1 v hv]; rfl
      · rw [j_u_o _ _ _ (by omega), l1.2.2.2 t ht]; rfl
    · rw [show bZ (bclr β k) c = bZ β c from fu_n e, show bS (bclr β k) c = bS β c from rfl]
      have e1 : j_u L 262 k 0 333 c = σ.1 333 c := by
        rw [j_u_o _ _ _ (by decide), l1.2.1 c e, j_u_o _ _ _ (by decide), hKs 333 (by omega) (by omega) (by omega) (by omega)]
      rw [e1, hLI (335 + c) (by omega) (by omega) (by omega) (by omega) (by omega)]
      exact a3 c hc
  · have h1 := NM.mono a4 hV' bclr_less a5 k2 v hv
    have h2 := a7 v hv
    unfold bu at h1 h2 ⊢
    rw [hLK 208 (by omega) (by omega) (by omega) (by omega)]
    omega
  · unfold restP at ho
    rw [hLK o (by omega) (by omega) (by omega) (by omega), hKs o (by omega) (by omega) (by omega) (by omega)]
  · unfold restP at ho
    exact hg o (by omega)
  · rw [hLK 97 (by omega) (by omega) (by omega) (by omega), hKs 97 (by omega) (by omega) (by omega) (by omega)]
  · rw [hLI 260 (by omega) (by omega) (by omega) (by omega) (by omega)]
  · rw [hLI 260 (by omega) (by omega) (by omega) (by omega) (by omega)]
  · rw [hLK 0 (by omega) (by omega) (by omega) (by omega), hKs 0 (by omega) (by omega) (by omega) (by omega)]
theorem pend_go {j : Nat} {av : List Value} {T : j_I3 → Prop} {v : Int32} {I1 : Nat → Nat → Int32} {D1 : Nat → Nat → UInt64} {R1 : Nat → Nat → Option Nat} (hv : j_Call lD j (.ref 260 :: av) w1 (I1, D1, RR R1) 0 0 (fun r w τ => ∃ σ2 : j_I3, r = some (.int v) ∧ w = w1 ∧ τ = e3 σ2 ∧ T σ2)) : PEnd j av T (some (.int v)) w1 (I1, D1, RR R1) := ⟨v, (I1, D1, R1), rfl, rfl, rfl, hv⟩
theorem pend_goL {j : Nat} {av : List Value} {T : j_I3 → Prop} {v : Int64} {I1 : Nat → Nat → Int32} {D1 : Nat → Nat → UInt64} {R1 : Nat → Nat → Option Nat} (hv : j_Call lD j (.ref 260 :: av) w1 (I1, D1, RR R1) 0 0 (fun r w τ => ∃ σ2 : j_I3, r = some (.long v) ∧ w = w1 ∧ τ = e3 σ2 ∧ T σ2)) : PEndL j av T (some (.long v)) w1 (I1, D1, RR R1) := ⟨v, (I1, D1, R1), rfl, rfl, rfl, hv⟩
theorem both_clear (a : Int32) : BothI Inv 17 173 [.int a] := fun σ h => by
  have hT := h
  obtain ⟨⟨hR, hW⟩, ⟨β, hL⟩, hRe⟩ := h
  show j_Call lD 17 [.ref 0, .int a] w1 (σ.1, σ.2.1, RR σ.2.2) 0 0 (PEnd 173 [.int a] Inv)
  by_cases ha : ∃ k : Nat, k < 24 ∧ a = nI k
  case neg => exact s17 (β := β) hR lD4' (fun k1 h2 h3 J4 h5 h6 h7 h8 => absurd ⟨k1, h2, h3⟩ ha) (fun k1 h2 h3 J4 h5 h6 h7 h8 => absurd ⟨k1, h2, h3⟩ ha) (fun k1 h2 h3 J4 h5 h6 h7 h8 => absurd ⟨k1, h2, h3⟩ ha) (fun k1 h2 h3 J4 h5 h6 h7 h8 J9 h10 h11 h12 => absurd ⟨k1, h2, h3⟩ ha) (fun h1 => pend_same hT (s173 (z := 0) (st := fun _ => (0, 0)) (F := fun _ => 0) lD2 (fun k1 g2 g3 => absurd ⟨k1, g2, g3⟩ ha) (fun k1 g2 g3 => absurd ⟨k1, g2, g3⟩ ha) (fun k1 g2 g3 => absurd ⟨k1, g2, g3⟩ ha) (fun k1 g2 g3 => absurd ⟨k1, g2, g3⟩ ha) (fun k1 g2 g3 => absurd ⟨k1, g2, g3⟩ ha) (fun k1 g2 g3 J2 g5 => absurd ⟨k1, g2, g3⟩ ha) (fun g1 => ⟨rfl, rfl, rfl⟩)))
  obtain ⟨k, hk, rfl⟩ := ha
  have hbk : isBF ((σ.2.2 112 k).getD 0) := (hR.1 k hk).2
  replace hbk := isBF_rng hbk
  have hNB : ∀ J : Nat → Nat → Int32, (∀ o, o ≠ ((σ.2.2 112 k).getD 0) → o ≠ ((σ.2.2 112 k).getD 0) + 2 → J o = σ.1 o) → NB (j_u J 111 k 0) := fun J j1 => by
    have e8 : j_u J 111 k 0 208 = σ.1 208 := by rw [← j1 208 (by omega) (by omega)]; funext i; rw [j_u_o _ _ _ (by decide)]
    have e9 : j_u J 111 k 0 209 = σ.1 209 := by rw [← j1 209 (by omega) (by omega)]; funext i; rw [j_u_o _ _ _ (by decide)]
    have := hL.2.2.2.2.1.nb
    unfold NB bu shr at this ⊢
    rw [e8, e9]; exact this
  refine s17n (β := bclr β k) hR hk lD4' (fun J3 h2 h3 h4 h5 => bclr_V hL.2.2.2.1) (fun J3 h2 h3 h4 h5 => clr_CB hR hW hL.1 hk h2 h3 h4 h5) (fun J3 h2 h3 h4 h5 => hNB _ h2) (fun J3 h2 h3 h4 h5 J8 h7 h8 h9 => ?_)
  refine pend_go (s173n (z := 0) (st := bS β k) (F := fun _ => 0) hk lD2 (hk) (by omega) (j_u_same _ _ _ _) (fun q hq => absurd hq (Nat.not_lt_zero q)) (fun q hq => absurd hq (Nat.not_lt_zero q)) (fun J1 g2 => ?_))
  exact ⟨_, rfl, rfl, rfl, clr_inv hR hW hL hRe hk h2 h3 h4 h5 h7 h8 h9 g2⟩
