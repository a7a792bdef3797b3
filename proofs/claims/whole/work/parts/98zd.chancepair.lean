/-! chance: the pair -/
def hitN (p : Nat → Bool) (β : Bd) (c : Nat) (s : Int32) (y : UInt64) : Nat → Nat
  | 0 => 0
  | i + 1 => hitN p β c s y i + (if soV (val β (lot p β 24 0 (s + nI i) (env β)) c) y = 0 then 0 else 1)
theorem hit_le {p : Nat → Bool} {β : Bd} {c : Nat} {s : Int32} {y : UInt64} : ∀ i, hitN p β c s y i ≤ i
  | 0 => Nat.le_refl _
  | i + 1 => by
    have := hit_le (p := p) (β := β) (c := c) (s := s) (y := y) i
    unfold hitN
    split <;> omega
section CH
variable {β : Bd} {I J K : Nat → Nat → Int32} {D E F : Nat → Nat → UInt64} {R : Nat → Nat → Option Nat} {Q : j_Po}
theorem FRl.refl : FRl I D I D := ⟨fun _ _ _ => rfl, fun _ _ _ _ _ => rfl, fun _ _ _ => rfl⟩
theorem FRl.tr (h : FRl I D J E) (g : FRl J E K F) : FRl I D K F := ⟨fun q a b => (g.1 q a b).trans (h.1 q a b), fun i a1 a2 a3 a4 => (g.2.1 i a1 a2 a3 a4).trans (h.2.1 i a1 a2 a3 a4), fun q a b => (g.2.2 q a b).trans (h.2.2 q a b)⟩
theorem FRl.rb (h : FRl I D J E) (hB : RB β I D) : RB β J E := hB.cg (fun o h1 h2 => h.1 o (by unfold qI; omega) (by omega)) (fun o h1 h2 => h.2.2 o (by unfold qD; omega) (by omega))
theorem a142 (hR : WFR R) (hV : BV β) (hC : CB β I D R) (hN : NM β I) (hO : OrdB β I) {c n o : Nat} {s w : Int32} (hc : c < 24) (hn1 : 1 ≤ n) (hn : n ≤ 20) (ho : o < 2) (hq : ∀ J E, FRc I D J E → Q (some (.int ((if o = 0 then nI (hitN (fun v => bt (I 207 c) v) β c s (FP.ddiv (FP.i2d w) 4620693217682128896) n) else nI n) / nI (Nat.gcd (hitN (fun v => bt (I 207 c) v) β c s (FP.ddiv (FP.i2d w) 4620693217682128896) n) n)))) w1 (J, E, RR R)) : j_W 142 lD 0 0 0 0 42 [some (.ref 0), some (.int (nI c)), some (.int s), some (.int (nI n)), some (.int w), some (.int (nI o)), none, none, none] [] w1 (I, D, RR R) Q := by
  refine u142a (AP := fun J E => FRc I D J E ∧ J 107 7 = 0 ∧ LE β J E 0 (env β)) (fun Q2 hq2 => c34o hC (by decide) (fun J E a1 a2 a3 => hq2 J E ⟨a1, a2, a3⟩)) lD1 (fun J E hA => ?_)
  obtain ⟨a1, a2, a3⟩ := hA
  have loop : ∀ (m i : Nat) (θ : VEnv) (J : Nat → Nat → Int32) (E : Nat → Nat → UInt64), m + i = n → FRc I D J E → J 107 7 = 0 → LE β J E 0 θ → j_W 142 lD 0 0 0 0 55 [some (.ref 0), some (.int (nI c)), some (.int s), some (.int (nI n)), some (.int w), some (.int (nI o)), some (.int (nI (hitN (fun v => bt (I 207 c) v) β c s (FP.ddiv (FP.i2d w) 4620693217682128896) i))), some (.int (nI i)), none] [] w1 (J, E, RR R) Q := by
    intro m
    induction m with
    | zero =>
      intro i θ J E hi b1 b2 b3
      have hin : i = n := by omega
      subst hin
      have hle := hit_le (p := fun v => bt (I 207 c) v) (β := β) (c := c) (s := s) (y := FP.ddiv (FP.i2d w) 4620693217682128896) i
      have ex : ∀ {P : Prop}, ¬ i ≤ i → P := fun h => absurd (Nat.le_refl _) h
      refine u142h (η := θ) (p := fun v => bt (I 207 c) v) hR hV (b1.cb hR hC) (b1.nm hN) (b1.or hO) hc hn hn (by omega) lD50 (fun _ => ?_) (fun h => ex h) (fun h => ex h) (fun h => ex h) (fun h => ex h) (fun h => ex h) (fun h => ex h) (fun h => ex h) (fun h => ex h)
      generalize hitN (fun v => bt (I 207 c) v) β c s (FP.ddiv (FP.i2d w) 4620693217682128896) i = h at *
      have hg1 : 1 ≤ Nat.gcd h i := Nat.gcd_pos_of_pos_right _ hn1
      have hg2 : Nat.gcd h i ≤ i := Nat.le_of_dvd hn1 (Nat.gcd_dvd_right _ _)
      have gz : ¬ nI (Nat.gcd h i) = 0 := fun q => by
        have := (nI_eqN (a := Nat.gcd h i) (b := 0) (by omega) (by decide)).mp q
        omega
      have oz : nI o = 0 ↔ o = 0 := nI_eq (b := 0) (by omega) (by decide)
      have hQ := hq J E b1
      refine u142z ho (by omega) lD1 hn (by omega) (fun _ _ => gz) (fun _ g => ?_) (fun _ _ => gz) (fun _ g => ?_) (fun g => absurd hg1 g)
      · rw [if_neg (fun q => g (oz.mpr q))] at hQ; exact hQ
      · rw [if_pos (oz.mp g)] at hQ; exact hQ
    | succ m ih =>
      intro i θ J E hi b1 b2 b3
      have hle := hit_le (p := fun v => bt (I 207 c) v) (β := β) (c := c) (s := s) (y := FP.ddiv (FP.i2d w) 4620693217682128896) i
      have e207 : J 207 = I 207 := b1.1 207 (by decide) (by decide) (by decide) (by decide)
      have hS : hitN (fun v => bt (I 207 c) v) β c s (FP.ddiv (FP.i2d w) 4620693217682128896) (i + 1) = hitN (fun v => bt (I 207 c) v) β c s (FP.ddiv (FP.i2d w) 4620693217682128896) i + (if soV (val β (lot (fun v => bt (I 207 c) v) β 24 0 (s + nI i) (env β)) c) (FP.ddiv (FP.i2d w) 4620693217682128896) = 0 then 0 else 1) := rfl
      have nxt := fun J2 E2 => ih (i + 1) (lot (fun v => bt (I 207 c) v) β 24 0 (s + nI i) θ) J2 E2 (by omega)
      rw [hS] at nxt
      refine u142h (η := θ) (p := fun v => bt (I 207 c) v) hR hV (b1.cb hR hC) (b1.nm hN) (b1.or hO) hc hn (by omega) (by omega) lD50 (fun h => absurd h (by omega)) (fun _ v _ => by rw [e207]) (fun _ => hc) (fun _ => b2) (fun _ => b3) (fun _ => Nat.le_refl _) (fun _ J2 E2 d1 d2 d3 d4 g => ?_) (fun _ J2 E2 d1 d2 d3 d4 g g2 => ?_) (fun _ J2 E2 d1 d2 d3 d4 g g2 => ?_)
      · have ez := nI_z d4.2.2.2
        have e0 : soV (val β (lot (fun v => bt (I 207 c) v) β 24 0 (s + nI i) (env β)) c) (FP.ddiv (FP.i2d w) 4620693217682128896) = 0 := by unfold soV; rw [if_neg (fun q => g (ez.mpr q.1))]
        rw [if_pos e0] at nxt
        exact nxt J2 E2 (b1.tr d1) d2 d3
      · have ez := nI_z d4.2.2.2
        have ex : E2 213 c = (val β (lot (fun v => bt (I 207 c) v) β 24 0 (s + nI i) (env β)) c).2 := d4.2.1 (ez.mp g)
        have e0 : soV (val β (lot (fun v => bt (I 207 c) v) β 24 0 (s + nI i) (env β)) c) (FP.ddiv (FP.i2d w) 4620693217682128896) = 0 := by
          unfold soV; rw [if_neg (fun q => by rw [← ex, g2] at q; exact absurd q.2 (by simp))]
        rw [if_pos e0] at nxt
        exact nxt J2 E2 (b1.tr d1) d2 d3
      · have ez := nI_z d4.2.2.2
        have ex : E2 213 c = (val β (lot (fun v => bt (I 207 c) v) β 24 0 (s + nI i) (env β)) c).2 := d4.2.1 (ez.mp g)
        have e0 : ¬ soV (val β (lot (fun v => bt (I 207 c) v) β 24 0 (s + nI i) (env β)) c) (FP.ddiv (FP.i2d w) 4620693217682128896) = 0 := by
          unfold soV; rw [if_pos ⟨ez.mp g, by rw [← ex]; exact g2⟩]; decide
        rw [if_neg e0] at nxt
        exact nxt J2 E2 (b1.tr d1) d2 d3
  exact u142b lD1 (loop n 0 (env β) J E rfl a1 a2 a3)
theorem lD110 : 110 ≤ lD := by decide
theorem a272 (hV : BV β) (hB : RB β I D) (hRN : RN β I) {c n o : Nat} {s w : Int32} {rd : Nat → Int32} (hrd : RdE β rd) (hc : c < 24) (hn1 : 1 ≤ n) (hn : n ≤ 20) (ho : o < 2) (hq : ∀ J K E, (∀ q, q ≠ 359 → q ≠ 360 → J q = I q) → FRl J D K E → Q (some (.int ((if o = 0 then nI (hitN (fun v => bt (rd c) v) β c s (FP.ddiv (FP.i2d w) 4620693217682128896) n) else nI n) / nI (Nat.gcd (hitN (fun v => bt (rd c) v) β c s (FP.ddiv (FP.i2d w) 4620693217682128896) n) n)))) w1 (K, E, RR R)) : j_W 272 lD 0 0 0 0 38 [some (.ref 260), some (.int (nI c)), some (.int s), some (.int (nI n)), some (.int w), some (.int (nI o)), none, none, none] [] w1 (I, D, RR R) Q := by
  refine u272a (rd := rd) hV lD50 hrd hc (Nat.le_refl _) (rbn_of hB hRN) (fun J h1 _ => ?_)
  have hBJ : RB β J D := hB.cg (fun o h2 h3 => h1 o (by omega) (by omega)) (fun _ _ _ => rfl)
  have loop : ∀ (m i : Nat) (K : Nat → Nat → Int32) (E : Nat → Nat → UInt64), m + i = n → FRl J D K E → j_W 272 lD 0 0 0 0 51 [some (.ref 260), some (.int (nI c)), some (.int s), some (.int (nI n)), some (.int w), some (.int (nI o)), some (.int (nI (hitN (fun v => bt (rd c) v) β c s (FP.ddiv (FP.i2d w) 4620693217682128896) i))), some (.int (rd c)), some (.int (nI i))] [] w1 (K, E, RR R) Q := by
    intro m
    induction m with
    | zero =>
      intro i K E hi b1
      have hin : i = n := by omega
      subst hin
      have hle := hit_le (p := fun v => bt (rd c) v) (β := β) (c := c) (s := s) (y := FP.ddiv (FP.i2d w) 4620693217682128896) i
      have ex : ∀ {P : Prop}, ¬ i ≤ i → P := fun h => absurd (Nat.le_refl _) h
      refine u272h (β := β) (p := fun v => bt (rd c) v) hV hn hn (by omega) lD110 (fun _ => ?_) (fun h => ex h) (fun h => ex h) (fun h => ex h) (fun h => ex h) (fun h => ex h) (fun h => ex h)
      have hQ := hq J K E h1 b1
      generalize hitN (fun v => bt (rd c) v) β c s (FP.ddiv (FP.i2d w) 4620693217682128896) i = h at *
      have hg1 : 1 ≤ Nat.gcd h i := Nat.gcd_pos_of_pos_right _ hn1
      have hg2 : Nat.gcd h i ≤ i := Nat.le_of_dvd hn1 (Nat.gcd_dvd_right _ _)
      rw [Nat.gcd_comm] at hg1 hg2 hQ
      have gz : ¬ nI (Nat.gcd i h) = 0 := fun q => by
        have := (nI_eqN (a := Nat.gcd i h) (b := 0) (by omega) (by decide)).mp q
        omega
      have oz : nI o = 0 ↔ o = 0 := nI_eq (b := 0) (by omega) (by decide)
      refine u272z ho (by decide) (fun _ => hn) (fun _ => by omega) (fun _ => by omega) (fun _ => gz) (fun g => ?_) (fun _ => hn) (fun _ => by omega) (fun _ => by omega) (fun _ => gz) (fun g => ?_)
      · rw [if_neg (fun q => g (oz.mpr q))] at hQ; exact hQ
      · rw [if_pos (oz.mp g)] at hQ; exact hQ
    | succ m ih =>
      intro i K E hi b1
      have hle := hit_le (p := fun v => bt (rd c) v) (β := β) (c := c) (s := s) (y := FP.ddiv (FP.i2d w) 4620693217682128896) i
      have hS : hitN (fun v => bt (rd c) v) β c s (FP.ddiv (FP.i2d w) 4620693217682128896) (i + 1) = hitN (fun v => bt (rd c) v) β c s (FP.ddiv (FP.i2d w) 4620693217682128896) i + (if soV (val β (lot (fun v => bt (rd c) v) β 24 0 (s + nI i) (env β)) c) (FP.ddiv (FP.i2d w) 4620693217682128896) = 0 then 0 else 1) := rfl
      have nxt := fun K2 E2 => ih (i + 1) K2 E2 (by omega)
      rw [hS] at nxt
      refine u272h (β := β) (p := fun v => bt (rd c) v) hV hn (by omega) (by omega) lD110 (fun h => absurd h (by omega)) (fun _ => b1.rb hBJ) (fun _ v _ => rfl) (fun _ => hc) (fun _ => Nat.le_refl _) (fun _ K2 E2 d1 g => ?_) (fun _ K2 E2 d1 g => ?_)
      · rw [if_pos g] at nxt
        exact nxt K2 E2 (b1.tr d1)
      · rw [if_neg g] at nxt
        exact nxt K2 E2 (b1.tr d1)
  exact loop n 0 J D rfl FRl.refl
end CH
theorem both_chance (a s n w o : Int32) : BothI Inv 142 272 [.int a, .int s, .int n, .int w, .int o] := fun σ h => by
  have hT := h
  obtain ⟨⟨hR, hW⟩, ⟨β, hC, hB, hN', hV, hN, hO, hb⟩, hRe⟩ := h
  show j_Call lD 142 [.ref 0, .int a, .int s, .int n, .int w, .int o] w1 (σ.1, σ.2.1, RR σ.2.2) 0 0 (PEnd 272 [.int a, .int s, .int n, .int w, .int o] Inv)
  have em : (-(80000 : Int32)) = (-80000 : Int32) := by decide
  have bad : ¬ ((∃ k : Nat, k < 24 ∧ a = nI k) ∧ (¬ n < (1 : Int32) ∧ ¬ (20 : Int32) < n) ∧ (¬ w < (-80000 : Int32) ∧ ¬ (80000 : Int32) < w) ∧ (¬ o < (0 : Int32) ∧ ¬ (1 : Int32) < o)) → PEnd 272 [.int a, .int s, .int n, .int w, .int o] Inv (some (.int (-2))) w1 (σ.1, σ.2.1, RR σ.2.2) := fun hb => pend_same hT (u272r lD3 (fun k hk e g1 g2 g3 => absurd ⟨⟨k, hk, e⟩, g1, g2, g3⟩ hb) (fun _ _ _ _ _ _ => ⟨rfl, rfl, rfl⟩) (fun _ _ _ _ _ => ⟨rfl, rfl, rfl⟩) (fun _ _ _ _ => ⟨rfl, rfl, rfl⟩) (fun _ => ⟨rfl, rfl, rfl⟩))
  refine u142r lD2 (fun c hc e h => bad (fun q => q.2.1.1 h)) (fun c hc e _ h => bad (fun q => q.2.1.2 h)) (fun c hc e _ _ _ h => bad (fun q => q.2.2.2.1 h)) (fun c hc e g1 g2 g3 g4 g5 => ?_) (fun c hc e _ _ _ _ h => bad (fun q => h (Int32.not_lt.mp q.2.2.2.2))) (fun c hc e _ _ h => bad (fun q => h (em ▸ q.2.2.1))) (fun h => bad (fun q => h q.1))
  subst e
  obtain ⟨m, hm, rfl⟩ := nI_rng (z := 20) (Int32.le_trans (by decide) (Int32.not_lt.mp g1)) (Int32.not_lt.mp g2) (by decide)
  obtain ⟨u, hu, rfl⟩ := nI_rng (z := 1) (Int32.not_lt.mp g4) g5 (by decide)
  have hm1 : 1 ≤ m := Classical.byContradiction fun q => g1 (by have : m = 0 := (by omega); subst this; decide)
  refine a142 hR hV hC hN hO hc hm1 hm (by omega) (fun J E h1 => ?_)
  have hB2 := FRc.rb h1 hB
  have hN2 : RN β J := hN'.cg (fun o a1 a2 => h1.1 o (by omega) (by omega) (by omega) (by omega))
  refine ⟨_, (J, E, σ.2.2), rfl, rfl, rfl, u272r lD3 (fun k hk e _ _ _ => ?_) (fun k hk e _ _ h => absurd ⟨g4, Int32.not_lt.mpr g5⟩ h) (fun k hk e _ h => absurd (em ▸ g3) h) (fun k hk e h => absurd ⟨g1, g2⟩ h) (fun h => absurd ⟨c, hc, rfl⟩ h)⟩
  obtain rfl := nI_in24 hc hk e
  refine a272 (rd := fun c => σ.1 207 c) hV hB2 hN2 hN.rd hc hm1 hm (by omega) (fun J2 K F k1 k2 => ⟨(K, F, σ.2.2), rfl, rfl, rfl, hT.scr (fun q hq => ?_) (fun q hq => ?_) ?_ ?_ ?_ ?_⟩)
  · unfold liveP restP CBP at hq
    rw [k2.1 q (by unfold qI; omega) (by omega), k1 q (by omega) (by omega), h1.1 q (by omega) (by omega) (by omega) (by omega)]
  · unfold liveP restP CBP at hq
    rw [k2.2.2 q (by unfold qD; omega) (by omega), h1.2.2.2.1 q (by omega) (by omega) (by omega)]
  · rw [k2.1 97 (by unfold qI; omega) (by decide), k1 97 (by decide) (by decide), h1.1 97 (by decide) (by decide) (by decide) (by decide)]
  · rw [k2.2.1 34 (by decide) (by decide) (by decide) (by decide), k1 260 (by decide) (by decide), h1.1 260 (by decide) (by decide) (by decide) (by decide)]
  · rw [k2.2.1 57 (by decide) (by decide) (by decide) (by decide), k1 260 (by decide) (by decide), h1.1 260 (by decide) (by decide) (by decide) (by decide)]
  · rw [k2.1 0 (by unfold qI; omega) (by decide), k1 0 (by decide) (by decide), h1.1 0 (by decide) (by decide) (by decide) (by decide)]
