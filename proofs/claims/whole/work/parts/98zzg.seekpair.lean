/-! seek: the pair -/
def skA (r : Nat × Option (UInt64 × UInt64)) (p : Int32) : Int64 := if p = 2 then (nI r.1).toInt64 else match r.2 with | none => -1 | some q => if p = 0 then q.1.toInt64 else q.2.toInt64
theorem i8_vz (c : Int32) : vz (FP.ddiv (FP.i2d c) 4620693217682128896) = c.toInt * ((2 ^ 1071 : Nat) : Int) := by
  obtain ⟨-, h2, h3⟩ := i8_vm c
  generalize (2 : Nat) ^ 1071 = P at h3 ⊢
  by_cases h : c.toInt < 0
  · rw [decide_eq_true h] at h2
    rw [vz_neg h2, h3, Int.natCast_mul, show ((c.toInt.natAbs : Nat) : Int) = -c.toInt by omega, Int.neg_mul, Int.neg_neg]
  · rw [decide_eq_false h] at h2
    rw [vz_pos h2, h3, Int.natCast_mul, show ((c.toInt.natAbs : Nat) : Int) = c.toInt by omega]
theorem i8_lt {e f : Int32} (h : ¬ f ≤ e) : vz (FP.ddiv (FP.i2d e) 4620693217682128896) < vz (FP.ddiv (FP.i2d f) 4620693217682128896) := by
  rw [i8_vz, i8_vz]
  have h1 : e < f := Int32.not_le.mp h
  rw [Int32.lt_iff_toInt_lt] at h1
  exact Int.mul_lt_mul_of_pos_right h1 (Int.natCast_pos.mpr (Nat.two_pow_pos _))
theorem i8_sk {c : Int32} (h : ¬ c < (-80000 : Int32) ∧ ¬ (80000 : Int32) < c) : skN (FP.ddiv (FP.i2d c) 4620693217682128896) ∧ vm (FP.ddiv (FP.i2d c) 4620693217682128896) ≤ 2 ^ 1094 := ⟨(put_ok c).2.1, i8_mi ⟨fun q => h.1 (Int32.lt_trans q (by decide)), fun q => h.2 (Int32.lt_trans (by decide) q)⟩⟩
section KP
variable {β : Bd} {I J : Nat → Nat → Int32} {D E : Nat → Nat → UInt64} {R : Nat → Nat → Option Nat} {Q : j_Po} {i c : Nat} {e f g p : Int32}
theorem a265 (hV : BV β) (hS : RSt β I D) (hI : RIn β I D (env β)) (hi : i < 24) (hc : c < 24) (he : ¬ e < (-80000 : Int32) ∧ ¬ (80000 : Int32) < e) (hf : ¬ f < (-80000 : Int32) ∧ ¬ (80000 : Int32) < f) (hg : ¬ g < (-80000 : Int32) ∧ ¬ (80000 : Int32) < g) (hlt : ¬ f ≤ e) (hq : ∀ K F2, FRm (j_u (j_u I 260 51 0) 260 52 0) D K F2 → Q (some (.long (skA (skT (fun x => val β (fu (env β) i (0, kp (nI (bK β i)) x)) c) (FP.ddiv (FP.i2d e) 4620693217682128896) (FP.ddiv (FP.i2d f) 4620693217682128896) (FP.ddiv (FP.i2d g) 4620693217682128896)) p))) w1 (K, F2, RR R)) : j_W 265 lD 0 0 0 0 69 [some (.ref 260), some (.int (nI i)), some (.int (nI c)), some (.int e), some (.int f), some (.int g), some (.int p), none] [] w1 (I, D, RR R) Q := by
  refine u265a lD2 ?_
  have hS2 : RSt β (j_u (j_u I 260 51 0) 260 52 0) D := hS.cg (fun q a1 a2 _ => by funext k; rw [j_u_o _ _ _ (by omega), j_u_o _ _ _ (by omega)]) (fun _ _ _ _ => rfl)
  have hI2 : RIn β (j_u (j_u I 260 51 0) 260 52 0) D (env β) := hI.cg (by funext k; rw [j_u_o _ _ _ (by decide), j_u_o _ _ _ (by decide)]) rfl
  refine u265b (o := (skT (fun x => val β (fu (env β) i (0, kp (nI (bK β i)) x)) c) (FP.ddiv (FP.i2d e) 4620693217682128896) (FP.ddiv (FP.i2d f) 4620693217682128896) (FP.ddiv (FP.i2d g) 4620693217682128896)).2.isSome) (AP := fun K F2 => FRm (j_u (j_u I 260 51 0) 260 52 0) D K F2 ∧ K 260 51 = nI (skT (fun x => val β (fu (env β) i (0, kp (nI (bK β i)) x)) c) (FP.ddiv (FP.i2d e) 4620693217682128896) (FP.ddiv (FP.i2d f) 4620693217682128896) (FP.ddiv (FP.i2d g) 4620693217682128896)).1 ∧ RKo F2 (skT (fun x => val β (fu (env β) i (0, kp (nI (bK β i)) x)) c) (FP.ddiv (FP.i2d e) 4620693217682128896) (FP.ddiv (FP.i2d f) 4620693217682128896) (FP.ddiv (FP.i2d g) 4620693217682128896)).2) (fun Q2 hq2 => c267 hV hS2 hI2 hi hc (by decide) (by rw [j_u_k _ _ (by decide), j_u_same]) (by rw [j_u_same]) (i8_sk he) (i8_sk hf) (i8_sk hg).1 (i8_lt hlt) (fun K F2 b1 b2 b3 => hq2 K F2 ⟨b1, b2, b3⟩)) (by decide) (fun K F2 hA => ?_)
  obtain ⟨b1, b2, b3⟩ := hA
  have hQ := hq K F2 b1
  generalize (skT (fun x => val β (fu (env β) i (0, kp (nI (bK β i)) x)) c) (FP.ddiv (FP.i2d e) 4620693217682128896) (FP.ddiv (FP.i2d f) 4620693217682128896) (FP.ddiv (FP.i2d g) 4620693217682128896)) = r at *
  obtain ⟨n, o⟩ := r
  unfold skA at hQ
  cases o with
  | none =>
    have ex : ∀ {P : Prop}, (none : Option (UInt64 × UInt64)).isSome = true → P := fun h => by cases h
    refine u265z (by decide) (fun _ h => ex h) (fun _ h => ex h) (fun _ h => ex h) (fun _ h => ex h) (fun h _ => ?_) (fun h => ?_)
    · rw [if_neg h] at hQ; exact hQ
    · rw [if_pos h] at hQ
      rw [b2]; exact hQ
  | some q =>
    obtain ⟨e1, e2, n1, n2⟩ := b3
    have ex : ∀ {P : Prop}, (some q).isSome = false → P := fun h => by cases h
    refine u265z (by decide) (fun _ _ _ => by rw [e2]; exact n2.1.1) (fun h _ h0 => ?_) (fun _ _ _ => by rw [e1]; exact n1.1.1) (fun h _ h0 => ?_) (fun _ h => ex h) (fun h => ?_)
    · rw [if_neg h] at hQ
      have hQ : Q (some (.long (if p = 0 then q.1.toInt64 else q.2.toInt64))) w1 (K, F2, RR R) := hQ
      rw [if_neg h0] at hQ
      rw [e2]; exact hQ
    · rw [if_neg h] at hQ
      have hQ : Q (some (.long (if p = 0 then q.1.toInt64 else q.2.toInt64))) w1 (K, F2, RR R) := hQ
      rw [if_pos h0] at hQ
      rw [e1]; exact hQ
    · rw [if_pos h] at hQ
      rw [b2]; exact hQ
theorem a130 (hR : WFR R) (hV : BV β) (hC : CB β I D R) (hN : NM β I) (hO : OrdB β I) (hi : i < 24) (hc : c < 24) (he : ¬ e < (-80000 : Int32) ∧ ¬ (80000 : Int32) < e) (hf : ¬ f < (-80000 : Int32) ∧ ¬ (80000 : Int32) < f) (hg : ¬ g < (-80000 : Int32) ∧ ¬ (80000 : Int32) < g) (hlt : ¬ f ≤ e) (hq : ∀ J E, FRk I D J E → Q (some (.long (skA (skT (fun x => val β (fu (env β) i (0, kp (nI (bK β i)) x)) c) (FP.ddiv (FP.i2d e) 4620693217682128896) (FP.ddiv (FP.i2d f) 4620693217682128896) (FP.ddiv (FP.i2d g) 4620693217682128896)) p))) w1 (J, E, RR R)) : j_W 130 lD 0 0 0 0 83 [some (.ref 0), some (.int (nI i)), some (.int (nI c)), some (.int e), some (.int f), some (.int g), some (.int p)] [] w1 (I, D, RR R) Q := by
  refine u130a lD2 ?_
  have f1 : FRk I D (j_u (j_u I 106 5 0) 106 6 0) (j_u (j_u (j_u D 106 0 (FP.ddiv (FP.i2d e) 4620693217682128896)) 106 1 (FP.ddiv (FP.i2d f) 4620693217682128896)) 106 2 (FP.ddiv (FP.i2d g) 4620693217682128896)) := FRk.b (fun q h => by funext k; rw [j_u_o _ _ _ h, j_u_o _ _ _ h]) (fun q h => by funext k; rw [j_u_o _ _ _ h, j_u_o _ _ _ h, j_u_o _ _ _ h])
  have q0 : (j_u (j_u (j_u D 106 0 (FP.ddiv (FP.i2d e) 4620693217682128896)) 106 1 (FP.ddiv (FP.i2d f) 4620693217682128896)) 106 2 (FP.ddiv (FP.i2d g) 4620693217682128896)) 106 0 = (FP.ddiv (FP.i2d e) 4620693217682128896) := by rw [j_u_k _ _ (by decide), j_u_k _ _ (by decide), j_u_same]
  have q1 : (j_u (j_u (j_u D 106 0 (FP.ddiv (FP.i2d e) 4620693217682128896)) 106 1 (FP.ddiv (FP.i2d f) 4620693217682128896)) 106 2 (FP.ddiv (FP.i2d g) 4620693217682128896)) 106 1 = (FP.ddiv (FP.i2d f) 4620693217682128896) := by rw [j_u_k _ _ (by decide), j_u_same]
  have q2 : (j_u (j_u (j_u D 106 0 (FP.ddiv (FP.i2d e) 4620693217682128896)) 106 1 (FP.ddiv (FP.i2d f) 4620693217682128896)) 106 2 (FP.ddiv (FP.i2d g) 4620693217682128896)) 106 2 = (FP.ddiv (FP.i2d g) 4620693217682128896) := by rw [j_u_same]
  have q6 : (j_u (j_u I 106 5 0) 106 6 0) 106 6 = 0 := by rw [j_u_same]
  generalize j_u (j_u (j_u D 106 0 (FP.ddiv (FP.i2d e) 4620693217682128896)) 106 1 (FP.ddiv (FP.i2d f) 4620693217682128896)) 106 2 (FP.ddiv (FP.i2d g) 4620693217682128896) = D1 at *
  generalize j_u (j_u I 106 5 0) 106 6 0 = I1 at *
  refine u130b (AP := fun J E => FRk I1 D1 J E ∧ EK J E (skT (fun x => val β (fu (env β) i (0, kp (nI (bK β i)) x)) c) (FP.ddiv (FP.i2d e) 4620693217682128896) (FP.ddiv (FP.i2d f) 4620693217682128896) (FP.ddiv (FP.i2d g) 4620693217682128896))) (fun Q2 hq2 => c132 hR hV (f1.cb hR hC) (f1.nm hN) (f1.or hO) hi hc (by decide) (by rw [q0]; exact i8_sk he) (by rw [q1]; exact i8_sk hf) (by rw [q2]; exact (i8_sk hg).1) (by rw [q0, q1]; exact i8_lt hlt) q6 (fun J E b1 b2 => hq2 J E ⟨b1, by rw [q0, q1, q2] at b2; exact b2⟩)) (by decide) (fun J E hA => ?_)
  obtain ⟨b1, b2, b3⟩ := hA
  have hQ := hq J E (f1.tr b1)
  generalize (skT (fun x => val β (fu (env β) i (0, kp (nI (bK β i)) x)) c) (FP.ddiv (FP.i2d e) 4620693217682128896) (FP.ddiv (FP.i2d f) 4620693217682128896) (FP.ddiv (FP.i2d g) 4620693217682128896)) = r at *
  obtain ⟨n, o⟩ := r
  unfold skA at hQ
  cases o with
  | none =>
    have h6 : J 106 6 = 0 := b3
    refine u130z lD2 (fun _ h => absurd h6 h) (fun _ h => absurd h6 h) (fun _ h => absurd h6 h) (fun _ h => absurd h6 h) (fun _ h => absurd h6 h) (fun _ h => absurd h6 h) (fun h _ => ?_) (fun h => ?_)
    · rw [if_neg h] at hQ; exact hQ
    · rw [if_pos h] at hQ
      rw [b2]; exact hQ
  | some q =>
    obtain ⟨h6, e1, e2, n1, n2⟩ := b3
    refine u130z lD2 (fun _ _ _ => by rw [e2]; exact n2.1.1) (fun _ _ _ => by rw [e2]; exact n2.2) (fun h _ h0 => ?_) (fun _ _ _ => by rw [e1]; exact n1.1.1) (fun _ _ _ => by rw [e1]; exact n1.2) (fun h _ h0 => ?_) (fun _ h => absurd (h6.symm.trans h) (by decide)) (fun h => ?_)
    · rw [if_neg h] at hQ
      have hQ : Q (some (.long (if p = 0 then q.1.toInt64 else q.2.toInt64))) w1 (J, E, RR R) := hQ
      rw [if_neg h0] at hQ
      rw [e2]; exact hQ
    · rw [if_neg h] at hQ
      have hQ : Q (some (.long (if p = 0 then q.1.toInt64 else q.2.toInt64))) w1 (J, E, RR R) := hQ
      rw [if_pos h0] at hQ
      rw [e1]; exact hQ
    · rw [if_pos h] at hQ
      rw [b2]; exact hQ
end KP
theorem both_seek (a b e f g p : Int32) : BothL Inv 130 265 [.int a, .int b, .int e, .int f, .int g, .int p] := fun σ h => by
  have hT := h
  obtain ⟨⟨hR, hW⟩, ⟨β, hC, hB, hN', hV, hN, hO, hb⟩, hRe⟩ := h
  show j_Call lD 130 [.ref 0, .int a, .int b, .int e, .int f, .int g, .int p] w1 (σ.1, σ.2.1, RR σ.2.2) 0 0 (PEndL 265 [.int a, .int b, .int e, .int f, .int g, .int p] Inv)
  have em : (-(80000 : Int32)) = (-80000 : Int32) := by decide
  have hD : 5 ≤ lD := by decide
  have bad : ¬ ((∃ k : Nat, k < 24 ∧ a = nI k) ∧ (∃ k : Nat, k < 24 ∧ b = nI k) ∧ (¬ e < (-80000 : Int32) ∧ ¬ (80000 : Int32) < e) ∧ (¬ f < (-80000 : Int32) ∧ ¬ (80000 : Int32) < f) ∧ ¬ f ≤ e ∧ (¬ g < (-80000 : Int32) ∧ ¬ (80000 : Int32) < g) ∧ (¬ p < (0 : Int32) ∧ ¬ (2 : Int32) < p)) → PEndL 265 [.int a, .int b, .int e, .int f, .int g, .int p] Inv (some (.long (-2))) w1 (σ.1, σ.2.1, RR σ.2.2) := fun hb => pend_sameL hT (u265r hD (fun _ _ _ _ _ _ _ _ _ => ⟨rfl, rfl, rfl⟩) (fun k hk e1 k2 hk2 e2 g1 g2 g3 g4 g5 _ => absurd ⟨⟨k, hk, e1⟩, ⟨k2, hk2, e2⟩, g1, g2, g3, g4, g5⟩ hb) (fun k hk e1 k2 hk2 e2 g1 g2 g3 g4 g5 _ => absurd ⟨⟨k, hk, e1⟩, ⟨k2, hk2, e2⟩, g1, g2, g3, g4, g5⟩ hb) (fun _ _ _ _ _ _ _ _ _ _ _ => ⟨rfl, rfl, rfl⟩) (fun _ _ _ _ _ _ _ _ _ _ => ⟨rfl, rfl, rfl⟩) (fun _ _ _ _ _ _ _ _ => ⟨rfl, rfl, rfl⟩) (fun _ _ _ _ _ _ _ => ⟨rfl, rfl, rfl⟩) (fun _ _ _ _ => ⟨rfl, rfl, rfl⟩) (fun _ => ⟨rfl, rfl, rfl⟩))
  refine u130r hR lD2 (fun _ _ _ _ _ _ h => bad (fun q => q.2.2.2.2.2.2.1 h)) (fun _ _ _ _ _ _ _ _ _ _ h => bad (fun q => q.2.2.2.2.1 h)) (fun i hi ea c hc eb p1 p2 g1 g2 g3 g4 hz => ?_) (fun i hi ea c hc eb p1 p2 g1 g2 g3 g4 hz => ?_) (fun _ _ _ _ _ _ _ _ _ _ _ h => bad (fun q => h (em ▸ q.2.2.2.2.2.1))) (fun _ _ _ _ _ _ _ _ _ h => bad (fun q => h (em ▸ q.2.2.2.1))) (fun _ _ _ _ _ _ _ _ h => bad (fun q => h (em ▸ q.2.2.1))) (fun _ _ _ _ _ _ _ h => bad (fun q => h (Int32.not_lt.mp q.2.2.2.2.2.2.2))) (fun _ _ _ h => bad (fun q => h q.2.1)) (fun h => bad (fun q => h q.1))
  all_goals
    subst ea
    subst eb
    rw [em] at g1 g2 g4
    have hp : (¬ p < (0 : Int32) ∧ ¬ (2 : Int32) < p) := ⟨p1, Int32.not_lt.mpr p2⟩
    have hcc := hC.1 i hi
    have hbb := hB.1 i hi
    have hz9 := (hV.1 i hi).2.1
    have no : ∀ {P : Prop}, ¬ (¬ p < (0 : Int32) ∧ ¬ (2 : Int32) < p) → P := fun h => absurd hp h
  · have hz : σ.1 (fo σ.2.2 i) 1 ≤ 0 := hz
    have z0 : bZ β i = 0 := by
      rw [hcc.2.2.2.2.1, show (0 : Int32) = nI 0 from rfl, nI_leI (by omega) (by decide)] at hz; omega
    refine a130 (p := p) hR hV hC hN hO hi hc g1 g2 g4 g3 (fun J E f1 => ?_)
    have hB2 : RB β J E := hB.cg (fun o h1 h2 => f1.1 o (by omega) (by omega) (by omega) (by omega) (by omega)) (fun o h1 h2 => f1.2 o (by omega) (by omega) (by omega) (by omega))
    have z2 : J 264 i = 0 := by rw [(hB2.1 i hi).2.2.2.2.1, z0]; rfl
    refine ⟨_, (J, E, σ.2.2), rfl, rfl, rfl, u265r hD (fun _ _ _ _ _ _ _ _ h => absurd h g3) (fun k hk e1 _ _ _ _ _ _ _ _ h => absurd (by rw [nI_in24 hi hk e1]; exact z2) h) (fun k hk e1 k2 hk2 e2 _ _ _ _ _ _ => ?_) (fun _ _ _ _ _ _ _ _ _ _ h => no h) (fun _ _ _ _ _ _ _ _ _ h => absurd g4 h) (fun _ _ _ _ _ _ _ h => absurd g2 h) (fun _ _ _ _ _ _ h => absurd g1 h) (fun _ _ _ h => absurd ⟨c, hc, rfl⟩ h) (fun h => absurd ⟨i, hi, rfl⟩ h)⟩
    obtain rfl := nI_in24 hi hk e1
    obtain rfl := nI_in24 hc hk2 e2
    refine a265 (I := J) (D := E) (p := p) hV hB2.st hB2.inp hi hc g1 g2 g4 g3 (fun K F2 k1 => ⟨(K, F2, σ.2.2), rfl, rfl, rfl, hT.scr (fun q hq => ?_) (fun q hq => ?_) ?_ ?_ ?_ ?_⟩)
    · unfold liveP restP CBP at hq
      rw [k1.1 q (by unfold qI; omega)]
      funext j
      rw [j_u_o _ _ _ (by omega), j_u_o _ _ _ (by omega), f1.1 q (by omega) (by omega) (by omega) (by omega) (by omega)]
    · unfold liveP restP CBP at hq
      rw [k1.2.2 q (by unfold qD; omega), f1.2 q (by omega) (by omega) (by omega) (by omega)]
    · rw [k1.1 97 (by unfold qI; omega), j_u_o _ _ _ (by decide), j_u_o _ _ _ (by decide), f1.1 97 (by decide) (by decide) (by decide) (by decide) (by decide)]
    · rw [k1.2.1 34 (by decide) (by decide) (by decide) (by decide) (by decide) (by decide), j_u_k _ _ (by decide), j_u_k _ _ (by decide), f1.1 260 (by decide) (by decide) (by decide) (by decide) (by decide)]
    · rw [k1.2.1 57 (by decide) (by decide) (by decide) (by decide) (by decide) (by decide), j_u_k _ _ (by decide), j_u_k _ _ (by decide), f1.1 260 (by decide) (by decide) (by decide) (by decide) (by decide)]
    · rw [k1.1 0 (by unfold qI; omega), j_u_o _ _ _ (by decide), j_u_o _ _ _ (by decide), f1.1 0 (by decide) (by decide) (by decide) (by decide) (by decide)]
  · have hz : ¬ σ.1 (fo σ.2.2 i) 1 ≤ 0 := hz
    have z2 : ¬ σ.1 264 i = 0 := fun g => hz (by
      rw [hbb.2.2.2.2.1] at g
      rw [hcc.2.2.2.2.1, g]; decide)
    exact pend_sameL hT (u265r hD (fun _ _ _ _ _ _ _ _ h => absurd h g3) (fun _ _ _ _ _ _ _ _ _ _ _ _ => ⟨rfl, rfl, rfl⟩) (fun k hk e1 _ _ _ _ _ _ _ _ h => absurd (by rw [nI_in24 hi hk e1] at h; exact h) z2) (fun _ _ _ _ _ _ _ _ _ _ h => no h) (fun _ _ _ _ _ _ _ _ _ h => absurd g4 h) (fun _ _ _ _ _ _ _ h => absurd g2 h) (fun _ _ _ _ _ _ h => absurd g1 h) (fun _ _ _ h => absurd ⟨c, hc, rfl⟩ h) (fun h => absurd ⟨i, hi, rfl⟩ h))
