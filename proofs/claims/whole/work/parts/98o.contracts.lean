/-! asking the tellers: contracts -/
/-- what the class's telling may change -/
abbrev FRc (I : Nat → Nat → Int32) (D : Nat → Nat → UInt64) (J : Nat → Nat → Int32) (E : Nat → Nat → UInt64) : Prop := GF 0 0 (fun _ => True) I D J E
/-- what the reference's may -/
def FRr (I : Nat → Nat → Int32) (D : Nat → Nat → UInt64) (J : Nat → Nat → Int32) (E : Nat → Nat → UInt64) : Prop := (∀ q, ¬ qI 0 q → J q = I q) ∧ (∀ i, i ≠ 18 → i ≠ 26 → i ≠ 31 → i ≠ 32 → J 260 i = I 260 i) ∧ (∀ q, ¬ qD 0 q → E q = D q)
section CT
variable {β : Bd} {I I1 J : Nat → Nat → Int32} {D D1 E : Nat → Nat → UInt64} {R : Nat → Nat → Option Nat} {Q : j_Po}
theorem cnt_6 (ρ : Nat → Nat) (m : Nat) : cnt ρ m ≤ 6 := by
  have h : ∀ a, (if ρ a < m then 1 else 0) ≤ 1 := fun a => by split <;> decide
  have h0 := h 24
  have h1 := h 25
  have h2 := h 26
  have h3 := h 27
  have h4 := h 28
  have h5 := h 29
  unfold cnt; omega
theorem cnt_5 {ρ : Nat → Nat} {t m : Nat} (ht : t < 6) (hm : m ≤ ρ (24 + t)) : cnt ρ m ≤ 5 := by
  have h1 := cnt_lt (ρ := ρ) (m := ρ (24 + t) + 1) ht (Nat.lt_succ_self _)
  have h2 := cnt_6 ρ (ρ (24 + t) + 1)
  have h3 := cnt_le (ρ := ρ) hm
  omega
theorem FL.rc {L : Nat} (h : FL L I D J E) (hL : L < 7) : FRc I D J E := FL.gf h (Nat.zero_le _) hL
/-- a cell is told, and what it reaches -/
theorem c36o (hR : WFR R) (hV : BV β) (hC : CB β I D R) (hN : NM β I) (hO : OrdB β I) {d L o : Nat} {η : VEnv} (ho : o < 24) (hc : ∀ ρ, Rk β ρ → L + cnt ρ (ρ o) ≤ 6) (hd : 33 ≤ d) (h7 : I 107 7 = 0) (hE : LE β I D L η)
    (hq : ∀ J E, FRc I D J E → GF L 0 (fun _ => True) I D J E → LE β J E L η → J 107 7 = 0 → (∀ c, c < 24 → bt (I 206 o) c = true → LC J E L c (val β η c)) → LC J E L o (val β η o) → Q none w1 (J, E, RR R)) : j_Call d 36 [.ref 107, .int (nI L), .int (I 206 o)] w1 (I, D, RR R) 0 0 Q := by
  obtain ⟨ρ, hρ⟩ := Rk.ex hV
  have hXc := hN.rc
  have hA := hV.2.2
  have hXo : bt (I 206 o) o = true := by rw [(hN.1 _ ho).1 _ (by omega), decide_eq_true rfl]; rfl
  refine tc_step (η := η) (X := fun c => bt (I 206 o) c) (o := o) (b := 0) (r := 31) hR hV hρ (tf_all hR hV hρ 31).1 ho (by have := hρ.1 o (by omega); omega) (hc ρ hρ) (Nat.zero_le _) (by omega) hC hN hO h7 hE (fun c hc h => ?_) (fun c k hc hk h hnm => hXc.tr2 hA ho (by omega) hk h hc hnm) (fun c _ h => h) (fun c _ h _ h2 => absurd (h.symm.trans h2) (by decide)) (fun J E g1 g2 g3 g4 => hq J E (g1.mono (Nat.zero_le _) (Nat.le_refl _) (fun _ _ _ => trivial)) (g1.mono (Nat.le_refl _) (Nat.le_refl _) (fun _ _ _ => trivial)) g3 g2 g4 (g4 o ho hXo))
  exact hXc.cl hA (T := fun v => ρ v ≤ ρ o) (fun u v hu hv hT hnm => by
    have := hρ.2 u v (by omega) (by omega) (ed_1 hu hnm)
    show ρ v ≤ ρ o
    have hT : ρ u ≤ ρ o := hT
    omega) o ho (Nat.le_refl _) c (by omega) h
/-- begin -/
theorem c34o (hC : CB β I D R) {d : Nat} (hd : 2 ≤ d) (hq : ∀ J E, FRc I D J E → J 107 7 = 0 → LE β J E 0 (env β) → Q none w1 (J, E, RR R)) : j_Call d 34 [.ref 107] w1 (I, D, RR R) 0 0 Q := by
  refine c34 hC hd (fun J E a1 a2 a3 a4 a5 => hq J E ⟨fun q q1 _ q3 _ => a3 q q1 (by omega), a2, fun i h => absurd h (Nat.not_lt_zero _), fun q _ q2 _ => a4 q (by omega), fun i h => absurd h (Nat.not_lt_zero _), fun u _ hn => absurd trivial hn⟩ a1 (fun c hc _ => a5 c hc))
/-- wrongNow -/
theorem c33 (hR : WFR R) (hV : BV β) (hC : CB β I D R) (hN : NM β I) (hO : OrdB β I) {d c : Nat} (hc : c < 24) (hd : 40 ≤ d) (hq : ∀ J E, FRc I D J E → LC J E 0 c (val β (env β) c) → Q (some (.int (nI (val β (env β) c).1))) w1 (J, E, RR R)) : j_Call d 33 [.ref 0, .int (nI c)] w1 (I, D, RR R) 0 0 Q := by
  refine u33a (AP := fun J E => FRc I D J E ∧ J 107 7 = 0 ∧ LE β J E 0 (env β)) (fun Q2 hq2 => c34o hC (by omega) (fun J E a1 a2 a3 => hq2 J E ⟨a1, a2, a3⟩)) (by omega) (fun J E hA => ?_)
  obtain ⟨a1, a2, a3⟩ := hA
  refine u33b (AP := fun J2 E2 => FRc J E J2 E2 ∧ LC J2 E2 0 c (val β (env β) c)) hc (fun Q2 hq2 => c36o (L := 0) (η := env β) hR hV (a1.cb hR hC) (a1.nm hN) (a1.or hO) hc (fun ρ _ => by have := cnt_6 ρ (ρ c); omega) (by omega) a2 a3 (fun J2 E2 b1 _ _ _ _ b6 => hq2 J2 E2 ⟨b1, b6⟩)) (by omega) (fun J2 E2 hB => ?_)
  obtain ⟨b1, b2⟩ := hB
  refine u33c hc (by omega) ?_
  rw [show J2 221 c = nI (val β (env β) c).1 from b2.1]
  exact hq J2 E2 (a1.tr b1) b2
/-- tryNumber -/
theorem c59 (hR : WFR R) (hV : BV β) (hC : CB β I D R) (hN : NM β I) (hO : OrdB β I) {d c o : Nat} {x : UInt64} {η : VEnv} (hc : c < 24) (ho : o < 24) (hx : Sm x) (h7 : I 107 7 = 0) (hE : LE β I D 0 η) (hd : 40 ≤ d) (hq : ∀ J E, FRc I D J E → J 107 7 = 0 → LE β J E 0 (fu η c (0, kp (nI (bK β c)) x)) → (∀ k, k < 24 → bt (I 206 o) k = true → LC J E 0 k (val β (fu η c (0, kp (nI (bK β c)) x)) k)) → LC J E 0 o (val β (fu η c (0, kp (nI (bK β c)) x)) o) → Q (some (.int (nI (val β (fu η c (0, kp (nI (bK β c)) x)) o).1))) w1 (J, E, RR R)) : j_Call d 59 [.ref 107, .int (nI c), .double x, .int (nI o)] w1 (I, D, RR R) 0 0 Q := by
  refine u59a (AP := fun J E => FL 0 I D J E ∧ LE β J E 0 (fu η c (0, kp (nI (bK β c)) x))) (fun Q2 hq2 => c60 (η := η) hC hc hx (by omega) hE (fun J E a1 a2 => hq2 J E ⟨a1, a2⟩)) (by omega) (fun J E hA => ?_)
  obtain ⟨a0, a3⟩ := hA
  have a1 := FL.rc a0 (by decide)
  have a2 : J 107 7 = 0 := by rw [a0.1 107 (by decide)]; exact h7
  have e206 : J 206 = I 206 := a0.1 206 (by decide)
  refine u59b (AP := fun J2 E2 => FRc J E J2 E2 ∧ LE β J2 E2 0 (fu η c (0, kp (nI (bK β c)) x)) ∧ J2 107 7 = 0 ∧ (∀ k, k < 24 → bt (J 206 o) k = true → LC J2 E2 0 k (val β (fu η c (0, kp (nI (bK β c)) x)) k)) ∧ LC J2 E2 0 o (val β (fu η c (0, kp (nI (bK β c)) x)) o)) ho (fun Q2 hq2 => c36o (L := 0) hR hV (a1.cb hR hC) (a1.nm hN) (a1.or hO) ho (fun ρ _ => by have := cnt_6 ρ (ρ o); omega) (by omega) a2 a3 (fun J2 E2 b1 _ b3 b4 b5 b6 => hq2 J2 E2 ⟨b1, b3, b4, b5, b6⟩)) (by omega) (fun J2 E2 hB => ?_)
  obtain ⟨b1, b3, b4, b5, b6⟩ := hB
  refine u59c ho (by omega) ?_
  rw [show J2 221 o = nI (val β (fu η c (0, kp (nI (bK β c)) x)) o).1 from b6.1]
  rw [e206] at b5
  exact hq J2 E2 (a1.tr b1) b4 b3 b5 b6
/-- wrongIn -/
theorem c119 (hR : WFR R) (hV : BV β) (hC : CB β I D R) (hN : NM β I) (hO : OrdB β I) {d t i j : Nat} (ht : t < 6) (hl : bL β t = true) (hi : i < bm β t) (hj : j < wd β t) (hd : 40 ≤ d) (hq : ∀ J E, FRc I D J E → LC J E 1 (bO β t) (val β (supV β (env β) t i j) (bO β t)) → Q (some (.int (nI (val β (supV β (env β) t i j) (bO β t)).1))) w1 (J, E, RR R)) : j_Call d 119 [.ref 0, .int (nI t), .int (nI i), .int (nI j)] w1 (I, D, RR R) 0 0 Q := by
  have hg : isG (go R t) := (hR.g t ht).2
  obtain ⟨wo, -⟩ := hV.2.1 t ht hl
  refine u119e hR ht (by omega) ?_
  refine u119a (AP := fun J E => FRc I D J E ∧ J 107 7 = 0 ∧ LE β J E 0 (env β)) hg (fun Q2 hq2 => c34o hC (by omega) (fun J E a1 a2 a3 => hq2 J E ⟨a1, a2, a3⟩)) (by omega) (fun J E hA => ?_)
  obtain ⟨a1, a2, a3⟩ := hA
  refine u119b (AP := fun J2 E2 => FL 1 J E J2 E2 ∧ LE β J2 E2 1 (env β)) hg (fun Q2 hq2 => c43 (L := 1) (by decide) (by decide) (by omega) (fun J2 E2 b1 b2 => hq2 J2 E2 ⟨b1, fun c hc hz => by
    obtain ⟨p1, p2⟩ := b2 c hc
    have h := a3 c hc hz
    unfold LC at h ⊢
    rw [p1, p2]; exact h⟩)) (by omega) (fun J2 E2 hB => ?_)
  obtain ⟨b1, b2⟩ := hB
  have ab := a1.tr (FL.rc b1 (by decide))
  refine u119c (AP := fun J3 E3 => FL 1 J2 E2 J3 E3 ∧ LE β J3 E3 1 (supV β (env β) t i j)) hg (fun Q2 hq2 => c45 (L := 1) hR hV (ab.cb hR hC) ht hl (by decide) (by decide) hi hj (by omega) b2 (fun J3 E3 c1 _ c3 => hq2 J3 E3 ⟨c1, c3⟩)) (by omega) (fun J3 E3 hB => ?_)
  obtain ⟨c1, c2⟩ := hB
  have ac := ab.tr (FL.rc c1 (by decide))
  have C3 := ac.cb hR hC
  have e1 : J3 (go R t) 1 = nI (bO β t) := ((C3.2 t ht).2 hl).1
  refine u119d (o := bO β t) (AP := fun J4 E4 => FRc J3 E3 J4 E4 ∧ LC J4 E4 1 (bO β t) (val β (supV β (env β) t i j) (bO β t)) ∧ CB β J4 E4 R) hg e1 wo (fun Q2 hq2 => c36o (L := 1) hR hV C3 (ac.nm hN) (ac.or hO) wo (fun ρ hρ => by have := cnt_5 (ρ := ρ) ht (Nat.le_of_lt (hρ.out hV ht hl).2); omega) (by omega) (by rw [c1.1 107 (by decide), b1.1 107 (by decide)]; exact a2) c2 (fun J4 E4 d1 _ _ _ _ d6 => hq2 J4 E4 ⟨d1, d6, d1.cb hR C3⟩)) (by omega) (fun J4 E4 hB => ?_)
  obtain ⟨d1, d2, d3⟩ := hB
  refine u119f (o := bO β t) hg ((d3.2 t ht).2 hl).1 wo (by omega) ?_
  rw [show J4 222 (bO β t) = nI (val β (supV β (env β) t i j) (bO β t)).1 from d2.1]
  exact hq J4 E4 (ac.tr d1) d2
/-- tallyNow -/
theorem c122 (hR : WFR R) (hV : BV β) (hC : CB β I D R) (hN : NM β I) (hO : OrdB β I) {d t : Nat} (ht : t < 6) (hl : bL β t = true) (hd : 40 ≤ d) (hq : ∀ J E, FRc I D J E → TLR J E (230 + 3 * t) (cas β t) (csV β (env β) t) → (∀ q, q < cas β t → (csV β (env β) t q).1 < 200 ∧ ((csV β (env β) t q).1 = 0 → Sm (csV β (env β) t q).2)) → Q (some (.ref (230 + 3 * t))) w1 (J, E, RR R)) : j_Call d 122 [.ref 0, .int (nI t)] w1 (I, D, RR R) 0 0 Q := by
  obtain ⟨ρ, hρ⟩ := Rk.ex hV
  refine u122a (AP := fun J E => FRc I D J E ∧ J 107 7 = 0 ∧ LE β J E 0 (env β)) (fun Q2 hq2 => c34o hC (by omega) (fun J E a1 a2 a3 => hq2 J E ⟨a1, a2, a3⟩)) (by omega) (fun J E hA => ?_)
  obtain ⟨a1, a2, a3⟩ := hA
  refine u122b (AP := fun J2 E2 => FRc J E J2 E2 ∧ TLR J2 E2 (230 + 3 * t) (cas β t) (csV β (env β) t) ∧ (∀ q, q < cas β t → (csV β (env β) t q).1 < 200 ∧ ((csV β (env β) t q).1 = 0 → Sm (csV β (env β) t q).2))) (fun Q2 hq2 => (tf_all hR hV hρ 31).2 (d - 1) 0 0 t (env β) J E Q2 ht hl (by have := hρ.1 (24 + t) (by omega); omega) (by have := cnt_5 (ρ := ρ) ht (Nat.le_refl _); omega) (Nat.zero_le _) (by omega) (a1.cb hR hC) (a1.nm hN) (a1.or hO) a2 a3 (fun J2 E2 b1 _ b3 b4 => hq2 J2 E2 ⟨b1.mono (Nat.zero_le _) (Nat.le_refl _) (fun _ _ _ => trivial), b3, b4⟩)) (by omega) (fun J2 E2 hB => ?_)
  obtain ⟨b1, b2, b3⟩ := hB
  exact u122c ht (by omega) (hq J2 E2 (a1.tr b1) b2 b3)
/-! the reference -/
theorem RB.st (h : RB β I D) : RSt β I D := ⟨fun c hc => ⟨(h.1 c hc).1, (h.1 c hc).2.2.2.2.1, (h.1 c hc).2.2.2.2.2⟩, h.2⟩
theorem RB.inp (h : RB β I D) : RIn β I D (env β) := fun c hc => by
  obtain ⟨-, a2, a3, a4, -⟩ := h.1 c hc
  rw [a2]
  cases hf : bF β c with
  | false => exact ⟨Or.inl rfl, a4, fun _ => ⟨fun _ => by unfold env; rw [hf, if_neg (by simp)], fun h => absurd h (by decide)⟩⟩
  | true => exact ⟨Or.inr rfl, a4, fun _ => ⟨fun h => absurd h (by decide), fun _ => by unfold env; rw [hf, if_pos rfl, a3 hf]⟩⟩
theorem FRr.tr {I2 : Nat → Nat → Int32} {D2 : Nat → Nat → UInt64} (h : FRr I D I1 D1) (g : FRr I1 D1 I2 D2) : FRr I D I2 D2 := ⟨fun q a => (g.1 q a).trans (h.1 q a), fun i a1 a2 a3 a4 => (g.2.1 i a1 a2 a3 a4).trans (h.2.1 i a1 a2 a3 a4), fun q a => (g.2.2 q a).trans (h.2.2 q a)⟩
theorem FQT.rr {δ b : Nat} (h : FQT δ b I D J E) : FRr I D J E := ⟨fun q a => h.1 q (fun e => a (by unfold qI at *; omega)), fun i _ a2 a3 a4 => h.2.1 i a2 a3 a4, fun q a => h.2.2.2.1 q (fun e => a (by unfold qD at *; omega))⟩
theorem rr_0 : FRr I D (j_u (j_u I 260 18 0) 260 26 0) D := ⟨fun q a => by funext i; rw [j_u_o _ _ _ (fun h => a (Or.inl h)), j_u_o _ _ _ (fun h => a (Or.inl h))], fun i a1 a2 _ _ => by rw [j_u_k _ _ a2, j_u_k _ _ a1], fun _ _ => rfl⟩
theorem FRr.st (h : FRr I D J E) (hS : RSt β I D) : RSt β J E := hS.cg (fun q a1 a2 _ => h.1 q (by unfold qI; omega)) (fun q a1 a2 _ => h.2.2 q (by unfold qD; omega))
theorem FRr.inp {η : VEnv} (h : FRr I D J E) (hS : RIn β I D η) : RIn β J E η := hS.cg (h.1 262 (by unfold qI; omega)) (h.2.2 263 (by unfold qD; omega))
/-- afresh, at level 0 -/
theorem c190o {d : Nat} {η : VEnv} (h18 : I 260 18 = 0) (hq : ∀ J, FRr I D J D → J 260 = I 260 → QM β 0 η J D → Q none w1 (J, D, RR R)) : j_Call d 190 [.ref 260] w1 (I, D, RR R) 0 0 Q := by
  refine c190 (l := 0) h18 (by decide) (fun J a1 a2 a3 => hq J ⟨fun q a => a1 q (fun e => a (by unfold qI; omega)) (fun e => a (by unfold qI; omega)), fun i _ _ _ _ => by rw [a1 260 (by decide) (by decide)], fun _ _ => rfl⟩ (a1 260 (by decide) (by decide)) ⟨fun c hc h => absurd (a2 c hc) h, fun t ht _ h => absurd (a3 t ht) h⟩)
/-- tellNow -/
theorem c189s (hV : BV β) (hS : RSt β I D) {η : VEnv} (hI : RIn β I D η) {d c : Nat} (hc : c < 24) (hd : 70 ≤ d) (hq : ∀ J E, FRr I D J E → VQ (J 380 c) (J 388 c) (E 372 c) (val β η c) → Sm (E 372 c) → Q none w1 (J, E, RR R)) : j_Call d 189 [.ref 260, .int (nI c)] w1 (I, D, RR R) 0 0 Q := by
  obtain ⟨ρ, hρ⟩ := Rk.ex hV
  refine u189 (by omega) ?_
  refine u189b (AP := fun J E => E = D ∧ FRr (j_u (j_u I 260 18 0) 260 26 0) D J D ∧ J 260 = j_u (j_u I 260 18 0) 260 26 0 260 ∧ QM β 0 η J D) (fun Q2 hq2 => c190o (β := β) (η := η) (by rw [j_u_k _ _ (by decide), j_u_same]) (fun J a1 a2 a3 => hq2 J D ⟨rfl, a1, a2, a3⟩)) (by omega) (fun J E hA => ?_)
  obtain ⟨rfl, a1, a2, a3⟩ := hA
  have a0 := FRr.tr rr_0 a1
  refine u189c (AP := fun J2 E2 => FRr J E J2 E2 ∧ (VQ (J2 380 c) (J2 388 c) (E2 372 c) (val β η c) ∧ Sm (E2 372 c))) (fun Q2 hq2 => (tq_all hV hρ 31).1 (d - 1) 0 0 c η J E Q2 hc (by have := hρ.1 c (by omega); omega) (by have := cnt_6 ρ (ρ c); omega) (by have := hρ.1 c (by omega); omega) (by have := hρ.1 c (by omega); omega) (a0.st hS) (a0.inp hI) a3 (by rw [a2, j_u_k _ _ (by decide), j_u_same]; rfl) (by rw [a2, j_u_same]; rfl) (fun J2 E2 b1 _ b3 b4 => hq2 J2 E2 ⟨b1.rr, b3.1 c hc b4⟩)) (by omega) (fun J2 E2 hB => hq J2 E2 (a0.tr hB.1) hB.2.1 hB.2.2)
theorem c189 (hV : BV β) (hS : RSt β I D) {η : VEnv} (hI : RIn β I D η) {d c : Nat} (hc : c < 24) (hd : 70 ≤ d) (hq : ∀ J E, FRr I D J E → VQ (J 380 c) (J 388 c) (E 372 c) (val β η c) → Q none w1 (J, E, RR R)) : j_Call d 189 [.ref 260, .int (nI c)] w1 (I, D, RR R) 0 0 Q := c189s hV hS hI hc hd (fun J E h1 h2 _ => hq J E h1 h2)
/-- tellCaseNow -/
theorem c257 (hV : BV β) (hS : RSt β I D) {η : VEnv} (hI : RIn β I D η) {d t i j : Nat} (ht : t < 6) (hl : bL β t = true) (hi : i < bm β t) (hj : j < wd β t) (hd : 70 ≤ d) (hq : ∀ J E, FRr I D J E → VQ (J 260 31) (J 260 32) (E 260 30) (val β (supV β η t i j) (bO β t)) → Q none w1 (J, E, RR R)) : j_Call d 257 [.ref 260, .int (nI t), .int (nI i), .int (nI j)] w1 (I, D, RR R) 0 0 Q := by
  obtain ⟨ρ, hρ⟩ := Rk.ex hV
  have a0 : FRr I D (j_u (j_u I 260 18 0) 260 26 0) D := rr_0
  obtain ⟨o1, o2⟩ := hρ.out hV ht hl
  have o3 := hρ.1 (24 + t) (by omega)
  refine u257 (by omega) ?_
  refine u257b (AP := fun J2 E2 => FRr (j_u (j_u I 260 18 0) 260 26 0) D J2 E2 ∧ VQ (J2 260 31) (J2 260 32) (E2 260 30) (val β (supV β η t i j) (bO β t))) (fun Q2 hq2 => c195 (η := η) (δ := 0) (b := 0) (r := 31) hV (tq_all hV hρ 31).1 ht hl (by omega) (by have := cnt_5 (ρ := ρ) ht (Nat.le_of_lt o2); omega) (by omega) (by omega) hi hj (a0.st hS) (a0.inp hI) (by rw [j_u_k _ _ (by decide), j_u_same]; rfl) (by rw [j_u_same]; rfl) (fun J2 E2 b1 _ b3 => hq2 J2 E2 ⟨b1.rr, b3⟩)) (by omega) (fun J2 E2 hB => hq J2 E2 (a0.tr hB.1) hB.2)
/-- sumUp from scratch -/
theorem c194o (hV : BV β) (hS : RSt β I D) {η : VEnv} (hI : RIn β I D η) (hM : QM β 0 η I D) {d t : Nat} (ht : t < 6) (hl : bL β t = true) (h18 : I 260 18 = 0) (h26 : I 260 26 = 0) (hd : 70 ≤ d) (hq : ∀ J E, FRr I D J E → (∀ f, f < 5 → SR (J 412 (5 * t + f)) (E 404 (5 * t + f)) f (tab β η t (cas β t))) → Q none w1 (J, E, RR R)) : j_Call d 194 [.ref 260, .int (nI t)] w1 (I, D, RR R) 0 0 Q := by
  obtain ⟨ρ, hρ⟩ := Rk.ex hV
  have o3 := hρ.1 (24 + t) (by omega)
  exact (tq_all hV hρ 31).2 d 0 0 t η I D Q ht hl (by omega) (by have := cnt_5 (ρ := ρ) ht (Nat.le_refl _); omega) (by omega) (by omega) hS hI hM h18 h26 (fun J E b1 _ b3 b4 => hq J E b1.rr (fun f hf => b3.2 t ht hl b4 f hf))
/-! nothing that stays is changed -/
theorem Inv.tell {σ : j_I3} (h : Inv σ) {J K : Nat → Nat → Int32} {E F : Nat → Nat → UInt64} (h1 : FRc σ.1 σ.2.1 J E) (h2 : FRr J E K F) : Inv (K, F, σ.2.2) := by
  obtain ⟨⟨hR, hW⟩, ⟨β, hL⟩, hRe⟩ := h
  have eI : ∀ q, ¬ qI 0 q → q ≠ 107 → q ≠ 229 → ¬ (221 ≤ q ∧ q ≤ 227) → ¬ (230 ≤ q ∧ q < 248) → K q = σ.1 q := fun q a1 a2 a3 a4 a5 => (h2.1 q a1).trans (h1.1 q a2 a3 (by omega) a5)
  have eD : ∀ q, ¬ qD 0 q → q ≠ 228 → ¬ (213 ≤ q ∧ q ≤ 219) → ¬ (230 ≤ q ∧ q < 248) → F q = σ.2.1 q := fun q a1 a2 a3 a4 => (h2.2.2 q a1).trans (h1.2.2.2.1 q a2 (by omega) a4)
  refine ⟨⟨hR, hW⟩, ⟨β, hL.cg (σ' := (K, F, σ.2.2)) hR (fun o ho => ?_) (fun o ho => ?_) rfl rfl⟩, hRe.cg' (fun o ho => ?_) (fun o ho => ?_) ?_ ?_ ?_ ?_⟩
  · unfold liveP CBP at ho; exact eI o (by unfold qI; omega) (by omega) (by omega) (by omega) (by omega)
  · unfold liveP CBP at ho; exact eD o (by unfold qD; omega) (by omega) (by omega) (by omega)
  · unfold restP at ho; exact eI o (by unfold qI; omega) (by omega) (by omega) (by omega) (by omega)
  · unfold restP at ho; exact eD o (by unfold qD; omega) (by omega) (by omega) (by omega)
  · rw [eI 97 (by unfold qI; omega) (by decide) (by decide) (by decide) (by decide)]
  · rw [h2.2.1 34 (by decide) (by decide) (by decide) (by decide), h1.1 260 (by decide) (by decide) (by decide) (by decide)]
  · rw [h2.2.1 57 (by decide) (by decide) (by decide) (by decide), h1.1 260 (by decide) (by decide) (by decide) (by decide)]
  · rw [eI 0 (by unfold qI; omega) (by decide) (by decide) (by decide) (by decide)]
theorem FRc.rb (h : FRc I D J E) (hB : RB β I D) : RB β J E := hB.cg (fun o h1 h2 => h.1 o (by omega) (by omega) (by omega) (by omega)) (fun o h1 h2 => h.2.2.2.1 o (by omega) (by omega) (by omega))
theorem FRr.refl : FRr I D I D := ⟨fun _ _ => rfl, fun _ _ _ _ _ => rfl, fun _ _ => rfl⟩
theorem finV_ok {k : Nat} {v : Vl} (h : (finV k v).1 = 0) (hs : v.1 = 0 → Sm v.2) : okD (finV k v).2 := by
  unfold finV at h ⊢
  by_cases e : v.1 = 0
  · rw [if_pos e]; exact kp_sm (hs e)
  · rw [if_neg e] at h; exact absurd h e
end CT
