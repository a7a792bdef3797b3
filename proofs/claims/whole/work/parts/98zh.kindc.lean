/-! tells: the kinds -/
def bk1 (β : Bd) (c k : Nat) : Bd := (fu β.1 c k, β.2)
section BK
variable {β : Bd} {I J J' : Nat → Nat → Int32} {D E : Nat → Nat → UInt64} {R : Nat → Nat → Option Nat} {Q : j_Po} {c k : Nat}
theorem bk1_V (hV : BV β) (hk : k < 6) : BV (bk1 β c k) := by
  refine ⟨fun v hv => ⟨?_, (hV.1 v hv).2⟩, hV.2⟩
  show fu β.1 c k v < 6
  by_cases e : v = c
  · subst e; rw [fu_s]; exact hk
  · rw [fu_n e]; exact (hV.1 v hv).1
theorem bk1_C (hR : WFR R) (hC : CB β J' E R) (h1 : ∀ q, q ≠ 109 → J q = J' q) (h2 : ∀ i, i ≠ c → J 109 i = J' 109 i) (h3 : J 109 c = nI k) : CB (bk1 β c k) J E R := by
  refine ⟨fun v hv => ?_, fun t ht => ?_⟩
  · obtain ⟨a1, a2, a3, a4, a5⟩ := hC.1 v hv
    have hf := isBF_rng (hR.1 v hv).2
    refine ⟨?_, a2, a3, by rw [h1 111 (by decide)]; exact a4, ?_⟩
    · show J 109 v = nI (fu β.1 c k v)
      by_cases e : v = c
      · subst e; rw [fu_s]; exact h3
      · rw [fu_n e, h2 v e]; exact a1
    · show FR (bZ β v) (bS β v) J (fo R v)
      unfold FR at a5 ⊢
      rw [h1 (fo R v) (by omega), h1 (fo R v + 1) (by omega), h1 (fo R v + 2) (by omega)]; exact a5
  · have hg := isBG_rng (hR.2.1 t ht).2
    have := hC.2 t ht
    show GR β t J E (go R t)
    unfold GR at this ⊢
    rw [h1 (go R t) (by omega)]; exact this
theorem bk1_R (hB : RB β J' E) (h1 : ∀ q, q ≠ 261 → J q = J' q) (h2 : ∀ i, i ≠ c → J 261 i = J' 261 i) (h3 : J 261 c = nI k) : RB (bk1 β c k) J E := by
  refine ⟨fun v hv => ?_, fun t ht => ?_⟩
  · obtain ⟨a1, a2, a3, a4, a5, a6⟩ := hB.1 v hv
    refine ⟨?_, by rw [h1 262 (by decide)]; exact a2, a3, a4, by rw [h1 264 (by decide)]; exact a5, fun j hj => by rw [h1 (266 + v) (by omega)]; exact a6 j hj⟩
    show J 261 v = nI (fu β.1 c k v)
    by_cases e : v = c
    · subst e; rw [fu_s]; exact h3
    · rw [fu_n e, h2 v e]; exact a1
  · rw [h1 315 (by decide), h1 316 (by decide), h1 317 (by decide), h1 318 (by decide), h1 319 (by decide)]
    exact hB.2 t ht
theorem bk1_N (hN : NM β I) : NM (bk1 β c k) I := hN
theorem bk1_O (hO : OrdB β I) : OrdB (bk1 β c k) I := hO
theorem FRr.rb (h : FRr I D J E) (hB : RB β I D) : RB β J E := hB.cg (fun o h1 h2 => h.1 o (by unfold qI; omega)) (fun o h1 h2 => h.2.2 o (by unfold qD; omega))
theorem ju_ju {α : Type} {f : Nat → Nat → α} {o i : Nat} {a b : α} : j_u (j_u f o i a) o i b = j_u f o i b := by
  funext q j
  by_cases e : q = o
  · subst e
    by_cases e2 : j = i
    · subst e2; rw [j_u_same, j_u_same]
    · rw [j_u_k _ _ e2, j_u_k _ _ e2, j_u_k _ _ e2]
  · rw [j_u_o _ _ _ e, j_u_o _ _ _ e, j_u_o _ _ _ e]
theorem ju_id' {α : Type} {f : Nat → Nat → α} {o i : Nat} : j_u f o i (f o i) = f := by
  funext q j
  by_cases e : q = o
  · subst e
    by_cases e2 : j = i
    · subst e2; rw [j_u_same]
    · rw [j_u_k _ _ e2]
  · rw [j_u_o _ _ _ e]
def kN (f : Nat → Int32) (x : Nat → UInt64) (β : Bd) (t c : Nat) : Nat → Int32
  | 0 => 0
  | k + 1 => if oth f x (csV (bk1 β c k) (env (bk1 β c k)) t) (cas β t) 0 = -1 then kN f x β t c k ||| (1 <<< (nI k &&& 31)) else kN f x β t c k
theorem c150 (hR : WFR R) (hV : BV β) (hC : CB β I D R) (hN : NM β I) (hO : OrdB β I) {d t r : Nat} (ht : t < 6) (hr : r < 4) (hc : c < 24) (hl : bL β t = true) (hrow : I (248 + 3 * r) 1 = nI (cas β t)) (hd : 50 ≤ d) (hq : ∀ J E, FRc I D J E → Q (some (.int (kN (I (248 + 3 * r + 2)) (D (248 + 3 * r + 1)) β t c 6))) w1 (J, E, RR R)) : j_Call d 150 [.ref 0, .int (nI t), .ref (248 + 3 * r), .int (nI c)] w1 (I, D, RR R) 0 0 Q := by
  obtain ⟨k64, -⟩ := cas_64 hV ht hl
  refine u150e hr hc (by omega) ?_
  have loop : ∀ (m k : Nat) (J : Nat → Nat → Int32) (E : Nat → Nat → UInt64), m + k = 6 → FRc I D (j_u J 109 c (I 109 c)) E → j_W 150 d 0 0 0 0 17 [some (.ref 0), some (.int (nI t)), some (.ref (248 + 3 * r)), some (.int (nI c)), some (.int (I 109 c)), some (.int (kN (I (248 + 3 * r + 2)) (D (248 + 3 * r + 1)) β t c k)), some (.int (nI k))] [] w1 (J, E, RR R) Q := by
    intro m
    induction m with
    | zero =>
      intro k J E hk hF
      have hk6 : k = 6 := by omega
      subst hk6
      exact u150h hr hc (by decide) (by omega) (fun _ => hq _ _ hF) (fun h => absurd (Nat.le_refl _) h)
    | succ m ih =>
      intro k J E hk hF
      refine u150h hr hc (by omega) (by omega) (fun h => absurd h (by omega)) (fun _ => ?_)
      have V2 := bk1_V (c := c) (k := k) hV (by omega)
      have C1 := hF.cb hR hC
      have C2 : CB (bk1 β c k) (j_u J 109 c (nI k)) E R := bk1_C hR C1 (fun q hq => by funext i; rw [j_u_o _ _ _ hq, j_u_o _ _ _ hq]) (fun i hi => by rw [j_u_k _ _ hi, j_u_k _ _ hi]) (j_u_same _ _ _ _)
      have N1 : NM β (j_u J 109 c (nI k)) := (hF.nm hN).cg (fun o a b => by funext i; rw [j_u_o _ _ _ (by omega), j_u_o _ _ _ (by omega)])
      have O1 : OrdB β (j_u J 109 c (nI k)) := (hF.or hO).cg (by funext i; rw [j_u_o _ _ _ (by decide), j_u_o _ _ _ (by decide)])
      have er : ∀ q, 248 ≤ q → q < 260 → j_u J 109 c (nI k) q = I q := fun q a b => by
        rw [← hF.1 q (by omega) (by omega) (by omega) (by omega)]; funext i; rw [j_u_o _ _ _ (by omega), j_u_o _ _ _ (by omega)]
      have ed' : ∀ q, 248 ≤ q → q < 260 → E q = D q := fun q a b => hF.2.2.2.1 q (by omega) (by omega) (by omega)
      refine u150c (v := oth (I (248 + 3 * r + 2)) (D (248 + 3 * r + 1)) (csV (bk1 β c k) (env (bk1 β c k)) t) (cas β t) 0) (AP := fun J2 E2 => FRc (j_u J 109 c (nI k)) E J2 E2 ∧ TLR J2 E2 (230 + 3 * t) (cas β t) (csV (bk1 β c k) (env (bk1 β c k)) t) ∧ (∀ q, q < cas β t → (csV (bk1 β c k) (env (bk1 β c k)) t q).1 < 200)) hr ht hc (by omega) (fun Q2 hq2 => c122 (β := bk1 β c k) hR V2 C2 (bk1_N N1) (bk1_O O1) ht hl (by omega) (fun J2 E2 b1 b2 b3 => hq2 J2 E2 ⟨b1, b2, fun q hq => (b3 q hq).1⟩)) (fun J2 E2 Q2 hA hq2 => by
        obtain ⟨b1, b2, b3⟩ := hA
        have f1 : ∀ q, 248 ≤ q → q < 260 → J2 q = I q := fun q a b => (b1.1 q (by omega) (by omega) (by omega) (by omega)).trans (er q a b)
        have f2 : ∀ q, 248 ≤ q → q < 260 → E2 q = D q := fun q a b => (b1.2.2.2.1 q (by omega) (by omega) (by omega)).trans (ed' q a b)
        refine c149 hr ht k64 b2 b3 (by rw [f1 (248 + 3 * r) (by omega) (by omega)]; exact hrow) (by omega) ?_
        rw [f1 (248 + 3 * r + 2) (by omega) (by omega), f2 (248 + 3 * r + 1) (by omega) (by omega)]; exact hq2) (by omega) (fun J2 E2 h => h) (fun J2 E2 hA g => ?_) (fun J2 E2 hA g => ?_)
      all_goals
        obtain ⟨b1, -, -⟩ := hA
        have hF2 : FRc I D (j_u J2 109 c (I 109 c)) E2 := by
          refine hF.tr ⟨fun q q1 q2 q3 q4 => ?_, fun i hi => ?_, fun i h => absurd h (Nat.not_lt_zero _), b1.2.2.2.1, fun i h => absurd h (Nat.not_lt_zero _), fun u _ hn => absurd trivial hn⟩
          · have := b1.1 q q1 q2 q3 q4
            funext i
            by_cases e : q = 109
            · subst e
              by_cases e2 : i = c
              · subst e2; rw [j_u_same, j_u_same]
              · rw [j_u_k _ _ e2, j_u_k _ _ e2, this, j_u_k _ _ e2]
            · rw [j_u_o _ _ _ e, j_u_o _ _ _ e, this, j_u_o _ _ _ e]
          · rw [j_u_o _ _ _ (by decide), j_u_o _ _ _ (by decide), b1.2.1 i hi, j_u_o _ _ _ (by decide)]
      · have e : kN (I (248 + 3 * r + 2)) (D (248 + 3 * r + 1)) β t c (k + 1) = kN (I (248 + 3 * r + 2)) (D (248 + 3 * r + 1)) β t c k := if_neg g
        rw [← e]
        exact u150i hr (by omega) (by omega) (ih (k + 1) J2 E2 (by omega) hF2)
      · have e : kN (I (248 + 3 * r + 2)) (D (248 + 3 * r + 1)) β t c (k + 1) = kN (I (248 + 3 * r + 2)) (D (248 + 3 * r + 1)) β t c k ||| (1 <<< (nI k &&& 31)) := if_pos g
        rw [← e]
        exact u150i hr (by omega) (by omega) (ih (k + 1) J2 E2 (by omega) hF2)
  exact loop 6 0 I D rfl (by rw [ju_id']; exact GF.refl)
theorem c278 (hV : BV β) (hB : RB β I D) {d t r : Nat} {f : Nat → Int32} {x : Nat → UInt64} (ht : t < 6) (hr : r < 4) (hc : c < 24) (hl : bL β t = true) (h504 : I 504 r = nI (cas β t)) (hf : ∀ i, i < cas β t → I (511 + r) i = f i) (hx : ∀ i, i < cas β t → f i = 0 → D (506 + r) i = x i ∧ Fi (x i)) (hd : 90 ≤ d) (hq : ∀ J E, FRr I D J E → Q (some (.int (kN f x β t c 6))) w1 (J, E, RR R)) : j_Call d 278 [.ref 260, .int (nI t), .int (nI r), .int (nI c)] w1 (I, D, RR R) 0 0 Q := by
  refine u278e hc (by omega) ?_
  have loop : ∀ (m k : Nat) (J : Nat → Nat → Int32) (E : Nat → Nat → UInt64), m + k = 6 → FRr I D (j_u J 261 c (I 261 c)) E → j_W 278 d 0 0 0 0 14 [some (.ref 260), some (.int (nI t)), some (.int (nI r)), some (.int (nI c)), some (.int (I 261 c)), some (.int (kN f x β t c k)), some (.int (nI k))] [] w1 (J, E, RR R) Q := by
    intro m
    induction m with
    | zero =>
      intro k J E hk hF
      have hk6 : k = 6 := by omega
      subst hk6
      exact u278h hc (by decide) (by omega) (fun _ => hq _ _ hF) (fun h => absurd (Nat.le_refl _) h)
    | succ m ih =>
      intro k J E hk hF
      refine u278h hc (by omega) (by omega) (fun h => absurd h (by omega)) (fun _ => ?_)
      have V2 := bk1_V (c := c) (k := k) hV (by omega)
      have B2 : RB (bk1 β c k) (j_u J 261 c (nI k)) E := bk1_R (hF.rb hB) (fun q hq => by funext i; rw [j_u_o _ _ _ hq, j_u_o _ _ _ hq]) (fun i hi => by rw [j_u_k _ _ hi, j_u_k _ _ hi]) (j_u_same _ _ _ _)
      have er : ∀ q, ¬ qI 0 q → q ≠ 261 → j_u J 261 c (nI k) q = I q := fun q a b => by
        rw [← hF.1 q a]; funext i; rw [j_u_o _ _ _ b, j_u_o _ _ _ b]
      refine u278c (v := oth f x (csV (bk1 β c k) (env (bk1 β c k)) t) (cas β t) 0) (AP := fun J2 E2 => FRr (j_u J 261 c (nI k)) E J2 E2) hc (by omega) (fun Q2 hq2 => c277 (β := bk1 β c k) (η := env (bk1 β c k)) V2 B2.st B2.inp ht hr hl (by rw [er 504 (by unfold qI; omega) (by decide)]; exact h504) (fun i hi => by rw [er (511 + r) (by unfold qI; omega) (by omega)]; exact hf i hi) (fun i hi h0 => by rw [hF.2.2 (506 + r) (by unfold qD; omega)]; exact hx i hi h0) (by omega) (fun J2 E2 b1 => hq2 J2 E2 b1)) (by omega) (fun J2 E2 b1 g => ?_) (fun J2 E2 b1 g => ?_)
      all_goals
        have hF2 : FRr I D (j_u J2 261 c (I 261 c)) E2 := by
          refine hF.tr ⟨fun q q1 => ?_, fun i i1 i2 i3 i4 => ?_, b1.2.2⟩
          · have := b1.1 q q1
            funext i
            by_cases e : q = 261
            · subst e
              by_cases e2 : i = c
              · subst e2; rw [j_u_same, j_u_same]
              · rw [j_u_k _ _ e2, j_u_k _ _ e2, this, j_u_k _ _ e2]
            · rw [j_u_o _ _ _ e, j_u_o _ _ _ e, this, j_u_o _ _ _ e]
          · rw [j_u_o _ _ _ (by decide), j_u_o _ _ _ (by decide), b1.2.1 i i1 i2 i3 i4, j_u_o _ _ _ (by decide)]
      · have e : kN f x β t c (k + 1) = kN f x β t c k := if_neg g
        rw [← e]
        exact u278i (by omega) (by omega) (ih (k + 1) J2 E2 (by omega) hF2)
      · have e : kN f x β t c (k + 1) = kN f x β t c k ||| (1 <<< (nI k &&& 31)) := if_pos g
        rw [← e]
        exact u278i (by omega) (by omega) (ih (k + 1) J2 E2 (by omega) hF2)
  exact loop 6 0 I D rfl (by rw [ju_id']; exact FRr.refl)
end BK
