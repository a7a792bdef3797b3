/-! learning, where a formula's cell may still hold a number -/
def BVw (β : Bd) : Prop :=
  (∀ c, c < 24 → bK β c < 6 ∧ bZ β c ≤ 96 ∧ True ∧ (bF β c = true → okB (bX β c)) ∧ stOK (bZ β c) (bS β c)) ∧
  (∀ t, t < 6 → bL β t = true → bO β t < 24 ∧ b1 β t < 24 ∧ bZ β (b1 β t) = 0 ∧ (∀ o, b2 β t = some o → o < 24 ∧ o ≠ b1 β t ∧ bZ β o = 0) ∧ 1 ≤ bm β t ∧ bm β t ≤ 8 ∧ (b2 β t = none → bn β t = 0) ∧ (b2 β t ≠ none → 1 ≤ bn β t) ∧ bn β t ≤ 8 ∧ (∀ k, k < bm β t → Sm (bA β (2 * t) k)) ∧ (∀ k, k < bn β t → Sm (bA β (2 * t + 1) k))) ∧ acyc β
theorem BV.w {β : Bd} (h : BV β) : BVw β := ⟨fun c hc => by obtain ⟨a, b, -, d, e⟩ := h.1 c hc; exact ⟨a, b, trivial, d, e⟩, h.2.1, h.2.2⟩
section LW
variable {d : Nat} {I : Nat → Nat → Int32} {D : Nat → Nat → UInt64} {R : Nat → Nat → Option Nat} {Q : j_Po} {β β2 : Bd} {c : Nat}
theorem CB.edsw {β : Bd} {I : Nat → Nat → Int32} {D : Nat → Nat → UInt64} {R : Nat → Nat → Option Nat} (h : CB β I D R) (hV : BVw β) : ∀ u, u < 30 → ∀ v, v < 32 → bt (nby I R u) v = ed β u v := by
  intro u hu v hv
  unfold nby ed
  by_cases hc : u < 24
  · rw [if_pos hc, if_pos hc]
    exact (h.1 u hc).2.2.2.2.2.2.1 v hv
  · rw [if_neg hc, if_neg hc]
    have ht : u - 24 < 6 := by omega
    obtain ⟨g1, g2⟩ := h.2 (u - 24) ht
    cases hl : bL β (u - 24) with
    | false =>
      rw [hl] at g1
      rw [if_pos (show I (go R (u - 24)) 0 = 0 from g1), b_0, Bool.false_and]
    | true =>
      rw [hl] at g1
      obtain ⟨g3, -⟩ := g2 hl
      have ho := (hV.2.1 (u - 24) ht hl).1
      rw [if_neg (by rw [show I (go R (u - 24)) 0 = 1 from g1]; decide), g3, bt_one (by omega) hv, Bool.true_and]
theorem ed_ltw {β : Bd} (hV : BVw β) {u v : Nat} (hu : u < 30) (h : ed β u v = true) : v < 30 := by
  unfold ed at h
  split at h
  · rename_i hc
    have hs := (hV.1 u hc).2.2.2.2.1
    have : ∀ z, z ≤ bZ β u → nmB z (bS β u) v = true → v < 30 := by
      intro z
      induction z with
      | zero => intro _ h; cases h
      | succ z ih =>
        intro hz h
        rw [nmB, Bool.or_eq_true] at h
        rcases h with h | h
        · exact ih (by omega) h
        · obtain ⟨-, -, a3, -, a5⟩ := (hs z (by omega)).1
          unfold stN at h
          simp only [Bool.or_eq_true, decide_eq_true_eq] at h
          rcases h with ⟨b1, b2⟩ | ⟨b1, b2⟩
          · have := a3 b1; omega
          · have := a5 b1; omega
    exact this _ (Nat.le_refl _) h
  · rename_i hc
    simp only [Bool.and_eq_true, decide_eq_true_eq] at h
    have := (hV.2.1 (u - 24) (by omega) h.1).1
    omega
theorem vry_bw {β : Bd} {I : Nat → Nat → Int32} {D : Nat → Nat → UInt64} {t g v : Nat} (hV : BVw β) (ht : t < 6) (hg : GR β t I D g) (hl : bL β t = true) (hv : v < 32) : bt (vry I g) v = vr β t v := by
  obtain ⟨-, g2⟩ := hg
  obtain ⟨-, e1, e2, -⟩ := g2 hl
  obtain ⟨-, l1, -, l2, -⟩ := hV.2.1 t ht hl
  unfold vry vr
  rw [e1, e2]
  cases ho : b2 β t with
  | none =>
    rw [if_pos (by rfl), bt_one (by omega) hv]
    simp
  | some o =>
    have := (l2 o ho).1
    have hne : ¬ oI (some o) = -1 := by
      show ¬ nI o = -1
      intro e
      have h1 := nI_toInt (n := o) (by omega)
      rw [e] at h1
      have : (-1 : Int32).toInt = -1 := by decide
      omega
    rw [if_neg hne, b_or, bt_one (by omega) hv]
    show (_ || bt (1 <<< (nI o &&& 31)) v) = _
    rw [bt_one (by omega) hv]
    congr 1
    by_cases e : v = o
    · subst e; simp
    · rw [decide_eq_false e, decide_eq_false (fun h => e (Option.some.inj h).symm)]
theorem l27bw (hR : WFR R) (hd : 1 ≤ d) (hc : c < 24) {f : Nat} (hf : isF f) (hV : BVw β) (hC : CB β I D R) (hB : NB I) (ht : ∀ t, t < 6 → I (f + 2) t = nI (tmB β c t)) {x : Int32} {Y : Nat → Bool}
    (hq : ∀ y, (∀ v, v < 32 → bt y v = (Y v || zB β I c 6 v)) → Q none w1 (j_u (j_u (j_u (j_u I 206 c x) 207 c y) 209 c (nI (min 2001 (1 + sB β I c 6)))) 208 c (nI (min 2001 (sumN 24 fun k => if bt x k = true then (if k = c then min 2001 (1 + sB β I c 6) else shr I k) else 0))), D, RR R)) :
    ∀ (n k : Nat) (y : Int32), n + k = 6 → (∀ v, v < 32 → bt y v = (Y v || zB β I c k v)) →
    j_W 27 d 0 0 0 0 76 [some (.ref 204), some (.ref 108), some (.int (nI c)), some (.ref f), some (.int x), some (.int y), some (.int (nI (min 2001 (1 + sB β I c k)))), some (.int (nI k)), none, none] [] w1 (I, D, RR R) Q := by
  intro n
  induction n with
  | zero =>
    intro k y hk h1
    have : k = 6 := by omega
    subst this
    refine s27b hR hc hf (by omega) hd (fun _ => ?_) (fun h => absurd (by omega) h) (fun h => absurd (by omega) h) (fun h => absurd (by omega) h) (fun h => absurd (by omega) h)
    have hsh : ∀ k, shr (j_u (j_u (j_u I 206 c x) 207 c y) 209 c (nI (min 2001 (1 + sB β I c 6)))) k = if k = c then min 2001 (1 + sB β I c 6) else shr I k := by
      intro k
      unfold shr
      by_cases e : k = c
      · subst e; rw [j_u_same, if_pos rfl, nI_clamp (by omega)]
      · rw [j_u_k _ _ e, j_u_o _ _ _ (by decide), j_u_o _ _ _ (by decide), if_neg e]
    have e0 := l27c (d := d) (D := D) (R := R) (Q := Q) (x := x) (I := j_u (j_u (j_u I 206 c x) 207 c y) 209 c (nI (min 2001 (1 + sB β I c 6)))) hd hc (fun k hk => ?_) ?_ 24 0 rfl
    · exact e0
    · rw [hsh k]
      by_cases e : k = c
      · subst e; rw [j_u_same, if_pos rfl]; exact ⟨rfl, by omega⟩
      · rw [j_u_k _ _ e, j_u_o _ _ _ (by decide), j_u_o _ _ _ (by decide), if_neg e]; exact hB.2 k hk
    · have : (fun k => if bt x k = true then shr (j_u (j_u (j_u I 206 c x) 207 c y) 209 c (nI (min 2001 (1 + sB β I c 6)))) k else 0) = fun k => if bt x k = true then (if k = c then min 2001 (1 + sB β I c 6) else shr I k) else 0 := funext fun k => by rw [hsh k]
      rw [this]
      exact hq y h1
  | succ n ih =>
    intro k y hk h1
    have hk6 : k < 6 := by omega
    have hG := hC.2 k hk6
    have t31 : tmB β c k < 2 ^ 31 := Nat.lt_of_le_of_lt (tmN_le _) (by have := (hV.1 c hc).2.1; omega)
    have skip : (¬ (0 < tmB β c k) ∨ bL β k = false) → j_W 27 d 0 0 0 0 76 [some (.ref 204), some (.ref 108), some (.int (nI c)), some (.ref f), some (.int x), some (.int y), some (.int (nI (min 2001 (1 + sB β I c k)))), some (.int (nI (k + 1))), none, none] [] w1 (I, D, RR R) Q := by
      intro h
      have e1 : sB β I c (k + 1) = sB β I c k := by
        unfold sB
        rw [sumN]
        rcases h with h | h
        · have : tmB β c k = 0 := by omega
          rw [this, Nat.zero_mul, ite_self, Nat.add_zero]
        · rw [h, if_neg (by decide), Nat.add_zero]
      have e2 : ∀ v, zB β I c (k + 1) v = zB β I c k v := by
        intro v
        unfold zB
        rw [anyB]
        rcases h with h | h
        · rw [decide_eq_false h, Bool.false_and, Bool.false_and, Bool.or_false]
        · rw [h, Bool.and_false, Bool.false_and, Bool.or_false]
      have := ih (k + 1) y (by omega) (fun v hv => by rw [e2]; exact h1 v hv)
      rw [e1] at this
      exact this
    have lay : ¬ (I ((R 113 k).getD 0) 0) = 0 → bL β k = true := fun h => by
      cases hl : bL β k with
      | true => rfl
      | false => exact absurd (by have := hG.1; rw [hl] at this; exact this) h
    refine s27b hR hc hf (by omega) hd (fun h => absurd h (by omega)) (fun _ g => skip (Or.inl ?_)) (fun _ g g2 => ?_) (fun _ g g2 => ?_) (fun _ g g2 => skip (Or.inr ?_))
    · rw [ht k hk6] at g
      rw [(nI_eq (b := 0) t31 (by decide)).mp g]; omega
    · obtain ⟨e1, -⟩ := hG.2 (lay g2)
      rw [show I ((R 113 k).getD 0) 1 = nI (bO β k) from e1]
      exact vp_in_nI (hV.2.1 k hk6 (lay g2)).1 (by decide)
    · have hl := lay g2
      obtain ⟨e1, -⟩ := hG.2 hl
      have ho := (hV.2.1 k hk6 hl).1
      have htm : 0 < tmB β c k := by
        rw [ht k hk6] at g
        rcases Nat.eq_zero_or_pos (tmB β c k) with h | h
        · rw [h] at g; exact absurd rfl g
        · exact h
      have t96 : tmB β c k ≤ 96 := Nat.le_trans (tmN_le _) (hV.1 c hc).2.1
      obtain ⟨b1', b2'⟩ := hB.1 (24 + k) (by omega)
      rw [show I ((R 113 k).getD 0) 1 = nI (bO β k) from e1, nI_clamp (by omega), ht k hk6, b1', nI_l t31, nI_l (by omega), nI_l (by omega), lN_mul, lN_add]
      have hp : tmB β c k * bu I (24 + k) ≤ 96 * 2001 := Nat.mul_le_mul t96 b2'
      rw [cl26_n (by omega)]
      have e3 : min 2001 (tmB β c k * bu I (24 + k) + min 2001 (1 + sB β I c k)) = min 2001 (1 + sB β I c (k + 1)) := by
        have : sB β I c (k + 1) = sB β I c k + tmB β c k * bu I (24 + k) := by
          unfold sB
          rw [sumN, if_pos hl]
        rw [this]
        generalize tmB β c k * bu I (24 + k) = p
        omega
      rw [e3]
      refine ih (k + 1) _ (by omega) (fun v hv => ?_)
      rw [b_or, h1 v hv, b_and, bt_not _ hv, vry_bw hV hk6 hG hl hv]
      unfold zB
      rw [anyB, decide_eq_true htm, hl, Bool.true_and, Bool.true_and, Bool.or_assoc]
    · have := hG.1
      rw [show I (go R k) 0 = 0 from g2] at this
      cases hl : bL β k with
      | false => rfl
      | true => rw [hl] at this; exact absurd this (by decide)
theorem c27w (hR : WFR R) (hd : 1 ≤ d) (hc : c < 24) (hV : BVw β) (hC : CB β I D R) (hB : NB I)
    (hq : ∀ x y, (∀ v, v < 32 → bt x v = xB β I c 24 v) → (∀ v, v < 32 → bt y v = (yB β I c 24 v || zB β I c 6 v)) → Q none w1 (j_u (j_u (j_u (j_u I 206 c x) 207 c y) 209 c (nI (min 2001 (1 + sB β I c 6)))) 208 c (nI (min 2001 (sumN 24 fun k => if bt x k = true then (if k = c then min 2001 (1 + sB β I c 6) else shr I k) else 0))), D, RR R)) :
    j_Call d 27 [.ref 204, .ref 108, .int (nI c)] w1 (I, D, RR R) 0 0 Q := by
  have hF := (hC.1 c hc).2.2.2.2
  have hf := (hR.f c hc).2
  refine s27e hR hc hd ?_
  refine l27a (β := β) hR hd hc hf hF.2.2.1 (fun x y hx hy => ?_) 24 0 _ _ rfl (fun v hv => ?_) (fun v hv => ?_)
  · have e1 : (nI (min 2001 (1 + sB β I c 0)) : Int32) = 1 := rfl
    have := l27bw (d := d) (Q := Q) (x := x) (Y := yB β I c 24) hR hd hc hf hV hC hB hF.2.2.2 (fun y hy => hq x y hx hy) 6 0 y rfl (fun v hv => by rw [hy v hv]; unfold zB anyB; rw [Bool.or_false])
    rw [e1] at this
    exact this
  · rw [bt_one (by omega) hv]; unfold xB anyB; rw [Bool.or_false]
  · rw [b_0]; rfl
theorem c23w {t : Nat} (hR : WFR R) (hd : 2 ≤ d) (ht : t < 6) (hV : BVw β) (hC : CB β I D R) (hB : NB I) (hq : Q none w1 (j_u I 208 (24 + t) (nI (if bL β t = true then min 2001 (bu I (bO β t) * cas β t) else 0)), D, RR R)) : j_Call d 23 [.ref 204, .ref 108, .int (nI t)] w1 (I, D, RR R) 0 0 Q := by
  have hG := hC.2 t ht
  have lay : ¬ (I ((R 113 t).getD 0) 0) = 0 → bL β t = true := fun h => by
    cases hl : bL β t with
    | true => rfl
    | false => exact absurd (by have := hG.1; rw [hl] at this; exact this) h
  have key : ∀ (hl : bL β t = true) (y : Int32), I ((R 113 t).getD 0) 4 * y = nI (cas β t) → Q none w1 ((j_u I 208 (24 + t) (cl26 ((((I 208 ((I ((R 113 t).getD 0) 1).toNatClampNeg)) : Int32).toInt64) * ((((I ((R 113 t).getD 0) 4) * y) : Int32).toInt64)))), D, RR R) := by
    intro hl y hy
    obtain ⟨e1, -⟩ := hG.2 hl
    obtain ⟨ho, -, -, -, m1, m2, -, -, n2, -⟩ := hV.2.1 t ht hl
    obtain ⟨b1', b2'⟩ := hB.1 (bO β t) (by omega)
    have hcas : cas β t ≤ 64 := by
      unfold cas
      have : (if b2 β t = none then 1 else bn β t) ≤ 8 := by split <;> omega
      exact Nat.mul_le_mul m2 this
    rw [hy, show I ((R 113 t).getD 0) 1 = nI (bO β t) from e1, nI_clamp (by omega), b1', nI_l (by omega), nI_l (by omega), lN_mul, cl26_n (by
      have := Nat.mul_le_mul b2' hcas
      omega)]
    rw [if_pos hl] at hq
    exact hq
  refine s23 hR ht hd (fun g => ?_) (fun g => ?_) (fun g g2 => ?_) (fun g g2 => ?_)
  · cases hl : bL β t with
    | true =>
      have := hG.1
      rw [hl, show I (go R t) 0 = 0 from g] at this
      exact absurd this (by decide)
    | false => rw [hl, if_neg (by decide)] at hq; exact hq
  · obtain ⟨e1, -⟩ := hG.2 (lay g)
    rw [show I ((R 113 t).getD 0) 1 = nI (bO β t) from e1]
    exact vp_in_nI (by have := (hV.2.1 t ht (lay g)).1; omega) (by decide)
  · have hl := lay g
    obtain ⟨-, -, -, e4, e5, -⟩ := hG.2 hl
    obtain ⟨-, -, -, -, m1, m2, n0, n1, n2, -⟩ := hV.2.1 t ht hl
    refine key hl 1 ?_
    rw [show I ((R 113 t).getD 0) 4 = nI (bm β t) from e4, show (1 : Int32) = nI 1 from rfl, pk_mul]
    rw [show I ((R 113 t).getD 0) 5 = nI (bn β t) from e5] at g2
    have : bn β t = 0 := by
      rcases Nat.eq_zero_or_pos (bn β t) with h | h
      · exact h
      · exact absurd g2 (nI_nle h (by omega))
    unfold cas
    by_cases ho : b2 β t = none
    · rw [if_pos ho]
    · have := n1 ho; omega
  · have hl := lay g
    obtain ⟨-, -, -, e4, e5, -⟩ := hG.2 hl
    obtain ⟨-, -, -, -, m1, m2, n0, n1, n2, -⟩ := hV.2.1 t ht hl
    refine key hl _ ?_
    rw [show I ((R 113 t).getD 0) 4 = nI (bm β t) from e4, show I ((R 113 t).getD 0) 5 = nI (bn β t) from e5, pk_mul]
    rw [show I ((R 113 t).getD 0) 5 = nI (bn β t) from e5] at g2
    unfold cas
    rw [if_neg (fun ho => g2 (by rw [n0 ho]; decide))]
set_option maxRecDepth 10000 in
set_option maxHeartbeats 4000000 in
theorem s19ew {d : Nat} {I : Nat → Nat → Int32} {D : Nat → Nat → UInt64} {R : Nat → Nat → Option Nat} {Q : j_Po}  {β : Bd} (hR : WFR R) (hV : BVw β) (hC : CB β I D R) (hB : NB I) (hE : ∀ u, u < 30 → ∀ v, v < 32 → bt (nby I R u) v = ed β u v) (hA : acyc β) (hL : ∀ u v, u < 30 → ed β u v = true → v < 30) (hd : 3 ≤ d)
    (v1 : ∀ J : Nat → Nat → Int32, ∀ o : Nat → Nat, (∀ o', o' ≠ 205 → J o' = I o') → (Ord (ed β) o 30 J) → (∀ v, v < 30 → ∃ k, k < 30 ∧ o k = v) → j_W 19 d 0 0 0 0 7 [some (.ref 204), some (.ref 108), some (.int 0), none] [] w1 (J, D, RR R) Q) : j_Call d 19 [.ref 204, .ref 108] w1 (I, D, RR R) 0 0 Q := by
  refine q_enter (L := [some (.ref 204), some (.ref 108), none, none]) j_m19 (Nat.le_of_ble_eq_true rfl) rfl ?_
  refine q_aload_n d19_0 rfl ?_
  refine q_aload_n d19_1 rfl ?_
  refine q_invV (o := 204) (ci := 4) (av := [.ref 108]) (rest := []) (d' := 1) (mc' := 0) (ms' := 0) d19_2 (cv4_63 19 rfl) rfl (by decide) rfl rfl (by omega) (Nat.le_of_ble_eq_true rfl) (Nat.le_of_ble_eq_true rfl) (lt_w1 rfl) sh204 (Nat.le_refl _) (Nat.le_refl _) ?_
  refine c20 (E := ed β) hR (Nat.le_refl _) hE hA hL  (fun J o j1 j2 j3 => ?_)
  show j_W 19 d 0 0 0 0 5 [some (.ref 204), some (.ref 108), none, none] [] w1 (J, D, RR R) Q
  refine q_iconst (v := 0) (by decide) d19_5 ?_
  refine q_istore_n (L' := [some (.ref 204), some (.ref 108), some (.int 0), none]) d19_6 (Nat.le_of_ble_eq_true rfl) rfl ?_
  exact r_sub (L' := [some (.ref 204), some (.ref 108), some (.int 0), none]) ⟨rfl, rfl, rfl, trivial⟩ (v1 J o j1 j2 j3)

set_option maxRecDepth 10000 in
set_option maxHeartbeats 4000000 in
theorem s19hw {d : Nat} {I : Nat → Nat → Int32} {D : Nat → Nat → UInt64} {R : Nat → Nat → Option Nat} {Q : j_Po} {k : Nat} {β : Bd} {n : Nat} (hR : WFR R) (hV : BVw β) (hC : CB β I D R) (hB : NB I) (hk : k ≤ 30) (hn : k < 30 → I 205 k = nI n) (hn30 : n < 30) (hd : 3 ≤ d)
    (v1 : (30 ≤ k) → Q none w1 (I, D, RR R))
    (v2 : (¬ 30 ≤ k) → (n < 24) → ((I ((R 112 n).getD 0) 1) ≤ 0) → j_W 19 d 0 0 0 0 7 [some (.ref 204), some (.ref 108), some (.int (nI (k + 1))), none] [] w1 ((j_u (j_u (j_u (j_u I 206 n (1 <<< ((nI n) &&& 31))) 207 n (1 <<< ((nI n) &&& 31))) 208 n 0) 209 n 0), D, RR R) Q)
    (v3 : (¬ 30 ≤ k) → (n < 24) → (¬ (I ((R 112 n).getD 0) 1) ≤ 0) → ∀ x : Int32, ∀ y : Int32, (∀ v, v < 32 → bt x v = xB β I n 24 v) → (∀ v, v < 32 → bt y v = (yB β I n 24 v || zB β I n 6 v)) → j_W 19 d 0 0 0 0 7 [some (.ref 204), some (.ref 108), some (.int (nI (k + 1))), none] [] w1 ((j_u (j_u (j_u (j_u I 206 n x) 207 n y) 209 n (nI (min 2001 (1 + sB β I n 6)))) 208 n (nI (min 2001 (sumN 24 fun k => if bt x k = true then (if k = n then min 2001 (1 + sB β I n 6) else shr I k) else 0)))), D, RR R) Q)
    (v4 : (¬ 30 ≤ k) → (¬ n < 24) → j_W 19 d 0 0 0 0 7 [some (.ref 204), some (.ref 108), some (.int (nI (k + 1))), none] [] w1 ((j_u I 208 (24 + (n - 24)) (nI (if bL β (n - 24) = true then min 2001 (bu I (bO β (n - 24)) * cas β (n - 24)) else 0))), D, RR R) Q) : j_W 19 d 0 0 0 0 7 [some (.ref 204), some (.ref 108), some (.int (nI k)), none] [] w1 (I, D, RR R) Q := by
  refine q_iload_n d19_7 rfl ?_
  refine q_bipush (v := 30) (by decide) d19_8 ?_
  refine q_icmp_ge (tgt := 66) d19_10 rfl (fun h1t => ?_) (fun h1f => ?_)
  ·
    have h1tc : 30 ≤ k := (nI_leI (by omega) (by omega)).mp h1t
    exact q_ret d19_66 rfl (Nat.le_refl _) (Nat.le_refl _) (v1 h1tc)
  ·
    have h1fc : ¬ 30 ≤ k := mt (nI_leI (by omega) (by omega)).mpr h1f
    refine q_aload_n d19_13 rfl ?_
    refine q_getR (x := 205) d19_14 (fs4_9 19 rfl) rfl (lt_w1 rfl) sh204 (rs204_0 R) (by decide) ?_
    refine q_iload_n d19_17 rfl ?_
    refine q_iaload (a := k) d19_18 (lt_w1 rfl) sh205 rfl (by omega) ?_
    refine r_int (y := nI n) (hn (by omega)) ?_
    refine q_istore_n (L' := [some (.ref 204), some (.ref 108), some (.int (nI k)), some (.int (nI n))]) d19_19 (Nat.le_of_ble_eq_true rfl) rfl ?_
    refine q_iload_n d19_20 rfl ?_
    refine q_bipush (v := 24) (by decide) d19_21 ?_
    refine q_icmp_lt (tgt := 38) d19_23 rfl (fun h2t => ?_) (fun h2f => ?_)
    ·
      have h2tc : n < 24 := (nI_ltI (by omega) (by omega)).mp h2t
      refine q_aload_n d19_38 rfl ?_
      refine q_iload_n d19_39 rfl ?_
      refine q_invV (o := 108) (ci := 0) (av := [.int (nI n)]) (rest := []) (d' := 0) (mc' := 0) (ms' := 0) d19_40 (cv4_71 19 rfl) rfl (by decide) rfl rfl (by omega) (Nat.le_of_ble_eq_true rfl) (Nat.le_of_ble_eq_true rfl) (lt_w1 rfl) sh108 (Nat.le_refl _) (Nat.le_refl _) ?_
      refine s14 (k := n) hR (by first | omega | decide) (Nat.le_refl _) (fun c3 => ?_) (fun c4 => ?_)
      ·
        show j_W 19 d 0 0 0 0 43 [some (.ref 204), some (.ref 108), some (.int (nI k)), some (.int (nI n))] [.int 0] w1 (I, D, RR R) Q
        refine q_if_eq (tgt := 55) d19_43 rfl (fun _ => ?_) (fun h => absurd h (by decide))
        refine q_aload_n d19_55 rfl ?_
        refine q_iload_n d19_56 rfl ?_
        refine q_invV (o := 204) (ci := 4) (av := [.int (nI n)]) (rest := []) (d' := 0) (mc' := 0) (ms' := 0) d19_57 (cv4_78 19 rfl) rfl (by decide) rfl rfl (by omega) (Nat.le_of_ble_eq_true rfl) (Nat.le_of_ble_eq_true rfl) (lt_w1 rfl) sh204 (Nat.le_refl _) (Nat.le_refl _) ?_
        refine s29 (k := n) (by first | omega | decide) (Nat.le_refl _) ?_
        show j_W 19 d 0 0 0 0 60 [some (.ref 204), some (.ref 108), some (.int (nI k)), some (.int (nI n))] [] w1 ((j_u (j_u (j_u (j_u I 206 n (1 <<< ((nI n) &&& 31))) 207 n (1 <<< ((nI n) &&& 31))) 208 n 0) 209 n 0), D, RR R) Q
        refine q_iinc (L' := [some (.ref 204), some (.ref 108), some (.int (nI (k + 1))), some (.int (nI n))]) (v := (nI (k + 1))) d19_60 rfl (nI_inc _) rfl ?_
        refine q_goto (tgt := 7) d19_63 rfl ?_
        exact r_sub (L' := [some (.ref 204), some (.ref 108), some (.int (nI (k + 1))), none]) ⟨rfl, rfl, rfl, trivial⟩ (v2 h1fc h2tc c3)
      ·
        show j_W 19 d 0 0 0 0 43 [some (.ref 204), some (.ref 108), some (.int (nI k)), some (.int (nI n))] [.int 1] w1 (I, D, RR R) Q
        refine q_if_eq (tgt := 55) d19_43 rfl (fun h => absurd h (by decide)) (fun _ => ?_)
        refine q_aload_n d19_46 rfl ?_
        refine q_aload_n d19_47 rfl ?_
        refine q_iload_n d19_48 rfl ?_
        refine q_invV (o := 204) (ci := 4) (av := [.ref 108, .int (nI n)]) (rest := []) (d' := 1) (mc' := 0) (ms' := 0) d19_49 (cv4_75 19 rfl) rfl (by decide) rfl rfl (by omega) (Nat.le_of_ble_eq_true rfl) (Nat.le_of_ble_eq_true rfl) (lt_w1 rfl) sh204 (Nat.le_refl _) (Nat.le_refl _) ?_
        refine c27w hR (Nat.le_refl _) (by omega) hV hC hB  (fun x y hx hy => ?_)
        show j_W 19 d 0 0 0 0 52 [some (.ref 204), some (.ref 108), some (.int (nI k)), some (.int (nI n))] [] w1 ((j_u (j_u (j_u (j_u I 206 n x) 207 n y) 209 n (nI (min 2001 (1 + sB β I n 6)))) 208 n (nI (min 2001 (sumN 24 fun k => if bt x k = true then (if k = n then min 2001 (1 + sB β I n 6) else shr I k) else 0)))), D, RR R) Q
        refine q_goto (tgt := 60) d19_52 rfl ?_
        refine q_iinc (L' := [some (.ref 204), some (.ref 108), some (.int (nI (k + 1))), some (.int (nI n))]) (v := (nI (k + 1))) d19_60 rfl (nI_inc _) rfl ?_
        refine q_goto (tgt := 7) d19_63 rfl ?_
        exact r_sub (L' := [some (.ref 204), some (.ref 108), some (.int (nI (k + 1))), none]) ⟨rfl, rfl, rfl, trivial⟩ (v3 h1fc h2tc c4 x y hx hy)
    ·
      have h2fc : ¬ n < 24 := mt (nI_ltI (by omega) (by omega)).mpr h2f
      refine q_aload_n d19_26 rfl ?_
      refine q_aload_n d19_27 rfl ?_
      refine q_iload_n d19_28 rfl ?_
      refine q_bipush (v := 24) (by decide) d19_29 ?_
      refine q_isub d19_31 ?_
      refine r_int (y := (nI (n - 24))) (pk_sub (b := 24) (by omega)) ?_
      refine q_invV (o := 204) (ci := 4) (av := [.ref 108, .int (nI (n - 24))]) (rest := []) (d' := 2) (mc' := 0) (ms' := 0) d19_32 (cv4_67 19 rfl) rfl (by decide) rfl rfl (by omega) (Nat.le_of_ble_eq_true rfl) (Nat.le_of_ble_eq_true rfl) (lt_w1 rfl) sh204 (Nat.le_refl _) (Nat.le_refl _) ?_
      refine c23w hR (Nat.le_refl _) (by omega) hV hC hB  ?_
      show j_W 19 d 0 0 0 0 35 [some (.ref 204), some (.ref 108), some (.int (nI k)), some (.int (nI n))] [] w1 ((j_u I 208 (24 + (n - 24)) (nI (if bL β (n - 24) = true then min 2001 (bu I (bO β (n - 24)) * cas β (n - 24)) else 0))), D, RR R) Q
      refine q_goto (tgt := 60) d19_35 rfl ?_
      refine q_iinc (L' := [some (.ref 204), some (.ref 108), some (.int (nI (k + 1))), some (.int (nI n))]) (v := (nI (k + 1))) d19_60 rfl (nI_inc _) rfl ?_
      refine q_goto (tgt := 7) d19_63 rfl ?_
      exact r_sub (L' := [some (.ref 204), some (.ref 108), some (.int (nI (k + 1))), none]) ⟨rfl, rfl, rfl, trivial⟩ (v4 h1fc h2fc)

theorem ed_tmw {β : Bd} (hV : BVw β) {c t : Nat} (hc : c < 24) (h : 0 < tmB β c t) : ed β c (24 + t) = true := by
  unfold ed
  rw [if_pos hc, tm_nm (fun k hk => ((hV.1 c hc).2.2.2.2.1 k hk).1), decide_eq_true h]
theorem LI.stepw {β : Bd} {I0 J J' : Nat → Nat → Int32} {o : Nat → Nat} {k : Nat} (h : LI β I0 o k J) (hV : BVw β) (hk : k < 30) (hB : NB J') (h5 : J' 205 = J 205) (hf : ∀ o', (o' < 205 ∨ 211 ≤ o') → J' o' = J o') (hi : ∀ o' i, i ≠ o k → J' o' i = J o' i)
    (hc : o k < 24 → NMc β J' (o k) ∧ ∀ v, v < 24 → bt (J' 206 (o k)) v = true → ∃ i, i ≤ k ∧ o i = v) (ht : 24 ≤ o k → NMt β J' (o k - 24)) : LI β I0 o (k + 1) J' := by
  obtain ⟨a1, a2, a3, a4⟩ := h
  refine ⟨⟨fun j hj => by rw [h5]; exact a1.1 j hj, a1.2.1, a1.2.2⟩, hB, fun o' ho => (hf o' ho).trans (a3 o' ho), fun j hj => ?_⟩
  rcases Nat.lt_or_ge j k with hjk | hjk
  · obtain ⟨b1, b2⟩ := a4 j hjk
    have hne : ∀ i, i ≤ j → o i ≠ o k := fun i hi e => by
      have := a1.2.2 i k (by omega) hk e
      omega
    have hoj := (a1.1 j (by omega)).2
    have tb : ∀ t, t < 6 → bL β t = true → (∃ i, i ≤ j ∧ o i = 24 + t) → bO β t ≠ o k := by
      intro t ht hl ⟨i, hi, e⟩
      obtain ⟨i', hi', e'⟩ := a1.2.1 i (by omega) (bO β t) (by have := (hV.2.1 t ht hl).1; omega) (by rw [e]; exact ed_out hl)
      rw [← e']; exact hne i' (by omega)
    refine ⟨fun hc => ?_, fun ht => ?_⟩
    · obtain ⟨c1, c2⟩ := b1 hc
      refine ⟨c1.cg (hi _ _ (hne j (Nat.le_refl _))) (hi _ _ (hne j (Nat.le_refl _))) (hi _ _ (hne j (Nat.le_refl _))) (hi _ _ (hne j (Nat.le_refl _))) (fun v hv hn => ?_) (fun t ht htm hl => ?_) (fun v hv hb => ?_), fun v hv hb => ?_⟩
      · obtain ⟨i, hi', e⟩ := a1.2.1 j (by omega) v (by omega) (by rw [ed_nm hc]; exact hn)
        have := hne i (by omega)
        rw [e] at this
        exact ⟨hi _ _ this, hi _ _ this⟩
      · obtain ⟨i, hi', e⟩ := a1.2.1 j (by omega) (24 + t) (by omega) (ed_tmw hV hc htm)
        have := hne i (by omega)
        rw [e] at this
        exact ⟨hi _ _ (tb t ht hl ⟨i, by omega, e⟩), hi _ _ this⟩
      · obtain ⟨i, hi', e⟩ := c2 v hv hb
        have := hne i hi'
        rw [e] at this
        exact hi _ _ this
      · rw [hi _ _ (hne j (Nat.le_refl _))] at hb
        exact c2 v hv hb
    · have hm := b2 ht
      unfold NMt at hm ⊢
      have e : 24 + (o j - 24) = o j := by omega
      rw [e] at hm ⊢
      rw [hi _ _ (hne j (Nat.le_refl _)), hm]
      congr 1
      cases hl : bL β (o j - 24) with
      | false => rw [if_neg (by decide), if_neg (by decide)]
      | true =>
        unfold bu
        rw [hi 208 _ (tb (o j - 24) (by omega) hl ⟨j, Nat.le_refl _, by omega⟩)]
  · have : j = k := by omega
    subst this
    exact ⟨hc, ht⟩
theorem l19hw (hR : WFR R) (hd : 3 ≤ d) (hV : BVw β) {I0 : Nat → Nat → Int32} (hC : CB β I0 D R) {o : Nat → Nat} (hq : ∀ J, LI β I0 o 30 J → Q none w1 (J, D, RR R)) :
    ∀ (n k : Nat) (J : Nat → Nat → Int32), n + k = 30 → LI β I0 o k J → j_W 19 d 0 0 0 0 7 [some (.ref 204), some (.ref 108), some (.int (nI k)), none] [] w1 (J, D, RR R) Q := by
  intro n
  induction n with
  | zero =>
    intro k J hk h
    have : k = 30 := by omega
    subst this
    have hC' : CB β J D R := hC.cg hR (fun o ho => h.2.2.1 o (by unfold CBP at ho; omega)) (fun _ _ => rfl)
    exact s19hw (n := 0) hR hV hC' h.2.1 (by omega) (fun h => absurd h (by omega)) (by omega) hd (fun _ => hq J h) (fun h => absurd (by omega) h) (fun h => absurd (by omega) h) (fun h => absurd (by omega) h)
  | succ n ih =>
    intro k J hk h
    have hk30 : k < 30 := by omega
    have hC' : CB β J D R := hC.cg hR (fun o ho => h.2.2.1 o (by unfold CBP at ho; omega)) (fun _ _ => rfl)
    obtain ⟨o1, o2⟩ := h.1.1 k hk30
    refine s19hw (n := o k) hR hV hC' h.2.1 (by omega) (fun _ => o1) o2 hd (fun h => absurd h (by omega)) (fun _ hc hz => ?_) (fun _ hc hz x y hx hy => ?_) (fun _ hc => ?_)
    · obtain ⟨z1, -⟩ := (hC'.1 (o k) hc).2.2.2.2
      have hz0 : bZ β (o k) = 0 := by
        rw [show I0 = I0 from rfl] at *
        rw [show J ((R 112 (o k)).getD 0) 1 = nI (bZ β (o k)) from z1] at hz
        rcases Nat.eq_zero_or_pos (bZ β (o k)) with h | h
        · exact h
        · exact absurd hz (nI_nle h (by have := (hV.1 (o k) hc).2.1; omega))
      refine ih (k + 1) _ (by omega) (h.stepw hV hk30 ?_ ?_ (fun o' ho => ?_) (fun o' i hi => ?_) (fun _ => ⟨⟨fun v hv => ?_, fun v hv => ?_, ?_, ?_⟩, fun v hv hb => ?_⟩) (fun h => absurd hc (by omega)))
      · refine h.2.1.put (fun v hv => ?_) (fun v hv => ?_)
        · by_cases e : v = o k
          · exact Or.inr ⟨0, by omega, by subst e; simp (disch := omega) only [j_u_o, j_u_same]; rfl⟩
          · exact Or.inl (by simp (disch := omega) only [j_u_o, j_u_k])
        · by_cases e : v = o k
          · exact Or.inr ⟨0, by omega, by subst e; simp (disch := omega) only [j_u_o, j_u_same]; rfl⟩
          · exact Or.inl (by simp (disch := omega) only [j_u_o, j_u_k])
      · funext i; simp (disch := omega) only [j_u_o]
      · funext i; simp (disch := omega) only [j_u_o]
      · rw [j_u_i _ _ hi, j_u_i _ _ hi, j_u_i _ _ hi, j_u_i _ _ hi]
      · simp (disch := omega) only [j_u_o, j_u_same]
        rw [bt_one (by omega) hv, hz0]
        simp only [any0, Bool.or_false]
      · simp (disch := omega) only [j_u_o, j_u_same]
        rw [bt_one (by omega) hv, hz0, decide_eq_true rfl, Bool.true_and]
        have ht0 : ∀ t, tmB β (o k) t = 0 := fun t => by unfold tmB; rw [hz0]; rfl
        simp only [any0, Bool.or_false, ht0, Nat.lt_irrefl, decide_false, Bool.false_and, anyF]
      · simp (disch := omega) only [j_u_same]
        rw [if_pos hz0]; rfl
      · simp (disch := omega) only [j_u_o, j_u_same]
        rw [if_pos hz0]; rfl
      · simp (disch := omega) only [j_u_o, j_u_same] at hb
        rw [bt_one (by omega) (by omega), decide_eq_true_eq] at hb
        exact ⟨k, Nat.le_refl _, hb.symm⟩
    · obtain ⟨z1, -⟩ := (hC'.1 (o k) hc).2.2.2.2
      have hz0 : ¬ bZ β (o k) = 0 := by
        rw [show J ((R 112 (o k)).getD 0) 1 = nI (bZ β (o k)) from z1] at hz
        intro e
        rw [e] at hz
        exact hz (by decide)
      have nmd : ∀ v, v < 24 → nmB (bZ β (o k)) (bS β (o k)) v = true → ∃ i, i < k ∧ o i = v ∧ v ≠ o k := fun v hv hn => by
        obtain ⟨i, hi, e⟩ := h.1.2.1 k hk30 v (by omega) (by rw [ed_nm hc]; exact hn)
        refine ⟨i, hi, e, fun e2 => ?_⟩
        have := h.1.2.2 i k (by omega) hk30 (e.trans e2)
        omega
      have tbd : ∀ t, t < 6 → 0 < tmB β (o k) t → bL β t = true → bO β t ≠ o k := fun t ht h1 hl e2 => by
        obtain ⟨i, hi, e⟩ := h.1.2.1 k hk30 (24 + t) (by omega) (ed_tmw hV hc h1)
        obtain ⟨i', hi', e'⟩ := h.1.2.1 i (by omega) (bO β t) (by have := (hV.2.1 t ht hl).1; omega) (by rw [e]; exact ed_out hl)
        have := h.1.2.2 i' k (by omega) hk30 (e'.trans e2)
        omega
      refine ih (k + 1) _ (by omega) (h.stepw hV hk30 ?_ ?_ (fun o' ho => ?_) (fun o' i hi => ?_) (fun _ => ⟨⟨fun v hv => ?_, fun v hv => ?_, ?_, ?_⟩, fun v hv hb => ?_⟩) (fun h => absurd hc (by omega)))
      · refine h.2.1.put (fun v hv => ?_) (fun v hv => ?_)
        · by_cases e : v = o k
          · exact Or.inr ⟨_, Nat.min_le_left 2001 _, by subst e; rw [j_u_same]⟩
          · exact Or.inl (by simp (disch := omega) only [j_u_o, j_u_k])
        · by_cases e : v = o k
          · exact Or.inr ⟨_, Nat.min_le_left 2001 _, by subst e; rw [j_u_o _ _ _ (by decide), j_u_same]⟩
          · exact Or.inl (by simp (disch := omega) only [j_u_o, j_u_k])
      · funext i; simp (disch := omega) only [j_u_o]
      · funext i; simp (disch := omega) only [j_u_o]
      · rw [j_u_i _ _ hi, j_u_i _ _ hi, j_u_i _ _ hi, j_u_i _ _ hi]
      · rw [j_u_o _ _ _ (by decide), j_u_o _ _ _ (by decide), j_u_o _ _ _ (by decide), j_u_same, hx v hv]
        unfold xB
        congr 1
        refine anyB_cg fun k' hk' => ?_
        cases hn : nmB (bZ β (o k)) (bS β (o k)) k' with
        | false => rw [Bool.false_and, Bool.false_and]
        | true =>
          obtain ⟨-, -, -, hne⟩ := nmd k' hk' hn
          simp (disch := omega) only [j_u_o, j_u_k]
      · rw [j_u_o _ _ _ (by decide), j_u_o _ _ _ (by decide), j_u_same, hy v hv, decide_eq_false hz0, Bool.false_and, Bool.false_or]
        unfold yB zB
        congr 1
        · refine anyB_cg fun k' hk' => ?_
          cases hn : nmB (bZ β (o k)) (bS β (o k)) k' with
          | false => rw [Bool.false_and, Bool.false_and]
          | true =>
            obtain ⟨-, -, -, hne⟩ := nmd k' hk' hn
            simp (disch := omega) only [j_u_o, j_u_k]
        · refine anyB_cg fun t ht => ?_
          by_cases h1 : 0 < tmB β (o k) t
          · cases hl : bL β t with
            | false => rw [Bool.and_false, Bool.false_and, Bool.false_and]
            | true =>
              have := tbd t ht h1 hl
              simp (disch := omega) only [j_u_o, j_u_k]
          · rw [decide_eq_false h1, Bool.false_and, Bool.false_and, Bool.false_and]
      · rw [j_u_o _ _ _ (by decide), j_u_same, if_neg hz0]
        unfold sB
        congr 3
        refine sumN_cg fun t ht => ?_
        unfold bu
        rw [j_u_k _ _ (by omega), j_u_o _ _ _ (by decide), j_u_o _ _ _ (by decide), j_u_o _ _ _ (by decide)]
      · rw [j_u_same, if_neg hz0, j_u_o _ _ _ (by decide), j_u_o _ _ _ (by decide), j_u_o _ _ _ (by decide), j_u_same]
        congr 2
        refine sumN_cg fun k' hk' => ?_
        cases hb : bt x k' with
        | false => rw [if_neg (by decide), if_neg (by decide)]
        | true =>
          unfold shr
          by_cases e : k' = o k
          · subst e
            rw [if_pos rfl, j_u_o _ _ _ (by decide), j_u_same, nI_clamp (by omega), if_pos rfl, if_pos rfl]
          · rw [if_neg e]
            simp (disch := omega) only [j_u_o, j_u_k]
      · rw [j_u_o _ _ _ (by decide), j_u_o _ _ _ (by decide), j_u_o _ _ _ (by decide), j_u_same, hx v (by omega)] at hb
        unfold xB at hb
        rw [Bool.or_eq_true, decide_eq_true_eq] at hb
        rcases hb with hb | hb
        · exact ⟨k, Nat.le_refl _, hb.symm⟩
        · obtain ⟨k', hk', h9⟩ := anyB_iff.mp hb
          rw [Bool.and_eq_true] at h9
          obtain ⟨i, hi, e, -⟩ := nmd k' hk' h9.1
          obtain ⟨i', hi', e'⟩ := ((h.2.2.2 i hi).1 (by omega)).2 v hv (by rw [e]; exact h9.2)
          exact ⟨i', by omega, e'⟩
    · rw [show 24 + (o k - 24) = o k by omega]
      refine ih (k + 1) _ (by omega) (h.stepw hV hk30 ?_ ?_ (fun o' ho => ?_) (fun o' i hi => ?_) (fun h => absurd h hc) (fun _ => ?_))
      · refine h.2.1.put (fun v hv => ?_) (fun v hv => Or.inl ?_)
        · by_cases e : v = o k
          · subst e; exact Or.inr ⟨if bL β (o k - 24) = true then min 2001 (bu J (bO β (o k - 24)) * cas β (o k - 24)) else 0, by split <;> omega, by rw [j_u_same]⟩
          · exact Or.inl (by rw [j_u_k _ _ e])
        · rw [j_u_o _ _ _ (by decide)]
      · funext i; rw [j_u_o _ _ _ (by decide)]
      · funext i; rw [j_u_o _ _ _ (by omega)]
      · exact j_u_i _ _ hi
      · unfold NMt
        rw [show 24 + (o k - 24) = o k by omega, j_u_same]
        congr 1
        cases hl : bL β (o k - 24) with
        | false => rw [if_neg (by decide), if_neg (by decide)]
        | true =>
          unfold bu
          rw [j_u_k _ _ (by have := (hV.2.1 (o k - 24) (by omega) hl).1; omega)]
theorem c19w (hR : WFR R) (hd : 3 ≤ d) (hV : BVw β) (hC : CB β I D R) (hB : NB I) (hq : ∀ J, (∀ o', (o' < 205 ∨ 211 ≤ o') → J o' = I o') → NM β J → OrdB β J → Q none w1 (J, D, RR R)) : j_Call d 19 [.ref 204, .ref 108] w1 (I, D, RR R) 0 0 Q := by
  refine s19ew hR hV hC hB (hC.edsw hV) hV.2.2 (fun u v hu h => ed_ltw hV hu h) hd (fun J o j1 j2 j3 => ?_)
  · refine l19hw hR hd hV hC (o := o) (fun K hK => hq K hK.2.2.1 ⟨fun c hc => ?_, fun t ht => ?_⟩ ⟨o, hK.1, j3⟩) 30 0 J rfl ⟨j2, ?_, fun o' ho => j1 o' (by omega), fun j hj => absurd hj (Nat.not_lt_zero j)⟩
    · obtain ⟨k, hk, e⟩ := j3 c (by omega)
      have := ((hK.2.2.2 k hk).1 (by omega)).1
      rw [e] at this; exact this
    · obtain ⟨k, hk, e⟩ := j3 (24 + t) (by omega)
      have := (hK.2.2.2 k hk).2 (by omega)
      rw [e, show 24 + t - 24 = t by omega] at this; exact this
    · unfold NB bu shr
      rw [j1 208 (by decide), j1 209 (by decide)]
      exact hB
set_option maxRecDepth 10000 in
set_option maxHeartbeats 4000000 in
theorem s102w {d : Nat} {I : Nat → Nat → Int32} {D : Nat → Nat → UInt64} {R : Nat → Nat → Option Nat} {Q : j_Po} {c : Nat} {β β2 : Bd} (hR : WFR R) (hc : c < 24) (hd : 4 ≤ d)
    (v1 : WFR (j_u R 112 c (some ((R 97 2).getD 0))))
    (v2 : 3 ≤ d - 1)
    (v3 : BVw β2)
    (v4 : CB β2 I D (j_u R 112 c (some ((R 97 2).getD 0))))
    (v5 : NB I)
    (v6 : ∀ J5 : Nat → Nat → Int32, (∀ o', (o' < 205 ∨ 211 ≤ o') → J5 o' = I o') → (NM β2 J5) → (OrdB β2 J5) → (∃ v, v < 30 ∧ ¬ J5 208 v ≤ 2000) → WFR (j_u (j_u R 112 c (some ((R 97 2).getD 0))) 112 c (some ((R 112 c).getD 0))))
    (v7 : ∀ J5 : Nat → Nat → Int32, (∀ o', (o' < 205 ∨ 211 ≤ o') → J5 o' = I o') → (NM β2 J5) → (OrdB β2 J5) → (∃ v, v < 30 ∧ ¬ J5 208 v ≤ 2000) → BVw β)
    (v8 : ∀ J5 : Nat → Nat → Int32, (∀ o', (o' < 205 ∨ 211 ≤ o') → J5 o' = I o') → (NM β2 J5) → (OrdB β2 J5) → (∃ v, v < 30 ∧ ¬ J5 208 v ≤ 2000) → CB β J5 D (j_u (j_u R 112 c (some ((R 97 2).getD 0))) 112 c (some ((R 112 c).getD 0))))
    (v9 : ∀ J5 : Nat → Nat → Int32, (∀ o', (o' < 205 ∨ 211 ≤ o') → J5 o' = I o') → (NM β2 J5) → (OrdB β2 J5) → (∃ v, v < 30 ∧ ¬ J5 208 v ≤ 2000) → NB J5)
    (v10 : ∀ J5 : Nat → Nat → Int32, (∀ o', (o' < 205 ∨ 211 ≤ o') → J5 o' = I o') → (NM β2 J5) → (OrdB β2 J5) → (∃ v, v < 30 ∧ ¬ J5 208 v ≤ 2000) → ∀ J10 : Nat → Nat → Int32, (∀ o', (o' < 205 ∨ 211 ≤ o') → J10 o' = J5 o') → (NM β J10) → (OrdB β J10) → Q (some (.int 0)) w1 (J10, D, RR (j_u (j_u R 112 c (some ((R 97 2).getD 0))) 112 c (some ((R 112 c).getD 0)))))
    (v11 : ∀ J5 : Nat → Nat → Int32, (∀ o', (o' < 205 ∨ 211 ≤ o') → J5 o' = I o') → (NM β2 J5) → (OrdB β2 J5) → (∀ v, v < 30 → J5 208 v ≤ 2000) → Q (some (.int 1)) w1 (J5, D, RR (j_u (j_u R 112 c (some ((R 97 2).getD 0))) 97 2 (some ((R 112 c).getD 0))))) : j_Call d 102 [.ref 0, .int (nI c)] w1 (I, D, RR R) 0 0 Q := by
  refine q_enter (L := [some (.ref 0), some (.int (nI c)), none]) j_m102 (Nat.le_of_ble_eq_true rfl) rfl ?_
  refine q_aload_n d102_0 rfl ?_
  refine q_getR (x := 108) d102_1 (fs9_53 102 rfl) rfl (lt_w1 rfl) sh0 (rs0_1 R) (by decide) ?_
  refine q_getR (x := 112) d102_4 (fs9_90 102 rfl) rfl (lt_w1 rfl) sh108 (rs108_3 R) (by decide) ?_
  refine q_iload_n d102_7 rfl ?_
  have g2 := hR.f c (by omega)
  refine q_aaload (c := 6) (a := c) (x := ((R 112 c).getD 0)) d102_8 (lt_w1 rfl) sh112 (by decide) rfl (by omega) ((RR_d rfl).trans g2.1) (lt1000 (isF_lt g2.2)) ?_
  refine q_astore_n (L' := [some (.ref 0), some (.int (nI c)), some (.ref ((R 112 c).getD 0))]) d102_9 (Nat.le_of_ble_eq_true rfl) (Nat.ne_of_lt (Nat.lt_trans (lt1000 (isF_lt g2.2)) (by decide))) rfl ?_
  refine q_aload_n d102_10 rfl ?_
  refine q_getR (x := 108) d102_11 (fs9_53 102 rfl) rfl (lt_w1 rfl) sh0 (rs0_1 R) (by decide) ?_
  refine q_getR (x := 112) d102_14 (fs9_90 102 rfl) rfl (lt_w1 rfl) sh108 (rs108_3 R) (by decide) ?_
  refine q_iload_n d102_17 rfl ?_
  refine q_aload_n d102_18 rfl ?_
  refine q_getR (x := 97) d102_19 (fs9_19 102 rfl) rfl (lt_w1 rfl) sh0 (rs0_5 R) (by decide) ?_
  have g4 := hR.m
  refine q_getR (x := ((R 97 2).getD 0)) d102_22 (fs9_166 102 rfl) rfl (lt_w1 rfl) sh97 ((RR_d rfl).trans g4.1) (lt1000 (isF_lt g4.2)) ?_
  refine r_aastore (c := 6) (a := c) d102_25 (lt_w1 rfl) sh112 (by decide) rfl (by omega) (isF_lt g4.2) (isF_sh g4.2) rfl ?_
  refine q_aload_n d102_26 rfl ?_
  refine q_getR (x := 204) d102_27 (fs9_58 102 rfl) rfl (lt_w1 rfl) sh0 (rs0_2 (j_u R 112 c (some ((R 97 2).getD 0)))) (by decide) ?_
  refine q_aload_n d102_30 rfl ?_
  refine q_getR (x := 108) d102_31 (fs9_53 102 rfl) rfl (lt_w1 rfl) sh0 (rs0_1 (j_u R 112 c (some ((R 97 2).getD 0)))) (by decide) ?_
  refine q_invV (o := 204) (ci := 4) (av := [.ref 108]) (rest := []) (d' := (d - 1)) (mc' := 0) (ms' := 0) d102_34 (cv9_99 102 rfl) rfl (by decide) rfl rfl (by omega) (Nat.le_of_ble_eq_true rfl) (Nat.le_of_ble_eq_true rfl) (lt_w1 rfl) sh204 (Nat.le_refl _) (Nat.le_refl _) ?_
  refine c19w (β := β2) v1 v2 v3 v4 v5 (fun J5 j6 j7 j8 => ?_)
  show j_W 102 d 0 0 0 0 37 [some (.ref 0), some (.int (nI c)), some (.ref ((R 112 c).getD 0))] [] w1 (J5, D, RR (j_u R 112 c (some ((R 97 2).getD 0)))) Q
  refine q_aload_n d102_37 rfl ?_
  refine q_getR (x := 204) d102_38 (fs9_58 102 rfl) rfl (lt_w1 rfl) sh0 (rs0_2 (j_u R 112 c (some ((R 97 2).getD 0)))) (by decide) ?_
  refine q_invV (o := 204) (ci := 4) (av := []) (rest := []) (d' := 0) (mc' := 0) (ms' := 0) d102_41 (cv9_406 102 rfl) rfl (by decide) rfl rfl (by omega) (Nat.le_of_ble_eq_true rfl) (Nat.le_of_ble_eq_true rfl) (lt_w1 rfl) sh204 (Nat.le_refl _) (Nat.le_refl _) ?_
  refine c103  (fun h9 => ?_) (fun h9 => ?_)
  ·
    show j_W 102 d 0 0 0 0 44 [some (.ref 0), some (.int (nI c)), some (.ref ((R 112 c).getD 0))] [.int 1] w1 (J5, D, RR (j_u R 112 c (some ((R 97 2).getD 0)))) Q
    refine q_if_eq (tgt := 70) d102_44 rfl (fun h => absurd h (by decide)) (fun _ => ?_)
    refine q_aload_n d102_47 rfl ?_
    refine q_getR (x := 108) d102_48 (fs9_53 102 rfl) rfl (lt_w1 rfl) sh0 (rs0_1 (j_u R 112 c (some ((R 97 2).getD 0)))) (by decide) ?_
    refine q_getR (x := 112) d102_51 (fs9_90 102 rfl) rfl (lt_w1 rfl) sh108 (rs108_3 (j_u R 112 c (some ((R 97 2).getD 0)))) (by decide) ?_
    refine q_iload_n d102_54 rfl ?_
    refine q_aload_n d102_55 rfl ?_
    refine r_aastore (c := 6) (a := c) d102_56 (lt_w1 rfl) sh112 (by decide) rfl (by omega) (isF_lt g2.2) (isF_sh g2.2) rfl ?_
    refine q_aload_n d102_57 rfl ?_
    refine q_getR (x := 204) d102_58 (fs9_58 102 rfl) rfl (lt_w1 rfl) sh0 (rs0_2 (j_u (j_u R 112 c (some ((R 97 2).getD 0))) 112 c (some ((R 112 c).getD 0)))) (by decide) ?_
    refine q_aload_n d102_61 rfl ?_
    refine q_getR (x := 108) d102_62 (fs9_53 102 rfl) rfl (lt_w1 rfl) sh0 (rs0_1 (j_u (j_u R 112 c (some ((R 97 2).getD 0))) 112 c (some ((R 112 c).getD 0)))) (by decide) ?_
    refine q_invV (o := 204) (ci := 4) (av := [.ref 108]) (rest := []) (d' := (d - 1)) (mc' := 0) (ms' := 0) d102_65 (cv9_99 102 rfl) rfl (by decide) rfl rfl (by omega) (Nat.le_of_ble_eq_true rfl) (Nat.le_of_ble_eq_true rfl) (lt_w1 rfl) sh204 (Nat.le_refl _) (Nat.le_refl _) ?_
    refine c19w (β := β) (v6 J5 j6 j7 j8 h9) v2 (v7 J5 j6 j7 j8 h9) (v8 J5 j6 j7 j8 h9) (v9 J5 j6 j7 j8 h9) (fun J10 j11 j12 j13 => ?_)
    show j_W 102 d 0 0 0 0 68 [some (.ref 0), some (.int (nI c)), some (.ref ((R 112 c).getD 0))] [] w1 (J10, D, RR (j_u (j_u R 112 c (some ((R 97 2).getD 0))) 112 c (some ((R 112 c).getD 0)))) Q
    refine q_iconst (v := 0) (by decide) d102_68 ?_
    exact q_zret d102_69 rfl (Or.inl rfl) (Nat.le_refl _) (Nat.le_refl _) (v10 J5 j6 j7 j8 h9 J10 j11 j12 j13)
  ·
    show j_W 102 d 0 0 0 0 44 [some (.ref 0), some (.int (nI c)), some (.ref ((R 112 c).getD 0))] [.int 0] w1 (J5, D, RR (j_u R 112 c (some ((R 97 2).getD 0)))) Q
    refine q_if_eq (tgt := 70) d102_44 rfl (fun _ => ?_) (fun h => absurd h (by decide))
    refine q_aload_n d102_70 rfl ?_
    refine q_getR (x := 97) d102_71 (fs9_19 102 rfl) rfl (lt_w1 rfl) sh0 (rs0_5 (j_u R 112 c (some ((R 97 2).getD 0)))) (by decide) ?_
    refine q_aload_n d102_74 rfl ?_
    refine r_putR d102_75 (fs9_166 102 rfl) (Or.inl rfl) (Or.inl ⟨_, rfl⟩) (lt1000 (isF_lt g2.2)) rfl (lt_w1 rfl) sh97 ?_
    refine q_iconst (v := 1) (by decide) d102_78 ?_
    exact q_zret d102_79 rfl (Or.inr rfl) (Nat.le_refl _) (Nat.le_refl _) (v11 J5 j6 j7 j8 h9)

theorem c102w {c : Nat} (hR : WFR R) (hc : c < 24) (hd : 5 ≤ d) (hV : BVw β) (hC : CB β I D R) (hB : NB I) (hV2 : BVw β2) (hC2 : CB β2 I D (j_u R 112 c (some (fm R))))
    (hok : ∀ J, (∀ o', (o' < 205 ∨ 211 ≤ o') → J o' = I o') → NM β2 J → OrdB β2 J → (∀ v, v < 30 → bu J v ≤ 2000) → Q (some (.int 1)) w1 (J, D, RR (j_u (j_u R 112 c (some (fm R))) 97 2 (some (fo R c)))))
    (hno : ∀ J, (∀ o', (o' < 205 ∨ 211 ≤ o') → J o' = I o') → NM β J → OrdB β J → (∃ J', NM β2 J' ∧ ∃ v, v < 30 ∧ 2000 < bu J' v) → Q (some (.int 0)) w1 (J, D, RR R)) : j_Call d 102 [.ref 0, .int (nI c)] w1 (I, D, RR R) 0 0 Q := by
  have eR : j_u (j_u R 112 c (some ((R 97 2).getD 0))) 112 c (some ((R 112 c).getD 0)) = R := j_u_back _ _ _ _ _ (hR.1 c hc).1
  refine s102w (β := β) (β2 := β2) hR hc (by omega) (hR.u112 hR.2.2.1.2) (by omega) hV2 hC2 hB (fun J j1 j2 j3 j4 => by rw [eR]; exact hR) (fun J j1 j2 j3 j4 => hV) (fun J j1 j2 j3 j4 => by rw [eR]; exact hC.cg hR (fun o ho => j1 o (by unfold CBP at ho; omega)) (fun _ _ => rfl)) (fun J j1 j2 j3 j4 => j2.nb) (fun J j1 j2 j3 j4 K k1 k2 k3 => ?_) (fun J j1 j2 j3 j4 => hok J j1 j2 j3 fun v hv => (nb_le j2.nb hv).mp (j4 v hv))
  rw [eR]
  obtain ⟨v, hv, h9⟩ := j4
  exact hno K (fun o ho => (k1 o ho).trans (j1 o ho)) k2 k3 ⟨J, j2, v, hv, Nat.lt_of_not_le fun hc => h9 ((nb_le j2.nb hv).mpr hc)⟩
end LW
