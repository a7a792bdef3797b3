/-! how often it is told at least: contracts -/
section LC
variable {β : Bd} {I : Nat → Nat → Int32} {D : Nat → Nat → UInt64} {R : Nat → Nat → Option Nat} {Q : j_Po} {d t : Nat}
theorem leB_tt {a b n : Int32} : leB true true a b n = n * a * b := rfl
theorem leB_tf {a b n : Int32} : leB true false a b n = n * a := rfl
theorem leB_ft {a b n : Int32} : leB false true a b n = n * b := rfl
theorem leB_ff {a b n : Int32} : leB false false a b n = n := rfl
theorem c126 (hd : 10 ≤ d) (hR : WFR R) (hV : BV β) {Lv : Nat → Int32} (hC : CB β I D R) (hE : LeE β (fun c v => bt (I 206 c) v) (fun c => I 207 c) Lv) (ht : t < 6) (hl : bL β t = true) (hL : ∀ c u, c < 24 → bt (I 206 (bO β t)) c = true → u < 6 → bL β u = true → 0 < tmB β c u → I 210 u = Lv u) (hq : Q none w1 (j_u I 210 t (Lv t), D, RR R)) : j_Call d 126 [.ref 204, .ref 108, .int (nI t)] w1 (I, D, RR R) 0 0 Q := by
  obtain ⟨g1, g2, g3, -⟩ := (hC.2 t ht).2 hl
  obtain ⟨v1, v2, -, v4, -⟩ := hV.2.1 t ht hl
  have hG : isG (go R t) := (hR.g t ht).2
  have last : ∀ k, k < 24 → ∀ (s n : Int32), j_W 126 d 0 0 0 0 27 [some (.ref 204), some (.ref 108), some (.int (nI t)), some (.ref (go R t)), some (.int (nI (u1V β t))), some (.int (nI (u2V β t))), some (.int (s + leB (bt (I 207 k) (b1 β t)) (rd2 β (fun c => I 207 c) t k) (nI (u1V β t)) (nI (u2V β t)) n)), some (.int (nI (k + 1))), none, none] [] w1 (I, D, RR R) Q → j_W 126 d 0 0 0 0 121 [some (.ref 204), some (.ref 108), some (.int (nI t)), some (.ref (go R t)), some (.int (nI (u1V β t))), some (.int (nI (u2V β t))), some (.int s), some (.int (nI k)), some (.int n), none] [] w1 (I, D, RR R) Q := by
    intro k hk s n hn
    cases hp : bt (I 207 k) (b1 β t) with
    | true =>
      have h1 : (¬ ((I 207 k) >>> ((nI (b1 β t)) &&& 31)) &&& 1 = 0) := (hn_t (by omega)).mpr hp
      rw [hp] at hn
      cases hb : b2 β t with
      | none =>
        rw [hb] at g3
        have e : rd2 β (fun c => I 207 c) t k = false := by unfold rd2; rw [hb]
        rw [e, leB_tf] at hn
        exact u126j hR hG hk g2 v2 (by omega) (fun _ _ => hn) (fun _ h => absurd g3 h) (fun _ h => absurd g3 h) (fun h => absurd h1 h) (fun h => absurd h1 h) (fun h => absurd h1 h)
      | some o =>
        rw [hb] at g3
        have g3 : I (go R t) 3 = nI o := g3
        have o24 := (v4 o hb).1
        have e : rd2 β (fun c => I 207 c) t k = bt (I 207 k) o := by unfold rd2; rw [hb]
        rw [e] at hn
        refine u126j hR hG hk g2 v2 (by omega) (fun _ h => absurd (g3.symm.trans h) (nI_ne_m1 (by omega))) (fun _ _ h => ?_) (fun _ _ h => ?_) (fun h => absurd h1 h) (fun h => absurd h1 h) (fun h => absurd h1 h)
        · rw [g3] at h
          rw [(hn_t (by omega)).mp h, leB_tt] at hn; exact hn
        · rw [g3] at h
          rw [(hn_0 (by omega)).mp (Classical.byContradiction h), leB_tf] at hn; exact hn
    | false =>
      have h1 : ¬ (¬ ((I 207 k) >>> ((nI (b1 β t)) &&& 31)) &&& 1 = 0) := fun h => by rw [(hn_t (by omega)).mp h] at hp; cases hp
      rw [hp] at hn
      cases hb : b2 β t with
      | none =>
        rw [hb] at g3
        have e : rd2 β (fun c => I 207 c) t k = false := by unfold rd2; rw [hb]
        rw [e, leB_ff] at hn
        exact u126j hR hG hk g2 v2 (by omega) (fun h => absurd h h1) (fun h => absurd h h1) (fun h => absurd h h1) (fun _ _ => hn) (fun _ h => absurd g3 h) (fun _ h => absurd g3 h)
      | some o =>
        rw [hb] at g3
        have g3 : I (go R t) 3 = nI o := g3
        have o24 := (v4 o hb).1
        have e : rd2 β (fun c => I 207 c) t k = bt (I 207 k) o := by unfold rd2; rw [hb]
        rw [e] at hn
        refine u126j hR hG hk g2 v2 (by omega) (fun h => absurd h h1) (fun h => absurd h h1) (fun h => absurd h h1) (fun _ h => absurd (g3.symm.trans h) (nI_ne_m1 (by omega))) (fun _ _ h => ?_) (fun _ _ h => ?_)
        · rw [g3] at h
          rw [(hn_t (by omega)).mp h, leB_ft] at hn; exact hn
        · rw [g3] at h
          rw [(hn_0 (by omega)).mp (Classical.byContradiction h), leB_ff] at hn; exact hn
  have inner : ∀ k, k < 24 → bt (I 206 (bO β t)) k = true → ∀ (s : Int32), (∀ n, n = leT β Lv k 6 → j_W 126 d 0 0 0 0 121 [some (.ref 204), some (.ref 108), some (.int (nI t)), some (.ref (go R t)), some (.int (nI (u1V β t))), some (.int (nI (u2V β t))), some (.int s), some (.int (nI k)), some (.int n), none] [] w1 (I, D, RR R) Q) → ∀ (m u : Nat) (n : Int32), m + u = 6 → n = leT β Lv k u → j_W 126 d 0 0 0 0 69 [some (.ref 204), some (.ref 108), some (.int (nI t)), some (.ref (go R t)), some (.int (nI (u1V β t))), some (.int (nI (u2V β t))), some (.int s), some (.int (nI k)), some (.int n), some (.int (nI u))] [] w1 (I, D, RR R) Q := by
    intro k hk hx s hend m
    induction m with
    | zero =>
      intro u n hu hn
      have : u = 6 := by omega
      subst this
      exact u126i hR hk (by omega) (by omega) (fun _ => hend n hn) (fun h => absurd (Nat.le_refl _) h) (fun h => absurd (Nat.le_refl _) h)
    | succ m ih =>
      intro u n hu hn
      have u6 : u < 6 := by omega
      have e0 := (hC.2 u u6).1
      refine u126i hR hk (by omega) (by omega) (fun h => absurd h (by omega)) (fun _ h => ih (u + 1) n (by omega) ?_) (fun _ h => ih (u + 1) _ (by omega) ?_)
      · have hb : bL β u = false := by
          cases hb : bL β u with
          | false => rfl
          | true => rw [hb] at e0; exact absurd (e0.symm.trans h) (by decide)
        rw [leT, if_neg (by rw [hb]; simp)]; exact hn
      · have hb : bL β u = true := by
          cases hb : bL β u with
          | true => rfl
          | false => rw [hb] at e0; exact absurd e0 h
        rw [leT, if_pos hb, ← hn]
        have et : I (((R 112 k).getD 0) + 2) u = nI (tmB β k u) := (hC.1 k hk).2.2.2.2.2.2.2 u u6
        rw [et]
        rcases Nat.eq_zero_or_pos (tmB β k u) with h0 | h0
        · rw [h0, leT_0, leT_0]
        · rw [hL k u hk hx u6 hb h0]
  have outer : ∀ (m k : Nat) (s : Int32), m + k = 24 → s = leS β (fun c v => bt (I 206 c) v) (fun c => I 207 c) Lv t k → j_W 126 d 0 0 0 0 27 [some (.ref 204), some (.ref 108), some (.int (nI t)), some (.ref (go R t)), some (.int (nI (u1V β t))), some (.int (nI (u2V β t))), some (.int s), some (.int (nI k)), none, none] [] w1 (I, D, RR R) Q := by
    intro m
    induction m with
    | zero =>
      intro k s hk hs
      have : k = 24 := by omega
      subst this
      refine u126h hR hG ht (by omega) g1 v1 (by omega) (fun _ => ?_) (fun h => absurd (Nat.le_refl _) h) (fun h => absurd (Nat.le_refl _) h) (fun h => absurd (Nat.le_refl _) h)
      rw [hs, ← hE t ht hl]; exact hq
    | succ m ih =>
      intro k s hk hs
      have k24 : k < 24 := by omega
      have hz : I ((R 112 k).getD 0) 1 ≤ 0 ↔ bZ β k = 0 := by
        show I (fo R k) 1 ≤ 0 ↔ _
        rw [(hC.1 k k24).2.2.2.2.1, show (0 : Int32) = nI 0 from rfl, nI_leI (by have := (hV.1 k k24).2.1; omega) (by decide)]; omega
      have no : ¬ (bt (I 206 (bO β t)) k = true ∧ bZ β k ≠ 0) → j_W 126 d 0 0 0 0 27 [some (.ref 204), some (.ref 108), some (.int (nI t)), some (.ref (go R t)), some (.int (nI (u1V β t))), some (.int (nI (u2V β t))), some (.int s), some (.int (nI (k + 1))), none, none] [] w1 (I, D, RR R) Q := fun h => ih (k + 1) s (by omega) (by rw [leS, if_neg h]; exact hs)
      refine u126h hR hG ht (by omega) g1 v1 (by omega) (fun h => absurd h (by omega)) (fun _ _ h3 => no (fun h => h.2 (hz.mp h3))) (fun _ h2 h3 => ?_) (fun _ h2 => no (fun h => h2 ((hn_t (by omega)).mpr h.1)))
      have hx := (hn_t (x := I 206 (bO β t)) (k := k) (by omega)).mp h2
      refine inner k k24 hx s (fun n hn => last k k24 s n (ih (k + 1) _ (by omega) ?_)) 6 0 1 rfl rfl
      rw [leS, if_pos ⟨hx, fun q => h3 (hz.mpr q)⟩, ← hs]
      unfold leM
      rw [← hn]
  exact u126e hR hV ht hd hC ht hl (outer 24 0 0 rfl rfl)
end LC
set_option maxRecDepth 10000 in
set_option maxHeartbeats 4000000 in
theorem u125h {d : Nat} {I : Nat → Nat → Int32} {D : Nat → Nat → UInt64} {R : Nat → Nat → Option Nat} {Q : j_Po} {t : Nat} {k : Nat} {β : Bd} {n : Nat} {Lv : Nat → Int32} (hR : WFR R) (hV : BV β) (ht : t < 6) (hk : k ≤ 30) (hn : k < 30 → I 205 k = nI n) (hn30 : n < 30) (hd : 13 ≤ d)
    (v1 : (30 ≤ k) → Q (some (.int (I 210 t))) w1 (I, D, RR R))
    (v2 : (¬ 30 ≤ k) → (n < 24) → j_W 125 d 0 0 0 0 2 [some (.ref 204), some (.ref 108), some (.int (nI t)), some (.int (nI (k + 1))), none] [] w1 (I, D, RR R) Q)
    (v3 : (¬ 30 ≤ k) → (¬ n < 24) → ((I ((R 113 (n - 24)).getD 0) 0) = 0) → j_W 125 d 0 0 0 0 2 [some (.ref 204), some (.ref 108), some (.int (nI t)), some (.int (nI (k + 1))), none] [] w1 (I, D, RR R) Q)
    (v4 : (¬ 30 ≤ k) → (¬ n < 24) → (¬ (I ((R 113 (n - 24)).getD 0) 0) = 0) → CB β I D R)
    (v5 : (¬ 30 ≤ k) → (¬ n < 24) → (¬ (I ((R 113 (n - 24)).getD 0) 0) = 0) → LeE β (fun c v => bt (I 206 c) v) (fun c => I 207 c) Lv)
    (v6 : (¬ 30 ≤ k) → (¬ n < 24) → (¬ (I ((R 113 (n - 24)).getD 0) 0) = 0) → (n - 24) < 6)
    (v7 : (¬ 30 ≤ k) → (¬ n < 24) → (¬ (I ((R 113 (n - 24)).getD 0) 0) = 0) → bL β (n - 24) = true)
    (v8 : (¬ 30 ≤ k) → (¬ n < 24) → (¬ (I ((R 113 (n - 24)).getD 0) 0) = 0) → ∀ c u, c < 24 → bt (I 206 (bO β (n - 24))) c = true → u < 6 → bL β u = true → 0 < tmB β c u → I 210 u = Lv u)
    (v9 : (¬ 30 ≤ k) → (¬ n < 24) → (¬ (I ((R 113 (n - 24)).getD 0) 0) = 0) → j_W 125 d 0 0 0 0 2 [some (.ref 204), some (.ref 108), some (.int (nI t)), some (.int (nI (k + 1))), none] [] w1 ((j_u I 210 (n - 24) (Lv (n - 24))), D, RR R) Q) : j_W 125 d 0 0 0 0 2 [some (.ref 204), some (.ref 108), some (.int (nI t)), some (.int (nI k)), none] [] w1 (I, D, RR R) Q := by
  refine q_iload_n d125_2 rfl ?_
  refine q_bipush (v := 30) (by decide) d125_3 ?_
  refine q_icmp_ge (tgt := 55) d125_5 rfl (fun h1t => ?_) (fun h1f => ?_)
  ·
    have h1tc : 30 ≤ k := (nI_leI (by omega) (by omega)).mp h1t
    refine q_aload_n d125_55 rfl ?_
    refine q_getR (x := 210) d125_56 (fs4_27 125 rfl) rfl (lt_w1 rfl) sh204 (rs204_5 R) (by decide) ?_
    refine q_iload_n d125_59 rfl ?_
    refine q_iaload (a := t) d125_60 (lt_w1 rfl) sh210 rfl (by omega) ?_
    exact q_iret d125_61 rfl (Nat.le_refl _) (Nat.le_refl _) (v1 h1tc)
  ·
    have h1fc : ¬ 30 ≤ k := mt (nI_leI (by omega) (by omega)).mpr h1f
    refine q_aload_n d125_8 rfl ?_
    refine q_getR (x := 205) d125_9 (fs4_9 125 rfl) rfl (lt_w1 rfl) sh204 (rs204_0 R) (by decide) ?_
    refine q_iload_n d125_12 rfl ?_
    refine q_iaload (a := k) d125_13 (lt_w1 rfl) sh205 rfl (by omega) ?_
    refine r_int (y := nI n) (hn (by omega)) ?_
    refine q_istore (L' := [some (.ref 204), some (.ref 108), some (.int (nI t)), some (.int (nI k)), some (.int (nI n))]) d125_14 (Nat.le_of_ble_eq_true rfl) rfl ?_
    refine q_iload d125_16 rfl ?_
    refine q_bipush (v := 24) (by decide) d125_18 ?_
    refine q_icmp_lt (tgt := 49) d125_20 rfl (fun h2t => ?_) (fun h2f => ?_)
    ·
      have h2tc : n < 24 := (nI_ltI (by omega) (by omega)).mp h2t
      refine q_iinc (L' := [some (.ref 204), some (.ref 108), some (.int (nI t)), some (.int (nI (k + 1))), some (.int (nI n))]) (v := (nI (k + 1))) d125_49 rfl (nI_inc _) rfl ?_
      refine q_goto (tgt := 2) d125_52 rfl ?_
      exact r_sub (L' := [some (.ref 204), some (.ref 108), some (.int (nI t)), some (.int (nI (k + 1))), none]) ⟨rfl, rfl, rfl, rfl, trivial⟩ (v2 h1fc h2tc)
    ·
      have h2fc : ¬ n < 24 := mt (nI_ltI (by omega) (by omega)).mpr h2f
      refine q_aload_n d125_23 rfl ?_
      refine q_getR (x := 113) d125_24 (fs4_42 125 rfl) rfl (lt_w1 rfl) sh108 (rs108_4 R) (by decide) ?_
      refine q_iload d125_27 rfl ?_
      refine q_bipush (v := 24) (by decide) d125_29 ?_
      refine q_isub d125_31 ?_
      refine r_int (y := (nI (n - 24))) (pk_sub (b := 24) (by omega)) ?_
      have g4 := hR.g (n - 24) (by omega)
      refine q_aaload (c := 7) (a := (n - 24)) (x := ((R 113 (n - 24)).getD 0)) d125_32 (lt_w1 rfl) sh113 (by decide) rfl (by omega) ((RR_d rfl).trans g4.1) (lt1000 (isG_lt g4.2)) ?_
      refine q_getI d125_33 (fs4_46 125 rfl) rfl (isG_lt g4.2) (isG_sh g4.2) ?_
      refine q_if_eq (tgt := 49) d125_36 rfl (fun h5t => ?_) (fun h5f => ?_)
      ·
        refine q_iinc (L' := [some (.ref 204), some (.ref 108), some (.int (nI t)), some (.int (nI (k + 1))), some (.int (nI n))]) (v := (nI (k + 1))) d125_49 rfl (nI_inc _) rfl ?_
        refine q_goto (tgt := 2) d125_52 rfl ?_
        exact r_sub (L' := [some (.ref 204), some (.ref 108), some (.int (nI t)), some (.int (nI (k + 1))), none]) ⟨rfl, rfl, rfl, rfl, trivial⟩ (v3 h1fc h2fc h5t)
      ·
        refine q_aload_n d125_39 rfl ?_
        refine q_aload_n d125_40 rfl ?_
        refine q_iload d125_41 rfl ?_
        refine q_bipush (v := 24) (by decide) d125_43 ?_
        refine q_isub d125_45 ?_
        refine r_int (y := (nI (n - 24))) (pk_sub (b := 24) (by omega)) ?_
        refine q_invV (o := 204) (ci := 4) (av := [.ref 108, .int (nI (n - 24))]) (rest := []) (d' := 10) (mc' := 0) (ms' := 0) d125_46 (cv4_98 125 rfl) rfl (by decide) rfl rfl (by omega) (Nat.le_of_ble_eq_true rfl) (Nat.le_of_ble_eq_true rfl) (lt_w1 rfl) sh204 (Nat.le_refl _) (Nat.le_refl _) ?_
        refine c126 (Lv := Lv) (Nat.le_refl 10) hR hV (v4 h1fc h2fc h5f) (v5 h1fc h2fc h5f) (v6 h1fc h2fc h5f) (v7 h1fc h2fc h5f) (v8 h1fc h2fc h5f) ?_
        show j_W 125 d 0 0 0 0 49 [some (.ref 204), some (.ref 108), some (.int (nI t)), some (.int (nI k)), some (.int (nI n))] [] w1 ((j_u I 210 (n - 24) (Lv (n - 24))), D, RR R) Q
        refine q_iinc (L' := [some (.ref 204), some (.ref 108), some (.int (nI t)), some (.int (nI (k + 1))), some (.int (nI n))]) (v := (nI (k + 1))) d125_49 rfl (nI_inc _) rfl ?_
        refine q_goto (tgt := 2) d125_52 rfl ?_
        exact r_sub (L' := [some (.ref 204), some (.ref 108), some (.int (nI t)), some (.int (nI (k + 1))), none]) ⟨rfl, rfl, rfl, rfl, trivial⟩ (v9 h1fc h2fc h5f)

section LD2
variable {β : Bd} {I : Nat → Nat → Int32} {D : Nat → Nat → UInt64} {R : Nat → Nat → Option Nat} {Q : j_Po} {d t : Nat}
theorem c125 (hd : 20 ≤ d) (hR : WFR R) (hV : BV β) (hN : NM β I) (hO : OrdB β I) {Lv : Nat → Int32} (hE : LeE β (fun c v => bt (I 206 c) v) (fun c => I 207 c) Lv) (hC : CB β I D R) (ht : t < 6) (hl : bL β t = true) (hq : ∀ J, (∀ o, o ≠ 210 → J o = I o) → Q (some (.int (Lv t))) w1 (J, D, RR R)) : j_Call d 125 [.ref 204, .ref 108, .int (nI t)] w1 (I, D, RR R) 0 0 Q := by
  obtain ⟨o, ⟨h1, h2, h3⟩, h4⟩ := hO
  have gb : ∀ u, u < 6 → go R u ≠ 210 ∧ go R u + 1 ≠ 210 ∧ go R u + 2 ≠ 210 := fun u hu => by
    rcases (hR.2.1 u hu).2 with h | ⟨k, h1, h2⟩ <;> omega
  have fb : ∀ c, c < 24 → fo R c ≠ 210 ∧ fo R c + 1 ≠ 210 ∧ fo R c + 2 ≠ 210 := fun c hc => by
    rcases (hR.1 c hc).2 with h | ⟨k, h1, h2⟩ <;> omega
  have loop : ∀ (m k : Nat) (J : Nat → Nat → Int32), m + k = 30 → (∀ q, q ≠ 210 → J q = I q) → (∀ u, u < 6 → bL β u = true → (∃ j, j < k ∧ o j = 24 + u) → J 210 u = Lv u) → j_W 125 d 0 0 0 0 2 [some (.ref 204), some (.ref 108), some (.int (nI t)), some (.int (nI k)), none] [] w1 (J, D, RR R) Q := by
    intro m
    induction m with
    | zero =>
      intro k J hk hJ hL
      have : k = 30 := by omega
      subst this
      refine u125h (β := β) (Lv := Lv) (n := 0) hR hV ht (by omega) (fun h => absurd h (by omega)) (by decide) (by omega) (fun _ => ?_) (fun h => absurd (Nat.le_refl _) h) (fun h => absurd (Nat.le_refl _) h) (fun h => absurd (Nat.le_refl _) h) (fun h => absurd (Nat.le_refl _) h) (fun h => absurd (Nat.le_refl _) h) (fun h => absurd (Nat.le_refl _) h) (fun h => absurd (Nat.le_refl _) h) (fun h => absurd (Nat.le_refl _) h)
      obtain ⟨j, j1, j2⟩ := h4 (24 + t) (by omega)
      rw [hL t ht hl ⟨j, j1, j2⟩]
      exact hq J hJ
    | succ m ih =>
      intro k J hk hJ hL
      have k30 : k < 30 := by omega
      obtain ⟨e1, e2⟩ := h1 k k30
      have CJ : CB β J D R := ⟨fun c hc => by
        obtain ⟨f1, f2, f3⟩ := fb c hc
        obtain ⟨a1, a2, a3, a4, a5⟩ := hC.1 c hc
        rw [hJ 109 (by decide), hJ 111 (by decide)]
        exact ⟨a1, a2, a3, a4, a5.cg (hJ _ f1) (hJ _ f2) (hJ _ f3)⟩, fun u hu => (hC.2 u hu).cg (hJ _ (gb u hu).1) rfl rfl⟩
      have lay : ∀ u, u < 6 → (J ((R 113 u).getD 0) 0 = 0 ↔ bL β u = false) := fun u hu => by
        have : J ((R 113 u).getD 0) 0 = bi (bL β u) := (CJ.2 u hu).1
        rw [this]; exact bi_eq0
      have lay2 : 24 ≤ o k → ¬ J ((R 113 (o k - 24)).getD 0) 0 = 0 → bL β (o k - 24) = true := fun hn h => by
        cases hb : bL β (o k - 24) with
        | true => rfl
        | false => exact absurd ((lay (o k - 24) (by omega)).mpr hb) h
      have ex : ∀ {P : Prop}, 30 ≤ k → P := fun h => absurd h (by omega)
      refine u125h (β := β) (Lv := Lv) (n := o k) hR hV ht (by omega) (fun _ => by rw [hJ 205 (by decide)]; exact e1) e2 (by omega) (fun h => ex h) (fun _ hn => ?_) (fun _ hn h0 => ?_) (fun _ _ _ => CJ) (fun _ _ _ => by rw [hJ 206 (by decide), hJ 207 (by decide)]; exact hE) (fun _ hn _ => by omega) (fun _ hn h0 => lay2 (by omega) h0) (fun _ hn h0 => ?_) (fun _ hn h0 => ?_)
      · refine ih (k + 1) J (by omega) hJ (fun u hu hb ⟨j, j1, j2⟩ => hL u hu hb ⟨j, ?_, j2⟩)
        rcases Nat.lt_or_ge j k with h | h
        · exact h
        · have : j = k := by omega
          subst this; omega
      · refine ih (k + 1) J (by omega) hJ (fun u hu hb ⟨j, j1, j2⟩ => hL u hu hb ⟨j, ?_, j2⟩)
        rcases Nat.lt_or_ge j k with h | h
        · exact h
        · have : j = k := by omega
          subst this
          have hb2 := (lay (o j - 24) (by omega)).mp h0
          rw [show o j - 24 = u by omega, hb] at hb2; cases hb2
      · intro c u hc hx hu hb h0'
        rw [hJ 206 (by decide)] at hx
        have hlk := lay2 (by omega) h0
        have ho := (hV.2.1 (o k - 24) (by omega) hlk).1
        have hed : ed β (o k) (bO β (o k - 24)) = true := by
          have := ed_out (β := β) (t := o k - 24) hlk
          rw [show 24 + (o k - 24) = o k by omega] at this; exact this
        have hpos := h2 k k30 _ (by omega) hed
        have hcl := hN.rc.cl hV.2.2 (T := fun v => ∃ j, j < k ∧ o j = v) (fun a b ha hb ⟨j, j1, j2⟩ hnm => by
          subst j2
          obtain ⟨i, i1, i2⟩ := h2 j (by omega) b (by omega) (ed_1 ha hnm)
          exact ⟨i, by omega, i2⟩) (bO β (o k - 24)) ho hpos c (by omega) hx
        obtain ⟨j, j1, j2⟩ := hcl
        have he2 := ed_tm hV hc h0'
        rw [← j2] at he2
        obtain ⟨i, i1, i2⟩ := h2 j (by omega) (24 + u) (by omega) he2
        exact hL u hu hb ⟨i, by omega, i2⟩
      · refine ih (k + 1) _ (by omega) (fun q hq2 => by
          rw [← hJ q hq2]; funext i; rw [j_u_o _ _ _ hq2]) (fun u hu hb ⟨j, j1, j2⟩ => ?_)
        by_cases e : u = o k - 24
        · subst e; rw [j_u_same]
        · rw [j_u_k _ _ e]
          refine hL u hu hb ⟨j, ?_, j2⟩
          rcases Nat.lt_or_ge j k with h | h
          · exact h
          · have : j = k := by omega
            subst this; omega
  exact u125e (by omega) (loop 30 0 I rfl (fun _ _ => rfl) (fun u hu hb ⟨j, j1, _⟩ => absurd j1 (Nat.not_lt_zero j)))
end LD2
/-! the reference -/
section LR
variable {β : Bd} {X : Nat → Nat → Bool} {rd Lv : Nat → Int32} {ρ : Nat → Nat}
theorem FLe.tr {I J K : Nat → Nat → Int32} (h : FLe I J) (g : FLe J K) : FLe I K := fun o a b c e => (g o a b c e).trans (h o a b c e)
theorem FLe.rs {I J : Nat → Nat → Int32} {D : Nat → Nat → UInt64} (h : FLe I J) (hS : RSt β I D) : RSt β J D := hS.cg (fun q a1 a2 _ => h q (by omega) (by omega) (by omega) (by omega)) (fun _ _ _ _ => rfl)
theorem FLe.rn {I J : Nat → Nat → Int32} (h : FLe I J) (hN : RBN β I) : RBN β J := hN.frm (fun o a1 a2 => h o (by omega) (by omega) (by omega) (by omega))
theorem FLe.rr {I J : Nat → Nat → Int32} (h : ∀ o, o ≠ 359 → o ≠ 360 → J o = I o) : FLe I J := fun o a b _ _ => h o a b
theorem MLe.rr {I J : Nat → Nat → Int32} (h : ∀ o, o ≠ 359 → o ≠ 360 → J o = I o) (hM : MLe Lv I) : MLe Lv J := fun t ht => by rw [h 427 (by decide) (by decide), h 428 (by decide) (by decide)]; exact hM t ht
theorem leC (hV : BV β) (hX : RcE β X) (hρ : Rk β ρ) (hE : RdE β rd) (hLe : LeE β X rd Lv) : ∀ r, LeC β Lv ρ r := by
  intro r
  induction r with
  | zero => intro d I D R Q t ht hl h; omega
  | succ r ihr =>
    intro d I D R Q t ht hl hr hd hM hS hN hq
    have hrec : LeC β Lv ρ (ρ (24 + t)) := fun {d I D R Q} t' ht' hl' hr' => ihr t' ht' hl' (by omega)
    obtain ⟨s1, s2, s3, -⟩ := (hS.2 t ht).2 hl
    obtain ⟨v1, v2, -, v4, -⟩ := hV.2.1 t ht hl
    have main : ∀ y : Int32, (∀ v, v < 32 → bt y v = X (bO β t) v) → j_W 264 d 0 0 0 0 32 [some (.ref 260), some (.int (nI t)), some (.int 0), some (.int y), some (.int (nI 0)), none, none] [] w1 (I, D, RR R) Q := by
      intro y hy
      have last : ∀ k, k < 24 → ∀ (J : Nat → Nat → Int32) (s n z : Int32), FLe I J → z = rd k → j_W 264 d 0 0 0 0 32 [some (.ref 260), some (.int (nI t)), some (.int (s + leB (bt (rd k) (b1 β t)) (rd2 β rd t k) (nI (u1V β t)) (nI (u2V β t)) n)), some (.int y), some (.int (nI (k + 1))), none, none] [] w1 (J, D, RR R) Q → j_W 264 d 0 0 0 0 128 [some (.ref 260), some (.int (nI t)), some (.int s), some (.int y), some (.int (nI k)), some (.int n), some (.int z)] [] w1 (J, D, RR R) Q := by
        intro k hk J s n z hF hz hn
        subst hz
        have SJ := hF.rs hS
        obtain ⟨-, j2, j3, -⟩ := (SJ.2 t ht).2 hl
        cases hp : bt (rd k) (b1 β t) with
        | true =>
          have h1 : ((rd k >>> ((nI (b1 β t)) &&& 31)) &&& 1) = 1 := (hn_1 (by omega)).mpr hp
          rw [hp] at hn
          cases hb : b2 β t with
          | none =>
            rw [hb] at j3
            have e : rd2 β rd t k = false := by unfold rd2; rw [hb]
            rw [e, leB_tf] at hn
            exact u264k (p := b1 β t) hV ht hk j2 (by omega) (fun h => absurd h1 h) (fun h => absurd h1 h) (fun h => absurd h1 h) (fun h => absurd h1 h) (fun h => absurd h1 h) (fun h => absurd h1 h) (fun _ => SJ) (fun _ => ht) (fun _ => hl) (fun _ _ => hn) (fun _ h => absurd j3 h) (fun _ h => absurd j3 h)
          | some o =>
            rw [hb] at j3
            have j3 : J 318 t = nI o := j3
            have o24 := (v4 o hb).1
            have e : rd2 β rd t k = bt (rd k) o := by unfold rd2; rw [hb]
            rw [e] at hn
            refine u264k (p := b1 β t) hV ht hk j2 (by omega) (fun h => absurd h1 h) (fun h => absurd h1 h) (fun h => absurd h1 h) (fun h => absurd h1 h) (fun h => absurd h1 h) (fun h => absurd h1 h) (fun _ => SJ) (fun _ => ht) (fun _ => hl) (fun _ h => absurd (j3.symm.trans h) (nI_ne_m1 (by omega))) (fun _ _ h => ?_) (fun _ _ h => ?_)
            · rw [j3] at h
              rw [n1_f (by omega) h, leB_tf] at hn; exact hn
            · rw [j3] at h
              rw [(hn_1 (by omega)).mp h, leB_tt] at hn; exact hn
        | false =>
          have h1 : ¬ ((rd k >>> ((nI (b1 β t)) &&& 31)) &&& 1) = 1 := fun h => by rw [(hn_1 (by omega)).mp h] at hp; cases hp
          rw [hp] at hn
          cases hb : b2 β t with
          | none =>
            rw [hb] at j3
            have e : rd2 β rd t k = false := by unfold rd2; rw [hb]
            rw [e, leB_ff] at hn
            exact u264k (p := b1 β t) hV ht hk j2 (by omega) (fun _ _ => hn) (fun _ h => absurd j3 h) (fun _ h => absurd j3 h) (fun _ h => absurd j3 h) (fun _ h => absurd j3 h) (fun _ h => absurd j3 h) (fun h => absurd h h1) (fun h => absurd h h1) (fun h => absurd h h1) (fun h => absurd h h1) (fun h => absurd h h1) (fun h => absurd h h1)
          | some o =>
            rw [hb] at j3
            have j3 : J 318 t = nI o := j3
            have o24 := (v4 o hb).1
            have e : rd2 β rd t k = bt (rd k) o := by unfold rd2; rw [hb]
            rw [e] at hn
            refine u264k (p := b1 β t) hV ht hk j2 (by omega) (fun _ h => absurd (j3.symm.trans h) (nI_ne_m1 (by omega))) (fun _ _ h => ?_) (fun _ _ _ => SJ) (fun _ _ _ => ht) (fun _ _ _ => hl) (fun _ _ h => ?_) (fun h => absurd h h1) (fun h => absurd h h1) (fun h => absurd h h1) (fun h => absurd h h1) (fun h => absurd h h1) (fun h => absurd h h1)
            · rw [j3] at h
              rw [n1_f (by omega) h, leB_ff] at hn; exact hn
            · rw [j3] at h
              rw [(hn_1 (by omega)).mp h, leB_ft] at hn; exact hn
      have inner : ∀ k, k < 24 → X (bO β t) k = true → ∀ (s : Int32), (∀ (J : Nat → Nat → Int32) n, FLe I J → MLe Lv J → RBN β J → n = leT β Lv k 6 → j_W 264 d 0 0 0 0 120 [some (.ref 260), some (.int (nI t)), some (.int s), some (.int y), some (.int (nI k)), some (.int n), none] [] w1 (J, D, RR R) Q) → ∀ (m u : Nat) (J : Nat → Nat → Int32) (n : Int32), m + u = 6 → FLe I J → MLe Lv J → RBN β J → n = leT β Lv k u → j_W 264 d 0 0 0 0 66 [some (.ref 260), some (.int (nI t)), some (.int s), some (.int y), some (.int (nI k)), some (.int n), some (.int (nI u))] [] w1 (J, D, RR R) Q := by
        intro k hk hx s hend m
        induction m with
        | zero =>
          intro u J n hu hF hMJ hNJ hn
          have : u = 6 := by omega
          subst this
          have ex : ∀ {P : Prop}, ¬ 6 ≤ 6 → P := fun h => absurd (Nat.le_refl _) h
          exact u264i (β := β) (ρ := ρ) ht hk (by omega) hrec (by omega) (fun _ => hend J n hF hMJ hNJ hn) (fun h => ex h) (fun h => ex h) (fun h => ex h) (fun h => ex h) (fun h => ex h) (fun h => ex h) (fun h => ex h) (fun h => ex h) (fun h => ex h)
        | succ m ih =>
          intro u J n hu hF hMJ hNJ hn
          have u6 : u < 6 := by omega
          have lay : ¬ J 315 u = 0 → bL β u = true := fun h => by
            cases hl : bL β u with
            | true => rfl
            | false => exact absurd ((hNJ.lay u6).mpr hl) h
          have et : J (335 + k) u = nI (tmB β k u) := (hNJ.1 k hk).2.2 u u6
          have hle : tmB β k u ≤ 96 := Nat.le_trans (tmN_le _) (hV.1 k hk).2.1
          have tm : J (335 + k) u ≤ 0 ↔ tmB β k u = 0 := by
            rw [et]
            rcases Nat.eq_zero_or_pos (tmB β k u) with h | h
            · rw [h]; exact ⟨fun _ => rfl, fun _ => by decide⟩
            · exact ⟨fun h2 => absurd h2 (nI_nle h (by omega)), fun h2 => absurd h2 (by omega)⟩
          have pos : ¬ J (335 + k) u ≤ 0 → 0 < tmB β k u := fun h => Nat.pos_of_ne_zero (fun q => h (tm.mpr q))
          have rk : ¬ J 315 u = 0 → ¬ J (335 + k) u ≤ 0 → ρ (24 + u) < ρ (24 + t) := fun a b => le_rk hV hX hρ ht hl hk hx u6 (pos b)
          refine u264i (β := β) (ρ := ρ) ht hk (by omega) hrec (by omega) (fun h => absurd h (by omega)) (fun _ h => ih (u + 1) J n (by omega) hF hMJ hNJ ?_) (fun _ h g => ih (u + 1) J n (by omega) hF hMJ hNJ ?_) (fun _ h _ => lay h) (fun _ a b => rk a b) (fun _ a b => by have := rk a b; omega) (fun _ _ _ => hMJ) (fun _ _ _ => hF.rs hS) (fun _ _ _ => hNJ) (fun _ h g J2 f1 f2 f3 => ih (u + 1) J2 _ (by omega) (hF.tr f1) f2 f3 ?_)
          · rw [leT, if_neg (by rw [(hNJ.lay u6).mp h]; simp)]; exact hn
          · rw [leT, if_pos (lay h), tm.mp g, leT_0, Int32.add_zero]; exact hn
          · rw [leT, if_pos (lay h), et, hn]
      have outer : ∀ (m k : Nat) (J : Nat → Nat → Int32) (s : Int32), m + k = 24 → FLe I J → MLe Lv J → RBN β J → s = leS β X rd Lv t k → j_W 264 d 0 0 0 0 32 [some (.ref 260), some (.int (nI t)), some (.int s), some (.int y), some (.int (nI k)), none, none] [] w1 (J, D, RR R) Q := by
        intro m
        induction m with
        | zero =>
          intro k J s hk hF hMJ hNJ hs
          have : k = 24 := by omega
          subst this
          have ex : ∀ {P : Prop}, ¬ 24 ≤ 24 → P := fun h => absurd (Nat.le_refl _) h
          refine u264h ht (by omega) (by omega) (fun _ => ?_) (fun h => ex h) (fun h => ex h) (fun h => ex h)
          have hst : s = Lv t := by rw [hs, ← hLe t ht hl]
          have hf2 : FLe J (j_u (j_u J 427 t 1) 428 t s) := fun o _ _ o3 o4 => by funext i; rw [j_u_o _ _ _ o4, j_u_o _ _ _ o3]
          have := hq (j_u (j_u J 427 t 1) 428 t s) (hF.tr hf2) (fun t' ht' h => ?_) (hf2.rn hNJ)
          · rw [← hst] at this; exact this
          · by_cases e2 : t' = t
            · subst e2; rw [j_u_same]; exact hst
            · rw [j_u_k _ _ e2, j_u_o _ _ _ (by decide)]
              rw [j_u_o _ _ _ (by decide), j_u_k _ _ e2] at h
              exact hMJ t' ht' h
        | succ m ih =>
          intro k J s hk hF hMJ hNJ hs
          have k24 : k < 24 := by omega
          have hz := (hNJ.1 k k24).1
          have hz96 := (hV.1 k k24).2.1
          have z0 : J 264 k = 0 ↔ bZ β k = 0 := by rw [hz]; exact nI_eq (b := 0) (by omega) (by decide)
          have no : ¬ (X (bO β t) k = true ∧ bZ β k ≠ 0) → j_W 264 d 0 0 0 0 32 [some (.ref 260), some (.int (nI t)), some (.int s), some (.int y), some (.int (nI (k + 1))), none, none] [] w1 (J, D, RR R) Q := fun h => ih (k + 1) J s (by omega) hF hMJ hNJ (by rw [leS, if_neg h]; exact hs)
          refine u264h ht (by omega) (by omega) (fun h => absurd h (by omega)) (fun _ h => no (fun g => ?_)) (fun _ h h3 => ?_) (fun _ h h3 => no (fun g => g.2 (z0.mp h3)))
          · have := (hn_0 (x := y) (k := k) (by omega)).mp h
            rw [hy k (by omega), g.1] at this; cases this
          · have hx : X (bO β t) k = true := by rw [← hy k (by omega)]; exact (hn_t (by omega)).mp h
            refine inner k k24 hx s (fun J2 n f1 f2 f3 hn => ?_) 6 0 J 1 rfl hF hMJ hNJ rfl
            refine u264j (β := β) (rd := rd) hV k24 (by omega) hE k24 (Nat.le_refl _) f3 (fun J3 g1 g2 => ?_)
            refine last k k24 J3 s n (rd k) (f1.tr (FLe.rr g1)) rfl (ih (k + 1) J3 _ (by omega) (f1.tr (FLe.rr g1)) (MLe.rr g1 f2) g2 ?_)
            rw [leS, if_pos ⟨hx, fun q => h3 (z0.mpr q)⟩, ← hs]
            unfold leM
            rw [← hn]
      exact outer 24 0 I 0 rfl (fun _ _ _ _ _ => rfl) hM hN rfl
    refine u264e (β := β) (X := X) ht s1 (by omega) (fun _ => Nat.le_refl _) (fun _ => hN) (fun _ => hX) (fun _ => hV.2.2) (fun _ => v1) (fun _ y hy => main y hy) (fun h => ?_)
    rw [hM t ht h]
    exact hq I (fun _ _ _ _ _ => rfl) hM hN
theorem c264 {d t : Nat} {I : Nat → Nat → Int32} {D : Nat → Nat → UInt64} {R : Nat → Nat → Option Nat} {Q : j_Po} (hd : 95 ≤ d) (hV : BV β) (hX : RcE β X) (hE : RdE β rd) (hLe : LeE β X rd Lv) (hS : RSt β I D) (hN : RBN β I) (ht : t < 6) (hl : bL β t = true) (h0 : ∀ u, u < 6 → I 427 u = 0) (hq : ∀ J, FLe I J → Q (some (.int (Lv t))) w1 (J, D, RR R)) : j_Call d 264 [.ref 260, .int (nI t)] w1 (I, D, RR R) 0 0 Q := by
  obtain ⟨ρ, hρ⟩ := Rk.ex hV
  have h30 := hρ.1 (24 + t) (by omega)
  exact leC hV hX hρ hE hLe 30 t ht hl h30 (by omega) (fun u hu h => absurd (h0 u hu) h) hS hN (fun J f _ _ => hq J f)
theorem c262 {d t : Nat} {I : Nat → Nat → Int32} {D : Nat → Nat → UInt64} {R : Nat → Nat → Option Nat} {Q : j_Po} (hd : 90 ≤ d) (hV : BV β) (hX : RcE β X) (hE : RdE β rd) (hN : RBN β I) (ht : t < 6) (hl : bL β t = true) (hq : ∀ (J : Nat → Nat → Int32) (x : Int32), (∀ o, o ≠ 359 → o ≠ 360 → J o = I o) → (∀ c, c < 32 → bt x c = (decide (c < 24) && (anyB 24 (fun v => bt (rd c) v && vr β t v) && (X (bO β t) c && decide (bZ β c ≠ 0))))) → Q (some (.int x)) w1 (J, D, RR R)) : j_Call d 262 [.ref 260, .int (nI t)] w1 (I, D, RR R) 0 0 Q := by
  obtain ⟨s1, -⟩ := (hN.2 t ht).2 hl
  obtain ⟨v1, v2, -, v4, -⟩ := hV.2.1 t ht hl
  refine u262e (X := X) hV ht s1 (by omega) (Nat.le_refl _) hN hX hV.2.2 v1 (fun y hy => ?_)
  have key : ∀ (m k : Nat) (J : Nat → Nat → Int32) (z : Int32), m + k = 24 → (∀ o, o ≠ 359 → o ≠ 360 → J o = I o) → RBN β J → (∀ c, c < 32 → bt z c = (decide (c < k) && (anyB 24 (fun v => bt (rd c) v && vr β t v) && (X (bO β t) c && decide (bZ β c ≠ 0))))) → j_W 262 d 0 0 0 0 16 [some (.ref 260), some (.int (nI t)), some (.int z), some (.int y), some (.int (nI k))] [] w1 (J, D, RR R) Q := by
    intro m
    induction m with
    | zero =>
      intro k J z hk hJ hNJ hz
      have : k = 24 := by omega
      subst this
      have ex : ∀ {P : Prop}, ¬ 24 ≤ 24 → P := fun h => absurd (Nat.le_refl _) h
      exact u262h (β := β) (rd := rd) hV ht (by omega) (by omega) (fun _ => hq J z hJ hz) (fun h => ex h) (fun h => ex h) (fun h => ex h) (fun h => ex h) (fun h => ex h) (fun h => ex h) (fun h => ex h) (fun h => ex h)
    | succ m ih =>
      intro k J z hk hJ hNJ hz
      have k24 : k < 24 := by omega
      have hz9 := (hNJ.1 k k24).1
      have hz96 := (hV.1 k k24).2.1
      have z0 : J 264 k = 0 ↔ bZ β k = 0 := by rw [hz9]; exact nI_eq (b := 0) (by omega) (by decide)
      have no : ∀ (J2 : Nat → Nat → Int32), (∀ o, o ≠ 359 → o ≠ 360 → J2 o = I o) → RBN β J2 → (anyB 24 (fun v => bt (rd k) v && vr β t v) && (X (bO β t) k && decide (bZ β k ≠ 0))) = false → j_W 262 d 0 0 0 0 16 [some (.ref 260), some (.int (nI t)), some (.int z), some (.int y), some (.int (nI (k + 1)))] [] w1 (J2, D, RR R) Q := fun J2 h1 h2 h => ih (k + 1) J2 z (by omega) h1 h2 (fun c hc => by
        rw [hz c hc]
        by_cases e : c = k
        · subst e; rw [h, Bool.and_false, Bool.and_false]
        · by_cases e2 : c < k
          · rw [decide_eq_true e2, decide_eq_true (show c < k + 1 by omega)]
          · rw [decide_eq_false e2, decide_eq_false (show ¬ c < k + 1 by omega)])
      have hv : ∀ {J2 : Nat → Nat → Int32}, RBN β J2 → (((rd k) &&& (rvy J2 t)) = 0 ↔ anyB 24 (fun v => bt (rd k) v && vr β t v) = false) := fun {J2} hN2 => by
        rw [and_0]
        constructor
        · intro h
          rw [Bool.eq_false_iff]
          intro h3
          obtain ⟨v, w1', w2⟩ := anyB_iff.mp h3
          have := h v (by omega)
          rw [rvy_b hV hN2 ht hl (by omega)] at this
          rw [this] at w2; cases w2
        · intro h v hv
          rw [rvy_b hV hN2 ht hl hv]
          by_cases v24 : v < 24
          · cases h3 : (bt (rd k) v && vr β t v) with
            | false => rfl
            | true => rw [anyB_iff.mpr ⟨v, v24, h3⟩] at h; cases h
          · have : vr β t v = false := by
              unfold vr
              rw [decide_eq_false (by omega), decide_eq_false (fun e => by have := (v4 v e).1; omega)]; rfl
            rw [this, Bool.and_false]
      refine u262h (β := β) (rd := rd) hV ht (by omega) (by omega) (fun h => absurd h (by omega)) (fun _ h => no J hJ hNJ ?_) (fun _ _ _ => hE) (fun _ _ _ => k24) (fun _ _ _ => Nat.le_refl _) (fun _ _ _ => hNJ) (fun _ _ _ J2 f1 f2 h => no J2 (fun o a b => (f1 o a b).trans (hJ o a b)) f2 ?_) (fun _ h h3 J2 f1 f2 h4 => ih (k + 1) J2 _ (by omega) (fun o a b => (f1 o a b).trans (hJ o a b)) f2 (fun c hc => ?_)) (fun _ _ h => no J hJ hNJ ?_)
      · have := n1_f (by omega) h
        rw [hy k (by omega)] at this
        rw [this, Bool.false_and, Bool.and_false]
      · rw [(hv f2).mp h, Bool.false_and]
      · have hx : X (bO β t) k = true := by rw [← hy k (by omega)]; exact (hn_1 (by omega)).mp h
        have ha : anyB 24 (fun v => bt (rd k) v && vr β t v) = true := by
          cases h5 : anyB 24 (fun v => bt (rd k) v && vr β t v) with
          | true => rfl
          | false => exact absurd ((hv f2).mpr h5) h4
        rw [b_or, bt_one (by omega) hc, hz c hc]
        by_cases e : c = k
        · subst e
          rw [decide_eq_true rfl, Bool.or_true, decide_eq_true (show c < c + 1 by omega), ha, hx, decide_eq_true (show bZ β c ≠ 0 from fun q => h3 (z0.mpr q))]; rfl
        · rw [decide_eq_false e, Bool.or_false]
          by_cases e2 : c < k
          · rw [decide_eq_true e2, decide_eq_true (show c < k + 1 by omega)]
          · rw [decide_eq_false e2, decide_eq_false (show ¬ c < k + 1 by omega)]
      · rw [decide_eq_false (show ¬ bZ β k ≠ 0 from fun q => q (z0.mp h)), Bool.and_false, Bool.and_false]
  exact key 24 0 I 0 rfl (fun _ _ _ => rfl) hN (fun c hc => by rw [b_0, decide_eq_false (Nat.not_lt_zero c)]; rfl)
end LR
