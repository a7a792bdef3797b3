/-! the reference: too heavy -/
set_option maxRecDepth 10000 in
set_option maxHeartbeats 4000000 in
theorem s183e {d : Nat} {I : Nat → Nat → Int32} {D : Nat → Nat → UInt64} {R : Nat → Nat → Option Nat} {Q : j_Po} {c : Nat}  (hc : c < 24) (hd : 1 ≤ d)
    (v1 : j_W 183 d 0 0 0 0 2 [some (.ref 260), some (.int (nI c)), some (.int 0)] [] w1 (I, D, RR R) Q) : j_Call d 183 [.ref 260, .int (nI c)] w1 (I, D, RR R) 0 0 Q := by
  refine q_enter (L := [some (.ref 260), some (.int (nI c)), none]) j_m183 (Nat.le_of_ble_eq_true rfl) rfl ?_
  refine q_iconst (v := 0) (by decide) d183_0 ?_
  refine q_istore_n (L' := [some (.ref 260), some (.int (nI c)), some (.int 0)]) d183_1 (Nat.le_of_ble_eq_true rfl) rfl ?_
  exact r_sub (L' := [some (.ref 260), some (.int (nI c)), some (.int 0)]) ⟨rfl, rfl, rfl, trivial⟩ v1

set_option maxRecDepth 10000 in
set_option maxHeartbeats 4000000 in
theorem s183h {d : Nat} {I : Nat → Nat → Int32} {D : Nat → Nat → UInt64} {R : Nat → Nat → Option Nat} {Q : j_Po} {c : Nat} {k : Nat} {β : Bd} {bv ρ : Nat → Nat} (hc : c < 24) (hk : k ≤ 24) (hrec : BuC β bv ρ 30) (hd : 1 ≤ d)
    (v1 : (24 ≤ k) → c < 24)
    (v2 : (24 ≤ k) → ρ c < 30)
    (v3 : (24 ≤ k) → 2 * ρ c + 6 ≤ d - 1)
    (v4 : (24 ≤ k) → MBu bv I)
    (v5 : (24 ≤ k) → RBN β I)
    (v6 : (24 ≤ k) → ∀ J2 : Nat → Nat → Int32, ∀ b3 : Nat, (∀ o, o ≠ 361 → o ≠ 362 → J2 o = I o) → (MBu bv J2) → (RBN β J2) → (b3 ≤ 1000000) → (min 2001 b3 = bv c) → Q (some (.int (nI b3))) w1 (J2, D, RR R))
    (v7 : (¬ 24 ≤ k) → j_W 183 d 0 0 0 0 2 [some (.ref 260), some (.int (nI c)), some (.int (nI (k + 1)))] [] w1 ((j_u I 361 k 0), D, RR R) Q) : j_W 183 d 0 0 0 0 2 [some (.ref 260), some (.int (nI c)), some (.int (nI k))] [] w1 (I, D, RR R) Q := by
  refine q_iload_n d183_2 rfl ?_
  refine q_bipush (v := 24) (by decide) d183_3 ?_
  refine q_icmp_ge (tgt := 21) d183_5 rfl (fun h1t => ?_) (fun h1f => ?_)
  ·
    have h1tc : 24 ≤ k := (nI_leI (by omega) (by omega)).mp h1t
    refine q_aload_n d183_21 rfl ?_
    refine q_iload_n d183_22 rfl ?_
    refine q_invV (o := 260) (ci := 10) (av := [.int (nI c)]) (rest := []) (d' := (d - 1)) (mc' := 0) (ms' := 0) d183_23 (cv10_229 183 rfl) rfl (by decide) rfl rfl (by omega) (Nat.le_of_ble_eq_true rfl) (Nat.le_of_ble_eq_true rfl) (lt_w1 rfl) sh260 (Nat.le_refl _) (Nat.le_refl _) ?_
    refine hrec c (v1 h1tc) (v2 h1tc) (v3 h1tc) (v4 h1tc) (v5 h1tc) (fun J2 b3 j4 j5 j6 j7 j8 => ?_)
    show j_W 183 d 0 0 0 0 26 [some (.ref 260), some (.int (nI c)), some (.int (nI k))] [.int (nI b3)] w1 (J2, D, RR R) Q
    exact q_iret d183_26 rfl (Nat.le_refl _) (Nat.le_refl _) (v6 h1tc J2 b3 j4 j5 j6 j7 j8)
  ·
    have h1fc : ¬ 24 ≤ k := mt (nI_leI (by omega) (by omega)).mpr h1f
    refine q_aload_n d183_8 rfl ?_
    refine q_getR (x := 361) d183_9 (fs10_64 183 rfl) rfl (lt_w1 rfl) sh260 (rs260_16 R) (by decide) ?_
    refine q_iload_n d183_12 rfl ?_
    refine q_iconst (v := 0) (by decide) d183_13 ?_
    refine q_zastore (a := k) d183_14 (Or.inl rfl) (lt_w1 rfl) sh361 rfl (by omega) ?_
    refine q_iinc (L' := [some (.ref 260), some (.int (nI c)), some (.int (nI (k + 1)))]) (v := (nI (k + 1))) d183_15 rfl (nI_inc _) rfl ?_
    refine q_goto (tgt := 2) d183_18 rfl ?_
    exact r_sub (L' := [some (.ref 260), some (.int (nI c)), some (.int (nI (k + 1)))]) ⟨rfl, rfl, rfl, trivial⟩ (v7 h1fc)

section BN
variable {d : Nat} {D : Nat → Nat → UInt64} {R : Nat → Nat → Option Nat} {Q : j_Po} {β : Bd} {X : Nat → Nat → Bool} {bv ρ : Nat → Nat}
theorem l183h (hrec : BuC β bv ρ 30) {c : Nat} (hc : c < 24) (hr : ρ c < 30) (hd : 70 ≤ d) {I0 : Nat → Nat → Int32}
    (hq : ∀ J b, (∀ o, o ≠ 361 → o ≠ 362 → J o = I0 o) → MBu bv J → RBN β J → b ≤ 1000000 → min 2001 b = bv c → Q (some (.int (nI b))) w1 (J, D, RR R)) :
    ∀ (n k : Nat) (I : Nat → Nat → Int32), n + k = 24 → (∀ o, o ≠ 361 → o ≠ 362 → I o = I0 o) → RBN β I → (∀ c, c < k → I 361 c = 0) →
    j_W 183 d 0 0 0 0 2 [some (.ref 260), some (.int (nI c)), some (.int (nI k))] [] w1 (I, D, RR R) Q := by
  intro n
  induction n with
  | zero =>
    intro k I hk h1 h2 h3
    have : k = 24 := by omega
    subst this
    exact s183h hc (by omega) hrec (by omega) (fun _ => hc) (fun _ => hr) (fun _ => by omega) (fun _ c hc h => absurd (h3 c hc) h) (fun _ => h2) (fun _ J b j1 j2 j3 j4 j5 => hq J b (fun o o1 o2 => (j1 o o1 o2).trans (h1 o o1 o2)) j2 j3 j4 j5) (fun h => absurd (by omega) h)
  | succ n ih =>
    intro k I hk h1 h2 h3
    have hf : ∀ o, o ≠ 361 → o ≠ 362 → j_u I 361 k 0 o = I o := fun o o1 o2 => by funext i; rw [j_u_o _ _ _ o1]
    refine s183h hc (by omega) hrec (by omega) (fun h => absurd h (by omega)) (fun h => absurd h (by omega)) (fun h => absurd h (by omega)) (fun h => absurd h (by omega)) (fun h => absurd h (by omega)) (fun h => absurd h (by omega)) (fun _ => ih (k + 1) _ (by omega) (fun o o1 o2 => (hf o o1 o2).trans (h1 o o1 o2)) (h2.put2 hf) (fun c hc => ?_))
    by_cases e : c = k
    · subst e; rw [j_u_same]
    · rw [j_u_k _ _ e]; exact h3 c (by omega)
theorem c183r {I : Nat → Nat → Int32} (hrec : BuC β bv ρ 30) {c : Nat} (hc : c < 24) (hr : ρ c < 30) (hd : 70 ≤ d) (hN : RBN β I) (hq : ∀ J b, (∀ o, o ≠ 361 → o ≠ 362 → J o = I o) → MBu bv J → RBN β J → b ≤ 1000000 → min 2001 b = bv c → Q (some (.int (nI b))) w1 (J, D, RR R)) : j_Call d 183 [.ref 260, .int (nI c)] w1 (I, D, RR R) 0 0 Q :=
  s183e hc (by omega) (l183h hrec hc hr hd hq 24 0 I rfl (fun _ _ _ => rfl) hN (fun c h => absurd h (Nat.not_lt_zero c)))
end BN
set_option maxRecDepth 10000 in
set_option maxHeartbeats 4000000 in
theorem s247e {d : Nat} {I : Nat → Nat → Int32} {D : Nat → Nat → UInt64} {R : Nat → Nat → Option Nat} {Q : j_Po}  {β : Bd} {X : Nat → Nat → Bool} {bv ρ : Nat → Nat} (hV : BV β) (hE : BuE β X bv) (hrec : BuC β bv ρ 30) (hd : 1 ≤ d)
    (v1 : 0 < 24)
    (v2 : ρ 0 < 30)
    (v3 : 70 ≤ d - 1)
    (v4 : RBN β I)
    (v5 : ∀ J1 : Nat → Nat → Int32, ∀ b2 : Nat, (∀ o, o ≠ 361 → o ≠ 362 → J1 o = I o) → (MBu bv J1) → (RBN β J1) → (b2 ≤ 1000000) → (min 2001 b2 = bv 0) → j_W 247 d 0 0 0 0 8 [some (.ref 260), some (.int (nI b2)), some (.int 0)] [] w1 (J1, D, RR R) Q) : j_Call d 247 [.ref 260] w1 (I, D, RR R) 0 0 Q := by
  refine q_enter (L := [some (.ref 260), none, none]) j_m247 (Nat.le_of_ble_eq_true rfl) rfl ?_
  refine q_aload_n d247_0 rfl ?_
  refine q_iconst (v := 0) (by decide) d247_1 ?_
  refine q_invV (o := 260) (ci := 10) (av := [.int 0]) (rest := []) (d' := (d - 1)) (mc' := 0) (ms' := 0) d247_2 (cv10_237 247 rfl) rfl (by decide) rfl rfl (by omega) (Nat.le_of_ble_eq_true rfl) (Nat.le_of_ble_eq_true rfl) (lt_w1 rfl) sh260 (Nat.le_refl _) (Nat.le_refl _) ?_
  refine c183r hrec v1 v2 v3 v4 (fun J1 b2 j3 j4 j5 j6 j7 => ?_)
  show j_W 247 d 0 0 0 0 5 [some (.ref 260), none, none] [.int (nI b2)] w1 (J1, D, RR R) Q
  refine q_istore_n (L' := [some (.ref 260), some (.int (nI b2)), none]) d247_5 (Nat.le_of_ble_eq_true rfl) rfl ?_
  refine q_iconst (v := 0) (by decide) d247_6 ?_
  refine q_istore_n (L' := [some (.ref 260), some (.int (nI b2)), some (.int 0)]) d247_7 (Nat.le_of_ble_eq_true rfl) rfl ?_
  exact r_sub (L' := [some (.ref 260), some (.int (nI b2)), some (.int 0)]) ⟨rfl, rfl, rfl, trivial⟩ (v5 J1 b2 j3 j4 j5 j6 j7)

set_option maxRecDepth 10000 in
set_option maxHeartbeats 4000000 in
theorem s247c {d : Nat} {I : Nat → Nat → Int32} {D : Nat → Nat → UInt64} {R : Nat → Nat → Option Nat} {Q : j_Po} {M : Nat} {k : Nat} {β : Bd} {X : Nat → Nat → Bool} {bv ρ : Nat → Nat} (hV : BV β) (hE : BuE β X bv) (hrec : BuC β bv ρ 30) (hk : k ≤ 24) (hd : 1 ≤ d)
    (v1 : (24 ≤ k) → j_W 247 d 0 0 0 0 32 [some (.ref 260), some (.int (nI M)), some (.int 0)] [] w1 (I, D, RR R) Q)
    (v2 : (¬ 24 ≤ k) → k < 24)
    (v3 : (¬ 24 ≤ k) → ρ k < 30)
    (v4 : (¬ 24 ≤ k) → 2 * ρ k + 6 ≤ d - 1)
    (v5 : (¬ 24 ≤ k) → MBu bv I)
    (v6 : (¬ 24 ≤ k) → RBN β I)
    (v7 : (¬ 24 ≤ k) → ∀ J2 : Nat → Nat → Int32, ∀ b3 : Nat, (∀ o, o ≠ 361 → o ≠ 362 → J2 o = I o) → (MBu bv J2) → (RBN β J2) → (b3 ≤ 1000000) → (min 2001 b3 = bv k) → M < 2 ^ 31)
    (v8 : (¬ 24 ≤ k) → ∀ J2 : Nat → Nat → Int32, ∀ b3 : Nat, (∀ o, o ≠ 361 → o ≠ 362 → J2 o = I o) → (MBu bv J2) → (RBN β J2) → (b3 ≤ 1000000) → (min 2001 b3 = bv k) → b3 < 2 ^ 31)
    (v9 : (¬ 24 ≤ k) → ∀ J2 : Nat → Nat → Int32, ∀ b3 : Nat, (∀ o, o ≠ 361 → o ≠ 362 → J2 o = I o) → (MBu bv J2) → (RBN β J2) → (b3 ≤ 1000000) → (min 2001 b3 = bv k) → j_W 247 d 0 0 0 0 8 [some (.ref 260), some (.int (nI (max M b3))), some (.int (nI (k + 1)))] [] w1 (J2, D, RR R) Q) : j_W 247 d 0 0 0 0 8 [some (.ref 260), some (.int (nI M)), some (.int (nI k))] [] w1 (I, D, RR R) Q := by
  refine q_iload_n d247_8 rfl ?_
  refine q_bipush (v := 24) (by decide) d247_9 ?_
  refine q_icmp_ge (tgt := 30) d247_11 rfl (fun h1t => ?_) (fun h1f => ?_)
  ·
    have h1tc : 24 ≤ k := (nI_leI (by omega) (by omega)).mp h1t
    refine q_iconst (v := 0) (by decide) d247_30 ?_
    refine q_istore_n (L' := [some (.ref 260), some (.int (nI M)), some (.int 0)]) d247_31 (Nat.le_of_ble_eq_true rfl) rfl ?_
    exact r_sub (L' := [some (.ref 260), some (.int (nI M)), some (.int 0)]) ⟨rfl, rfl, rfl, trivial⟩ (v1 h1tc)
  ·
    have h1fc : ¬ 24 ≤ k := mt (nI_leI (by omega) (by omega)).mpr h1f
    refine q_iload_n d247_14 rfl ?_
    refine q_aload_n d247_15 rfl ?_
    refine q_iload_n d247_16 rfl ?_
    refine q_invV (o := 260) (ci := 10) (av := [.int (nI k)]) (rest := [.int (nI M)]) (d' := (d - 1)) (mc' := 0) (ms' := 0) d247_17 (cv10_229 247 rfl) rfl (by decide) rfl rfl (by omega) (Nat.le_of_ble_eq_true rfl) (Nat.le_of_ble_eq_true rfl) (lt_w1 rfl) sh260 (Nat.le_refl _) (Nat.le_refl _) ?_
    refine hrec k (v2 h1fc) (v3 h1fc) (v4 h1fc) (v5 h1fc) (v6 h1fc) (fun J2 b3 j4 j5 j6 j7 j8 => ?_)
    show j_W 247 d 0 0 0 0 20 [some (.ref 260), some (.int (nI M)), some (.int (nI k))] [.int (nI b3), .int (nI M)] w1 (J2, D, RR R) Q
    refine q_invS (av := [.int (nI M), .int (nI b3)]) (rest := []) (d' := 0) (mc' := 0) (ms' := 0) d247_20 (cv10_240 247 rfl) rfl rfl (by omega) (Nat.le_of_ble_eq_true rfl) (Nat.le_of_ble_eq_true rfl) (Nat.le_refl _) (Nat.le_refl _) ?_
    refine cmaxI (a := M) (b := b3) (v7 h1fc J2 b3 j4 j5 j6 j7 j8) (v8 h1fc J2 b3 j4 j5 j6 j7 j8) ?_
    show j_W 247 d 0 0 0 0 23 [some (.ref 260), some (.int (nI M)), some (.int (nI k))] [.int (nI (max M b3))] w1 (J2, D, RR R) Q
    refine q_istore_n (L' := [some (.ref 260), some (.int (nI (max M b3))), some (.int (nI k))]) d247_23 (Nat.le_of_ble_eq_true rfl) rfl ?_
    refine q_iinc (L' := [some (.ref 260), some (.int (nI (max M b3))), some (.int (nI (k + 1)))]) (v := (nI (k + 1))) d247_24 rfl (nI_inc _) rfl ?_
    refine q_goto (tgt := 8) d247_27 rfl ?_
    exact r_sub (L' := [some (.ref 260), some (.int (nI (max M b3))), some (.int (nI (k + 1)))]) ⟨rfl, rfl, rfl, trivial⟩ (v9 h1fc J2 b3 j4 j5 j6 j7 j8)

set_option maxRecDepth 10000 in
set_option maxHeartbeats 4000000 in
theorem s247t {d : Nat} {I : Nat → Nat → Int32} {D : Nat → Nat → UInt64} {R : Nat → Nat → Option Nat} {Q : j_Po} {M : Nat} {k : Nat} {β : Bd} {X : Nat → Nat → Bool} {bv ρ : Nat → Nat} (hV : BV β) (hE : BuE β X bv) (hrec : BuC β bv ρ 30) (hk : k ≤ 6) (hM : M ≤ 1000000) (hd : 1 ≤ d)
    (v1 : (6 ≤ k) → (M ≤ 2000) → Q (some (.int 0)) w1 (I, D, RR R))
    (v2 : (6 ≤ k) → (¬ M ≤ 2000) → Q (some (.int 1)) w1 (I, D, RR R))
    (v3 : (¬ 6 ≤ k) → ((I 315 k) = 0) → j_W 247 d 0 0 0 0 32 [some (.ref 260), some (.int (nI M)), some (.int (nI (k + 1)))] [] w1 (I, D, RR R) Q)
    (v4 : (¬ 6 ≤ k) → (¬ (I 315 k) = 0) → k < 6)
    (v5 : (¬ 6 ≤ k) → (¬ (I 315 k) = 0) → bL β k = true)
    (v6 : (¬ 6 ≤ k) → (¬ (I 315 k) = 0) → ρ (bO β k) < 30)
    (v7 : (¬ 6 ≤ k) → (¬ (I 315 k) = 0) → 2 * ρ (bO β k) + 7 ≤ d - 1)
    (v8 : (¬ 6 ≤ k) → (¬ (I 315 k) = 0) → MBu bv I)
    (v9 : (¬ 6 ≤ k) → (¬ (I 315 k) = 0) → RBN β I)
    (v10 : (¬ 6 ≤ k) → (¬ (I 315 k) = 0) → ∀ J4 : Nat → Nat → Int32, ∀ b5 : Nat, (∀ o, o ≠ 361 → o ≠ 362 → J4 o = I o) → (MBu bv J4) → (RBN β J4) → (b5 ≤ 1000000) → (min 2001 b5 = bv (24 + k)) → M < 2 ^ 31)
    (v11 : (¬ 6 ≤ k) → (¬ (I 315 k) = 0) → ∀ J4 : Nat → Nat → Int32, ∀ b5 : Nat, (∀ o, o ≠ 361 → o ≠ 362 → J4 o = I o) → (MBu bv J4) → (RBN β J4) → (b5 ≤ 1000000) → (min 2001 b5 = bv (24 + k)) → b5 < 2 ^ 31)
    (v12 : (¬ 6 ≤ k) → (¬ (I 315 k) = 0) → ∀ J4 : Nat → Nat → Int32, ∀ b5 : Nat, (∀ o, o ≠ 361 → o ≠ 362 → J4 o = I o) → (MBu bv J4) → (RBN β J4) → (b5 ≤ 1000000) → (min 2001 b5 = bv (24 + k)) → j_W 247 d 0 0 0 0 32 [some (.ref 260), some (.int (nI (max M b5))), some (.int (nI (k + 1)))] [] w1 (J4, D, RR R) Q) : j_W 247 d 0 0 0 0 32 [some (.ref 260), some (.int (nI M)), some (.int (nI k))] [] w1 (I, D, RR R) Q := by
  refine q_iload_n d247_32 rfl ?_
  refine q_bipush (v := 6) (by decide) d247_33 ?_
  refine q_icmp_ge (tgt := 63) d247_35 rfl (fun h1t => ?_) (fun h1f => ?_)
  ·
    have h1tc : 6 ≤ k := (nI_leI (by omega) (by omega)).mp h1t
    refine q_iload_n d247_63 rfl ?_
    refine q_sipush (v := 2000) (by decide) d247_64 ?_
    refine q_icmp_le (tgt := 74) d247_67 rfl (fun h2t => ?_) (fun h2f => ?_)
    ·
      have h2tc : M ≤ 2000 := (nI_leI (by omega) (by omega)).mp h2t
      refine q_iconst (v := 0) (by decide) d247_74 ?_
      exact q_zret d247_75 rfl (Or.inl rfl) (Nat.le_refl _) (Nat.le_refl _) (v1 h1tc h2tc)
    ·
      have h2fc : ¬ M ≤ 2000 := mt (nI_leI (by omega) (by omega)).mpr h2f
      refine q_iconst (v := 1) (by decide) d247_70 ?_
      refine q_goto (tgt := 75) d247_71 rfl ?_
      exact q_zret d247_75 rfl (Or.inr rfl) (Nat.le_refl _) (Nat.le_refl _) (v2 h1tc h2fc)
  ·
    have h1fc : ¬ 6 ≤ k := mt (nI_leI (by omega) (by omega)).mpr h1f
    refine q_aload_n d247_38 rfl ?_
    refine q_getR (x := 315) d247_39 (fs10_34 247 rfl) rfl (lt_w1 rfl) sh260 (rs260_6 R) (by decide) ?_
    refine q_iload_n d247_42 rfl ?_
    refine q_zaload (a := k) d247_43 (lt_w1 rfl) sh315 rfl (by omega) ?_
    refine q_if_eq (tgt := 57) d247_44 rfl (fun h3t => ?_) (fun h3f => ?_)
    ·
      refine q_iinc (L' := [some (.ref 260), some (.int (nI M)), some (.int (nI (k + 1)))]) (v := (nI (k + 1))) d247_57 rfl (nI_inc _) rfl ?_
      refine q_goto (tgt := 32) d247_60 rfl ?_
      exact r_sub (L' := [some (.ref 260), some (.int (nI M)), some (.int (nI (k + 1)))]) ⟨rfl, rfl, rfl, trivial⟩ (v3 h1fc h3t)
    ·
      refine q_iload_n d247_47 rfl ?_
      refine q_aload_n d247_48 rfl ?_
      refine q_iload_n d247_49 rfl ?_
      refine q_invV (o := 260) (ci := 10) (av := [.int (nI k)]) (rest := [.int (nI M)]) (d' := (d - 1)) (mc' := 0) (ms' := 0) d247_50 (cv10_217 247 rfl) rfl (by decide) rfl rfl (by omega) (Nat.le_of_ble_eq_true rfl) (Nat.le_of_ble_eq_true rfl) (lt_w1 rfl) sh260 (Nat.le_refl _) (Nat.le_refl _) ?_
      refine c185 hV hE hrec (v4 h1fc h3f) (v5 h1fc h3f) (v6 h1fc h3f) (v7 h1fc h3f) (v8 h1fc h3f) (v9 h1fc h3f) (fun J4 b5 j6 j7 j8 j9 j10 => ?_)
      show j_W 247 d 0 0 0 0 53 [some (.ref 260), some (.int (nI M)), some (.int (nI k))] [.int (nI b5), .int (nI M)] w1 (J4, D, RR R) Q
      refine q_invS (av := [.int (nI M), .int (nI b5)]) (rest := []) (d' := 0) (mc' := 0) (ms' := 0) d247_53 (cv10_240 247 rfl) rfl rfl (by omega) (Nat.le_of_ble_eq_true rfl) (Nat.le_of_ble_eq_true rfl) (Nat.le_refl _) (Nat.le_refl _) ?_
      refine cmaxI (a := M) (b := b5) (v10 h1fc h3f J4 b5 j6 j7 j8 j9 j10) (v11 h1fc h3f J4 b5 j6 j7 j8 j9 j10) ?_
      show j_W 247 d 0 0 0 0 56 [some (.ref 260), some (.int (nI M)), some (.int (nI k))] [.int (nI (max M b5))] w1 (J4, D, RR R) Q
      refine q_istore_n (L' := [some (.ref 260), some (.int (nI (max M b5))), some (.int (nI k))]) d247_56 (Nat.le_of_ble_eq_true rfl) rfl ?_
      refine q_iinc (L' := [some (.ref 260), some (.int (nI (max M b5))), some (.int (nI (k + 1)))]) (v := (nI (k + 1))) d247_57 rfl (nI_inc _) rfl ?_
      refine q_goto (tgt := 32) d247_60 rfl ?_
      exact r_sub (L' := [some (.ref 260), some (.int (nI (max M b5))), some (.int (nI (k + 1)))]) ⟨rfl, rfl, rfl, trivial⟩ (v12 h1fc h3f J4 b5 j6 j7 j8 j9 j10)

section TM
variable {d : Nat} {D : Nat → Nat → UInt64} {R : Nat → Nat → Option Nat} {Q : j_Po} {β : Bd} {X : Nat → Nat → Bool} {bv ρ : Nat → Nat}
theorem min_hv {b v M : Nat} (h : min 2001 b = v) : 2000 < max M b ↔ 2000 < M ∨ 2000 < v := by omega
theorem l247t (hV : BV β) (hE : BuE β X bv) (hrec : BuC β bv ρ 30) (hb : ∀ u, u < 30 → ρ u < 30) (hd : 80 ≤ d) {I0 : Nat → Nat → Int32}
    (h1q : (∃ v, v < 30 ∧ 2000 < bv v) → ∀ J, (∀ o, o ≠ 361 → o ≠ 362 → J o = I0 o) → RBN β J → Q (some (.int 1)) w1 (J, D, RR R)) (h0q : (∀ v, v < 30 → bv v ≤ 2000) → ∀ J, (∀ o, o ≠ 361 → o ≠ 362 → J o = I0 o) → RBN β J → Q (some (.int 0)) w1 (J, D, RR R)) :
    ∀ (n k M : Nat) (I : Nat → Nat → Int32), n + k = 6 → (∀ o, o ≠ 361 → o ≠ 362 → I o = I0 o) → MBu bv I → RBN β I → M ≤ 1000000 → (2000 < M ↔ ∃ v, v < 24 + k ∧ 2000 < bv v) →
    j_W 247 d 0 0 0 0 32 [some (.ref 260), some (.int (nI M)), some (.int (nI k))] [] w1 (I, D, RR R) Q := by
  intro n
  induction n with
  | zero =>
    intro k M I hk h1 h2 h3 h4 h5
    have : k = 6 := by omega
    subst this
    refine s247t hV hE hrec (by omega) h4 (by omega) (fun _ g => h0q (fun v hv => ?_) I h1 h3) (fun _ g => h1q (h5.mp (by omega)) I h1 h3) (fun h => absurd (by omega) h) (fun h => absurd (by omega) h) (fun h => absurd (by omega) h) (fun h => absurd (by omega) h) (fun h => absurd (by omega) h) (fun h => absurd (by omega) h) (fun h => absurd (by omega) h) (fun h => absurd (by omega) h) (fun h => absurd (by omega) h) (fun h => absurd (by omega) h)
    exact Nat.le_of_not_lt fun hc => absurd (h5.mpr ⟨v, hv, hc⟩) (by omega)
  | succ n ih =>
    intro k M I hk h1 h2 h3 h4 h5
    have hk6 : k < 6 := by omega
    have lay : ¬ I 315 k = 0 → bL β k = true := fun h => by
      cases hl : bL β k with
      | true => rfl
      | false => exact absurd ((h3.lay hk6).mpr hl) h
    have ro : ¬ I 315 k = 0 → ρ (bO β k) < 30 := fun h => hb _ (by have := (hV.2.1 k hk6 (lay h)).1; omega)
    refine s247t hV hE hrec (by omega) h4 (by omega) (fun h => absurd h (by omega)) (fun h => absurd h (by omega)) (fun _ a => ih (k + 1) M I (by omega) h1 h2 h3 h4 ?_) (fun _ _ => hk6) (fun _ a => lay a) (fun _ a => ro a) (fun _ a => by have := ro a; omega) (fun _ _ => h2) (fun _ _ => h3) (fun _ _ J b j1 j2 j3 j4 j5 => by omega) (fun _ _ J b j1 j2 j3 j4 j5 => by omega) (fun _ a J b j1 j2 j3 j4 j5 => ih (k + 1) _ J (by omega) (fun o o1 o2 => (j1 o o1 o2).trans (h1 o o1 o2)) j2 j3 (by omega) ?_)
    · rw [h5]
      have hz : bv (24 + k) = 0 := by rw [hE.2 k hk6, (h3.lay hk6).mp a, if_neg (by decide)]
      constructor
      · rintro ⟨v, hv, h⟩; exact ⟨v, by omega, h⟩
      · rintro ⟨v, hv, h⟩
        rcases Nat.lt_or_ge v (24 + k) with h6 | h6
        · exact ⟨v, h6, h⟩
        · rw [show v = 24 + k by omega, hz] at h; omega
    · rw [min_hv j5, h5]
      constructor
      · rintro (⟨v, hv, h⟩ | h)
        · exact ⟨v, by omega, h⟩
        · exact ⟨24 + k, by omega, h⟩
      · rintro ⟨v, hv, h⟩
        rcases Nat.lt_or_ge v (24 + k) with h6 | h6
        · exact Or.inl ⟨v, h6, h⟩
        · rw [show v = 24 + k by omega] at h; exact Or.inr h
theorem l247c (hV : BV β) (hE : BuE β X bv) (hrec : BuC β bv ρ 30) (hb : ∀ u, u < 30 → ρ u < 30) (hd : 80 ≤ d) {I0 : Nat → Nat → Int32}
    (K : ∀ I M, (∀ o, o ≠ 361 → o ≠ 362 → I o = I0 o) → MBu bv I → RBN β I → M ≤ 1000000 → (2000 < M ↔ ∃ v, v < 24 + 0 ∧ 2000 < bv v) → j_W 247 d 0 0 0 0 32 [some (.ref 260), some (.int (nI M)), some (.int (nI 0))] [] w1 (I, D, RR R) Q) :
    ∀ (n k M : Nat) (I : Nat → Nat → Int32), n + k = 24 → (∀ o, o ≠ 361 → o ≠ 362 → I o = I0 o) → MBu bv I → RBN β I → M ≤ 1000000 → (2000 < M ↔ 2000 < bv 0 ∨ ∃ v, v < k ∧ 2000 < bv v) →
    j_W 247 d 0 0 0 0 8 [some (.ref 260), some (.int (nI M)), some (.int (nI k))] [] w1 (I, D, RR R) Q := by
  intro n
  induction n with
  | zero =>
    intro k M I hk h1 h2 h3 h4 h5
    have : k = 24 := by omega
    subst this
    refine s247c hV hE hrec (by omega) (by omega) (fun _ => K I M h1 h2 h3 h4 ?_) (fun h => absurd (by omega) h) (fun h => absurd (by omega) h) (fun h => absurd (by omega) h) (fun h => absurd (by omega) h) (fun h => absurd (by omega) h) (fun h => absurd (by omega) h) (fun h => absurd (by omega) h) (fun h => absurd (by omega) h)
    rw [h5]
    exact ⟨fun h => h.elim (fun h => ⟨0, by omega, h⟩) id, Or.inr⟩
  | succ n ih =>
    intro k M I hk h1 h2 h3 h4 h5
    have hk24 : k < 24 := by omega
    have hr := hb k (by omega)
    refine s247c hV hE hrec (by omega) (by omega) (fun h => absurd h (by omega)) (fun _ => hk24) (fun _ => hr) (fun _ => by omega) (fun _ => h2) (fun _ => h3) (fun _ J b j1 j2 j3 j4 j5 => by omega) (fun _ J b j1 j2 j3 j4 j5 => by omega) (fun _ J b j1 j2 j3 j4 j5 => ih (k + 1) _ J (by omega) (fun o o1 o2 => (j1 o o1 o2).trans (h1 o o1 o2)) j2 j3 (by omega) ?_)
    rw [min_hv j5, h5]
    constructor
    · rintro ((h | ⟨v, hv, h⟩) | h)
      · exact Or.inl h
      · exact Or.inr ⟨v, by omega, h⟩
      · exact Or.inr ⟨k, by omega, h⟩
    · rintro (h | ⟨v, hv, h⟩)
      · exact Or.inl (Or.inl h)
      · rcases Nat.lt_or_ge v k with h6 | h6
        · exact Or.inl (Or.inr ⟨v, h6, h⟩)
        · rw [show v = k by omega] at h; exact Or.inr h
theorem c247 {I : Nat → Nat → Int32} (hV : BV β) (hX : RcE β X) (hE : BuE β X bv) (hd : 80 ≤ d) (hN : RBN β I)
    (h1q : (∃ v, v < 30 ∧ 2000 < bv v) → ∀ J, (∀ o, o ≠ 361 → o ≠ 362 → J o = I o) → RBN β J → Q (some (.int 1)) w1 (J, D, RR R)) (h0q : (∀ v, v < 30 → bv v ≤ 2000) → ∀ J, (∀ o, o ≠ 361 → o ≠ 362 → J o = I o) → RBN β J → Q (some (.int 0)) w1 (J, D, RR R)) : j_Call d 247 [.ref 260] w1 (I, D, RR R) 0 0 Q := by
  obtain ⟨ρ, hb, hρ⟩ := rank_b hV.2.2
  have hrec : BuC β bv ρ 30 := buC hV hρ hX hE 30
  refine s247e hV hE hrec (by omega) (by omega) (hb 0 (by omega)) (by omega) hN (fun J b j1 j2 j3 j4 j5 => ?_)
  exact l247c hV hE hrec hb hd (fun I M h1 h2 h3 h4 h5 => l247t hV hE hrec hb hd h1q h0q 6 0 M I rfl h1 h2 h3 h4 h5) 24 0 b J rfl j1 j2 j3 j4 (by
    have := min_hv (M := 0) j5
    rw [Nat.zero_max] at this
    rw [this]
    constructor
    · rintro (h | h)
      · omega
      · exact Or.inl h
    · rintro (h | ⟨v, hv, h⟩)
      · exact Or.inr h
      · omega)
theorem c183 {I : Nat → Nat → Int32} (hV : BV β) (hX : RcE β X) (hE : BuE β X bv) (hd : 80 ≤ d) {c : Nat} (hc : c < 24) (hN : RBN β I) (hq : ∀ J b, (∀ o, o ≠ 361 → o ≠ 362 → J o = I o) → MBu bv J → RBN β J → b ≤ 1000000 → min 2001 b = bv c → Q (some (.int (nI b))) w1 (J, D, RR R)) : j_Call d 183 [.ref 260, .int (nI c)] w1 (I, D, RR R) 0 0 Q := by
  obtain ⟨ρ, hb, hρ⟩ := rank_b hV.2.2
  exact c183r (buC hV hρ hX hE 30) hc (hb c (by omega)) (by omega) hN hq
theorem c185t {I : Nat → Nat → Int32} (hV : BV β) (hX : RcE β X) (hE : BuE β X bv) (hd : 80 ≤ d) {t : Nat} (ht : t < 6) (hl : bL β t = true) (hM : MBu bv I) (hN : RBN β I) (hq : ∀ J b, (∀ o, o ≠ 361 → o ≠ 362 → J o = I o) → MBu bv J → RBN β J → b ≤ 1000000 → min 2001 b = bv (24 + t) → Q (some (.int (nI b))) w1 (J, D, RR R)) : j_Call d 185 [.ref 260, .int (nI t)] w1 (I, D, RR R) 0 0 Q := by
  obtain ⟨ρ, hb, hρ⟩ := rank_b hV.2.2
  have ho := hb (bO β t) (by have := (hV.2.1 t ht hl).1; omega)
  exact c185 hV hE (buC hV hρ hX hE 30) ht hl ho (by omega) hM hN hq
end TM
