/-! the reference: next -/
theorem j_no {d j : Nat} {av : List Value} {w : j_Wd} {τ : j_St} {mc ms : Nat} {Q : j_Po} (h : False) : j_Call d j av w τ mc ms Q := h.elim
set_option maxRecDepth 10000 in
set_option maxHeartbeats 4000000 in
theorem s212e {d : Nat} {I : Nat → Nat → Int32} {D : Nat → Nat → UInt64} {R : Nat → Nat → Option Nat} {Q : j_Po}    (hd : 6 ≤ d)
    (v1 : ((I 260 46) = 0) → j_W 212 d 0 0 0 0 8 [some (.ref 260)] [] w1 (I, D, RR R) Q)
    (v2 : (¬ (I 260 46) = 0) → Q none w1 (I, D, RR R)) : j_Call d 212 [.ref 260] w1 (I, D, RR R) 0 0 Q := by
  refine q_enter (L := [some (.ref 260)]) j_m212 (Nat.le_of_ble_eq_true rfl) rfl ?_
  refine q_aload_n d212_0 rfl ?_
  refine q_getI d212_1 (fs10_357 212 rfl) rfl (lt_w1 rfl) sh260 ?_
  refine q_if_eq (tgt := 8) d212_4 rfl (fun h1t => ?_) (fun h1f => ?_)
  ·
    exact r_sub (L' := [some (.ref 260)]) ⟨rfl, trivial⟩ (v1 h1t)
  ·
    exact q_ret d212_7 rfl (Nat.le_refl _) (Nat.le_refl _) (v2 h1f)

set_option maxRecDepth 10000 in
set_option maxHeartbeats 4000000 in
theorem s212h {d : Nat} {I : Nat → Nat → Int32} {D : Nat → Nat → UInt64} {R : Nat → Nat → Option Nat} {Q : j_Po}  {T : Nat → Nat} {n p : Nat} (hT : TR T n I) (hp : I 260 39 = nI p) (hpn : p ≤ n) (hn9 : n ≤ 96) (hTp : p < n → T p < 256) (hd : 6 ≤ d)
    (v1 : TR T n I)
    (v2 : p < 200)
    (v3 : (p < n) → ((T p) = 32) → j_W 212 d 0 0 0 0 8 [some (.ref 260)] [] w1 ((j_u I 260 39 (nI (p + 1))), D, RR R) Q)
    (v4 : (p < n) → (¬ (T p) = 32) → (p < n) → (¬ (T p) = 10) → j_W 212 d 0 0 0 0 47 [some (.ref 260)] [] w1 (I, D, RR R) Q)
    (v5 : (p < n) → (¬ (T p) = 32) → (p < n) → ((T p) = 10) → j_W 212 d 0 0 0 0 8 [some (.ref 260)] [] w1 ((j_u I 260 39 (nI (p + 1))), D, RR R) Q)
    (v6 : (p < n) → (¬ (T p) = 32) → (¬ p < n) → j_W 212 d 0 0 0 0 47 [some (.ref 260)] [] w1 (I, D, RR R) Q)
    (v7 : (¬ p < n) → (p < n) → (¬ (T p) = 10) → j_W 212 d 0 0 0 0 47 [some (.ref 260)] [] w1 (I, D, RR R) Q)
    (v8 : (¬ p < n) → (p < n) → ((T p) = 10) → j_W 212 d 0 0 0 0 8 [some (.ref 260)] [] w1 ((j_u I 260 39 (nI (p + 1))), D, RR R) Q)
    (v9 : (¬ p < n) → (¬ p < n) → j_W 212 d 0 0 0 0 47 [some (.ref 260)] [] w1 (I, D, RR R) Q) : j_W 212 d 0 0 0 0 8 [some (.ref 260)] [] w1 (I, D, RR R) Q := by
  refine q_aload_n d212_8 rfl ?_
  refine q_aload_n d212_9 rfl ?_
  refine q_getI d212_10 (fs10_351 212 rfl) rfl (lt_w1 rfl) sh260 ?_
  refine r_int (y := (nI p)) (show I 260 39 = (nI p) from hp) ?_
  refine q_invV (o := 260) (ci := 10) (av := [.int (nI p)]) (rest := []) (d' := 0) (mc' := 0) (ms' := 0) d212_13 (cv10_354 212 rfl) rfl (by decide) rfl rfl (by omega) (Nat.le_of_ble_eq_true rfl) (Nat.le_of_ble_eq_true rfl) (lt_w1 rfl) sh260 (Nat.le_refl _) (Nat.le_refl _) ?_
  refine c213 (T := T) (n := n) v1 v2 (fun h1 => ?_) (fun h1 => ?_)
  ·
    show j_W 212 d 0 0 0 0 16 [some (.ref 260)] [.int (nI (T p))] w1 (I, D, RR R) Q
    refine q_bipush (v := 32) (by decide) d212_16 ?_
    refine q_icmp_eq (tgt := 34) d212_18 rfl (fun h2t => ?_) (fun h2f => ?_)
    ·
      have h2tc : (T p) = 32 := (nI_eqN (by omega) (by omega)).mp h2t
      refine q_aload_n d212_34 rfl ?_
      refine q_dup rfl d212_35 ?_
      refine q_getI d212_36 (fs10_351 212 rfl) rfl (lt_w1 rfl) sh260 ?_
      refine r_int (y := (nI p)) (show I 260 39 = (nI p) from hp) ?_
      refine q_iconst (v := 1) (by decide) d212_39 ?_
      refine q_iadd d212_40 ?_
      refine r_int (y := (nI (p + 1))) (nI_add p 1) ?_
      refine q_putI d212_41 (fs10_351 212 rfl) (Or.inl rfl) rfl (lt_w1 rfl) sh260 ?_
      refine q_goto (tgt := 8) d212_44 rfl ?_
      exact r_sub (L' := [some (.ref 260)]) ⟨rfl, trivial⟩ (v3 h1 h2tc)
    ·
      have h2fc : ¬ (T p) = 32 := mt (nI_eqN (by omega) (by omega)).mpr h2f
      refine q_aload_n d212_21 rfl ?_
      refine q_aload_n d212_22 rfl ?_
      refine q_getI d212_23 (fs10_351 212 rfl) rfl (lt_w1 rfl) sh260 ?_
      refine r_int (y := (nI p)) (show I 260 39 = (nI p) from hp) ?_
      refine q_invV (o := 260) (ci := 10) (av := [.int (nI p)]) (rest := []) (d' := 0) (mc' := 0) (ms' := 0) d212_26 (cv10_354 212 rfl) rfl (by decide) rfl rfl (by omega) (Nat.le_of_ble_eq_true rfl) (Nat.le_of_ble_eq_true rfl) (lt_w1 rfl) sh260 (Nat.le_refl _) (Nat.le_refl _) ?_
      refine c213 (T := T) (n := n) v1 v2 (fun h3 => ?_) (fun h3 => ?_)
      ·
        show j_W 212 d 0 0 0 0 29 [some (.ref 260)] [.int (nI (T p))] w1 (I, D, RR R) Q
        refine q_bipush (v := 10) (by decide) d212_29 ?_
        refine q_icmp_ne (tgt := 47) d212_31 rfl (fun h4t => ?_) (fun h4f => ?_)
        ·
          have h4tc : ¬ (T p) = 10 := mt (nI_eqN (by omega) (by omega)).mpr h4t
          exact r_sub (L' := [some (.ref 260)]) ⟨rfl, trivial⟩ (v4 h1 h2fc h3 h4tc)
        ·
          have h4fc : (T p) = 10 := (nI_eqN (by omega) (by omega)).mp h4f
          refine q_aload_n d212_34 rfl ?_
          refine q_dup rfl d212_35 ?_
          refine q_getI d212_36 (fs10_351 212 rfl) rfl (lt_w1 rfl) sh260 ?_
          refine r_int (y := (nI p)) (show I 260 39 = (nI p) from hp) ?_
          refine q_iconst (v := 1) (by decide) d212_39 ?_
          refine q_iadd d212_40 ?_
          refine r_int (y := (nI (p + 1))) (nI_add p 1) ?_
          refine q_putI d212_41 (fs10_351 212 rfl) (Or.inl rfl) rfl (lt_w1 rfl) sh260 ?_
          refine q_goto (tgt := 8) d212_44 rfl ?_
          exact r_sub (L' := [some (.ref 260)]) ⟨rfl, trivial⟩ (v5 h1 h2fc h3 h4fc)
      ·
        show j_W 212 d 0 0 0 0 29 [some (.ref 260)] [.int (-1)] w1 (I, D, RR R) Q
        refine q_bipush (v := 10) (by decide) d212_29 ?_
        refine q_icmp_ne (tgt := 47) d212_31 rfl (fun _ => ?_) (fun h => absurd h (by decide))
        exact r_sub (L' := [some (.ref 260)]) ⟨rfl, trivial⟩ (v6 h1 h2fc h3)
  ·
    show j_W 212 d 0 0 0 0 16 [some (.ref 260)] [.int (-1)] w1 (I, D, RR R) Q
    refine q_bipush (v := 32) (by decide) d212_16 ?_
    refine q_icmp_eq (tgt := 34) d212_18 rfl (fun h => absurd h (by decide)) (fun _ => ?_)
    refine q_aload_n d212_21 rfl ?_
    refine q_aload_n d212_22 rfl ?_
    refine q_getI d212_23 (fs10_351 212 rfl) rfl (lt_w1 rfl) sh260 ?_
    refine r_int (y := (nI p)) (show I 260 39 = (nI p) from hp) ?_
    refine q_invV (o := 260) (ci := 10) (av := [.int (nI p)]) (rest := []) (d' := 0) (mc' := 0) (ms' := 0) d212_26 (cv10_354 212 rfl) rfl (by decide) rfl rfl (by omega) (Nat.le_of_ble_eq_true rfl) (Nat.le_of_ble_eq_true rfl) (lt_w1 rfl) sh260 (Nat.le_refl _) (Nat.le_refl _) ?_
    refine c213 (T := T) (n := n) v1 v2 (fun h5 => ?_) (fun h5 => ?_)
    ·
      show j_W 212 d 0 0 0 0 29 [some (.ref 260)] [.int (nI (T p))] w1 (I, D, RR R) Q
      refine q_bipush (v := 10) (by decide) d212_29 ?_
      refine q_icmp_ne (tgt := 47) d212_31 rfl (fun h6t => ?_) (fun h6f => ?_)
      ·
        have h6tc : ¬ (T p) = 10 := mt (nI_eqN (by omega) (by omega)).mpr h6t
        exact r_sub (L' := [some (.ref 260)]) ⟨rfl, trivial⟩ (v7 h1 h5 h6tc)
      ·
        have h6fc : (T p) = 10 := (nI_eqN (by omega) (by omega)).mp h6f
        refine q_aload_n d212_34 rfl ?_
        refine q_dup rfl d212_35 ?_
        refine q_getI d212_36 (fs10_351 212 rfl) rfl (lt_w1 rfl) sh260 ?_
        refine r_int (y := (nI p)) (show I 260 39 = (nI p) from hp) ?_
        refine q_iconst (v := 1) (by decide) d212_39 ?_
        refine q_iadd d212_40 ?_
        refine r_int (y := (nI (p + 1))) (nI_add p 1) ?_
        refine q_putI d212_41 (fs10_351 212 rfl) (Or.inl rfl) rfl (lt_w1 rfl) sh260 ?_
        refine q_goto (tgt := 8) d212_44 rfl ?_
        exact r_sub (L' := [some (.ref 260)]) ⟨rfl, trivial⟩ (v8 h1 h5 h6fc)
    ·
      show j_W 212 d 0 0 0 0 29 [some (.ref 260)] [.int (-1)] w1 (I, D, RR R) Q
      refine q_bipush (v := 10) (by decide) d212_29 ?_
      refine q_icmp_ne (tgt := 47) d212_31 rfl (fun _ => ?_) (fun h => absurd h (by decide))
      exact r_sub (L' := [some (.ref 260)]) ⟨rfl, trivial⟩ (v9 h1 h5)

set_option maxRecDepth 10000 in
set_option maxHeartbeats 4000000 in
theorem s212x {d : Nat} {I : Nat → Nat → Int32} {D : Nat → Nat → UInt64} {R : Nat → Nat → Option Nat} {Q : j_Po}  {T : Nat → Nat} {n p : Nat} (hT : TR T n I) (hp : I 260 39 = nI p) (hpn : p ≤ n) (hn9 : n ≤ 96) (hTp : p < n → T p < 256) (hd : 6 ≤ d)
    (v1 : (¬ p = n) → TR T n (j_u I 260 40 (nI p)))
    (v2 : (¬ p = n) → p < 200)
    (v3 : (¬ p = n) → (p < n) → (T p) < 256)
    (v4 : (¬ p = n) → (p < n) → (isLt (T p)) → j_W 212 d 0 0 0 0 97 [some (.ref 260)] [] w1 ((j_u (j_u I 260 40 (nI p)) 260 41 1), D, RR R) Q)
    (v5 : (¬ p = n) → (p < n) → (¬ isLt (T p)) → (j_u I 260 40 (nI p)) 260 39 = nI p)
    (v6 : (¬ p = n) → (p < n) → (¬ isLt (T p)) → p ≤ n)
    (v7 : (¬ p = n) → (p < n) → (¬ isLt (T p)) → 1 ≤ 1)
    (v8 : (¬ p = n) → (p < n) → (¬ isLt (T p)) → (p < n) → (isDg (T p)) → TR T n (j_u (j_u I 260 40 (nI p)) 260 41 2))
    (v9 : (¬ p = n) → (p < n) → (¬ isLt (T p)) → (p < n) → (isDg (T p)) → (j_u (j_u I 260 40 (nI p)) 260 41 2) 260 39 = nI p)
    (v10 : (¬ p = n) → (p < n) → (¬ isLt (T p)) → (p < n) → (isDg (T p)) → (j_u (j_u I 260 40 (nI p)) 260 41 2) 260 40 = nI p)
    (v11 : (¬ p = n) → (p < n) → (¬ isLt (T p)) → (p < n) → (isDg (T p)) → p < n)
    (v12 : (¬ p = n) → (p < n) → (¬ isLt (T p)) → (p < n) → (isDg (T p)) → isDg (T p))
    (v13 : (¬ p = n) → (p < n) → (¬ isLt (T p)) → (p < n) → (isDg (T p)) → 2 ≤ 2)
    (v14 : (¬ p = n) → (p < n) → (¬ isLt (T p)) → (p < n) → (isDg (T p)) → ∀ J6 : Nat → Nat → Int32, ∀ e7 : Nat, ∀ tk8 : Nat × Nat, (LxN T n p e7 tk8) → (RNm (j_u (j_u I 260 40 (nI p)) 260 41 2) J6 e7 tk8) → Q none w1 (J6, D, RR R))
    (v15 : (¬ p = n) → (p < n) → (¬ isLt (T p)) → (¬ (p < n ∧ isDg (T p))) → TR T n (j_u (j_u I 260 40 (nI p)) 260 41 3))
    (v16 : (¬ p = n) → (p < n) → (¬ isLt (T p)) → (¬ (p < n ∧ isDg (T p))) → (p < n) → 3 ≤ 3)
    (v17 : (¬ p = n) → (p < n) → (¬ isLt (T p)) → (¬ (p < n ∧ isDg (T p))) → (p < n) → ∀ k12 : Nat, (k12 < 10) → (isSg (T p)) → (0 ≤ (nI k12)) → Q none w1 ((j_u (j_u (j_u (j_u (j_u I 260 40 (nI p)) 260 41 3) 260 42 (nI (T p))) 260 39 (nI (p + 1))) 260 46 0), D, RR R))
    (v18 : (¬ p = n) → (p < n) → (¬ isLt (T p)) → (¬ (p < n ∧ isDg (T p))) → (p < n) → ∀ k12 : Nat, (k12 < 10) → (isSg (T p)) → (¬ 0 ≤ (nI k12)) → Q none w1 ((j_u (j_u (j_u (j_u (j_u I 260 40 (nI p)) 260 41 3) 260 42 (nI (T p))) 260 39 (nI (p + 1))) 260 46 1), D, RR R))
    (v19 : (¬ p = n) → (p < n) → (¬ isLt (T p)) → (¬ (p < n ∧ isDg (T p))) → (p < n) → (¬ isSg (T p)) → Q none w1 ((j_u (j_u (j_u (j_u (j_u I 260 40 (nI p)) 260 41 3) 260 42 (nI (T p))) 260 39 (nI (p + 1))) 260 46 1), D, RR R))
    (v20 : (¬ p = n) → (p < n) → (¬ isLt (T p)) → (¬ (p < n ∧ isDg (T p))) → (¬ p < n) → False)
    (v21 : (¬ p = n) → (¬ p < n) → (j_u I 260 40 (nI p)) 260 39 = nI p)
    (v22 : (¬ p = n) → (¬ p < n) → p ≤ n)
    (v23 : (¬ p = n) → (¬ p < n) → 1 ≤ 1)
    (v24 : (¬ p = n) → (¬ p < n) → (p < n) → (isDg (T p)) → TR T n (j_u (j_u I 260 40 (nI p)) 260 41 2))
    (v25 : (¬ p = n) → (¬ p < n) → (p < n) → (isDg (T p)) → (j_u (j_u I 260 40 (nI p)) 260 41 2) 260 39 = nI p)
    (v26 : (¬ p = n) → (¬ p < n) → (p < n) → (isDg (T p)) → (j_u (j_u I 260 40 (nI p)) 260 41 2) 260 40 = nI p)
    (v27 : (¬ p = n) → (¬ p < n) → (p < n) → (isDg (T p)) → p < n)
    (v28 : (¬ p = n) → (¬ p < n) → (p < n) → (isDg (T p)) → isDg (T p))
    (v29 : (¬ p = n) → (¬ p < n) → (p < n) → (isDg (T p)) → 2 ≤ 2)
    (v30 : (¬ p = n) → (¬ p < n) → (p < n) → (isDg (T p)) → ∀ J19 : Nat → Nat → Int32, ∀ e20 : Nat, ∀ tk21 : Nat × Nat, (LxN T n p e20 tk21) → (RNm (j_u (j_u I 260 40 (nI p)) 260 41 2) J19 e20 tk21) → Q none w1 (J19, D, RR R))
    (v31 : (¬ p = n) → (¬ p < n) → (¬ (p < n ∧ isDg (T p))) → TR T n (j_u (j_u I 260 40 (nI p)) 260 41 3))
    (v32 : (¬ p = n) → (¬ p < n) → (¬ (p < n ∧ isDg (T p))) → (p < n) → (T p) < 256)
    (v33 : (¬ p = n) → (¬ p < n) → (¬ (p < n ∧ isDg (T p))) → (p < n) → 3 ≤ 3)
    (v34 : (¬ p = n) → (¬ p < n) → (¬ (p < n ∧ isDg (T p))) → (p < n) → ∀ k25 : Nat, (k25 < 10) → (isSg (T p)) → (0 ≤ (nI k25)) → Q none w1 ((j_u (j_u (j_u (j_u (j_u I 260 40 (nI p)) 260 41 3) 260 42 (nI (T p))) 260 39 (nI (p + 1))) 260 46 0), D, RR R))
    (v35 : (¬ p = n) → (¬ p < n) → (¬ (p < n ∧ isDg (T p))) → (p < n) → ∀ k25 : Nat, (k25 < 10) → (isSg (T p)) → (¬ 0 ≤ (nI k25)) → Q none w1 ((j_u (j_u (j_u (j_u (j_u I 260 40 (nI p)) 260 41 3) 260 42 (nI (T p))) 260 39 (nI (p + 1))) 260 46 1), D, RR R))
    (v36 : (¬ p = n) → (¬ p < n) → (¬ (p < n ∧ isDg (T p))) → (p < n) → (¬ isSg (T p)) → Q none w1 ((j_u (j_u (j_u (j_u (j_u I 260 40 (nI p)) 260 41 3) 260 42 (nI (T p))) 260 39 (nI (p + 1))) 260 46 1), D, RR R))
    (v37 : (¬ p = n) → (¬ p < n) → (¬ (p < n ∧ isDg (T p))) → (¬ p < n) → False)
    (v38 : (p = n) → Q none w1 ((j_u (j_u I 260 40 (nI p)) 260 41 0), D, RR R)) : j_W 212 d 0 0 0 0 47 [some (.ref 260)] [] w1 (I, D, RR R) Q := by
  refine q_aload_n d212_47 rfl ?_
  refine q_aload_n d212_48 rfl ?_
  refine q_getI d212_49 (fs10_351 212 rfl) rfl (lt_w1 rfl) sh260 ?_
  refine r_int (y := (nI p)) (show I 260 39 = (nI p) from hp) ?_
  refine q_putI d212_52 (fs10_361 212 rfl) (Or.inl rfl) rfl (lt_w1 rfl) sh260 ?_
  refine q_aload_n d212_55 rfl ?_
  refine q_getI d212_56 (fs10_351 212 rfl) rfl (lt_w1 rfl) sh260 ?_
  refine r_int (y := (nI p)) (show (j_u I 260 40 (nI p)) 260 39 = (nI p) from ((j_u_k _ _ (by decide)).trans hp)) ?_
  refine q_aload_n d212_59 rfl ?_
  refine q_getI d212_60 (fs10_348 212 rfl) rfl (lt_w1 rfl) sh260 ?_
  refine r_int (y := (nI n)) (show (j_u I 260 40 (nI p)) 260 34 = (nI n) from ((j_u_k _ _ (by decide)).trans hT.2.1)) ?_
  refine q_icmp_ne (tgt := 74) d212_63 rfl (fun h1t => ?_) (fun h1f => ?_)
  ·
    have h1tc : ¬ p = n := mt (nI_eqN (by omega) (by omega)).mpr h1t
    refine q_aload_n d212_74 rfl ?_
    refine q_aload_n d212_75 rfl ?_
    refine q_getI d212_76 (fs10_351 212 rfl) rfl (lt_w1 rfl) sh260 ?_
    refine r_int (y := (nI p)) (show (j_u I 260 40 (nI p)) 260 39 = (nI p) from ((j_u_k _ _ (by decide)).trans hp)) ?_
    refine q_invV (o := 260) (ci := 10) (av := [.int (nI p)]) (rest := []) (d' := 0) (mc' := 0) (ms' := 0) d212_79 (cv10_354 212 rfl) rfl (by decide) rfl rfl (by omega) (Nat.le_of_ble_eq_true rfl) (Nat.le_of_ble_eq_true rfl) (lt_w1 rfl) sh260 (Nat.le_refl _) (Nat.le_refl _) ?_
    refine c213 (T := T) (n := n) (v1 h1tc) (v2 h1tc) (fun h2 => ?_) (fun h2 => ?_)
    ·
      show j_W 212 d 0 0 0 0 82 [some (.ref 260)] [.int (nI (T p))] w1 ((j_u I 260 40 (nI p)), D, RR R) Q
      refine q_bipush (v := 97) (by decide) d212_82 ?_
      refine q_bipush (v := 122) (by decide) d212_84 ?_
      refine q_invS (av := [.int (nI (T p)), .int 97, .int 122]) (rest := []) (d' := 0) (mc' := 0) (ms' := 0) d212_86 (cv10_183 212 rfl) rfl rfl (by omega) (Nat.le_of_ble_eq_true rfl) (Nat.le_of_ble_eq_true rfl) (Nat.le_refl _) (Nat.le_refl _) ?_
      refine c168n (lo := 97) (hi := 122) (by decide) (by decide) (v3 h1tc h2) (fun h3 => ?_) (fun h3 => ?_)
      ·
        show j_W 212 d 0 0 0 0 89 [some (.ref 260)] [.int 1] w1 ((j_u I 260 40 (nI p)), D, RR R) Q
        refine q_if_eq (tgt := 174) d212_89 rfl (fun h => absurd h (by decide)) (fun _ => ?_)
        refine q_aload_n d212_92 rfl ?_
        refine q_iconst (v := 1) (by decide) d212_93 ?_
        refine q_putI d212_94 (fs10_364 212 rfl) (Or.inl rfl) rfl (lt_w1 rfl) sh260 ?_
        exact r_sub (L' := [some (.ref 260)]) ⟨rfl, trivial⟩ (v4 h1tc h2 h3)
      ·
        show j_W 212 d 0 0 0 0 89 [some (.ref 260)] [.int 0] w1 ((j_u I 260 40 (nI p)), D, RR R) Q
        refine q_if_eq (tgt := 174) d212_89 rfl (fun _ => ?_) (fun h => absurd h (by decide))
        refine q_aload_n d212_174 rfl ?_
        refine q_invV (o := 260) (ci := 10) (av := []) (rest := []) (d' := 1) (mc' := 0) (ms' := 0) d212_175 (cv10_371 212 rfl) rfl (by decide) rfl rfl (by omega) (Nat.le_of_ble_eq_true rfl) (Nat.le_of_ble_eq_true rfl) (lt_w1 rfl) sh260 (Nat.le_refl _) (Nat.le_refl _) ?_
        refine c216 (T := T) (n := n) (p := p) (v1 h1tc) (v5 h1tc h2 h3) (v6 h1tc h2 h3) (v7 h1tc h2 h3) (fun h4 h5 => ?_) (fun h4 => ?_)
        ·
          show j_W 212 d 0 0 0 0 178 [some (.ref 260)] [.int 1] w1 ((j_u I 260 40 (nI p)), D, RR R) Q
          refine q_if_eq (tgt := 193) d212_178 rfl (fun h => absurd h (by decide)) (fun _ => ?_)
          refine q_aload_n d212_181 rfl ?_
          refine q_iconst (v := 2) (by decide) d212_182 ?_
          refine q_putI d212_183 (fs10_364 212 rfl) (Or.inl rfl) rfl (lt_w1 rfl) sh260 ?_
          refine q_aload_n d212_186 rfl ?_
          refine q_invV (o := 260) (ci := 10) (av := []) (rest := []) (d' := 2) (mc' := 0) (ms' := 0) d212_187 (cv10_375 212 rfl) rfl (by decide) rfl rfl (by omega) (Nat.le_of_ble_eq_true rfl) (Nat.le_of_ble_eq_true rfl) (lt_w1 rfl) sh260 (Nat.le_refl _) (Nat.le_refl _) ?_
          refine c217 (T := T) (n := n) (b := p) (v8 h1tc h2 h3 h4 h5) (v9 h1tc h2 h3 h4 h5) (v10 h1tc h2 h3 h4 h5) (v11 h1tc h2 h3 h4 h5) (v12 h1tc h2 h3 h4 h5) (v13 h1tc h2 h3 h4 h5) (fun J6 e7 tk8 h9 h10 => ?_)
          show j_W 212 d 0 0 0 0 190 [some (.ref 260)] [] w1 (J6, D, RR R) Q
          refine q_goto (tgt := 242) d212_190 rfl ?_
          exact q_ret d212_242 rfl (Nat.le_refl _) (Nat.le_refl _) (v14 h1tc h2 h3 h4 h5 J6 e7 tk8 h9 h10)
        ·
          show j_W 212 d 0 0 0 0 178 [some (.ref 260)] [.int 0] w1 ((j_u I 260 40 (nI p)), D, RR R) Q
          refine q_if_eq (tgt := 193) d212_178 rfl (fun _ => ?_) (fun h => absurd h (by decide))
          refine q_aload_n d212_193 rfl ?_
          refine q_iconst (v := 3) (by decide) d212_194 ?_
          refine q_putI d212_195 (fs10_364 212 rfl) (Or.inl rfl) rfl (lt_w1 rfl) sh260 ?_
          refine q_aload_n d212_198 rfl ?_
          refine q_aload_n d212_199 rfl ?_
          refine q_aload_n d212_200 rfl ?_
          refine q_getI d212_201 (fs10_351 212 rfl) rfl (lt_w1 rfl) sh260 ?_
          refine r_int (y := (nI p)) (show (j_u (j_u I 260 40 (nI p)) 260 41 3) 260 39 = (nI p) from (((j_u_k _ _ (by decide)).trans (j_u_k _ _ (by decide))).trans hp)) ?_
          refine q_invV (o := 260) (ci := 10) (av := [.int (nI p)]) (rest := [.ref 260]) (d' := 0) (mc' := 0) (ms' := 0) d212_204 (cv10_354 212 rfl) rfl (by decide) rfl rfl (by omega) (Nat.le_of_ble_eq_true rfl) (Nat.le_of_ble_eq_true rfl) (lt_w1 rfl) sh260 (Nat.le_refl _) (Nat.le_refl _) ?_
          refine c213 (T := T) (n := n) (v15 h1tc h2 h3 h4) (v2 h1tc) (fun h11 => ?_) (fun h11 => ?_)
          ·
            show j_W 212 d 0 0 0 0 207 [some (.ref 260)] [.int (nI (T p)), .ref 260] w1 ((j_u (j_u I 260 40 (nI p)) 260 41 3), D, RR R) Q
            refine q_putI d212_207 (fs10_378 212 rfl) (Or.inl rfl) rfl (lt_w1 rfl) sh260 ?_
            refine q_aload_n d212_210 rfl ?_
            refine q_dup rfl d212_211 ?_
            refine q_getI d212_212 (fs10_351 212 rfl) rfl (lt_w1 rfl) sh260 ?_
            refine r_int (y := (nI p)) (show (j_u (j_u (j_u I 260 40 (nI p)) 260 41 3) 260 42 (nI (T p))) 260 39 = (nI p) from (((j_u_k _ _ (by decide)).trans ((j_u_k _ _ (by decide)).trans (j_u_k _ _ (by decide)))).trans hp)) ?_
            refine q_iconst (v := 1) (by decide) d212_215 ?_
            refine q_iadd d212_216 ?_
            refine r_int (y := (nI (p + 1))) (nI_add p 1) ?_
            refine q_putI d212_217 (fs10_351 212 rfl) (Or.inl rfl) rfl (lt_w1 rfl) sh260 ?_
            refine q_aload_n d212_220 rfl ?_
            refine q_ldcwS (q := 8) d212_221 (by decide) (by decide +kernel) ?_
            refine q_aload_n d212_224 rfl ?_
            refine q_getI d212_225 (fs10_378 212 rfl) rfl (lt_w1 rfl) sh260 ?_
            refine r_int (y := (nI (T p))) (show (j_u (j_u (j_u (j_u I 260 40 (nI p)) 260 41 3) 260 42 (nI (T p))) 260 39 (nI (p + 1))) 260 42 = (nI (T p)) from ((j_u_k _ _ (by decide)).trans (j_u_same _ _ _ _))) ?_
            refine q_invStr (q := 8) (av := [.int (nI (T p))]) (rest := [.ref 260]) (d' := 3) d212_228 (cv10_383 212 rfl) rfl (by decide : 8 < 9) rfl rfl (by omega) (Nat.le_of_ble_eq_true rfl) (Nat.le_of_ble_eq_true rfl) (Nat.le_refl _) (Nat.le_refl _) ?_
            refine c218 (v3 h1tc h2) (v16 h1tc h2 h3 h4 h11) (fun k12 h13 h14 => ?_) (fun h13 => ?_)
            ·
              show j_W 212 d 0 0 0 0 231 [some (.ref 260)] [.int (nI k12), .ref 260] w1 ((j_u (j_u (j_u (j_u I 260 40 (nI p)) 260 41 3) 260 42 (nI (T p))) 260 39 (nI (p + 1))), D, RR R) Q
              refine q_if_ge (tgt := 238) d212_231 rfl (fun h15t => ?_) (fun h15f => ?_)
              ·
                refine q_iconst (v := 0) (by decide) d212_238 ?_
                refine q_putZ d212_239 (fs10_357 212 rfl) (Or.inl rfl) rfl (Or.inl rfl) (lt_w1 rfl) sh260 ?_
                exact q_ret d212_242 rfl (Nat.le_refl _) (Nat.le_refl _) (v17 h1tc h2 h3 h4 h11 k12 h13 h14 h15t)
              ·
                refine q_iconst (v := 1) (by decide) d212_234 ?_
                refine q_goto (tgt := 239) d212_235 rfl ?_
                refine q_putZ d212_239 (fs10_357 212 rfl) (Or.inl rfl) rfl (Or.inr rfl) (lt_w1 rfl) sh260 ?_
                exact q_ret d212_242 rfl (Nat.le_refl _) (Nat.le_refl _) (v18 h1tc h2 h3 h4 h11 k12 h13 h14 h15f)
            ·
              show j_W 212 d 0 0 0 0 231 [some (.ref 260)] [.int (-1), .ref 260] w1 ((j_u (j_u (j_u (j_u I 260 40 (nI p)) 260 41 3) 260 42 (nI (T p))) 260 39 (nI (p + 1))), D, RR R) Q
              refine q_if_ge (tgt := 238) d212_231 rfl (fun h => absurd h (by decide)) (fun _ => ?_)
              refine q_iconst (v := 1) (by decide) d212_234 ?_
              refine q_goto (tgt := 239) d212_235 rfl ?_
              refine q_putZ d212_239 (fs10_357 212 rfl) (Or.inl rfl) rfl (Or.inr rfl) (lt_w1 rfl) sh260 ?_
              exact q_ret d212_242 rfl (Nat.le_refl _) (Nat.le_refl _) (v19 h1tc h2 h3 h4 h11 h13)
          ·
            show j_W 212 d 0 0 0 0 207 [some (.ref 260)] [.int (-1), .ref 260] w1 ((j_u (j_u I 260 40 (nI p)) 260 41 3), D, RR R) Q
            refine q_putI d212_207 (fs10_378 212 rfl) (Or.inl rfl) rfl (lt_w1 rfl) sh260 ?_
            refine q_aload_n d212_210 rfl ?_
            refine q_dup rfl d212_211 ?_
            refine q_getI d212_212 (fs10_351 212 rfl) rfl (lt_w1 rfl) sh260 ?_
            refine r_int (y := (nI p)) (show (j_u (j_u (j_u I 260 40 (nI p)) 260 41 3) 260 42 (-1)) 260 39 = (nI p) from (((j_u_k _ _ (by decide)).trans ((j_u_k _ _ (by decide)).trans (j_u_k _ _ (by decide)))).trans hp)) ?_
            refine q_iconst (v := 1) (by decide) d212_215 ?_
            refine q_iadd d212_216 ?_
            refine r_int (y := (nI (p + 1))) (nI_add p 1) ?_
            refine q_putI d212_217 (fs10_351 212 rfl) (Or.inl rfl) rfl (lt_w1 rfl) sh260 ?_
            refine q_aload_n d212_220 rfl ?_
            refine q_ldcwS (q := 8) d212_221 (by decide) (by decide +kernel) ?_
            refine q_aload_n d212_224 rfl ?_
            refine q_getI d212_225 (fs10_378 212 rfl) rfl (lt_w1 rfl) sh260 ?_
            refine r_int (y := (-1)) (show (j_u (j_u (j_u (j_u I 260 40 (nI p)) 260 41 3) 260 42 (-1)) 260 39 (nI (p + 1))) 260 42 = (-1) from ((j_u_k _ _ (by decide)).trans (j_u_same _ _ _ _))) ?_
            refine q_invStr (q := 8) (av := [.int (-1)]) (rest := [.ref 260]) (d' := 3) d212_228 (cv10_383 212 rfl) rfl (by decide : 8 < 9) rfl rfl (by omega) (Nat.le_of_ble_eq_true rfl) (Nat.le_of_ble_eq_true rfl) (Nat.le_refl _) (Nat.le_refl _) ?_
            refine j_no (v20 h1tc h2 h3 h4 h11) 
    ·
      show j_W 212 d 0 0 0 0 82 [some (.ref 260)] [.int (-1)] w1 ((j_u I 260 40 (nI p)), D, RR R) Q
      refine q_bipush (v := 97) (by decide) d212_82 ?_
      refine q_bipush (v := 122) (by decide) d212_84 ?_
      refine q_invS (av := [.int (-1), .int 97, .int 122]) (rest := []) (d' := 0) (mc' := 0) (ms' := 0) d212_86 (cv10_183 212 rfl) rfl rfl (by omega) (Nat.le_of_ble_eq_true rfl) (Nat.le_of_ble_eq_true rfl) (Nat.le_refl _) (Nat.le_refl _) ?_
      refine c168m (lo := 97) (hi := 122) (by decide) (by decide) (by decide)  ?_
      show j_W 212 d 0 0 0 0 89 [some (.ref 260)] [.int 0] w1 ((j_u I 260 40 (nI p)), D, RR R) Q
      refine q_if_eq (tgt := 174) d212_89 rfl (fun _ => ?_) (fun h => absurd h (by decide))
      refine q_aload_n d212_174 rfl ?_
      refine q_invV (o := 260) (ci := 10) (av := []) (rest := []) (d' := 1) (mc' := 0) (ms' := 0) d212_175 (cv10_371 212 rfl) rfl (by decide) rfl rfl (by omega) (Nat.le_of_ble_eq_true rfl) (Nat.le_of_ble_eq_true rfl) (lt_w1 rfl) sh260 (Nat.le_refl _) (Nat.le_refl _) ?_
      refine c216 (T := T) (n := n) (p := p) (v1 h1tc) (v21 h1tc h2) (v22 h1tc h2) (v23 h1tc h2) (fun h17 h18 => ?_) (fun h17 => ?_)
      ·
        show j_W 212 d 0 0 0 0 178 [some (.ref 260)] [.int 1] w1 ((j_u I 260 40 (nI p)), D, RR R) Q
        refine q_if_eq (tgt := 193) d212_178 rfl (fun h => absurd h (by decide)) (fun _ => ?_)
        refine q_aload_n d212_181 rfl ?_
        refine q_iconst (v := 2) (by decide) d212_182 ?_
        refine q_putI d212_183 (fs10_364 212 rfl) (Or.inl rfl) rfl (lt_w1 rfl) sh260 ?_
        refine q_aload_n d212_186 rfl ?_
        refine q_invV (o := 260) (ci := 10) (av := []) (rest := []) (d' := 2) (mc' := 0) (ms' := 0) d212_187 (cv10_375 212 rfl) rfl (by decide) rfl rfl (by omega) (Nat.le_of_ble_eq_true rfl) (Nat.le_of_ble_eq_true rfl) (lt_w1 rfl) sh260 (Nat.le_refl _) (Nat.le_refl _) ?_
        refine c217 (T := T) (n := n) (b := p) (v24 h1tc h2 h17 h18) (v25 h1tc h2 h17 h18) (v26 h1tc h2 h17 h18) (v27 h1tc h2 h17 h18) (v28 h1tc h2 h17 h18) (v29 h1tc h2 h17 h18) (fun J19 e20 tk21 h22 h23 => ?_)
        show j_W 212 d 0 0 0 0 190 [some (.ref 260)] [] w1 (J19, D, RR R) Q
        refine q_goto (tgt := 242) d212_190 rfl ?_
        exact q_ret d212_242 rfl (Nat.le_refl _) (Nat.le_refl _) (v30 h1tc h2 h17 h18 J19 e20 tk21 h22 h23)
      ·
        show j_W 212 d 0 0 0 0 178 [some (.ref 260)] [.int 0] w1 ((j_u I 260 40 (nI p)), D, RR R) Q
        refine q_if_eq (tgt := 193) d212_178 rfl (fun _ => ?_) (fun h => absurd h (by decide))
        refine q_aload_n d212_193 rfl ?_
        refine q_iconst (v := 3) (by decide) d212_194 ?_
        refine q_putI d212_195 (fs10_364 212 rfl) (Or.inl rfl) rfl (lt_w1 rfl) sh260 ?_
        refine q_aload_n d212_198 rfl ?_
        refine q_aload_n d212_199 rfl ?_
        refine q_aload_n d212_200 rfl ?_
        refine q_getI d212_201 (fs10_351 212 rfl) rfl (lt_w1 rfl) sh260 ?_
        refine r_int (y := (nI p)) (show (j_u (j_u I 260 40 (nI p)) 260 41 3) 260 39 = (nI p) from (((j_u_k _ _ (by decide)).trans (j_u_k _ _ (by decide))).trans hp)) ?_
        refine q_invV (o := 260) (ci := 10) (av := [.int (nI p)]) (rest := [.ref 260]) (d' := 0) (mc' := 0) (ms' := 0) d212_204 (cv10_354 212 rfl) rfl (by decide) rfl rfl (by omega) (Nat.le_of_ble_eq_true rfl) (Nat.le_of_ble_eq_true rfl) (lt_w1 rfl) sh260 (Nat.le_refl _) (Nat.le_refl _) ?_
        refine c213 (T := T) (n := n) (v31 h1tc h2 h17) (v2 h1tc) (fun h24 => ?_) (fun h24 => ?_)
        ·
          show j_W 212 d 0 0 0 0 207 [some (.ref 260)] [.int (nI (T p)), .ref 260] w1 ((j_u (j_u I 260 40 (nI p)) 260 41 3), D, RR R) Q
          refine q_putI d212_207 (fs10_378 212 rfl) (Or.inl rfl) rfl (lt_w1 rfl) sh260 ?_
          refine q_aload_n d212_210 rfl ?_
          refine q_dup rfl d212_211 ?_
          refine q_getI d212_212 (fs10_351 212 rfl) rfl (lt_w1 rfl) sh260 ?_
          refine r_int (y := (nI p)) (show (j_u (j_u (j_u I 260 40 (nI p)) 260 41 3) 260 42 (nI (T p))) 260 39 = (nI p) from (((j_u_k _ _ (by decide)).trans ((j_u_k _ _ (by decide)).trans (j_u_k _ _ (by decide)))).trans hp)) ?_
          refine q_iconst (v := 1) (by decide) d212_215 ?_
          refine q_iadd d212_216 ?_
          refine r_int (y := (nI (p + 1))) (nI_add p 1) ?_
          refine q_putI d212_217 (fs10_351 212 rfl) (Or.inl rfl) rfl (lt_w1 rfl) sh260 ?_
          refine q_aload_n d212_220 rfl ?_
          refine q_ldcwS (q := 8) d212_221 (by decide) (by decide +kernel) ?_
          refine q_aload_n d212_224 rfl ?_
          refine q_getI d212_225 (fs10_378 212 rfl) rfl (lt_w1 rfl) sh260 ?_
          refine r_int (y := (nI (T p))) (show (j_u (j_u (j_u (j_u I 260 40 (nI p)) 260 41 3) 260 42 (nI (T p))) 260 39 (nI (p + 1))) 260 42 = (nI (T p)) from ((j_u_k _ _ (by decide)).trans (j_u_same _ _ _ _))) ?_
          refine q_invStr (q := 8) (av := [.int (nI (T p))]) (rest := [.ref 260]) (d' := 3) d212_228 (cv10_383 212 rfl) rfl (by decide : 8 < 9) rfl rfl (by omega) (Nat.le_of_ble_eq_true rfl) (Nat.le_of_ble_eq_true rfl) (Nat.le_refl _) (Nat.le_refl _) ?_
          refine c218 (v32 h1tc h2 h17 h24) (v33 h1tc h2 h17 h24) (fun k25 h26 h27 => ?_) (fun h26 => ?_)
          ·
            show j_W 212 d 0 0 0 0 231 [some (.ref 260)] [.int (nI k25), .ref 260] w1 ((j_u (j_u (j_u (j_u I 260 40 (nI p)) 260 41 3) 260 42 (nI (T p))) 260 39 (nI (p + 1))), D, RR R) Q
            refine q_if_ge (tgt := 238) d212_231 rfl (fun h28t => ?_) (fun h28f => ?_)
            ·
              refine q_iconst (v := 0) (by decide) d212_238 ?_
              refine q_putZ d212_239 (fs10_357 212 rfl) (Or.inl rfl) rfl (Or.inl rfl) (lt_w1 rfl) sh260 ?_
              exact q_ret d212_242 rfl (Nat.le_refl _) (Nat.le_refl _) (v34 h1tc h2 h17 h24 k25 h26 h27 h28t)
            ·
              refine q_iconst (v := 1) (by decide) d212_234 ?_
              refine q_goto (tgt := 239) d212_235 rfl ?_
              refine q_putZ d212_239 (fs10_357 212 rfl) (Or.inl rfl) rfl (Or.inr rfl) (lt_w1 rfl) sh260 ?_
              exact q_ret d212_242 rfl (Nat.le_refl _) (Nat.le_refl _) (v35 h1tc h2 h17 h24 k25 h26 h27 h28f)
          ·
            show j_W 212 d 0 0 0 0 231 [some (.ref 260)] [.int (-1), .ref 260] w1 ((j_u (j_u (j_u (j_u I 260 40 (nI p)) 260 41 3) 260 42 (nI (T p))) 260 39 (nI (p + 1))), D, RR R) Q
            refine q_if_ge (tgt := 238) d212_231 rfl (fun h => absurd h (by decide)) (fun _ => ?_)
            refine q_iconst (v := 1) (by decide) d212_234 ?_
            refine q_goto (tgt := 239) d212_235 rfl ?_
            refine q_putZ d212_239 (fs10_357 212 rfl) (Or.inl rfl) rfl (Or.inr rfl) (lt_w1 rfl) sh260 ?_
            exact q_ret d212_242 rfl (Nat.le_refl _) (Nat.le_refl _) (v36 h1tc h2 h17 h24 h26)
        ·
          show j_W 212 d 0 0 0 0 207 [some (.ref 260)] [.int (-1), .ref 260] w1 ((j_u (j_u I 260 40 (nI p)) 260 41 3), D, RR R) Q
          refine q_putI d212_207 (fs10_378 212 rfl) (Or.inl rfl) rfl (lt_w1 rfl) sh260 ?_
          refine q_aload_n d212_210 rfl ?_
          refine q_dup rfl d212_211 ?_
          refine q_getI d212_212 (fs10_351 212 rfl) rfl (lt_w1 rfl) sh260 ?_
          refine r_int (y := (nI p)) (show (j_u (j_u (j_u I 260 40 (nI p)) 260 41 3) 260 42 (-1)) 260 39 = (nI p) from (((j_u_k _ _ (by decide)).trans ((j_u_k _ _ (by decide)).trans (j_u_k _ _ (by decide)))).trans hp)) ?_
          refine q_iconst (v := 1) (by decide) d212_215 ?_
          refine q_iadd d212_216 ?_
          refine r_int (y := (nI (p + 1))) (nI_add p 1) ?_
          refine q_putI d212_217 (fs10_351 212 rfl) (Or.inl rfl) rfl (lt_w1 rfl) sh260 ?_
          refine q_aload_n d212_220 rfl ?_
          refine q_ldcwS (q := 8) d212_221 (by decide) (by decide +kernel) ?_
          refine q_aload_n d212_224 rfl ?_
          refine q_getI d212_225 (fs10_378 212 rfl) rfl (lt_w1 rfl) sh260 ?_
          refine r_int (y := (-1)) (show (j_u (j_u (j_u (j_u I 260 40 (nI p)) 260 41 3) 260 42 (-1)) 260 39 (nI (p + 1))) 260 42 = (-1) from ((j_u_k _ _ (by decide)).trans (j_u_same _ _ _ _))) ?_
          refine q_invStr (q := 8) (av := [.int (-1)]) (rest := [.ref 260]) (d' := 3) d212_228 (cv10_383 212 rfl) rfl (by decide : 8 < 9) rfl rfl (by omega) (Nat.le_of_ble_eq_true rfl) (Nat.le_of_ble_eq_true rfl) (Nat.le_refl _) (Nat.le_refl _) ?_
          refine j_no (v37 h1tc h2 h17 h24) 
  ·
    have h1fc : p = n := (nI_eqN (by omega) (by omega)).mp h1f
    refine q_aload_n d212_66 rfl ?_
    refine q_iconst (v := 0) (by decide) d212_67 ?_
    refine q_putI d212_68 (fs10_364 212 rfl) (Or.inl rfl) rfl (lt_w1 rfl) sh260 ?_
    refine q_goto (tgt := 242) d212_71 rfl ?_
    exact q_ret d212_242 rfl (Nat.le_refl _) (Nat.le_refl _) (v38 h1fc)

set_option maxRecDepth 10000 in
set_option maxHeartbeats 4000000 in
theorem s212l {d : Nat} {I : Nat → Nat → Int32} {D : Nat → Nat → UInt64} {R : Nat → Nat → Option Nat} {Q : j_Po}  {T : Nat → Nat} {n p : Nat} (hT : TR T n I) (hp : I 260 39 = nI p) (hpn : p ≤ n) (hn9 : n ≤ 96) (hTp : p < n → T p < 256) (hd : 6 ≤ d)
    (v1 : TR T n I)
    (v2 : p < 200)
    (v3 : (p < n) → (T p) < 256)
    (v4 : (p < n) → (isLt (T p)) → j_W 212 d 0 0 0 0 97 [some (.ref 260)] [] w1 ((j_u I 260 39 (nI (p + 1))), D, RR R) Q)
    (v5 : (p < n) → (¬ isLt (T p)) → j_W 212 d 0 0 0 0 128 [some (.ref 260)] [] w1 (I, D, RR R) Q)
    (v6 : (¬ p < n) → j_W 212 d 0 0 0 0 128 [some (.ref 260)] [] w1 (I, D, RR R) Q) : j_W 212 d 0 0 0 0 97 [some (.ref 260)] [] w1 (I, D, RR R) Q := by
  refine q_aload_n d212_97 rfl ?_
  refine q_aload_n d212_98 rfl ?_
  refine q_getI d212_99 (fs10_351 212 rfl) rfl (lt_w1 rfl) sh260 ?_
  refine r_int (y := (nI p)) (show I 260 39 = (nI p) from hp) ?_
  refine q_invV (o := 260) (ci := 10) (av := [.int (nI p)]) (rest := []) (d' := 0) (mc' := 0) (ms' := 0) d212_102 (cv10_354 212 rfl) rfl (by decide) rfl rfl (by omega) (Nat.le_of_ble_eq_true rfl) (Nat.le_of_ble_eq_true rfl) (lt_w1 rfl) sh260 (Nat.le_refl _) (Nat.le_refl _) ?_
  refine c213 (T := T) (n := n) v1 v2 (fun h1 => ?_) (fun h1 => ?_)
  ·
    show j_W 212 d 0 0 0 0 105 [some (.ref 260)] [.int (nI (T p))] w1 (I, D, RR R) Q
    refine q_bipush (v := 97) (by decide) d212_105 ?_
    refine q_bipush (v := 122) (by decide) d212_107 ?_
    refine q_invS (av := [.int (nI (T p)), .int 97, .int 122]) (rest := []) (d' := 0) (mc' := 0) (ms' := 0) d212_109 (cv10_183 212 rfl) rfl rfl (by omega) (Nat.le_of_ble_eq_true rfl) (Nat.le_of_ble_eq_true rfl) (Nat.le_refl _) (Nat.le_refl _) ?_
    refine c168n (lo := 97) (hi := 122) (by decide) (by decide) (v3 h1) (fun h2 => ?_) (fun h2 => ?_)
    ·
      show j_W 212 d 0 0 0 0 112 [some (.ref 260)] [.int 1] w1 (I, D, RR R) Q
      refine q_if_eq (tgt := 128) d212_112 rfl (fun h => absurd h (by decide)) (fun _ => ?_)
      refine q_aload_n d212_115 rfl ?_
      refine q_dup rfl d212_116 ?_
      refine q_getI d212_117 (fs10_351 212 rfl) rfl (lt_w1 rfl) sh260 ?_
      refine r_int (y := (nI p)) (show I 260 39 = (nI p) from hp) ?_
      refine q_iconst (v := 1) (by decide) d212_120 ?_
      refine q_iadd d212_121 ?_
      refine r_int (y := (nI (p + 1))) (nI_add p 1) ?_
      refine q_putI d212_122 (fs10_351 212 rfl) (Or.inl rfl) rfl (lt_w1 rfl) sh260 ?_
      refine q_goto (tgt := 97) d212_125 rfl ?_
      exact r_sub (L' := [some (.ref 260)]) ⟨rfl, trivial⟩ (v4 h1 h2)
    ·
      show j_W 212 d 0 0 0 0 112 [some (.ref 260)] [.int 0] w1 (I, D, RR R) Q
      refine q_if_eq (tgt := 128) d212_112 rfl (fun _ => ?_) (fun h => absurd h (by decide))
      exact r_sub (L' := [some (.ref 260)]) ⟨rfl, trivial⟩ (v5 h1 h2)
  ·
    show j_W 212 d 0 0 0 0 105 [some (.ref 260)] [.int (-1)] w1 (I, D, RR R) Q
    refine q_bipush (v := 97) (by decide) d212_105 ?_
    refine q_bipush (v := 122) (by decide) d212_107 ?_
    refine q_invS (av := [.int (-1), .int 97, .int 122]) (rest := []) (d' := 0) (mc' := 0) (ms' := 0) d212_109 (cv10_183 212 rfl) rfl rfl (by omega) (Nat.le_of_ble_eq_true rfl) (Nat.le_of_ble_eq_true rfl) (Nat.le_refl _) (Nat.le_refl _) ?_
    refine c168m (lo := 97) (hi := 122) (by decide) (by decide) (by decide)  ?_
    show j_W 212 d 0 0 0 0 112 [some (.ref 260)] [.int 0] w1 (I, D, RR R) Q
    refine q_if_eq (tgt := 128) d212_112 rfl (fun _ => ?_) (fun h => absurd h (by decide))
    exact r_sub (L' := [some (.ref 260)]) ⟨rfl, trivial⟩ (v6 h1)

set_option maxRecDepth 10000 in
set_option maxHeartbeats 4000000 in
theorem s212w {d : Nat} {I : Nat → Nat → Int32} {D : Nat → Nat → UInt64} {R : Nat → Nat → Option Nat} {Q : j_Po}  {T : Nat → Nat} {n p b : Nat} (hT : TR T n I) (hp : I 260 39 = nI p) (hpn : p ≤ n) (hn9 : n ≤ 96) (hTp : p < n → T p < 256) (hb : I 260 40 = nI b) (hbp : b < p) (hTb : T b < 256) (hd : 6 ≤ d)
    (v1 : (¬ ((nI p) - (nI b)) = 1) → TR T n I)
    (v2 : (¬ ((nI p) - (nI b)) = 1) → I 260 40 = nI b)
    (v3 : (¬ ((nI p) - (nI b)) = 1) → I 260 39 = nI p)
    (v4 : (¬ ((nI p) - (nI b)) = 1) → b ≤ p)
    (v5 : (¬ ((nI p) - (nI b)) = 1) → p ≤ n)
    (v6 : (¬ ((nI p) - (nI b)) = 1) → 5 ≤ 5)
    (v7 : (¬ ((nI p) - (nI b)) = 1) → ∀ w2 : Nat, (w2 < 8) → (WM T b p w2) → (¬ (nI (rwd w2)) = (-1)) → Q none w1 ((j_u I 260 46 0), D, RR R))
    (v8 : (¬ ((nI p) - (nI b)) = 1) → ∀ w2 : Nat, (w2 < 8) → (WM T b p w2) → ((nI (rwd w2)) = (-1)) → Q none w1 ((j_u I 260 46 1), D, RR R))
    (v9 : (¬ ((nI p) - (nI b)) = 1) → (∀ q, q < 8 → ¬ WM T b p q) → Q none w1 ((j_u I 260 46 1), D, RR R))
    (v10 : (((nI p) - (nI b)) = 1) → TR T n I)
    (v11 : (((nI p) - (nI b)) = 1) → b < 200)
    (v12 : (((nI p) - (nI b)) = 1) → (b < n) → ((T b) ≤ 120) → Q none w1 ((j_u I 260 46 0), D, RR R))
    (v13 : (((nI p) - (nI b)) = 1) → (b < n) → (¬ (T b) ≤ 120) → I 260 40 = nI b)
    (v14 : (((nI p) - (nI b)) = 1) → (b < n) → (¬ (T b) ≤ 120) → I 260 39 = nI p)
    (v15 : (((nI p) - (nI b)) = 1) → (b < n) → (¬ (T b) ≤ 120) → b ≤ p)
    (v16 : (((nI p) - (nI b)) = 1) → (b < n) → (¬ (T b) ≤ 120) → p ≤ n)
    (v17 : (((nI p) - (nI b)) = 1) → (b < n) → (¬ (T b) ≤ 120) → 5 ≤ 5)
    (v18 : (((nI p) - (nI b)) = 1) → (b < n) → (¬ (T b) ≤ 120) → ∀ w8 : Nat, (w8 < 8) → (WM T b p w8) → (¬ (nI (rwd w8)) = (-1)) → Q none w1 ((j_u I 260 46 0), D, RR R))
    (v19 : (((nI p) - (nI b)) = 1) → (b < n) → (¬ (T b) ≤ 120) → ∀ w8 : Nat, (w8 < 8) → (WM T b p w8) → ((nI (rwd w8)) = (-1)) → Q none w1 ((j_u I 260 46 1), D, RR R))
    (v20 : (((nI p) - (nI b)) = 1) → (b < n) → (¬ (T b) ≤ 120) → (∀ q, q < 8 → ¬ WM T b p q) → Q none w1 ((j_u I 260 46 1), D, RR R))
    (v21 : (((nI p) - (nI b)) = 1) → (¬ b < n) → Q none w1 ((j_u I 260 46 0), D, RR R)) : j_W 212 d 0 0 0 0 128 [some (.ref 260)] [] w1 (I, D, RR R) Q := by
  refine q_aload_n d212_128 rfl ?_
  refine q_aload_n d212_129 rfl ?_
  refine q_getI d212_130 (fs10_351 212 rfl) rfl (lt_w1 rfl) sh260 ?_
  refine r_int (y := (nI p)) (show I 260 39 = (nI p) from hp) ?_
  refine q_aload_n d212_133 rfl ?_
  refine q_getI d212_134 (fs10_361 212 rfl) rfl (lt_w1 rfl) sh260 ?_
  refine r_int (y := (nI b)) (show I 260 40 = (nI b) from hb) ?_
  refine q_isub d212_137 ?_
  refine q_iconst (v := 1) (by decide) d212_138 ?_
  refine q_icmp_ne (tgt := 155) d212_139 rfl (fun h1t => ?_) (fun h1f => ?_)
  ·
    refine q_aload_n d212_155 rfl ?_
    refine q_invV (o := 260) (ci := 10) (av := []) (rest := [.ref 260]) (d' := 5) (mc' := 0) (ms' := 0) d212_156 (cv10_367 212 rfl) rfl (by decide) rfl rfl (by omega) (Nat.le_of_ble_eq_true rfl) (Nat.le_of_ble_eq_true rfl) (lt_w1 rfl) sh260 (Nat.le_refl _) (Nat.le_refl _) ?_
    refine c214 (T := T) (n := n) (b := b) (e := p) (v1 h1t) (v2 h1t) (v3 h1t) (v4 h1t) (v5 h1t) (v6 h1t) (fun w2 h3 h4 => ?_) (fun h3 => ?_)
    ·
      show j_W 212 d 0 0 0 0 159 [some (.ref 260)] [.int (nI (rwd w2)), .ref 260] w1 (I, D, RR R) Q
      refine q_iconst (v := (-1)) (by decide) d212_159 ?_
      refine q_icmp_ne (tgt := 167) d212_160 rfl (fun h5t => ?_) (fun h5f => ?_)
      ·
        refine q_iconst (v := 0) (by decide) d212_167 ?_
        refine q_putZ d212_168 (fs10_357 212 rfl) (Or.inl rfl) rfl (Or.inl rfl) (lt_w1 rfl) sh260 ?_
        refine q_goto (tgt := 242) d212_171 rfl ?_
        exact q_ret d212_242 rfl (Nat.le_refl _) (Nat.le_refl _) (v7 h1t w2 h3 h4 h5t)
      ·
        refine q_iconst (v := 1) (by decide) d212_163 ?_
        refine q_goto (tgt := 168) d212_164 rfl ?_
        refine q_putZ d212_168 (fs10_357 212 rfl) (Or.inl rfl) rfl (Or.inr rfl) (lt_w1 rfl) sh260 ?_
        refine q_goto (tgt := 242) d212_171 rfl ?_
        exact q_ret d212_242 rfl (Nat.le_refl _) (Nat.le_refl _) (v8 h1t w2 h3 h4 h5f)
    ·
      show j_W 212 d 0 0 0 0 159 [some (.ref 260)] [.int (-1), .ref 260] w1 (I, D, RR R) Q
      refine q_iconst (v := (-1)) (by decide) d212_159 ?_
      refine q_icmp_ne (tgt := 167) d212_160 rfl (fun h => absurd h (by decide)) (fun _ => ?_)
      refine q_iconst (v := 1) (by decide) d212_163 ?_
      refine q_goto (tgt := 168) d212_164 rfl ?_
      refine q_putZ d212_168 (fs10_357 212 rfl) (Or.inl rfl) rfl (Or.inr rfl) (lt_w1 rfl) sh260 ?_
      refine q_goto (tgt := 242) d212_171 rfl ?_
      exact q_ret d212_242 rfl (Nat.le_refl _) (Nat.le_refl _) (v9 h1t h3)
  ·
    refine q_aload_n d212_142 rfl ?_
    refine q_aload_n d212_143 rfl ?_
    refine q_getI d212_144 (fs10_361 212 rfl) rfl (lt_w1 rfl) sh260 ?_
    refine r_int (y := (nI b)) (show I 260 40 = (nI b) from hb) ?_
    refine q_invV (o := 260) (ci := 10) (av := [.int (nI b)]) (rest := [.ref 260]) (d' := 0) (mc' := 0) (ms' := 0) d212_147 (cv10_354 212 rfl) rfl (by decide) rfl rfl (by omega) (Nat.le_of_ble_eq_true rfl) (Nat.le_of_ble_eq_true rfl) (lt_w1 rfl) sh260 (Nat.le_refl _) (Nat.le_refl _) ?_
    refine c213 (T := T) (n := n) (v10 h1f) (v11 h1f) (fun h6 => ?_) (fun h6 => ?_)
    ·
      show j_W 212 d 0 0 0 0 150 [some (.ref 260)] [.int (nI (T b)), .ref 260] w1 (I, D, RR R) Q
      refine q_bipush (v := 120) (by decide) d212_150 ?_
      refine q_icmp_le (tgt := 167) d212_152 rfl (fun h7t => ?_) (fun h7f => ?_)
      ·
        have h7tc : (T b) ≤ 120 := (nI_leI (by omega) (by omega)).mp h7t
        refine q_iconst (v := 0) (by decide) d212_167 ?_
        refine q_putZ d212_168 (fs10_357 212 rfl) (Or.inl rfl) rfl (Or.inl rfl) (lt_w1 rfl) sh260 ?_
        refine q_goto (tgt := 242) d212_171 rfl ?_
        exact q_ret d212_242 rfl (Nat.le_refl _) (Nat.le_refl _) (v12 h1f h6 h7tc)
      ·
        have h7fc : ¬ (T b) ≤ 120 := mt (nI_leI (by omega) (by omega)).mpr h7f
        refine q_aload_n d212_155 rfl ?_
        refine q_invV (o := 260) (ci := 10) (av := []) (rest := [.ref 260]) (d' := 5) (mc' := 0) (ms' := 0) d212_156 (cv10_367 212 rfl) rfl (by decide) rfl rfl (by omega) (Nat.le_of_ble_eq_true rfl) (Nat.le_of_ble_eq_true rfl) (lt_w1 rfl) sh260 (Nat.le_refl _) (Nat.le_refl _) ?_
        refine c214 (T := T) (n := n) (b := b) (e := p) (v10 h1f) (v13 h1f h6 h7fc) (v14 h1f h6 h7fc) (v15 h1f h6 h7fc) (v16 h1f h6 h7fc) (v17 h1f h6 h7fc) (fun w8 h9 h10 => ?_) (fun h9 => ?_)
        ·
          show j_W 212 d 0 0 0 0 159 [some (.ref 260)] [.int (nI (rwd w8)), .ref 260] w1 (I, D, RR R) Q
          refine q_iconst (v := (-1)) (by decide) d212_159 ?_
          refine q_icmp_ne (tgt := 167) d212_160 rfl (fun h11t => ?_) (fun h11f => ?_)
          ·
            refine q_iconst (v := 0) (by decide) d212_167 ?_
            refine q_putZ d212_168 (fs10_357 212 rfl) (Or.inl rfl) rfl (Or.inl rfl) (lt_w1 rfl) sh260 ?_
            refine q_goto (tgt := 242) d212_171 rfl ?_
            exact q_ret d212_242 rfl (Nat.le_refl _) (Nat.le_refl _) (v18 h1f h6 h7fc w8 h9 h10 h11t)
          ·
            refine q_iconst (v := 1) (by decide) d212_163 ?_
            refine q_goto (tgt := 168) d212_164 rfl ?_
            refine q_putZ d212_168 (fs10_357 212 rfl) (Or.inl rfl) rfl (Or.inr rfl) (lt_w1 rfl) sh260 ?_
            refine q_goto (tgt := 242) d212_171 rfl ?_
            exact q_ret d212_242 rfl (Nat.le_refl _) (Nat.le_refl _) (v19 h1f h6 h7fc w8 h9 h10 h11f)
        ·
          show j_W 212 d 0 0 0 0 159 [some (.ref 260)] [.int (-1), .ref 260] w1 (I, D, RR R) Q
          refine q_iconst (v := (-1)) (by decide) d212_159 ?_
          refine q_icmp_ne (tgt := 167) d212_160 rfl (fun h => absurd h (by decide)) (fun _ => ?_)
          refine q_iconst (v := 1) (by decide) d212_163 ?_
          refine q_goto (tgt := 168) d212_164 rfl ?_
          refine q_putZ d212_168 (fs10_357 212 rfl) (Or.inl rfl) rfl (Or.inr rfl) (lt_w1 rfl) sh260 ?_
          refine q_goto (tgt := 242) d212_171 rfl ?_
          exact q_ret d212_242 rfl (Nat.le_refl _) (Nat.le_refl _) (v20 h1f h6 h7fc h9)
    ·
      show j_W 212 d 0 0 0 0 150 [some (.ref 260)] [.int (-1), .ref 260] w1 (I, D, RR R) Q
      refine q_bipush (v := 120) (by decide) d212_150 ?_
      refine q_icmp_le (tgt := 167) d212_152 rfl (fun _ => ?_) (fun h => absurd h (by decide))
      refine q_iconst (v := 0) (by decide) d212_167 ?_
      refine q_putZ d212_168 (fs10_357 212 rfl) (Or.inl rfl) rfl (Or.inl rfl) (lt_w1 rfl) sh260 ?_
      refine q_goto (tgt := 242) d212_171 rfl ?_
      exact q_ret d212_242 rfl (Nat.le_refl _) (Nat.le_refl _) (v21 h1f h6)

def RNg (I J : Nat → Nat → Int32) : Prop := (∀ o, o ≠ 260 → J o = I o) ∧ (∀ i, i ≠ 39 → i ≠ 40 → i ≠ 41 → i ≠ 42 → i ≠ 43 → i ≠ 44 → i ≠ 46 → J 260 i = I 260 i)
theorem RNg.mk2 {I J K : Nat → Nat → Int32} (h : RNg I J) (h1 : ∀ o, o ≠ 260 → K o = J o) (h2 : ∀ i, i ≠ 39 → i ≠ 40 → i ≠ 41 → i ≠ 42 → i ≠ 43 → i ≠ 44 → i ≠ 46 → K 260 i = J 260 i) : RNg I K := ⟨fun o ho => (h1 o ho).trans (h.1 o ho), fun i a b c d e f g => (h2 i a b c d e f g).trans (h.2 i a b c d e f g)⟩
theorem RNg.t {T : Nat → Nat} {n : Nat} {I J : Nat → Nat → Int32} (h : RNg I J) (hT : TR T n I) : TR T n J := hT.cg (h.2 34 (by decide) (by decide) (by decide) (by decide) (by decide) (by decide) (by decide)) (h.1 422 (by decide))
/-- what the reference has looked at, as the class codes it -/
def RTk (J : Nat → Nat → Int32) (tk : Nat × Nat) : Prop := (tk.1 = 256 ∧ J 260 41 = 0) ∨ (259 ≤ tk.1 ∧ tk.1 ≤ 261 ∧ J 260 41 = 1) ∨ (J 260 41 = 2 ∧ ∃ v, v < 10000 ∧ J 260 43 = nI v ∧ ((tk = (257, 1000 * v) ∧ J 260 44 = -1) ∨ ∃ f, f < 1000 ∧ tk = (258, 1000 * v + f) ∧ J 260 44 = nI f)) ∨ (tk.1 < 256 ∧ J 260 41 = 3 ∧ J 260 42 = nI tk.1)
def RNx (I J : Nat → Nat → Int32) (b e : Nat) (tk : Nat × Nat) : Prop := RNg I J ∧ J 260 40 = nI b ∧ (tk.1 = 262 → J 260 46 = 1) ∧ (tk.1 ≠ 262 → J 260 46 = 0 ∧ J 260 39 = nI e ∧ RTk J tk)
theorem rwd_ne {q : Nat} (h : q < 8) : ¬ nI (rwd q) = (-1) := nI_nm1 (by unfold rwd; split <;> omega)
theorem wtok_r {q : Nat} (h : q < 8) : 259 ≤ (wtok q).1 ∧ (wtok q).1 ≤ 261 ∧ ¬ (wtok q).1 = 262 := by
  have : ∀ q, q < 8 → 259 ≤ (wtok q).1 ∧ (wtok q).1 ≤ 261 ∧ ¬ (wtok q).1 = 262 := by decide
  exact this q h
theorem len_w {q : Nat} (h : q < 8) : 3 ≤ j_len.getD q 0 := by
  have : ∀ q, q < 8 → 3 ≤ j_len.getD q 0 := by decide
  exact this q h
section NX
variable {d : Nat} {I : Nat → Nat → Int32} {D : Nat → Nat → UInt64} {R : Nat → Nat → Option Nat} {Q : j_Po} {T : Nat → Nat} {n p : Nat}
theorem w212 (hT : TR T n I) {b : Nat} (hr : blR T n p b) (hbn : b < n) (hlt : isLt (T b)) (hd : 6 ≤ d) (hq : ∀ J b e tk, Lx T n p b e tk → RNx I J b e tk → Q none w1 (J, D, RR R)) (z : Nat) : ∀ e J, b ≤ e → e ≤ n → n - e = z → (∀ j, b ≤ j → j < e → j < n ∧ isLt (T j)) → RNg I J → J 260 39 = nI e → J 260 40 = nI b → J 260 41 = 1 → J 260 46 = 0 → j_W 212 d 0 0 0 0 97 [some (.ref 260)] [] w1 (J, D, RR R) Q := by
  have hn9 := hT.1
  have hTb := (hT.2.2 b hbn).1
  have fin : ∀ e J, b ≤ e → e ≤ n → (∀ j, b ≤ j → j < e → j < n ∧ isLt (T j)) → ¬ (e < n ∧ isLt (T e)) → RNg I J → J 260 39 = nI e → J 260 40 = nI b → J 260 41 = 1 → J 260 46 = 0 → j_W 212 d 0 0 0 0 128 [some (.ref 260)] [] w1 (J, D, RR R) Q := fun e J hbe hen hz hx hF h39 h40 h41 h46 => by
    have hbe' : b < e := by
      rcases Nat.lt_or_ge b e with h | h
      · exact h
      · have : e = b := by omega
        subst this
        exact absurd ⟨hbn, hlt⟩ hx
    have hTJ := hF.t hT
    have hrun : Run (fun j => j < n ∧ isLt (T j)) b e := ⟨hbe, hz, hx⟩
    have hone : e = b + 1 ↔ ((nI e) - (nI b)) = 1 := by rw [pk_sub (by omega), show (1 : Int32) = nI 1 from rfl, nI_eq (by omega) (by omega)]; omega
    have noone : ∀ {q : Nat}, q < 8 → ((nI e) - (nI b)) = 1 → ¬ WM T b e q := fun hq8 h1 hw => by have := hone.mpr h1; have := hw.1; have := len_w hq8; omega
    have hlo := hlt.1
    have hhi := hlt.2
    exact s212w hTJ h39 hen hn9 (fun h => (hT.2.2 e h).1) h40 hbe' hTb hd (fun y1 => hTJ) (fun y1 => h40) (fun y1 => h39) (fun y1 => (by omega)) (fun y1 => (by omega)) (fun y1 => Nat.le_refl _) (fun y1 w2 y3 y4 y5 => hq _ b e (wtok w2) ⟨hr, Or.inr (Or.inl ⟨hbn, hlt, hrun, Or.inr (Or.inr (Or.inl ⟨by have := mt hone.mp y1; omega, w2, y3, y4, rfl⟩))⟩)⟩ ⟨RNg.mk2 hF (fun o ho => by funext i; simp (disch := assumption) only [j_u_o]) (fun i a1 a2 a3 a4 a5 a6 a7 => by simp (disch := assumption) only [j_u_k]), by simp (disch := decide) only [j_u_k]; exact h40, fun h => absurd h ((wtok_r y3).2.2), fun _ => ⟨by simp (disch := decide) only [j_u_k, j_u_same], by simp (disch := decide) only [j_u_k]; exact h39, Or.inr (Or.inl ⟨(wtok_r y3).1, (wtok_r y3).2.1, by simp (disch := decide) only [j_u_k]; exact h41⟩)⟩⟩) (fun y1 w2 y3 y4 y5 => absurd y5 (rwd_ne y3)) (fun y1 y2 => hq _ b e (262, 0) ⟨hr, Or.inr (Or.inl ⟨hbn, hlt, hrun, Or.inr (Or.inr (Or.inr ⟨by have := mt hone.mp y1; omega, y2, rfl⟩))⟩)⟩ ⟨RNg.mk2 hF (fun o ho => by funext i; simp (disch := assumption) only [j_u_o]) (fun i a1 a2 a3 a4 a5 a6 a7 => by simp (disch := assumption) only [j_u_k]), by simp (disch := decide) only [j_u_k]; exact h40, fun _ => by simp (disch := decide) only [j_u_k, j_u_same], fun h => absurd rfl h⟩) (fun y1 => hTJ) (fun y1 => (by omega)) (fun y1 y2 y3 => hq _ b e (259, T b - 97) ⟨hr, Or.inr (Or.inl ⟨hbn, hlt, hrun, Or.inl ⟨hone.mpr y1, by omega, rfl⟩⟩)⟩ ⟨RNg.mk2 hF (fun o ho => by funext i; simp (disch := assumption) only [j_u_o]) (fun i a1 a2 a3 a4 a5 a6 a7 => by simp (disch := assumption) only [j_u_k]), by simp (disch := decide) only [j_u_k]; exact h40, fun h => absurd h ((by decide : ¬ (259 : Nat) = 262)), fun _ => ⟨by simp (disch := decide) only [j_u_k, j_u_same], by simp (disch := decide) only [j_u_k]; exact h39, Or.inr (Or.inl ⟨(by decide : (259 : Nat) ≤ 259), (by decide : (259 : Nat) ≤ 261), by simp (disch := decide) only [j_u_k]; exact h41⟩)⟩⟩) (fun y1 y2 y3 => h40) (fun y1 y2 y3 => h39) (fun y1 y2 y3 => (by omega)) (fun y1 y2 y3 => (by omega)) (fun y1 y2 y3 => Nat.le_refl _) (fun y1 y2 y3 w8 y5 y6 y7 => absurd y6 (noone y5 y1)) (fun y1 y2 y3 w8 y5 y6 y7 => absurd y7 (rwd_ne y5)) (fun y1 y2 y3 y4 => hq _ b e (262, 0) ⟨hr, Or.inr (Or.inl ⟨hbn, hlt, hrun, Or.inr (Or.inl ⟨hone.mpr y1, by omega, rfl⟩)⟩)⟩ ⟨RNg.mk2 hF (fun o ho => by funext i; simp (disch := assumption) only [j_u_o]) (fun i a1 a2 a3 a4 a5 a6 a7 => by simp (disch := assumption) only [j_u_k]), by simp (disch := decide) only [j_u_k]; exact h40, fun _ => by simp (disch := decide) only [j_u_k, j_u_same], fun h => absurd rfl h⟩) (fun y1 y2 => (by exfalso; omega))
  induction z with
  | zero =>
    intro e J hbe hen hz9 hz hF h39 h40 h41 h46
    exact s212l (hF.t hT) h39 hen hn9 (fun h => (hT.2.2 e h).1) hd (hF.t hT) (by omega) (fun h => by omega) (fun h => by omega) (fun h => by omega) (fun h => fin e J hbe hen hz (fun h2 => h h2.1) hF h39 h40 h41 h46)
  | succ z ih =>
    intro e J hbe hen hz9 hz hF h39 h40 h41 h46
    refine s212l (hF.t hT) h39 hen hn9 (fun h => (hT.2.2 e h).1) hd (hF.t hT) (by omega) (fun h => (hT.2.2 e h).1) (fun h hl => ih (e + 1) _ (by omega) (by omega) (by omega) (fun j h1 h2 => ?_) (RNg.mk2 hF (fun o ho => by funext i; simp (disch := assumption) only [j_u_o]) (fun i a1 a2 a3 a4 a5 a6 a7 => by simp (disch := assumption) only [j_u_k])) (j_u_same _ _ _ _) (by rw [j_u_k _ _ (by decide)]; exact h40) (by rw [j_u_k _ _ (by decide)]; exact h41) (by rw [j_u_k _ _ (by decide)]; exact h46)) (fun _ hl => fin e J hbe hen hz (fun h2 => hl h2.2) hF h39 h40 h41 h46) (fun h => fin e J hbe hen hz (fun h2 => h h2.1) hF h39 h40 h41 h46)
    by_cases ee : j = e
    · subst ee; exact ⟨h, hl⟩
    · exact hz j h1 (by omega)
theorem c212 (hT : TR T n I) (hp : I 260 39 = nI p) (hpn : p ≤ n) (hw : I 260 46 = 0) (hd : 6 ≤ d) (hq : ∀ J b e tk, Lx T n p b e tk → RNx I J b e tk → Q none w1 (J, D, RR R)) : j_Call d 212 [.ref 260] w1 (I, D, RR R) 0 0 Q := by
  have hn9 := hT.1
  have fin : ∀ k J, k ≤ n → blR T n p k → RNg I J → J 260 39 = nI k → J 260 46 = 0 → j_W 212 d 0 0 0 0 47 [some (.ref 260)] [] w1 (J, D, RR R) Q := fun k J hk hr hF h39 h46 => by
    have hTJ := hF.t hT
    have numx : k < n → ∀ K e tk, LxN T n k e tk → RNm (j_u (j_u J 260 40 (nI k)) 260 41 2) K e tk → Q none w1 (K, D, RR R) := fun hkn K e tk hx hK => by
      obtain ⟨⟨f1, f2⟩, k1, k2⟩ := hK
      have e40 : K 260 40 = nI k := by rw [f2 40 (by decide) (by decide) (by decide) (by decide)]; simp (disch := decide) only [j_u_k, j_u_same]
      have e41 : K 260 41 = 2 := by rw [f2 41 (by decide) (by decide) (by decide) (by decide)]; simp (disch := decide) only [j_u_k, j_u_same]
      refine hq K k e tk ⟨hr, Or.inr (Or.inr (Or.inl hx))⟩ ⟨hF.mk2 (fun o ho => ?_) (fun i a1 a2 a3 a4 a5 a6 a7 => ?_), e40, k1, fun h => ?_⟩
      · rw [f1 o ho]; funext i; simp (disch := assumption) only [j_u_o]
      · rw [f2 i a1 a5 a6 a7]; simp (disch := assumption) only [j_u_k]
      · obtain ⟨q1, q2, q3⟩ := k2 h
        exact ⟨q1, q2, Or.inr (Or.inr (Or.inl ⟨e41, q3⟩))⟩
    have wordx : k < n → isLt (T k) → j_W 212 d 0 0 0 0 97 [some (.ref 260)] [] w1 ((j_u (j_u J 260 40 (nI k)) 260 41 1), D, RR R) Q := fun hkn hl =>
      w212 hT hr hkn hl hd hq _ k _ (Nat.le_refl _) hk rfl (fun j h1 h2 => by omega) (RNg.mk2 hF (fun o ho => by funext i; simp (disch := assumption) only [j_u_o]) (fun i a1 a2 a3 a4 a5 a6 a7 => by simp (disch := assumption) only [j_u_k])) (by simp (disch := decide) only [j_u_k]; exact h39) (by simp (disch := decide) only [j_u_k, j_u_same]) (by simp (disch := decide) only [j_u_same]) (by simp (disch := decide) only [j_u_k]; exact h46)
    exact s212x hTJ h39 hk hn9 (fun h => (hT.2.2 k h).1) hd (fun y1 => TR.cg hTJ (by simp (disch := decide) only [j_u_k]) (by funext i; simp (disch := decide) only [j_u_o])) (fun y1 => (by omega)) (fun y1 y2 => (hT.2.2 k y2).1) (fun y1 y2 y3 => wordx y2 y3) (fun y1 y2 y3 => (by simp (disch := decide) only [j_u_k]; exact h39)) (fun y1 y2 y3 => hk) (fun y1 y2 y3 => Nat.le_refl _) (fun y1 y2 y3 y4 y5 => TR.cg hTJ (by simp (disch := decide) only [j_u_k]) (by funext i; simp (disch := decide) only [j_u_o])) (fun y1 y2 y3 y4 y5 => (by simp (disch := decide) only [j_u_k]; exact h39)) (fun y1 y2 y3 y4 y5 => (by simp (disch := decide) only [j_u_k, j_u_same])) (fun y1 y2 y3 y4 y5 => y2) (fun y1 y2 y3 y4 y5 => y5) (fun y1 y2 y3 y4 y5 => Nat.le_refl _) (fun y1 y2 y3 y4 y5 J6 e7 tk8 y9 y10 => numx y2 _ _ _ y9 y10) (fun y1 y2 y3 y4 => TR.cg hTJ (by simp (disch := decide) only [j_u_k]) (by funext i; simp (disch := decide) only [j_u_o])) (fun y1 y2 y3 y4 y5 => Nat.le_refl _) (fun y1 y2 y3 y4 y5 k12 y7 y8 y9 => hq _ k (k + 1) (T k, 0) ⟨hr, Or.inr (Or.inr (Or.inr ⟨y2, y3, (fun h => y4 ⟨y2, h⟩), rfl, Or.inl ⟨y8, rfl⟩⟩))⟩ ⟨RNg.mk2 hF (fun o ho => by funext i; simp (disch := assumption) only [j_u_o]) (fun i a1 a2 a3 a4 a5 a6 a7 => by simp (disch := assumption) only [j_u_k]), by simp (disch := decide) only [j_u_k, j_u_same], fun h => absurd h (by have := (hT.2.2 k y2).1; show ¬ T k = 262; omega), fun _ => ⟨by simp (disch := decide) only [j_u_k, j_u_same], by simp (disch := decide) only [j_u_k, j_u_same], Or.inr (Or.inr (Or.inr ⟨(hT.2.2 k y2).1, by simp (disch := decide) only [j_u_k, j_u_same], by simp (disch := decide) only [j_u_k, j_u_same]⟩))⟩⟩) (fun y1 y2 y3 y4 y5 k12 y7 y8 y9 => absurd (nI_le (a := 0) (Nat.zero_le _) (by omega)) y9) (fun y1 y2 y3 y4 y5 y6 => hq _ k (k + 1) (262, 0) ⟨hr, Or.inr (Or.inr (Or.inr ⟨y2, y3, (fun h => y4 ⟨y2, h⟩), rfl, Or.inr ⟨y6, rfl⟩⟩))⟩ ⟨RNg.mk2 hF (fun o ho => by funext i; simp (disch := assumption) only [j_u_o]) (fun i a1 a2 a3 a4 a5 a6 a7 => by simp (disch := assumption) only [j_u_k]), by simp (disch := decide) only [j_u_k, j_u_same], fun _ => by simp (disch := decide) only [j_u_k, j_u_same], fun h => absurd rfl h⟩) (fun y1 y2 y3 y4 y5 => (by exfalso; omega)) (fun y1 y2 => (by exfalso; omega)) (fun y1 y2 => (by exfalso; omega)) (fun y1 y2 => (by exfalso; omega)) (fun y1 y2 y3 y4 => (by exfalso; omega)) (fun y1 y2 y3 y4 => (by exfalso; omega)) (fun y1 y2 y3 y4 => (by exfalso; omega)) (fun y1 y2 y3 y4 => (by exfalso; omega)) (fun y1 y2 y3 y4 => (by exfalso; omega)) (fun y1 y2 y3 y4 => (by exfalso; omega)) (fun y1 y2 y3 y4 J19 e20 tk21 y8 y9 => (by exfalso; omega)) (fun y1 y2 y3 => (by exfalso; omega)) (fun y1 y2 y3 y4 => (by exfalso; omega)) (fun y1 y2 y3 y4 => (by exfalso; omega)) (fun y1 y2 y3 y4 k25 y6 y7 y8 => (by exfalso; omega)) (fun y1 y2 y3 y4 k25 y6 y7 y8 => (by exfalso; omega)) (fun y1 y2 y3 y4 y5 => (by exfalso; omega)) (fun y1 y2 y3 y4 => (by exfalso; omega)) (fun y1 => hq _ k k (256, 0) ⟨hr, Or.inl ⟨by omega, rfl, rfl⟩⟩ ⟨RNg.mk2 hF (fun o ho => by funext i; simp (disch := assumption) only [j_u_o]) (fun i a1 a2 a3 a4 a5 a6 a7 => by simp (disch := assumption) only [j_u_k]), by simp (disch := decide) only [j_u_k, j_u_same], fun h => absurd h (by decide), fun _ => ⟨by simp (disch := decide) only [j_u_k, j_u_same]; exact h46, by simp (disch := decide) only [j_u_k]; exact h39, Or.inl ⟨rfl, by simp (disch := decide) only [j_u_k, j_u_same]⟩⟩⟩)
  have loop : ∀ z k J, p ≤ k → k ≤ n → n - k = z → (∀ j, p ≤ j → j < k → j < n ∧ isBl (T j)) → RNg I J → J 260 39 = nI k → J 260 46 = 0 → j_W 212 d 0 0 0 0 8 [some (.ref 260)] [] w1 (J, D, RR R) Q := fun z => by
    induction z with
    | zero =>
      intro k J hpk hk hz hb hF h39 h46
      have hkn : ¬ k < n := by omega
      have dd : ∀ {P : Prop}, k < n → P := fun h => absurd h hkn
      exact s212h (hF.t hT) h39 hk hn9 (fun h => dd h) hd (hF.t hT) (by omega) (fun h => dd h) (fun h => dd h) (fun h => dd h) (fun h => dd h) (fun _ h => dd h) (fun _ h => dd h) (fun _ _ => fin k J hk ⟨hpk, hb, fun h => hkn h.1⟩ hF h39 h46)
    | succ z ih =>
      intro k J hpk hk hz hb hF h39 h46
      have hkn : k < n := by omega
      have nx : isBl (T k) → j_W 212 d 0 0 0 0 8 [some (.ref 260)] [] w1 ((j_u J 260 39 (nI (k + 1))), D, RR R) Q := fun hbl => ih (k + 1) _ (by omega) (by omega) (by omega) (fun j h1 h2 => by
        by_cases e : j = k
        · subst e; exact ⟨hkn, hbl⟩
        · exact hb j h1 (by omega)) (RNg.mk2 hF (fun o ho => by funext i; simp (disch := assumption) only [j_u_o]) (fun i a1 a2 a3 a4 a5 a6 a7 => by simp (disch := assumption) only [j_u_k])) (j_u_same _ _ _ _) (by rw [j_u_k _ _ (by decide)]; exact h46)
      exact s212h (hF.t hT) h39 hk hn9 (fun h => (hT.2.2 k h).1) hd (hF.t hT) (by omega) (fun _ h => nx (Or.inl h)) (fun _ h1 _ h2 => fin k J hk ⟨hpk, hb, fun h => h.2.elim h1 h2⟩ hF h39 h46) (fun _ _ _ h => nx (Or.inr h)) (fun _ _ h => absurd hkn h) (fun h => absurd hkn h) (fun h => absurd hkn h) (fun h => absurd hkn h)
  exact s212e hd (fun _ => loop _ p I (Nat.le_refl _) hpn rfl (fun j h1 h2 => by omega) ⟨fun _ _ => rfl, fun _ _ _ _ _ _ _ _ => rfl⟩ hp hw) (fun h => absurd hw h)
/-- a reader that has gone wrong does nothing -/
theorem c212w (hw : ¬ I 260 46 = 0) (hd : 6 ≤ d) (hq : Q none w1 (I, D, RR R)) : j_Call d 212 [.ref 260] w1 (I, D, RR R) 0 0 Q := s212e hd (fun h => absurd h hw) (fun _ => hq)
end NX
