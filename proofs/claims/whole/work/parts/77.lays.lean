/-! table: what is laid -/
set_option maxRecDepth 10000 in
set_option maxHeartbeats 4000000 in
theorem s104r {d : Nat} {I : Nat → Nat → Int32} {D : Nat → Nat → UInt64} {R : Nat → Nat → Option Nat} {Q : j_Po} {a : Int32} {o : Int32} {e : Int32} {f : Int32}  (hR : WFR R) (hd : 6 ≤ d)
    (v1 : ∀ k1 : Nat, (k1 < 6) → (a = nI k1) → ∀ k2 : Nat, (k2 < 24) → (o = nI k2) → ∀ k3 : Nat, (k3 < 24) → (e = nI k3) → (f = (-1)) → (¬ (nI k3) = f) → j_W 104 d 0 0 0 0 47 [none, none, none, none, none] [] w1 (I, D, RR R) Q)
    (v2 : ∀ k1 : Nat, (k1 < 6) → (a = nI k1) → ∀ k2 : Nat, (k2 < 24) → (o = nI k2) → ∀ k3 : Nat, (k3 < 24) → (e = nI k3) → (f = (-1)) → ((nI k3) = f) → Q (some (.int (-2))) w1 (I, D, RR R))
    (v3 : ∀ k1 : Nat, (k1 < 6) → (a = nI k1) → ∀ k2 : Nat, (k2 < 24) → (o = nI k2) → ∀ k3 : Nat, (k3 < 24) → (e = nI k3) → (¬ f = (-1)) → ∀ k6 : Nat, (k6 < 24) → (f = nI k6) → (¬ k3 = k6) → j_W 104 d 0 0 0 0 47 [none, none, none, none, none] [] w1 (I, D, RR R) Q)
    (v4 : ∀ k1 : Nat, (k1 < 6) → (a = nI k1) → ∀ k2 : Nat, (k2 < 24) → (o = nI k2) → ∀ k3 : Nat, (k3 < 24) → (e = nI k3) → (¬ f = (-1)) → ∀ k6 : Nat, (k6 < 24) → (f = nI k6) → (k3 = k6) → Q (some (.int (-2))) w1 (I, D, RR R))
    (v5 : ∀ k1 : Nat, (k1 < 6) → (a = nI k1) → ∀ k2 : Nat, (k2 < 24) → (o = nI k2) → ∀ k3 : Nat, (k3 < 24) → (e = nI k3) → (¬ f = (-1)) → (¬ (∃ k : Nat, k < 24 ∧ f = nI k)) → Q (some (.int (-2))) w1 (I, D, RR R))
    (v6 : ∀ k1 : Nat, (k1 < 6) → (a = nI k1) → ∀ k2 : Nat, (k2 < 24) → (o = nI k2) → (¬ (∃ k : Nat, k < 24 ∧ e = nI k)) → Q (some (.int (-2))) w1 (I, D, RR R))
    (v7 : ∀ k1 : Nat, (k1 < 6) → (a = nI k1) → (¬ (∃ k : Nat, k < 24 ∧ o = nI k)) → Q (some (.int (-2))) w1 (I, D, RR R))
    (v8 : (¬ (∃ k : Nat, k < 6 ∧ a = nI k)) → Q (some (.int (-2))) w1 (I, D, RR R)) : j_Call d 104 [.ref 0, .int a, .int o, .int e, .int f] w1 (I, D, RR R) 0 0 Q := by
  refine q_enter (L := [some (.ref 0), some (.int a), some (.int o), some (.int e), some (.int f)]) j_m104 (Nat.le_of_ble_eq_true rfl) rfl ?_
  refine q_iload_n d104_0 rfl ?_
  refine q_invS (av := [.int a]) (rest := []) (d' := 0) (mc' := 0) (ms' := 0) d104_1 (cv9_183 104 rfl) rfl rfl (by omega) (Nat.le_of_ble_eq_true rfl) (Nat.le_of_ble_eq_true rfl) (Nat.le_refl _) (Nat.le_refl _) ?_
  refine r39  (fun k1 h1 h1e => ?_) (fun h1 => ?_)
  ·
    subst h1e
    show j_W 104 d 0 0 0 0 4 [some (.ref 0), some (.int (nI k1)), some (.int o), some (.int e), some (.int f)] [.int 1] w1 (I, D, RR R) Q
    refine q_if_eq (tgt := 21) d104_4 rfl (fun h => absurd h (by decide)) (fun _ => ?_)
    refine q_iload_n d104_7 rfl ?_
    refine q_invS (av := [.int o]) (rest := []) (d' := 0) (mc' := 0) (ms' := 0) d104_8 (cv9_60 104 rfl) rfl rfl (by omega) (Nat.le_of_ble_eq_true rfl) (Nat.le_of_ble_eq_true rfl) (Nat.le_refl _) (Nat.le_refl _) ?_
    refine r12  (fun k2 h2 h2e => ?_) (fun h2 => ?_)
    ·
      subst h2e
      show j_W 104 d 0 0 0 0 11 [some (.ref 0), some (.int (nI k1)), some (.int (nI k2)), some (.int e), some (.int f)] [.int 1] w1 (I, D, RR R) Q
      refine q_if_eq (tgt := 21) d104_11 rfl (fun h => absurd h (by decide)) (fun _ => ?_)
      refine q_iload_n d104_14 rfl ?_
      refine q_invS (av := [.int e]) (rest := []) (d' := 0) (mc' := 0) (ms' := 0) d104_15 (cv9_60 104 rfl) rfl rfl (by omega) (Nat.le_of_ble_eq_true rfl) (Nat.le_of_ble_eq_true rfl) (Nat.le_refl _) (Nat.le_refl _) ?_
      refine r12  (fun k3 h3 h3e => ?_) (fun h3 => ?_)
      ·
        subst h3e
        show j_W 104 d 0 0 0 0 18 [some (.ref 0), some (.int (nI k1)), some (.int (nI k2)), some (.int (nI k3)), some (.int f)] [.int 1] w1 (I, D, RR R) Q
        refine q_if_ne (tgt := 24) d104_18 rfl (fun _ => ?_) (fun h => absurd h (by decide))
        refine q_iload d104_24 rfl ?_
        refine q_iconst (v := (-1)) (by decide) d104_26 ?_
        refine q_icmp_eq (tgt := 38) d104_27 rfl (fun h4t => ?_) (fun h4f => ?_)
        ·
          refine q_iload_n d104_38 rfl ?_
          refine q_iload d104_39 rfl ?_
          refine q_icmp_ne (tgt := 47) d104_41 rfl (fun h5t => ?_) (fun h5f => ?_)
          ·
            exact r_sub (L' := [none, none, none, none, none]) trivial (v1 k1 h1 rfl k2 h2 rfl k3 h3 rfl h4t h5t)
          ·
            refine q_bipush (v := (-2)) (by decide) d104_44 ?_
            exact q_iret d104_46 rfl (Nat.le_refl _) (Nat.le_refl _) (v2 k1 h1 rfl k2 h2 rfl k3 h3 rfl h4t h5f)
        ·
          refine q_iload d104_30 rfl ?_
          refine q_invS (av := [.int f]) (rest := []) (d' := 0) (mc' := 0) (ms' := 0) d104_32 (cv9_60 104 rfl) rfl rfl (by omega) (Nat.le_of_ble_eq_true rfl) (Nat.le_of_ble_eq_true rfl) (Nat.le_refl _) (Nat.le_refl _) ?_
          refine r12  (fun k6 h6 h6e => ?_) (fun h6 => ?_)
          ·
            subst h6e
            show j_W 104 d 0 0 0 0 35 [some (.ref 0), some (.int (nI k1)), some (.int (nI k2)), some (.int (nI k3)), some (.int (nI k6))] [.int 1] w1 (I, D, RR R) Q
            refine q_if_eq (tgt := 44) d104_35 rfl (fun h => absurd h (by decide)) (fun _ => ?_)
            refine q_iload_n d104_38 rfl ?_
            refine q_iload d104_39 rfl ?_
            refine q_icmp_ne (tgt := 47) d104_41 rfl (fun h7t => ?_) (fun h7f => ?_)
            ·
              have h7tc : ¬ k3 = k6 := mt (nI_eqN (by omega) (by omega)).mpr h7t
              exact r_sub (L' := [none, none, none, none, none]) trivial (v3 k1 h1 rfl k2 h2 rfl k3 h3 rfl h4f k6 h6 rfl h7tc)
            ·
              have h7fc : k3 = k6 := (nI_eqN (by omega) (by omega)).mp h7f
              refine q_bipush (v := (-2)) (by decide) d104_44 ?_
              exact q_iret d104_46 rfl (Nat.le_refl _) (Nat.le_refl _) (v4 k1 h1 rfl k2 h2 rfl k3 h3 rfl h4f k6 h6 rfl h7fc)
          ·
            show j_W 104 d 0 0 0 0 35 [some (.ref 0), some (.int (nI k1)), some (.int (nI k2)), some (.int (nI k3)), some (.int f)] [.int 0] w1 (I, D, RR R) Q
            refine q_if_eq (tgt := 44) d104_35 rfl (fun _ => ?_) (fun h => absurd h (by decide))
            refine q_bipush (v := (-2)) (by decide) d104_44 ?_
            exact q_iret d104_46 rfl (Nat.le_refl _) (Nat.le_refl _) (v5 k1 h1 rfl k2 h2 rfl k3 h3 rfl h4f h6)
      ·
        show j_W 104 d 0 0 0 0 18 [some (.ref 0), some (.int (nI k1)), some (.int (nI k2)), some (.int e), some (.int f)] [.int 0] w1 (I, D, RR R) Q
        refine q_if_ne (tgt := 24) d104_18 rfl (fun h => absurd h (by decide)) (fun _ => ?_)
        refine q_bipush (v := (-2)) (by decide) d104_21 ?_
        exact q_iret d104_23 rfl (Nat.le_refl _) (Nat.le_refl _) (v6 k1 h1 rfl k2 h2 rfl h3)
    ·
      show j_W 104 d 0 0 0 0 11 [some (.ref 0), some (.int (nI k1)), some (.int o), some (.int e), some (.int f)] [.int 0] w1 (I, D, RR R) Q
      refine q_if_eq (tgt := 21) d104_11 rfl (fun _ => ?_) (fun h => absurd h (by decide))
      refine q_bipush (v := (-2)) (by decide) d104_21 ?_
      exact q_iret d104_23 rfl (Nat.le_refl _) (Nat.le_refl _) (v7 k1 h1 rfl h2)
  ·
    show j_W 104 d 0 0 0 0 4 [some (.ref 0), some (.int a), some (.int o), some (.int e), some (.int f)] [.int 0] w1 (I, D, RR R) Q
    refine q_if_eq (tgt := 21) d104_4 rfl (fun _ => ?_) (fun h => absurd h (by decide))
    refine q_bipush (v := (-2)) (by decide) d104_21 ?_
    exact q_iret d104_23 rfl (Nat.le_refl _) (Nat.le_refl _) (v8 h1)

set_option maxRecDepth 10000 in
set_option maxHeartbeats 4000000 in
theorem s248r {d : Nat} {I : Nat → Nat → Int32} {D : Nat → Nat → UInt64} {R : Nat → Nat → Option Nat} {Q : j_Po} {a : Int32} {o : Int32} {e : Int32} {f : Int32}   (hd : 82 ≤ d)
    (v1 : ∀ k1 : Nat, (k1 < 6) → (a = nI k1) → ∀ k2 : Nat, (k2 < 24) → (o = nI k2) → ∀ k3 : Nat, (k3 < 24) → (e = nI k3) → (f = (-1)) → (¬ (nI k3) = f) → j_W 248 d 0 0 0 0 44 [none, none, none, none, none, none, none, none, none, none, none, none] [] w1 (I, D, RR R) Q)
    (v2 : ∀ k1 : Nat, (k1 < 6) → (a = nI k1) → ∀ k2 : Nat, (k2 < 24) → (o = nI k2) → ∀ k3 : Nat, (k3 < 24) → (e = nI k3) → (f = (-1)) → ((nI k3) = f) → Q (some (.int (-2))) w1 (I, D, RR R))
    (v3 : ∀ k1 : Nat, (k1 < 6) → (a = nI k1) → ∀ k2 : Nat, (k2 < 24) → (o = nI k2) → ∀ k3 : Nat, (k3 < 24) → (e = nI k3) → (¬ f = (-1)) → ∀ k6 : Nat, (k6 < 24) → (f = nI k6) → (¬ k3 = k6) → j_W 248 d 0 0 0 0 44 [none, none, none, none, none, none, none, none, none, none, none, none] [] w1 (I, D, RR R) Q)
    (v4 : ∀ k1 : Nat, (k1 < 6) → (a = nI k1) → ∀ k2 : Nat, (k2 < 24) → (o = nI k2) → ∀ k3 : Nat, (k3 < 24) → (e = nI k3) → (¬ f = (-1)) → ∀ k6 : Nat, (k6 < 24) → (f = nI k6) → (k3 = k6) → Q (some (.int (-2))) w1 (I, D, RR R))
    (v5 : ∀ k1 : Nat, (k1 < 6) → (a = nI k1) → ∀ k2 : Nat, (k2 < 24) → (o = nI k2) → ∀ k3 : Nat, (k3 < 24) → (e = nI k3) → (¬ f = (-1)) → (¬ (∃ k : Nat, k < 24 ∧ f = nI k)) → Q (some (.int (-2))) w1 (I, D, RR R))
    (v6 : ∀ k1 : Nat, (k1 < 6) → (a = nI k1) → ∀ k2 : Nat, (k2 < 24) → (o = nI k2) → (¬ (∃ k : Nat, k < 24 ∧ e = nI k)) → Q (some (.int (-2))) w1 (I, D, RR R))
    (v7 : ∀ k1 : Nat, (k1 < 6) → (a = nI k1) → (¬ (∃ k : Nat, k < 24 ∧ o = nI k)) → Q (some (.int (-2))) w1 (I, D, RR R))
    (v8 : (¬ (∃ k : Nat, k < 6 ∧ a = nI k)) → Q (some (.int (-2))) w1 (I, D, RR R)) : j_Call d 248 [.ref 260, .int a, .int o, .int e, .int f] w1 (I, D, RR R) 0 0 Q := by
  refine q_enter (L := [some (.ref 260), some (.int a), some (.int o), some (.int e), some (.int f), none, none, none, none, none, none, none]) j_m248 (Nat.le_of_ble_eq_true rfl) rfl ?_
  refine q_iload_n d248_0 rfl ?_
  refine q_invS (av := [.int a]) (rest := []) (d' := 1) (mc' := 0) (ms' := 0) d248_1 (cv10_480 248 rfl) rfl rfl (by omega) (Nat.le_of_ble_eq_true rfl) (Nat.le_of_ble_eq_true rfl) (Nat.le_refl _) (Nat.le_refl _) ?_
  refine r249 (Nat.le_refl _)  (fun k1 h1 h1e => ?_) (fun h1 => ?_)
  ·
    subst h1e
    show j_W 248 d 0 0 0 0 4 [some (.ref 260), some (.int (nI k1)), some (.int o), some (.int e), some (.int f), none, none, none, none, none, none, none] [.int 1] w1 (I, D, RR R) Q
    refine q_if_eq (tgt := 41) d248_4 rfl (fun h => absurd h (by decide)) (fun _ => ?_)
    refine q_iload_n d248_7 rfl ?_
    refine q_invS (av := [.int o]) (rest := []) (d' := 1) (mc' := 0) (ms' := 0) d248_8 (cv10_312 248 rfl) rfl rfl (by omega) (Nat.le_of_ble_eq_true rfl) (Nat.le_of_ble_eq_true rfl) (Nat.le_refl _) (Nat.le_refl _) ?_
    refine r167 (Nat.le_refl _)  (fun k2 h2 h2e => ?_) (fun h2 => ?_)
    ·
      subst h2e
      show j_W 248 d 0 0 0 0 11 [some (.ref 260), some (.int (nI k1)), some (.int (nI k2)), some (.int e), some (.int f), none, none, none, none, none, none, none] [.int 1] w1 (I, D, RR R) Q
      refine q_if_eq (tgt := 41) d248_11 rfl (fun h => absurd h (by decide)) (fun _ => ?_)
      refine q_iload_n d248_14 rfl ?_
      refine q_invS (av := [.int e]) (rest := []) (d' := 1) (mc' := 0) (ms' := 0) d248_15 (cv10_312 248 rfl) rfl rfl (by omega) (Nat.le_of_ble_eq_true rfl) (Nat.le_of_ble_eq_true rfl) (Nat.le_refl _) (Nat.le_refl _) ?_
      refine r167 (Nat.le_refl _)  (fun k3 h3 h3e => ?_) (fun h3 => ?_)
      ·
        subst h3e
        show j_W 248 d 0 0 0 0 18 [some (.ref 260), some (.int (nI k1)), some (.int (nI k2)), some (.int (nI k3)), some (.int f), none, none, none, none, none, none, none] [.int 1] w1 (I, D, RR R) Q
        refine q_if_eq (tgt := 41) d248_18 rfl (fun h => absurd h (by decide)) (fun _ => ?_)
        refine q_iload d248_21 rfl ?_
        refine q_iconst (v := (-1)) (by decide) d248_23 ?_
        refine q_icmp_eq (tgt := 35) d248_24 rfl (fun h4t => ?_) (fun h4f => ?_)
        ·
          refine q_iload_n d248_35 rfl ?_
          refine q_iload d248_36 rfl ?_
          refine q_icmp_ne (tgt := 44) d248_38 rfl (fun h5t => ?_) (fun h5f => ?_)
          ·
            exact r_sub (L' := [none, none, none, none, none, none, none, none, none, none, none, none]) trivial (v1 k1 h1 rfl k2 h2 rfl k3 h3 rfl h4t h5t)
          ·
            refine q_bipush (v := (-2)) (by decide) d248_41 ?_
            exact q_iret d248_43 rfl (Nat.le_refl _) (Nat.le_refl _) (v2 k1 h1 rfl k2 h2 rfl k3 h3 rfl h4t h5f)
        ·
          refine q_iload d248_27 rfl ?_
          refine q_invS (av := [.int f]) (rest := []) (d' := 1) (mc' := 0) (ms' := 0) d248_29 (cv10_312 248 rfl) rfl rfl (by omega) (Nat.le_of_ble_eq_true rfl) (Nat.le_of_ble_eq_true rfl) (Nat.le_refl _) (Nat.le_refl _) ?_
          refine r167 (Nat.le_refl _)  (fun k6 h6 h6e => ?_) (fun h6 => ?_)
          ·
            subst h6e
            show j_W 248 d 0 0 0 0 32 [some (.ref 260), some (.int (nI k1)), some (.int (nI k2)), some (.int (nI k3)), some (.int (nI k6)), none, none, none, none, none, none, none] [.int 1] w1 (I, D, RR R) Q
            refine q_if_eq (tgt := 41) d248_32 rfl (fun h => absurd h (by decide)) (fun _ => ?_)
            refine q_iload_n d248_35 rfl ?_
            refine q_iload d248_36 rfl ?_
            refine q_icmp_ne (tgt := 44) d248_38 rfl (fun h7t => ?_) (fun h7f => ?_)
            ·
              have h7tc : ¬ k3 = k6 := mt (nI_eqN (by omega) (by omega)).mpr h7t
              exact r_sub (L' := [none, none, none, none, none, none, none, none, none, none, none, none]) trivial (v3 k1 h1 rfl k2 h2 rfl k3 h3 rfl h4f k6 h6 rfl h7tc)
            ·
              have h7fc : k3 = k6 := (nI_eqN (by omega) (by omega)).mp h7f
              refine q_bipush (v := (-2)) (by decide) d248_41 ?_
              exact q_iret d248_43 rfl (Nat.le_refl _) (Nat.le_refl _) (v4 k1 h1 rfl k2 h2 rfl k3 h3 rfl h4f k6 h6 rfl h7fc)
          ·
            show j_W 248 d 0 0 0 0 32 [some (.ref 260), some (.int (nI k1)), some (.int (nI k2)), some (.int (nI k3)), some (.int f), none, none, none, none, none, none, none] [.int 0] w1 (I, D, RR R) Q
            refine q_if_eq (tgt := 41) d248_32 rfl (fun _ => ?_) (fun h => absurd h (by decide))
            refine q_bipush (v := (-2)) (by decide) d248_41 ?_
            exact q_iret d248_43 rfl (Nat.le_refl _) (Nat.le_refl _) (v5 k1 h1 rfl k2 h2 rfl k3 h3 rfl h4f h6)
      ·
        show j_W 248 d 0 0 0 0 18 [some (.ref 260), some (.int (nI k1)), some (.int (nI k2)), some (.int e), some (.int f), none, none, none, none, none, none, none] [.int 0] w1 (I, D, RR R) Q
        refine q_if_eq (tgt := 41) d248_18 rfl (fun _ => ?_) (fun h => absurd h (by decide))
        refine q_bipush (v := (-2)) (by decide) d248_41 ?_
        exact q_iret d248_43 rfl (Nat.le_refl _) (Nat.le_refl _) (v6 k1 h1 rfl k2 h2 rfl h3)
    ·
      show j_W 248 d 0 0 0 0 11 [some (.ref 260), some (.int (nI k1)), some (.int o), some (.int e), some (.int f), none, none, none, none, none, none, none] [.int 0] w1 (I, D, RR R) Q
      refine q_if_eq (tgt := 41) d248_11 rfl (fun _ => ?_) (fun h => absurd h (by decide))
      refine q_bipush (v := (-2)) (by decide) d248_41 ?_
      exact q_iret d248_43 rfl (Nat.le_refl _) (Nat.le_refl _) (v7 k1 h1 rfl h2)
  ·
    show j_W 248 d 0 0 0 0 4 [some (.ref 260), some (.int a), some (.int o), some (.int e), some (.int f), none, none, none, none, none, none, none] [.int 0] w1 (I, D, RR R) Q
    refine q_if_eq (tgt := 41) d248_4 rfl (fun _ => ?_) (fun h => absurd h (by decide))
    refine q_bipush (v := (-2)) (by decide) d248_41 ?_
    exact q_iret d248_43 rfl (Nat.le_refl _) (Nat.le_refl _) (v8 h1)

set_option maxRecDepth 10000 in
set_option maxHeartbeats 4000000 in
theorem s104n {d : Nat} {I : Nat → Nat → Int32} {D : Nat → Nat → UInt64} {R : Nat → Nat → Option Nat} {Q : j_Po} {t : Nat} {b : Nat} {e : Nat} {β β2 : Bd} {S : Nat → Bool} (hR : WFR R) (ht : t < 6) (hb : b < 24) (he : e < 24) (hd : 6 ≤ d)
    (v1 : (¬ (nI e) = (-1)) → ((I ((R 112 e).getD 0) 1) ≤ 0) → ∀ u, u < 30 → ∀ v, v < 32 → bt (nby I R u) v = ed β u v)
    (v2 : (¬ (nI e) = (-1)) → ((I ((R 112 e).getD 0) 1) ≤ 0) → ∀ u v, u < 30 → ed β u v = true → v < 30)
    (v3 : (¬ (nI e) = (-1)) → ((I ((R 112 e).getD 0) 1) ≤ 0) → ∀ v, v < 32 → bt (1 <<< ((nI b) &&& 31)) v = S v)
    (v4 : (¬ (nI e) = (-1)) → ((I ((R 112 e).getD 0) 1) ≤ 0) → ∀ v, v < 32 → S v = true → v < 30)
    (v5 : (¬ (nI e) = (-1)) → ((I ((R 112 e).getD 0) 1) ≤ 0) → ∀ x4 : Int32, (Clo (ed β) S x4) → ((¬ (x4 >>> ((nI (24 + t)) &&& 31)) &&& 1 = 0)) → Q (some (.int (-5))) w1 (I, D, RR R))
    (v6 : (¬ (nI e) = (-1)) → ((I ((R 112 e).getD 0) 1) ≤ 0) → ∀ x4 : Int32, (Clo (ed β) S x4) → (¬ ((¬ (x4 >>> ((nI (24 + t)) &&& 31)) &&& 1 = 0))) → t < 6)
    (v7 : (¬ (nI e) = (-1)) → ((I ((R 112 e).getD 0) 1) ≤ 0) → ∀ x4 : Int32, (Clo (ed β) S x4) → (¬ ((¬ (x4 >>> ((nI (24 + t)) &&& 31)) &&& 1 = 0))) → 5 ≤ d - 1)
    (v8 : (¬ (nI e) = (-1)) → ((I ((R 112 e).getD 0) 1) ≤ 0) → ∀ x4 : Int32, (Clo (ed β) S x4) → (¬ ((¬ (x4 >>> ((nI (24 + t)) &&& 31)) &&& 1 = 0))) → BV β)
    (v9 : (¬ (nI e) = (-1)) → ((I ((R 112 e).getD 0) 1) ≤ 0) → ∀ x4 : Int32, (Clo (ed β) S x4) → (¬ ((¬ (x4 >>> ((nI (24 + t)) &&& 31)) &&& 1 = 0))) → CB β (j_u (j_u (j_u (j_u (j_u (j_u I ((R 0 6).getD 0) 0 1) ((R 0 6).getD 0) 1 (nI b)) ((R 0 6).getD 0) 2 (nI e)) ((R 0 6).getD 0) 3 (-1 : Int32)) ((R 0 6).getD 0) 4 1) ((R 0 6).getD 0) 5 0) (j_u (j_u D (((R 0 6).getD 0) + 1) 0 FP.dconst0) (((R 0 6).getD 0) + 2) 0 FP.dconst0) R)
    (v10 : (¬ (nI e) = (-1)) → ((I ((R 112 e).getD 0) 1) ≤ 0) → ∀ x4 : Int32, (Clo (ed β) S x4) → (¬ ((¬ (x4 >>> ((nI (24 + t)) &&& 31)) &&& 1 = 0))) → NB (j_u (j_u (j_u (j_u (j_u (j_u I ((R 0 6).getD 0) 0 1) ((R 0 6).getD 0) 1 (nI b)) ((R 0 6).getD 0) 2 (nI e)) ((R 0 6).getD 0) 3 (-1 : Int32)) ((R 0 6).getD 0) 4 1) ((R 0 6).getD 0) 5 0))
    (v11 : (¬ (nI e) = (-1)) → ((I ((R 112 e).getD 0) 1) ≤ 0) → ∀ x4 : Int32, (Clo (ed β) S x4) → (¬ ((¬ (x4 >>> ((nI (24 + t)) &&& 31)) &&& 1 = 0))) → BV β2)
    (v12 : (¬ (nI e) = (-1)) → ((I ((R 112 e).getD 0) 1) ≤ 0) → ∀ x4 : Int32, (Clo (ed β) S x4) → (¬ ((¬ (x4 >>> ((nI (24 + t)) &&& 31)) &&& 1 = 0))) → CB β2 (j_u (j_u (j_u (j_u (j_u (j_u I ((R 0 6).getD 0) 0 1) ((R 0 6).getD 0) 1 (nI b)) ((R 0 6).getD 0) 2 (nI e)) ((R 0 6).getD 0) 3 (-1 : Int32)) ((R 0 6).getD 0) 4 1) ((R 0 6).getD 0) 5 0) (j_u (j_u D (((R 0 6).getD 0) + 1) 0 FP.dconst0) (((R 0 6).getD 0) + 2) 0 FP.dconst0) (j_u R 113 t (some (gs R))))
    (v13 : (¬ (nI e) = (-1)) → ((I ((R 112 e).getD 0) 1) ≤ 0) → ∀ x4 : Int32, (Clo (ed β) S x4) → (¬ ((¬ (x4 >>> ((nI (24 + t)) &&& 31)) &&& 1 = 0))) → ∀ J11 : Nat → Nat → Int32, (∀ o', (o' < 205 ∨ 211 ≤ o') → J11 o' = (j_u (j_u (j_u (j_u (j_u (j_u I ((R 0 6).getD 0) 0 1) ((R 0 6).getD 0) 1 (nI b)) ((R 0 6).getD 0) 2 (nI e)) ((R 0 6).getD 0) 3 (-1 : Int32)) ((R 0 6).getD 0) 4 1) ((R 0 6).getD 0) 5 0) o') → (NM β2 J11) → (OrdB β2 J11) → (∀ v, v < 30 → bu J11 v ≤ 2000) → Q (some (.int 1)) w1 (J11, (j_u (j_u D (((R 0 6).getD 0) + 1) 0 FP.dconst0) (((R 0 6).getD 0) + 2) 0 FP.dconst0), RR (j_u (j_u R 113 t (some (gs R))) 0 6 (some (go R t)))))
    (v14 : (¬ (nI e) = (-1)) → ((I ((R 112 e).getD 0) 1) ≤ 0) → ∀ x4 : Int32, (Clo (ed β) S x4) → (¬ ((¬ (x4 >>> ((nI (24 + t)) &&& 31)) &&& 1 = 0))) → ∀ J11 : Nat → Nat → Int32, (∀ o', (o' < 205 ∨ 211 ≤ o') → J11 o' = (j_u (j_u (j_u (j_u (j_u (j_u I ((R 0 6).getD 0) 0 1) ((R 0 6).getD 0) 1 (nI b)) ((R 0 6).getD 0) 2 (nI e)) ((R 0 6).getD 0) 3 (-1 : Int32)) ((R 0 6).getD 0) 4 1) ((R 0 6).getD 0) 5 0) o') → (NM β J11) → (OrdB β J11) → (∃ J', NM β2 J' ∧ ∃ v, v < 30 ∧ 2000 < bu J' v) → Q (some (.int (-4))) w1 (J11, (j_u (j_u D (((R 0 6).getD 0) + 1) 0 FP.dconst0) (((R 0 6).getD 0) + 2) 0 FP.dconst0), RR R))
    (v15 : (¬ (nI e) = (-1)) → (¬ (I ((R 112 e).getD 0) 1) ≤ 0) → Q (some (.int (-3))) w1 (I, D, RR R))
    (v16 : ((nI e) = (-1)) → Q (some (.int (-2))) w1 (I, D, RR R)) : j_Call d 104 [.ref 0, .int (nI t), .int (nI b), .int (nI e), .int (-1)] w1 (I, D, RR R) 0 0 Q := by
  refine q_enter (L := [some (.ref 0), some (.int (nI t)), some (.int (nI b)), some (.int (nI e)), some (.int (-1))]) j_m104 (Nat.le_of_ble_eq_true rfl) rfl ?_
  refine q_iload_n d104_0 rfl ?_
  refine q_invS (av := [.int (nI t)]) (rest := []) (d' := 0) (mc' := 0) (ms' := 0) d104_1 (cv9_183 104 rfl) rfl rfl (by omega) (Nat.le_of_ble_eq_true rfl) (Nat.le_of_ble_eq_true rfl) (Nat.le_refl _) (Nat.le_refl _) ?_
  refine r39t (by first | omega | decide)  ?_
  show j_W 104 d 0 0 0 0 4 [some (.ref 0), some (.int (nI t)), some (.int (nI b)), some (.int (nI e)), some (.int (-1))] [.int 1] w1 (I, D, RR R) Q
  refine q_if_eq (tgt := 21) d104_4 rfl (fun h => absurd h (by decide)) (fun _ => ?_)
  refine q_iload_n d104_7 rfl ?_
  refine q_invS (av := [.int (nI b)]) (rest := []) (d' := 0) (mc' := 0) (ms' := 0) d104_8 (cv9_60 104 rfl) rfl rfl (by omega) (Nat.le_of_ble_eq_true rfl) (Nat.le_of_ble_eq_true rfl) (Nat.le_refl _) (Nat.le_refl _) ?_
  refine r12t (by first | omega | decide)  ?_
  show j_W 104 d 0 0 0 0 11 [some (.ref 0), some (.int (nI t)), some (.int (nI b)), some (.int (nI e)), some (.int (-1))] [.int 1] w1 (I, D, RR R) Q
  refine q_if_eq (tgt := 21) d104_11 rfl (fun h => absurd h (by decide)) (fun _ => ?_)
  refine q_iload_n d104_14 rfl ?_
  refine q_invS (av := [.int (nI e)]) (rest := []) (d' := 0) (mc' := 0) (ms' := 0) d104_15 (cv9_60 104 rfl) rfl rfl (by omega) (Nat.le_of_ble_eq_true rfl) (Nat.le_of_ble_eq_true rfl) (Nat.le_refl _) (Nat.le_refl _) ?_
  refine r12t (by first | omega | decide)  ?_
  show j_W 104 d 0 0 0 0 18 [some (.ref 0), some (.int (nI t)), some (.int (nI b)), some (.int (nI e)), some (.int (-1))] [.int 1] w1 (I, D, RR R) Q
  refine q_if_ne (tgt := 24) d104_18 rfl (fun _ => ?_) (fun h => absurd h (by decide))
  refine q_iload d104_24 rfl ?_
  refine q_iconst (v := (-1)) (by decide) d104_26 ?_
  refine q_icmp_eq (tgt := 38) d104_27 rfl (fun _ => ?_) (fun h => absurd h (by decide))
  refine q_iload_n d104_38 rfl ?_
  refine q_iload d104_39 rfl ?_
  refine q_icmp_ne (tgt := 47) d104_41 rfl (fun h1t => ?_) (fun h1f => ?_)
  ·
    refine q_aload_n d104_47 rfl ?_
    refine q_getR (x := 108) d104_48 (fs9_53 104 rfl) rfl (lt_w1 rfl) sh0 (rs0_1 R) (by decide) ?_
    refine q_iload_n d104_51 rfl ?_
    refine q_invV (o := 108) (ci := 0) (av := [.int (nI e)]) (rest := []) (d' := 0) (mc' := 0) (ms' := 0) d104_52 (cv9_69 104 rfl) rfl (by decide) rfl rfl (by omega) (Nat.le_of_ble_eq_true rfl) (Nat.le_of_ble_eq_true rfl) (lt_w1 rfl) sh108 (Nat.le_refl _) (Nat.le_refl _) ?_
    refine s14 (k := e) hR (by first | omega | decide) (Nat.le_refl _) (fun c2 => ?_) (fun c3 => ?_)
    ·
      show j_W 104 d 0 0 0 0 55 [some (.ref 0), some (.int (nI t)), some (.int (nI b)), some (.int (nI e)), some (.int (-1))] [.int 0] w1 (I, D, RR R) Q
      refine q_if_ne (tgt := 76) d104_55 rfl (fun h => absurd h (by decide)) (fun _ => ?_)
      refine q_iload d104_58 rfl ?_
      refine q_iconst (v := (-1)) (by decide) d104_60 ?_
      refine q_icmp_eq (tgt := 79) d104_61 rfl (fun _ => ?_) (fun h => absurd h (by decide))
      refine q_aload_n d104_79 rfl ?_
      refine q_getR (x := 204) d104_80 (fs9_58 104 rfl) rfl (lt_w1 rfl) sh0 (rs0_2 R) (by decide) ?_
      refine q_aload_n d104_83 rfl ?_
      refine q_getR (x := 108) d104_84 (fs9_53 104 rfl) rfl (lt_w1 rfl) sh0 (rs0_1 R) (by decide) ?_
      refine q_iconst (v := 1) (by decide) d104_87 ?_
      refine q_iload_n d104_88 rfl ?_
      refine q_ishl d104_89 ?_
      refine q_invV (o := 204) (ci := 4) (av := [.ref 108, .int (1 <<< ((nI b) &&& 31))]) (rest := []) (d' := 1) (mc' := 0) (ms' := 0) d104_90 (cv9_173 104 rfl) rfl (by decide) rfl rfl (by omega) (Nat.le_of_ble_eq_true rfl) (Nat.le_of_ble_eq_true rfl) (lt_w1 rfl) sh204 (Nat.le_refl _) (Nat.le_refl _) ?_
      refine c101 (E := ed β) (S := S) hR (Nat.le_refl _) (v1 h1t c2) (v2 h1t c2) (v3 h1t c2) (v4 h1t c2) (fun x4 h5 => ?_)
      show j_W 104 d 0 0 0 0 93 [some (.ref 0), some (.int (nI t)), some (.int (nI b)), some (.int (nI e)), some (.int (-1))] [.int x4] w1 (I, D, RR R) Q
      refine q_bipush (v := 24) (by decide) d104_93 ?_
      refine q_iload_n d104_95 rfl ?_
      refine q_iadd d104_96 ?_
      refine r_int (y := (nI (24 + t))) (nI_add 24 t) ?_
      refine q_invS (av := [.int x4, .int (nI (24 + t))]) (rest := []) (d' := 0) (mc' := 0) (ms' := 0) d104_97 (cv9_177 104 rfl) rfl rfl (by omega) (Nat.le_of_ble_eq_true rfl) (Nat.le_of_ble_eq_true rfl) (Nat.le_refl _) (Nat.le_refl _) ?_
      refine p21  (fun h6 => ?_) (fun h6 => ?_)
      ·
        show j_W 104 d 0 0 0 0 100 [some (.ref 0), some (.int (nI t)), some (.int (nI b)), some (.int (nI e)), some (.int (-1))] [.int 1] w1 (I, D, RR R) Q
        refine q_if_eq (tgt := 106) d104_100 rfl (fun h => absurd h (by decide)) (fun _ => ?_)
        refine q_bipush (v := (-5)) (by decide) d104_103 ?_
        exact q_iret d104_105 rfl (Nat.le_refl _) (Nat.le_refl _) (v5 h1t c2 x4 h5 h6)
      ·
        show j_W 104 d 0 0 0 0 100 [some (.ref 0), some (.int (nI t)), some (.int (nI b)), some (.int (nI e)), some (.int (-1))] [.int 0] w1 (I, D, RR R) Q
        refine q_if_eq (tgt := 106) d104_100 rfl (fun _ => ?_) (fun h => absurd h (by decide))
        refine q_aload_n d104_106 rfl ?_
        have g8 := hR.s
        refine q_getR (x := ((R 0 6).getD 0)) d104_107 (fs9_26 104 rfl) rfl (lt_w1 rfl) sh0 ((RR_d rfl).trans g8.1) (lt1000 (isG_lt g8.2)) ?_
        refine q_iload_n d104_110 rfl ?_
        refine q_iload_n d104_111 rfl ?_
        refine q_iload d104_112 rfl ?_
        refine q_invV (o := ((R 0 6).getD 0)) (ci := 3) (av := [.int (nI b), .int (nI e), .int (-1)]) (rest := []) (d' := 0) (mc' := 0) (ms' := 0) d104_114 (cv9_186 104 rfl) rfl (by decide) rfl rfl (by omega) (Nat.le_of_ble_eq_true rfl) (Nat.le_of_ble_eq_true rfl) (isG_lt g8.2) (isG_sh g8.2) (Nat.le_refl _) (Nat.le_refl _) ?_
        refine s105 (g := ((R 0 6).getD 0)) g8.2 (Nat.le_refl _) (fun c9 => False.elim (by exact absurd c9 (by decide))) (fun c10 => ?_)
        show j_W 104 d 0 0 0 0 117 [some (.ref 0), some (.int (nI t)), some (.int (nI b)), some (.int (nI e)), some (.int (-1))] [] w1 ((j_u (j_u (j_u (j_u (j_u (j_u I ((R 0 6).getD 0) 0 1) ((R 0 6).getD 0) 1 (nI b)) ((R 0 6).getD 0) 2 (nI e)) ((R 0 6).getD 0) 3 (-1 : Int32)) ((R 0 6).getD 0) 4 1) ((R 0 6).getD 0) 5 0), (j_u (j_u D (((R 0 6).getD 0) + 1) 0 FP.dconst0) (((R 0 6).getD 0) + 2) 0 FP.dconst0), RR R) Q
        refine q_aload_n d104_117 rfl ?_
        refine q_iload_n d104_118 rfl ?_
        refine q_invV (o := 0) (ci := 9) (av := [.int (nI t)]) (rest := []) (d' := (d - 1)) (mc' := 0) (ms' := 0) d104_119 (cv9_190 104 rfl) rfl (by decide) rfl rfl (by omega) (Nat.le_of_ble_eq_true rfl) (Nat.le_of_ble_eq_true rfl) (lt_w1 rfl) sh0 (Nat.le_refl _) (Nat.le_refl _) ?_
        refine c106 (β := β) (β2 := β2) hR (v6 h1t c2 x4 h5 h6) (v7 h1t c2 x4 h5 h6) (v8 h1t c2 x4 h5 h6) (v9 h1t c2 x4 h5 h6) (v10 h1t c2 x4 h5 h6) (v11 h1t c2 x4 h5 h6) (v12 h1t c2 x4 h5 h6) (fun J11 h12 h13 h14 h15 => ?_) (fun J11 h12 h13 h14 h15 => ?_)
        ·
          show j_W 104 d 0 0 0 0 122 [some (.ref 0), some (.int (nI t)), some (.int (nI b)), some (.int (nI e)), some (.int (-1))] [.int 1] w1 (J11, (j_u (j_u D (((R 0 6).getD 0) + 1) 0 FP.dconst0) (((R 0 6).getD 0) + 2) 0 FP.dconst0), RR (j_u (j_u R 113 t (some (gs R))) 0 6 (some (go R t)))) Q
          refine q_if_eq (tgt := 129) d104_122 rfl (fun h => absurd h (by decide)) (fun _ => ?_)
          refine q_iconst (v := 1) (by decide) d104_125 ?_
          refine q_goto (tgt := 131) d104_126 rfl ?_
          exact q_iret d104_131 rfl (Nat.le_refl _) (Nat.le_refl _) (v13 h1t c2 x4 h5 h6 J11 h12 h13 h14 h15)
        ·
          show j_W 104 d 0 0 0 0 122 [some (.ref 0), some (.int (nI t)), some (.int (nI b)), some (.int (nI e)), some (.int (-1))] [.int 0] w1 (J11, (j_u (j_u D (((R 0 6).getD 0) + 1) 0 FP.dconst0) (((R 0 6).getD 0) + 2) 0 FP.dconst0), RR R) Q
          refine q_if_eq (tgt := 129) d104_122 rfl (fun _ => ?_) (fun h => absurd h (by decide))
          refine q_bipush (v := (-4)) (by decide) d104_129 ?_
          exact q_iret d104_131 rfl (Nat.le_refl _) (Nat.le_refl _) (v14 h1t c2 x4 h5 h6 J11 h12 h13 h14 h15)
    ·
      show j_W 104 d 0 0 0 0 55 [some (.ref 0), some (.int (nI t)), some (.int (nI b)), some (.int (nI e)), some (.int (-1))] [.int 1] w1 (I, D, RR R) Q
      refine q_if_ne (tgt := 76) d104_55 rfl (fun _ => ?_) (fun h => absurd h (by decide))
      refine q_bipush (v := (-3)) (by decide) d104_76 ?_
      exact q_iret d104_78 rfl (Nat.le_refl _) (Nat.le_refl _) (v15 h1t c3)
  ·
    refine q_bipush (v := (-2)) (by decide) d104_44 ?_
    exact q_iret d104_46 rfl (Nat.le_refl _) (Nat.le_refl _) (v16 h1f)

set_option maxRecDepth 10000 in
set_option maxHeartbeats 4000000 in
theorem s248n {d : Nat} {I : Nat → Nat → Int32} {D : Nat → Nat → UInt64} {R : Nat → Nat → Option Nat} {Q : j_Po} {t : Nat} {b : Nat} {e : Nat} {β2 β3 : Bd} {S : Nat → Bool} {X : Nat → Nat → Bool} {bv : Nat → Nat} (ht : t < 6) (hb : b < 24) (he : e < 24) (hd : 82 ≤ d)
    (v1 : (¬ (nI e) = (-1)) → (¬ (I 264 e) = 0) → Q (some (.int (-3))) w1 (I, D, RR R))
    (v2 : (¬ (nI e) = (-1)) → ((I 264 e) = 0) → BV β3)
    (v3 : (¬ (nI e) = (-1)) → ((I 264 e) = 0) → RBN β3 (j_u I 315 t 0))
    (v4 : (¬ (nI e) = (-1)) → ((I 264 e) = 0) → ∀ v, v < 32 → bt (1 <<< ((nI b) &&& 31)) v = S v)
    (v5 : (¬ (nI e) = (-1)) → ((I 264 e) = 0) → ∀ v, v < 32 → S v = true → v < 30)
    (v6 : (¬ (nI e) = (-1)) → ((I 264 e) = 0) → ∀ x4 : Int32, (Clo (ed β3) S x4) → (¬ ((x4 >>> ((nI (24 + t)) &&& 31)) &&& 1) = 1) → (I 315 t) = 0 ∨ (I 315 t) = 1)
    (v7 : (¬ (nI e) = (-1)) → ((I 264 e) = 0) → ∀ x4 : Int32, (Clo (ed β3) S x4) → (¬ ((x4 >>> ((nI (24 + t)) &&& 31)) &&& 1) = 1) → BV β2)
    (v8 : (¬ (nI e) = (-1)) → ((I 264 e) = 0) → ∀ x4 : Int32, (Clo (ed β3) S x4) → (¬ ((x4 >>> ((nI (24 + t)) &&& 31)) &&& 1) = 1) → RcE β2 X)
    (v9 : (¬ (nI e) = (-1)) → ((I 264 e) = 0) → ∀ x4 : Int32, (Clo (ed β3) S x4) → (¬ ((x4 >>> ((nI (24 + t)) &&& 31)) &&& 1) = 1) → BuE β2 X bv)
    (v10 : (¬ (nI e) = (-1)) → ((I 264 e) = 0) → ∀ x4 : Int32, (Clo (ed β3) S x4) → (¬ ((x4 >>> ((nI (24 + t)) &&& 31)) &&& 1) = 1) → 80 ≤ d - 1)
    (v11 : (¬ (nI e) = (-1)) → ((I 264 e) = 0) → ∀ x4 : Int32, (Clo (ed β3) S x4) → (¬ ((x4 >>> ((nI (24 + t)) &&& 31)) &&& 1) = 1) → RBN β2 (j_u (j_u (j_u (j_u (j_u (j_u (j_u (j_u I 315 t 0) 315 t (I 315 t)) 315 t 1) 316 t (nI b)) 317 t (nI e)) 318 t (-1)) 319 (2 * t) 1) 319 ((2 * t) + 1) 0))
    (v12 : (¬ (nI e) = (-1)) → ((I 264 e) = 0) → ∀ x4 : Int32, (Clo (ed β3) S x4) → (¬ ((x4 >>> ((nI (24 + t)) &&& 31)) &&& 1) = 1) → (∃ v, v < 30 ∧ 2000 < bv v) → ∀ K7 : Nat → Nat → Int32, (∀ o, o ≠ 361 → o ≠ 362 → K7 o = (j_u (j_u (j_u (j_u (j_u (j_u (j_u (j_u I 315 t 0) 315 t (I 315 t)) 315 t 1) 316 t (nI b)) 317 t (nI e)) 318 t (-1)) 319 (2 * t) 1) 319 ((2 * t) + 1) 0) o) → (RBN β2 K7) → Q (some (.int (-4))) w1 ((j_u (j_u (j_u (j_u (j_u (j_u K7 315 t (I 315 t)) 316 t (I 316 t)) 317 t (I 317 t)) 318 t (I 318 t)) 319 (2 * t) (I 319 (2 * t))) 319 ((2 * t) + 1) (I 319 ((2 * t) + 1))), D, RR R))
    (v13 : (¬ (nI e) = (-1)) → ((I 264 e) = 0) → ∀ x4 : Int32, (Clo (ed β3) S x4) → (¬ ((x4 >>> ((nI (24 + t)) &&& 31)) &&& 1) = 1) → (∀ v, v < 30 → bv v ≤ 2000) → ∀ K7 : Nat → Nat → Int32, (∀ o, o ≠ 361 → o ≠ 362 → K7 o = (j_u (j_u (j_u (j_u (j_u (j_u (j_u (j_u I 315 t 0) 315 t (I 315 t)) 315 t 1) 316 t (nI b)) 317 t (nI e)) 318 t (-1)) 319 (2 * t) 1) 319 ((2 * t) + 1) 0) o) → (RBN β2 K7) → Q (some (.int 1)) w1 (K7, (j_u (j_u D (321 + (2 * t)) 0 FP.dconst0) (321 + ((2 * t) + 1)) 0 FP.dconst0), RR R))
    (v14 : (¬ (nI e) = (-1)) → ((I 264 e) = 0) → ∀ x4 : Int32, (Clo (ed β3) S x4) → (((x4 >>> ((nI (24 + t)) &&& 31)) &&& 1) = 1) → (I 315 t) = 0 ∨ (I 315 t) = 1)
    (v15 : (¬ (nI e) = (-1)) → ((I 264 e) = 0) → ∀ x4 : Int32, (Clo (ed β3) S x4) → (((x4 >>> ((nI (24 + t)) &&& 31)) &&& 1) = 1) → Q (some (.int (-5))) w1 ((j_u (j_u I 315 t 0) 315 t (I 315 t)), D, RR R))
    (v16 : ((nI e) = (-1)) → Q (some (.int (-2))) w1 (I, D, RR R)) : j_Call d 248 [.ref 260, .int (nI t), .int (nI b), .int (nI e), .int (-1)] w1 (I, D, RR R) 0 0 Q := by
  refine q_enter (L := [some (.ref 260), some (.int (nI t)), some (.int (nI b)), some (.int (nI e)), some (.int (-1)), none, none, none, none, none, none, none]) j_m248 (Nat.le_of_ble_eq_true rfl) rfl ?_
  refine q_iload_n d248_0 rfl ?_
  refine q_invS (av := [.int (nI t)]) (rest := []) (d' := 1) (mc' := 0) (ms' := 0) d248_1 (cv10_480 248 rfl) rfl rfl (by omega) (Nat.le_of_ble_eq_true rfl) (Nat.le_of_ble_eq_true rfl) (Nat.le_refl _) (Nat.le_refl _) ?_
  refine r249t (by first | omega | decide) (Nat.le_refl _)  ?_
  show j_W 248 d 0 0 0 0 4 [some (.ref 260), some (.int (nI t)), some (.int (nI b)), some (.int (nI e)), some (.int (-1)), none, none, none, none, none, none, none] [.int 1] w1 (I, D, RR R) Q
  refine q_if_eq (tgt := 41) d248_4 rfl (fun h => absurd h (by decide)) (fun _ => ?_)
  refine q_iload_n d248_7 rfl ?_
  refine q_invS (av := [.int (nI b)]) (rest := []) (d' := 1) (mc' := 0) (ms' := 0) d248_8 (cv10_312 248 rfl) rfl rfl (by omega) (Nat.le_of_ble_eq_true rfl) (Nat.le_of_ble_eq_true rfl) (Nat.le_refl _) (Nat.le_refl _) ?_
  refine r167t (by first | omega | decide) (Nat.le_refl _)  ?_
  show j_W 248 d 0 0 0 0 11 [some (.ref 260), some (.int (nI t)), some (.int (nI b)), some (.int (nI e)), some (.int (-1)), none, none, none, none, none, none, none] [.int 1] w1 (I, D, RR R) Q
  refine q_if_eq (tgt := 41) d248_11 rfl (fun h => absurd h (by decide)) (fun _ => ?_)
  refine q_iload_n d248_14 rfl ?_
  refine q_invS (av := [.int (nI e)]) (rest := []) (d' := 1) (mc' := 0) (ms' := 0) d248_15 (cv10_312 248 rfl) rfl rfl (by omega) (Nat.le_of_ble_eq_true rfl) (Nat.le_of_ble_eq_true rfl) (Nat.le_refl _) (Nat.le_refl _) ?_
  refine r167t (by first | omega | decide) (Nat.le_refl _)  ?_
  show j_W 248 d 0 0 0 0 18 [some (.ref 260), some (.int (nI t)), some (.int (nI b)), some (.int (nI e)), some (.int (-1)), none, none, none, none, none, none, none] [.int 1] w1 (I, D, RR R) Q
  refine q_if_eq (tgt := 41) d248_18 rfl (fun h => absurd h (by decide)) (fun _ => ?_)
  refine q_iload d248_21 rfl ?_
  refine q_iconst (v := (-1)) (by decide) d248_23 ?_
  refine q_icmp_eq (tgt := 35) d248_24 rfl (fun _ => ?_) (fun h => absurd h (by decide))
  refine q_iload_n d248_35 rfl ?_
  refine q_iload d248_36 rfl ?_
  refine q_icmp_ne (tgt := 44) d248_38 rfl (fun h1t => ?_) (fun h1f => ?_)
  ·
    refine q_aload_n d248_44 rfl ?_
    refine q_iload_n d248_45 rfl ?_
    refine q_invV (o := 260) (ci := 10) (av := [.int (nI e)]) (rest := []) (d' := 0) (mc' := 0) (ms' := 0) d248_46 (cv10_204 248 rfl) rfl (by decide) rfl rfl (by omega) (Nat.le_of_ble_eq_true rfl) (Nat.le_of_ble_eq_true rfl) (lt_w1 rfl) sh260 (Nat.le_refl _) (Nat.le_refl _) ?_
    refine s170 (k := e) (by first | omega | decide) (Nat.le_refl _) (fun c2 => ?_) (fun c3 => ?_)
    ·
      show j_W 248 d 0 0 0 0 49 [some (.ref 260), some (.int (nI t)), some (.int (nI b)), some (.int (nI e)), some (.int (-1)), none, none, none, none, none, none, none] [.int 0] w1 (I, D, RR R) Q
      refine q_if_eq (tgt := 67) d248_49 rfl (fun _ => ?_) (fun h => absurd h (by decide))
      refine q_bipush (v := (-3)) (by decide) d248_67 ?_
      exact q_iret d248_69 rfl (Nat.le_refl _) (Nat.le_refl _) (v1 h1t c2)
    ·
      show j_W 248 d 0 0 0 0 49 [some (.ref 260), some (.int (nI t)), some (.int (nI b)), some (.int (nI e)), some (.int (-1)), none, none, none, none, none, none, none] [.int 1] w1 (I, D, RR R) Q
      refine q_if_eq (tgt := 67) d248_49 rfl (fun h => absurd h (by decide)) (fun _ => ?_)
      refine q_iload d248_52 rfl ?_
      refine q_iconst (v := (-1)) (by decide) d248_54 ?_
      refine q_icmp_eq (tgt := 70) d248_55 rfl (fun _ => ?_) (fun h => absurd h (by decide))
      refine q_aload_n d248_70 rfl ?_
      refine q_getR (x := 315) d248_71 (fs10_34 248 rfl) rfl (lt_w1 rfl) sh260 (rs260_6 R) (by decide) ?_
      refine q_iload_n d248_74 rfl ?_
      refine q_zaload (a := t) d248_75 (lt_w1 rfl) sh315 rfl (by omega) ?_
      refine q_istore (L' := [some (.ref 260), some (.int (nI t)), some (.int (nI b)), some (.int (nI e)), some (.int (-1)), some (.int (I 315 t)), none, none, none, none, none, none]) d248_76 (Nat.le_of_ble_eq_true rfl) rfl ?_
      refine q_aload_n d248_78 rfl ?_
      refine q_getR (x := 315) d248_79 (fs10_34 248 rfl) rfl (lt_w1 rfl) sh260 (rs260_6 R) (by decide) ?_
      refine q_iload_n d248_82 rfl ?_
      refine q_iconst (v := 0) (by decide) d248_83 ?_
      refine q_zastore (a := t) d248_84 (Or.inl rfl) (lt_w1 rfl) sh315 rfl (by omega) ?_
      refine q_aload_n d248_85 rfl ?_
      refine q_iconst (v := 1) (by decide) d248_86 ?_
      refine q_iload_n d248_87 rfl ?_
      refine q_ishl d248_88 ?_
      refine q_invV (o := 260) (ci := 10) (av := [.int (1 <<< ((nI b) &&& 31))]) (rest := []) (d' := 1) (mc' := 0) (ms' := 0) d248_89 (cv10_468 248 rfl) rfl (by decide) rfl rfl (by omega) (Nat.le_of_ble_eq_true rfl) (Nat.le_of_ble_eq_true rfl) (lt_w1 rfl) sh260 (Nat.le_refl _) (Nat.le_refl _) ?_
      refine c246 (β := β3) (S := S) (Nat.le_refl _) (v2 h1t c3) (v3 h1t c3) (v4 h1t c3) (v5 h1t c3) (fun x4 h5 => ?_)
      show j_W 248 d 0 0 0 0 92 [some (.ref 260), some (.int (nI t)), some (.int (nI b)), some (.int (nI e)), some (.int (-1)), some (.int (I 315 t)), none, none, none, none, none, none] [.int x4] w1 ((j_u I 315 t 0), D, RR R) Q
      refine q_bipush (v := 24) (by decide) d248_92 ?_
      refine q_iload_n d248_94 rfl ?_
      refine q_iadd d248_95 ?_
      refine r_int (y := (nI (24 + t))) (nI_add 24 t) ?_
      refine q_ishr d248_96 ?_
      refine q_iconst (v := 1) (by decide) d248_97 ?_
      refine q_iand d248_98 ?_
      refine q_iconst (v := 1) (by decide) d248_99 ?_
      refine q_icmp_ne (tgt := 107) d248_100 rfl (fun h6t => ?_) (fun h6f => ?_)
      ·
        refine q_iconst (v := 0) (by decide) d248_107 ?_
        refine q_istore (L' := [some (.ref 260), some (.int (nI t)), some (.int (nI b)), some (.int (nI e)), some (.int (-1)), some (.int (I 315 t)), some (.int 0), none, none, none, none, none]) d248_108 (Nat.le_of_ble_eq_true rfl) rfl ?_
        refine q_aload_n d248_110 rfl ?_
        refine q_getR (x := 315) d248_111 (fs10_34 248 rfl) rfl (lt_w1 rfl) sh260 (rs260_6 R) (by decide) ?_
        refine q_iload_n d248_114 rfl ?_
        refine q_iload d248_115 rfl ?_
        refine q_zastore (a := t) d248_117 (v6 h1t c3 x4 h5 h6t) (lt_w1 rfl) sh315 rfl (by omega) ?_
        refine q_iload d248_118 rfl ?_
        refine q_if_eq (tgt := 126) d248_120 rfl (fun _ => ?_) (fun h => absurd h (by decide))
        refine q_aload_n d248_126 rfl ?_
        refine q_getR (x := 316) d248_127 (fs10_37 248 rfl) rfl (lt_w1 rfl) sh260 (rs260_7 R) (by decide) ?_
        refine q_iload_n d248_130 rfl ?_
        refine q_iaload (a := t) d248_131 (lt_w1 rfl) sh316 rfl (by omega) ?_
        refine r_int (y := (I 316 t)) (show (j_u (j_u I 315 t 0) 315 t (I 315 t)) 316 t = (I 316 t) from ((j_u_o _ _ _ (by decide)).trans (j_u_o _ _ _ (by decide)))) ?_
        refine q_istore (L' := [some (.ref 260), some (.int (nI t)), some (.int (nI b)), some (.int (nI e)), some (.int (-1)), some (.int (I 315 t)), some (.int 0), some (.int (I 316 t)), none, none, none, none]) d248_132 (Nat.le_of_ble_eq_true rfl) rfl ?_
        refine q_aload_n d248_134 rfl ?_
        refine q_getR (x := 317) d248_135 (fs10_40 248 rfl) rfl (lt_w1 rfl) sh260 (rs260_8 R) (by decide) ?_
        refine q_iload_n d248_138 rfl ?_
        refine q_iaload (a := t) d248_139 (lt_w1 rfl) sh317 rfl (by omega) ?_
        refine r_int (y := (I 317 t)) (show (j_u (j_u I 315 t 0) 315 t (I 315 t)) 317 t = (I 317 t) from ((j_u_o _ _ _ (by decide)).trans (j_u_o _ _ _ (by decide)))) ?_
        refine q_istore (L' := [some (.ref 260), some (.int (nI t)), some (.int (nI b)), some (.int (nI e)), some (.int (-1)), some (.int (I 315 t)), some (.int 0), some (.int (I 316 t)), some (.int (I 317 t)), none, none, none]) d248_140 (Nat.le_of_ble_eq_true rfl) rfl ?_
        refine q_aload_n d248_142 rfl ?_
        refine q_getR (x := 318) d248_143 (fs10_43 248 rfl) rfl (lt_w1 rfl) sh260 (rs260_9 R) (by decide) ?_
        refine q_iload_n d248_146 rfl ?_
        refine q_iaload (a := t) d248_147 (lt_w1 rfl) sh318 rfl (by omega) ?_
        refine r_int (y := (I 318 t)) (show (j_u (j_u I 315 t 0) 315 t (I 315 t)) 318 t = (I 318 t) from ((j_u_o _ _ _ (by decide)).trans (j_u_o _ _ _ (by decide)))) ?_
        refine q_istore (L' := [some (.ref 260), some (.int (nI t)), some (.int (nI b)), some (.int (nI e)), some (.int (-1)), some (.int (I 315 t)), some (.int 0), some (.int (I 316 t)), some (.int (I 317 t)), some (.int (I 318 t)), none, none]) d248_148 (Nat.le_of_ble_eq_true rfl) rfl ?_
        refine q_aload_n d248_150 rfl ?_
        refine q_getR (x := 319) d248_151 (fs10_46 248 rfl) rfl (lt_w1 rfl) sh260 (rs260_10 R) (by decide) ?_
        refine q_iconst (v := 2) (by decide) d248_154 ?_
        refine q_iload_n d248_155 rfl ?_
        refine q_imul d248_156 ?_
        refine r_int (y := (nI (2 * t))) (pk_mul 2 t) ?_
        refine q_iaload (a := (2 * t)) d248_157 (lt_w1 rfl) sh319 rfl (by omega) ?_
        refine r_int (y := (I 319 (2 * t))) (show (j_u (j_u I 315 t 0) 315 t (I 315 t)) 319 (2 * t) = (I 319 (2 * t)) from ((j_u_o _ _ _ (by decide)).trans (j_u_o _ _ _ (by decide)))) ?_
        refine q_istore (L' := [some (.ref 260), some (.int (nI t)), some (.int (nI b)), some (.int (nI e)), some (.int (-1)), some (.int (I 315 t)), some (.int 0), some (.int (I 316 t)), some (.int (I 317 t)), some (.int (I 318 t)), some (.int (I 319 (2 * t))), none]) d248_158 (Nat.le_of_ble_eq_true rfl) rfl ?_
        refine q_aload_n d248_160 rfl ?_
        refine q_getR (x := 319) d248_161 (fs10_46 248 rfl) rfl (lt_w1 rfl) sh260 (rs260_10 R) (by decide) ?_
        refine q_iconst (v := 2) (by decide) d248_164 ?_
        refine q_iload_n d248_165 rfl ?_
        refine q_imul d248_166 ?_
        refine r_int (y := (nI (2 * t))) (pk_mul 2 t) ?_
        refine q_iconst (v := 1) (by decide) d248_167 ?_
        refine q_iadd d248_168 ?_
        refine r_int (y := (nI ((2 * t) + 1))) (nI_add (2 * t) 1) ?_
        refine q_iaload (a := ((2 * t) + 1)) d248_169 (lt_w1 rfl) sh319 rfl (by omega) ?_
        refine r_int (y := (I 319 ((2 * t) + 1))) (show (j_u (j_u I 315 t 0) 315 t (I 315 t)) 319 ((2 * t) + 1) = (I 319 ((2 * t) + 1)) from ((j_u_o _ _ _ (by decide)).trans (j_u_o _ _ _ (by decide)))) ?_
        refine q_istore (L' := [some (.ref 260), some (.int (nI t)), some (.int (nI b)), some (.int (nI e)), some (.int (-1)), some (.int (I 315 t)), some (.int 0), some (.int (I 316 t)), some (.int (I 317 t)), some (.int (I 318 t)), some (.int (I 319 (2 * t))), some (.int (I 319 ((2 * t) + 1)))]) d248_170 (Nat.le_of_ble_eq_true rfl) rfl ?_
        refine q_aload_n d248_172 rfl ?_
        refine q_getR (x := 315) d248_173 (fs10_34 248 rfl) rfl (lt_w1 rfl) sh260 (rs260_6 R) (by decide) ?_
        refine q_iload_n d248_176 rfl ?_
        refine q_iconst (v := 1) (by decide) d248_177 ?_
        refine q_zastore (a := t) d248_178 (Or.inr rfl) (lt_w1 rfl) sh315 rfl (by omega) ?_
        refine q_aload_n d248_179 rfl ?_
        refine q_getR (x := 316) d248_180 (fs10_37 248 rfl) rfl (lt_w1 rfl) sh260 (rs260_7 R) (by decide) ?_
        refine q_iload_n d248_183 rfl ?_
        refine q_iload_n d248_184 rfl ?_
        refine q_iastore (a := t) d248_185 (lt_w1 rfl) sh316 rfl (by omega) ?_
        refine q_aload_n d248_186 rfl ?_
        refine q_getR (x := 317) d248_187 (fs10_40 248 rfl) rfl (lt_w1 rfl) sh260 (rs260_8 R) (by decide) ?_
        refine q_iload_n d248_190 rfl ?_
        refine q_iload_n d248_191 rfl ?_
        refine q_iastore (a := t) d248_192 (lt_w1 rfl) sh317 rfl (by omega) ?_
        refine q_aload_n d248_193 rfl ?_
        refine q_getR (x := 318) d248_194 (fs10_43 248 rfl) rfl (lt_w1 rfl) sh260 (rs260_9 R) (by decide) ?_
        refine q_iload_n d248_197 rfl ?_
        refine q_iload d248_198 rfl ?_
        refine q_iastore (a := t) d248_200 (lt_w1 rfl) sh318 rfl (by omega) ?_
        refine q_aload_n d248_201 rfl ?_
        refine q_getR (x := 319) d248_202 (fs10_46 248 rfl) rfl (lt_w1 rfl) sh260 (rs260_10 R) (by decide) ?_
        refine q_iconst (v := 2) (by decide) d248_205 ?_
        refine q_iload_n d248_206 rfl ?_
        refine q_imul d248_207 ?_
        refine r_int (y := (nI (2 * t))) (pk_mul 2 t) ?_
        refine q_iconst (v := 1) (by decide) d248_208 ?_
        refine q_iastore (a := (2 * t)) d248_209 (lt_w1 rfl) sh319 rfl (by omega) ?_
        refine q_aload_n d248_210 rfl ?_
        refine q_getR (x := 319) d248_211 (fs10_46 248 rfl) rfl (lt_w1 rfl) sh260 (rs260_10 R) (by decide) ?_
        refine q_iconst (v := 2) (by decide) d248_214 ?_
        refine q_iload_n d248_215 rfl ?_
        refine q_imul d248_216 ?_
        refine r_int (y := (nI (2 * t))) (pk_mul 2 t) ?_
        refine q_iconst (v := 1) (by decide) d248_217 ?_
        refine q_iadd d248_218 ?_
        refine r_int (y := (nI ((2 * t) + 1))) (nI_add (2 * t) 1) ?_
        refine q_iload d248_219 rfl ?_
        refine q_iconst (v := (-1)) (by decide) d248_221 ?_
        refine q_icmp_ne (tgt := 229) d248_222 rfl (fun h => absurd h (by decide)) (fun _ => ?_)
        refine q_iconst (v := 0) (by decide) d248_225 ?_
        refine q_goto (tgt := 230) d248_226 rfl ?_
        refine q_iastore (a := ((2 * t) + 1)) d248_230 (lt_w1 rfl) sh319 rfl (by omega) ?_
        refine q_aload_n d248_231 rfl ?_
        refine q_invV (o := 260) (ci := 10) (av := []) (rest := []) (d' := (d - 1)) (mc' := 0) (ms' := 0) d248_232 (cv10_477 248 rfl) rfl (by decide) rfl rfl (by omega) (Nat.le_of_ble_eq_true rfl) (Nat.le_of_ble_eq_true rfl) (lt_w1 rfl) sh260 (Nat.le_refl _) (Nat.le_refl _) ?_
        refine c247 (β := β2) (X := X) (bv := bv) (v7 h1t c3 x4 h5 h6t) (v8 h1t c3 x4 h5 h6t) (v9 h1t c3 x4 h5 h6t) (v10 h1t c3 x4 h5 h6t) (v11 h1t c3 x4 h5 h6t) (fun h8 K7 h9 h10 => ?_) (fun h8 K7 h9 h10 => ?_)
        ·
          show j_W 248 d 0 0 0 0 235 [some (.ref 260), some (.int (nI t)), some (.int (nI b)), some (.int (nI e)), some (.int (-1)), some (.int (I 315 t)), some (.int 0), some (.int (I 316 t)), some (.int (I 317 t)), some (.int (I 318 t)), some (.int (I 319 (2 * t))), some (.int (I 319 ((2 * t) + 1)))] [.int 1] w1 (K7, D, RR R) Q
          refine q_if_eq (tgt := 295) d248_235 rfl (fun h => absurd h (by decide)) (fun _ => ?_)
          refine q_aload_n d248_238 rfl ?_
          refine q_getR (x := 315) d248_239 (fs10_34 248 rfl) rfl (lt_w1 rfl) sh260 (rs260_6 R) (by decide) ?_
          refine q_iload_n d248_242 rfl ?_
          refine q_iload d248_243 rfl ?_
          refine q_zastore (a := t) d248_245 (v6 h1t c3 x4 h5 h6t) (lt_w1 rfl) sh315 rfl (by omega) ?_
          refine q_aload_n d248_246 rfl ?_
          refine q_getR (x := 316) d248_247 (fs10_37 248 rfl) rfl (lt_w1 rfl) sh260 (rs260_7 R) (by decide) ?_
          refine q_iload_n d248_250 rfl ?_
          refine q_iload d248_251 rfl ?_
          refine q_iastore (a := t) d248_253 (lt_w1 rfl) sh316 rfl (by omega) ?_
          refine q_aload_n d248_254 rfl ?_
          refine q_getR (x := 317) d248_255 (fs10_40 248 rfl) rfl (lt_w1 rfl) sh260 (rs260_8 R) (by decide) ?_
          refine q_iload_n d248_258 rfl ?_
          refine q_iload d248_259 rfl ?_
          refine q_iastore (a := t) d248_261 (lt_w1 rfl) sh317 rfl (by omega) ?_
          refine q_aload_n d248_262 rfl ?_
          refine q_getR (x := 318) d248_263 (fs10_43 248 rfl) rfl (lt_w1 rfl) sh260 (rs260_9 R) (by decide) ?_
          refine q_iload_n d248_266 rfl ?_
          refine q_iload d248_267 rfl ?_
          refine q_iastore (a := t) d248_269 (lt_w1 rfl) sh318 rfl (by omega) ?_
          refine q_aload_n d248_270 rfl ?_
          refine q_getR (x := 319) d248_271 (fs10_46 248 rfl) rfl (lt_w1 rfl) sh260 (rs260_10 R) (by decide) ?_
          refine q_iconst (v := 2) (by decide) d248_274 ?_
          refine q_iload_n d248_275 rfl ?_
          refine q_imul d248_276 ?_
          refine r_int (y := (nI (2 * t))) (pk_mul 2 t) ?_
          refine q_iload d248_277 rfl ?_
          refine q_iastore (a := (2 * t)) d248_279 (lt_w1 rfl) sh319 rfl (by omega) ?_
          refine q_aload_n d248_280 rfl ?_
          refine q_getR (x := 319) d248_281 (fs10_46 248 rfl) rfl (lt_w1 rfl) sh260 (rs260_10 R) (by decide) ?_
          refine q_iconst (v := 2) (by decide) d248_284 ?_
          refine q_iload_n d248_285 rfl ?_
          refine q_imul d248_286 ?_
          refine r_int (y := (nI (2 * t))) (pk_mul 2 t) ?_
          refine q_iconst (v := 1) (by decide) d248_287 ?_
          refine q_iadd d248_288 ?_
          refine r_int (y := (nI ((2 * t) + 1))) (nI_add (2 * t) 1) ?_
          refine q_iload d248_289 rfl ?_
          refine q_iastore (a := ((2 * t) + 1)) d248_291 (lt_w1 rfl) sh319 rfl (by omega) ?_
          refine q_bipush (v := (-4)) (by decide) d248_292 ?_
          exact q_iret d248_294 rfl (Nat.le_refl _) (Nat.le_refl _) (v12 h1t c3 x4 h5 h6t h8 K7 h9 h10)
        ·
          show j_W 248 d 0 0 0 0 235 [some (.ref 260), some (.int (nI t)), some (.int (nI b)), some (.int (nI e)), some (.int (-1)), some (.int (I 315 t)), some (.int 0), some (.int (I 316 t)), some (.int (I 317 t)), some (.int (I 318 t)), some (.int (I 319 (2 * t))), some (.int (I 319 ((2 * t) + 1)))] [.int 0] w1 (K7, D, RR R) Q
          refine q_if_eq (tgt := 295) d248_235 rfl (fun _ => ?_) (fun h => absurd h (by decide))
          refine q_aload_n d248_295 rfl ?_
          refine q_getR (x := 320) d248_296 (fs10_49 248 rfl) rfl (lt_w1 rfl) sh260 (rs260_11 R) (by decide) ?_
          refine q_iconst (v := 2) (by decide) d248_299 ?_
          refine q_iload_n d248_300 rfl ?_
          refine q_imul d248_301 ?_
          refine r_int (y := (nI (2 * t))) (pk_mul 2 t) ?_
          refine q_aaload (c := 3) (a := (2 * t)) (x := (321 + (2 * t))) d248_302 (lt_w1 rfl) sh320 (by decide) rfl (by omega) (rm320 R (by omega)) (lt1000 (lm320 (by omega))) ?_
          refine q_iconst (v := 0) (by decide) d248_303 ?_
          refine q_dconst0 d248_304 ?_
          refine q_dastore (a := 0) d248_305 (lm320 (by omega)) (sm320 (by omega)) rfl (by decide) ?_
          refine q_aload_n d248_306 rfl ?_
          refine q_getR (x := 320) d248_307 (fs10_49 248 rfl) rfl (lt_w1 rfl) sh260 (rs260_11 R) (by decide) ?_
          refine q_iconst (v := 2) (by decide) d248_310 ?_
          refine q_iload_n d248_311 rfl ?_
          refine q_imul d248_312 ?_
          refine r_int (y := (nI (2 * t))) (pk_mul 2 t) ?_
          refine q_iconst (v := 1) (by decide) d248_313 ?_
          refine q_iadd d248_314 ?_
          refine r_int (y := (nI ((2 * t) + 1))) (nI_add (2 * t) 1) ?_
          refine q_aaload (c := 3) (a := ((2 * t) + 1)) (x := (321 + ((2 * t) + 1))) d248_315 (lt_w1 rfl) sh320 (by decide) rfl (by omega) (rm320 R (by omega)) (lt1000 (lm320 (by omega))) ?_
          refine q_iconst (v := 0) (by decide) d248_316 ?_
          refine q_dconst0 d248_317 ?_
          refine q_dastore (a := 0) d248_318 (lm320 (by omega)) (sm320 (by omega)) rfl (by decide) ?_
          refine q_iconst (v := 1) (by decide) d248_319 ?_
          exact q_iret d248_320 rfl (Nat.le_refl _) (Nat.le_refl _) (v13 h1t c3 x4 h5 h6t h8 K7 h9 h10)
      ·
        refine q_iconst (v := 1) (by decide) d248_103 ?_
        refine q_goto (tgt := 108) d248_104 rfl ?_
        refine q_istore (L' := [some (.ref 260), some (.int (nI t)), some (.int (nI b)), some (.int (nI e)), some (.int (-1)), some (.int (I 315 t)), some (.int 1), none, none, none, none, none]) d248_108 (Nat.le_of_ble_eq_true rfl) rfl ?_
        refine q_aload_n d248_110 rfl ?_
        refine q_getR (x := 315) d248_111 (fs10_34 248 rfl) rfl (lt_w1 rfl) sh260 (rs260_6 R) (by decide) ?_
        refine q_iload_n d248_114 rfl ?_
        refine q_iload d248_115 rfl ?_
        refine q_zastore (a := t) d248_117 (v14 h1t c3 x4 h5 h6f) (lt_w1 rfl) sh315 rfl (by omega) ?_
        refine q_iload d248_118 rfl ?_
        refine q_if_eq (tgt := 126) d248_120 rfl (fun h => absurd h (by decide)) (fun _ => ?_)
        refine q_bipush (v := (-5)) (by decide) d248_123 ?_
        exact q_iret d248_125 rfl (Nat.le_refl _) (Nat.le_refl _) (v15 h1t c3 x4 h5 h6f)
  ·
    refine q_bipush (v := (-2)) (by decide) d248_41 ?_
    exact q_iret d248_43 rfl (Nat.le_refl _) (Nat.le_refl _) (v16 h1f)

set_option maxRecDepth 10000 in
set_option maxHeartbeats 4000000 in
theorem s104w {d : Nat} {I : Nat → Nat → Int32} {D : Nat → Nat → UInt64} {R : Nat → Nat → Option Nat} {Q : j_Po} {t : Nat} {b : Nat} {e : Nat} {w : Nat} {β β2 : Bd} {S : Nat → Bool} (hR : WFR R) (ht : t < 6) (hb : b < 24) (he : e < 24) (hw : w < 24) (hd : 6 ≤ d)
    (v1 : ((nI w) = (-1)) → (¬ e = w) → ((I ((R 112 e).getD 0) 1) ≤ 0) → ∀ u, u < 30 → ∀ v, v < 32 → bt (nby I R u) v = ed β u v)
    (v2 : ((nI w) = (-1)) → (¬ e = w) → ((I ((R 112 e).getD 0) 1) ≤ 0) → ∀ u v, u < 30 → ed β u v = true → v < 30)
    (v3 : ((nI w) = (-1)) → (¬ e = w) → ((I ((R 112 e).getD 0) 1) ≤ 0) → ∀ v, v < 32 → bt (1 <<< ((nI b) &&& 31)) v = S v)
    (v4 : ((nI w) = (-1)) → (¬ e = w) → ((I ((R 112 e).getD 0) 1) ≤ 0) → ∀ v, v < 32 → S v = true → v < 30)
    (v5 : ((nI w) = (-1)) → (¬ e = w) → ((I ((R 112 e).getD 0) 1) ≤ 0) → ∀ x6 : Int32, (Clo (ed β) S x6) → ((¬ (x6 >>> ((nI (24 + t)) &&& 31)) &&& 1 = 0)) → Q (some (.int (-5))) w1 (I, D, RR R))
    (v6 : ((nI w) = (-1)) → (¬ e = w) → ((I ((R 112 e).getD 0) 1) ≤ 0) → ∀ x6 : Int32, (Clo (ed β) S x6) → (¬ ((¬ (x6 >>> ((nI (24 + t)) &&& 31)) &&& 1 = 0))) → t < 6)
    (v7 : ((nI w) = (-1)) → (¬ e = w) → ((I ((R 112 e).getD 0) 1) ≤ 0) → ∀ x6 : Int32, (Clo (ed β) S x6) → (¬ ((¬ (x6 >>> ((nI (24 + t)) &&& 31)) &&& 1 = 0))) → 5 ≤ d - 1)
    (v8 : ((nI w) = (-1)) → (¬ e = w) → ((I ((R 112 e).getD 0) 1) ≤ 0) → ∀ x6 : Int32, (Clo (ed β) S x6) → (¬ ((¬ (x6 >>> ((nI (24 + t)) &&& 31)) &&& 1 = 0))) → BV β)
    (v9 : ((nI w) = (-1)) → (¬ e = w) → ((I ((R 112 e).getD 0) 1) ≤ 0) → ∀ x6 : Int32, (Clo (ed β) S x6) → (¬ ((¬ (x6 >>> ((nI (24 + t)) &&& 31)) &&& 1 = 0))) → CB β (j_u (j_u (j_u (j_u (j_u (j_u I ((R 0 6).getD 0) 0 1) ((R 0 6).getD 0) 1 (nI b)) ((R 0 6).getD 0) 2 (nI e)) ((R 0 6).getD 0) 3 (nI w)) ((R 0 6).getD 0) 4 1) ((R 0 6).getD 0) 5 0) (j_u (j_u D (((R 0 6).getD 0) + 1) 0 FP.dconst0) (((R 0 6).getD 0) + 2) 0 FP.dconst0) R)
    (v10 : ((nI w) = (-1)) → (¬ e = w) → ((I ((R 112 e).getD 0) 1) ≤ 0) → ∀ x6 : Int32, (Clo (ed β) S x6) → (¬ ((¬ (x6 >>> ((nI (24 + t)) &&& 31)) &&& 1 = 0))) → NB (j_u (j_u (j_u (j_u (j_u (j_u I ((R 0 6).getD 0) 0 1) ((R 0 6).getD 0) 1 (nI b)) ((R 0 6).getD 0) 2 (nI e)) ((R 0 6).getD 0) 3 (nI w)) ((R 0 6).getD 0) 4 1) ((R 0 6).getD 0) 5 0))
    (v11 : ((nI w) = (-1)) → (¬ e = w) → ((I ((R 112 e).getD 0) 1) ≤ 0) → ∀ x6 : Int32, (Clo (ed β) S x6) → (¬ ((¬ (x6 >>> ((nI (24 + t)) &&& 31)) &&& 1 = 0))) → BV β2)
    (v12 : ((nI w) = (-1)) → (¬ e = w) → ((I ((R 112 e).getD 0) 1) ≤ 0) → ∀ x6 : Int32, (Clo (ed β) S x6) → (¬ ((¬ (x6 >>> ((nI (24 + t)) &&& 31)) &&& 1 = 0))) → CB β2 (j_u (j_u (j_u (j_u (j_u (j_u I ((R 0 6).getD 0) 0 1) ((R 0 6).getD 0) 1 (nI b)) ((R 0 6).getD 0) 2 (nI e)) ((R 0 6).getD 0) 3 (nI w)) ((R 0 6).getD 0) 4 1) ((R 0 6).getD 0) 5 0) (j_u (j_u D (((R 0 6).getD 0) + 1) 0 FP.dconst0) (((R 0 6).getD 0) + 2) 0 FP.dconst0) (j_u R 113 t (some (gs R))))
    (v13 : ((nI w) = (-1)) → (¬ e = w) → ((I ((R 112 e).getD 0) 1) ≤ 0) → ∀ x6 : Int32, (Clo (ed β) S x6) → (¬ ((¬ (x6 >>> ((nI (24 + t)) &&& 31)) &&& 1 = 0))) → ∀ J13 : Nat → Nat → Int32, (∀ o', (o' < 205 ∨ 211 ≤ o') → J13 o' = (j_u (j_u (j_u (j_u (j_u (j_u I ((R 0 6).getD 0) 0 1) ((R 0 6).getD 0) 1 (nI b)) ((R 0 6).getD 0) 2 (nI e)) ((R 0 6).getD 0) 3 (nI w)) ((R 0 6).getD 0) 4 1) ((R 0 6).getD 0) 5 0) o') → (NM β2 J13) → (OrdB β2 J13) → (∀ v, v < 30 → bu J13 v ≤ 2000) → Q (some (.int 1)) w1 (J13, (j_u (j_u D (((R 0 6).getD 0) + 1) 0 FP.dconst0) (((R 0 6).getD 0) + 2) 0 FP.dconst0), RR (j_u (j_u R 113 t (some (gs R))) 0 6 (some (go R t)))))
    (v14 : ((nI w) = (-1)) → (¬ e = w) → ((I ((R 112 e).getD 0) 1) ≤ 0) → ∀ x6 : Int32, (Clo (ed β) S x6) → (¬ ((¬ (x6 >>> ((nI (24 + t)) &&& 31)) &&& 1 = 0))) → ∀ J13 : Nat → Nat → Int32, (∀ o', (o' < 205 ∨ 211 ≤ o') → J13 o' = (j_u (j_u (j_u (j_u (j_u (j_u I ((R 0 6).getD 0) 0 1) ((R 0 6).getD 0) 1 (nI b)) ((R 0 6).getD 0) 2 (nI e)) ((R 0 6).getD 0) 3 (nI w)) ((R 0 6).getD 0) 4 1) ((R 0 6).getD 0) 5 0) o') → (NM β J13) → (OrdB β J13) → (∃ J', NM β2 J' ∧ ∃ v, v < 30 ∧ 2000 < bu J' v) → Q (some (.int (-4))) w1 (J13, (j_u (j_u D (((R 0 6).getD 0) + 1) 0 FP.dconst0) (((R 0 6).getD 0) + 2) 0 FP.dconst0), RR R))
    (v15 : ((nI w) = (-1)) → (¬ e = w) → (¬ (I ((R 112 e).getD 0) 1) ≤ 0) → Q (some (.int (-3))) w1 (I, D, RR R))
    (v16 : ((nI w) = (-1)) → (e = w) → Q (some (.int (-2))) w1 (I, D, RR R))
    (v17 : (¬ (nI w) = (-1)) → (¬ e = w) → ((I ((R 112 e).getD 0) 1) ≤ 0) → ((I ((R 112 w).getD 0) 1) ≤ 0) → ∀ u, u < 30 → ∀ v, v < 32 → bt (nby I R u) v = ed β u v)
    (v18 : (¬ (nI w) = (-1)) → (¬ e = w) → ((I ((R 112 e).getD 0) 1) ≤ 0) → ((I ((R 112 w).getD 0) 1) ≤ 0) → ∀ u v, u < 30 → ed β u v = true → v < 30)
    (v19 : (¬ (nI w) = (-1)) → (¬ e = w) → ((I ((R 112 e).getD 0) 1) ≤ 0) → ((I ((R 112 w).getD 0) 1) ≤ 0) → ∀ v, v < 32 → bt (1 <<< ((nI b) &&& 31)) v = S v)
    (v20 : (¬ (nI w) = (-1)) → (¬ e = w) → ((I ((R 112 e).getD 0) 1) ≤ 0) → ((I ((R 112 w).getD 0) 1) ≤ 0) → ∀ v, v < 32 → S v = true → v < 30)
    (v21 : (¬ (nI w) = (-1)) → (¬ e = w) → ((I ((R 112 e).getD 0) 1) ≤ 0) → ((I ((R 112 w).getD 0) 1) ≤ 0) → ∀ x24 : Int32, (Clo (ed β) S x24) → ((¬ (x24 >>> ((nI (24 + t)) &&& 31)) &&& 1 = 0)) → Q (some (.int (-5))) w1 (I, D, RR R))
    (v22 : (¬ (nI w) = (-1)) → (¬ e = w) → ((I ((R 112 e).getD 0) 1) ≤ 0) → ((I ((R 112 w).getD 0) 1) ≤ 0) → ∀ x24 : Int32, (Clo (ed β) S x24) → (¬ ((¬ (x24 >>> ((nI (24 + t)) &&& 31)) &&& 1 = 0))) → t < 6)
    (v23 : (¬ (nI w) = (-1)) → (¬ e = w) → ((I ((R 112 e).getD 0) 1) ≤ 0) → ((I ((R 112 w).getD 0) 1) ≤ 0) → ∀ x24 : Int32, (Clo (ed β) S x24) → (¬ ((¬ (x24 >>> ((nI (24 + t)) &&& 31)) &&& 1 = 0))) → 5 ≤ d - 1)
    (v24 : (¬ (nI w) = (-1)) → (¬ e = w) → ((I ((R 112 e).getD 0) 1) ≤ 0) → ((I ((R 112 w).getD 0) 1) ≤ 0) → ∀ x24 : Int32, (Clo (ed β) S x24) → (¬ ((¬ (x24 >>> ((nI (24 + t)) &&& 31)) &&& 1 = 0))) → BV β)
    (v25 : (¬ (nI w) = (-1)) → (¬ e = w) → ((I ((R 112 e).getD 0) 1) ≤ 0) → ((I ((R 112 w).getD 0) 1) ≤ 0) → ∀ x24 : Int32, (Clo (ed β) S x24) → (¬ ((¬ (x24 >>> ((nI (24 + t)) &&& 31)) &&& 1 = 0))) → CB β (j_u (j_u (j_u (j_u (j_u (j_u I ((R 0 6).getD 0) 0 1) ((R 0 6).getD 0) 1 (nI b)) ((R 0 6).getD 0) 2 (nI e)) ((R 0 6).getD 0) 3 (nI w)) ((R 0 6).getD 0) 4 1) ((R 0 6).getD 0) 5 1) (j_u (j_u D (((R 0 6).getD 0) + 1) 0 FP.dconst0) (((R 0 6).getD 0) + 2) 0 FP.dconst0) R)
    (v26 : (¬ (nI w) = (-1)) → (¬ e = w) → ((I ((R 112 e).getD 0) 1) ≤ 0) → ((I ((R 112 w).getD 0) 1) ≤ 0) → ∀ x24 : Int32, (Clo (ed β) S x24) → (¬ ((¬ (x24 >>> ((nI (24 + t)) &&& 31)) &&& 1 = 0))) → NB (j_u (j_u (j_u (j_u (j_u (j_u I ((R 0 6).getD 0) 0 1) ((R 0 6).getD 0) 1 (nI b)) ((R 0 6).getD 0) 2 (nI e)) ((R 0 6).getD 0) 3 (nI w)) ((R 0 6).getD 0) 4 1) ((R 0 6).getD 0) 5 1))
    (v27 : (¬ (nI w) = (-1)) → (¬ e = w) → ((I ((R 112 e).getD 0) 1) ≤ 0) → ((I ((R 112 w).getD 0) 1) ≤ 0) → ∀ x24 : Int32, (Clo (ed β) S x24) → (¬ ((¬ (x24 >>> ((nI (24 + t)) &&& 31)) &&& 1 = 0))) → BV β2)
    (v28 : (¬ (nI w) = (-1)) → (¬ e = w) → ((I ((R 112 e).getD 0) 1) ≤ 0) → ((I ((R 112 w).getD 0) 1) ≤ 0) → ∀ x24 : Int32, (Clo (ed β) S x24) → (¬ ((¬ (x24 >>> ((nI (24 + t)) &&& 31)) &&& 1 = 0))) → CB β2 (j_u (j_u (j_u (j_u (j_u (j_u I ((R 0 6).getD 0) 0 1) ((R 0 6).getD 0) 1 (nI b)) ((R 0 6).getD 0) 2 (nI e)) ((R 0 6).getD 0) 3 (nI w)) ((R 0 6).getD 0) 4 1) ((R 0 6).getD 0) 5 1) (j_u (j_u D (((R 0 6).getD 0) + 1) 0 FP.dconst0) (((R 0 6).getD 0) + 2) 0 FP.dconst0) (j_u R 113 t (some (gs R))))
    (v29 : (¬ (nI w) = (-1)) → (¬ e = w) → ((I ((R 112 e).getD 0) 1) ≤ 0) → ((I ((R 112 w).getD 0) 1) ≤ 0) → ∀ x24 : Int32, (Clo (ed β) S x24) → (¬ ((¬ (x24 >>> ((nI (24 + t)) &&& 31)) &&& 1 = 0))) → ∀ J31 : Nat → Nat → Int32, (∀ o', (o' < 205 ∨ 211 ≤ o') → J31 o' = (j_u (j_u (j_u (j_u (j_u (j_u I ((R 0 6).getD 0) 0 1) ((R 0 6).getD 0) 1 (nI b)) ((R 0 6).getD 0) 2 (nI e)) ((R 0 6).getD 0) 3 (nI w)) ((R 0 6).getD 0) 4 1) ((R 0 6).getD 0) 5 1) o') → (NM β2 J31) → (OrdB β2 J31) → (∀ v, v < 30 → bu J31 v ≤ 2000) → Q (some (.int 1)) w1 (J31, (j_u (j_u D (((R 0 6).getD 0) + 1) 0 FP.dconst0) (((R 0 6).getD 0) + 2) 0 FP.dconst0), RR (j_u (j_u R 113 t (some (gs R))) 0 6 (some (go R t)))))
    (v30 : (¬ (nI w) = (-1)) → (¬ e = w) → ((I ((R 112 e).getD 0) 1) ≤ 0) → ((I ((R 112 w).getD 0) 1) ≤ 0) → ∀ x24 : Int32, (Clo (ed β) S x24) → (¬ ((¬ (x24 >>> ((nI (24 + t)) &&& 31)) &&& 1 = 0))) → ∀ J31 : Nat → Nat → Int32, (∀ o', (o' < 205 ∨ 211 ≤ o') → J31 o' = (j_u (j_u (j_u (j_u (j_u (j_u I ((R 0 6).getD 0) 0 1) ((R 0 6).getD 0) 1 (nI b)) ((R 0 6).getD 0) 2 (nI e)) ((R 0 6).getD 0) 3 (nI w)) ((R 0 6).getD 0) 4 1) ((R 0 6).getD 0) 5 1) o') → (NM β J31) → (OrdB β J31) → (∃ J', NM β2 J' ∧ ∃ v, v < 30 ∧ 2000 < bu J' v) → Q (some (.int (-4))) w1 (J31, (j_u (j_u D (((R 0 6).getD 0) + 1) 0 FP.dconst0) (((R 0 6).getD 0) + 2) 0 FP.dconst0), RR R))
    (v31 : (¬ (nI w) = (-1)) → (¬ e = w) → ((I ((R 112 e).getD 0) 1) ≤ 0) → (¬ (I ((R 112 w).getD 0) 1) ≤ 0) → Q (some (.int (-3))) w1 (I, D, RR R))
    (v32 : (¬ (nI w) = (-1)) → (¬ e = w) → (¬ (I ((R 112 e).getD 0) 1) ≤ 0) → Q (some (.int (-3))) w1 (I, D, RR R))
    (v33 : (¬ (nI w) = (-1)) → (e = w) → Q (some (.int (-2))) w1 (I, D, RR R)) : j_Call d 104 [.ref 0, .int (nI t), .int (nI b), .int (nI e), .int (nI w)] w1 (I, D, RR R) 0 0 Q := by
  refine q_enter (L := [some (.ref 0), some (.int (nI t)), some (.int (nI b)), some (.int (nI e)), some (.int (nI w))]) j_m104 (Nat.le_of_ble_eq_true rfl) rfl ?_
  refine q_iload_n d104_0 rfl ?_
  refine q_invS (av := [.int (nI t)]) (rest := []) (d' := 0) (mc' := 0) (ms' := 0) d104_1 (cv9_183 104 rfl) rfl rfl (by omega) (Nat.le_of_ble_eq_true rfl) (Nat.le_of_ble_eq_true rfl) (Nat.le_refl _) (Nat.le_refl _) ?_
  refine r39t (by first | omega | decide)  ?_
  show j_W 104 d 0 0 0 0 4 [some (.ref 0), some (.int (nI t)), some (.int (nI b)), some (.int (nI e)), some (.int (nI w))] [.int 1] w1 (I, D, RR R) Q
  refine q_if_eq (tgt := 21) d104_4 rfl (fun h => absurd h (by decide)) (fun _ => ?_)
  refine q_iload_n d104_7 rfl ?_
  refine q_invS (av := [.int (nI b)]) (rest := []) (d' := 0) (mc' := 0) (ms' := 0) d104_8 (cv9_60 104 rfl) rfl rfl (by omega) (Nat.le_of_ble_eq_true rfl) (Nat.le_of_ble_eq_true rfl) (Nat.le_refl _) (Nat.le_refl _) ?_
  refine r12t (by first | omega | decide)  ?_
  show j_W 104 d 0 0 0 0 11 [some (.ref 0), some (.int (nI t)), some (.int (nI b)), some (.int (nI e)), some (.int (nI w))] [.int 1] w1 (I, D, RR R) Q
  refine q_if_eq (tgt := 21) d104_11 rfl (fun h => absurd h (by decide)) (fun _ => ?_)
  refine q_iload_n d104_14 rfl ?_
  refine q_invS (av := [.int (nI e)]) (rest := []) (d' := 0) (mc' := 0) (ms' := 0) d104_15 (cv9_60 104 rfl) rfl rfl (by omega) (Nat.le_of_ble_eq_true rfl) (Nat.le_of_ble_eq_true rfl) (Nat.le_refl _) (Nat.le_refl _) ?_
  refine r12t (by first | omega | decide)  ?_
  show j_W 104 d 0 0 0 0 18 [some (.ref 0), some (.int (nI t)), some (.int (nI b)), some (.int (nI e)), some (.int (nI w))] [.int 1] w1 (I, D, RR R) Q
  refine q_if_ne (tgt := 24) d104_18 rfl (fun _ => ?_) (fun h => absurd h (by decide))
  refine q_iload d104_24 rfl ?_
  refine q_iconst (v := (-1)) (by decide) d104_26 ?_
  refine q_icmp_eq (tgt := 38) d104_27 rfl (fun h1t => ?_) (fun h1f => ?_)
  ·
    refine q_iload_n d104_38 rfl ?_
    refine q_iload d104_39 rfl ?_
    refine q_icmp_ne (tgt := 47) d104_41 rfl (fun h2t => ?_) (fun h2f => ?_)
    ·
      have h2tc : ¬ e = w := mt (nI_eqN (by omega) (by omega)).mpr h2t
      refine q_aload_n d104_47 rfl ?_
      refine q_getR (x := 108) d104_48 (fs9_53 104 rfl) rfl (lt_w1 rfl) sh0 (rs0_1 R) (by decide) ?_
      refine q_iload_n d104_51 rfl ?_
      refine q_invV (o := 108) (ci := 0) (av := [.int (nI e)]) (rest := []) (d' := 0) (mc' := 0) (ms' := 0) d104_52 (cv9_69 104 rfl) rfl (by decide) rfl rfl (by omega) (Nat.le_of_ble_eq_true rfl) (Nat.le_of_ble_eq_true rfl) (lt_w1 rfl) sh108 (Nat.le_refl _) (Nat.le_refl _) ?_
      refine s14 (k := e) hR (by first | omega | decide) (Nat.le_refl _) (fun c3 => ?_) (fun c4 => ?_)
      ·
        show j_W 104 d 0 0 0 0 55 [some (.ref 0), some (.int (nI t)), some (.int (nI b)), some (.int (nI e)), some (.int (nI w))] [.int 0] w1 (I, D, RR R) Q
        refine q_if_ne (tgt := 76) d104_55 rfl (fun h => absurd h (by decide)) (fun _ => ?_)
        refine q_iload d104_58 rfl ?_
        refine q_iconst (v := (-1)) (by decide) d104_60 ?_
        refine q_icmp_eq (tgt := 79) d104_61 rfl (fun h5t => ?_) (fun h5f => ?_)
        ·
          refine q_aload_n d104_79 rfl ?_
          refine q_getR (x := 204) d104_80 (fs9_58 104 rfl) rfl (lt_w1 rfl) sh0 (rs0_2 R) (by decide) ?_
          refine q_aload_n d104_83 rfl ?_
          refine q_getR (x := 108) d104_84 (fs9_53 104 rfl) rfl (lt_w1 rfl) sh0 (rs0_1 R) (by decide) ?_
          refine q_iconst (v := 1) (by decide) d104_87 ?_
          refine q_iload_n d104_88 rfl ?_
          refine q_ishl d104_89 ?_
          refine q_invV (o := 204) (ci := 4) (av := [.ref 108, .int (1 <<< ((nI b) &&& 31))]) (rest := []) (d' := 1) (mc' := 0) (ms' := 0) d104_90 (cv9_173 104 rfl) rfl (by decide) rfl rfl (by omega) (Nat.le_of_ble_eq_true rfl) (Nat.le_of_ble_eq_true rfl) (lt_w1 rfl) sh204 (Nat.le_refl _) (Nat.le_refl _) ?_
          refine c101 (E := ed β) (S := S) hR (Nat.le_refl _) (v1 h1t h2tc c3) (v2 h1t h2tc c3) (v3 h1t h2tc c3) (v4 h1t h2tc c3) (fun x6 h7 => ?_)
          show j_W 104 d 0 0 0 0 93 [some (.ref 0), some (.int (nI t)), some (.int (nI b)), some (.int (nI e)), some (.int (nI w))] [.int x6] w1 (I, D, RR R) Q
          refine q_bipush (v := 24) (by decide) d104_93 ?_
          refine q_iload_n d104_95 rfl ?_
          refine q_iadd d104_96 ?_
          refine r_int (y := (nI (24 + t))) (nI_add 24 t) ?_
          refine q_invS (av := [.int x6, .int (nI (24 + t))]) (rest := []) (d' := 0) (mc' := 0) (ms' := 0) d104_97 (cv9_177 104 rfl) rfl rfl (by omega) (Nat.le_of_ble_eq_true rfl) (Nat.le_of_ble_eq_true rfl) (Nat.le_refl _) (Nat.le_refl _) ?_
          refine p21  (fun h8 => ?_) (fun h8 => ?_)
          ·
            show j_W 104 d 0 0 0 0 100 [some (.ref 0), some (.int (nI t)), some (.int (nI b)), some (.int (nI e)), some (.int (nI w))] [.int 1] w1 (I, D, RR R) Q
            refine q_if_eq (tgt := 106) d104_100 rfl (fun h => absurd h (by decide)) (fun _ => ?_)
            refine q_bipush (v := (-5)) (by decide) d104_103 ?_
            exact q_iret d104_105 rfl (Nat.le_refl _) (Nat.le_refl _) (v5 h1t h2tc c3 x6 h7 h8)
          ·
            show j_W 104 d 0 0 0 0 100 [some (.ref 0), some (.int (nI t)), some (.int (nI b)), some (.int (nI e)), some (.int (nI w))] [.int 0] w1 (I, D, RR R) Q
            refine q_if_eq (tgt := 106) d104_100 rfl (fun _ => ?_) (fun h => absurd h (by decide))
            refine q_aload_n d104_106 rfl ?_
            have g10 := hR.s
            refine q_getR (x := ((R 0 6).getD 0)) d104_107 (fs9_26 104 rfl) rfl (lt_w1 rfl) sh0 ((RR_d rfl).trans g10.1) (lt1000 (isG_lt g10.2)) ?_
            refine q_iload_n d104_110 rfl ?_
            refine q_iload_n d104_111 rfl ?_
            refine q_iload d104_112 rfl ?_
            refine q_invV (o := ((R 0 6).getD 0)) (ci := 3) (av := [.int (nI b), .int (nI e), .int (nI w)]) (rest := []) (d' := 0) (mc' := 0) (ms' := 0) d104_114 (cv9_186 104 rfl) rfl (by decide) rfl rfl (by omega) (Nat.le_of_ble_eq_true rfl) (Nat.le_of_ble_eq_true rfl) (isG_lt g10.2) (isG_sh g10.2) (Nat.le_refl _) (Nat.le_refl _) ?_
            refine s105 (g := ((R 0 6).getD 0)) g10.2 (Nat.le_refl _) (fun c11 => False.elim (by first | exact absurd c11 h1t | exact absurd h1t c11 | exact (Int32.not_lt.mpr c11) h1t | exact (Int32.not_lt.mpr h1t) c11 | exact c11 (Int32.not_le.mp h1t) | exact h1t (Int32.not_le.mp c11) | omega)) (fun c12 => ?_)
            show j_W 104 d 0 0 0 0 117 [some (.ref 0), some (.int (nI t)), some (.int (nI b)), some (.int (nI e)), some (.int (nI w))] [] w1 ((j_u (j_u (j_u (j_u (j_u (j_u I ((R 0 6).getD 0) 0 1) ((R 0 6).getD 0) 1 (nI b)) ((R 0 6).getD 0) 2 (nI e)) ((R 0 6).getD 0) 3 (nI w)) ((R 0 6).getD 0) 4 1) ((R 0 6).getD 0) 5 0), (j_u (j_u D (((R 0 6).getD 0) + 1) 0 FP.dconst0) (((R 0 6).getD 0) + 2) 0 FP.dconst0), RR R) Q
            refine q_aload_n d104_117 rfl ?_
            refine q_iload_n d104_118 rfl ?_
            refine q_invV (o := 0) (ci := 9) (av := [.int (nI t)]) (rest := []) (d' := (d - 1)) (mc' := 0) (ms' := 0) d104_119 (cv9_190 104 rfl) rfl (by decide) rfl rfl (by omega) (Nat.le_of_ble_eq_true rfl) (Nat.le_of_ble_eq_true rfl) (lt_w1 rfl) sh0 (Nat.le_refl _) (Nat.le_refl _) ?_
            refine c106 (β := β) (β2 := β2) hR (v6 h1t h2tc c3 x6 h7 h8) (v7 h1t h2tc c3 x6 h7 h8) (v8 h1t h2tc c3 x6 h7 h8) (v9 h1t h2tc c3 x6 h7 h8) (v10 h1t h2tc c3 x6 h7 h8) (v11 h1t h2tc c3 x6 h7 h8) (v12 h1t h2tc c3 x6 h7 h8) (fun J13 h14 h15 h16 h17 => ?_) (fun J13 h14 h15 h16 h17 => ?_)
            ·
              show j_W 104 d 0 0 0 0 122 [some (.ref 0), some (.int (nI t)), some (.int (nI b)), some (.int (nI e)), some (.int (nI w))] [.int 1] w1 (J13, (j_u (j_u D (((R 0 6).getD 0) + 1) 0 FP.dconst0) (((R 0 6).getD 0) + 2) 0 FP.dconst0), RR (j_u (j_u R 113 t (some (gs R))) 0 6 (some (go R t)))) Q
              refine q_if_eq (tgt := 129) d104_122 rfl (fun h => absurd h (by decide)) (fun _ => ?_)
              refine q_iconst (v := 1) (by decide) d104_125 ?_
              refine q_goto (tgt := 131) d104_126 rfl ?_
              exact q_iret d104_131 rfl (Nat.le_refl _) (Nat.le_refl _) (v13 h1t h2tc c3 x6 h7 h8 J13 h14 h15 h16 h17)
            ·
              show j_W 104 d 0 0 0 0 122 [some (.ref 0), some (.int (nI t)), some (.int (nI b)), some (.int (nI e)), some (.int (nI w))] [.int 0] w1 (J13, (j_u (j_u D (((R 0 6).getD 0) + 1) 0 FP.dconst0) (((R 0 6).getD 0) + 2) 0 FP.dconst0), RR R) Q
              refine q_if_eq (tgt := 129) d104_122 rfl (fun _ => ?_) (fun h => absurd h (by decide))
              refine q_bipush (v := (-4)) (by decide) d104_129 ?_
              exact q_iret d104_131 rfl (Nat.le_refl _) (Nat.le_refl _) (v14 h1t h2tc c3 x6 h7 h8 J13 h14 h15 h16 h17)
        ·
          exact False.elim (by first | exact absurd h5f h1t | exact absurd h1t h5f | exact (Int32.not_lt.mpr h5f) h1t | exact (Int32.not_lt.mpr h1t) h5f | exact h5f (Int32.not_le.mp h1t) | exact h1t (Int32.not_le.mp h5f) | omega)
      ·
        show j_W 104 d 0 0 0 0 55 [some (.ref 0), some (.int (nI t)), some (.int (nI b)), some (.int (nI e)), some (.int (nI w))] [.int 1] w1 (I, D, RR R) Q
        refine q_if_ne (tgt := 76) d104_55 rfl (fun _ => ?_) (fun h => absurd h (by decide))
        refine q_bipush (v := (-3)) (by decide) d104_76 ?_
        exact q_iret d104_78 rfl (Nat.le_refl _) (Nat.le_refl _) (v15 h1t h2tc c4)
    ·
      have h2fc : e = w := (nI_eqN (by omega) (by omega)).mp h2f
      refine q_bipush (v := (-2)) (by decide) d104_44 ?_
      exact q_iret d104_46 rfl (Nat.le_refl _) (Nat.le_refl _) (v16 h1t h2fc)
  ·
    refine q_iload d104_30 rfl ?_
    refine q_invS (av := [.int (nI w)]) (rest := []) (d' := 0) (mc' := 0) (ms' := 0) d104_32 (cv9_60 104 rfl) rfl rfl (by omega) (Nat.le_of_ble_eq_true rfl) (Nat.le_of_ble_eq_true rfl) (Nat.le_refl _) (Nat.le_refl _) ?_
    refine r12t (by first | omega | decide)  ?_
    show j_W 104 d 0 0 0 0 35 [some (.ref 0), some (.int (nI t)), some (.int (nI b)), some (.int (nI e)), some (.int (nI w))] [.int 1] w1 (I, D, RR R) Q
    refine q_if_eq (tgt := 44) d104_35 rfl (fun h => absurd h (by decide)) (fun _ => ?_)
    refine q_iload_n d104_38 rfl ?_
    refine q_iload d104_39 rfl ?_
    refine q_icmp_ne (tgt := 47) d104_41 rfl (fun h18t => ?_) (fun h18f => ?_)
    ·
      have h18tc : ¬ e = w := mt (nI_eqN (by omega) (by omega)).mpr h18t
      refine q_aload_n d104_47 rfl ?_
      refine q_getR (x := 108) d104_48 (fs9_53 104 rfl) rfl (lt_w1 rfl) sh0 (rs0_1 R) (by decide) ?_
      refine q_iload_n d104_51 rfl ?_
      refine q_invV (o := 108) (ci := 0) (av := [.int (nI e)]) (rest := []) (d' := 0) (mc' := 0) (ms' := 0) d104_52 (cv9_69 104 rfl) rfl (by decide) rfl rfl (by omega) (Nat.le_of_ble_eq_true rfl) (Nat.le_of_ble_eq_true rfl) (lt_w1 rfl) sh108 (Nat.le_refl _) (Nat.le_refl _) ?_
      refine s14 (k := e) hR (by first | omega | decide) (Nat.le_refl _) (fun c19 => ?_) (fun c20 => ?_)
      ·
        show j_W 104 d 0 0 0 0 55 [some (.ref 0), some (.int (nI t)), some (.int (nI b)), some (.int (nI e)), some (.int (nI w))] [.int 0] w1 (I, D, RR R) Q
        refine q_if_ne (tgt := 76) d104_55 rfl (fun h => absurd h (by decide)) (fun _ => ?_)
        refine q_iload d104_58 rfl ?_
        refine q_iconst (v := (-1)) (by decide) d104_60 ?_
        refine q_icmp_eq (tgt := 79) d104_61 rfl (fun h21t => ?_) (fun h21f => ?_)
        ·
          exact False.elim (by first | exact absurd h21t h1f | exact absurd h1f h21t | exact (Int32.not_lt.mpr h21t) h1f | exact (Int32.not_lt.mpr h1f) h21t | exact h21t (Int32.not_le.mp h1f) | exact h1f (Int32.not_le.mp h21t) | omega)
        ·
          refine q_aload_n d104_64 rfl ?_
          refine q_getR (x := 108) d104_65 (fs9_53 104 rfl) rfl (lt_w1 rfl) sh0 (rs0_1 R) (by decide) ?_
          refine q_iload d104_68 rfl ?_
          refine q_invV (o := 108) (ci := 0) (av := [.int (nI w)]) (rest := []) (d' := 0) (mc' := 0) (ms' := 0) d104_70 (cv9_69 104 rfl) rfl (by decide) rfl rfl (by omega) (Nat.le_of_ble_eq_true rfl) (Nat.le_of_ble_eq_true rfl) (lt_w1 rfl) sh108 (Nat.le_refl _) (Nat.le_refl _) ?_
          refine s14 (k := w) hR (by first | omega | decide) (Nat.le_refl _) (fun c22 => ?_) (fun c23 => ?_)
          ·
            show j_W 104 d 0 0 0 0 73 [some (.ref 0), some (.int (nI t)), some (.int (nI b)), some (.int (nI e)), some (.int (nI w))] [.int 0] w1 (I, D, RR R) Q
            refine q_if_eq (tgt := 79) d104_73 rfl (fun _ => ?_) (fun h => absurd h (by decide))
            refine q_aload_n d104_79 rfl ?_
            refine q_getR (x := 204) d104_80 (fs9_58 104 rfl) rfl (lt_w1 rfl) sh0 (rs0_2 R) (by decide) ?_
            refine q_aload_n d104_83 rfl ?_
            refine q_getR (x := 108) d104_84 (fs9_53 104 rfl) rfl (lt_w1 rfl) sh0 (rs0_1 R) (by decide) ?_
            refine q_iconst (v := 1) (by decide) d104_87 ?_
            refine q_iload_n d104_88 rfl ?_
            refine q_ishl d104_89 ?_
            refine q_invV (o := 204) (ci := 4) (av := [.ref 108, .int (1 <<< ((nI b) &&& 31))]) (rest := []) (d' := 1) (mc' := 0) (ms' := 0) d104_90 (cv9_173 104 rfl) rfl (by decide) rfl rfl (by omega) (Nat.le_of_ble_eq_true rfl) (Nat.le_of_ble_eq_true rfl) (lt_w1 rfl) sh204 (Nat.le_refl _) (Nat.le_refl _) ?_
            refine c101 (E := ed β) (S := S) hR (Nat.le_refl _) (v17 h1f h18tc c19 c22) (v18 h1f h18tc c19 c22) (v19 h1f h18tc c19 c22) (v20 h1f h18tc c19 c22) (fun x24 h25 => ?_)
            show j_W 104 d 0 0 0 0 93 [some (.ref 0), some (.int (nI t)), some (.int (nI b)), some (.int (nI e)), some (.int (nI w))] [.int x24] w1 (I, D, RR R) Q
            refine q_bipush (v := 24) (by decide) d104_93 ?_
            refine q_iload_n d104_95 rfl ?_
            refine q_iadd d104_96 ?_
            refine r_int (y := (nI (24 + t))) (nI_add 24 t) ?_
            refine q_invS (av := [.int x24, .int (nI (24 + t))]) (rest := []) (d' := 0) (mc' := 0) (ms' := 0) d104_97 (cv9_177 104 rfl) rfl rfl (by omega) (Nat.le_of_ble_eq_true rfl) (Nat.le_of_ble_eq_true rfl) (Nat.le_refl _) (Nat.le_refl _) ?_
            refine p21  (fun h26 => ?_) (fun h26 => ?_)
            ·
              show j_W 104 d 0 0 0 0 100 [some (.ref 0), some (.int (nI t)), some (.int (nI b)), some (.int (nI e)), some (.int (nI w))] [.int 1] w1 (I, D, RR R) Q
              refine q_if_eq (tgt := 106) d104_100 rfl (fun h => absurd h (by decide)) (fun _ => ?_)
              refine q_bipush (v := (-5)) (by decide) d104_103 ?_
              exact q_iret d104_105 rfl (Nat.le_refl _) (Nat.le_refl _) (v21 h1f h18tc c19 c22 x24 h25 h26)
            ·
              show j_W 104 d 0 0 0 0 100 [some (.ref 0), some (.int (nI t)), some (.int (nI b)), some (.int (nI e)), some (.int (nI w))] [.int 0] w1 (I, D, RR R) Q
              refine q_if_eq (tgt := 106) d104_100 rfl (fun _ => ?_) (fun h => absurd h (by decide))
              refine q_aload_n d104_106 rfl ?_
              have g28 := hR.s
              refine q_getR (x := ((R 0 6).getD 0)) d104_107 (fs9_26 104 rfl) rfl (lt_w1 rfl) sh0 ((RR_d rfl).trans g28.1) (lt1000 (isG_lt g28.2)) ?_
              refine q_iload_n d104_110 rfl ?_
              refine q_iload_n d104_111 rfl ?_
              refine q_iload d104_112 rfl ?_
              refine q_invV (o := ((R 0 6).getD 0)) (ci := 3) (av := [.int (nI b), .int (nI e), .int (nI w)]) (rest := []) (d' := 0) (mc' := 0) (ms' := 0) d104_114 (cv9_186 104 rfl) rfl (by decide) rfl rfl (by omega) (Nat.le_of_ble_eq_true rfl) (Nat.le_of_ble_eq_true rfl) (isG_lt g28.2) (isG_sh g28.2) (Nat.le_refl _) (Nat.le_refl _) ?_
              refine s105 (g := ((R 0 6).getD 0)) g28.2 (Nat.le_refl _) (fun c29 => ?_) (fun c30 => False.elim (by first | exact absurd c30 h1f | exact absurd h1f c30 | exact (Int32.not_lt.mpr c30) h1f | exact (Int32.not_lt.mpr h1f) c30 | exact c30 (Int32.not_le.mp h1f) | exact h1f (Int32.not_le.mp c30) | omega))
              show j_W 104 d 0 0 0 0 117 [some (.ref 0), some (.int (nI t)), some (.int (nI b)), some (.int (nI e)), some (.int (nI w))] [] w1 ((j_u (j_u (j_u (j_u (j_u (j_u I ((R 0 6).getD 0) 0 1) ((R 0 6).getD 0) 1 (nI b)) ((R 0 6).getD 0) 2 (nI e)) ((R 0 6).getD 0) 3 (nI w)) ((R 0 6).getD 0) 4 1) ((R 0 6).getD 0) 5 1), (j_u (j_u D (((R 0 6).getD 0) + 1) 0 FP.dconst0) (((R 0 6).getD 0) + 2) 0 FP.dconst0), RR R) Q
              refine q_aload_n d104_117 rfl ?_
              refine q_iload_n d104_118 rfl ?_
              refine q_invV (o := 0) (ci := 9) (av := [.int (nI t)]) (rest := []) (d' := (d - 1)) (mc' := 0) (ms' := 0) d104_119 (cv9_190 104 rfl) rfl (by decide) rfl rfl (by omega) (Nat.le_of_ble_eq_true rfl) (Nat.le_of_ble_eq_true rfl) (lt_w1 rfl) sh0 (Nat.le_refl _) (Nat.le_refl _) ?_
              refine c106 (β := β) (β2 := β2) hR (v22 h1f h18tc c19 c22 x24 h25 h26) (v23 h1f h18tc c19 c22 x24 h25 h26) (v24 h1f h18tc c19 c22 x24 h25 h26) (v25 h1f h18tc c19 c22 x24 h25 h26) (v26 h1f h18tc c19 c22 x24 h25 h26) (v27 h1f h18tc c19 c22 x24 h25 h26) (v28 h1f h18tc c19 c22 x24 h25 h26) (fun J31 h32 h33 h34 h35 => ?_) (fun J31 h32 h33 h34 h35 => ?_)
              ·
                show j_W 104 d 0 0 0 0 122 [some (.ref 0), some (.int (nI t)), some (.int (nI b)), some (.int (nI e)), some (.int (nI w))] [.int 1] w1 (J31, (j_u (j_u D (((R 0 6).getD 0) + 1) 0 FP.dconst0) (((R 0 6).getD 0) + 2) 0 FP.dconst0), RR (j_u (j_u R 113 t (some (gs R))) 0 6 (some (go R t)))) Q
                refine q_if_eq (tgt := 129) d104_122 rfl (fun h => absurd h (by decide)) (fun _ => ?_)
                refine q_iconst (v := 1) (by decide) d104_125 ?_
                refine q_goto (tgt := 131) d104_126 rfl ?_
                exact q_iret d104_131 rfl (Nat.le_refl _) (Nat.le_refl _) (v29 h1f h18tc c19 c22 x24 h25 h26 J31 h32 h33 h34 h35)
              ·
                show j_W 104 d 0 0 0 0 122 [some (.ref 0), some (.int (nI t)), some (.int (nI b)), some (.int (nI e)), some (.int (nI w))] [.int 0] w1 (J31, (j_u (j_u D (((R 0 6).getD 0) + 1) 0 FP.dconst0) (((R 0 6).getD 0) + 2) 0 FP.dconst0), RR R) Q
                refine q_if_eq (tgt := 129) d104_122 rfl (fun _ => ?_) (fun h => absurd h (by decide))
                refine q_bipush (v := (-4)) (by decide) d104_129 ?_
                exact q_iret d104_131 rfl (Nat.le_refl _) (Nat.le_refl _) (v30 h1f h18tc c19 c22 x24 h25 h26 J31 h32 h33 h34 h35)
          ·
            show j_W 104 d 0 0 0 0 73 [some (.ref 0), some (.int (nI t)), some (.int (nI b)), some (.int (nI e)), some (.int (nI w))] [.int 1] w1 (I, D, RR R) Q
            refine q_if_eq (tgt := 79) d104_73 rfl (fun h => absurd h (by decide)) (fun _ => ?_)
            refine q_bipush (v := (-3)) (by decide) d104_76 ?_
            exact q_iret d104_78 rfl (Nat.le_refl _) (Nat.le_refl _) (v31 h1f h18tc c19 c23)
      ·
        show j_W 104 d 0 0 0 0 55 [some (.ref 0), some (.int (nI t)), some (.int (nI b)), some (.int (nI e)), some (.int (nI w))] [.int 1] w1 (I, D, RR R) Q
        refine q_if_ne (tgt := 76) d104_55 rfl (fun _ => ?_) (fun h => absurd h (by decide))
        refine q_bipush (v := (-3)) (by decide) d104_76 ?_
        exact q_iret d104_78 rfl (Nat.le_refl _) (Nat.le_refl _) (v32 h1f h18tc c20)
    ·
      have h18fc : e = w := (nI_eqN (by omega) (by omega)).mp h18f
      refine q_bipush (v := (-2)) (by decide) d104_44 ?_
      exact q_iret d104_46 rfl (Nat.le_refl _) (Nat.le_refl _) (v33 h1f h18fc)

set_option maxRecDepth 10000 in
set_option maxHeartbeats 4000000 in
theorem s248w {d : Nat} {I : Nat → Nat → Int32} {D : Nat → Nat → UInt64} {R : Nat → Nat → Option Nat} {Q : j_Po} {t : Nat} {b : Nat} {e : Nat} {w : Nat} {β2 β3 : Bd} {S : Nat → Bool} {X : Nat → Nat → Bool} {bv : Nat → Nat} (ht : t < 6) (hb : b < 24) (he : e < 24) (hw : w < 24) (hd : 82 ≤ d)
    (v1 : ((nI w) = (-1)) → (¬ e = w) → (¬ (I 264 e) = 0) → Q (some (.int (-3))) w1 (I, D, RR R))
    (v2 : ((nI w) = (-1)) → (¬ e = w) → ((I 264 e) = 0) → BV β3)
    (v3 : ((nI w) = (-1)) → (¬ e = w) → ((I 264 e) = 0) → RBN β3 (j_u I 315 t 0))
    (v4 : ((nI w) = (-1)) → (¬ e = w) → ((I 264 e) = 0) → ∀ v, v < 32 → bt (1 <<< ((nI b) &&& 31)) v = S v)
    (v5 : ((nI w) = (-1)) → (¬ e = w) → ((I 264 e) = 0) → ∀ v, v < 32 → S v = true → v < 30)
    (v6 : ((nI w) = (-1)) → (¬ e = w) → ((I 264 e) = 0) → ∀ x6 : Int32, (Clo (ed β3) S x6) → (¬ ((x6 >>> ((nI (24 + t)) &&& 31)) &&& 1) = 1) → (I 315 t) = 0 ∨ (I 315 t) = 1)
    (v7 : ((nI w) = (-1)) → (¬ e = w) → ((I 264 e) = 0) → ∀ x6 : Int32, (Clo (ed β3) S x6) → (¬ ((x6 >>> ((nI (24 + t)) &&& 31)) &&& 1) = 1) → BV β2)
    (v8 : ((nI w) = (-1)) → (¬ e = w) → ((I 264 e) = 0) → ∀ x6 : Int32, (Clo (ed β3) S x6) → (¬ ((x6 >>> ((nI (24 + t)) &&& 31)) &&& 1) = 1) → RcE β2 X)
    (v9 : ((nI w) = (-1)) → (¬ e = w) → ((I 264 e) = 0) → ∀ x6 : Int32, (Clo (ed β3) S x6) → (¬ ((x6 >>> ((nI (24 + t)) &&& 31)) &&& 1) = 1) → BuE β2 X bv)
    (v10 : ((nI w) = (-1)) → (¬ e = w) → ((I 264 e) = 0) → ∀ x6 : Int32, (Clo (ed β3) S x6) → (¬ ((x6 >>> ((nI (24 + t)) &&& 31)) &&& 1) = 1) → 80 ≤ d - 1)
    (v11 : ((nI w) = (-1)) → (¬ e = w) → ((I 264 e) = 0) → ∀ x6 : Int32, (Clo (ed β3) S x6) → (¬ ((x6 >>> ((nI (24 + t)) &&& 31)) &&& 1) = 1) → RBN β2 (j_u (j_u (j_u (j_u (j_u (j_u (j_u (j_u I 315 t 0) 315 t (I 315 t)) 315 t 1) 316 t (nI b)) 317 t (nI e)) 318 t (nI w)) 319 (2 * t) 1) 319 ((2 * t) + 1) 0))
    (v12 : ((nI w) = (-1)) → (¬ e = w) → ((I 264 e) = 0) → ∀ x6 : Int32, (Clo (ed β3) S x6) → (¬ ((x6 >>> ((nI (24 + t)) &&& 31)) &&& 1) = 1) → (∃ v, v < 30 ∧ 2000 < bv v) → ∀ K10 : Nat → Nat → Int32, (∀ o, o ≠ 361 → o ≠ 362 → K10 o = (j_u (j_u (j_u (j_u (j_u (j_u (j_u (j_u I 315 t 0) 315 t (I 315 t)) 315 t 1) 316 t (nI b)) 317 t (nI e)) 318 t (nI w)) 319 (2 * t) 1) 319 ((2 * t) + 1) 0) o) → (RBN β2 K10) → Q (some (.int (-4))) w1 ((j_u (j_u (j_u (j_u (j_u (j_u K10 315 t (I 315 t)) 316 t (I 316 t)) 317 t (I 317 t)) 318 t (I 318 t)) 319 (2 * t) (I 319 (2 * t))) 319 ((2 * t) + 1) (I 319 ((2 * t) + 1))), D, RR R))
    (v13 : ((nI w) = (-1)) → (¬ e = w) → ((I 264 e) = 0) → ∀ x6 : Int32, (Clo (ed β3) S x6) → (¬ ((x6 >>> ((nI (24 + t)) &&& 31)) &&& 1) = 1) → (∀ v, v < 30 → bv v ≤ 2000) → ∀ K10 : Nat → Nat → Int32, (∀ o, o ≠ 361 → o ≠ 362 → K10 o = (j_u (j_u (j_u (j_u (j_u (j_u (j_u (j_u I 315 t 0) 315 t (I 315 t)) 315 t 1) 316 t (nI b)) 317 t (nI e)) 318 t (nI w)) 319 (2 * t) 1) 319 ((2 * t) + 1) 0) o) → (RBN β2 K10) → Q (some (.int 1)) w1 (K10, (j_u (j_u D (321 + (2 * t)) 0 FP.dconst0) (321 + ((2 * t) + 1)) 0 FP.dconst0), RR R))
    (v14 : ((nI w) = (-1)) → (¬ e = w) → ((I 264 e) = 0) → ∀ x6 : Int32, (Clo (ed β3) S x6) → (((x6 >>> ((nI (24 + t)) &&& 31)) &&& 1) = 1) → (I 315 t) = 0 ∨ (I 315 t) = 1)
    (v15 : ((nI w) = (-1)) → (¬ e = w) → ((I 264 e) = 0) → ∀ x6 : Int32, (Clo (ed β3) S x6) → (((x6 >>> ((nI (24 + t)) &&& 31)) &&& 1) = 1) → Q (some (.int (-5))) w1 ((j_u (j_u I 315 t 0) 315 t (I 315 t)), D, RR R))
    (v16 : ((nI w) = (-1)) → (e = w) → Q (some (.int (-2))) w1 (I, D, RR R))
    (v17 : (¬ (nI w) = (-1)) → (¬ e = w) → (¬ (I 264 e) = 0) → Q (some (.int (-3))) w1 (I, D, RR R))
    (v18 : (¬ (nI w) = (-1)) → (¬ e = w) → ((I 264 e) = 0) → (¬ (I 264 w) = 0) → Q (some (.int (-3))) w1 (I, D, RR R))
    (v19 : (¬ (nI w) = (-1)) → (¬ e = w) → ((I 264 e) = 0) → ((I 264 w) = 0) → BV β3)
    (v20 : (¬ (nI w) = (-1)) → (¬ e = w) → ((I 264 e) = 0) → ((I 264 w) = 0) → RBN β3 (j_u I 315 t 0))
    (v21 : (¬ (nI w) = (-1)) → (¬ e = w) → ((I 264 e) = 0) → ((I 264 w) = 0) → ∀ v, v < 32 → bt (1 <<< ((nI b) &&& 31)) v = S v)
    (v22 : (¬ (nI w) = (-1)) → (¬ e = w) → ((I 264 e) = 0) → ((I 264 w) = 0) → ∀ v, v < 32 → S v = true → v < 30)
    (v23 : (¬ (nI w) = (-1)) → (¬ e = w) → ((I 264 e) = 0) → ((I 264 w) = 0) → ∀ x20 : Int32, (Clo (ed β3) S x20) → (¬ ((x20 >>> ((nI (24 + t)) &&& 31)) &&& 1) = 1) → (I 315 t) = 0 ∨ (I 315 t) = 1)
    (v24 : (¬ (nI w) = (-1)) → (¬ e = w) → ((I 264 e) = 0) → ((I 264 w) = 0) → ∀ x20 : Int32, (Clo (ed β3) S x20) → (¬ ((x20 >>> ((nI (24 + t)) &&& 31)) &&& 1) = 1) → BV β2)
    (v25 : (¬ (nI w) = (-1)) → (¬ e = w) → ((I 264 e) = 0) → ((I 264 w) = 0) → ∀ x20 : Int32, (Clo (ed β3) S x20) → (¬ ((x20 >>> ((nI (24 + t)) &&& 31)) &&& 1) = 1) → RcE β2 X)
    (v26 : (¬ (nI w) = (-1)) → (¬ e = w) → ((I 264 e) = 0) → ((I 264 w) = 0) → ∀ x20 : Int32, (Clo (ed β3) S x20) → (¬ ((x20 >>> ((nI (24 + t)) &&& 31)) &&& 1) = 1) → BuE β2 X bv)
    (v27 : (¬ (nI w) = (-1)) → (¬ e = w) → ((I 264 e) = 0) → ((I 264 w) = 0) → ∀ x20 : Int32, (Clo (ed β3) S x20) → (¬ ((x20 >>> ((nI (24 + t)) &&& 31)) &&& 1) = 1) → 80 ≤ d - 1)
    (v28 : (¬ (nI w) = (-1)) → (¬ e = w) → ((I 264 e) = 0) → ((I 264 w) = 0) → ∀ x20 : Int32, (Clo (ed β3) S x20) → (¬ ((x20 >>> ((nI (24 + t)) &&& 31)) &&& 1) = 1) → RBN β2 (j_u (j_u (j_u (j_u (j_u (j_u (j_u (j_u I 315 t 0) 315 t (I 315 t)) 315 t 1) 316 t (nI b)) 317 t (nI e)) 318 t (nI w)) 319 (2 * t) 1) 319 ((2 * t) + 1) 1))
    (v29 : (¬ (nI w) = (-1)) → (¬ e = w) → ((I 264 e) = 0) → ((I 264 w) = 0) → ∀ x20 : Int32, (Clo (ed β3) S x20) → (¬ ((x20 >>> ((nI (24 + t)) &&& 31)) &&& 1) = 1) → (∃ v, v < 30 ∧ 2000 < bv v) → ∀ K24 : Nat → Nat → Int32, (∀ o, o ≠ 361 → o ≠ 362 → K24 o = (j_u (j_u (j_u (j_u (j_u (j_u (j_u (j_u I 315 t 0) 315 t (I 315 t)) 315 t 1) 316 t (nI b)) 317 t (nI e)) 318 t (nI w)) 319 (2 * t) 1) 319 ((2 * t) + 1) 1) o) → (RBN β2 K24) → Q (some (.int (-4))) w1 ((j_u (j_u (j_u (j_u (j_u (j_u K24 315 t (I 315 t)) 316 t (I 316 t)) 317 t (I 317 t)) 318 t (I 318 t)) 319 (2 * t) (I 319 (2 * t))) 319 ((2 * t) + 1) (I 319 ((2 * t) + 1))), D, RR R))
    (v30 : (¬ (nI w) = (-1)) → (¬ e = w) → ((I 264 e) = 0) → ((I 264 w) = 0) → ∀ x20 : Int32, (Clo (ed β3) S x20) → (¬ ((x20 >>> ((nI (24 + t)) &&& 31)) &&& 1) = 1) → (∀ v, v < 30 → bv v ≤ 2000) → ∀ K24 : Nat → Nat → Int32, (∀ o, o ≠ 361 → o ≠ 362 → K24 o = (j_u (j_u (j_u (j_u (j_u (j_u (j_u (j_u I 315 t 0) 315 t (I 315 t)) 315 t 1) 316 t (nI b)) 317 t (nI e)) 318 t (nI w)) 319 (2 * t) 1) 319 ((2 * t) + 1) 1) o) → (RBN β2 K24) → Q (some (.int 1)) w1 (K24, (j_u (j_u D (321 + (2 * t)) 0 FP.dconst0) (321 + ((2 * t) + 1)) 0 FP.dconst0), RR R))
    (v31 : (¬ (nI w) = (-1)) → (¬ e = w) → ((I 264 e) = 0) → ((I 264 w) = 0) → ∀ x20 : Int32, (Clo (ed β3) S x20) → (((x20 >>> ((nI (24 + t)) &&& 31)) &&& 1) = 1) → (I 315 t) = 0 ∨ (I 315 t) = 1)
    (v32 : (¬ (nI w) = (-1)) → (¬ e = w) → ((I 264 e) = 0) → ((I 264 w) = 0) → ∀ x20 : Int32, (Clo (ed β3) S x20) → (((x20 >>> ((nI (24 + t)) &&& 31)) &&& 1) = 1) → Q (some (.int (-5))) w1 ((j_u (j_u I 315 t 0) 315 t (I 315 t)), D, RR R))
    (v33 : (¬ (nI w) = (-1)) → (e = w) → Q (some (.int (-2))) w1 (I, D, RR R)) : j_Call d 248 [.ref 260, .int (nI t), .int (nI b), .int (nI e), .int (nI w)] w1 (I, D, RR R) 0 0 Q := by
  refine q_enter (L := [some (.ref 260), some (.int (nI t)), some (.int (nI b)), some (.int (nI e)), some (.int (nI w)), none, none, none, none, none, none, none]) j_m248 (Nat.le_of_ble_eq_true rfl) rfl ?_
  refine q_iload_n d248_0 rfl ?_
  refine q_invS (av := [.int (nI t)]) (rest := []) (d' := 1) (mc' := 0) (ms' := 0) d248_1 (cv10_480 248 rfl) rfl rfl (by omega) (Nat.le_of_ble_eq_true rfl) (Nat.le_of_ble_eq_true rfl) (Nat.le_refl _) (Nat.le_refl _) ?_
  refine r249t (by first | omega | decide) (Nat.le_refl _)  ?_
  show j_W 248 d 0 0 0 0 4 [some (.ref 260), some (.int (nI t)), some (.int (nI b)), some (.int (nI e)), some (.int (nI w)), none, none, none, none, none, none, none] [.int 1] w1 (I, D, RR R) Q
  refine q_if_eq (tgt := 41) d248_4 rfl (fun h => absurd h (by decide)) (fun _ => ?_)
  refine q_iload_n d248_7 rfl ?_
  refine q_invS (av := [.int (nI b)]) (rest := []) (d' := 1) (mc' := 0) (ms' := 0) d248_8 (cv10_312 248 rfl) rfl rfl (by omega) (Nat.le_of_ble_eq_true rfl) (Nat.le_of_ble_eq_true rfl) (Nat.le_refl _) (Nat.le_refl _) ?_
  refine r167t (by first | omega | decide) (Nat.le_refl _)  ?_
  show j_W 248 d 0 0 0 0 11 [some (.ref 260), some (.int (nI t)), some (.int (nI b)), some (.int (nI e)), some (.int (nI w)), none, none, none, none, none, none, none] [.int 1] w1 (I, D, RR R) Q
  refine q_if_eq (tgt := 41) d248_11 rfl (fun h => absurd h (by decide)) (fun _ => ?_)
  refine q_iload_n d248_14 rfl ?_
  refine q_invS (av := [.int (nI e)]) (rest := []) (d' := 1) (mc' := 0) (ms' := 0) d248_15 (cv10_312 248 rfl) rfl rfl (by omega) (Nat.le_of_ble_eq_true rfl) (Nat.le_of_ble_eq_true rfl) (Nat.le_refl _) (Nat.le_refl _) ?_
  refine r167t (by first | omega | decide) (Nat.le_refl _)  ?_
  show j_W 248 d 0 0 0 0 18 [some (.ref 260), some (.int (nI t)), some (.int (nI b)), some (.int (nI e)), some (.int (nI w)), none, none, none, none, none, none, none] [.int 1] w1 (I, D, RR R) Q
  refine q_if_eq (tgt := 41) d248_18 rfl (fun h => absurd h (by decide)) (fun _ => ?_)
  refine q_iload d248_21 rfl ?_
  refine q_iconst (v := (-1)) (by decide) d248_23 ?_
  refine q_icmp_eq (tgt := 35) d248_24 rfl (fun h1t => ?_) (fun h1f => ?_)
  ·
    refine q_iload_n d248_35 rfl ?_
    refine q_iload d248_36 rfl ?_
    refine q_icmp_ne (tgt := 44) d248_38 rfl (fun h2t => ?_) (fun h2f => ?_)
    ·
      have h2tc : ¬ e = w := mt (nI_eqN (by omega) (by omega)).mpr h2t
      refine q_aload_n d248_44 rfl ?_
      refine q_iload_n d248_45 rfl ?_
      refine q_invV (o := 260) (ci := 10) (av := [.int (nI e)]) (rest := []) (d' := 0) (mc' := 0) (ms' := 0) d248_46 (cv10_204 248 rfl) rfl (by decide) rfl rfl (by omega) (Nat.le_of_ble_eq_true rfl) (Nat.le_of_ble_eq_true rfl) (lt_w1 rfl) sh260 (Nat.le_refl _) (Nat.le_refl _) ?_
      refine s170 (k := e) (by first | omega | decide) (Nat.le_refl _) (fun c3 => ?_) (fun c4 => ?_)
      ·
        show j_W 248 d 0 0 0 0 49 [some (.ref 260), some (.int (nI t)), some (.int (nI b)), some (.int (nI e)), some (.int (nI w)), none, none, none, none, none, none, none] [.int 0] w1 (I, D, RR R) Q
        refine q_if_eq (tgt := 67) d248_49 rfl (fun _ => ?_) (fun h => absurd h (by decide))
        refine q_bipush (v := (-3)) (by decide) d248_67 ?_
        exact q_iret d248_69 rfl (Nat.le_refl _) (Nat.le_refl _) (v1 h1t h2tc c3)
      ·
        show j_W 248 d 0 0 0 0 49 [some (.ref 260), some (.int (nI t)), some (.int (nI b)), some (.int (nI e)), some (.int (nI w)), none, none, none, none, none, none, none] [.int 1] w1 (I, D, RR R) Q
        refine q_if_eq (tgt := 67) d248_49 rfl (fun h => absurd h (by decide)) (fun _ => ?_)
        refine q_iload d248_52 rfl ?_
        refine q_iconst (v := (-1)) (by decide) d248_54 ?_
        refine q_icmp_eq (tgt := 70) d248_55 rfl (fun h5t => ?_) (fun h5f => ?_)
        ·
          refine q_aload_n d248_70 rfl ?_
          refine q_getR (x := 315) d248_71 (fs10_34 248 rfl) rfl (lt_w1 rfl) sh260 (rs260_6 R) (by decide) ?_
          refine q_iload_n d248_74 rfl ?_
          refine q_zaload (a := t) d248_75 (lt_w1 rfl) sh315 rfl (by omega) ?_
          refine q_istore (L' := [some (.ref 260), some (.int (nI t)), some (.int (nI b)), some (.int (nI e)), some (.int (nI w)), some (.int (I 315 t)), none, none, none, none, none, none]) d248_76 (Nat.le_of_ble_eq_true rfl) rfl ?_
          refine q_aload_n d248_78 rfl ?_
          refine q_getR (x := 315) d248_79 (fs10_34 248 rfl) rfl (lt_w1 rfl) sh260 (rs260_6 R) (by decide) ?_
          refine q_iload_n d248_82 rfl ?_
          refine q_iconst (v := 0) (by decide) d248_83 ?_
          refine q_zastore (a := t) d248_84 (Or.inl rfl) (lt_w1 rfl) sh315 rfl (by omega) ?_
          refine q_aload_n d248_85 rfl ?_
          refine q_iconst (v := 1) (by decide) d248_86 ?_
          refine q_iload_n d248_87 rfl ?_
          refine q_ishl d248_88 ?_
          refine q_invV (o := 260) (ci := 10) (av := [.int (1 <<< ((nI b) &&& 31))]) (rest := []) (d' := 1) (mc' := 0) (ms' := 0) d248_89 (cv10_468 248 rfl) rfl (by decide) rfl rfl (by omega) (Nat.le_of_ble_eq_true rfl) (Nat.le_of_ble_eq_true rfl) (lt_w1 rfl) sh260 (Nat.le_refl _) (Nat.le_refl _) ?_
          refine c246 (β := β3) (S := S) (Nat.le_refl _) (v2 h1t h2tc c4) (v3 h1t h2tc c4) (v4 h1t h2tc c4) (v5 h1t h2tc c4) (fun x6 h7 => ?_)
          show j_W 248 d 0 0 0 0 92 [some (.ref 260), some (.int (nI t)), some (.int (nI b)), some (.int (nI e)), some (.int (nI w)), some (.int (I 315 t)), none, none, none, none, none, none] [.int x6] w1 ((j_u I 315 t 0), D, RR R) Q
          refine q_bipush (v := 24) (by decide) d248_92 ?_
          refine q_iload_n d248_94 rfl ?_
          refine q_iadd d248_95 ?_
          refine r_int (y := (nI (24 + t))) (nI_add 24 t) ?_
          refine q_ishr d248_96 ?_
          refine q_iconst (v := 1) (by decide) d248_97 ?_
          refine q_iand d248_98 ?_
          refine q_iconst (v := 1) (by decide) d248_99 ?_
          refine q_icmp_ne (tgt := 107) d248_100 rfl (fun h8t => ?_) (fun h8f => ?_)
          ·
            refine q_iconst (v := 0) (by decide) d248_107 ?_
            refine q_istore (L' := [some (.ref 260), some (.int (nI t)), some (.int (nI b)), some (.int (nI e)), some (.int (nI w)), some (.int (I 315 t)), some (.int 0), none, none, none, none, none]) d248_108 (Nat.le_of_ble_eq_true rfl) rfl ?_
            refine q_aload_n d248_110 rfl ?_
            refine q_getR (x := 315) d248_111 (fs10_34 248 rfl) rfl (lt_w1 rfl) sh260 (rs260_6 R) (by decide) ?_
            refine q_iload_n d248_114 rfl ?_
            refine q_iload d248_115 rfl ?_
            refine q_zastore (a := t) d248_117 (v6 h1t h2tc c4 x6 h7 h8t) (lt_w1 rfl) sh315 rfl (by omega) ?_
            refine q_iload d248_118 rfl ?_
            refine q_if_eq (tgt := 126) d248_120 rfl (fun _ => ?_) (fun h => absurd h (by decide))
            refine q_aload_n d248_126 rfl ?_
            refine q_getR (x := 316) d248_127 (fs10_37 248 rfl) rfl (lt_w1 rfl) sh260 (rs260_7 R) (by decide) ?_
            refine q_iload_n d248_130 rfl ?_
            refine q_iaload (a := t) d248_131 (lt_w1 rfl) sh316 rfl (by omega) ?_
            refine r_int (y := (I 316 t)) (show (j_u (j_u I 315 t 0) 315 t (I 315 t)) 316 t = (I 316 t) from ((j_u_o _ _ _ (by decide)).trans (j_u_o _ _ _ (by decide)))) ?_
            refine q_istore (L' := [some (.ref 260), some (.int (nI t)), some (.int (nI b)), some (.int (nI e)), some (.int (nI w)), some (.int (I 315 t)), some (.int 0), some (.int (I 316 t)), none, none, none, none]) d248_132 (Nat.le_of_ble_eq_true rfl) rfl ?_
            refine q_aload_n d248_134 rfl ?_
            refine q_getR (x := 317) d248_135 (fs10_40 248 rfl) rfl (lt_w1 rfl) sh260 (rs260_8 R) (by decide) ?_
            refine q_iload_n d248_138 rfl ?_
            refine q_iaload (a := t) d248_139 (lt_w1 rfl) sh317 rfl (by omega) ?_
            refine r_int (y := (I 317 t)) (show (j_u (j_u I 315 t 0) 315 t (I 315 t)) 317 t = (I 317 t) from ((j_u_o _ _ _ (by decide)).trans (j_u_o _ _ _ (by decide)))) ?_
            refine q_istore (L' := [some (.ref 260), some (.int (nI t)), some (.int (nI b)), some (.int (nI e)), some (.int (nI w)), some (.int (I 315 t)), some (.int 0), some (.int (I 316 t)), some (.int (I 317 t)), none, none, none]) d248_140 (Nat.le_of_ble_eq_true rfl) rfl ?_
            refine q_aload_n d248_142 rfl ?_
            refine q_getR (x := 318) d248_143 (fs10_43 248 rfl) rfl (lt_w1 rfl) sh260 (rs260_9 R) (by decide) ?_
            refine q_iload_n d248_146 rfl ?_
            refine q_iaload (a := t) d248_147 (lt_w1 rfl) sh318 rfl (by omega) ?_
            refine r_int (y := (I 318 t)) (show (j_u (j_u I 315 t 0) 315 t (I 315 t)) 318 t = (I 318 t) from ((j_u_o _ _ _ (by decide)).trans (j_u_o _ _ _ (by decide)))) ?_
            refine q_istore (L' := [some (.ref 260), some (.int (nI t)), some (.int (nI b)), some (.int (nI e)), some (.int (nI w)), some (.int (I 315 t)), some (.int 0), some (.int (I 316 t)), some (.int (I 317 t)), some (.int (I 318 t)), none, none]) d248_148 (Nat.le_of_ble_eq_true rfl) rfl ?_
            refine q_aload_n d248_150 rfl ?_
            refine q_getR (x := 319) d248_151 (fs10_46 248 rfl) rfl (lt_w1 rfl) sh260 (rs260_10 R) (by decide) ?_
            refine q_iconst (v := 2) (by decide) d248_154 ?_
            refine q_iload_n d248_155 rfl ?_
            refine q_imul d248_156 ?_
            refine r_int (y := (nI (2 * t))) (pk_mul 2 t) ?_
            refine q_iaload (a := (2 * t)) d248_157 (lt_w1 rfl) sh319 rfl (by omega) ?_
            refine r_int (y := (I 319 (2 * t))) (show (j_u (j_u I 315 t 0) 315 t (I 315 t)) 319 (2 * t) = (I 319 (2 * t)) from ((j_u_o _ _ _ (by decide)).trans (j_u_o _ _ _ (by decide)))) ?_
            refine q_istore (L' := [some (.ref 260), some (.int (nI t)), some (.int (nI b)), some (.int (nI e)), some (.int (nI w)), some (.int (I 315 t)), some (.int 0), some (.int (I 316 t)), some (.int (I 317 t)), some (.int (I 318 t)), some (.int (I 319 (2 * t))), none]) d248_158 (Nat.le_of_ble_eq_true rfl) rfl ?_
            refine q_aload_n d248_160 rfl ?_
            refine q_getR (x := 319) d248_161 (fs10_46 248 rfl) rfl (lt_w1 rfl) sh260 (rs260_10 R) (by decide) ?_
            refine q_iconst (v := 2) (by decide) d248_164 ?_
            refine q_iload_n d248_165 rfl ?_
            refine q_imul d248_166 ?_
            refine r_int (y := (nI (2 * t))) (pk_mul 2 t) ?_
            refine q_iconst (v := 1) (by decide) d248_167 ?_
            refine q_iadd d248_168 ?_
            refine r_int (y := (nI ((2 * t) + 1))) (nI_add (2 * t) 1) ?_
            refine q_iaload (a := ((2 * t) + 1)) d248_169 (lt_w1 rfl) sh319 rfl (by omega) ?_
            refine r_int (y := (I 319 ((2 * t) + 1))) (show (j_u (j_u I 315 t 0) 315 t (I 315 t)) 319 ((2 * t) + 1) = (I 319 ((2 * t) + 1)) from ((j_u_o _ _ _ (by decide)).trans (j_u_o _ _ _ (by decide)))) ?_
            refine q_istore (L' := [some (.ref 260), some (.int (nI t)), some (.int (nI b)), some (.int (nI e)), some (.int (nI w)), some (.int (I 315 t)), some (.int 0), some (.int (I 316 t)), some (.int (I 317 t)), some (.int (I 318 t)), some (.int (I 319 (2 * t))), some (.int (I 319 ((2 * t) + 1)))]) d248_170 (Nat.le_of_ble_eq_true rfl) rfl ?_
            refine q_aload_n d248_172 rfl ?_
            refine q_getR (x := 315) d248_173 (fs10_34 248 rfl) rfl (lt_w1 rfl) sh260 (rs260_6 R) (by decide) ?_
            refine q_iload_n d248_176 rfl ?_
            refine q_iconst (v := 1) (by decide) d248_177 ?_
            refine q_zastore (a := t) d248_178 (Or.inr rfl) (lt_w1 rfl) sh315 rfl (by omega) ?_
            refine q_aload_n d248_179 rfl ?_
            refine q_getR (x := 316) d248_180 (fs10_37 248 rfl) rfl (lt_w1 rfl) sh260 (rs260_7 R) (by decide) ?_
            refine q_iload_n d248_183 rfl ?_
            refine q_iload_n d248_184 rfl ?_
            refine q_iastore (a := t) d248_185 (lt_w1 rfl) sh316 rfl (by omega) ?_
            refine q_aload_n d248_186 rfl ?_
            refine q_getR (x := 317) d248_187 (fs10_40 248 rfl) rfl (lt_w1 rfl) sh260 (rs260_8 R) (by decide) ?_
            refine q_iload_n d248_190 rfl ?_
            refine q_iload_n d248_191 rfl ?_
            refine q_iastore (a := t) d248_192 (lt_w1 rfl) sh317 rfl (by omega) ?_
            refine q_aload_n d248_193 rfl ?_
            refine q_getR (x := 318) d248_194 (fs10_43 248 rfl) rfl (lt_w1 rfl) sh260 (rs260_9 R) (by decide) ?_
            refine q_iload_n d248_197 rfl ?_
            refine q_iload d248_198 rfl ?_
            refine q_iastore (a := t) d248_200 (lt_w1 rfl) sh318 rfl (by omega) ?_
            refine q_aload_n d248_201 rfl ?_
            refine q_getR (x := 319) d248_202 (fs10_46 248 rfl) rfl (lt_w1 rfl) sh260 (rs260_10 R) (by decide) ?_
            refine q_iconst (v := 2) (by decide) d248_205 ?_
            refine q_iload_n d248_206 rfl ?_
            refine q_imul d248_207 ?_
            refine r_int (y := (nI (2 * t))) (pk_mul 2 t) ?_
            refine q_iconst (v := 1) (by decide) d248_208 ?_
            refine q_iastore (a := (2 * t)) d248_209 (lt_w1 rfl) sh319 rfl (by omega) ?_
            refine q_aload_n d248_210 rfl ?_
            refine q_getR (x := 319) d248_211 (fs10_46 248 rfl) rfl (lt_w1 rfl) sh260 (rs260_10 R) (by decide) ?_
            refine q_iconst (v := 2) (by decide) d248_214 ?_
            refine q_iload_n d248_215 rfl ?_
            refine q_imul d248_216 ?_
            refine r_int (y := (nI (2 * t))) (pk_mul 2 t) ?_
            refine q_iconst (v := 1) (by decide) d248_217 ?_
            refine q_iadd d248_218 ?_
            refine r_int (y := (nI ((2 * t) + 1))) (nI_add (2 * t) 1) ?_
            refine q_iload d248_219 rfl ?_
            refine q_iconst (v := (-1)) (by decide) d248_221 ?_
            refine q_icmp_ne (tgt := 229) d248_222 rfl (fun h9t => ?_) (fun h9f => ?_)
            ·
              exact False.elim (by first | exact absurd h9t h1t | exact absurd h1t h9t | exact (Int32.not_lt.mpr h9t) h1t | exact (Int32.not_lt.mpr h1t) h9t | exact h9t (Int32.not_le.mp h1t) | exact h1t (Int32.not_le.mp h9t) | omega)
            ·
              refine q_iconst (v := 0) (by decide) d248_225 ?_
              refine q_goto (tgt := 230) d248_226 rfl ?_
              refine q_iastore (a := ((2 * t) + 1)) d248_230 (lt_w1 rfl) sh319 rfl (by omega) ?_
              refine q_aload_n d248_231 rfl ?_
              refine q_invV (o := 260) (ci := 10) (av := []) (rest := []) (d' := (d - 1)) (mc' := 0) (ms' := 0) d248_232 (cv10_477 248 rfl) rfl (by decide) rfl rfl (by omega) (Nat.le_of_ble_eq_true rfl) (Nat.le_of_ble_eq_true rfl) (lt_w1 rfl) sh260 (Nat.le_refl _) (Nat.le_refl _) ?_
              refine c247 (β := β2) (X := X) (bv := bv) (v7 h1t h2tc c4 x6 h7 h8t) (v8 h1t h2tc c4 x6 h7 h8t) (v9 h1t h2tc c4 x6 h7 h8t) (v10 h1t h2tc c4 x6 h7 h8t) (v11 h1t h2tc c4 x6 h7 h8t) (fun h11 K10 h12 h13 => ?_) (fun h11 K10 h12 h13 => ?_)
              ·
                show j_W 248 d 0 0 0 0 235 [some (.ref 260), some (.int (nI t)), some (.int (nI b)), some (.int (nI e)), some (.int (nI w)), some (.int (I 315 t)), some (.int 0), some (.int (I 316 t)), some (.int (I 317 t)), some (.int (I 318 t)), some (.int (I 319 (2 * t))), some (.int (I 319 ((2 * t) + 1)))] [.int 1] w1 (K10, D, RR R) Q
                refine q_if_eq (tgt := 295) d248_235 rfl (fun h => absurd h (by decide)) (fun _ => ?_)
                refine q_aload_n d248_238 rfl ?_
                refine q_getR (x := 315) d248_239 (fs10_34 248 rfl) rfl (lt_w1 rfl) sh260 (rs260_6 R) (by decide) ?_
                refine q_iload_n d248_242 rfl ?_
                refine q_iload d248_243 rfl ?_
                refine q_zastore (a := t) d248_245 (v6 h1t h2tc c4 x6 h7 h8t) (lt_w1 rfl) sh315 rfl (by omega) ?_
                refine q_aload_n d248_246 rfl ?_
                refine q_getR (x := 316) d248_247 (fs10_37 248 rfl) rfl (lt_w1 rfl) sh260 (rs260_7 R) (by decide) ?_
                refine q_iload_n d248_250 rfl ?_
                refine q_iload d248_251 rfl ?_
                refine q_iastore (a := t) d248_253 (lt_w1 rfl) sh316 rfl (by omega) ?_
                refine q_aload_n d248_254 rfl ?_
                refine q_getR (x := 317) d248_255 (fs10_40 248 rfl) rfl (lt_w1 rfl) sh260 (rs260_8 R) (by decide) ?_
                refine q_iload_n d248_258 rfl ?_
                refine q_iload d248_259 rfl ?_
                refine q_iastore (a := t) d248_261 (lt_w1 rfl) sh317 rfl (by omega) ?_
                refine q_aload_n d248_262 rfl ?_
                refine q_getR (x := 318) d248_263 (fs10_43 248 rfl) rfl (lt_w1 rfl) sh260 (rs260_9 R) (by decide) ?_
                refine q_iload_n d248_266 rfl ?_
                refine q_iload d248_267 rfl ?_
                refine q_iastore (a := t) d248_269 (lt_w1 rfl) sh318 rfl (by omega) ?_
                refine q_aload_n d248_270 rfl ?_
                refine q_getR (x := 319) d248_271 (fs10_46 248 rfl) rfl (lt_w1 rfl) sh260 (rs260_10 R) (by decide) ?_
                refine q_iconst (v := 2) (by decide) d248_274 ?_
                refine q_iload_n d248_275 rfl ?_
                refine q_imul d248_276 ?_
                refine r_int (y := (nI (2 * t))) (pk_mul 2 t) ?_
                refine q_iload d248_277 rfl ?_
                refine q_iastore (a := (2 * t)) d248_279 (lt_w1 rfl) sh319 rfl (by omega) ?_
                refine q_aload_n d248_280 rfl ?_
                refine q_getR (x := 319) d248_281 (fs10_46 248 rfl) rfl (lt_w1 rfl) sh260 (rs260_10 R) (by decide) ?_
                refine q_iconst (v := 2) (by decide) d248_284 ?_
                refine q_iload_n d248_285 rfl ?_
                refine q_imul d248_286 ?_
                refine r_int (y := (nI (2 * t))) (pk_mul 2 t) ?_
                refine q_iconst (v := 1) (by decide) d248_287 ?_
                refine q_iadd d248_288 ?_
                refine r_int (y := (nI ((2 * t) + 1))) (nI_add (2 * t) 1) ?_
                refine q_iload d248_289 rfl ?_
                refine q_iastore (a := ((2 * t) + 1)) d248_291 (lt_w1 rfl) sh319 rfl (by omega) ?_
                refine q_bipush (v := (-4)) (by decide) d248_292 ?_
                exact q_iret d248_294 rfl (Nat.le_refl _) (Nat.le_refl _) (v12 h1t h2tc c4 x6 h7 h8t h11 K10 h12 h13)
              ·
                show j_W 248 d 0 0 0 0 235 [some (.ref 260), some (.int (nI t)), some (.int (nI b)), some (.int (nI e)), some (.int (nI w)), some (.int (I 315 t)), some (.int 0), some (.int (I 316 t)), some (.int (I 317 t)), some (.int (I 318 t)), some (.int (I 319 (2 * t))), some (.int (I 319 ((2 * t) + 1)))] [.int 0] w1 (K10, D, RR R) Q
                refine q_if_eq (tgt := 295) d248_235 rfl (fun _ => ?_) (fun h => absurd h (by decide))
                refine q_aload_n d248_295 rfl ?_
                refine q_getR (x := 320) d248_296 (fs10_49 248 rfl) rfl (lt_w1 rfl) sh260 (rs260_11 R) (by decide) ?_
                refine q_iconst (v := 2) (by decide) d248_299 ?_
                refine q_iload_n d248_300 rfl ?_
                refine q_imul d248_301 ?_
                refine r_int (y := (nI (2 * t))) (pk_mul 2 t) ?_
                refine q_aaload (c := 3) (a := (2 * t)) (x := (321 + (2 * t))) d248_302 (lt_w1 rfl) sh320 (by decide) rfl (by omega) (rm320 R (by omega)) (lt1000 (lm320 (by omega))) ?_
                refine q_iconst (v := 0) (by decide) d248_303 ?_
                refine q_dconst0 d248_304 ?_
                refine q_dastore (a := 0) d248_305 (lm320 (by omega)) (sm320 (by omega)) rfl (by decide) ?_
                refine q_aload_n d248_306 rfl ?_
                refine q_getR (x := 320) d248_307 (fs10_49 248 rfl) rfl (lt_w1 rfl) sh260 (rs260_11 R) (by decide) ?_
                refine q_iconst (v := 2) (by decide) d248_310 ?_
                refine q_iload_n d248_311 rfl ?_
                refine q_imul d248_312 ?_
                refine r_int (y := (nI (2 * t))) (pk_mul 2 t) ?_
                refine q_iconst (v := 1) (by decide) d248_313 ?_
                refine q_iadd d248_314 ?_
                refine r_int (y := (nI ((2 * t) + 1))) (nI_add (2 * t) 1) ?_
                refine q_aaload (c := 3) (a := ((2 * t) + 1)) (x := (321 + ((2 * t) + 1))) d248_315 (lt_w1 rfl) sh320 (by decide) rfl (by omega) (rm320 R (by omega)) (lt1000 (lm320 (by omega))) ?_
                refine q_iconst (v := 0) (by decide) d248_316 ?_
                refine q_dconst0 d248_317 ?_
                refine q_dastore (a := 0) d248_318 (lm320 (by omega)) (sm320 (by omega)) rfl (by decide) ?_
                refine q_iconst (v := 1) (by decide) d248_319 ?_
                exact q_iret d248_320 rfl (Nat.le_refl _) (Nat.le_refl _) (v13 h1t h2tc c4 x6 h7 h8t h11 K10 h12 h13)
          ·
            refine q_iconst (v := 1) (by decide) d248_103 ?_
            refine q_goto (tgt := 108) d248_104 rfl ?_
            refine q_istore (L' := [some (.ref 260), some (.int (nI t)), some (.int (nI b)), some (.int (nI e)), some (.int (nI w)), some (.int (I 315 t)), some (.int 1), none, none, none, none, none]) d248_108 (Nat.le_of_ble_eq_true rfl) rfl ?_
            refine q_aload_n d248_110 rfl ?_
            refine q_getR (x := 315) d248_111 (fs10_34 248 rfl) rfl (lt_w1 rfl) sh260 (rs260_6 R) (by decide) ?_
            refine q_iload_n d248_114 rfl ?_
            refine q_iload d248_115 rfl ?_
            refine q_zastore (a := t) d248_117 (v14 h1t h2tc c4 x6 h7 h8f) (lt_w1 rfl) sh315 rfl (by omega) ?_
            refine q_iload d248_118 rfl ?_
            refine q_if_eq (tgt := 126) d248_120 rfl (fun h => absurd h (by decide)) (fun _ => ?_)
            refine q_bipush (v := (-5)) (by decide) d248_123 ?_
            exact q_iret d248_125 rfl (Nat.le_refl _) (Nat.le_refl _) (v15 h1t h2tc c4 x6 h7 h8f)
        ·
          exact False.elim (by first | exact absurd h5f h1t | exact absurd h1t h5f | exact (Int32.not_lt.mpr h5f) h1t | exact (Int32.not_lt.mpr h1t) h5f | exact h5f (Int32.not_le.mp h1t) | exact h1t (Int32.not_le.mp h5f) | omega)
    ·
      have h2fc : e = w := (nI_eqN (by omega) (by omega)).mp h2f
      refine q_bipush (v := (-2)) (by decide) d248_41 ?_
      exact q_iret d248_43 rfl (Nat.le_refl _) (Nat.le_refl _) (v16 h1t h2fc)
  ·
    refine q_iload d248_27 rfl ?_
    refine q_invS (av := [.int (nI w)]) (rest := []) (d' := 1) (mc' := 0) (ms' := 0) d248_29 (cv10_312 248 rfl) rfl rfl (by omega) (Nat.le_of_ble_eq_true rfl) (Nat.le_of_ble_eq_true rfl) (Nat.le_refl _) (Nat.le_refl _) ?_
    refine r167t (by first | omega | decide) (Nat.le_refl _)  ?_
    show j_W 248 d 0 0 0 0 32 [some (.ref 260), some (.int (nI t)), some (.int (nI b)), some (.int (nI e)), some (.int (nI w)), none, none, none, none, none, none, none] [.int 1] w1 (I, D, RR R) Q
    refine q_if_eq (tgt := 41) d248_32 rfl (fun h => absurd h (by decide)) (fun _ => ?_)
    refine q_iload_n d248_35 rfl ?_
    refine q_iload d248_36 rfl ?_
    refine q_icmp_ne (tgt := 44) d248_38 rfl (fun h14t => ?_) (fun h14f => ?_)
    ·
      have h14tc : ¬ e = w := mt (nI_eqN (by omega) (by omega)).mpr h14t
      refine q_aload_n d248_44 rfl ?_
      refine q_iload_n d248_45 rfl ?_
      refine q_invV (o := 260) (ci := 10) (av := [.int (nI e)]) (rest := []) (d' := 0) (mc' := 0) (ms' := 0) d248_46 (cv10_204 248 rfl) rfl (by decide) rfl rfl (by omega) (Nat.le_of_ble_eq_true rfl) (Nat.le_of_ble_eq_true rfl) (lt_w1 rfl) sh260 (Nat.le_refl _) (Nat.le_refl _) ?_
      refine s170 (k := e) (by first | omega | decide) (Nat.le_refl _) (fun c15 => ?_) (fun c16 => ?_)
      ·
        show j_W 248 d 0 0 0 0 49 [some (.ref 260), some (.int (nI t)), some (.int (nI b)), some (.int (nI e)), some (.int (nI w)), none, none, none, none, none, none, none] [.int 0] w1 (I, D, RR R) Q
        refine q_if_eq (tgt := 67) d248_49 rfl (fun _ => ?_) (fun h => absurd h (by decide))
        refine q_bipush (v := (-3)) (by decide) d248_67 ?_
        exact q_iret d248_69 rfl (Nat.le_refl _) (Nat.le_refl _) (v17 h1f h14tc c15)
      ·
        show j_W 248 d 0 0 0 0 49 [some (.ref 260), some (.int (nI t)), some (.int (nI b)), some (.int (nI e)), some (.int (nI w)), none, none, none, none, none, none, none] [.int 1] w1 (I, D, RR R) Q
        refine q_if_eq (tgt := 67) d248_49 rfl (fun h => absurd h (by decide)) (fun _ => ?_)
        refine q_iload d248_52 rfl ?_
        refine q_iconst (v := (-1)) (by decide) d248_54 ?_
        refine q_icmp_eq (tgt := 70) d248_55 rfl (fun h17t => ?_) (fun h17f => ?_)
        ·
          exact False.elim (by first | exact absurd h17t h1f | exact absurd h1f h17t | exact (Int32.not_lt.mpr h17t) h1f | exact (Int32.not_lt.mpr h1f) h17t | exact h17t (Int32.not_le.mp h1f) | exact h1f (Int32.not_le.mp h17t) | omega)
        ·
          refine q_aload_n d248_58 rfl ?_
          refine q_iload d248_59 rfl ?_
          refine q_invV (o := 260) (ci := 10) (av := [.int (nI w)]) (rest := []) (d' := 0) (mc' := 0) (ms' := 0) d248_61 (cv10_204 248 rfl) rfl (by decide) rfl rfl (by omega) (Nat.le_of_ble_eq_true rfl) (Nat.le_of_ble_eq_true rfl) (lt_w1 rfl) sh260 (Nat.le_refl _) (Nat.le_refl _) ?_
          refine s170 (k := w) (by first | omega | decide) (Nat.le_refl _) (fun c18 => ?_) (fun c19 => ?_)
          ·
            show j_W 248 d 0 0 0 0 64 [some (.ref 260), some (.int (nI t)), some (.int (nI b)), some (.int (nI e)), some (.int (nI w)), none, none, none, none, none, none, none] [.int 0] w1 (I, D, RR R) Q
            refine q_if_ne (tgt := 70) d248_64 rfl (fun h => absurd h (by decide)) (fun _ => ?_)
            refine q_bipush (v := (-3)) (by decide) d248_67 ?_
            exact q_iret d248_69 rfl (Nat.le_refl _) (Nat.le_refl _) (v18 h1f h14tc c16 c18)
          ·
            show j_W 248 d 0 0 0 0 64 [some (.ref 260), some (.int (nI t)), some (.int (nI b)), some (.int (nI e)), some (.int (nI w)), none, none, none, none, none, none, none] [.int 1] w1 (I, D, RR R) Q
            refine q_if_ne (tgt := 70) d248_64 rfl (fun _ => ?_) (fun h => absurd h (by decide))
            refine q_aload_n d248_70 rfl ?_
            refine q_getR (x := 315) d248_71 (fs10_34 248 rfl) rfl (lt_w1 rfl) sh260 (rs260_6 R) (by decide) ?_
            refine q_iload_n d248_74 rfl ?_
            refine q_zaload (a := t) d248_75 (lt_w1 rfl) sh315 rfl (by omega) ?_
            refine q_istore (L' := [some (.ref 260), some (.int (nI t)), some (.int (nI b)), some (.int (nI e)), some (.int (nI w)), some (.int (I 315 t)), none, none, none, none, none, none]) d248_76 (Nat.le_of_ble_eq_true rfl) rfl ?_
            refine q_aload_n d248_78 rfl ?_
            refine q_getR (x := 315) d248_79 (fs10_34 248 rfl) rfl (lt_w1 rfl) sh260 (rs260_6 R) (by decide) ?_
            refine q_iload_n d248_82 rfl ?_
            refine q_iconst (v := 0) (by decide) d248_83 ?_
            refine q_zastore (a := t) d248_84 (Or.inl rfl) (lt_w1 rfl) sh315 rfl (by omega) ?_
            refine q_aload_n d248_85 rfl ?_
            refine q_iconst (v := 1) (by decide) d248_86 ?_
            refine q_iload_n d248_87 rfl ?_
            refine q_ishl d248_88 ?_
            refine q_invV (o := 260) (ci := 10) (av := [.int (1 <<< ((nI b) &&& 31))]) (rest := []) (d' := 1) (mc' := 0) (ms' := 0) d248_89 (cv10_468 248 rfl) rfl (by decide) rfl rfl (by omega) (Nat.le_of_ble_eq_true rfl) (Nat.le_of_ble_eq_true rfl) (lt_w1 rfl) sh260 (Nat.le_refl _) (Nat.le_refl _) ?_
            refine c246 (β := β3) (S := S) (Nat.le_refl _) (v19 h1f h14tc c16 c19) (v20 h1f h14tc c16 c19) (v21 h1f h14tc c16 c19) (v22 h1f h14tc c16 c19) (fun x20 h21 => ?_)
            show j_W 248 d 0 0 0 0 92 [some (.ref 260), some (.int (nI t)), some (.int (nI b)), some (.int (nI e)), some (.int (nI w)), some (.int (I 315 t)), none, none, none, none, none, none] [.int x20] w1 ((j_u I 315 t 0), D, RR R) Q
            refine q_bipush (v := 24) (by decide) d248_92 ?_
            refine q_iload_n d248_94 rfl ?_
            refine q_iadd d248_95 ?_
            refine r_int (y := (nI (24 + t))) (nI_add 24 t) ?_
            refine q_ishr d248_96 ?_
            refine q_iconst (v := 1) (by decide) d248_97 ?_
            refine q_iand d248_98 ?_
            refine q_iconst (v := 1) (by decide) d248_99 ?_
            refine q_icmp_ne (tgt := 107) d248_100 rfl (fun h22t => ?_) (fun h22f => ?_)
            ·
              refine q_iconst (v := 0) (by decide) d248_107 ?_
              refine q_istore (L' := [some (.ref 260), some (.int (nI t)), some (.int (nI b)), some (.int (nI e)), some (.int (nI w)), some (.int (I 315 t)), some (.int 0), none, none, none, none, none]) d248_108 (Nat.le_of_ble_eq_true rfl) rfl ?_
              refine q_aload_n d248_110 rfl ?_
              refine q_getR (x := 315) d248_111 (fs10_34 248 rfl) rfl (lt_w1 rfl) sh260 (rs260_6 R) (by decide) ?_
              refine q_iload_n d248_114 rfl ?_
              refine q_iload d248_115 rfl ?_
              refine q_zastore (a := t) d248_117 (v23 h1f h14tc c16 c19 x20 h21 h22t) (lt_w1 rfl) sh315 rfl (by omega) ?_
              refine q_iload d248_118 rfl ?_
              refine q_if_eq (tgt := 126) d248_120 rfl (fun _ => ?_) (fun h => absurd h (by decide))
              refine q_aload_n d248_126 rfl ?_
              refine q_getR (x := 316) d248_127 (fs10_37 248 rfl) rfl (lt_w1 rfl) sh260 (rs260_7 R) (by decide) ?_
              refine q_iload_n d248_130 rfl ?_
              refine q_iaload (a := t) d248_131 (lt_w1 rfl) sh316 rfl (by omega) ?_
              refine r_int (y := (I 316 t)) (show (j_u (j_u I 315 t 0) 315 t (I 315 t)) 316 t = (I 316 t) from ((j_u_o _ _ _ (by decide)).trans (j_u_o _ _ _ (by decide)))) ?_
              refine q_istore (L' := [some (.ref 260), some (.int (nI t)), some (.int (nI b)), some (.int (nI e)), some (.int (nI w)), some (.int (I 315 t)), some (.int 0), some (.int (I 316 t)), none, none, none, none]) d248_132 (Nat.le_of_ble_eq_true rfl) rfl ?_
              refine q_aload_n d248_134 rfl ?_
              refine q_getR (x := 317) d248_135 (fs10_40 248 rfl) rfl (lt_w1 rfl) sh260 (rs260_8 R) (by decide) ?_
              refine q_iload_n d248_138 rfl ?_
              refine q_iaload (a := t) d248_139 (lt_w1 rfl) sh317 rfl (by omega) ?_
              refine r_int (y := (I 317 t)) (show (j_u (j_u I 315 t 0) 315 t (I 315 t)) 317 t = (I 317 t) from ((j_u_o _ _ _ (by decide)).trans (j_u_o _ _ _ (by decide)))) ?_
              refine q_istore (L' := [some (.ref 260), some (.int (nI t)), some (.int (nI b)), some (.int (nI e)), some (.int (nI w)), some (.int (I 315 t)), some (.int 0), some (.int (I 316 t)), some (.int (I 317 t)), none, none, none]) d248_140 (Nat.le_of_ble_eq_true rfl) rfl ?_
              refine q_aload_n d248_142 rfl ?_
              refine q_getR (x := 318) d248_143 (fs10_43 248 rfl) rfl (lt_w1 rfl) sh260 (rs260_9 R) (by decide) ?_
              refine q_iload_n d248_146 rfl ?_
              refine q_iaload (a := t) d248_147 (lt_w1 rfl) sh318 rfl (by omega) ?_
              refine r_int (y := (I 318 t)) (show (j_u (j_u I 315 t 0) 315 t (I 315 t)) 318 t = (I 318 t) from ((j_u_o _ _ _ (by decide)).trans (j_u_o _ _ _ (by decide)))) ?_
              refine q_istore (L' := [some (.ref 260), some (.int (nI t)), some (.int (nI b)), some (.int (nI e)), some (.int (nI w)), some (.int (I 315 t)), some (.int 0), some (.int (I 316 t)), some (.int (I 317 t)), some (.int (I 318 t)), none, none]) d248_148 (Nat.le_of_ble_eq_true rfl) rfl ?_
              refine q_aload_n d248_150 rfl ?_
              refine q_getR (x := 319) d248_151 (fs10_46 248 rfl) rfl (lt_w1 rfl) sh260 (rs260_10 R) (by decide) ?_
              refine q_iconst (v := 2) (by decide) d248_154 ?_
              refine q_iload_n d248_155 rfl ?_
              refine q_imul d248_156 ?_
              refine r_int (y := (nI (2 * t))) (pk_mul 2 t) ?_
              refine q_iaload (a := (2 * t)) d248_157 (lt_w1 rfl) sh319 rfl (by omega) ?_
              refine r_int (y := (I 319 (2 * t))) (show (j_u (j_u I 315 t 0) 315 t (I 315 t)) 319 (2 * t) = (I 319 (2 * t)) from ((j_u_o _ _ _ (by decide)).trans (j_u_o _ _ _ (by decide)))) ?_
              refine q_istore (L' := [some (.ref 260), some (.int (nI t)), some (.int (nI b)), some (.int (nI e)), some (.int (nI w)), some (.int (I 315 t)), some (.int 0), some (.int (I 316 t)), some (.int (I 317 t)), some (.int (I 318 t)), some (.int (I 319 (2 * t))), none]) d248_158 (Nat.le_of_ble_eq_true rfl) rfl ?_
              refine q_aload_n d248_160 rfl ?_
              refine q_getR (x := 319) d248_161 (fs10_46 248 rfl) rfl (lt_w1 rfl) sh260 (rs260_10 R) (by decide) ?_
              refine q_iconst (v := 2) (by decide) d248_164 ?_
              refine q_iload_n d248_165 rfl ?_
              refine q_imul d248_166 ?_
              refine r_int (y := (nI (2 * t))) (pk_mul 2 t) ?_
              refine q_iconst (v := 1) (by decide) d248_167 ?_
              refine q_iadd d248_168 ?_
              refine r_int (y := (nI ((2 * t) + 1))) (nI_add (2 * t) 1) ?_
              refine q_iaload (a := ((2 * t) + 1)) d248_169 (lt_w1 rfl) sh319 rfl (by omega) ?_
              refine r_int (y := (I 319 ((2 * t) + 1))) (show (j_u (j_u I 315 t 0) 315 t (I 315 t)) 319 ((2 * t) + 1) = (I 319 ((2 * t) + 1)) from ((j_u_o _ _ _ (by decide)).trans (j_u_o _ _ _ (by decide)))) ?_
              refine q_istore (L' := [some (.ref 260), some (.int (nI t)), some (.int (nI b)), some (.int (nI e)), some (.int (nI w)), some (.int (I 315 t)), some (.int 0), some (.int (I 316 t)), some (.int (I 317 t)), some (.int (I 318 t)), some (.int (I 319 (2 * t))), some (.int (I 319 ((2 * t) + 1)))]) d248_170 (Nat.le_of_ble_eq_true rfl) rfl ?_
              refine q_aload_n d248_172 rfl ?_
              refine q_getR (x := 315) d248_173 (fs10_34 248 rfl) rfl (lt_w1 rfl) sh260 (rs260_6 R) (by decide) ?_
              refine q_iload_n d248_176 rfl ?_
              refine q_iconst (v := 1) (by decide) d248_177 ?_
              refine q_zastore (a := t) d248_178 (Or.inr rfl) (lt_w1 rfl) sh315 rfl (by omega) ?_
              refine q_aload_n d248_179 rfl ?_
              refine q_getR (x := 316) d248_180 (fs10_37 248 rfl) rfl (lt_w1 rfl) sh260 (rs260_7 R) (by decide) ?_
              refine q_iload_n d248_183 rfl ?_
              refine q_iload_n d248_184 rfl ?_
              refine q_iastore (a := t) d248_185 (lt_w1 rfl) sh316 rfl (by omega) ?_
              refine q_aload_n d248_186 rfl ?_
              refine q_getR (x := 317) d248_187 (fs10_40 248 rfl) rfl (lt_w1 rfl) sh260 (rs260_8 R) (by decide) ?_
              refine q_iload_n d248_190 rfl ?_
              refine q_iload_n d248_191 rfl ?_
              refine q_iastore (a := t) d248_192 (lt_w1 rfl) sh317 rfl (by omega) ?_
              refine q_aload_n d248_193 rfl ?_
              refine q_getR (x := 318) d248_194 (fs10_43 248 rfl) rfl (lt_w1 rfl) sh260 (rs260_9 R) (by decide) ?_
              refine q_iload_n d248_197 rfl ?_
              refine q_iload d248_198 rfl ?_
              refine q_iastore (a := t) d248_200 (lt_w1 rfl) sh318 rfl (by omega) ?_
              refine q_aload_n d248_201 rfl ?_
              refine q_getR (x := 319) d248_202 (fs10_46 248 rfl) rfl (lt_w1 rfl) sh260 (rs260_10 R) (by decide) ?_
              refine q_iconst (v := 2) (by decide) d248_205 ?_
              refine q_iload_n d248_206 rfl ?_
              refine q_imul d248_207 ?_
              refine r_int (y := (nI (2 * t))) (pk_mul 2 t) ?_
              refine q_iconst (v := 1) (by decide) d248_208 ?_
              refine q_iastore (a := (2 * t)) d248_209 (lt_w1 rfl) sh319 rfl (by omega) ?_
              refine q_aload_n d248_210 rfl ?_
              refine q_getR (x := 319) d248_211 (fs10_46 248 rfl) rfl (lt_w1 rfl) sh260 (rs260_10 R) (by decide) ?_
              refine q_iconst (v := 2) (by decide) d248_214 ?_
              refine q_iload_n d248_215 rfl ?_
              refine q_imul d248_216 ?_
              refine r_int (y := (nI (2 * t))) (pk_mul 2 t) ?_
              refine q_iconst (v := 1) (by decide) d248_217 ?_
              refine q_iadd d248_218 ?_
              refine r_int (y := (nI ((2 * t) + 1))) (nI_add (2 * t) 1) ?_
              refine q_iload d248_219 rfl ?_
              refine q_iconst (v := (-1)) (by decide) d248_221 ?_
              refine q_icmp_ne (tgt := 229) d248_222 rfl (fun h23t => ?_) (fun h23f => ?_)
              ·
                refine q_iconst (v := 1) (by decide) d248_229 ?_
                refine q_iastore (a := ((2 * t) + 1)) d248_230 (lt_w1 rfl) sh319 rfl (by omega) ?_
                refine q_aload_n d248_231 rfl ?_
                refine q_invV (o := 260) (ci := 10) (av := []) (rest := []) (d' := (d - 1)) (mc' := 0) (ms' := 0) d248_232 (cv10_477 248 rfl) rfl (by decide) rfl rfl (by omega) (Nat.le_of_ble_eq_true rfl) (Nat.le_of_ble_eq_true rfl) (lt_w1 rfl) sh260 (Nat.le_refl _) (Nat.le_refl _) ?_
                refine c247 (β := β2) (X := X) (bv := bv) (v24 h1f h14tc c16 c19 x20 h21 h22t) (v25 h1f h14tc c16 c19 x20 h21 h22t) (v26 h1f h14tc c16 c19 x20 h21 h22t) (v27 h1f h14tc c16 c19 x20 h21 h22t) (v28 h1f h14tc c16 c19 x20 h21 h22t) (fun h25 K24 h26 h27 => ?_) (fun h25 K24 h26 h27 => ?_)
                ·
                  show j_W 248 d 0 0 0 0 235 [some (.ref 260), some (.int (nI t)), some (.int (nI b)), some (.int (nI e)), some (.int (nI w)), some (.int (I 315 t)), some (.int 0), some (.int (I 316 t)), some (.int (I 317 t)), some (.int (I 318 t)), some (.int (I 319 (2 * t))), some (.int (I 319 ((2 * t) + 1)))] [.int 1] w1 (K24, D, RR R) Q
                  refine q_if_eq (tgt := 295) d248_235 rfl (fun h => absurd h (by decide)) (fun _ => ?_)
                  refine q_aload_n d248_238 rfl ?_
                  refine q_getR (x := 315) d248_239 (fs10_34 248 rfl) rfl (lt_w1 rfl) sh260 (rs260_6 R) (by decide) ?_
                  refine q_iload_n d248_242 rfl ?_
                  refine q_iload d248_243 rfl ?_
                  refine q_zastore (a := t) d248_245 (v23 h1f h14tc c16 c19 x20 h21 h22t) (lt_w1 rfl) sh315 rfl (by omega) ?_
                  refine q_aload_n d248_246 rfl ?_
                  refine q_getR (x := 316) d248_247 (fs10_37 248 rfl) rfl (lt_w1 rfl) sh260 (rs260_7 R) (by decide) ?_
                  refine q_iload_n d248_250 rfl ?_
                  refine q_iload d248_251 rfl ?_
                  refine q_iastore (a := t) d248_253 (lt_w1 rfl) sh316 rfl (by omega) ?_
                  refine q_aload_n d248_254 rfl ?_
                  refine q_getR (x := 317) d248_255 (fs10_40 248 rfl) rfl (lt_w1 rfl) sh260 (rs260_8 R) (by decide) ?_
                  refine q_iload_n d248_258 rfl ?_
                  refine q_iload d248_259 rfl ?_
                  refine q_iastore (a := t) d248_261 (lt_w1 rfl) sh317 rfl (by omega) ?_
                  refine q_aload_n d248_262 rfl ?_
                  refine q_getR (x := 318) d248_263 (fs10_43 248 rfl) rfl (lt_w1 rfl) sh260 (rs260_9 R) (by decide) ?_
                  refine q_iload_n d248_266 rfl ?_
                  refine q_iload d248_267 rfl ?_
                  refine q_iastore (a := t) d248_269 (lt_w1 rfl) sh318 rfl (by omega) ?_
                  refine q_aload_n d248_270 rfl ?_
                  refine q_getR (x := 319) d248_271 (fs10_46 248 rfl) rfl (lt_w1 rfl) sh260 (rs260_10 R) (by decide) ?_
                  refine q_iconst (v := 2) (by decide) d248_274 ?_
                  refine q_iload_n d248_275 rfl ?_
                  refine q_imul d248_276 ?_
                  refine r_int (y := (nI (2 * t))) (pk_mul 2 t) ?_
                  refine q_iload d248_277 rfl ?_
                  refine q_iastore (a := (2 * t)) d248_279 (lt_w1 rfl) sh319 rfl (by omega) ?_
                  refine q_aload_n d248_280 rfl ?_
                  refine q_getR (x := 319) d248_281 (fs10_46 248 rfl) rfl (lt_w1 rfl) sh260 (rs260_10 R) (by decide) ?_
                  refine q_iconst (v := 2) (by decide) d248_284 ?_
                  refine q_iload_n d248_285 rfl ?_
                  refine q_imul d248_286 ?_
                  refine r_int (y := (nI (2 * t))) (pk_mul 2 t) ?_
                  refine q_iconst (v := 1) (by decide) d248_287 ?_
                  refine q_iadd d248_288 ?_
                  refine r_int (y := (nI ((2 * t) + 1))) (nI_add (2 * t) 1) ?_
                  refine q_iload d248_289 rfl ?_
                  refine q_iastore (a := ((2 * t) + 1)) d248_291 (lt_w1 rfl) sh319 rfl (by omega) ?_
                  refine q_bipush (v := (-4)) (by decide) d248_292 ?_
                  exact q_iret d248_294 rfl (Nat.le_refl _) (Nat.le_refl _) (v29 h1f h14tc c16 c19 x20 h21 h22t h25 K24 h26 h27)
                ·
                  show j_W 248 d 0 0 0 0 235 [some (.ref 260), some (.int (nI t)), some (.int (nI b)), some (.int (nI e)), some (.int (nI w)), some (.int (I 315 t)), some (.int 0), some (.int (I 316 t)), some (.int (I 317 t)), some (.int (I 318 t)), some (.int (I 319 (2 * t))), some (.int (I 319 ((2 * t) + 1)))] [.int 0] w1 (K24, D, RR R) Q
                  refine q_if_eq (tgt := 295) d248_235 rfl (fun _ => ?_) (fun h => absurd h (by decide))
                  refine q_aload_n d248_295 rfl ?_
                  refine q_getR (x := 320) d248_296 (fs10_49 248 rfl) rfl (lt_w1 rfl) sh260 (rs260_11 R) (by decide) ?_
                  refine q_iconst (v := 2) (by decide) d248_299 ?_
                  refine q_iload_n d248_300 rfl ?_
                  refine q_imul d248_301 ?_
                  refine r_int (y := (nI (2 * t))) (pk_mul 2 t) ?_
                  refine q_aaload (c := 3) (a := (2 * t)) (x := (321 + (2 * t))) d248_302 (lt_w1 rfl) sh320 (by decide) rfl (by omega) (rm320 R (by omega)) (lt1000 (lm320 (by omega))) ?_
                  refine q_iconst (v := 0) (by decide) d248_303 ?_
                  refine q_dconst0 d248_304 ?_
                  refine q_dastore (a := 0) d248_305 (lm320 (by omega)) (sm320 (by omega)) rfl (by decide) ?_
                  refine q_aload_n d248_306 rfl ?_
                  refine q_getR (x := 320) d248_307 (fs10_49 248 rfl) rfl (lt_w1 rfl) sh260 (rs260_11 R) (by decide) ?_
                  refine q_iconst (v := 2) (by decide) d248_310 ?_
                  refine q_iload_n d248_311 rfl ?_
                  refine q_imul d248_312 ?_
                  refine r_int (y := (nI (2 * t))) (pk_mul 2 t) ?_
                  refine q_iconst (v := 1) (by decide) d248_313 ?_
                  refine q_iadd d248_314 ?_
                  refine r_int (y := (nI ((2 * t) + 1))) (nI_add (2 * t) 1) ?_
                  refine q_aaload (c := 3) (a := ((2 * t) + 1)) (x := (321 + ((2 * t) + 1))) d248_315 (lt_w1 rfl) sh320 (by decide) rfl (by omega) (rm320 R (by omega)) (lt1000 (lm320 (by omega))) ?_
                  refine q_iconst (v := 0) (by decide) d248_316 ?_
                  refine q_dconst0 d248_317 ?_
                  refine q_dastore (a := 0) d248_318 (lm320 (by omega)) (sm320 (by omega)) rfl (by decide) ?_
                  refine q_iconst (v := 1) (by decide) d248_319 ?_
                  exact q_iret d248_320 rfl (Nat.le_refl _) (Nat.le_refl _) (v30 h1f h14tc c16 c19 x20 h21 h22t h25 K24 h26 h27)
              ·
                exact False.elim (by first | exact absurd h23f h1f | exact absurd h1f h23f | exact (Int32.not_lt.mpr h23f) h1f | exact (Int32.not_lt.mpr h1f) h23f | exact h23f (Int32.not_le.mp h1f) | exact h1f (Int32.not_le.mp h23f) | omega)
            ·
              refine q_iconst (v := 1) (by decide) d248_103 ?_
              refine q_goto (tgt := 108) d248_104 rfl ?_
              refine q_istore (L' := [some (.ref 260), some (.int (nI t)), some (.int (nI b)), some (.int (nI e)), some (.int (nI w)), some (.int (I 315 t)), some (.int 1), none, none, none, none, none]) d248_108 (Nat.le_of_ble_eq_true rfl) rfl ?_
              refine q_aload_n d248_110 rfl ?_
              refine q_getR (x := 315) d248_111 (fs10_34 248 rfl) rfl (lt_w1 rfl) sh260 (rs260_6 R) (by decide) ?_
              refine q_iload_n d248_114 rfl ?_
              refine q_iload d248_115 rfl ?_
              refine q_zastore (a := t) d248_117 (v31 h1f h14tc c16 c19 x20 h21 h22f) (lt_w1 rfl) sh315 rfl (by omega) ?_
              refine q_iload d248_118 rfl ?_
              refine q_if_eq (tgt := 126) d248_120 rfl (fun h => absurd h (by decide)) (fun _ => ?_)
              refine q_bipush (v := (-5)) (by decide) d248_123 ?_
              exact q_iret d248_125 rfl (Nat.le_refl _) (Nat.le_refl _) (v32 h1f h14tc c16 c19 x20 h21 h22f)
    ·
      have h14fc : e = w := (nI_eqN (by omega) (by omega)).mp h14f
      refine q_bipush (v := (-2)) (by decide) d248_41 ?_
      exact q_iret d248_43 rfl (Nat.le_refl _) (Nat.le_refl _) (v33 h1f h14fc)

def blay (β : Bd) (t b e : Nat) (o : Option Nat) : Bd := (β.1, β.2.1, β.2.2.1, β.2.2.2.1, β.2.2.2.2.1, fu (bL β) t true, fu (bO β) t b, fu (b1 β) t e, fu (b2 β) t o, fu (bm β) t 1, fu (bn β) t (if o = none then 0 else 1), fun a => if a = 2 * t ∨ a = 2 * t + 1 then (fun _ => FP.dconst0) else bA β a)
section BL
variable {β : Bd} {t b e : Nat} {o : Option Nat}
theorem blay_o : otherT β (blay β t b e o) t := ⟨⟨rfl, rfl, rfl, rfl, rfl⟩, fun u hu h => ⟨fu_n h, fu_n h, fu_n h, fu_n h, fu_n h, fu_n h, if_neg (by omega), if_neg (by omega)⟩⟩
theorem blay_ed {u v : Nat} (hu : u ≠ 24 + t) (h : ed (blay β t b e o) u v = true) : ed β u v = true := by
  unfold ed at h ⊢
  split at h
  · rename_i hc
    rw [if_pos hc]; exact h
  · rename_i hc
    rw [if_neg hc]
    rw [show bL (blay β t b e o) (u - 24) = bL β (u - 24) from fu_n (by omega), show bO (blay β t b e o) (u - 24) = bO β (u - 24) from fu_n (by omega)] at h
    exact h
theorem blay_ac (ht : t < 6) (hA : acyc β) {S : Nat → Bool} {x : Int32} (hx : Clo (ed β) S x) (hS : S b = true) (hb : b < 24) (hn : bt x (24 + t) = false) : acyc (blay β t b e o) := by
  refine acyc_add (x := x) (n := 24 + t) hA (fun u v hu hv h1 h2 => blay_ed h1 h2) (fun v hv h => ?_) hx.2.1 hn
  unfold ed at h
  rw [if_neg (by omega), show 24 + t - 24 = t by omega, show bO (blay β t b e o) t = b from fu_s] at h
  simp only [Bool.and_eq_true, decide_eq_true_eq] at h
  rw [h.2]
  exact hx.1 b (by omega) hS
theorem blay_V (hV : BV β) (hb : b < 24) (he : e < 24) (ze : bZ β e = 0) (ho : ∀ w, o = some w → w < 24 ∧ w ≠ e ∧ bZ β w = 0) (hA : acyc (blay β t b e o)) : BV (blay β t b e o) := by
  refine ⟨hV.1, fun u hu hl => ?_, hA⟩
  by_cases h : u = t
  · subst h
    have e1 : bO (blay β u b e o) u = b := fu_s
    have e2 : b1 (blay β u b e o) u = e := fu_s
    have e3 : b2 (blay β u b e o) u = o := fu_s
    have e4 : bm (blay β u b e o) u = 1 := fu_s
    have e5 : bn (blay β u b e o) u = if o = none then 0 else 1 := fu_s
    have e6 : bA (blay β u b e o) (2 * u) = fun _ => FP.dconst0 := if_pos (Or.inl rfl)
    have e7 : bA (blay β u b e o) (2 * u + 1) = fun _ => FP.dconst0 := if_pos (Or.inr rfl)
    rw [e1, e2, e3, e4, e5, e6, e7]
    refine ⟨hb, he, ze, ho, by omega, by omega, fun h => if_pos h, fun h => ?_, ?_, fun _ _ => sm_0, fun _ _ => sm_0⟩
    · rw [if_neg h]; exact Nat.le_refl _
    · split <;> omega
  · obtain ⟨-, hb⟩ := blay_o (β := β) (t := t) (b := b) (e := e) (o := o)
    obtain ⟨a1, a2, a3, a4, a5, a6, a7, a8⟩ := hb u hu h
    rw [a1] at hl
    rw [a2, a3, a4, a5, a6, a7, a8]
    exact hV.2.1 u hu hl
theorem blay_CB {I I2 : Nat → Nat → Int32} {D D2 : Nat → Nat → UInt64} {R : Nat → Nat → Option Nat} (hR : WFR R) (hW : WFD R) (h : CB β I D R) (ht : t < 6) (hf : ∀ o', o' ≠ gs R → I2 o' = I o') (hg : ∀ o', o' ≠ gs R + 1 → o' ≠ gs R + 2 → D2 o' = D o')
    (h0 : I2 (gs R) 0 = 1) (h1 : I2 (gs R) 1 = nI b) (h2 : I2 (gs R) 2 = nI e) (h3 : I2 (gs R) 3 = oI o) (h4 : I2 (gs R) 4 = 1) (h5 : I2 (gs R) 5 = nI (if o = none then 0 else 1)) (h6 : D2 (gs R + 1) 0 = FP.dconst0) (h7 : D2 (gs R + 2) 0 = FP.dconst0) : CB (blay β t b e o) I2 D2 (j_u R 113 t (some (gs R))) := by
  have hs := isBG_rng hR.2.2.2.2
  refine h.tab blay_o (hf _ (by omega)) (hf _ (by omega)) (hg _ (by omega) (by omega)) (fun c hc => ?_) (fun u hu e => ?_) ?_
  · have hb := isBF_rng (hR.1 c hc).2
    have hd : ∀ i, i ≤ 2 → fo R c + i ≠ gs R := fun i hi => by
      rcases hb with hb | hb <;> rcases hs with hs | hs <;> omega
    exact ⟨j_u_o _ _ _ (by decide), hf _ (hd 0 (by omega)), hf _ (hd 1 (by omega)), hf _ (hd 2 (by omega))⟩
  · have hd : ∀ i j, i ≤ 2 → j ≤ 2 → go R u + i ≠ gs R + j := fun i j hi hj e => by
      have h0 := hW.2.2.2 u hu
      have h1 := (hR.2.1 u hu).2
      have h2 := hR.2.2.2.2
      unfold isBG at h1 h2
      rcases h1 with h1 | ⟨p, hp, h1⟩ <;> rcases h2 with h2 | ⟨q, hq, h2⟩
      · exact h0 (h1.trans h2.symm)
      · omega
      · omega
      · exact h0 (by omega)
    exact ⟨j_u_k _ _ e, hf _ (hd 0 0 (by omega) (by omega)), hg _ (hd 1 1 (by omega) (by omega)) (hd 1 2 (by omega) (by omega)), hg _ (hd 2 1 (by omega) (by omega)) (hd 2 2 (by omega) (by omega))⟩
  · have e0 : go (j_u R 113 t (some (gs R))) t = gs R := by
      show (j_u R 113 t (some (gs R)) 113 t).getD 0 = gs R
      rw [j_u_same]; rfl
    rw [e0]
    unfold GR
    have e1 : bO (blay β t b e o) t = b := fu_s
    have e2 : b1 (blay β t b e o) t = e := fu_s
    have e3 : b2 (blay β t b e o) t = o := fu_s
    have e4 : bm (blay β t b e o) t = 1 := fu_s
    have e5 : bn (blay β t b e o) t = if o = none then 0 else 1 := fu_s
    have e6 : bA (blay β t b e o) (2 * t) = fun _ => FP.dconst0 := if_pos (Or.inl rfl)
    have e7 : bA (blay β t b e o) (2 * t + 1) = fun _ => FP.dconst0 := if_pos (Or.inr rfl)
    rw [show bL (blay β t b e o) t = true from fu_s, e1, e2, e3, e4, e5, e6, e7]
    refine ⟨h0, fun _ => ⟨h1, h2, h3, h4, h5, fun k hk => ?_, fun k hk => ?_⟩⟩
    · rw [show k = 0 by omega]; exact h6
    · have : k = 0 := by split at hk <;> omega
      rw [this]; exact h7
theorem ring_eq (hV : BV β) (ht : t < 6) {S : Nat → Bool} {x y : Int32} (hSb : ∀ v, v < 32 → S v = true → v < 30) (hx : Clo (ed β) S x) (hy : Clo (ed (bdrop β t)) S y) : bt x (24 + t) = bt y (24 + t) := by
  have h1 : ∀ v, v < 32 → bt y v = true → bt x v = true := hy.2.2 (fun v => bt x v = true) hx.1 (fun u v hu hv h he => hx.2.1 u hu h v hv (bdrop_less.ed hu he))
  cases hb : bt y (24 + t) with
  | true => exact h1 _ (by omega) hb
  | false =>
    have h2 : ∀ v, v < 32 → bt x v = true → bt y v = true := by
      refine hx.2.2 (fun v => bt y v = true) hy.1 (fun u v hu hv h he => hy.2.1 u hu h v hv ?_)
      have hne : u ≠ 24 + t := fun e => by rw [e, hb] at h; cases h
      unfold ed at he ⊢
      split at he
      · rename_i hc
        rw [if_pos hc]; exact he
      · rename_i hc
        rw [if_neg hc, show bL (bdrop β t) (u - 24) = bL β (u - 24) from fu_n (by omega)]
        exact he
    cases hc : bt x (24 + t) with
    | false => rfl
    | true => rw [h2 _ (by omega) hc] at hb; cases hb
theorem RBN.drop {I : Nat → Nat → Int32} (h : RBN β I) (t : Nat) : RBN (bdrop β t) (j_u I 315 t 0) := by
  have hf : ∀ o', o' ≠ 315 → j_u I 315 t 0 o' = I o' := fun o' h => by funext i; rw [j_u_o _ _ _ h]
  refine ⟨fun c hc => ?_, fun u hu => ?_⟩
  · rw [hf 264 (by decide), hf 333 (by decide), hf (335 + c) (by omega)]; exact h.1 c hc
  · rw [hf 316 (by decide), hf 317 (by decide), hf 318 (by decide), hf 319 (by decide)]
    refine ⟨?_, fun hl => (h.2 u hu).2 (bdrop_l hl).2⟩
    by_cases e : u = t
    · subst e; rw [j_u_same, show bL (bdrop β u) u = false from fu_s]; rfl
    · rw [j_u_k _ _ e, (h.2 u hu).1, show bL (bdrop β t) u = bL β u from fu_n e]
/-- the reference's fields of a table -/
def P6 (f : Nat → Nat → Int32) (t : Nat) (a1 a2 a3 a4 a5 a6 : Int32) : Nat → Nat → Int32 := j_u (j_u (j_u (j_u (j_u (j_u f 315 t a1) 316 t a2) 317 t a3) 318 t a4) 319 (2 * t) a5) 319 (2 * t + 1) a6
theorem P6_o {f : Nat → Nat → Int32} {t : Nat} {a1 a2 a3 a4 a5 a6 : Int32} {o' : Nat} (h : o' < 315 ∨ 320 ≤ o') : P6 f t a1 a2 a3 a4 a5 a6 o' = f o' := by
  funext i
  unfold P6
  simp (disch := omega) only [j_u_o]
theorem P6_u {f : Nat → Nat → Int32} {t u : Nat} {a1 a2 a3 a4 a5 a6 : Int32} (h : u ≠ t) : P6 f t a1 a2 a3 a4 a5 a6 315 u = f 315 u ∧ P6 f t a1 a2 a3 a4 a5 a6 316 u = f 316 u ∧ P6 f t a1 a2 a3 a4 a5 a6 317 u = f 317 u ∧ P6 f t a1 a2 a3 a4 a5 a6 318 u = f 318 u ∧ P6 f t a1 a2 a3 a4 a5 a6 319 (2 * u) = f 319 (2 * u) ∧ P6 f t a1 a2 a3 a4 a5 a6 319 (2 * u + 1) = f 319 (2 * u + 1) := by
  unfold P6
  refine ⟨?_, ?_, ?_, ?_, ?_, ?_⟩ <;> simp (disch := omega) only [j_u_o, j_u_k]
theorem P6_t {f : Nat → Nat → Int32} {t : Nat} {a1 a2 a3 a4 a5 a6 : Int32} : P6 f t a1 a2 a3 a4 a5 a6 315 t = a1 ∧ P6 f t a1 a2 a3 a4 a5 a6 316 t = a2 ∧ P6 f t a1 a2 a3 a4 a5 a6 317 t = a3 ∧ P6 f t a1 a2 a3 a4 a5 a6 318 t = a4 ∧ P6 f t a1 a2 a3 a4 a5 a6 319 (2 * t) = a5 ∧ P6 f t a1 a2 a3 a4 a5 a6 319 (2 * t + 1) = a6 := by
  unfold P6
  refine ⟨?_, ?_, ?_, ?_, ?_, ?_⟩ <;> simp (disch := omega) only [j_u_o, j_u_k, j_u_same]
theorem P6_back {f K : Nat → Nat → Int32} {t : Nat} {a1 a2 a3 a4 a5 a6 : Int32} (hK : ∀ o', o' ≠ 361 → o' ≠ 362 → K o' = P6 f t a1 a2 a3 a4 a5 a6 o') : ∀ o', o' ≠ 361 → o' ≠ 362 → P6 K t (f 315 t) (f 316 t) (f 317 t) (f 318 t) (f 319 (2 * t)) (f 319 (2 * t + 1)) o' = f o' := by
  intro o' h1 h2
  by_cases h : o' < 315 ∨ 320 ≤ o'
  · rw [P6_o h, hK o' h1 h2, P6_o h]
  · have hc : o' = 315 ∨ o' = 316 ∨ o' = 317 ∨ o' = 318 ∨ o' = 319 := by omega
    have hk := hK o' h1 h2
    funext i
    have hki := congrFun hk i
    unfold P6 at hki ⊢
    rcases hc with rfl | rfl | rfl | rfl | rfl
    · by_cases e : i = t
      · subst e; simp (disch := omega) only [j_u_o, j_u_same]
      · simp (disch := omega) only [j_u_o, j_u_k] at hki ⊢; exact hki
    · by_cases e : i = t
      · subst e; simp (disch := omega) only [j_u_o, j_u_same]
      · simp (disch := omega) only [j_u_o, j_u_k] at hki ⊢; exact hki
    · by_cases e : i = t
      · subst e; simp (disch := omega) only [j_u_o, j_u_same]
      · simp (disch := omega) only [j_u_o, j_u_k] at hki ⊢; exact hki
    · by_cases e : i = t
      · subst e; simp (disch := omega) only [j_u_o, j_u_same]
      · simp (disch := omega) only [j_u_o, j_u_k] at hki ⊢; exact hki
    · by_cases e : i = 2 * t
      · subst e; simp (disch := omega) only [j_u_k, j_u_same]
      · by_cases e2 : i = 2 * t + 1
        · subst e2; simp (disch := omega) only [j_u_same]
        · simp (disch := omega) only [j_u_o, j_u_k] at hki ⊢; exact hki
theorem RBN.lay' {I I2 : Nat → Nat → Int32} (h : RBN β I) {a4 a6 : Int32} (h4 : a4 = oI o) (h6 : a6 = nI (if o = none then 0 else 1)) (hf : ∀ o', I2 o' = P6 I t 1 (nI b) (nI e) a4 1 a6 o') : RBN (blay β t b e o) I2 := by
  refine ⟨fun c hc => ?_, fun u hu => ?_⟩
  · rw [hf 264, hf 333, hf (335 + c), P6_o (by omega), P6_o (by omega), P6_o (by omega)]; exact h.1 c hc
  · rw [hf 315, hf 316, hf 317, hf 318, hf 319]
    by_cases e' : u = t
    · subst e'
      obtain ⟨p1, p2, p3, p4, p5, p6⟩ := P6_t (f := I) (t := u) (a1 := 1) (a2 := nI b) (a3 := nI e) (a4 := a4) (a5 := 1) (a6 := a6)
      rw [p1, p2, p3, p4, p5, p6]
      refine ⟨by rw [show bL (blay β u b e o) u = true from fu_s]; rfl, fun _ => ⟨?_, ?_, ?_, ?_, ?_⟩⟩
      · rw [show bO (blay β u b e o) u = b from fu_s]
      · rw [show b1 (blay β u b e o) u = e from fu_s]
      · rw [show b2 (blay β u b e o) u = o from fu_s]; exact h4
      · rw [show bm (blay β u b e o) u = 1 from fu_s]; rfl
      · rw [show bn (blay β u b e o) u = if o = none then 0 else 1 from fu_s]; exact h6
    · obtain ⟨p1, p2, p3, p4, p5, p6⟩ := P6_u (f := I) (a1 := 1) (a2 := nI b) (a3 := nI e) (a4 := a4) (a5 := 1) (a6 := a6) e'
      obtain ⟨-, hb⟩ := blay_o (β := β) (t := t) (b := b) (e := e) (o := o)
      obtain ⟨q1, q2, q3, q4, q5, q6, -, -⟩ := hb u hu e'
      rw [p1, p2, p3, p4, p5, p6, q1, q2, q3, q4, q5, q6]
      exact h.2 u hu
/-- both sides hold the new table -/
theorem lay_inv {σ : j_I3} (hR : WFR σ.2.2) (hW : WFD σ.2.2) (hL : Live β σ) (hRe : Rest σ) (ht : t < 6) {I2 J K : Nat → Nat → Int32} {D2 : Nat → Nat → UInt64} {a4 a6 : Int32} (h4 : a4 = oI o) (h6 : a6 = nI (if o = none then 0 else 1)) (hf : ∀ o', o' ≠ gs σ.2.2 → I2 o' = σ.1 o') (hg : ∀ o', o' ≠ gs σ.2.2 + 1 → o' ≠ gs σ.2.2 + 2 → D2 o' = σ.2.1 o')
    (hC : CB (blay β t b e o) I2 D2 (j_u σ.2.2 113 t (some (gs σ.2.2)))) (hV : BV (blay β t b e o)) (j1 : ∀ o', (o' < 205 ∨ 211 ≤ o') → J o' = I2 o') (j2 : NM (blay β t b e o) J) (j3 : OrdB (blay β t b e o) J) (j4 : ∀ v, v < 30 → bu J v ≤ 2000) (k1 : ∀ o', o' ≠ 361 → o' ≠ 362 → K o' = P6 J t 1 (nI b) (nI e) a4 1 a6 o') :
    Inv (K, j_u (j_u D2 (321 + 2 * t) 0 FP.dconst0) (321 + (2 * t + 1)) 0 FP.dconst0, j_u (j_u σ.2.2 113 t (some (gs σ.2.2))) 0 6 (some (go σ.2.2 t))) := by
  obtain ⟨a1, a2, a3, a4', a5, a6', a7⟩ := hL
  have hs := isBG_rng hR.2.2.2.2
  have hKJ : ∀ o', o' ≠ 361 → o' ≠ 362 → (o' < 315 ∨ 320 ≤ o') → K o' = J o' := fun o' h1 h2 h3 => (k1 o' h1 h2).trans (P6_o h3)
  have hKI : ∀ o', o' ≠ 361 → o' ≠ 362 → (o' < 315 ∨ 320 ≤ o') → (o' < 205 ∨ 211 ≤ o') → o' ≠ gs σ.2.2 → K o' = σ.1 o' := fun o' h1 h2 h3 h4 h5 => (hKJ o' h1 h2 h3).trans ((j1 o' h4).trans (hf o' h5))
  have hJI : ∀ o', 211 ≤ o' → J o' = σ.1 o' := fun o' h => (j1 o' (by omega)).trans (hf o' (by omega))
  have hDD : ∀ o', o' ≠ 321 + 2 * t → o' ≠ 321 + (2 * t + 1) → j_u (j_u D2 (321 + 2 * t) 0 FP.dconst0) (321 + (2 * t + 1)) 0 FP.dconst0 o' = D2 o' := fun o' h1 h2 => by funext i; rw [j_u_o _ _ _ h2, j_u_o _ _ _ h1]
  have hDI : ∀ o', o' ≠ 321 + 2 * t → o' ≠ 321 + (2 * t + 1) → o' ≠ gs σ.2.2 + 1 → o' ≠ gs σ.2.2 + 2 → j_u (j_u D2 (321 + 2 * t) 0 FP.dconst0) (321 + (2 * t + 1)) 0 FP.dconst0 o' = σ.2.1 o' := fun o' h1 h2 h3 h4 => (hDD o' h1 h2).trans (hg o' h3 h4)
  obtain ⟨-, hob⟩ := blay_o (β := β) (t := t) (b := b) (e := e) (o := o)
  refine Inv.mk (β := blay β t b e o) (hR.sw113 ht) (hW.sw113 ht) ((hC.cg (hR.u113 hR.2.2.2.2) (fun o' ho => ?_) (fun o' ho => ?_)).R ?_ ?_) (a2.tab blay_o (fun o' h1 h2 => hKI o' (by omega) (by omega) (by omega) (by omega) (by omega)) (fun o' h1 h2 => hDI o' (by omega) (by omega) (by omega) (by omega)) (fun u hu e' => ?_) ⟨?_, fun _ => ⟨?_, ?_, ?_, ?_, ?_, fun k hk => ?_, fun k hk => ?_⟩⟩) (fun c hc => ?_) hV (j2.cg (fun o' h1 h2 => hKJ o' (by omega) (by omega) (by omega))) (j3.cg (hKJ 205 (by omega) (by omega) (by omega))) (fun v hv => ?_) (hRe.cg' (fun o' ho => ?_) (fun o' ho => ?_) ?_ ?_ ?_ ?_)
  · unfold CBP at ho
    rw [hKJ o' (by omega) (by omega) (by omega), j1 o' (by omega)]
  · unfold CBP at ho
    exact hDD o' (by omega) (by omega)
  · funext i; rw [j_u_o _ _ _ (by decide)]
  · funext i; rw [j_u_o _ _ _ (by decide)]
  · obtain ⟨p1, p2, p3, p4, p5, p6⟩ := P6_u (f := J) (a1 := 1) (a2 := nI b) (a3 := nI e) (a4 := a4) (a5 := 1) (a6 := a6) e'
    rw [k1 315 (by decide) (by decide), k1 316 (by decide) (by decide), k1 317 (by decide) (by decide), k1 318 (by decide) (by decide), k1 319 (by decide) (by decide), p1, p2, p3, p4, p5, p6, hJI 315 (by decide), hJI 316 (by decide), hJI 317 (by decide), hJI 318 (by decide), hJI 319 (by decide)]
    exact ⟨rfl, rfl, rfl, rfl, rfl, rfl, hDI _ (by omega) (by omega) (by omega) (by omega), hDI _ (by omega) (by omega) (by omega) (by omega)⟩
  · rw [k1 315 (by decide) (by decide), P6_t.1, show bL (blay β t b e o) t = true from fu_s]; rfl
  · rw [k1 316 (by decide) (by decide), P6_t.2.1, show bO (blay β t b e o) t = b from fu_s]
  · rw [k1 317 (by decide) (by decide), P6_t.2.2.1, show b1 (blay β t b e o) t = e from fu_s]
  · rw [k1 318 (by decide) (by decide), P6_t.2.2.2.1, show b2 (blay β t b e o) t = o from fu_s]; exact h4
  · rw [k1 319 (by decide) (by decide), P6_t.2.2.2.2.1, show bm (blay β t b e o) t = 1 from fu_s]; rfl
  · rw [k1 319 (by decide) (by decide), P6_t.2.2.2.2.2, show bn (blay β t b e o) t = if o = none then 0 else 1 from fu_s]; exact h6
  · rw [show bm (blay β t b e o) t = 1 from fu_s] at hk
    rw [show k = 0 by omega, show bA (blay β t b e o) (2 * t) = fun _ => FP.dconst0 from if_pos (Or.inl rfl), j_u_o _ _ _ (by omega), j_u_same]
  · rw [show bn (blay β t b e o) t = if o = none then 0 else 1 from fu_s] at hk
    have : k = 0 := by split at hk <;> omega
    rw [this, show bA (blay β t b e o) (2 * t + 1) = fun _ => FP.dconst0 from if_pos (Or.inr rfl), show 321 + 2 * t + 1 = 321 + (2 * t + 1) by omega, j_u_same]
  · rw [hKI 333 (by omega) (by omega) (by omega) (by omega) (by omega), hKI (335 + c) (by omega) (by omega) (by omega) (by omega) (by omega)]; exact a3 c hc
  · unfold bu
    rw [hKJ 208 (by omega) (by omega) (by omega)]; exact j4 v hv
  · unfold restP at ho
    exact hKI o' (by omega) (by omega) (by omega) (by omega) (by omega)
  · unfold restP at ho
    exact hDI o' (by omega) (by omega) (by omega) (by omega)
  · rw [hKI 97 (by omega) (by omega) (by omega) (by omega) (by omega)]
  · rw [hKI 260 (by omega) (by omega) (by omega) (by omega) (by omega)]
  · rw [hKI 260 (by omega) (by omega) (by omega) (by omega) (by omega)]
  · rw [hKI 0 (by omega) (by omega) (by omega) (by omega) (by omega)]
/-- a table refused: all is as it was, but what nobody reads -/
theorem full_inv {σ : j_I3} (hR : WFR σ.2.2) (hW : WFD σ.2.2) (hL : Live β σ) (hRe : Rest σ) {I2 J K : Nat → Nat → Int32} {D2 : Nat → Nat → UInt64} (hf : ∀ o', o' ≠ gs σ.2.2 → I2 o' = σ.1 o') (hg : ∀ o', o' ≠ gs σ.2.2 + 1 → o' ≠ gs σ.2.2 + 2 → D2 o' = σ.2.1 o') (j1 : ∀ o', (o' < 205 ∨ 211 ≤ o') → J o' = I2 o') (j2 : NM β J) (j3 : OrdB β J) (k1 : ∀ o', o' ≠ 361 → o' ≠ 362 → K o' = J o') : Inv (K, D2, σ.2.2) := by
  obtain ⟨a1, a2, a3, a4, a5, a6, a7⟩ := hL
  have hs := isBG_rng hR.2.2.2.2
  have hKI : ∀ o', o' ≠ 361 → o' ≠ 362 → (o' < 205 ∨ 211 ≤ o') → o' ≠ gs σ.2.2 → K o' = σ.1 o' := fun o' h1 h2 h4 h5 => (k1 o' h1 h2).trans ((j1 o' h4).trans (hf o' h5))
  refine Inv.mk (β := β) hR hW ⟨fun c hc => ?_, fun u hu => ?_⟩ (a2.cg (fun o' h1 h2 => hKI o' (by omega) (by omega) (by omega) (by omega)) (fun o' h1 h2 => hg o' (by omega) (by omega))) (a3.cg (fun o' h1 h2 => hKI o' (by omega) (by omega) (by omega) (by omega))) a4 (j2.cg (fun o' h1 h2 => k1 o' (by omega) (by omega))) (j3.cg (k1 205 (by omega) (by omega))) (fun v hv => ?_) (hRe.cg' (fun o' ho => ?_) (fun o' ho => ?_) ?_ ?_ ?_ ?_)
  · have hb := isBF_rng (hR.1 c hc).2
    have hd : ∀ i, i ≤ 2 → fo σ.2.2 c + i ≠ gs σ.2.2 ∧ fo σ.2.2 c + i < 205 := fun i hi => by
      rcases hb with hb | hb <;> rcases hs with hs | hs <;> omega
    obtain ⟨c1, c2, c3, c4, c5⟩ := a1.1 c hc
    have d0 := hd 0 (by omega)
    have d1 := hd 1 (by omega)
    have d2 := hd 2 (by omega)
    rw [Nat.add_zero] at d0
    rw [hKI 109 (by omega) (by omega) (by omega) (by omega), hKI 111 (by omega) (by omega) (by omega) (by omega), hg 110 (by omega) (by omega)]
    exact ⟨c1, c2, c3, c4, c5.cg (hKI _ (by omega) (by omega) (by omega) d0.1) (hKI _ (by omega) (by omega) (by omega) d1.1) (hKI _ (by omega) (by omega) (by omega) d2.1)⟩
  · have hd : ∀ i j, i ≤ 2 → j ≤ 2 → go σ.2.2 u + i ≠ gs σ.2.2 + j := fun i j hi hj e => by
      have h0 := hW.2.2.2 u hu
      have h1 := (hR.2.1 u hu).2
      have h2 := hR.2.2.2.2
      unfold isBG at h1 h2
      rcases h1 with h1 | ⟨p, hp, h1⟩ <;> rcases h2 with h2 | ⟨q, hq, h2⟩
      · exact h0 (h1.trans h2.symm)
      · omega
      · omega
      · exact h0 (by omega)
    have hr := isBG_rng (hR.2.1 u hu).2
    have d0 := hd 0 0 (by omega) (by omega)
    exact (a1.2 u hu).cg (hKI _ (by omega) (by omega) (by omega) d0) (hg _ (hd 1 1 (by omega) (by omega)) (hd 1 2 (by omega) (by omega))) (hg _ (hd 2 1 (by omega) (by omega)) (hd 2 2 (by omega) (by omega)))
  · have h1 := NM.mono a4 a4 lessB.rf a5 j2 v hv
    have h2 := a7 v hv
    unfold bu at h1 h2 ⊢
    rw [k1 208 (by omega) (by omega)]
    omega
  · unfold restP at ho
    exact hKI o' (by omega) (by omega) (by omega) (by omega)
  · unfold restP at ho
    exact hg o' (by omega) (by omega)
  · rw [hKI 97 (by omega) (by omega) (by omega) (by omega)]
  · rw [hKI 260 (by omega) (by omega) (by omega) (by omega)]
  · rw [hKI 260 (by omega) (by omega) (by omega) (by omega)]
  · rw [hKI 0 (by omega) (by omega) (by omega) (by omega)]
end BL
