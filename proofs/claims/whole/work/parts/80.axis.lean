/-! axis: the roads -/
set_option maxRecDepth 10000 in
set_option maxHeartbeats 4000000 in
theorem s107r {d : Nat} {I : Nat → Nat → Int32} {D : Nat → Nat → UInt64} {R : Nat → Nat → Option Nat} {Q : j_Po} {a : Int32} {w : Int32} {b : Int32} {c : Int32} {n : Int32}  (hR : WFR R) (hd : 6 ≤ d)
    (v1 : ∀ k1 : Nat, (k1 < 6) → (a = nI k1) → (w < 0) → Q (some (.int (-2))) w1 (I, D, RR R))
    (v2 : ∀ k1 : Nat, (k1 < 6) → (a = nI k1) → (¬ w < 0) → (1 < w) → Q (some (.int (-2))) w1 (I, D, RR R))
    (v3 : ∀ k1 : Nat, (k1 < 6) → (a = nI k1) → (¬ w < 0) → (¬ 1 < w) → (n < 1) → Q (some (.int (-2))) w1 (I, D, RR R))
    (v4 : ∀ k1 : Nat, (k1 < 6) → (a = nI k1) → (¬ w < 0) → (¬ 1 < w) → (¬ n < 1) → (n ≤ 8) → ((¬ b < -(80000 : Int32) ∧ ¬ (80000 : Int32) < b)) → ((¬ c < -(8000 : Int32) ∧ ¬ (8000 : Int32) < c)) → j_W 107 d 0 0 0 0 55 [none, none, none, none, none, none, none] [] w1 (I, D, RR R) Q)
    (v5 : ∀ k1 : Nat, (k1 < 6) → (a = nI k1) → (¬ w < 0) → (¬ 1 < w) → (¬ n < 1) → (n ≤ 8) → ((¬ b < -(80000 : Int32) ∧ ¬ (80000 : Int32) < b)) → (¬ ((¬ c < -(8000 : Int32) ∧ ¬ (8000 : Int32) < c))) → Q (some (.int (-2))) w1 (I, D, RR R))
    (v6 : ∀ k1 : Nat, (k1 < 6) → (a = nI k1) → (¬ w < 0) → (¬ 1 < w) → (¬ n < 1) → (n ≤ 8) → (¬ ((¬ b < -(80000 : Int32) ∧ ¬ (80000 : Int32) < b))) → Q (some (.int (-2))) w1 (I, D, RR R))
    (v7 : ∀ k1 : Nat, (k1 < 6) → (a = nI k1) → (¬ w < 0) → (¬ 1 < w) → (¬ n < 1) → (¬ n ≤ 8) → Q (some (.int (-2))) w1 (I, D, RR R))
    (v8 : (¬ (∃ k : Nat, k < 6 ∧ a = nI k)) → Q (some (.int (-2))) w1 (I, D, RR R)) : j_Call d 107 [.ref 0, .int a, .int w, .int b, .int c, .int n] w1 (I, D, RR R) 0 0 Q := by
  refine q_enter (L := [some (.ref 0), some (.int a), some (.int w), some (.int b), some (.int c), some (.int n), none]) j_m107 (Nat.le_of_ble_eq_true rfl) rfl ?_
  refine q_iload_n d107_0 rfl ?_
  refine q_invS (av := [.int a]) (rest := []) (d' := 0) (mc' := 0) (ms' := 0) d107_1 (cv9_183 107 rfl) rfl rfl (by omega) (Nat.le_of_ble_eq_true rfl) (Nat.le_of_ble_eq_true rfl) (Nat.le_refl _) (Nat.le_refl _) ?_
  refine r39  (fun k1 h1 h1e => ?_) (fun h1 => ?_)
  ·
    subst h1e
    show j_W 107 d 0 0 0 0 4 [some (.ref 0), some (.int (nI k1)), some (.int w), some (.int b), some (.int c), some (.int n), none] [.int 1] w1 (I, D, RR R) Q
    refine q_if_eq (tgt := 29) d107_4 rfl (fun h => absurd h (by decide)) (fun _ => ?_)
    refine q_iload_n d107_7 rfl ?_
    refine q_if_lt (tgt := 29) d107_8 rfl (fun h2t => ?_) (fun h2f => ?_)
    ·
      refine q_bipush (v := (-2)) (by decide) d107_29 ?_
      exact q_iret d107_31 rfl (Nat.le_refl _) (Nat.le_refl _) (v1 k1 h1 rfl h2t)
    ·
      refine q_iload_n d107_11 rfl ?_
      refine q_iconst (v := 1) (by decide) d107_12 ?_
      refine q_icmp_gt (tgt := 29) d107_13 rfl (fun h3t => ?_) (fun h3f => ?_)
      ·
        refine q_bipush (v := (-2)) (by decide) d107_29 ?_
        exact q_iret d107_31 rfl (Nat.le_refl _) (Nat.le_refl _) (v2 k1 h1 rfl h2f h3t)
      ·
        refine q_iload d107_16 rfl ?_
        refine q_iconst (v := 1) (by decide) d107_18 ?_
        refine q_icmp_lt (tgt := 29) d107_19 rfl (fun h4t => ?_) (fun h4f => ?_)
        ·
          refine q_bipush (v := (-2)) (by decide) d107_29 ?_
          exact q_iret d107_31 rfl (Nat.le_refl _) (Nat.le_refl _) (v3 k1 h1 rfl h2f h3f h4t)
        ·
          refine q_iload d107_22 rfl ?_
          refine q_bipush (v := 8) (by decide) d107_24 ?_
          refine q_icmp_le (tgt := 32) d107_26 rfl (fun h5t => ?_) (fun h5f => ?_)
          ·
            refine q_iload_n d107_32 rfl ?_
            refine q_ldcI (v := 80000) d107_33 (kc9_193 107 rfl) ?_
            refine q_invS (av := [.int b, .int 80000]) (rest := []) (d' := 0) (mc' := 0) (ms' := 0) d107_35 (cv9_65 107 rfl) rfl rfl (by omega) (Nat.le_of_ble_eq_true rfl) (Nat.le_of_ble_eq_true rfl) (Nat.le_refl _) (Nat.le_refl _) ?_
            refine p13  (fun h6 => ?_) (fun h6 => ?_)
            ·
              show j_W 107 d 0 0 0 0 38 [some (.ref 0), some (.int (nI k1)), some (.int w), some (.int b), some (.int c), some (.int n), none] [.int 1] w1 (I, D, RR R) Q
              refine q_if_eq (tgt := 52) d107_38 rfl (fun h => absurd h (by decide)) (fun _ => ?_)
              refine q_iload d107_41 rfl ?_
              refine q_sipush (v := 8000) (by decide) d107_43 ?_
              refine q_invS (av := [.int c, .int 8000]) (rest := []) (d' := 0) (mc' := 0) (ms' := 0) d107_46 (cv9_65 107 rfl) rfl rfl (by omega) (Nat.le_of_ble_eq_true rfl) (Nat.le_of_ble_eq_true rfl) (Nat.le_refl _) (Nat.le_refl _) ?_
              refine p13  (fun h7 => ?_) (fun h7 => ?_)
              ·
                show j_W 107 d 0 0 0 0 49 [some (.ref 0), some (.int (nI k1)), some (.int w), some (.int b), some (.int c), some (.int n), none] [.int 1] w1 (I, D, RR R) Q
                refine q_if_ne (tgt := 55) d107_49 rfl (fun _ => ?_) (fun h => absurd h (by decide))
                exact r_sub (L' := [none, none, none, none, none, none, none]) trivial (v4 k1 h1 rfl h2f h3f h4f h5t h6 h7)
              ·
                show j_W 107 d 0 0 0 0 49 [some (.ref 0), some (.int (nI k1)), some (.int w), some (.int b), some (.int c), some (.int n), none] [.int 0] w1 (I, D, RR R) Q
                refine q_if_ne (tgt := 55) d107_49 rfl (fun h => absurd h (by decide)) (fun _ => ?_)
                refine q_bipush (v := (-2)) (by decide) d107_52 ?_
                exact q_iret d107_54 rfl (Nat.le_refl _) (Nat.le_refl _) (v5 k1 h1 rfl h2f h3f h4f h5t h6 h7)
            ·
              show j_W 107 d 0 0 0 0 38 [some (.ref 0), some (.int (nI k1)), some (.int w), some (.int b), some (.int c), some (.int n), none] [.int 0] w1 (I, D, RR R) Q
              refine q_if_eq (tgt := 52) d107_38 rfl (fun _ => ?_) (fun h => absurd h (by decide))
              refine q_bipush (v := (-2)) (by decide) d107_52 ?_
              exact q_iret d107_54 rfl (Nat.le_refl _) (Nat.le_refl _) (v6 k1 h1 rfl h2f h3f h4f h5t h6)
          ·
            refine q_bipush (v := (-2)) (by decide) d107_29 ?_
            exact q_iret d107_31 rfl (Nat.le_refl _) (Nat.le_refl _) (v7 k1 h1 rfl h2f h3f h4f h5f)
  ·
    show j_W 107 d 0 0 0 0 4 [some (.ref 0), some (.int a), some (.int w), some (.int b), some (.int c), some (.int n), none] [.int 0] w1 (I, D, RR R) Q
    refine q_if_eq (tgt := 29) d107_4 rfl (fun _ => ?_) (fun h => absurd h (by decide))
    refine q_bipush (v := (-2)) (by decide) d107_29 ?_
    exact q_iret d107_31 rfl (Nat.le_refl _) (Nat.le_refl _) (v8 h1)

set_option maxRecDepth 10000 in
set_option maxHeartbeats 4000000 in
theorem s250r {d : Nat} {I : Nat → Nat → Int32} {D : Nat → Nat → UInt64} {R : Nat → Nat → Option Nat} {Q : j_Po} {a : Int32} {w : Int32} {b : Int32} {c : Int32} {n : Int32}   (hd : 83 ≤ d)
    (v1 : ∀ k1 : Nat, (k1 < 6) → (a = nI k1) → ((¬ w < (0 : Int32) ∧ ¬ (1 : Int32) < w)) → ((¬ b < (-80000 : Int32) ∧ ¬ (80000 : Int32) < b)) → ((¬ c < (-8000 : Int32) ∧ ¬ (8000 : Int32) < c)) → ((¬ n < (1 : Int32) ∧ ¬ (8 : Int32) < n)) → j_W 250 d 0 0 0 0 57 [none, none, none, none, none, none, none] [] w1 (I, D, RR R) Q)
    (v2 : ∀ k1 : Nat, (k1 < 6) → (a = nI k1) → ((¬ w < (0 : Int32) ∧ ¬ (1 : Int32) < w)) → ((¬ b < (-80000 : Int32) ∧ ¬ (80000 : Int32) < b)) → ((¬ c < (-8000 : Int32) ∧ ¬ (8000 : Int32) < c)) → (¬ ((¬ n < (1 : Int32) ∧ ¬ (8 : Int32) < n))) → Q (some (.int (-2))) w1 (I, D, RR R))
    (v3 : ∀ k1 : Nat, (k1 < 6) → (a = nI k1) → ((¬ w < (0 : Int32) ∧ ¬ (1 : Int32) < w)) → ((¬ b < (-80000 : Int32) ∧ ¬ (80000 : Int32) < b)) → (¬ ((¬ c < (-8000 : Int32) ∧ ¬ (8000 : Int32) < c))) → Q (some (.int (-2))) w1 (I, D, RR R))
    (v4 : ∀ k1 : Nat, (k1 < 6) → (a = nI k1) → ((¬ w < (0 : Int32) ∧ ¬ (1 : Int32) < w)) → (¬ ((¬ b < (-80000 : Int32) ∧ ¬ (80000 : Int32) < b))) → Q (some (.int (-2))) w1 (I, D, RR R))
    (v5 : ∀ k1 : Nat, (k1 < 6) → (a = nI k1) → (¬ ((¬ w < (0 : Int32) ∧ ¬ (1 : Int32) < w))) → Q (some (.int (-2))) w1 (I, D, RR R))
    (v6 : (¬ (∃ k : Nat, k < 6 ∧ a = nI k)) → Q (some (.int (-2))) w1 (I, D, RR R)) : j_Call d 250 [.ref 260, .int a, .int w, .int b, .int c, .int n] w1 (I, D, RR R) 0 0 Q := by
  refine q_enter (L := [some (.ref 260), some (.int a), some (.int w), some (.int b), some (.int c), some (.int n), none]) j_m250 (Nat.le_of_ble_eq_true rfl) rfl ?_
  refine q_iload_n d250_0 rfl ?_
  refine q_invS (av := [.int a]) (rest := []) (d' := 1) (mc' := 0) (ms' := 0) d250_1 (cv10_480 250 rfl) rfl rfl (by omega) (Nat.le_of_ble_eq_true rfl) (Nat.le_of_ble_eq_true rfl) (Nat.le_refl _) (Nat.le_refl _) ?_
  refine r249 (Nat.le_refl _)  (fun k1 h1 h1e => ?_) (fun h1 => ?_)
  ·
    subst h1e
    show j_W 250 d 0 0 0 0 4 [some (.ref 260), some (.int (nI k1)), some (.int w), some (.int b), some (.int c), some (.int n), none] [.int 1] w1 (I, D, RR R) Q
    refine q_if_eq (tgt := 54) d250_4 rfl (fun h => absurd h (by decide)) (fun _ => ?_)
    refine q_iload_n d250_7 rfl ?_
    refine q_iconst (v := 0) (by decide) d250_8 ?_
    refine q_iconst (v := 1) (by decide) d250_9 ?_
    refine q_invS (av := [.int w, .int 0, .int 1]) (rest := []) (d' := 0) (mc' := 0) (ms' := 0) d250_10 (cv10_183 250 rfl) rfl rfl (by omega) (Nat.le_of_ble_eq_true rfl) (Nat.le_of_ble_eq_true rfl) (Nat.le_refl _) (Nat.le_refl _) ?_
    refine p168  (fun h2 => ?_) (fun h2 => ?_)
    ·
      show j_W 250 d 0 0 0 0 13 [some (.ref 260), some (.int (nI k1)), some (.int w), some (.int b), some (.int c), some (.int n), none] [.int 1] w1 (I, D, RR R) Q
      refine q_if_eq (tgt := 54) d250_13 rfl (fun h => absurd h (by decide)) (fun _ => ?_)
      refine q_iload_n d250_16 rfl ?_
      refine q_ldcwI (v := (-80000)) d250_17 (kc10_483 250 rfl) ?_
      refine q_ldcwI (v := 80000) d250_20 (kc10_484 250 rfl) ?_
      refine q_invS (av := [.int b, .int (-80000), .int 80000]) (rest := []) (d' := 0) (mc' := 0) (ms' := 0) d250_23 (cv10_183 250 rfl) rfl rfl (by omega) (Nat.le_of_ble_eq_true rfl) (Nat.le_of_ble_eq_true rfl) (Nat.le_refl _) (Nat.le_refl _) ?_
      refine p168  (fun h3 => ?_) (fun h3 => ?_)
      ·
        show j_W 250 d 0 0 0 0 26 [some (.ref 260), some (.int (nI k1)), some (.int w), some (.int b), some (.int c), some (.int n), none] [.int 1] w1 (I, D, RR R) Q
        refine q_if_eq (tgt := 54) d250_26 rfl (fun h => absurd h (by decide)) (fun _ => ?_)
        refine q_iload d250_29 rfl ?_
        refine q_sipush (v := (-8000)) (by decide) d250_31 ?_
        refine q_sipush (v := 8000) (by decide) d250_34 ?_
        refine q_invS (av := [.int c, .int (-8000), .int 8000]) (rest := []) (d' := 0) (mc' := 0) (ms' := 0) d250_37 (cv10_183 250 rfl) rfl rfl (by omega) (Nat.le_of_ble_eq_true rfl) (Nat.le_of_ble_eq_true rfl) (Nat.le_refl _) (Nat.le_refl _) ?_
        refine p168  (fun h4 => ?_) (fun h4 => ?_)
        ·
          show j_W 250 d 0 0 0 0 40 [some (.ref 260), some (.int (nI k1)), some (.int w), some (.int b), some (.int c), some (.int n), none] [.int 1] w1 (I, D, RR R) Q
          refine q_if_eq (tgt := 54) d250_40 rfl (fun h => absurd h (by decide)) (fun _ => ?_)
          refine q_iload d250_43 rfl ?_
          refine q_iconst (v := 1) (by decide) d250_45 ?_
          refine q_bipush (v := 8) (by decide) d250_46 ?_
          refine q_invS (av := [.int n, .int 1, .int 8]) (rest := []) (d' := 0) (mc' := 0) (ms' := 0) d250_48 (cv10_183 250 rfl) rfl rfl (by omega) (Nat.le_of_ble_eq_true rfl) (Nat.le_of_ble_eq_true rfl) (Nat.le_refl _) (Nat.le_refl _) ?_
          refine p168  (fun h5 => ?_) (fun h5 => ?_)
          ·
            show j_W 250 d 0 0 0 0 51 [some (.ref 260), some (.int (nI k1)), some (.int w), some (.int b), some (.int c), some (.int n), none] [.int 1] w1 (I, D, RR R) Q
            refine q_if_ne (tgt := 57) d250_51 rfl (fun _ => ?_) (fun h => absurd h (by decide))
            exact r_sub (L' := [none, none, none, none, none, none, none]) trivial (v1 k1 h1 rfl h2 h3 h4 h5)
          ·
            show j_W 250 d 0 0 0 0 51 [some (.ref 260), some (.int (nI k1)), some (.int w), some (.int b), some (.int c), some (.int n), none] [.int 0] w1 (I, D, RR R) Q
            refine q_if_ne (tgt := 57) d250_51 rfl (fun h => absurd h (by decide)) (fun _ => ?_)
            refine q_bipush (v := (-2)) (by decide) d250_54 ?_
            exact q_iret d250_56 rfl (Nat.le_refl _) (Nat.le_refl _) (v2 k1 h1 rfl h2 h3 h4 h5)
        ·
          show j_W 250 d 0 0 0 0 40 [some (.ref 260), some (.int (nI k1)), some (.int w), some (.int b), some (.int c), some (.int n), none] [.int 0] w1 (I, D, RR R) Q
          refine q_if_eq (tgt := 54) d250_40 rfl (fun _ => ?_) (fun h => absurd h (by decide))
          refine q_bipush (v := (-2)) (by decide) d250_54 ?_
          exact q_iret d250_56 rfl (Nat.le_refl _) (Nat.le_refl _) (v3 k1 h1 rfl h2 h3 h4)
      ·
        show j_W 250 d 0 0 0 0 26 [some (.ref 260), some (.int (nI k1)), some (.int w), some (.int b), some (.int c), some (.int n), none] [.int 0] w1 (I, D, RR R) Q
        refine q_if_eq (tgt := 54) d250_26 rfl (fun _ => ?_) (fun h => absurd h (by decide))
        refine q_bipush (v := (-2)) (by decide) d250_54 ?_
        exact q_iret d250_56 rfl (Nat.le_refl _) (Nat.le_refl _) (v4 k1 h1 rfl h2 h3)
    ·
      show j_W 250 d 0 0 0 0 13 [some (.ref 260), some (.int (nI k1)), some (.int w), some (.int b), some (.int c), some (.int n), none] [.int 0] w1 (I, D, RR R) Q
      refine q_if_eq (tgt := 54) d250_13 rfl (fun _ => ?_) (fun h => absurd h (by decide))
      refine q_bipush (v := (-2)) (by decide) d250_54 ?_
      exact q_iret d250_56 rfl (Nat.le_refl _) (Nat.le_refl _) (v5 k1 h1 rfl h2)
  ·
    show j_W 250 d 0 0 0 0 4 [some (.ref 260), some (.int a), some (.int w), some (.int b), some (.int c), some (.int n), none] [.int 0] w1 (I, D, RR R) Q
    refine q_if_eq (tgt := 54) d250_4 rfl (fun _ => ?_) (fun h => absurd h (by decide))
    refine q_bipush (v := (-2)) (by decide) d250_54 ?_
    exact q_iret d250_56 rfl (Nat.le_refl _) (Nat.le_refl _) (v6 h1)

set_option maxRecDepth 10000 in
set_option maxHeartbeats 4000000 in
theorem s251_0 {d : Nat} {I : Nat → Nat → Int32} {D : Nat → Nat → UInt64} {R : Nat → Nat → Option Nat} {Q : j_Po} {t : Nat} {n : Nat} {β2 : Bd} {X : Nat → Nat → Bool} {bv : Nat → Nat} (ht : t < 6) (hd : 82 ≤ d)
    (v1 : BV β2)
    (v2 : RcE β2 X)
    (v3 : BuE β2 X bv)
    (v4 : 80 ≤ d - 1)
    (v5 : RBN β2 (j_u I 319 ((2 * t) + 0) (nI n)))
    (v6 : (∃ v, v < 30 ∧ 2000 < bv v) → ∀ K1 : Nat → Nat → Int32, (∀ o, o ≠ 361 → o ≠ 362 → K1 o = (j_u I 319 ((2 * t) + 0) (nI n)) o) → (RBN β2 K1) → Q (some (.int 0)) w1 ((j_u K1 319 ((2 * t) + 0) (I 319 ((2 * t) + 0))), D, RR R))
    (v7 : (∀ v, v < 30 → bv v ≤ 2000) → ∀ K1 : Nat → Nat → Int32, (∀ o, o ≠ 361 → o ≠ 362 → K1 o = (j_u I 319 ((2 * t) + 0) (nI n)) o) → (RBN β2 K1) → Q (some (.int 1)) w1 (K1, D, RR R)) : j_Call d 251 [.ref 260, .int (nI t), .int 0, .int (nI n)] w1 (I, D, RR R) 0 0 Q := by
  refine q_enter (L := [some (.ref 260), some (.int (nI t)), some (.int 0), some (.int (nI n)), none, none, none]) j_m251 (Nat.le_of_ble_eq_true rfl) rfl ?_
  refine q_iconst (v := 2) (by decide) d251_0 ?_
  refine q_iload_n d251_1 rfl ?_
  refine q_imul d251_2 ?_
  refine r_int (y := (nI (2 * t))) (pk_mul 2 t) ?_
  refine q_iload_n d251_3 rfl ?_
  refine q_iadd d251_4 ?_
  refine r_int (y := (nI ((2 * t) + 0))) (nI_add (2 * t) 0) ?_
  refine q_istore (L' := [some (.ref 260), some (.int (nI t)), some (.int 0), some (.int (nI n)), some (.int (nI ((2 * t) + 0))), none, none]) d251_5 (Nat.le_of_ble_eq_true rfl) rfl ?_
  refine q_aload_n d251_7 rfl ?_
  refine q_getR (x := 319) d251_8 (fs10_46 251 rfl) rfl (lt_w1 rfl) sh260 (rs260_10 R) (by decide) ?_
  refine q_iload d251_11 rfl ?_
  refine q_iaload (a := ((2 * t) + 0)) d251_13 (lt_w1 rfl) sh319 rfl (by omega) ?_
  refine q_istore (L' := [some (.ref 260), some (.int (nI t)), some (.int 0), some (.int (nI n)), some (.int (nI ((2 * t) + 0))), some (.int (I 319 ((2 * t) + 0))), none]) d251_14 (Nat.le_of_ble_eq_true rfl) rfl ?_
  refine q_aload_n d251_16 rfl ?_
  refine q_getR (x := 319) d251_17 (fs10_46 251 rfl) rfl (lt_w1 rfl) sh260 (rs260_10 R) (by decide) ?_
  refine q_iload d251_20 rfl ?_
  refine q_iload_n d251_22 rfl ?_
  refine q_iastore (a := ((2 * t) + 0)) d251_23 (lt_w1 rfl) sh319 rfl (by omega) ?_
  refine q_aload_n d251_24 rfl ?_
  refine q_invV (o := 260) (ci := 10) (av := []) (rest := []) (d' := (d - 1)) (mc' := 0) (ms' := 0) d251_25 (cv10_477 251 rfl) rfl (by decide) rfl rfl (by omega) (Nat.le_of_ble_eq_true rfl) (Nat.le_of_ble_eq_true rfl) (lt_w1 rfl) sh260 (Nat.le_refl _) (Nat.le_refl _) ?_
  refine c247 (β := β2) (X := X) (bv := bv) v1 v2 v3 v4 v5 (fun h2 K1 h3 h4 => ?_) (fun h2 K1 h3 h4 => ?_)
  ·
    show j_W 251 d 0 0 0 0 28 [some (.ref 260), some (.int (nI t)), some (.int 0), some (.int (nI n)), some (.int (nI ((2 * t) + 0))), some (.int (I 319 ((2 * t) + 0))), none] [.int 1] w1 (K1, D, RR R) Q
    refine q_if_ne (tgt := 35) d251_28 rfl (fun _ => ?_) (fun h => absurd h (by decide))
    refine q_iconst (v := 0) (by decide) d251_35 ?_
    refine q_istore (L' := [some (.ref 260), some (.int (nI t)), some (.int 0), some (.int (nI n)), some (.int (nI ((2 * t) + 0))), some (.int (I 319 ((2 * t) + 0))), some (.int 0)]) d251_36 (Nat.le_of_ble_eq_true rfl) rfl ?_
    refine q_iload d251_38 rfl ?_
    refine q_if_ne (tgt := 52) d251_40 rfl (fun h => absurd h (by decide)) (fun _ => ?_)
    refine q_aload_n d251_43 rfl ?_
    refine q_getR (x := 319) d251_44 (fs10_46 251 rfl) rfl (lt_w1 rfl) sh260 (rs260_10 R) (by decide) ?_
    refine q_iload d251_47 rfl ?_
    refine q_iload d251_49 rfl ?_
    refine q_iastore (a := ((2 * t) + 0)) d251_51 (lt_w1 rfl) sh319 rfl (by omega) ?_
    refine q_iload d251_52 rfl ?_
    exact q_zret d251_54 rfl (Or.inl rfl) (Nat.le_refl _) (Nat.le_refl _) (v6 h2 K1 h3 h4)
  ·
    show j_W 251 d 0 0 0 0 28 [some (.ref 260), some (.int (nI t)), some (.int 0), some (.int (nI n)), some (.int (nI ((2 * t) + 0))), some (.int (I 319 ((2 * t) + 0))), none] [.int 0] w1 (K1, D, RR R) Q
    refine q_if_ne (tgt := 35) d251_28 rfl (fun h => absurd h (by decide)) (fun _ => ?_)
    refine q_iconst (v := 1) (by decide) d251_31 ?_
    refine q_goto (tgt := 36) d251_32 rfl ?_
    refine q_istore (L' := [some (.ref 260), some (.int (nI t)), some (.int 0), some (.int (nI n)), some (.int (nI ((2 * t) + 0))), some (.int (I 319 ((2 * t) + 0))), some (.int 1)]) d251_36 (Nat.le_of_ble_eq_true rfl) rfl ?_
    refine q_iload d251_38 rfl ?_
    refine q_if_ne (tgt := 52) d251_40 rfl (fun _ => ?_) (fun h => absurd h (by decide))
    refine q_iload d251_52 rfl ?_
    exact q_zret d251_54 rfl (Or.inr rfl) (Nat.le_refl _) (Nat.le_refl _) (v7 h2 K1 h3 h4)

set_option maxRecDepth 10000 in
set_option maxHeartbeats 4000000 in
theorem s251_1 {d : Nat} {I : Nat → Nat → Int32} {D : Nat → Nat → UInt64} {R : Nat → Nat → Option Nat} {Q : j_Po} {t : Nat} {n : Nat} {β2 : Bd} {X : Nat → Nat → Bool} {bv : Nat → Nat} (ht : t < 6) (hd : 82 ≤ d)
    (v1 : BV β2)
    (v2 : RcE β2 X)
    (v3 : BuE β2 X bv)
    (v4 : 80 ≤ d - 1)
    (v5 : RBN β2 (j_u I 319 ((2 * t) + 1) (nI n)))
    (v6 : (∃ v, v < 30 ∧ 2000 < bv v) → ∀ K1 : Nat → Nat → Int32, (∀ o, o ≠ 361 → o ≠ 362 → K1 o = (j_u I 319 ((2 * t) + 1) (nI n)) o) → (RBN β2 K1) → Q (some (.int 0)) w1 ((j_u K1 319 ((2 * t) + 1) (I 319 ((2 * t) + 1))), D, RR R))
    (v7 : (∀ v, v < 30 → bv v ≤ 2000) → ∀ K1 : Nat → Nat → Int32, (∀ o, o ≠ 361 → o ≠ 362 → K1 o = (j_u I 319 ((2 * t) + 1) (nI n)) o) → (RBN β2 K1) → Q (some (.int 1)) w1 (K1, D, RR R)) : j_Call d 251 [.ref 260, .int (nI t), .int 1, .int (nI n)] w1 (I, D, RR R) 0 0 Q := by
  refine q_enter (L := [some (.ref 260), some (.int (nI t)), some (.int 1), some (.int (nI n)), none, none, none]) j_m251 (Nat.le_of_ble_eq_true rfl) rfl ?_
  refine q_iconst (v := 2) (by decide) d251_0 ?_
  refine q_iload_n d251_1 rfl ?_
  refine q_imul d251_2 ?_
  refine r_int (y := (nI (2 * t))) (pk_mul 2 t) ?_
  refine q_iload_n d251_3 rfl ?_
  refine q_iadd d251_4 ?_
  refine r_int (y := (nI ((2 * t) + 1))) (nI_add (2 * t) 1) ?_
  refine q_istore (L' := [some (.ref 260), some (.int (nI t)), some (.int 1), some (.int (nI n)), some (.int (nI ((2 * t) + 1))), none, none]) d251_5 (Nat.le_of_ble_eq_true rfl) rfl ?_
  refine q_aload_n d251_7 rfl ?_
  refine q_getR (x := 319) d251_8 (fs10_46 251 rfl) rfl (lt_w1 rfl) sh260 (rs260_10 R) (by decide) ?_
  refine q_iload d251_11 rfl ?_
  refine q_iaload (a := ((2 * t) + 1)) d251_13 (lt_w1 rfl) sh319 rfl (by omega) ?_
  refine q_istore (L' := [some (.ref 260), some (.int (nI t)), some (.int 1), some (.int (nI n)), some (.int (nI ((2 * t) + 1))), some (.int (I 319 ((2 * t) + 1))), none]) d251_14 (Nat.le_of_ble_eq_true rfl) rfl ?_
  refine q_aload_n d251_16 rfl ?_
  refine q_getR (x := 319) d251_17 (fs10_46 251 rfl) rfl (lt_w1 rfl) sh260 (rs260_10 R) (by decide) ?_
  refine q_iload d251_20 rfl ?_
  refine q_iload_n d251_22 rfl ?_
  refine q_iastore (a := ((2 * t) + 1)) d251_23 (lt_w1 rfl) sh319 rfl (by omega) ?_
  refine q_aload_n d251_24 rfl ?_
  refine q_invV (o := 260) (ci := 10) (av := []) (rest := []) (d' := (d - 1)) (mc' := 0) (ms' := 0) d251_25 (cv10_477 251 rfl) rfl (by decide) rfl rfl (by omega) (Nat.le_of_ble_eq_true rfl) (Nat.le_of_ble_eq_true rfl) (lt_w1 rfl) sh260 (Nat.le_refl _) (Nat.le_refl _) ?_
  refine c247 (β := β2) (X := X) (bv := bv) v1 v2 v3 v4 v5 (fun h2 K1 h3 h4 => ?_) (fun h2 K1 h3 h4 => ?_)
  ·
    show j_W 251 d 0 0 0 0 28 [some (.ref 260), some (.int (nI t)), some (.int 1), some (.int (nI n)), some (.int (nI ((2 * t) + 1))), some (.int (I 319 ((2 * t) + 1))), none] [.int 1] w1 (K1, D, RR R) Q
    refine q_if_ne (tgt := 35) d251_28 rfl (fun _ => ?_) (fun h => absurd h (by decide))
    refine q_iconst (v := 0) (by decide) d251_35 ?_
    refine q_istore (L' := [some (.ref 260), some (.int (nI t)), some (.int 1), some (.int (nI n)), some (.int (nI ((2 * t) + 1))), some (.int (I 319 ((2 * t) + 1))), some (.int 0)]) d251_36 (Nat.le_of_ble_eq_true rfl) rfl ?_
    refine q_iload d251_38 rfl ?_
    refine q_if_ne (tgt := 52) d251_40 rfl (fun h => absurd h (by decide)) (fun _ => ?_)
    refine q_aload_n d251_43 rfl ?_
    refine q_getR (x := 319) d251_44 (fs10_46 251 rfl) rfl (lt_w1 rfl) sh260 (rs260_10 R) (by decide) ?_
    refine q_iload d251_47 rfl ?_
    refine q_iload d251_49 rfl ?_
    refine q_iastore (a := ((2 * t) + 1)) d251_51 (lt_w1 rfl) sh319 rfl (by omega) ?_
    refine q_iload d251_52 rfl ?_
    exact q_zret d251_54 rfl (Or.inl rfl) (Nat.le_refl _) (Nat.le_refl _) (v6 h2 K1 h3 h4)
  ·
    show j_W 251 d 0 0 0 0 28 [some (.ref 260), some (.int (nI t)), some (.int 1), some (.int (nI n)), some (.int (nI ((2 * t) + 1))), some (.int (I 319 ((2 * t) + 1))), none] [.int 0] w1 (K1, D, RR R) Q
    refine q_if_ne (tgt := 35) d251_28 rfl (fun h => absurd h (by decide)) (fun _ => ?_)
    refine q_iconst (v := 1) (by decide) d251_31 ?_
    refine q_goto (tgt := 36) d251_32 rfl ?_
    refine q_istore (L' := [some (.ref 260), some (.int (nI t)), some (.int 1), some (.int (nI n)), some (.int (nI ((2 * t) + 1))), some (.int (I 319 ((2 * t) + 1))), some (.int 1)]) d251_36 (Nat.le_of_ble_eq_true rfl) rfl ?_
    refine q_iload d251_38 rfl ?_
    refine q_if_ne (tgt := 52) d251_40 rfl (fun _ => ?_) (fun h => absurd h (by decide))
    refine q_iload d251_52 rfl ?_
    exact q_zret d251_54 rfl (Or.inr rfl) (Nat.le_refl _) (Nat.le_refl _) (v7 h2 K1 h3 h4)

section HR
variable {d : Nat} {I : Nat → Nat → Int32} {D : Nat → Nat → UInt64} {R : Nat → Nat → Option Nat} {Q : j_Po} {β β2 : Bd} {X : Nat → Nat → Bool} {bv : Nat → Nat}
theorem RBN.frm' {I J : Nat → Nat → Int32} (h : RBN β I) (hf : ∀ o, o ≠ 361 → o ≠ 362 → J o = I o) : RBN β J := h.frm (fun o h1 h2 => hf o (by omega) (by omega))
theorem c251 {t w n : Nat} (hw : w < 2) (ht : t < 6) (hd : 83 ≤ d) (hV : BV β2) (hX : RcE β2 X) (hE : BuE β2 X bv) (hN2 : RBN β2 (j_u I 319 (2 * t + w) (nI n))) (hN : RBN β I)
    (h1q : (∀ v, v < 30 → bv v ≤ 2000) → ∀ K, (∀ o, o ≠ 361 → o ≠ 362 → K o = j_u I 319 (2 * t + w) (nI n) o) → RBN β2 K → Q (some (.int 1)) w1 (K, D, RR R)) (h0q : (∃ v, v < 30 ∧ 2000 < bv v) → ∀ K, (∀ o, o ≠ 361 → o ≠ 362 → K o = I o) → RBN β K → Q (some (.int 0)) w1 (K, D, RR R)) : j_Call d 251 [.ref 260, .int (nI t), .int (nI w), .int (nI n)] w1 (I, D, RR R) 0 0 Q := by
  have back : ∀ K : Nat → Nat → Int32, (∀ o, o ≠ 361 → o ≠ 362 → K o = j_u I 319 (2 * t + w) (nI n) o) → ∀ o, o ≠ 361 → o ≠ 362 → j_u K 319 (2 * t + w) (I 319 (2 * t + w)) o = I o := fun K hK o h1 h2 => by
    funext i
    by_cases e : o = 319
    · subst e
      by_cases e2 : i = 2 * t + w
      · subst e2; rw [j_u_same]
      · rw [j_u_k _ _ e2, hK 319 h1 h2, j_u_k _ _ e2]
    · rw [j_u_o _ _ _ e, hK o h1 h2, j_u_o _ _ _ e]
  have hw' : w = 0 ∨ w = 1 := by omega
  rcases hw' with rfl | rfl
  · refine s251_0 (β2 := β2) (X := X) (bv := bv) ht (by omega) hV hX hE (by omega) hN2 (fun g K k1 k2 => ?_) (fun g K k1 k2 => h1q g K k1 k2)
    have := back K k1
    exact h0q g _ this (hN.frm' this)
  · refine s251_1 (β2 := β2) (X := X) (bv := bv) ht (by omega) hV hX hE (by omega) hN2 (fun g K k1 k2 => ?_) (fun g K k1 k2 => h1q g K k1 k2)
    have := back K k1
    exact h0q g _ this (hN.frm' this)
end HR
set_option maxRecDepth 10000 in
set_option maxHeartbeats 4000000 in
theorem s107_0 {d : Nat} {I : Nat → Nat → Int32} {D : Nat → Nat → UInt64} {R : Nat → Nat → Option Nat} {Q : j_Po} {t : Nat} {b : Int32} {c : Int32} {n : Nat}  (hR : WFR R) (ht : t < 6) (hn1 : 1 ≤ n) (hn8 : n ≤ 8) (hd : 7 ≤ d)
    (v1 : (n < 1) → Q (some (.int (-2))) w1 (I, D, RR R))
    (v2 : (¬ n < 1) → (n ≤ 8) → ((¬ b < -(80000 : Int32) ∧ ¬ (80000 : Int32) < b)) → ((¬ c < -(8000 : Int32) ∧ ¬ (8000 : Int32) < c)) → ((I ((R 113 t).getD 0) 0) = 0) → Q (some (.int (-3))) w1 (I, D, RR R))
    (v3 : (¬ n < 1) → (n ≤ 8) → ((¬ b < -(80000 : Int32) ∧ ¬ (80000 : Int32) < b)) → ((¬ c < -(8000 : Int32) ∧ ¬ (8000 : Int32) < c)) → (¬ (I ((R 113 t).getD 0) 0) = 0) → ∀ i j, i ≤ 2 → j ≤ 2 → ((R 0 6).getD 0) + i ≠ ((R 113 t).getD 0) + j)
    (v4 : (¬ n < 1) → (n ≤ 8) → ((¬ b < -(80000 : Int32) ∧ ¬ (80000 : Int32) < b)) → ((¬ c < -(8000 : Int32) ∧ ¬ (8000 : Int32) < c)) → (¬ (I ((R 113 t).getD 0) 0) = 0) → I ((R 113 t).getD 0) 0 = 0 ∨ I ((R 113 t).getD 0) 0 = 1)
    (v5 : (¬ n < 1) → (n ≤ 8) → ((¬ b < -(80000 : Int32) ∧ ¬ (80000 : Int32) < b)) → ((¬ c < -(8000 : Int32) ∧ ¬ (8000 : Int32) < c)) → (¬ (I ((R 113 t).getD 0) 0) = 0) → ∀ J11 : Nat → Nat → Int32, ∀ E12 : Nat → Nat → UInt64, (∀ o, o ≠ ((R 0 6).getD 0) → J11 o = I o) → (∀ i, i < 6 → J11 ((R 0 6).getD 0) i = I ((R 113 t).getD 0) i) → (∀ o, o ≠ ((R 0 6).getD 0) + 1 → o ≠ ((R 0 6).getD 0) + 2 → E12 o = D o) → (∀ k, k < 8 → E12 (((R 0 6).getD 0) + 1) k = D (((R 113 t).getD 0) + 1) k) → (∀ k, k < 8 → E12 (((R 0 6).getD 0) + 2) k = D (((R 113 t).getD 0) + 2) k) → j_W 107 d 0 0 0 0 86 [some (.ref 0), some (.int (nI t)), some (.int 0), some (.int b), some (.int c), some (.int (nI n)), some (.int 0)] [] w1 (J11, E12, RR R) Q)
    (v6 : (¬ n < 1) → (n ≤ 8) → ((¬ b < -(80000 : Int32) ∧ ¬ (80000 : Int32) < b)) → (¬ ((¬ c < -(8000 : Int32) ∧ ¬ (8000 : Int32) < c))) → Q (some (.int (-2))) w1 (I, D, RR R))
    (v7 : (¬ n < 1) → (n ≤ 8) → (¬ ((¬ b < -(80000 : Int32) ∧ ¬ (80000 : Int32) < b))) → Q (some (.int (-2))) w1 (I, D, RR R))
    (v8 : (¬ n < 1) → (¬ n ≤ 8) → Q (some (.int (-2))) w1 (I, D, RR R)) : j_Call d 107 [.ref 0, .int (nI t), .int 0, .int b, .int c, .int (nI n)] w1 (I, D, RR R) 0 0 Q := by
  refine q_enter (L := [some (.ref 0), some (.int (nI t)), some (.int 0), some (.int b), some (.int c), some (.int (nI n)), none]) j_m107 (Nat.le_of_ble_eq_true rfl) rfl ?_
  refine q_iload_n d107_0 rfl ?_
  refine q_invS (av := [.int (nI t)]) (rest := []) (d' := 0) (mc' := 0) (ms' := 0) d107_1 (cv9_183 107 rfl) rfl rfl (by omega) (Nat.le_of_ble_eq_true rfl) (Nat.le_of_ble_eq_true rfl) (Nat.le_refl _) (Nat.le_refl _) ?_
  refine r39t (by first | omega | decide)  ?_
  show j_W 107 d 0 0 0 0 4 [some (.ref 0), some (.int (nI t)), some (.int 0), some (.int b), some (.int c), some (.int (nI n)), none] [.int 1] w1 (I, D, RR R) Q
  refine q_if_eq (tgt := 29) d107_4 rfl (fun h => absurd h (by decide)) (fun _ => ?_)
  refine q_iload_n d107_7 rfl ?_
  refine q_if_lt (tgt := 29) d107_8 rfl (fun h => absurd h (by decide)) (fun _ => ?_)
  refine q_iload_n d107_11 rfl ?_
  refine q_iconst (v := 1) (by decide) d107_12 ?_
  refine q_icmp_gt (tgt := 29) d107_13 rfl (fun h => absurd h (by decide)) (fun _ => ?_)
  refine q_iload d107_16 rfl ?_
  refine q_iconst (v := 1) (by decide) d107_18 ?_
  refine q_icmp_lt (tgt := 29) d107_19 rfl (fun h1t => ?_) (fun h1f => ?_)
  ·
    have h1tc : n < 1 := (nI_ltI (by omega) (by omega)).mp h1t
    refine q_bipush (v := (-2)) (by decide) d107_29 ?_
    exact q_iret d107_31 rfl (Nat.le_refl _) (Nat.le_refl _) (v1 h1tc)
  ·
    have h1fc : ¬ n < 1 := mt (nI_ltI (by omega) (by omega)).mpr h1f
    refine q_iload d107_22 rfl ?_
    refine q_bipush (v := 8) (by decide) d107_24 ?_
    refine q_icmp_le (tgt := 32) d107_26 rfl (fun h2t => ?_) (fun h2f => ?_)
    ·
      have h2tc : n ≤ 8 := (nI_leI (by omega) (by omega)).mp h2t
      refine q_iload_n d107_32 rfl ?_
      refine q_ldcI (v := 80000) d107_33 (kc9_193 107 rfl) ?_
      refine q_invS (av := [.int b, .int 80000]) (rest := []) (d' := 0) (mc' := 0) (ms' := 0) d107_35 (cv9_65 107 rfl) rfl rfl (by omega) (Nat.le_of_ble_eq_true rfl) (Nat.le_of_ble_eq_true rfl) (Nat.le_refl _) (Nat.le_refl _) ?_
      refine p13  (fun h3 => ?_) (fun h3 => ?_)
      ·
        show j_W 107 d 0 0 0 0 38 [some (.ref 0), some (.int (nI t)), some (.int 0), some (.int b), some (.int c), some (.int (nI n)), none] [.int 1] w1 (I, D, RR R) Q
        refine q_if_eq (tgt := 52) d107_38 rfl (fun h => absurd h (by decide)) (fun _ => ?_)
        refine q_iload d107_41 rfl ?_
        refine q_sipush (v := 8000) (by decide) d107_43 ?_
        refine q_invS (av := [.int c, .int 8000]) (rest := []) (d' := 0) (mc' := 0) (ms' := 0) d107_46 (cv9_65 107 rfl) rfl rfl (by omega) (Nat.le_of_ble_eq_true rfl) (Nat.le_of_ble_eq_true rfl) (Nat.le_refl _) (Nat.le_refl _) ?_
        refine p13  (fun h4 => ?_) (fun h4 => ?_)
        ·
          show j_W 107 d 0 0 0 0 49 [some (.ref 0), some (.int (nI t)), some (.int 0), some (.int b), some (.int c), some (.int (nI n)), none] [.int 1] w1 (I, D, RR R) Q
          refine q_if_ne (tgt := 55) d107_49 rfl (fun _ => ?_) (fun h => absurd h (by decide))
          refine q_aload_n d107_55 rfl ?_
          refine q_iload_n d107_56 rfl ?_
          refine q_iload_n d107_57 rfl ?_
          refine q_invV (o := 0) (ci := 9) (av := [.int (nI t), .int 0]) (rest := []) (d' := 0) (mc' := 0) (ms' := 0) d107_58 (cv9_194 107 rfl) rfl (by decide) rfl rfl (by omega) (Nat.le_of_ble_eq_true rfl) (Nat.le_of_ble_eq_true rfl) (lt_w1 rfl) sh0 (Nat.le_refl _) (Nat.le_refl _) ?_
          refine s108_0 (t := t) hR (by first | omega | decide) (Nat.le_refl _) (fun c5 => ?_) (fun c6 => ?_)
          ·
            show j_W 107 d 0 0 0 0 61 [some (.ref 0), some (.int (nI t)), some (.int 0), some (.int b), some (.int c), some (.int (nI n)), none] [.int 0] w1 (I, D, RR R) Q
            refine q_if_ne (tgt := 67) d107_61 rfl (fun h => absurd h (by decide)) (fun _ => ?_)
            refine q_bipush (v := (-3)) (by decide) d107_64 ?_
            exact q_iret d107_66 rfl (Nat.le_refl _) (Nat.le_refl _) (v2 h1fc h2tc h3 h4 c5)
          ·
            show j_W 107 d 0 0 0 0 61 [some (.ref 0), some (.int (nI t)), some (.int 0), some (.int b), some (.int c), some (.int (nI n)), none] [.int 1] w1 (I, D, RR R) Q
            refine q_if_ne (tgt := 67) d107_61 rfl (fun _ => ?_) (fun h => absurd h (by decide))
            refine q_aload_n d107_67 rfl ?_
            have g8 := hR.s
            refine q_getR (x := ((R 0 6).getD 0)) d107_68 (fs9_26 107 rfl) rfl (lt_w1 rfl) sh0 ((RR_d rfl).trans g8.1) (lt1000 (isG_lt g8.2)) ?_
            refine q_aload_n d107_71 rfl ?_
            refine q_getR (x := 108) d107_72 (fs9_53 107 rfl) rfl (lt_w1 rfl) sh0 (rs0_1 R) (by decide) ?_
            refine q_getR (x := 113) d107_75 (fs9_197 107 rfl) rfl (lt_w1 rfl) sh108 (rs108_4 R) (by decide) ?_
            refine q_iload_n d107_78 rfl ?_
            have g10 := hR.g t (by omega)
            refine q_aaload (c := 7) (a := t) (x := ((R 113 t).getD 0)) d107_79 (lt_w1 rfl) sh113 (by decide) rfl (by omega) ((RR_d rfl).trans g10.1) (lt1000 (isG_lt g10.2)) ?_
            refine q_invV (o := ((R 0 6).getD 0)) (ci := 3) (av := [.ref ((R 113 t).getD 0)]) (rest := []) (d' := 1) (mc' := 0) (ms' := 0) d107_80 (cv9_201 107 rfl) rfl (by decide) rfl rfl (by omega) (Nat.le_of_ble_eq_true rfl) (Nat.le_of_ble_eq_true rfl) (isG_lt g8.2) (isG_sh g8.2) (Nat.le_refl _) (Nat.le_refl _) ?_
            refine c109 g8.2 g10.2 (Nat.le_refl _) (v3 h1fc h2tc h3 h4 c6) (v4 h1fc h2tc h3 h4 c6) (fun J11 E12 h13 h14 h15 h16 h17 => ?_)
            show j_W 107 d 0 0 0 0 83 [some (.ref 0), some (.int (nI t)), some (.int 0), some (.int b), some (.int c), some (.int (nI n)), none] [] w1 (J11, E12, RR R) Q
            refine q_iconst (v := 0) (by decide) d107_83 ?_
            refine q_istore (L' := [some (.ref 0), some (.int (nI t)), some (.int 0), some (.int b), some (.int c), some (.int (nI n)), some (.int 0)]) d107_84 (Nat.le_of_ble_eq_true rfl) rfl ?_
            exact r_sub (L' := [some (.ref 0), some (.int (nI t)), some (.int 0), some (.int b), some (.int c), some (.int (nI n)), some (.int 0)]) ⟨rfl, rfl, rfl, rfl, rfl, rfl, rfl, trivial⟩ (v5 h1fc h2tc h3 h4 c6 J11 E12 h13 h14 h15 h16 h17)
        ·
          show j_W 107 d 0 0 0 0 49 [some (.ref 0), some (.int (nI t)), some (.int 0), some (.int b), some (.int c), some (.int (nI n)), none] [.int 0] w1 (I, D, RR R) Q
          refine q_if_ne (tgt := 55) d107_49 rfl (fun h => absurd h (by decide)) (fun _ => ?_)
          refine q_bipush (v := (-2)) (by decide) d107_52 ?_
          exact q_iret d107_54 rfl (Nat.le_refl _) (Nat.le_refl _) (v6 h1fc h2tc h3 h4)
      ·
        show j_W 107 d 0 0 0 0 38 [some (.ref 0), some (.int (nI t)), some (.int 0), some (.int b), some (.int c), some (.int (nI n)), none] [.int 0] w1 (I, D, RR R) Q
        refine q_if_eq (tgt := 52) d107_38 rfl (fun _ => ?_) (fun h => absurd h (by decide))
        refine q_bipush (v := (-2)) (by decide) d107_52 ?_
        exact q_iret d107_54 rfl (Nat.le_refl _) (Nat.le_refl _) (v7 h1fc h2tc h3)
    ·
      have h2fc : ¬ n ≤ 8 := mt (nI_leI (by omega) (by omega)).mpr h2f
      refine q_bipush (v := (-2)) (by decide) d107_29 ?_
      exact q_iret d107_31 rfl (Nat.le_refl _) (Nat.le_refl _) (v8 h1fc h2fc)

set_option maxRecDepth 10000 in
set_option maxHeartbeats 4000000 in
theorem s107h_0 {d : Nat} {I : Nat → Nat → Int32} {D : Nat → Nat → UInt64} {R : Nat → Nat → Option Nat} {Q : j_Po} {t : Nat} {b : Int32} {c : Int32} {n : Nat} {k : Nat} {β β2 : Bd} (hR : WFR R) (ht : t < 6) (hn1 : 1 ≤ n) (hn8 : n ≤ 8) (hk : k ≤ n) (hd : 7 ≤ d)
    (v1 : (n ≤ k) → t < 6)
    (v2 : (n ≤ k) → 5 ≤ d - 1)
    (v3 : (n ≤ k) → BV β)
    (v4 : (n ≤ k) → CB β (j_u I ((R 0 6).getD 0) 4 (nI n)) D R)
    (v5 : (n ≤ k) → NB (j_u I ((R 0 6).getD 0) 4 (nI n)))
    (v6 : (n ≤ k) → BV β2)
    (v7 : (n ≤ k) → CB β2 (j_u I ((R 0 6).getD 0) 4 (nI n)) D (j_u R 113 t (some (gs R))))
    (v8 : (n ≤ k) → ∀ J4 : Nat → Nat → Int32, (∀ o', (o' < 205 ∨ 211 ≤ o') → J4 o' = (j_u I ((R 0 6).getD 0) 4 (nI n)) o') → (NM β2 J4) → (OrdB β2 J4) → (∀ v, v < 30 → bu J4 v ≤ 2000) → (j_u (j_u R 113 t (some (gs R))) 0 6 (some (go R t))) 113 t = some (((j_u (j_u R 113 t (some (gs R))) 0 6 (some (go R t))) 113 t).getD 0) ∧ isG (((j_u (j_u R 113 t (some (gs R))) 0 6 (some (go R t))) 113 t).getD 0))
    (v9 : (n ≤ k) → ∀ J4 : Nat → Nat → Int32, (∀ o', (o' < 205 ∨ 211 ≤ o') → J4 o' = (j_u I ((R 0 6).getD 0) 4 (nI n)) o') → (NM β2 J4) → (OrdB β2 J4) → (∀ v, v < 30 → bu J4 v ≤ 2000) → GR β2 t J4 D (((j_u (j_u R 113 t (some (gs R))) 0 6 (some (go R t))) 113 t).getD 0))
    (v10 : (n ≤ k) → ∀ J4 : Nat → Nat → Int32, (∀ o', (o' < 205 ∨ 211 ≤ o') → J4 o' = (j_u I ((R 0 6).getD 0) 4 (nI n)) o') → (NM β2 J4) → (OrdB β2 J4) → (∀ v, v < 30 → bu J4 v ≤ 2000) → bL β2 t = true)
    (v11 : (n ≤ k) → ∀ J4 : Nat → Nat → Int32, (∀ o', (o' < 205 ∨ 211 ≤ o') → J4 o' = (j_u I ((R 0 6).getD 0) 4 (nI n)) o') → (NM β2 J4) → (OrdB β2 J4) → (∀ v, v < 30 → bu J4 v ≤ 2000) → Q (some (.int (nI (cas β2 t)))) w1 (J4, D, RR (j_u (j_u R 113 t (some (gs R))) 0 6 (some (go R t)))))
    (v12 : (n ≤ k) → ∀ J4 : Nat → Nat → Int32, (∀ o', (o' < 205 ∨ 211 ≤ o') → J4 o' = (j_u I ((R 0 6).getD 0) 4 (nI n)) o') → (NM β J4) → (OrdB β J4) → (∃ J', NM β2 J' ∧ ∃ v, v < 30 ∧ 2000 < bu J' v) → Q (some (.int (-4))) w1 (J4, D, RR R))
    (v13 : (¬ n ≤ k) → vf_n64 (FP.ddiv (FP.i2d (b + ((nI k) * c))) 4620693217682128896))
    (v14 : (¬ n ≤ k) → ((nI k) < 0) → j_W 107 d 0 0 0 0 86 [some (.ref 0), some (.int (nI t)), some (.int 0), some (.int b), some (.int c), some (.int (nI n)), some (.int (nI (k + 1)))] [] w1 (I, D, RR R) Q)
    (v15 : (¬ n ≤ k) → (¬ (nI k) < 0) → (k < 8) → j_W 107 d 0 0 0 0 86 [some (.ref 0), some (.int (nI t)), some (.int 0), some (.int b), some (.int c), some (.int (nI n)), some (.int (nI (k + 1)))] [] w1 (I, (j_u D (((R 0 6).getD 0) + 1) k (FP.ddiv (FP.i2d (b + ((nI k) * c))) 4620693217682128896)), RR R) Q)
    (v16 : (¬ n ≤ k) → (¬ (nI k) < 0) → (¬ k < 8) → j_W 107 d 0 0 0 0 86 [some (.ref 0), some (.int (nI t)), some (.int 0), some (.int b), some (.int c), some (.int (nI n)), some (.int (nI (k + 1)))] [] w1 (I, D, RR R) Q) : j_W 107 d 0 0 0 0 86 [some (.ref 0), some (.int (nI t)), some (.int 0), some (.int b), some (.int c), some (.int (nI n)), some (.int (nI k))] [] w1 (I, D, RR R) Q := by
  refine q_iload d107_86 rfl ?_
  refine q_iload d107_88 rfl ?_
  refine q_icmp_ge (tgt := 121) d107_90 rfl (fun h1t => ?_) (fun h1f => ?_)
  ·
    have h1tc : n ≤ k := (nI_leI (by omega) (by omega)).mp h1t
    refine q_aload_n d107_121 rfl ?_
    have g3 := hR.s
    refine q_getR (x := ((R 0 6).getD 0)) d107_122 (fs9_26 107 rfl) rfl (lt_w1 rfl) sh0 ((RR_d rfl).trans g3.1) (lt1000 (isG_lt g3.2)) ?_
    refine q_iload_n d107_125 rfl ?_
    refine q_iload d107_126 rfl ?_
    refine q_invV (o := ((R 0 6).getD 0)) (ci := 3) (av := [.int 0, .int (nI n)]) (rest := []) (d' := 0) (mc' := 0) (ms' := 0) d107_128 (cv9_209 107 rfl) rfl (by decide) rfl rfl (by omega) (Nat.le_of_ble_eq_true rfl) (Nat.le_of_ble_eq_true rfl) (isG_lt g3.2) (isG_sh g3.2) (Nat.le_refl _) (Nat.le_refl _) ?_
    refine s111_0 (g := ((R 0 6).getD 0)) (n := n) g3.2 (Nat.le_refl _) ?_
    show j_W 107 d 0 0 0 0 131 [some (.ref 0), some (.int (nI t)), some (.int 0), some (.int b), some (.int c), some (.int (nI n)), some (.int (nI k))] [] w1 ((j_u I ((R 0 6).getD 0) 4 (nI n)), D, RR R) Q
    refine q_aload_n d107_131 rfl ?_
    refine q_iload_n d107_132 rfl ?_
    refine q_invV (o := 0) (ci := 9) (av := [.int (nI t)]) (rest := []) (d' := (d - 1)) (mc' := 0) (ms' := 0) d107_133 (cv9_190 107 rfl) rfl (by decide) rfl rfl (by omega) (Nat.le_of_ble_eq_true rfl) (Nat.le_of_ble_eq_true rfl) (lt_w1 rfl) sh0 (Nat.le_refl _) (Nat.le_refl _) ?_
    refine c106 (β := β) (β2 := β2) hR (v1 h1tc) (v2 h1tc) (v3 h1tc) (v4 h1tc) (v5 h1tc) (v6 h1tc) (v7 h1tc) (fun J4 h5 h6 h7 h8 => ?_) (fun J4 h5 h6 h7 h8 => ?_)
    ·
      show j_W 107 d 0 0 0 0 136 [some (.ref 0), some (.int (nI t)), some (.int 0), some (.int b), some (.int c), some (.int (nI n)), some (.int (nI k))] [.int 1] w1 (J4, D, RR (j_u (j_u R 113 t (some (gs R))) 0 6 (some (go R t)))) Q
      refine q_if_eq (tgt := 154) d107_136 rfl (fun h => absurd h (by decide)) (fun _ => ?_)
      refine q_aload_n d107_139 rfl ?_
      refine q_getR (x := 108) d107_140 (fs9_53 107 rfl) rfl (lt_w1 rfl) sh0 (rs0_1 (j_u (j_u R 113 t (some (gs R))) 0 6 (some (go R t)))) (by decide) ?_
      refine q_getR (x := 113) d107_143 (fs9_197 107 rfl) rfl (lt_w1 rfl) sh108 (rs108_4 (j_u (j_u R 113 t (some (gs R))) 0 6 (some (go R t)))) (by decide) ?_
      refine q_iload_n d107_146 rfl ?_
      have g10 := (v8 h1tc J4 h5 h6 h7 h8)
      refine q_aaload (c := 7) (a := t) (x := (((j_u (j_u R 113 t (some (gs R))) 0 6 (some (go R t))) 113 t).getD 0)) d107_147 (lt_w1 rfl) sh113 (by decide) rfl (by omega) ((RR_d rfl).trans g10.1) (lt1000 (isG_lt g10.2)) ?_
      refine q_invV (o := (((j_u (j_u R 113 t (some (gs R))) 0 6 (some (go R t))) 113 t).getD 0)) (ci := 3) (av := []) (rest := []) (d' := 1) (mc' := 0) (ms' := 0) d107_148 (cv9_213 107 rfl) rfl (by decide) rfl rfl (by omega) (Nat.le_of_ble_eq_true rfl) (Nat.le_of_ble_eq_true rfl) (isG_lt g10.2) (isG_sh g10.2) (Nat.le_refl _) (Nat.le_refl _) ?_
      refine c24g (β := β2) (t := t) g10.2 (Nat.le_refl _) (v6 h1tc) (v1 h1tc) (v9 h1tc J4 h5 h6 h7 h8) (v10 h1tc J4 h5 h6 h7 h8) ?_
      show j_W 107 d 0 0 0 0 151 [some (.ref 0), some (.int (nI t)), some (.int 0), some (.int b), some (.int c), some (.int (nI n)), some (.int (nI k))] [.int (nI (cas β2 t))] w1 (J4, D, RR (j_u (j_u R 113 t (some (gs R))) 0 6 (some (go R t)))) Q
      refine q_goto (tgt := 156) d107_151 rfl ?_
      exact q_iret d107_156 rfl (Nat.le_refl _) (Nat.le_refl _) (v11 h1tc J4 h5 h6 h7 h8)
    ·
      show j_W 107 d 0 0 0 0 136 [some (.ref 0), some (.int (nI t)), some (.int 0), some (.int b), some (.int c), some (.int (nI n)), some (.int (nI k))] [.int 0] w1 (J4, D, RR R) Q
      refine q_if_eq (tgt := 154) d107_136 rfl (fun _ => ?_) (fun h => absurd h (by decide))
      refine q_bipush (v := (-4)) (by decide) d107_154 ?_
      exact q_iret d107_156 rfl (Nat.le_refl _) (Nat.le_refl _) (v12 h1tc J4 h5 h6 h7 h8)
  ·
    have h1fc : ¬ n ≤ k := mt (nI_leI (by omega) (by omega)).mpr h1f
    refine q_aload_n d107_93 rfl ?_
    have g12 := hR.s
    refine q_getR (x := ((R 0 6).getD 0)) d107_94 (fs9_26 107 rfl) rfl (lt_w1 rfl) sh0 ((RR_d rfl).trans g12.1) (lt1000 (isG_lt g12.2)) ?_
    refine q_iload_n d107_97 rfl ?_
    refine q_iload d107_98 rfl ?_
    refine q_iload_n d107_100 rfl ?_
    refine q_iload d107_101 rfl ?_
    refine q_iload d107_103 rfl ?_
    refine q_imul d107_105 ?_
    refine q_iadd d107_106 ?_
    refine q_i2d d107_107 ?_
    refine q_ldcD (v := 4620693217682128896) d107_108 (kc9_80 107 rfl) ?_
    refine q_ddiv (v13 h1fc) d107_111 ?_
    refine q_invV (o := ((R 0 6).getD 0)) (ci := 3) (av := [.int 0, .int (nI k), .double (FP.ddiv (FP.i2d (b + ((nI k) * c))) 4620693217682128896)]) (rest := []) (d' := 0) (mc' := 0) (ms' := 0) d107_112 (cv9_205 107 rfl) rfl (by decide) rfl rfl (by omega) (Nat.le_of_ble_eq_true rfl) (Nat.le_of_ble_eq_true rfl) (isG_lt g12.2) (isG_sh g12.2) (Nat.le_refl _) (Nat.le_refl _) ?_
    refine s110_0 (g := ((R 0 6).getD 0)) (k := k) g12.2 (by first | omega | decide) (Nat.le_refl _) (fun c13 => ?_) (fun c14 c15 => ?_) (fun c16 c17 => ?_)
    ·
      show j_W 107 d 0 0 0 0 115 [some (.ref 0), some (.int (nI t)), some (.int 0), some (.int b), some (.int c), some (.int (nI n)), some (.int (nI k))] [] w1 (I, D, RR R) Q
      refine q_iinc (L' := [some (.ref 0), some (.int (nI t)), some (.int 0), some (.int b), some (.int c), some (.int (nI n)), some (.int (nI (k + 1)))]) (v := (nI (k + 1))) d107_115 rfl (nI_inc _) rfl ?_
      refine q_goto (tgt := 86) d107_118 rfl ?_
      exact r_sub (L' := [some (.ref 0), some (.int (nI t)), some (.int 0), some (.int b), some (.int c), some (.int (nI n)), some (.int (nI (k + 1)))]) ⟨rfl, rfl, rfl, rfl, rfl, rfl, rfl, trivial⟩ (v14 h1fc c13)
    ·
      show j_W 107 d 0 0 0 0 115 [some (.ref 0), some (.int (nI t)), some (.int 0), some (.int b), some (.int c), some (.int (nI n)), some (.int (nI k))] [] w1 (I, (j_u D (((R 0 6).getD 0) + 1) k (FP.ddiv (FP.i2d (b + ((nI k) * c))) 4620693217682128896)), RR R) Q
      refine q_iinc (L' := [some (.ref 0), some (.int (nI t)), some (.int 0), some (.int b), some (.int c), some (.int (nI n)), some (.int (nI (k + 1)))]) (v := (nI (k + 1))) d107_115 rfl (nI_inc _) rfl ?_
      refine q_goto (tgt := 86) d107_118 rfl ?_
      exact r_sub (L' := [some (.ref 0), some (.int (nI t)), some (.int 0), some (.int b), some (.int c), some (.int (nI n)), some (.int (nI (k + 1)))]) ⟨rfl, rfl, rfl, rfl, rfl, rfl, rfl, trivial⟩ (v15 h1fc c14 c15)
    ·
      show j_W 107 d 0 0 0 0 115 [some (.ref 0), some (.int (nI t)), some (.int 0), some (.int b), some (.int c), some (.int (nI n)), some (.int (nI k))] [] w1 (I, D, RR R) Q
      refine q_iinc (L' := [some (.ref 0), some (.int (nI t)), some (.int 0), some (.int b), some (.int c), some (.int (nI n)), some (.int (nI (k + 1)))]) (v := (nI (k + 1))) d107_115 rfl (nI_inc _) rfl ?_
      refine q_goto (tgt := 86) d107_118 rfl ?_
      exact r_sub (L' := [some (.ref 0), some (.int (nI t)), some (.int 0), some (.int b), some (.int c), some (.int (nI n)), some (.int (nI (k + 1)))]) ⟨rfl, rfl, rfl, rfl, rfl, rfl, rfl, trivial⟩ (v16 h1fc c16 c17)

set_option maxRecDepth 10000 in
set_option maxHeartbeats 4000000 in
theorem s250_0 {d : Nat} {I : Nat → Nat → Int32} {D : Nat → Nat → UInt64} {R : Nat → Nat → Option Nat} {Q : j_Po} {t : Nat} {b : Int32} {c : Int32} {n : Nat} {β β2 : Bd} {X : Nat → Nat → Bool} {bv : Nat → Nat} (ht : t < 6) (hn1 : 1 ≤ n) (hn8 : n ≤ 8) (hd : 84 ≤ d)
    (v1 : ((¬ (0 : Int32) < (0 : Int32) ∧ ¬ (1 : Int32) < (0 : Int32))) → ((¬ b < (-80000 : Int32) ∧ ¬ (80000 : Int32) < b)) → ((¬ c < (-8000 : Int32) ∧ ¬ (8000 : Int32) < c)) → ((¬ (nI n) < (1 : Int32) ∧ ¬ (8 : Int32) < (nI n))) → ((I 315 t) = 0) → Q (some (.int (-3))) w1 (I, D, RR R))
    (v2 : ((¬ (0 : Int32) < (0 : Int32) ∧ ¬ (1 : Int32) < (0 : Int32))) → ((¬ b < (-80000 : Int32) ∧ ¬ (80000 : Int32) < b)) → ((¬ c < (-8000 : Int32) ∧ ¬ (8000 : Int32) < c)) → ((¬ (nI n) < (1 : Int32) ∧ ¬ (8 : Int32) < (nI n))) → (¬ (I 315 t) = 0) → t < 6)
    (v3 : ((¬ (0 : Int32) < (0 : Int32) ∧ ¬ (1 : Int32) < (0 : Int32))) → ((¬ b < (-80000 : Int32) ∧ ¬ (80000 : Int32) < b)) → ((¬ c < (-8000 : Int32) ∧ ¬ (8000 : Int32) < c)) → ((¬ (nI n) < (1 : Int32) ∧ ¬ (8 : Int32) < (nI n))) → (¬ (I 315 t) = 0) → 83 ≤ d - 1)
    (v4 : ((¬ (0 : Int32) < (0 : Int32) ∧ ¬ (1 : Int32) < (0 : Int32))) → ((¬ b < (-80000 : Int32) ∧ ¬ (80000 : Int32) < b)) → ((¬ c < (-8000 : Int32) ∧ ¬ (8000 : Int32) < c)) → ((¬ (nI n) < (1 : Int32) ∧ ¬ (8 : Int32) < (nI n))) → (¬ (I 315 t) = 0) → BV β2)
    (v5 : ((¬ (0 : Int32) < (0 : Int32) ∧ ¬ (1 : Int32) < (0 : Int32))) → ((¬ b < (-80000 : Int32) ∧ ¬ (80000 : Int32) < b)) → ((¬ c < (-8000 : Int32) ∧ ¬ (8000 : Int32) < c)) → ((¬ (nI n) < (1 : Int32) ∧ ¬ (8 : Int32) < (nI n))) → (¬ (I 315 t) = 0) → RcE β2 X)
    (v6 : ((¬ (0 : Int32) < (0 : Int32) ∧ ¬ (1 : Int32) < (0 : Int32))) → ((¬ b < (-80000 : Int32) ∧ ¬ (80000 : Int32) < b)) → ((¬ c < (-8000 : Int32) ∧ ¬ (8000 : Int32) < c)) → ((¬ (nI n) < (1 : Int32) ∧ ¬ (8 : Int32) < (nI n))) → (¬ (I 315 t) = 0) → BuE β2 X bv)
    (v7 : ((¬ (0 : Int32) < (0 : Int32) ∧ ¬ (1 : Int32) < (0 : Int32))) → ((¬ b < (-80000 : Int32) ∧ ¬ (80000 : Int32) < b)) → ((¬ c < (-8000 : Int32) ∧ ¬ (8000 : Int32) < c)) → ((¬ (nI n) < (1 : Int32) ∧ ¬ (8 : Int32) < (nI n))) → (¬ (I 315 t) = 0) → RBN β2 (j_u I 319 (2 * t + 0) (nI n)))
    (v8 : ((¬ (0 : Int32) < (0 : Int32) ∧ ¬ (1 : Int32) < (0 : Int32))) → ((¬ b < (-80000 : Int32) ∧ ¬ (80000 : Int32) < b)) → ((¬ c < (-8000 : Int32) ∧ ¬ (8000 : Int32) < c)) → ((¬ (nI n) < (1 : Int32) ∧ ¬ (8 : Int32) < (nI n))) → (¬ (I 315 t) = 0) → RBN β I)
    (v9 : ((¬ (0 : Int32) < (0 : Int32) ∧ ¬ (1 : Int32) < (0 : Int32))) → ((¬ b < (-80000 : Int32) ∧ ¬ (80000 : Int32) < b)) → ((¬ c < (-8000 : Int32) ∧ ¬ (8000 : Int32) < c)) → ((¬ (nI n) < (1 : Int32) ∧ ¬ (8 : Int32) < (nI n))) → (¬ (I 315 t) = 0) → (∀ v, v < 30 → bv v ≤ 2000) → ∀ K6 : Nat → Nat → Int32, (∀ o, o ≠ 361 → o ≠ 362 → K6 o = (j_u I 319 (2 * t + 0) (nI n)) o) → (RBN β2 K6) → j_W 250 d 0 0 0 0 101 [some (.ref 260), some (.int (nI t)), some (.int 0), some (.int b), some (.int c), some (.int (nI n)), some (.int 0)] [] w1 (K6, D, RR R) Q)
    (v10 : ((¬ (0 : Int32) < (0 : Int32) ∧ ¬ (1 : Int32) < (0 : Int32))) → ((¬ b < (-80000 : Int32) ∧ ¬ (80000 : Int32) < b)) → ((¬ c < (-8000 : Int32) ∧ ¬ (8000 : Int32) < c)) → ((¬ (nI n) < (1 : Int32) ∧ ¬ (8 : Int32) < (nI n))) → (¬ (I 315 t) = 0) → (∃ v, v < 30 ∧ 2000 < bv v) → ∀ K6 : Nat → Nat → Int32, (∀ o, o ≠ 361 → o ≠ 362 → K6 o = I o) → (RBN β K6) → Q (some (.int (-4))) w1 (K6, D, RR R))
    (v11 : ((¬ (0 : Int32) < (0 : Int32) ∧ ¬ (1 : Int32) < (0 : Int32))) → ((¬ b < (-80000 : Int32) ∧ ¬ (80000 : Int32) < b)) → ((¬ c < (-8000 : Int32) ∧ ¬ (8000 : Int32) < c)) → (¬ ((¬ (nI n) < (1 : Int32) ∧ ¬ (8 : Int32) < (nI n)))) → Q (some (.int (-2))) w1 (I, D, RR R))
    (v12 : ((¬ (0 : Int32) < (0 : Int32) ∧ ¬ (1 : Int32) < (0 : Int32))) → ((¬ b < (-80000 : Int32) ∧ ¬ (80000 : Int32) < b)) → (¬ ((¬ c < (-8000 : Int32) ∧ ¬ (8000 : Int32) < c))) → Q (some (.int (-2))) w1 (I, D, RR R))
    (v13 : ((¬ (0 : Int32) < (0 : Int32) ∧ ¬ (1 : Int32) < (0 : Int32))) → (¬ ((¬ b < (-80000 : Int32) ∧ ¬ (80000 : Int32) < b))) → Q (some (.int (-2))) w1 (I, D, RR R))
    (v14 : (¬ ((¬ (0 : Int32) < (0 : Int32) ∧ ¬ (1 : Int32) < (0 : Int32)))) → Q (some (.int (-2))) w1 (I, D, RR R)) : j_Call d 250 [.ref 260, .int (nI t), .int 0, .int b, .int c, .int (nI n)] w1 (I, D, RR R) 0 0 Q := by
  refine q_enter (L := [some (.ref 260), some (.int (nI t)), some (.int 0), some (.int b), some (.int c), some (.int (nI n)), none]) j_m250 (Nat.le_of_ble_eq_true rfl) rfl ?_
  refine q_iload_n d250_0 rfl ?_
  refine q_invS (av := [.int (nI t)]) (rest := []) (d' := 1) (mc' := 0) (ms' := 0) d250_1 (cv10_480 250 rfl) rfl rfl (by omega) (Nat.le_of_ble_eq_true rfl) (Nat.le_of_ble_eq_true rfl) (Nat.le_refl _) (Nat.le_refl _) ?_
  refine r249t (by first | omega | decide) (Nat.le_refl _)  ?_
  show j_W 250 d 0 0 0 0 4 [some (.ref 260), some (.int (nI t)), some (.int 0), some (.int b), some (.int c), some (.int (nI n)), none] [.int 1] w1 (I, D, RR R) Q
  refine q_if_eq (tgt := 54) d250_4 rfl (fun h => absurd h (by decide)) (fun _ => ?_)
  refine q_iload_n d250_7 rfl ?_
  refine q_iconst (v := 0) (by decide) d250_8 ?_
  refine q_iconst (v := 1) (by decide) d250_9 ?_
  refine q_invS (av := [.int 0, .int 0, .int 1]) (rest := []) (d' := 0) (mc' := 0) (ms' := 0) d250_10 (cv10_183 250 rfl) rfl rfl (by omega) (Nat.le_of_ble_eq_true rfl) (Nat.le_of_ble_eq_true rfl) (Nat.le_refl _) (Nat.le_refl _) ?_
  refine p168  (fun h1 => ?_) (fun h1 => ?_)
  ·
    show j_W 250 d 0 0 0 0 13 [some (.ref 260), some (.int (nI t)), some (.int 0), some (.int b), some (.int c), some (.int (nI n)), none] [.int 1] w1 (I, D, RR R) Q
    refine q_if_eq (tgt := 54) d250_13 rfl (fun h => absurd h (by decide)) (fun _ => ?_)
    refine q_iload_n d250_16 rfl ?_
    refine q_ldcwI (v := (-80000)) d250_17 (kc10_483 250 rfl) ?_
    refine q_ldcwI (v := 80000) d250_20 (kc10_484 250 rfl) ?_
    refine q_invS (av := [.int b, .int (-80000), .int 80000]) (rest := []) (d' := 0) (mc' := 0) (ms' := 0) d250_23 (cv10_183 250 rfl) rfl rfl (by omega) (Nat.le_of_ble_eq_true rfl) (Nat.le_of_ble_eq_true rfl) (Nat.le_refl _) (Nat.le_refl _) ?_
    refine p168  (fun h2 => ?_) (fun h2 => ?_)
    ·
      show j_W 250 d 0 0 0 0 26 [some (.ref 260), some (.int (nI t)), some (.int 0), some (.int b), some (.int c), some (.int (nI n)), none] [.int 1] w1 (I, D, RR R) Q
      refine q_if_eq (tgt := 54) d250_26 rfl (fun h => absurd h (by decide)) (fun _ => ?_)
      refine q_iload d250_29 rfl ?_
      refine q_sipush (v := (-8000)) (by decide) d250_31 ?_
      refine q_sipush (v := 8000) (by decide) d250_34 ?_
      refine q_invS (av := [.int c, .int (-8000), .int 8000]) (rest := []) (d' := 0) (mc' := 0) (ms' := 0) d250_37 (cv10_183 250 rfl) rfl rfl (by omega) (Nat.le_of_ble_eq_true rfl) (Nat.le_of_ble_eq_true rfl) (Nat.le_refl _) (Nat.le_refl _) ?_
      refine p168  (fun h3 => ?_) (fun h3 => ?_)
      ·
        show j_W 250 d 0 0 0 0 40 [some (.ref 260), some (.int (nI t)), some (.int 0), some (.int b), some (.int c), some (.int (nI n)), none] [.int 1] w1 (I, D, RR R) Q
        refine q_if_eq (tgt := 54) d250_40 rfl (fun h => absurd h (by decide)) (fun _ => ?_)
        refine q_iload d250_43 rfl ?_
        refine q_iconst (v := 1) (by decide) d250_45 ?_
        refine q_bipush (v := 8) (by decide) d250_46 ?_
        refine q_invS (av := [.int (nI n), .int 1, .int 8]) (rest := []) (d' := 0) (mc' := 0) (ms' := 0) d250_48 (cv10_183 250 rfl) rfl rfl (by omega) (Nat.le_of_ble_eq_true rfl) (Nat.le_of_ble_eq_true rfl) (Nat.le_refl _) (Nat.le_refl _) ?_
        refine p168  (fun h4 => ?_) (fun h4 => ?_)
        ·
          show j_W 250 d 0 0 0 0 51 [some (.ref 260), some (.int (nI t)), some (.int 0), some (.int b), some (.int c), some (.int (nI n)), none] [.int 1] w1 (I, D, RR R) Q
          refine q_if_ne (tgt := 57) d250_51 rfl (fun _ => ?_) (fun h => absurd h (by decide))
          refine q_aload_n d250_57 rfl ?_
          refine q_getR (x := 315) d250_58 (fs10_34 250 rfl) rfl (lt_w1 rfl) sh260 (rs260_6 R) (by decide) ?_
          refine q_iload_n d250_61 rfl ?_
          refine q_zaload (a := t) d250_62 (lt_w1 rfl) sh315 rfl (by omega) ?_
          refine q_if_eq (tgt := 81) d250_63 rfl (fun h5t => ?_) (fun h5f => ?_)
          ·
            refine q_bipush (v := (-3)) (by decide) d250_81 ?_
            exact q_iret d250_83 rfl (Nat.le_refl _) (Nat.le_refl _) (v1 h1 h2 h3 h4 h5t)
          ·
            refine q_iload_n d250_66 rfl ?_
            refine q_iconst (v := 1) (by decide) d250_67 ?_
            refine q_icmp_ne (tgt := 84) d250_68 rfl (fun _ => ?_) (fun h => absurd h (by decide))
            refine q_aload_n d250_84 rfl ?_
            refine q_iload_n d250_85 rfl ?_
            refine q_iload_n d250_86 rfl ?_
            refine q_iload d250_87 rfl ?_
            refine q_invV (o := 260) (ci := 10) (av := [.int (nI t), .int 0, .int (nI n)]) (rest := []) (d' := (d - 1)) (mc' := 0) (ms' := 0) d250_89 (cv10_485 250 rfl) rfl (by decide) rfl rfl (by omega) (Nat.le_of_ble_eq_true rfl) (Nat.le_of_ble_eq_true rfl) (lt_w1 rfl) sh260 (Nat.le_refl _) (Nat.le_refl _) ?_
            refine c251 (β := β) (β2 := β2) (w := 0) (X := X) (bv := bv) (by decide) (v2 h1 h2 h3 h4 h5f) (v3 h1 h2 h3 h4 h5f) (v4 h1 h2 h3 h4 h5f) (v5 h1 h2 h3 h4 h5f) (v6 h1 h2 h3 h4 h5f) (v7 h1 h2 h3 h4 h5f) (v8 h1 h2 h3 h4 h5f) (fun h7 K6 h8 h9 => ?_) (fun h7 K6 h8 h9 => ?_)
            ·
              show j_W 250 d 0 0 0 0 92 [some (.ref 260), some (.int (nI t)), some (.int 0), some (.int b), some (.int c), some (.int (nI n)), none] [.int 1] w1 (K6, D, RR R) Q
              refine q_if_ne (tgt := 98) d250_92 rfl (fun _ => ?_) (fun h => absurd h (by decide))
              refine q_iconst (v := 0) (by decide) d250_98 ?_
              refine q_istore (L' := [some (.ref 260), some (.int (nI t)), some (.int 0), some (.int b), some (.int c), some (.int (nI n)), some (.int 0)]) d250_99 (Nat.le_of_ble_eq_true rfl) rfl ?_
              exact r_sub (L' := [some (.ref 260), some (.int (nI t)), some (.int 0), some (.int b), some (.int c), some (.int (nI n)), some (.int 0)]) ⟨rfl, rfl, rfl, rfl, rfl, rfl, rfl, trivial⟩ (v9 h1 h2 h3 h4 h5f h7 K6 h8 h9)
            ·
              show j_W 250 d 0 0 0 0 92 [some (.ref 260), some (.int (nI t)), some (.int 0), some (.int b), some (.int c), some (.int (nI n)), none] [.int 0] w1 (K6, D, RR R) Q
              refine q_if_ne (tgt := 98) d250_92 rfl (fun h => absurd h (by decide)) (fun _ => ?_)
              refine q_bipush (v := (-4)) (by decide) d250_95 ?_
              exact q_iret d250_97 rfl (Nat.le_refl _) (Nat.le_refl _) (v10 h1 h2 h3 h4 h5f h7 K6 h8 h9)
        ·
          show j_W 250 d 0 0 0 0 51 [some (.ref 260), some (.int (nI t)), some (.int 0), some (.int b), some (.int c), some (.int (nI n)), none] [.int 0] w1 (I, D, RR R) Q
          refine q_if_ne (tgt := 57) d250_51 rfl (fun h => absurd h (by decide)) (fun _ => ?_)
          refine q_bipush (v := (-2)) (by decide) d250_54 ?_
          exact q_iret d250_56 rfl (Nat.le_refl _) (Nat.le_refl _) (v11 h1 h2 h3 h4)
      ·
        show j_W 250 d 0 0 0 0 40 [some (.ref 260), some (.int (nI t)), some (.int 0), some (.int b), some (.int c), some (.int (nI n)), none] [.int 0] w1 (I, D, RR R) Q
        refine q_if_eq (tgt := 54) d250_40 rfl (fun _ => ?_) (fun h => absurd h (by decide))
        refine q_bipush (v := (-2)) (by decide) d250_54 ?_
        exact q_iret d250_56 rfl (Nat.le_refl _) (Nat.le_refl _) (v12 h1 h2 h3)
    ·
      show j_W 250 d 0 0 0 0 26 [some (.ref 260), some (.int (nI t)), some (.int 0), some (.int b), some (.int c), some (.int (nI n)), none] [.int 0] w1 (I, D, RR R) Q
      refine q_if_eq (tgt := 54) d250_26 rfl (fun _ => ?_) (fun h => absurd h (by decide))
      refine q_bipush (v := (-2)) (by decide) d250_54 ?_
      exact q_iret d250_56 rfl (Nat.le_refl _) (Nat.le_refl _) (v13 h1 h2)
  ·
    show j_W 250 d 0 0 0 0 13 [some (.ref 260), some (.int (nI t)), some (.int 0), some (.int b), some (.int c), some (.int (nI n)), none] [.int 0] w1 (I, D, RR R) Q
    refine q_if_eq (tgt := 54) d250_13 rfl (fun _ => ?_) (fun h => absurd h (by decide))
    refine q_bipush (v := (-2)) (by decide) d250_54 ?_
    exact q_iret d250_56 rfl (Nat.le_refl _) (Nat.le_refl _) (v14 h1)

set_option maxRecDepth 10000 in
set_option maxHeartbeats 4000000 in
theorem s250h_0 {d : Nat} {I : Nat → Nat → Int32} {D : Nat → Nat → UInt64} {R : Nat → Nat → Option Nat} {Q : j_Po} {t : Nat} {b : Int32} {c : Int32} {n : Nat} {k : Nat} {β2 : Bd} (ht : t < 6) (hn1 : 1 ≤ n) (hn8 : n ≤ 8) (hk : k ≤ n) (hV2 : BV β2) (hd : 84 ≤ d)
    (v1 : (n ≤ k) → RBN β2 I)
    (v2 : (n ≤ k) → bL β2 t = true)
    (v3 : (n ≤ k) → Q (some (.int (nI (cas β2 t)))) w1 (I, D, RR R))
    (v4 : (¬ n ≤ k) → vf_n64 (FP.ddiv (FP.i2d (b + ((nI k) * c))) 4620693217682128896))
    (v5 : (¬ n ≤ k) → j_W 250 d 0 0 0 0 101 [some (.ref 260), some (.int (nI t)), some (.int 0), some (.int b), some (.int c), some (.int (nI n)), some (.int (nI (k + 1)))] [] w1 (I, (j_u D (321 + ((2 * t) + 0)) k (FP.ddiv (FP.i2d (b + ((nI k) * c))) 4620693217682128896)), RR R) Q) : j_W 250 d 0 0 0 0 101 [some (.ref 260), some (.int (nI t)), some (.int 0), some (.int b), some (.int c), some (.int (nI n)), some (.int (nI k))] [] w1 (I, D, RR R) Q := by
  refine q_iload d250_101 rfl ?_
  refine q_iload d250_103 rfl ?_
  refine q_icmp_ge (tgt := 139) d250_105 rfl (fun h1t => ?_) (fun h1f => ?_)
  ·
    have h1tc : n ≤ k := (nI_leI (by omega) (by omega)).mp h1t
    refine q_aload_n d250_139 rfl ?_
    refine q_iload_n d250_140 rfl ?_
    refine q_invV (o := 260) (ci := 10) (av := [.int (nI t)]) (rest := []) (d' := 1) (mc' := 0) (ms' := 0) d250_141 (cv10_232 250 rfl) rfl (by decide) rfl rfl (by omega) (Nat.le_of_ble_eq_true rfl) (Nat.le_of_ble_eq_true rfl) (lt_w1 rfl) sh260 (Nat.le_refl _) (Nat.le_refl _) ?_
    refine c186 (β := β2) hV2 ht (v1 h1tc) (v2 h1tc) ?_
    show j_W 250 d 0 0 0 0 144 [some (.ref 260), some (.int (nI t)), some (.int 0), some (.int b), some (.int c), some (.int (nI n)), some (.int (nI k))] [.int (nI (cas β2 t))] w1 (I, D, RR R) Q
    exact q_iret d250_144 rfl (Nat.le_refl _) (Nat.le_refl _) (v3 h1tc)
  ·
    have h1fc : ¬ n ≤ k := mt (nI_leI (by omega) (by omega)).mpr h1f
    refine q_aload_n d250_108 rfl ?_
    refine q_getR (x := 320) d250_109 (fs10_49 250 rfl) rfl (lt_w1 rfl) sh260 (rs260_11 R) (by decide) ?_
    refine q_iconst (v := 2) (by decide) d250_112 ?_
    refine q_iload_n d250_113 rfl ?_
    refine q_imul d250_114 ?_
    refine r_int (y := (nI (2 * t))) (pk_mul 2 t) ?_
    refine q_iload_n d250_115 rfl ?_
    refine q_iadd d250_116 ?_
    refine r_int (y := (nI ((2 * t) + 0))) (nI_add (2 * t) 0) ?_
    refine q_aaload (c := 3) (a := ((2 * t) + 0)) (x := (321 + ((2 * t) + 0))) d250_117 (lt_w1 rfl) sh320 (by decide) rfl (by omega) (rm320 R (by omega)) (lt1000 (lm320 (by omega))) ?_
    refine q_iload d250_118 rfl ?_
    refine q_iload_n d250_120 rfl ?_
    refine q_iload d250_121 rfl ?_
    refine q_iload d250_123 rfl ?_
    refine q_imul d250_125 ?_
    refine q_iadd d250_126 ?_
    refine q_i2d d250_127 ?_
    refine q_ldcD (v := 4620693217682128896) d250_128 (kc10_318 250 rfl) ?_
    refine q_ddiv (v4 h1fc) d250_131 ?_
    refine q_dastore (a := k) d250_132 (lm320 (by omega)) (sm320 (by omega)) rfl (by omega) ?_
    refine q_iinc (L' := [some (.ref 260), some (.int (nI t)), some (.int 0), some (.int b), some (.int c), some (.int (nI n)), some (.int (nI (k + 1)))]) (v := (nI (k + 1))) d250_133 rfl (nI_inc _) rfl ?_
    refine q_goto (tgt := 101) d250_136 rfl ?_
    exact r_sub (L' := [some (.ref 260), some (.int (nI t)), some (.int 0), some (.int b), some (.int c), some (.int (nI n)), some (.int (nI (k + 1)))]) ⟨rfl, rfl, rfl, rfl, rfl, rfl, rfl, trivial⟩ (v5 h1fc)

set_option maxRecDepth 10000 in
set_option maxHeartbeats 4000000 in
theorem s107_1 {d : Nat} {I : Nat → Nat → Int32} {D : Nat → Nat → UInt64} {R : Nat → Nat → Option Nat} {Q : j_Po} {t : Nat} {b : Int32} {c : Int32} {n : Nat}  (hR : WFR R) (ht : t < 6) (hn1 : 1 ≤ n) (hn8 : n ≤ 8) (hd : 7 ≤ d)
    (v1 : (n < 1) → Q (some (.int (-2))) w1 (I, D, RR R))
    (v2 : (¬ n < 1) → (n ≤ 8) → ((¬ b < -(80000 : Int32) ∧ ¬ (80000 : Int32) < b)) → ((¬ c < -(8000 : Int32) ∧ ¬ (8000 : Int32) < c)) → ((I ((R 113 t).getD 0) 0) = 0) → Q (some (.int (-3))) w1 (I, D, RR R))
    (v3 : (¬ n < 1) → (n ≤ 8) → ((¬ b < -(80000 : Int32) ∧ ¬ (80000 : Int32) < b)) → ((¬ c < -(8000 : Int32) ∧ ¬ (8000 : Int32) < c)) → (¬ (I ((R 113 t).getD 0) 0) = 0) → ((I ((R 113 t).getD 0) 3) = (-1)) → Q (some (.int (-3))) w1 (I, D, RR R))
    (v4 : (¬ n < 1) → (n ≤ 8) → ((¬ b < -(80000 : Int32) ∧ ¬ (80000 : Int32) < b)) → ((¬ c < -(8000 : Int32) ∧ ¬ (8000 : Int32) < c)) → (¬ (I ((R 113 t).getD 0) 0) = 0) → (¬ (I ((R 113 t).getD 0) 3) = (-1)) → ∀ i j, i ≤ 2 → j ≤ 2 → ((R 0 6).getD 0) + i ≠ ((R 113 t).getD 0) + j)
    (v5 : (¬ n < 1) → (n ≤ 8) → ((¬ b < -(80000 : Int32) ∧ ¬ (80000 : Int32) < b)) → ((¬ c < -(8000 : Int32) ∧ ¬ (8000 : Int32) < c)) → (¬ (I ((R 113 t).getD 0) 0) = 0) → (¬ (I ((R 113 t).getD 0) 3) = (-1)) → I ((R 113 t).getD 0) 0 = 0 ∨ I ((R 113 t).getD 0) 0 = 1)
    (v6 : (¬ n < 1) → (n ≤ 8) → ((¬ b < -(80000 : Int32) ∧ ¬ (80000 : Int32) < b)) → ((¬ c < -(8000 : Int32) ∧ ¬ (8000 : Int32) < c)) → (¬ (I ((R 113 t).getD 0) 0) = 0) → (¬ (I ((R 113 t).getD 0) 3) = (-1)) → ∀ J14 : Nat → Nat → Int32, ∀ E15 : Nat → Nat → UInt64, (∀ o, o ≠ ((R 0 6).getD 0) → J14 o = I o) → (∀ i, i < 6 → J14 ((R 0 6).getD 0) i = I ((R 113 t).getD 0) i) → (∀ o, o ≠ ((R 0 6).getD 0) + 1 → o ≠ ((R 0 6).getD 0) + 2 → E15 o = D o) → (∀ k, k < 8 → E15 (((R 0 6).getD 0) + 1) k = D (((R 113 t).getD 0) + 1) k) → (∀ k, k < 8 → E15 (((R 0 6).getD 0) + 2) k = D (((R 113 t).getD 0) + 2) k) → j_W 107 d 0 0 0 0 86 [some (.ref 0), some (.int (nI t)), some (.int 1), some (.int b), some (.int c), some (.int (nI n)), some (.int 0)] [] w1 (J14, E15, RR R) Q)
    (v7 : (¬ n < 1) → (n ≤ 8) → ((¬ b < -(80000 : Int32) ∧ ¬ (80000 : Int32) < b)) → (¬ ((¬ c < -(8000 : Int32) ∧ ¬ (8000 : Int32) < c))) → Q (some (.int (-2))) w1 (I, D, RR R))
    (v8 : (¬ n < 1) → (n ≤ 8) → (¬ ((¬ b < -(80000 : Int32) ∧ ¬ (80000 : Int32) < b))) → Q (some (.int (-2))) w1 (I, D, RR R))
    (v9 : (¬ n < 1) → (¬ n ≤ 8) → Q (some (.int (-2))) w1 (I, D, RR R)) : j_Call d 107 [.ref 0, .int (nI t), .int 1, .int b, .int c, .int (nI n)] w1 (I, D, RR R) 0 0 Q := by
  refine q_enter (L := [some (.ref 0), some (.int (nI t)), some (.int 1), some (.int b), some (.int c), some (.int (nI n)), none]) j_m107 (Nat.le_of_ble_eq_true rfl) rfl ?_
  refine q_iload_n d107_0 rfl ?_
  refine q_invS (av := [.int (nI t)]) (rest := []) (d' := 0) (mc' := 0) (ms' := 0) d107_1 (cv9_183 107 rfl) rfl rfl (by omega) (Nat.le_of_ble_eq_true rfl) (Nat.le_of_ble_eq_true rfl) (Nat.le_refl _) (Nat.le_refl _) ?_
  refine r39t (by first | omega | decide)  ?_
  show j_W 107 d 0 0 0 0 4 [some (.ref 0), some (.int (nI t)), some (.int 1), some (.int b), some (.int c), some (.int (nI n)), none] [.int 1] w1 (I, D, RR R) Q
  refine q_if_eq (tgt := 29) d107_4 rfl (fun h => absurd h (by decide)) (fun _ => ?_)
  refine q_iload_n d107_7 rfl ?_
  refine q_if_lt (tgt := 29) d107_8 rfl (fun h => absurd h (by decide)) (fun _ => ?_)
  refine q_iload_n d107_11 rfl ?_
  refine q_iconst (v := 1) (by decide) d107_12 ?_
  refine q_icmp_gt (tgt := 29) d107_13 rfl (fun h => absurd h (by decide)) (fun _ => ?_)
  refine q_iload d107_16 rfl ?_
  refine q_iconst (v := 1) (by decide) d107_18 ?_
  refine q_icmp_lt (tgt := 29) d107_19 rfl (fun h1t => ?_) (fun h1f => ?_)
  ·
    have h1tc : n < 1 := (nI_ltI (by omega) (by omega)).mp h1t
    refine q_bipush (v := (-2)) (by decide) d107_29 ?_
    exact q_iret d107_31 rfl (Nat.le_refl _) (Nat.le_refl _) (v1 h1tc)
  ·
    have h1fc : ¬ n < 1 := mt (nI_ltI (by omega) (by omega)).mpr h1f
    refine q_iload d107_22 rfl ?_
    refine q_bipush (v := 8) (by decide) d107_24 ?_
    refine q_icmp_le (tgt := 32) d107_26 rfl (fun h2t => ?_) (fun h2f => ?_)
    ·
      have h2tc : n ≤ 8 := (nI_leI (by omega) (by omega)).mp h2t
      refine q_iload_n d107_32 rfl ?_
      refine q_ldcI (v := 80000) d107_33 (kc9_193 107 rfl) ?_
      refine q_invS (av := [.int b, .int 80000]) (rest := []) (d' := 0) (mc' := 0) (ms' := 0) d107_35 (cv9_65 107 rfl) rfl rfl (by omega) (Nat.le_of_ble_eq_true rfl) (Nat.le_of_ble_eq_true rfl) (Nat.le_refl _) (Nat.le_refl _) ?_
      refine p13  (fun h3 => ?_) (fun h3 => ?_)
      ·
        show j_W 107 d 0 0 0 0 38 [some (.ref 0), some (.int (nI t)), some (.int 1), some (.int b), some (.int c), some (.int (nI n)), none] [.int 1] w1 (I, D, RR R) Q
        refine q_if_eq (tgt := 52) d107_38 rfl (fun h => absurd h (by decide)) (fun _ => ?_)
        refine q_iload d107_41 rfl ?_
        refine q_sipush (v := 8000) (by decide) d107_43 ?_
        refine q_invS (av := [.int c, .int 8000]) (rest := []) (d' := 0) (mc' := 0) (ms' := 0) d107_46 (cv9_65 107 rfl) rfl rfl (by omega) (Nat.le_of_ble_eq_true rfl) (Nat.le_of_ble_eq_true rfl) (Nat.le_refl _) (Nat.le_refl _) ?_
        refine p13  (fun h4 => ?_) (fun h4 => ?_)
        ·
          show j_W 107 d 0 0 0 0 49 [some (.ref 0), some (.int (nI t)), some (.int 1), some (.int b), some (.int c), some (.int (nI n)), none] [.int 1] w1 (I, D, RR R) Q
          refine q_if_ne (tgt := 55) d107_49 rfl (fun _ => ?_) (fun h => absurd h (by decide))
          refine q_aload_n d107_55 rfl ?_
          refine q_iload_n d107_56 rfl ?_
          refine q_iload_n d107_57 rfl ?_
          refine q_invV (o := 0) (ci := 9) (av := [.int (nI t), .int 1]) (rest := []) (d' := 0) (mc' := 0) (ms' := 0) d107_58 (cv9_194 107 rfl) rfl (by decide) rfl rfl (by omega) (Nat.le_of_ble_eq_true rfl) (Nat.le_of_ble_eq_true rfl) (lt_w1 rfl) sh0 (Nat.le_refl _) (Nat.le_refl _) ?_
          refine s108_1 (t := t) hR (by first | omega | decide) (Nat.le_refl _) (fun c5 => ?_) (fun c6 c7 => ?_) (fun c8 c9 => ?_)
          ·
            show j_W 107 d 0 0 0 0 61 [some (.ref 0), some (.int (nI t)), some (.int 1), some (.int b), some (.int c), some (.int (nI n)), none] [.int 0] w1 (I, D, RR R) Q
            refine q_if_ne (tgt := 67) d107_61 rfl (fun h => absurd h (by decide)) (fun _ => ?_)
            refine q_bipush (v := (-3)) (by decide) d107_64 ?_
            exact q_iret d107_66 rfl (Nat.le_refl _) (Nat.le_refl _) (v2 h1fc h2tc h3 h4 c5)
          ·
            show j_W 107 d 0 0 0 0 61 [some (.ref 0), some (.int (nI t)), some (.int 1), some (.int b), some (.int c), some (.int (nI n)), none] [.int 0] w1 (I, D, RR R) Q
            refine q_if_ne (tgt := 67) d107_61 rfl (fun h => absurd h (by decide)) (fun _ => ?_)
            refine q_bipush (v := (-3)) (by decide) d107_64 ?_
            exact q_iret d107_66 rfl (Nat.le_refl _) (Nat.le_refl _) (v3 h1fc h2tc h3 h4 c6 c7)
          ·
            show j_W 107 d 0 0 0 0 61 [some (.ref 0), some (.int (nI t)), some (.int 1), some (.int b), some (.int c), some (.int (nI n)), none] [.int 1] w1 (I, D, RR R) Q
            refine q_if_ne (tgt := 67) d107_61 rfl (fun _ => ?_) (fun h => absurd h (by decide))
            refine q_aload_n d107_67 rfl ?_
            have g11 := hR.s
            refine q_getR (x := ((R 0 6).getD 0)) d107_68 (fs9_26 107 rfl) rfl (lt_w1 rfl) sh0 ((RR_d rfl).trans g11.1) (lt1000 (isG_lt g11.2)) ?_
            refine q_aload_n d107_71 rfl ?_
            refine q_getR (x := 108) d107_72 (fs9_53 107 rfl) rfl (lt_w1 rfl) sh0 (rs0_1 R) (by decide) ?_
            refine q_getR (x := 113) d107_75 (fs9_197 107 rfl) rfl (lt_w1 rfl) sh108 (rs108_4 R) (by decide) ?_
            refine q_iload_n d107_78 rfl ?_
            have g13 := hR.g t (by omega)
            refine q_aaload (c := 7) (a := t) (x := ((R 113 t).getD 0)) d107_79 (lt_w1 rfl) sh113 (by decide) rfl (by omega) ((RR_d rfl).trans g13.1) (lt1000 (isG_lt g13.2)) ?_
            refine q_invV (o := ((R 0 6).getD 0)) (ci := 3) (av := [.ref ((R 113 t).getD 0)]) (rest := []) (d' := 1) (mc' := 0) (ms' := 0) d107_80 (cv9_201 107 rfl) rfl (by decide) rfl rfl (by omega) (Nat.le_of_ble_eq_true rfl) (Nat.le_of_ble_eq_true rfl) (isG_lt g11.2) (isG_sh g11.2) (Nat.le_refl _) (Nat.le_refl _) ?_
            refine c109 g11.2 g13.2 (Nat.le_refl _) (v4 h1fc h2tc h3 h4 c8 c9) (v5 h1fc h2tc h3 h4 c8 c9) (fun J14 E15 h16 h17 h18 h19 h20 => ?_)
            show j_W 107 d 0 0 0 0 83 [some (.ref 0), some (.int (nI t)), some (.int 1), some (.int b), some (.int c), some (.int (nI n)), none] [] w1 (J14, E15, RR R) Q
            refine q_iconst (v := 0) (by decide) d107_83 ?_
            refine q_istore (L' := [some (.ref 0), some (.int (nI t)), some (.int 1), some (.int b), some (.int c), some (.int (nI n)), some (.int 0)]) d107_84 (Nat.le_of_ble_eq_true rfl) rfl ?_
            exact r_sub (L' := [some (.ref 0), some (.int (nI t)), some (.int 1), some (.int b), some (.int c), some (.int (nI n)), some (.int 0)]) ⟨rfl, rfl, rfl, rfl, rfl, rfl, rfl, trivial⟩ (v6 h1fc h2tc h3 h4 c8 c9 J14 E15 h16 h17 h18 h19 h20)
        ·
          show j_W 107 d 0 0 0 0 49 [some (.ref 0), some (.int (nI t)), some (.int 1), some (.int b), some (.int c), some (.int (nI n)), none] [.int 0] w1 (I, D, RR R) Q
          refine q_if_ne (tgt := 55) d107_49 rfl (fun h => absurd h (by decide)) (fun _ => ?_)
          refine q_bipush (v := (-2)) (by decide) d107_52 ?_
          exact q_iret d107_54 rfl (Nat.le_refl _) (Nat.le_refl _) (v7 h1fc h2tc h3 h4)
      ·
        show j_W 107 d 0 0 0 0 38 [some (.ref 0), some (.int (nI t)), some (.int 1), some (.int b), some (.int c), some (.int (nI n)), none] [.int 0] w1 (I, D, RR R) Q
        refine q_if_eq (tgt := 52) d107_38 rfl (fun _ => ?_) (fun h => absurd h (by decide))
        refine q_bipush (v := (-2)) (by decide) d107_52 ?_
        exact q_iret d107_54 rfl (Nat.le_refl _) (Nat.le_refl _) (v8 h1fc h2tc h3)
    ·
      have h2fc : ¬ n ≤ 8 := mt (nI_leI (by omega) (by omega)).mpr h2f
      refine q_bipush (v := (-2)) (by decide) d107_29 ?_
      exact q_iret d107_31 rfl (Nat.le_refl _) (Nat.le_refl _) (v9 h1fc h2fc)

set_option maxRecDepth 10000 in
set_option maxHeartbeats 4000000 in
theorem s107h_1 {d : Nat} {I : Nat → Nat → Int32} {D : Nat → Nat → UInt64} {R : Nat → Nat → Option Nat} {Q : j_Po} {t : Nat} {b : Int32} {c : Int32} {n : Nat} {k : Nat} {β β2 : Bd} (hR : WFR R) (ht : t < 6) (hn1 : 1 ≤ n) (hn8 : n ≤ 8) (hk : k ≤ n) (hd : 7 ≤ d)
    (v1 : (n ≤ k) → t < 6)
    (v2 : (n ≤ k) → 5 ≤ d - 1)
    (v3 : (n ≤ k) → BV β)
    (v4 : (n ≤ k) → CB β (j_u I ((R 0 6).getD 0) 5 (nI n)) D R)
    (v5 : (n ≤ k) → NB (j_u I ((R 0 6).getD 0) 5 (nI n)))
    (v6 : (n ≤ k) → BV β2)
    (v7 : (n ≤ k) → CB β2 (j_u I ((R 0 6).getD 0) 5 (nI n)) D (j_u R 113 t (some (gs R))))
    (v8 : (n ≤ k) → ∀ J4 : Nat → Nat → Int32, (∀ o', (o' < 205 ∨ 211 ≤ o') → J4 o' = (j_u I ((R 0 6).getD 0) 5 (nI n)) o') → (NM β2 J4) → (OrdB β2 J4) → (∀ v, v < 30 → bu J4 v ≤ 2000) → (j_u (j_u R 113 t (some (gs R))) 0 6 (some (go R t))) 113 t = some (((j_u (j_u R 113 t (some (gs R))) 0 6 (some (go R t))) 113 t).getD 0) ∧ isG (((j_u (j_u R 113 t (some (gs R))) 0 6 (some (go R t))) 113 t).getD 0))
    (v9 : (n ≤ k) → ∀ J4 : Nat → Nat → Int32, (∀ o', (o' < 205 ∨ 211 ≤ o') → J4 o' = (j_u I ((R 0 6).getD 0) 5 (nI n)) o') → (NM β2 J4) → (OrdB β2 J4) → (∀ v, v < 30 → bu J4 v ≤ 2000) → GR β2 t J4 D (((j_u (j_u R 113 t (some (gs R))) 0 6 (some (go R t))) 113 t).getD 0))
    (v10 : (n ≤ k) → ∀ J4 : Nat → Nat → Int32, (∀ o', (o' < 205 ∨ 211 ≤ o') → J4 o' = (j_u I ((R 0 6).getD 0) 5 (nI n)) o') → (NM β2 J4) → (OrdB β2 J4) → (∀ v, v < 30 → bu J4 v ≤ 2000) → bL β2 t = true)
    (v11 : (n ≤ k) → ∀ J4 : Nat → Nat → Int32, (∀ o', (o' < 205 ∨ 211 ≤ o') → J4 o' = (j_u I ((R 0 6).getD 0) 5 (nI n)) o') → (NM β2 J4) → (OrdB β2 J4) → (∀ v, v < 30 → bu J4 v ≤ 2000) → Q (some (.int (nI (cas β2 t)))) w1 (J4, D, RR (j_u (j_u R 113 t (some (gs R))) 0 6 (some (go R t)))))
    (v12 : (n ≤ k) → ∀ J4 : Nat → Nat → Int32, (∀ o', (o' < 205 ∨ 211 ≤ o') → J4 o' = (j_u I ((R 0 6).getD 0) 5 (nI n)) o') → (NM β J4) → (OrdB β J4) → (∃ J', NM β2 J' ∧ ∃ v, v < 30 ∧ 2000 < bu J' v) → Q (some (.int (-4))) w1 (J4, D, RR R))
    (v13 : (¬ n ≤ k) → vf_n64 (FP.ddiv (FP.i2d (b + ((nI k) * c))) 4620693217682128896))
    (v14 : (¬ n ≤ k) → ((nI k) < 0) → j_W 107 d 0 0 0 0 86 [some (.ref 0), some (.int (nI t)), some (.int 1), some (.int b), some (.int c), some (.int (nI n)), some (.int (nI (k + 1)))] [] w1 (I, D, RR R) Q)
    (v15 : (¬ n ≤ k) → (¬ (nI k) < 0) → (k < 8) → j_W 107 d 0 0 0 0 86 [some (.ref 0), some (.int (nI t)), some (.int 1), some (.int b), some (.int c), some (.int (nI n)), some (.int (nI (k + 1)))] [] w1 (I, (j_u D (((R 0 6).getD 0) + 2) k (FP.ddiv (FP.i2d (b + ((nI k) * c))) 4620693217682128896)), RR R) Q)
    (v16 : (¬ n ≤ k) → (¬ (nI k) < 0) → (¬ k < 8) → j_W 107 d 0 0 0 0 86 [some (.ref 0), some (.int (nI t)), some (.int 1), some (.int b), some (.int c), some (.int (nI n)), some (.int (nI (k + 1)))] [] w1 (I, D, RR R) Q) : j_W 107 d 0 0 0 0 86 [some (.ref 0), some (.int (nI t)), some (.int 1), some (.int b), some (.int c), some (.int (nI n)), some (.int (nI k))] [] w1 (I, D, RR R) Q := by
  refine q_iload d107_86 rfl ?_
  refine q_iload d107_88 rfl ?_
  refine q_icmp_ge (tgt := 121) d107_90 rfl (fun h1t => ?_) (fun h1f => ?_)
  ·
    have h1tc : n ≤ k := (nI_leI (by omega) (by omega)).mp h1t
    refine q_aload_n d107_121 rfl ?_
    have g3 := hR.s
    refine q_getR (x := ((R 0 6).getD 0)) d107_122 (fs9_26 107 rfl) rfl (lt_w1 rfl) sh0 ((RR_d rfl).trans g3.1) (lt1000 (isG_lt g3.2)) ?_
    refine q_iload_n d107_125 rfl ?_
    refine q_iload d107_126 rfl ?_
    refine q_invV (o := ((R 0 6).getD 0)) (ci := 3) (av := [.int 1, .int (nI n)]) (rest := []) (d' := 0) (mc' := 0) (ms' := 0) d107_128 (cv9_209 107 rfl) rfl (by decide) rfl rfl (by omega) (Nat.le_of_ble_eq_true rfl) (Nat.le_of_ble_eq_true rfl) (isG_lt g3.2) (isG_sh g3.2) (Nat.le_refl _) (Nat.le_refl _) ?_
    refine s111_1 (g := ((R 0 6).getD 0)) (n := n) g3.2 (Nat.le_refl _) ?_
    show j_W 107 d 0 0 0 0 131 [some (.ref 0), some (.int (nI t)), some (.int 1), some (.int b), some (.int c), some (.int (nI n)), some (.int (nI k))] [] w1 ((j_u I ((R 0 6).getD 0) 5 (nI n)), D, RR R) Q
    refine q_aload_n d107_131 rfl ?_
    refine q_iload_n d107_132 rfl ?_
    refine q_invV (o := 0) (ci := 9) (av := [.int (nI t)]) (rest := []) (d' := (d - 1)) (mc' := 0) (ms' := 0) d107_133 (cv9_190 107 rfl) rfl (by decide) rfl rfl (by omega) (Nat.le_of_ble_eq_true rfl) (Nat.le_of_ble_eq_true rfl) (lt_w1 rfl) sh0 (Nat.le_refl _) (Nat.le_refl _) ?_
    refine c106 (β := β) (β2 := β2) hR (v1 h1tc) (v2 h1tc) (v3 h1tc) (v4 h1tc) (v5 h1tc) (v6 h1tc) (v7 h1tc) (fun J4 h5 h6 h7 h8 => ?_) (fun J4 h5 h6 h7 h8 => ?_)
    ·
      show j_W 107 d 0 0 0 0 136 [some (.ref 0), some (.int (nI t)), some (.int 1), some (.int b), some (.int c), some (.int (nI n)), some (.int (nI k))] [.int 1] w1 (J4, D, RR (j_u (j_u R 113 t (some (gs R))) 0 6 (some (go R t)))) Q
      refine q_if_eq (tgt := 154) d107_136 rfl (fun h => absurd h (by decide)) (fun _ => ?_)
      refine q_aload_n d107_139 rfl ?_
      refine q_getR (x := 108) d107_140 (fs9_53 107 rfl) rfl (lt_w1 rfl) sh0 (rs0_1 (j_u (j_u R 113 t (some (gs R))) 0 6 (some (go R t)))) (by decide) ?_
      refine q_getR (x := 113) d107_143 (fs9_197 107 rfl) rfl (lt_w1 rfl) sh108 (rs108_4 (j_u (j_u R 113 t (some (gs R))) 0 6 (some (go R t)))) (by decide) ?_
      refine q_iload_n d107_146 rfl ?_
      have g10 := (v8 h1tc J4 h5 h6 h7 h8)
      refine q_aaload (c := 7) (a := t) (x := (((j_u (j_u R 113 t (some (gs R))) 0 6 (some (go R t))) 113 t).getD 0)) d107_147 (lt_w1 rfl) sh113 (by decide) rfl (by omega) ((RR_d rfl).trans g10.1) (lt1000 (isG_lt g10.2)) ?_
      refine q_invV (o := (((j_u (j_u R 113 t (some (gs R))) 0 6 (some (go R t))) 113 t).getD 0)) (ci := 3) (av := []) (rest := []) (d' := 1) (mc' := 0) (ms' := 0) d107_148 (cv9_213 107 rfl) rfl (by decide) rfl rfl (by omega) (Nat.le_of_ble_eq_true rfl) (Nat.le_of_ble_eq_true rfl) (isG_lt g10.2) (isG_sh g10.2) (Nat.le_refl _) (Nat.le_refl _) ?_
      refine c24g (β := β2) (t := t) g10.2 (Nat.le_refl _) (v6 h1tc) (v1 h1tc) (v9 h1tc J4 h5 h6 h7 h8) (v10 h1tc J4 h5 h6 h7 h8) ?_
      show j_W 107 d 0 0 0 0 151 [some (.ref 0), some (.int (nI t)), some (.int 1), some (.int b), some (.int c), some (.int (nI n)), some (.int (nI k))] [.int (nI (cas β2 t))] w1 (J4, D, RR (j_u (j_u R 113 t (some (gs R))) 0 6 (some (go R t)))) Q
      refine q_goto (tgt := 156) d107_151 rfl ?_
      exact q_iret d107_156 rfl (Nat.le_refl _) (Nat.le_refl _) (v11 h1tc J4 h5 h6 h7 h8)
    ·
      show j_W 107 d 0 0 0 0 136 [some (.ref 0), some (.int (nI t)), some (.int 1), some (.int b), some (.int c), some (.int (nI n)), some (.int (nI k))] [.int 0] w1 (J4, D, RR R) Q
      refine q_if_eq (tgt := 154) d107_136 rfl (fun _ => ?_) (fun h => absurd h (by decide))
      refine q_bipush (v := (-4)) (by decide) d107_154 ?_
      exact q_iret d107_156 rfl (Nat.le_refl _) (Nat.le_refl _) (v12 h1tc J4 h5 h6 h7 h8)
  ·
    have h1fc : ¬ n ≤ k := mt (nI_leI (by omega) (by omega)).mpr h1f
    refine q_aload_n d107_93 rfl ?_
    have g12 := hR.s
    refine q_getR (x := ((R 0 6).getD 0)) d107_94 (fs9_26 107 rfl) rfl (lt_w1 rfl) sh0 ((RR_d rfl).trans g12.1) (lt1000 (isG_lt g12.2)) ?_
    refine q_iload_n d107_97 rfl ?_
    refine q_iload d107_98 rfl ?_
    refine q_iload_n d107_100 rfl ?_
    refine q_iload d107_101 rfl ?_
    refine q_iload d107_103 rfl ?_
    refine q_imul d107_105 ?_
    refine q_iadd d107_106 ?_
    refine q_i2d d107_107 ?_
    refine q_ldcD (v := 4620693217682128896) d107_108 (kc9_80 107 rfl) ?_
    refine q_ddiv (v13 h1fc) d107_111 ?_
    refine q_invV (o := ((R 0 6).getD 0)) (ci := 3) (av := [.int 1, .int (nI k), .double (FP.ddiv (FP.i2d (b + ((nI k) * c))) 4620693217682128896)]) (rest := []) (d' := 0) (mc' := 0) (ms' := 0) d107_112 (cv9_205 107 rfl) rfl (by decide) rfl rfl (by omega) (Nat.le_of_ble_eq_true rfl) (Nat.le_of_ble_eq_true rfl) (isG_lt g12.2) (isG_sh g12.2) (Nat.le_refl _) (Nat.le_refl _) ?_
    refine s110_1 (g := ((R 0 6).getD 0)) (k := k) g12.2 (by first | omega | decide) (Nat.le_refl _) (fun c13 => ?_) (fun c14 c15 => ?_) (fun c16 c17 => ?_)
    ·
      show j_W 107 d 0 0 0 0 115 [some (.ref 0), some (.int (nI t)), some (.int 1), some (.int b), some (.int c), some (.int (nI n)), some (.int (nI k))] [] w1 (I, D, RR R) Q
      refine q_iinc (L' := [some (.ref 0), some (.int (nI t)), some (.int 1), some (.int b), some (.int c), some (.int (nI n)), some (.int (nI (k + 1)))]) (v := (nI (k + 1))) d107_115 rfl (nI_inc _) rfl ?_
      refine q_goto (tgt := 86) d107_118 rfl ?_
      exact r_sub (L' := [some (.ref 0), some (.int (nI t)), some (.int 1), some (.int b), some (.int c), some (.int (nI n)), some (.int (nI (k + 1)))]) ⟨rfl, rfl, rfl, rfl, rfl, rfl, rfl, trivial⟩ (v14 h1fc c13)
    ·
      show j_W 107 d 0 0 0 0 115 [some (.ref 0), some (.int (nI t)), some (.int 1), some (.int b), some (.int c), some (.int (nI n)), some (.int (nI k))] [] w1 (I, (j_u D (((R 0 6).getD 0) + 2) k (FP.ddiv (FP.i2d (b + ((nI k) * c))) 4620693217682128896)), RR R) Q
      refine q_iinc (L' := [some (.ref 0), some (.int (nI t)), some (.int 1), some (.int b), some (.int c), some (.int (nI n)), some (.int (nI (k + 1)))]) (v := (nI (k + 1))) d107_115 rfl (nI_inc _) rfl ?_
      refine q_goto (tgt := 86) d107_118 rfl ?_
      exact r_sub (L' := [some (.ref 0), some (.int (nI t)), some (.int 1), some (.int b), some (.int c), some (.int (nI n)), some (.int (nI (k + 1)))]) ⟨rfl, rfl, rfl, rfl, rfl, rfl, rfl, trivial⟩ (v15 h1fc c14 c15)
    ·
      show j_W 107 d 0 0 0 0 115 [some (.ref 0), some (.int (nI t)), some (.int 1), some (.int b), some (.int c), some (.int (nI n)), some (.int (nI k))] [] w1 (I, D, RR R) Q
      refine q_iinc (L' := [some (.ref 0), some (.int (nI t)), some (.int 1), some (.int b), some (.int c), some (.int (nI n)), some (.int (nI (k + 1)))]) (v := (nI (k + 1))) d107_115 rfl (nI_inc _) rfl ?_
      refine q_goto (tgt := 86) d107_118 rfl ?_
      exact r_sub (L' := [some (.ref 0), some (.int (nI t)), some (.int 1), some (.int b), some (.int c), some (.int (nI n)), some (.int (nI (k + 1)))]) ⟨rfl, rfl, rfl, rfl, rfl, rfl, rfl, trivial⟩ (v16 h1fc c16 c17)

set_option maxRecDepth 10000 in
set_option maxHeartbeats 4000000 in
theorem s250_1 {d : Nat} {I : Nat → Nat → Int32} {D : Nat → Nat → UInt64} {R : Nat → Nat → Option Nat} {Q : j_Po} {t : Nat} {b : Int32} {c : Int32} {n : Nat} {β β2 : Bd} {X : Nat → Nat → Bool} {bv : Nat → Nat} (ht : t < 6) (hn1 : 1 ≤ n) (hn8 : n ≤ 8) (hd : 84 ≤ d)
    (v1 : ((¬ (1 : Int32) < (0 : Int32) ∧ ¬ (1 : Int32) < (1 : Int32))) → ((¬ b < (-80000 : Int32) ∧ ¬ (80000 : Int32) < b)) → ((¬ c < (-8000 : Int32) ∧ ¬ (8000 : Int32) < c)) → ((¬ (nI n) < (1 : Int32) ∧ ¬ (8 : Int32) < (nI n))) → ((I 315 t) = 0) → Q (some (.int (-3))) w1 (I, D, RR R))
    (v2 : ((¬ (1 : Int32) < (0 : Int32) ∧ ¬ (1 : Int32) < (1 : Int32))) → ((¬ b < (-80000 : Int32) ∧ ¬ (80000 : Int32) < b)) → ((¬ c < (-8000 : Int32) ∧ ¬ (8000 : Int32) < c)) → ((¬ (nI n) < (1 : Int32) ∧ ¬ (8 : Int32) < (nI n))) → (¬ (I 315 t) = 0) → (¬ (I 318 t) = (-1)) → t < 6)
    (v3 : ((¬ (1 : Int32) < (0 : Int32) ∧ ¬ (1 : Int32) < (1 : Int32))) → ((¬ b < (-80000 : Int32) ∧ ¬ (80000 : Int32) < b)) → ((¬ c < (-8000 : Int32) ∧ ¬ (8000 : Int32) < c)) → ((¬ (nI n) < (1 : Int32) ∧ ¬ (8 : Int32) < (nI n))) → (¬ (I 315 t) = 0) → (¬ (I 318 t) = (-1)) → 83 ≤ d - 1)
    (v4 : ((¬ (1 : Int32) < (0 : Int32) ∧ ¬ (1 : Int32) < (1 : Int32))) → ((¬ b < (-80000 : Int32) ∧ ¬ (80000 : Int32) < b)) → ((¬ c < (-8000 : Int32) ∧ ¬ (8000 : Int32) < c)) → ((¬ (nI n) < (1 : Int32) ∧ ¬ (8 : Int32) < (nI n))) → (¬ (I 315 t) = 0) → (¬ (I 318 t) = (-1)) → BV β2)
    (v5 : ((¬ (1 : Int32) < (0 : Int32) ∧ ¬ (1 : Int32) < (1 : Int32))) → ((¬ b < (-80000 : Int32) ∧ ¬ (80000 : Int32) < b)) → ((¬ c < (-8000 : Int32) ∧ ¬ (8000 : Int32) < c)) → ((¬ (nI n) < (1 : Int32) ∧ ¬ (8 : Int32) < (nI n))) → (¬ (I 315 t) = 0) → (¬ (I 318 t) = (-1)) → RcE β2 X)
    (v6 : ((¬ (1 : Int32) < (0 : Int32) ∧ ¬ (1 : Int32) < (1 : Int32))) → ((¬ b < (-80000 : Int32) ∧ ¬ (80000 : Int32) < b)) → ((¬ c < (-8000 : Int32) ∧ ¬ (8000 : Int32) < c)) → ((¬ (nI n) < (1 : Int32) ∧ ¬ (8 : Int32) < (nI n))) → (¬ (I 315 t) = 0) → (¬ (I 318 t) = (-1)) → BuE β2 X bv)
    (v7 : ((¬ (1 : Int32) < (0 : Int32) ∧ ¬ (1 : Int32) < (1 : Int32))) → ((¬ b < (-80000 : Int32) ∧ ¬ (80000 : Int32) < b)) → ((¬ c < (-8000 : Int32) ∧ ¬ (8000 : Int32) < c)) → ((¬ (nI n) < (1 : Int32) ∧ ¬ (8 : Int32) < (nI n))) → (¬ (I 315 t) = 0) → (¬ (I 318 t) = (-1)) → RBN β2 (j_u I 319 (2 * t + 1) (nI n)))
    (v8 : ((¬ (1 : Int32) < (0 : Int32) ∧ ¬ (1 : Int32) < (1 : Int32))) → ((¬ b < (-80000 : Int32) ∧ ¬ (80000 : Int32) < b)) → ((¬ c < (-8000 : Int32) ∧ ¬ (8000 : Int32) < c)) → ((¬ (nI n) < (1 : Int32) ∧ ¬ (8 : Int32) < (nI n))) → (¬ (I 315 t) = 0) → (¬ (I 318 t) = (-1)) → RBN β I)
    (v9 : ((¬ (1 : Int32) < (0 : Int32) ∧ ¬ (1 : Int32) < (1 : Int32))) → ((¬ b < (-80000 : Int32) ∧ ¬ (80000 : Int32) < b)) → ((¬ c < (-8000 : Int32) ∧ ¬ (8000 : Int32) < c)) → ((¬ (nI n) < (1 : Int32) ∧ ¬ (8 : Int32) < (nI n))) → (¬ (I 315 t) = 0) → (¬ (I 318 t) = (-1)) → (∀ v, v < 30 → bv v ≤ 2000) → ∀ K7 : Nat → Nat → Int32, (∀ o, o ≠ 361 → o ≠ 362 → K7 o = (j_u I 319 (2 * t + 1) (nI n)) o) → (RBN β2 K7) → j_W 250 d 0 0 0 0 101 [some (.ref 260), some (.int (nI t)), some (.int 1), some (.int b), some (.int c), some (.int (nI n)), some (.int 0)] [] w1 (K7, D, RR R) Q)
    (v10 : ((¬ (1 : Int32) < (0 : Int32) ∧ ¬ (1 : Int32) < (1 : Int32))) → ((¬ b < (-80000 : Int32) ∧ ¬ (80000 : Int32) < b)) → ((¬ c < (-8000 : Int32) ∧ ¬ (8000 : Int32) < c)) → ((¬ (nI n) < (1 : Int32) ∧ ¬ (8 : Int32) < (nI n))) → (¬ (I 315 t) = 0) → (¬ (I 318 t) = (-1)) → (∃ v, v < 30 ∧ 2000 < bv v) → ∀ K7 : Nat → Nat → Int32, (∀ o, o ≠ 361 → o ≠ 362 → K7 o = I o) → (RBN β K7) → Q (some (.int (-4))) w1 (K7, D, RR R))
    (v11 : ((¬ (1 : Int32) < (0 : Int32) ∧ ¬ (1 : Int32) < (1 : Int32))) → ((¬ b < (-80000 : Int32) ∧ ¬ (80000 : Int32) < b)) → ((¬ c < (-8000 : Int32) ∧ ¬ (8000 : Int32) < c)) → ((¬ (nI n) < (1 : Int32) ∧ ¬ (8 : Int32) < (nI n))) → (¬ (I 315 t) = 0) → ((I 318 t) = (-1)) → Q (some (.int (-3))) w1 (I, D, RR R))
    (v12 : ((¬ (1 : Int32) < (0 : Int32) ∧ ¬ (1 : Int32) < (1 : Int32))) → ((¬ b < (-80000 : Int32) ∧ ¬ (80000 : Int32) < b)) → ((¬ c < (-8000 : Int32) ∧ ¬ (8000 : Int32) < c)) → (¬ ((¬ (nI n) < (1 : Int32) ∧ ¬ (8 : Int32) < (nI n)))) → Q (some (.int (-2))) w1 (I, D, RR R))
    (v13 : ((¬ (1 : Int32) < (0 : Int32) ∧ ¬ (1 : Int32) < (1 : Int32))) → ((¬ b < (-80000 : Int32) ∧ ¬ (80000 : Int32) < b)) → (¬ ((¬ c < (-8000 : Int32) ∧ ¬ (8000 : Int32) < c))) → Q (some (.int (-2))) w1 (I, D, RR R))
    (v14 : ((¬ (1 : Int32) < (0 : Int32) ∧ ¬ (1 : Int32) < (1 : Int32))) → (¬ ((¬ b < (-80000 : Int32) ∧ ¬ (80000 : Int32) < b))) → Q (some (.int (-2))) w1 (I, D, RR R))
    (v15 : (¬ ((¬ (1 : Int32) < (0 : Int32) ∧ ¬ (1 : Int32) < (1 : Int32)))) → Q (some (.int (-2))) w1 (I, D, RR R)) : j_Call d 250 [.ref 260, .int (nI t), .int 1, .int b, .int c, .int (nI n)] w1 (I, D, RR R) 0 0 Q := by
  refine q_enter (L := [some (.ref 260), some (.int (nI t)), some (.int 1), some (.int b), some (.int c), some (.int (nI n)), none]) j_m250 (Nat.le_of_ble_eq_true rfl) rfl ?_
  refine q_iload_n d250_0 rfl ?_
  refine q_invS (av := [.int (nI t)]) (rest := []) (d' := 1) (mc' := 0) (ms' := 0) d250_1 (cv10_480 250 rfl) rfl rfl (by omega) (Nat.le_of_ble_eq_true rfl) (Nat.le_of_ble_eq_true rfl) (Nat.le_refl _) (Nat.le_refl _) ?_
  refine r249t (by first | omega | decide) (Nat.le_refl _)  ?_
  show j_W 250 d 0 0 0 0 4 [some (.ref 260), some (.int (nI t)), some (.int 1), some (.int b), some (.int c), some (.int (nI n)), none] [.int 1] w1 (I, D, RR R) Q
  refine q_if_eq (tgt := 54) d250_4 rfl (fun h => absurd h (by decide)) (fun _ => ?_)
  refine q_iload_n d250_7 rfl ?_
  refine q_iconst (v := 0) (by decide) d250_8 ?_
  refine q_iconst (v := 1) (by decide) d250_9 ?_
  refine q_invS (av := [.int 1, .int 0, .int 1]) (rest := []) (d' := 0) (mc' := 0) (ms' := 0) d250_10 (cv10_183 250 rfl) rfl rfl (by omega) (Nat.le_of_ble_eq_true rfl) (Nat.le_of_ble_eq_true rfl) (Nat.le_refl _) (Nat.le_refl _) ?_
  refine p168  (fun h1 => ?_) (fun h1 => ?_)
  ·
    show j_W 250 d 0 0 0 0 13 [some (.ref 260), some (.int (nI t)), some (.int 1), some (.int b), some (.int c), some (.int (nI n)), none] [.int 1] w1 (I, D, RR R) Q
    refine q_if_eq (tgt := 54) d250_13 rfl (fun h => absurd h (by decide)) (fun _ => ?_)
    refine q_iload_n d250_16 rfl ?_
    refine q_ldcwI (v := (-80000)) d250_17 (kc10_483 250 rfl) ?_
    refine q_ldcwI (v := 80000) d250_20 (kc10_484 250 rfl) ?_
    refine q_invS (av := [.int b, .int (-80000), .int 80000]) (rest := []) (d' := 0) (mc' := 0) (ms' := 0) d250_23 (cv10_183 250 rfl) rfl rfl (by omega) (Nat.le_of_ble_eq_true rfl) (Nat.le_of_ble_eq_true rfl) (Nat.le_refl _) (Nat.le_refl _) ?_
    refine p168  (fun h2 => ?_) (fun h2 => ?_)
    ·
      show j_W 250 d 0 0 0 0 26 [some (.ref 260), some (.int (nI t)), some (.int 1), some (.int b), some (.int c), some (.int (nI n)), none] [.int 1] w1 (I, D, RR R) Q
      refine q_if_eq (tgt := 54) d250_26 rfl (fun h => absurd h (by decide)) (fun _ => ?_)
      refine q_iload d250_29 rfl ?_
      refine q_sipush (v := (-8000)) (by decide) d250_31 ?_
      refine q_sipush (v := 8000) (by decide) d250_34 ?_
      refine q_invS (av := [.int c, .int (-8000), .int 8000]) (rest := []) (d' := 0) (mc' := 0) (ms' := 0) d250_37 (cv10_183 250 rfl) rfl rfl (by omega) (Nat.le_of_ble_eq_true rfl) (Nat.le_of_ble_eq_true rfl) (Nat.le_refl _) (Nat.le_refl _) ?_
      refine p168  (fun h3 => ?_) (fun h3 => ?_)
      ·
        show j_W 250 d 0 0 0 0 40 [some (.ref 260), some (.int (nI t)), some (.int 1), some (.int b), some (.int c), some (.int (nI n)), none] [.int 1] w1 (I, D, RR R) Q
        refine q_if_eq (tgt := 54) d250_40 rfl (fun h => absurd h (by decide)) (fun _ => ?_)
        refine q_iload d250_43 rfl ?_
        refine q_iconst (v := 1) (by decide) d250_45 ?_
        refine q_bipush (v := 8) (by decide) d250_46 ?_
        refine q_invS (av := [.int (nI n), .int 1, .int 8]) (rest := []) (d' := 0) (mc' := 0) (ms' := 0) d250_48 (cv10_183 250 rfl) rfl rfl (by omega) (Nat.le_of_ble_eq_true rfl) (Nat.le_of_ble_eq_true rfl) (Nat.le_refl _) (Nat.le_refl _) ?_
        refine p168  (fun h4 => ?_) (fun h4 => ?_)
        ·
          show j_W 250 d 0 0 0 0 51 [some (.ref 260), some (.int (nI t)), some (.int 1), some (.int b), some (.int c), some (.int (nI n)), none] [.int 1] w1 (I, D, RR R) Q
          refine q_if_ne (tgt := 57) d250_51 rfl (fun _ => ?_) (fun h => absurd h (by decide))
          refine q_aload_n d250_57 rfl ?_
          refine q_getR (x := 315) d250_58 (fs10_34 250 rfl) rfl (lt_w1 rfl) sh260 (rs260_6 R) (by decide) ?_
          refine q_iload_n d250_61 rfl ?_
          refine q_zaload (a := t) d250_62 (lt_w1 rfl) sh315 rfl (by omega) ?_
          refine q_if_eq (tgt := 81) d250_63 rfl (fun h5t => ?_) (fun h5f => ?_)
          ·
            refine q_bipush (v := (-3)) (by decide) d250_81 ?_
            exact q_iret d250_83 rfl (Nat.le_refl _) (Nat.le_refl _) (v1 h1 h2 h3 h4 h5t)
          ·
            refine q_iload_n d250_66 rfl ?_
            refine q_iconst (v := 1) (by decide) d250_67 ?_
            refine q_icmp_ne (tgt := 84) d250_68 rfl (fun h => absurd h (by decide)) (fun _ => ?_)
            refine q_aload_n d250_71 rfl ?_
            refine q_getR (x := 318) d250_72 (fs10_43 250 rfl) rfl (lt_w1 rfl) sh260 (rs260_9 R) (by decide) ?_
            refine q_iload_n d250_75 rfl ?_
            refine q_iaload (a := t) d250_76 (lt_w1 rfl) sh318 rfl (by omega) ?_
            refine q_iconst (v := (-1)) (by decide) d250_77 ?_
            refine q_icmp_ne (tgt := 84) d250_78 rfl (fun h6t => ?_) (fun h6f => ?_)
            ·
              refine q_aload_n d250_84 rfl ?_
              refine q_iload_n d250_85 rfl ?_
              refine q_iload_n d250_86 rfl ?_
              refine q_iload d250_87 rfl ?_
              refine q_invV (o := 260) (ci := 10) (av := [.int (nI t), .int 1, .int (nI n)]) (rest := []) (d' := (d - 1)) (mc' := 0) (ms' := 0) d250_89 (cv10_485 250 rfl) rfl (by decide) rfl rfl (by omega) (Nat.le_of_ble_eq_true rfl) (Nat.le_of_ble_eq_true rfl) (lt_w1 rfl) sh260 (Nat.le_refl _) (Nat.le_refl _) ?_
              refine c251 (β := β) (β2 := β2) (w := 1) (X := X) (bv := bv) (by decide) (v2 h1 h2 h3 h4 h5f h6t) (v3 h1 h2 h3 h4 h5f h6t) (v4 h1 h2 h3 h4 h5f h6t) (v5 h1 h2 h3 h4 h5f h6t) (v6 h1 h2 h3 h4 h5f h6t) (v7 h1 h2 h3 h4 h5f h6t) (v8 h1 h2 h3 h4 h5f h6t) (fun h8 K7 h9 h10 => ?_) (fun h8 K7 h9 h10 => ?_)
              ·
                show j_W 250 d 0 0 0 0 92 [some (.ref 260), some (.int (nI t)), some (.int 1), some (.int b), some (.int c), some (.int (nI n)), none] [.int 1] w1 (K7, D, RR R) Q
                refine q_if_ne (tgt := 98) d250_92 rfl (fun _ => ?_) (fun h => absurd h (by decide))
                refine q_iconst (v := 0) (by decide) d250_98 ?_
                refine q_istore (L' := [some (.ref 260), some (.int (nI t)), some (.int 1), some (.int b), some (.int c), some (.int (nI n)), some (.int 0)]) d250_99 (Nat.le_of_ble_eq_true rfl) rfl ?_
                exact r_sub (L' := [some (.ref 260), some (.int (nI t)), some (.int 1), some (.int b), some (.int c), some (.int (nI n)), some (.int 0)]) ⟨rfl, rfl, rfl, rfl, rfl, rfl, rfl, trivial⟩ (v9 h1 h2 h3 h4 h5f h6t h8 K7 h9 h10)
              ·
                show j_W 250 d 0 0 0 0 92 [some (.ref 260), some (.int (nI t)), some (.int 1), some (.int b), some (.int c), some (.int (nI n)), none] [.int 0] w1 (K7, D, RR R) Q
                refine q_if_ne (tgt := 98) d250_92 rfl (fun h => absurd h (by decide)) (fun _ => ?_)
                refine q_bipush (v := (-4)) (by decide) d250_95 ?_
                exact q_iret d250_97 rfl (Nat.le_refl _) (Nat.le_refl _) (v10 h1 h2 h3 h4 h5f h6t h8 K7 h9 h10)
            ·
              refine q_bipush (v := (-3)) (by decide) d250_81 ?_
              exact q_iret d250_83 rfl (Nat.le_refl _) (Nat.le_refl _) (v11 h1 h2 h3 h4 h5f h6f)
        ·
          show j_W 250 d 0 0 0 0 51 [some (.ref 260), some (.int (nI t)), some (.int 1), some (.int b), some (.int c), some (.int (nI n)), none] [.int 0] w1 (I, D, RR R) Q
          refine q_if_ne (tgt := 57) d250_51 rfl (fun h => absurd h (by decide)) (fun _ => ?_)
          refine q_bipush (v := (-2)) (by decide) d250_54 ?_
          exact q_iret d250_56 rfl (Nat.le_refl _) (Nat.le_refl _) (v12 h1 h2 h3 h4)
      ·
        show j_W 250 d 0 0 0 0 40 [some (.ref 260), some (.int (nI t)), some (.int 1), some (.int b), some (.int c), some (.int (nI n)), none] [.int 0] w1 (I, D, RR R) Q
        refine q_if_eq (tgt := 54) d250_40 rfl (fun _ => ?_) (fun h => absurd h (by decide))
        refine q_bipush (v := (-2)) (by decide) d250_54 ?_
        exact q_iret d250_56 rfl (Nat.le_refl _) (Nat.le_refl _) (v13 h1 h2 h3)
    ·
      show j_W 250 d 0 0 0 0 26 [some (.ref 260), some (.int (nI t)), some (.int 1), some (.int b), some (.int c), some (.int (nI n)), none] [.int 0] w1 (I, D, RR R) Q
      refine q_if_eq (tgt := 54) d250_26 rfl (fun _ => ?_) (fun h => absurd h (by decide))
      refine q_bipush (v := (-2)) (by decide) d250_54 ?_
      exact q_iret d250_56 rfl (Nat.le_refl _) (Nat.le_refl _) (v14 h1 h2)
  ·
    show j_W 250 d 0 0 0 0 13 [some (.ref 260), some (.int (nI t)), some (.int 1), some (.int b), some (.int c), some (.int (nI n)), none] [.int 0] w1 (I, D, RR R) Q
    refine q_if_eq (tgt := 54) d250_13 rfl (fun _ => ?_) (fun h => absurd h (by decide))
    refine q_bipush (v := (-2)) (by decide) d250_54 ?_
    exact q_iret d250_56 rfl (Nat.le_refl _) (Nat.le_refl _) (v15 h1)

set_option maxRecDepth 10000 in
set_option maxHeartbeats 4000000 in
theorem s250h_1 {d : Nat} {I : Nat → Nat → Int32} {D : Nat → Nat → UInt64} {R : Nat → Nat → Option Nat} {Q : j_Po} {t : Nat} {b : Int32} {c : Int32} {n : Nat} {k : Nat} {β2 : Bd} (ht : t < 6) (hn1 : 1 ≤ n) (hn8 : n ≤ 8) (hk : k ≤ n) (hV2 : BV β2) (hd : 84 ≤ d)
    (v1 : (n ≤ k) → RBN β2 I)
    (v2 : (n ≤ k) → bL β2 t = true)
    (v3 : (n ≤ k) → Q (some (.int (nI (cas β2 t)))) w1 (I, D, RR R))
    (v4 : (¬ n ≤ k) → vf_n64 (FP.ddiv (FP.i2d (b + ((nI k) * c))) 4620693217682128896))
    (v5 : (¬ n ≤ k) → j_W 250 d 0 0 0 0 101 [some (.ref 260), some (.int (nI t)), some (.int 1), some (.int b), some (.int c), some (.int (nI n)), some (.int (nI (k + 1)))] [] w1 (I, (j_u D (321 + ((2 * t) + 1)) k (FP.ddiv (FP.i2d (b + ((nI k) * c))) 4620693217682128896)), RR R) Q) : j_W 250 d 0 0 0 0 101 [some (.ref 260), some (.int (nI t)), some (.int 1), some (.int b), some (.int c), some (.int (nI n)), some (.int (nI k))] [] w1 (I, D, RR R) Q := by
  refine q_iload d250_101 rfl ?_
  refine q_iload d250_103 rfl ?_
  refine q_icmp_ge (tgt := 139) d250_105 rfl (fun h1t => ?_) (fun h1f => ?_)
  ·
    have h1tc : n ≤ k := (nI_leI (by omega) (by omega)).mp h1t
    refine q_aload_n d250_139 rfl ?_
    refine q_iload_n d250_140 rfl ?_
    refine q_invV (o := 260) (ci := 10) (av := [.int (nI t)]) (rest := []) (d' := 1) (mc' := 0) (ms' := 0) d250_141 (cv10_232 250 rfl) rfl (by decide) rfl rfl (by omega) (Nat.le_of_ble_eq_true rfl) (Nat.le_of_ble_eq_true rfl) (lt_w1 rfl) sh260 (Nat.le_refl _) (Nat.le_refl _) ?_
    refine c186 (β := β2) hV2 ht (v1 h1tc) (v2 h1tc) ?_
    show j_W 250 d 0 0 0 0 144 [some (.ref 260), some (.int (nI t)), some (.int 1), some (.int b), some (.int c), some (.int (nI n)), some (.int (nI k))] [.int (nI (cas β2 t))] w1 (I, D, RR R) Q
    exact q_iret d250_144 rfl (Nat.le_refl _) (Nat.le_refl _) (v3 h1tc)
  ·
    have h1fc : ¬ n ≤ k := mt (nI_leI (by omega) (by omega)).mpr h1f
    refine q_aload_n d250_108 rfl ?_
    refine q_getR (x := 320) d250_109 (fs10_49 250 rfl) rfl (lt_w1 rfl) sh260 (rs260_11 R) (by decide) ?_
    refine q_iconst (v := 2) (by decide) d250_112 ?_
    refine q_iload_n d250_113 rfl ?_
    refine q_imul d250_114 ?_
    refine r_int (y := (nI (2 * t))) (pk_mul 2 t) ?_
    refine q_iload_n d250_115 rfl ?_
    refine q_iadd d250_116 ?_
    refine r_int (y := (nI ((2 * t) + 1))) (nI_add (2 * t) 1) ?_
    refine q_aaload (c := 3) (a := ((2 * t) + 1)) (x := (321 + ((2 * t) + 1))) d250_117 (lt_w1 rfl) sh320 (by decide) rfl (by omega) (rm320 R (by omega)) (lt1000 (lm320 (by omega))) ?_
    refine q_iload d250_118 rfl ?_
    refine q_iload_n d250_120 rfl ?_
    refine q_iload d250_121 rfl ?_
    refine q_iload d250_123 rfl ?_
    refine q_imul d250_125 ?_
    refine q_iadd d250_126 ?_
    refine q_i2d d250_127 ?_
    refine q_ldcD (v := 4620693217682128896) d250_128 (kc10_318 250 rfl) ?_
    refine q_ddiv (v4 h1fc) d250_131 ?_
    refine q_dastore (a := k) d250_132 (lm320 (by omega)) (sm320 (by omega)) rfl (by omega) ?_
    refine q_iinc (L' := [some (.ref 260), some (.int (nI t)), some (.int 1), some (.int b), some (.int c), some (.int (nI n)), some (.int (nI (k + 1)))]) (v := (nI (k + 1))) d250_133 rfl (nI_inc _) rfl ?_
    refine q_goto (tgt := 101) d250_136 rfl ?_
    exact r_sub (L' := [some (.ref 260), some (.int (nI t)), some (.int 1), some (.int b), some (.int c), some (.int (nI n)), some (.int (nI (k + 1)))]) ⟨rfl, rfl, rfl, rfl, rfl, rfl, rfl, trivial⟩ (v5 h1fc)

