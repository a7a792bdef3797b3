/-! axisBy: the roads -/
set_option maxRecDepth 10000 in
set_option maxHeartbeats 4000000 in
theorem s115e {d : Nat} {I : Nat → Nat → Int32} {D : Nat → Nat → UInt64} {R : Nat → Nat → Option Nat} {Q : j_Po} {g : Nat} {i : Nat} {n : Nat}  (hg : isRw g) (hd : 0 ≤ d)
    (v1 : j_W 115 d 0 0 0 0 2 [some (.ref g), some (.int (nI i)), some (.int (nI n)), some (.int (nI i))] [] w1 (I, D, RR R) Q) : j_Call d 115 [.ref g, .int (nI i), .int (nI n)] w1 (I, D, RR R) 0 0 Q := by
  refine q_enter (L := [some (.ref g), some (.int (nI i)), some (.int (nI n)), none]) j_m115 (Nat.le_of_ble_eq_true rfl) rfl ?_
  refine q_iload_n d115_0 rfl ?_
  refine q_istore_n (L' := [some (.ref g), some (.int (nI i)), some (.int (nI n)), some (.int (nI i))]) d115_1 (Nat.le_of_ble_eq_true rfl) rfl ?_
  exact r_sub (L' := [some (.ref g), some (.int (nI i)), some (.int (nI n)), some (.int (nI i))]) ⟨rfl, rfl, rfl, rfl, trivial⟩ v1

set_option maxRecDepth 10000 in
set_option maxHeartbeats 4000000 in
theorem s115h {d : Nat} {I : Nat → Nat → Int32} {D : Nat → Nat → UInt64} {R : Nat → Nat → Option Nat} {Q : j_Po} {g : Nat} {i : Nat} {n : Nat} {k : Nat}  (hg : isRw g) (hi : i + n ≤ 64) (hk : i + k ≤ 64) (hd : 0 ≤ d)
    (v1 : ((i + n) ≤ (i + k)) → Q (some (.int 0)) w1 (I, D, RR R))
    (v2 : (¬ (i + n) ≤ (i + k)) → (64 ≤ (i + k)) → Q (some (.int 0)) w1 (I, D, RR R))
    (v3 : (¬ (i + n) ≤ (i + k)) → (¬ 64 ≤ (i + k)) → ((I (g + 2) (i + k)) = 0) → j_W 115 d 0 0 0 0 2 [some (.ref g), some (.int (nI i)), some (.int (nI n)), some (.int (nI ((i + k) + 1)))] [] w1 (I, D, RR R) Q)
    (v4 : (¬ (i + n) ≤ (i + k)) → (¬ 64 ≤ (i + k)) → (¬ (I (g + 2) (i + k)) = 0) → Q (some (.int 1)) w1 (I, D, RR R)) : j_W 115 d 0 0 0 0 2 [some (.ref g), some (.int (nI i)), some (.int (nI n)), some (.int (nI (i + k)))] [] w1 (I, D, RR R) Q := by
  refine q_iload_n d115_2 rfl ?_
  refine q_iload_n d115_3 rfl ?_
  refine q_iload_n d115_4 rfl ?_
  refine q_iadd d115_5 ?_
  refine r_int (y := (nI (i + n))) (nI_add i n) ?_
  refine q_icmp_ge (tgt := 32) d115_6 rfl (fun h1t => ?_) (fun h1f => ?_)
  ·
    have h1tc : (i + n) ≤ (i + k) := (nI_leI (by omega) (by omega)).mp h1t
    refine q_iconst (v := 0) (by decide) d115_32 ?_
    exact q_zret d115_33 rfl (Or.inl rfl) (Nat.le_refl _) (Nat.le_refl _) (v1 h1tc)
  ·
    have h1fc : ¬ (i + n) ≤ (i + k) := mt (nI_leI (by omega) (by omega)).mpr h1f
    refine q_iload_n d115_9 rfl ?_
    refine q_bipush (v := 64) (by decide) d115_10 ?_
    refine q_icmp_ge (tgt := 32) d115_12 rfl (fun h2t => ?_) (fun h2f => ?_)
    ·
      have h2tc : 64 ≤ (i + k) := (nI_leI (by omega) (by omega)).mp h2t
      refine q_iconst (v := 0) (by decide) d115_32 ?_
      exact q_zret d115_33 rfl (Or.inl rfl) (Nat.le_refl _) (Nat.le_refl _) (v2 h1fc h2tc)
    ·
      have h2fc : ¬ 64 ≤ (i + k) := mt (nI_leI (by omega) (by omega)).mpr h2f
      refine q_aload_n d115_15 rfl ?_
      refine q_getR (x := (g + 2)) d115_16 (fs6_19 115 rfl) rfl (isRw_lt hg) (isRw_sh hg) (isRw_r2 R hg) (lt1000 (isRw_lt2 hg)) ?_
      refine q_iload_n d115_19 rfl ?_
      refine q_zaload (a := (i + k)) d115_20 (isRw_lt2 hg) (isRw_sh2 hg) rfl (by omega) ?_
      refine q_if_eq (tgt := 26) d115_21 rfl (fun h3t => ?_) (fun h3f => ?_)
      ·
        refine q_iinc (L' := [some (.ref g), some (.int (nI i)), some (.int (nI n)), some (.int (nI ((i + k) + 1)))]) (v := (nI ((i + k) + 1))) d115_26 rfl (nI_inc _) rfl ?_
        refine q_goto (tgt := 2) d115_29 rfl ?_
        exact r_sub (L' := [some (.ref g), some (.int (nI i)), some (.int (nI n)), some (.int (nI ((i + k) + 1)))]) ⟨rfl, rfl, rfl, rfl, trivial⟩ (v3 h1fc h2fc h3t)
      ·
        refine q_iconst (v := 1) (by decide) d115_24 ?_
        exact q_zret d115_25 rfl (Or.inr rfl) (Nat.le_refl _) (Nat.le_refl _) (v4 h1fc h2fc h3f)

set_option maxRecDepth 10000 in
set_option maxHeartbeats 4000000 in
theorem s112r {d : Nat} {I : Nat → Nat → Int32} {D : Nat → Nat → UInt64} {R : Nat → Nat → Option Nat} {Q : j_Po} {a : Int32} {w : Int32} {r : Int32} {b : Int32} {n : Int32}  (hR : WFR R) (hd : 6 ≤ d)
    (v1 : ∀ k1 : Nat, (k1 < 6) → (a = nI k1) → (w < 0) → Q (some (.int (-2))) w1 (I, D, RR R))
    (v2 : ∀ k1 : Nat, (k1 < 6) → (a = nI k1) → (¬ w < 0) → (1 < w) → Q (some (.int (-2))) w1 (I, D, RR R))
    (v3 : ∀ k1 : Nat, (k1 < 6) → (a = nI k1) → (¬ w < 0) → (¬ 1 < w) → ∀ k4 : Nat, (k4 < 4) → (r = nI k4) → (n < 1) → Q (some (.int (-2))) w1 (I, D, RR R))
    (v4 : ∀ k1 : Nat, (k1 < 6) → (a = nI k1) → (¬ w < 0) → (¬ 1 < w) → ∀ k4 : Nat, (k4 < 4) → (r = nI k4) → (¬ n < 1) → (n ≤ 8) → j_W 112 d 0 0 0 0 39 [none, none, none, none, none, none, none, none] [] w1 (I, D, RR R) Q)
    (v5 : ∀ k1 : Nat, (k1 < 6) → (a = nI k1) → (¬ w < 0) → (¬ 1 < w) → ∀ k4 : Nat, (k4 < 4) → (r = nI k4) → (¬ n < 1) → (¬ n ≤ 8) → Q (some (.int (-2))) w1 (I, D, RR R))
    (v6 : ∀ k1 : Nat, (k1 < 6) → (a = nI k1) → (¬ w < 0) → (¬ 1 < w) → (¬ (∃ k : Nat, k < 4 ∧ r = nI k)) → Q (some (.int (-2))) w1 (I, D, RR R))
    (v7 : (¬ (∃ k : Nat, k < 6 ∧ a = nI k)) → Q (some (.int (-2))) w1 (I, D, RR R)) : j_Call d 112 [.ref 0, .int a, .int w, .int r, .int b, .int n] w1 (I, D, RR R) 0 0 Q := by
  refine q_enter (L := [some (.ref 0), some (.int a), some (.int w), some (.int r), some (.int b), some (.int n), none, none]) j_m112 (Nat.le_of_ble_eq_true rfl) rfl ?_
  refine q_iload_n d112_0 rfl ?_
  refine q_invS (av := [.int a]) (rest := []) (d' := 0) (mc' := 0) (ms' := 0) d112_1 (cv9_183 112 rfl) rfl rfl (by omega) (Nat.le_of_ble_eq_true rfl) (Nat.le_of_ble_eq_true rfl) (Nat.le_refl _) (Nat.le_refl _) ?_
  refine r39  (fun k1 h1 h1e => ?_) (fun h1 => ?_)
  ·
    subst h1e
    show j_W 112 d 0 0 0 0 4 [some (.ref 0), some (.int (nI k1)), some (.int w), some (.int r), some (.int b), some (.int n), none, none] [.int 1] w1 (I, D, RR R) Q
    refine q_if_eq (tgt := 36) d112_4 rfl (fun h => absurd h (by decide)) (fun _ => ?_)
    refine q_iload_n d112_7 rfl ?_
    refine q_if_lt (tgt := 36) d112_8 rfl (fun h2t => ?_) (fun h2f => ?_)
    ·
      refine q_bipush (v := (-2)) (by decide) d112_36 ?_
      exact q_iret d112_38 rfl (Nat.le_refl _) (Nat.le_refl _) (v1 k1 h1 rfl h2t)
    ·
      refine q_iload_n d112_11 rfl ?_
      refine q_iconst (v := 1) (by decide) d112_12 ?_
      refine q_icmp_gt (tgt := 36) d112_13 rfl (fun h3t => ?_) (fun h3f => ?_)
      ·
        refine q_bipush (v := (-2)) (by decide) d112_36 ?_
        exact q_iret d112_38 rfl (Nat.le_refl _) (Nat.le_refl _) (v2 k1 h1 rfl h2f h3t)
      ·
        refine q_iload_n d112_16 rfl ?_
        refine q_invS (av := [.int r]) (rest := []) (d' := 0) (mc' := 0) (ms' := 0) d112_17 (cv9_216 112 rfl) rfl rfl (by omega) (Nat.le_of_ble_eq_true rfl) (Nat.le_of_ble_eq_true rfl) (Nat.le_refl _) (Nat.le_refl _) ?_
        refine r113  (fun k4 h4 h4e => ?_) (fun h4 => ?_)
        ·
          subst h4e
          show j_W 112 d 0 0 0 0 20 [some (.ref 0), some (.int (nI k1)), some (.int w), some (.int (nI k4)), some (.int b), some (.int n), none, none] [.int 1] w1 (I, D, RR R) Q
          refine q_if_eq (tgt := 36) d112_20 rfl (fun h => absurd h (by decide)) (fun _ => ?_)
          refine q_iload d112_23 rfl ?_
          refine q_iconst (v := 1) (by decide) d112_25 ?_
          refine q_icmp_lt (tgt := 36) d112_26 rfl (fun h5t => ?_) (fun h5f => ?_)
          ·
            refine q_bipush (v := (-2)) (by decide) d112_36 ?_
            exact q_iret d112_38 rfl (Nat.le_refl _) (Nat.le_refl _) (v3 k1 h1 rfl h2f h3f k4 h4 rfl h5t)
          ·
            refine q_iload d112_29 rfl ?_
            refine q_bipush (v := 8) (by decide) d112_31 ?_
            refine q_icmp_le (tgt := 39) d112_33 rfl (fun h6t => ?_) (fun h6f => ?_)
            ·
              exact r_sub (L' := [none, none, none, none, none, none, none, none]) trivial (v4 k1 h1 rfl h2f h3f k4 h4 rfl h5f h6t)
            ·
              refine q_bipush (v := (-2)) (by decide) d112_36 ?_
              exact q_iret d112_38 rfl (Nat.le_refl _) (Nat.le_refl _) (v5 k1 h1 rfl h2f h3f k4 h4 rfl h5f h6f)
        ·
          show j_W 112 d 0 0 0 0 20 [some (.ref 0), some (.int (nI k1)), some (.int w), some (.int r), some (.int b), some (.int n), none, none] [.int 0] w1 (I, D, RR R) Q
          refine q_if_eq (tgt := 36) d112_20 rfl (fun _ => ?_) (fun h => absurd h (by decide))
          refine q_bipush (v := (-2)) (by decide) d112_36 ?_
          exact q_iret d112_38 rfl (Nat.le_refl _) (Nat.le_refl _) (v6 k1 h1 rfl h2f h3f h4)
  ·
    show j_W 112 d 0 0 0 0 4 [some (.ref 0), some (.int a), some (.int w), some (.int r), some (.int b), some (.int n), none, none] [.int 0] w1 (I, D, RR R) Q
    refine q_if_eq (tgt := 36) d112_4 rfl (fun _ => ?_) (fun h => absurd h (by decide))
    refine q_bipush (v := (-2)) (by decide) d112_36 ?_
    exact q_iret d112_38 rfl (Nat.le_refl _) (Nat.le_refl _) (v7 h1)

set_option maxRecDepth 10000 in
set_option maxHeartbeats 4000000 in
theorem s252r {d : Nat} {I : Nat → Nat → Int32} {D : Nat → Nat → UInt64} {R : Nat → Nat → Option Nat} {Q : j_Po} {a : Int32} {w : Int32} {r : Int32} {b : Int32} {n : Int32}   (hd : 83 ≤ d)
    (v1 : ∀ k1 : Nat, (k1 < 6) → (a = nI k1) → ((¬ w < (0 : Int32) ∧ ¬ (1 : Int32) < w)) → ∀ k3 : Nat, (k3 < 4) → (r = nI k3) → ((¬ n < (1 : Int32) ∧ ¬ (8 : Int32) < n)) → j_W 252 d 0 0 0 0 37 [none, none, none, none, none, none, none] [] w1 (I, D, RR R) Q)
    (v2 : ∀ k1 : Nat, (k1 < 6) → (a = nI k1) → ((¬ w < (0 : Int32) ∧ ¬ (1 : Int32) < w)) → ∀ k3 : Nat, (k3 < 4) → (r = nI k3) → (¬ ((¬ n < (1 : Int32) ∧ ¬ (8 : Int32) < n))) → Q (some (.int (-2))) w1 (I, D, RR R))
    (v3 : ∀ k1 : Nat, (k1 < 6) → (a = nI k1) → ((¬ w < (0 : Int32) ∧ ¬ (1 : Int32) < w)) → (¬ (∃ k : Nat, k < 4 ∧ r = nI k)) → Q (some (.int (-2))) w1 (I, D, RR R))
    (v4 : ∀ k1 : Nat, (k1 < 6) → (a = nI k1) → (¬ ((¬ w < (0 : Int32) ∧ ¬ (1 : Int32) < w))) → Q (some (.int (-2))) w1 (I, D, RR R))
    (v5 : (¬ (∃ k : Nat, k < 6 ∧ a = nI k)) → Q (some (.int (-2))) w1 (I, D, RR R)) : j_Call d 252 [.ref 260, .int a, .int w, .int r, .int b, .int n] w1 (I, D, RR R) 0 0 Q := by
  refine q_enter (L := [some (.ref 260), some (.int a), some (.int w), some (.int r), some (.int b), some (.int n), none]) j_m252 (Nat.le_of_ble_eq_true rfl) rfl ?_
  refine q_iload_n d252_0 rfl ?_
  refine q_invS (av := [.int a]) (rest := []) (d' := 1) (mc' := 0) (ms' := 0) d252_1 (cv10_480 252 rfl) rfl rfl (by omega) (Nat.le_of_ble_eq_true rfl) (Nat.le_of_ble_eq_true rfl) (Nat.le_refl _) (Nat.le_refl _) ?_
  refine r249 (Nat.le_refl _)  (fun k1 h1 h1e => ?_) (fun h1 => ?_)
  ·
    subst h1e
    show j_W 252 d 0 0 0 0 4 [some (.ref 260), some (.int (nI k1)), some (.int w), some (.int r), some (.int b), some (.int n), none] [.int 1] w1 (I, D, RR R) Q
    refine q_if_eq (tgt := 34) d252_4 rfl (fun h => absurd h (by decide)) (fun _ => ?_)
    refine q_iload_n d252_7 rfl ?_
    refine q_iconst (v := 0) (by decide) d252_8 ?_
    refine q_iconst (v := 1) (by decide) d252_9 ?_
    refine q_invS (av := [.int w, .int 0, .int 1]) (rest := []) (d' := 0) (mc' := 0) (ms' := 0) d252_10 (cv10_183 252 rfl) rfl rfl (by omega) (Nat.le_of_ble_eq_true rfl) (Nat.le_of_ble_eq_true rfl) (Nat.le_refl _) (Nat.le_refl _) ?_
    refine p168  (fun h2 => ?_) (fun h2 => ?_)
    ·
      show j_W 252 d 0 0 0 0 13 [some (.ref 260), some (.int (nI k1)), some (.int w), some (.int r), some (.int b), some (.int n), none] [.int 1] w1 (I, D, RR R) Q
      refine q_if_eq (tgt := 34) d252_13 rfl (fun h => absurd h (by decide)) (fun _ => ?_)
      refine q_iload_n d252_16 rfl ?_
      refine q_invS (av := [.int r]) (rest := []) (d' := 1) (mc' := 0) (ms' := 0) d252_17 (cv10_488 252 rfl) rfl rfl (by omega) (Nat.le_of_ble_eq_true rfl) (Nat.le_of_ble_eq_true rfl) (Nat.le_refl _) (Nat.le_refl _) ?_
      refine r253 (Nat.le_refl _)  (fun k3 h3 h3e => ?_) (fun h3 => ?_)
      ·
        subst h3e
        show j_W 252 d 0 0 0 0 20 [some (.ref 260), some (.int (nI k1)), some (.int w), some (.int (nI k3)), some (.int b), some (.int n), none] [.int 1] w1 (I, D, RR R) Q
        refine q_if_eq (tgt := 34) d252_20 rfl (fun h => absurd h (by decide)) (fun _ => ?_)
        refine q_iload d252_23 rfl ?_
        refine q_iconst (v := 1) (by decide) d252_25 ?_
        refine q_bipush (v := 8) (by decide) d252_26 ?_
        refine q_invS (av := [.int n, .int 1, .int 8]) (rest := []) (d' := 0) (mc' := 0) (ms' := 0) d252_28 (cv10_183 252 rfl) rfl rfl (by omega) (Nat.le_of_ble_eq_true rfl) (Nat.le_of_ble_eq_true rfl) (Nat.le_refl _) (Nat.le_refl _) ?_
        refine p168  (fun h4 => ?_) (fun h4 => ?_)
        ·
          show j_W 252 d 0 0 0 0 31 [some (.ref 260), some (.int (nI k1)), some (.int w), some (.int (nI k3)), some (.int b), some (.int n), none] [.int 1] w1 (I, D, RR R) Q
          refine q_if_ne (tgt := 37) d252_31 rfl (fun _ => ?_) (fun h => absurd h (by decide))
          exact r_sub (L' := [none, none, none, none, none, none, none]) trivial (v1 k1 h1 rfl h2 k3 h3 rfl h4)
        ·
          show j_W 252 d 0 0 0 0 31 [some (.ref 260), some (.int (nI k1)), some (.int w), some (.int (nI k3)), some (.int b), some (.int n), none] [.int 0] w1 (I, D, RR R) Q
          refine q_if_ne (tgt := 37) d252_31 rfl (fun h => absurd h (by decide)) (fun _ => ?_)
          refine q_bipush (v := (-2)) (by decide) d252_34 ?_
          exact q_iret d252_36 rfl (Nat.le_refl _) (Nat.le_refl _) (v2 k1 h1 rfl h2 k3 h3 rfl h4)
      ·
        show j_W 252 d 0 0 0 0 20 [some (.ref 260), some (.int (nI k1)), some (.int w), some (.int r), some (.int b), some (.int n), none] [.int 0] w1 (I, D, RR R) Q
        refine q_if_eq (tgt := 34) d252_20 rfl (fun _ => ?_) (fun h => absurd h (by decide))
        refine q_bipush (v := (-2)) (by decide) d252_34 ?_
        exact q_iret d252_36 rfl (Nat.le_refl _) (Nat.le_refl _) (v3 k1 h1 rfl h2 h3)
    ·
      show j_W 252 d 0 0 0 0 13 [some (.ref 260), some (.int (nI k1)), some (.int w), some (.int r), some (.int b), some (.int n), none] [.int 0] w1 (I, D, RR R) Q
      refine q_if_eq (tgt := 34) d252_13 rfl (fun _ => ?_) (fun h => absurd h (by decide))
      refine q_bipush (v := (-2)) (by decide) d252_34 ?_
      exact q_iret d252_36 rfl (Nat.le_refl _) (Nat.le_refl _) (v4 k1 h1 rfl h2)
  ·
    show j_W 252 d 0 0 0 0 4 [some (.ref 260), some (.int a), some (.int w), some (.int r), some (.int b), some (.int n), none] [.int 0] w1 (I, D, RR R) Q
    refine q_if_eq (tgt := 34) d252_4 rfl (fun _ => ?_) (fun h => absurd h (by decide))
    refine q_bipush (v := (-2)) (by decide) d252_34 ?_
    exact q_iret d252_36 rfl (Nat.le_refl _) (Nat.le_refl _) (v5 h1)

set_option maxRecDepth 10000 in
set_option maxHeartbeats 4000000 in
theorem s112_0 {d : Nat} {I : Nat → Nat → Int32} {D : Nat → Nat → UInt64} {R : Nat → Nat → Option Nat} {Q : j_Po} {t : Nat} {r : Nat} {b : Int32} {n : Nat}  (hR : WFR R) (ht : t < 6) (hr : r < 4) (hn1 : 1 ≤ n) (hn8 : n ≤ 8) (hd : 7 ≤ d)
    (v1 : (n < 1) → Q (some (.int (-2))) w1 (I, D, RR R))
    (v2 : (¬ n < 1) → (n ≤ 8) → ((I ((R 113 t).getD 0) 0) = 0) → Q (some (.int (-3))) w1 (I, D, RR R))
    (v3 : (¬ n < 1) → (n ≤ 8) → (¬ (I ((R 113 t).getD 0) 0) = 0) → (¬ (I (248 + 3 * r) 0) = (-1)) → ((I (248 + 3 * r) 0) = 3) → ((nI n) < 0) → Q (some (.int (-12))) w1 (I, D, RR R))
    (v4 : (¬ n < 1) → (n ≤ 8) → (¬ (I ((R 113 t).getD 0) 0) = 0) → (¬ (I (248 + 3 * r) 0) = (-1)) → ((I (248 + 3 * r) 0) = 3) → (¬ (nI n) < 0) → ((I (248 + 3 * r) 1) < (nI n)) → Q (some (.int (-12))) w1 (I, D, RR R))
    (v5 : (¬ n < 1) → (n ≤ 8) → (¬ (I ((R 113 t).getD 0) 0) = 0) → (¬ (I (248 + 3 * r) 0) = (-1)) → ((I (248 + 3 * r) 0) = 3) → (¬ (nI n) < 0) → (¬ (I (248 + 3 * r) 1) < (nI n)) → (b < 0) → Q (some (.int (-12))) w1 (I, D, RR R))
    (v6 : (¬ n < 1) → (n ≤ 8) → (¬ (I ((R 113 t).getD 0) 0) = 0) → (¬ (I (248 + 3 * r) 0) = (-1)) → ((I (248 + 3 * r) 0) = 3) → (¬ (nI n) < 0) → (¬ (I (248 + 3 * r) 1) < (nI n)) → (¬ b < 0) → (((I (248 + 3 * r) 1) - (nI n)) < b) → Q (some (.int (-12))) w1 (I, D, RR R))
    (v7 : (¬ n < 1) → (n ≤ 8) → (¬ (I ((R 113 t).getD 0) 0) = 0) → (¬ (I (248 + 3 * r) 0) = (-1)) → ((I (248 + 3 * r) 0) = 3) → (¬ (nI n) < 0) → (¬ (I (248 + 3 * r) 1) < (nI n)) → (¬ b < 0) → (¬ ((I (248 + 3 * r) 1) - (nI n)) < b) → j_W 112 d 0 0 0 0 98 [some (.ref 0), some (.int (nI t)), some (.int 0), some (.int (nI r)), some (.int b), some (.int (nI n)), some (.ref (248 + 3 * r)), none] [] w1 (I, D, RR R) Q)
    (v8 : (¬ n < 1) → (n ≤ 8) → (¬ (I ((R 113 t).getD 0) 0) = 0) → (¬ (I (248 + 3 * r) 0) = (-1)) → (¬ (I (248 + 3 * r) 0) = 3) → Q (some (.int (-13))) w1 (I, D, RR R))
    (v9 : (¬ n < 1) → (n ≤ 8) → (¬ (I ((R 113 t).getD 0) 0) = 0) → ((I (248 + 3 * r) 0) = (-1)) → Q (some (.int (-11))) w1 (I, D, RR R))
    (v10 : (¬ n < 1) → (¬ n ≤ 8) → Q (some (.int (-2))) w1 (I, D, RR R)) : j_Call d 112 [.ref 0, .int (nI t), .int 0, .int (nI r), .int b, .int (nI n)] w1 (I, D, RR R) 0 0 Q := by
  refine q_enter (L := [some (.ref 0), some (.int (nI t)), some (.int 0), some (.int (nI r)), some (.int b), some (.int (nI n)), none, none]) j_m112 (Nat.le_of_ble_eq_true rfl) rfl ?_
  refine q_iload_n d112_0 rfl ?_
  refine q_invS (av := [.int (nI t)]) (rest := []) (d' := 0) (mc' := 0) (ms' := 0) d112_1 (cv9_183 112 rfl) rfl rfl (by omega) (Nat.le_of_ble_eq_true rfl) (Nat.le_of_ble_eq_true rfl) (Nat.le_refl _) (Nat.le_refl _) ?_
  refine r39t (by first | omega | decide)  ?_
  show j_W 112 d 0 0 0 0 4 [some (.ref 0), some (.int (nI t)), some (.int 0), some (.int (nI r)), some (.int b), some (.int (nI n)), none, none] [.int 1] w1 (I, D, RR R) Q
  refine q_if_eq (tgt := 36) d112_4 rfl (fun h => absurd h (by decide)) (fun _ => ?_)
  refine q_iload_n d112_7 rfl ?_
  refine q_if_lt (tgt := 36) d112_8 rfl (fun h => absurd h (by decide)) (fun _ => ?_)
  refine q_iload_n d112_11 rfl ?_
  refine q_iconst (v := 1) (by decide) d112_12 ?_
  refine q_icmp_gt (tgt := 36) d112_13 rfl (fun h => absurd h (by decide)) (fun _ => ?_)
  refine q_iload_n d112_16 rfl ?_
  refine q_invS (av := [.int (nI r)]) (rest := []) (d' := 0) (mc' := 0) (ms' := 0) d112_17 (cv9_216 112 rfl) rfl rfl (by omega) (Nat.le_of_ble_eq_true rfl) (Nat.le_of_ble_eq_true rfl) (Nat.le_refl _) (Nat.le_refl _) ?_
  refine r113t (by first | omega | decide)  ?_
  show j_W 112 d 0 0 0 0 20 [some (.ref 0), some (.int (nI t)), some (.int 0), some (.int (nI r)), some (.int b), some (.int (nI n)), none, none] [.int 1] w1 (I, D, RR R) Q
  refine q_if_eq (tgt := 36) d112_20 rfl (fun h => absurd h (by decide)) (fun _ => ?_)
  refine q_iload d112_23 rfl ?_
  refine q_iconst (v := 1) (by decide) d112_25 ?_
  refine q_icmp_lt (tgt := 36) d112_26 rfl (fun h1t => ?_) (fun h1f => ?_)
  ·
    have h1tc : n < 1 := (nI_ltI (by omega) (by omega)).mp h1t
    refine q_bipush (v := (-2)) (by decide) d112_36 ?_
    exact q_iret d112_38 rfl (Nat.le_refl _) (Nat.le_refl _) (v1 h1tc)
  ·
    have h1fc : ¬ n < 1 := mt (nI_ltI (by omega) (by omega)).mpr h1f
    refine q_iload d112_29 rfl ?_
    refine q_bipush (v := 8) (by decide) d112_31 ?_
    refine q_icmp_le (tgt := 39) d112_33 rfl (fun h2t => ?_) (fun h2f => ?_)
    ·
      have h2tc : n ≤ 8 := (nI_leI (by omega) (by omega)).mp h2t
      refine q_aload_n d112_39 rfl ?_
      refine q_iload_n d112_40 rfl ?_
      refine q_iload_n d112_41 rfl ?_
      refine q_invV (o := 0) (ci := 9) (av := [.int (nI t), .int 0]) (rest := []) (d' := 0) (mc' := 0) (ms' := 0) d112_42 (cv9_194 112 rfl) rfl (by decide) rfl rfl (by omega) (Nat.le_of_ble_eq_true rfl) (Nat.le_of_ble_eq_true rfl) (lt_w1 rfl) sh0 (Nat.le_refl _) (Nat.le_refl _) ?_
      refine s108_0 (t := t) hR (by first | omega | decide) (Nat.le_refl _) (fun c3 => ?_) (fun c4 => ?_)
      ·
        show j_W 112 d 0 0 0 0 45 [some (.ref 0), some (.int (nI t)), some (.int 0), some (.int (nI r)), some (.int b), some (.int (nI n)), none, none] [.int 0] w1 (I, D, RR R) Q
        refine q_if_ne (tgt := 51) d112_45 rfl (fun h => absurd h (by decide)) (fun _ => ?_)
        refine q_bipush (v := (-3)) (by decide) d112_48 ?_
        exact q_iret d112_50 rfl (Nat.le_refl _) (Nat.le_refl _) (v2 h1fc h2tc c3)
      ·
        show j_W 112 d 0 0 0 0 45 [some (.ref 0), some (.int (nI t)), some (.int 0), some (.int (nI r)), some (.int b), some (.int (nI n)), none, none] [.int 1] w1 (I, D, RR R) Q
        refine q_if_ne (tgt := 51) d112_45 rfl (fun _ => ?_) (fun h => absurd h (by decide))
        refine q_aload_n d112_51 rfl ?_
        refine q_getR (x := 105) d112_52 (fs9_32 112 rfl) rfl (lt_w1 rfl) sh0 (rs0_7 R) (by decide) ?_
        refine q_iload_n d112_55 rfl ?_
        refine q_aaload (c := 8) (a := r) (x := (248 + 3 * r)) d112_56 (lt_w1 rfl) sh105 (by decide) rfl (by omega) (rl105 R (by omega)) (lt1000 (isRw_lt (isRw_k _ (by omega)))) ?_
        refine q_astore (L' := [some (.ref 0), some (.int (nI t)), some (.int 0), some (.int (nI r)), some (.int b), some (.int (nI n)), some (.ref (248 + 3 * r)), none]) d112_57 (Nat.le_of_ble_eq_true rfl) (Nat.ne_of_lt (Nat.lt_trans (lt1000 (isRw_lt (isRw_k _ (by omega)))) (by decide))) rfl ?_
        refine q_aload d112_59 rfl ?_
        refine q_getI d112_61 (fs9_219 112 rfl) rfl (isRw_lt (isRw_k _ (by omega))) (isRw_sh (isRw_k _ (by omega))) ?_
        refine q_iconst (v := (-1)) (by decide) d112_64 ?_
        refine q_icmp_ne (tgt := 71) d112_65 rfl (fun h5t => ?_) (fun h5f => ?_)
        ·
          refine q_aload d112_71 rfl ?_
          refine q_getI d112_73 (fs9_219 112 rfl) rfl (isRw_lt (isRw_k _ (by omega))) (isRw_sh (isRw_k _ (by omega))) ?_
          refine q_iconst (v := 3) (by decide) d112_76 ?_
          refine q_icmp_eq (tgt := 83) d112_77 rfl (fun h6t => ?_) (fun h6f => ?_)
          ·
            refine q_aload d112_83 rfl ?_
            refine q_iload d112_85 rfl ?_
            refine q_iload d112_87 rfl ?_
            refine q_invV (o := (248 + 3 * r)) (ci := 6) (av := [.int b, .int (nI n)]) (rest := []) (d' := 0) (mc' := 0) (ms' := 0) d112_89 (cv9_222 112 rfl) rfl (by decide) rfl rfl (by omega) (Nat.le_of_ble_eq_true rfl) (Nat.le_of_ble_eq_true rfl) (isRw_lt (isRw_k _ (by omega))) (isRw_sh (isRw_k _ (by omega))) (Nat.le_refl _) (Nat.le_refl _) ?_
            refine s114 (r := (248 + 3 * r)) (isRw_k _ (by omega)) (Nat.le_refl _) (fun c7 => ?_) (fun c8 c9 => ?_) (fun c10 c11 c12 => ?_) (fun c13 c14 c15 c16 => ?_) (fun c17 c18 c19 c20 => ?_)
            ·
              show j_W 112 d 0 0 0 0 92 [some (.ref 0), some (.int (nI t)), some (.int 0), some (.int (nI r)), some (.int b), some (.int (nI n)), some (.ref (248 + 3 * r)), none] [.int 0] w1 (I, D, RR R) Q
              refine q_if_ne (tgt := 98) d112_92 rfl (fun h => absurd h (by decide)) (fun _ => ?_)
              refine q_bipush (v := (-12)) (by decide) d112_95 ?_
              exact q_iret d112_97 rfl (Nat.le_refl _) (Nat.le_refl _) (v3 h1fc h2tc c4 h5t h6t c7)
            ·
              show j_W 112 d 0 0 0 0 92 [some (.ref 0), some (.int (nI t)), some (.int 0), some (.int (nI r)), some (.int b), some (.int (nI n)), some (.ref (248 + 3 * r)), none] [.int 0] w1 (I, D, RR R) Q
              refine q_if_ne (tgt := 98) d112_92 rfl (fun h => absurd h (by decide)) (fun _ => ?_)
              refine q_bipush (v := (-12)) (by decide) d112_95 ?_
              exact q_iret d112_97 rfl (Nat.le_refl _) (Nat.le_refl _) (v4 h1fc h2tc c4 h5t h6t c8 c9)
            ·
              show j_W 112 d 0 0 0 0 92 [some (.ref 0), some (.int (nI t)), some (.int 0), some (.int (nI r)), some (.int b), some (.int (nI n)), some (.ref (248 + 3 * r)), none] [.int 0] w1 (I, D, RR R) Q
              refine q_if_ne (tgt := 98) d112_92 rfl (fun h => absurd h (by decide)) (fun _ => ?_)
              refine q_bipush (v := (-12)) (by decide) d112_95 ?_
              exact q_iret d112_97 rfl (Nat.le_refl _) (Nat.le_refl _) (v5 h1fc h2tc c4 h5t h6t c10 c11 c12)
            ·
              show j_W 112 d 0 0 0 0 92 [some (.ref 0), some (.int (nI t)), some (.int 0), some (.int (nI r)), some (.int b), some (.int (nI n)), some (.ref (248 + 3 * r)), none] [.int 0] w1 (I, D, RR R) Q
              refine q_if_ne (tgt := 98) d112_92 rfl (fun h => absurd h (by decide)) (fun _ => ?_)
              refine q_bipush (v := (-12)) (by decide) d112_95 ?_
              exact q_iret d112_97 rfl (Nat.le_refl _) (Nat.le_refl _) (v6 h1fc h2tc c4 h5t h6t c13 c14 c15 c16)
            ·
              show j_W 112 d 0 0 0 0 92 [some (.ref 0), some (.int (nI t)), some (.int 0), some (.int (nI r)), some (.int b), some (.int (nI n)), some (.ref (248 + 3 * r)), none] [.int 1] w1 (I, D, RR R) Q
              refine q_if_ne (tgt := 98) d112_92 rfl (fun _ => ?_) (fun h => absurd h (by decide))
              exact r_sub (L' := [some (.ref 0), some (.int (nI t)), some (.int 0), some (.int (nI r)), some (.int b), some (.int (nI n)), some (.ref (248 + 3 * r)), none]) ⟨rfl, rfl, rfl, rfl, rfl, rfl, rfl, trivial⟩ (v7 h1fc h2tc c4 h5t h6t c17 c18 c19 c20)
          ·
            refine q_bipush (v := (-13)) (by decide) d112_80 ?_
            exact q_iret d112_82 rfl (Nat.le_refl _) (Nat.le_refl _) (v8 h1fc h2tc c4 h5t h6f)
        ·
          refine q_bipush (v := (-11)) (by decide) d112_68 ?_
          exact q_iret d112_70 rfl (Nat.le_refl _) (Nat.le_refl _) (v9 h1fc h2tc c4 h5f)
    ·
      have h2fc : ¬ n ≤ 8 := mt (nI_leI (by omega) (by omega)).mpr h2f
      refine q_bipush (v := (-2)) (by decide) d112_36 ?_
      exact q_iret d112_38 rfl (Nat.le_refl _) (Nat.le_refl _) (v10 h1fc h2fc)

set_option maxRecDepth 10000 in
set_option maxHeartbeats 4000000 in
theorem s252_0 {d : Nat} {I : Nat → Nat → Int32} {D : Nat → Nat → UInt64} {R : Nat → Nat → Option Nat} {Q : j_Po} {t : Nat} {r : Nat} {b : Int32} {n : Nat}  (ht : t < 6) (hr : r < 4) (hn1 : 1 ≤ n) (hn8 : n ≤ 8) (hd : 84 ≤ d)
    (v1 : ((¬ (0 : Int32) < (0 : Int32) ∧ ¬ (1 : Int32) < (0 : Int32))) → ((¬ (nI n) < (1 : Int32) ∧ ¬ (8 : Int32) < (nI n))) → ((I 315 t) = 0) → Q (some (.int (-3))) w1 (I, D, RR R))
    (v2 : ((¬ (0 : Int32) < (0 : Int32) ∧ ¬ (1 : Int32) < (0 : Int32))) → ((¬ (nI n) < (1 : Int32) ∧ ¬ (8 : Int32) < (nI n))) → (¬ (I 315 t) = 0) → (0 ≤ (I 503 r)) → ((I 503 r) = 3) → (b < 0) → Q (some (.int (-12))) w1 (I, D, RR R))
    (v3 : ((¬ (0 : Int32) < (0 : Int32) ∧ ¬ (1 : Int32) < (0 : Int32))) → ((¬ (nI n) < (1 : Int32) ∧ ¬ (8 : Int32) < (nI n))) → (¬ (I 315 t) = 0) → (0 ≤ (I 503 r)) → ((I 503 r) = 3) → (¬ b < 0) → (b ≤ ((I 504 r) - (nI n))) → j_W 252 d 0 0 0 0 114 [some (.ref 260), some (.int (nI t)), some (.int 0), some (.int (nI r)), some (.int b), some (.int (nI n)), some (.int 0)] [] w1 (I, D, RR R) Q)
    (v4 : ((¬ (0 : Int32) < (0 : Int32) ∧ ¬ (1 : Int32) < (0 : Int32))) → ((¬ (nI n) < (1 : Int32) ∧ ¬ (8 : Int32) < (nI n))) → (¬ (I 315 t) = 0) → (0 ≤ (I 503 r)) → ((I 503 r) = 3) → (¬ b < 0) → (¬ b ≤ ((I 504 r) - (nI n))) → Q (some (.int (-12))) w1 (I, D, RR R))
    (v5 : ((¬ (0 : Int32) < (0 : Int32) ∧ ¬ (1 : Int32) < (0 : Int32))) → ((¬ (nI n) < (1 : Int32) ∧ ¬ (8 : Int32) < (nI n))) → (¬ (I 315 t) = 0) → (0 ≤ (I 503 r)) → (¬ (I 503 r) = 3) → Q (some (.int (-13))) w1 (I, D, RR R))
    (v6 : ((¬ (0 : Int32) < (0 : Int32) ∧ ¬ (1 : Int32) < (0 : Int32))) → ((¬ (nI n) < (1 : Int32) ∧ ¬ (8 : Int32) < (nI n))) → (¬ (I 315 t) = 0) → (¬ 0 ≤ (I 503 r)) → Q (some (.int (-11))) w1 (I, D, RR R))
    (v7 : ((¬ (0 : Int32) < (0 : Int32) ∧ ¬ (1 : Int32) < (0 : Int32))) → (¬ ((¬ (nI n) < (1 : Int32) ∧ ¬ (8 : Int32) < (nI n)))) → Q (some (.int (-2))) w1 (I, D, RR R))
    (v8 : (¬ ((¬ (0 : Int32) < (0 : Int32) ∧ ¬ (1 : Int32) < (0 : Int32)))) → Q (some (.int (-2))) w1 (I, D, RR R)) : j_Call d 252 [.ref 260, .int (nI t), .int 0, .int (nI r), .int b, .int (nI n)] w1 (I, D, RR R) 0 0 Q := by
  refine q_enter (L := [some (.ref 260), some (.int (nI t)), some (.int 0), some (.int (nI r)), some (.int b), some (.int (nI n)), none]) j_m252 (Nat.le_of_ble_eq_true rfl) rfl ?_
  refine q_iload_n d252_0 rfl ?_
  refine q_invS (av := [.int (nI t)]) (rest := []) (d' := 1) (mc' := 0) (ms' := 0) d252_1 (cv10_480 252 rfl) rfl rfl (by omega) (Nat.le_of_ble_eq_true rfl) (Nat.le_of_ble_eq_true rfl) (Nat.le_refl _) (Nat.le_refl _) ?_
  refine r249t (by first | omega | decide) (Nat.le_refl _)  ?_
  show j_W 252 d 0 0 0 0 4 [some (.ref 260), some (.int (nI t)), some (.int 0), some (.int (nI r)), some (.int b), some (.int (nI n)), none] [.int 1] w1 (I, D, RR R) Q
  refine q_if_eq (tgt := 34) d252_4 rfl (fun h => absurd h (by decide)) (fun _ => ?_)
  refine q_iload_n d252_7 rfl ?_
  refine q_iconst (v := 0) (by decide) d252_8 ?_
  refine q_iconst (v := 1) (by decide) d252_9 ?_
  refine q_invS (av := [.int 0, .int 0, .int 1]) (rest := []) (d' := 0) (mc' := 0) (ms' := 0) d252_10 (cv10_183 252 rfl) rfl rfl (by omega) (Nat.le_of_ble_eq_true rfl) (Nat.le_of_ble_eq_true rfl) (Nat.le_refl _) (Nat.le_refl _) ?_
  refine p168  (fun h1 => ?_) (fun h1 => ?_)
  ·
    show j_W 252 d 0 0 0 0 13 [some (.ref 260), some (.int (nI t)), some (.int 0), some (.int (nI r)), some (.int b), some (.int (nI n)), none] [.int 1] w1 (I, D, RR R) Q
    refine q_if_eq (tgt := 34) d252_13 rfl (fun h => absurd h (by decide)) (fun _ => ?_)
    refine q_iload_n d252_16 rfl ?_
    refine q_invS (av := [.int (nI r)]) (rest := []) (d' := 1) (mc' := 0) (ms' := 0) d252_17 (cv10_488 252 rfl) rfl rfl (by omega) (Nat.le_of_ble_eq_true rfl) (Nat.le_of_ble_eq_true rfl) (Nat.le_refl _) (Nat.le_refl _) ?_
    refine r253t (by first | omega | decide) (Nat.le_refl _)  ?_
    show j_W 252 d 0 0 0 0 20 [some (.ref 260), some (.int (nI t)), some (.int 0), some (.int (nI r)), some (.int b), some (.int (nI n)), none] [.int 1] w1 (I, D, RR R) Q
    refine q_if_eq (tgt := 34) d252_20 rfl (fun h => absurd h (by decide)) (fun _ => ?_)
    refine q_iload d252_23 rfl ?_
    refine q_iconst (v := 1) (by decide) d252_25 ?_
    refine q_bipush (v := 8) (by decide) d252_26 ?_
    refine q_invS (av := [.int (nI n), .int 1, .int 8]) (rest := []) (d' := 0) (mc' := 0) (ms' := 0) d252_28 (cv10_183 252 rfl) rfl rfl (by omega) (Nat.le_of_ble_eq_true rfl) (Nat.le_of_ble_eq_true rfl) (Nat.le_refl _) (Nat.le_refl _) ?_
    refine p168  (fun h2 => ?_) (fun h2 => ?_)
    ·
      show j_W 252 d 0 0 0 0 31 [some (.ref 260), some (.int (nI t)), some (.int 0), some (.int (nI r)), some (.int b), some (.int (nI n)), none] [.int 1] w1 (I, D, RR R) Q
      refine q_if_ne (tgt := 37) d252_31 rfl (fun _ => ?_) (fun h => absurd h (by decide))
      refine q_aload_n d252_37 rfl ?_
      refine q_getR (x := 315) d252_38 (fs10_34 252 rfl) rfl (lt_w1 rfl) sh260 (rs260_6 R) (by decide) ?_
      refine q_iload_n d252_41 rfl ?_
      refine q_zaload (a := t) d252_42 (lt_w1 rfl) sh315 rfl (by omega) ?_
      refine q_if_eq (tgt := 61) d252_43 rfl (fun h3t => ?_) (fun h3f => ?_)
      ·
        refine q_bipush (v := (-3)) (by decide) d252_61 ?_
        exact q_iret d252_63 rfl (Nat.le_refl _) (Nat.le_refl _) (v1 h1 h2 h3t)
      ·
        refine q_iload_n d252_46 rfl ?_
        refine q_iconst (v := 1) (by decide) d252_47 ?_
        refine q_icmp_ne (tgt := 64) d252_48 rfl (fun _ => ?_) (fun h => absurd h (by decide))
        refine q_aload_n d252_64 rfl ?_
        refine q_getR (x := 503) d252_65 (fs10_165 252 rfl) rfl (lt_w1 rfl) sh260 (rs260_70 R) (by decide) ?_
        refine q_iload_n d252_68 rfl ?_
        refine q_iaload (a := r) d252_69 (lt_w1 rfl) sh503 rfl (by omega) ?_
        refine q_if_ge (tgt := 76) d252_70 rfl (fun h4t => ?_) (fun h4f => ?_)
        ·
          refine q_aload_n d252_76 rfl ?_
          refine q_getR (x := 503) d252_77 (fs10_165 252 rfl) rfl (lt_w1 rfl) sh260 (rs260_70 R) (by decide) ?_
          refine q_iload_n d252_80 rfl ?_
          refine q_iaload (a := r) d252_81 (lt_w1 rfl) sh503 rfl (by omega) ?_
          refine q_iconst (v := 3) (by decide) d252_82 ?_
          refine q_icmp_eq (tgt := 89) d252_83 rfl (fun h5t => ?_) (fun h5f => ?_)
          ·
            refine q_iload d252_89 rfl ?_
            refine q_if_lt (tgt := 108) d252_91 rfl (fun h6t => ?_) (fun h6f => ?_)
            ·
              refine q_bipush (v := (-12)) (by decide) d252_108 ?_
              exact q_iret d252_110 rfl (Nat.le_refl _) (Nat.le_refl _) (v2 h1 h2 h3f h4t h5t h6t)
            ·
              refine q_iload d252_94 rfl ?_
              refine q_aload_n d252_96 rfl ?_
              refine q_getR (x := 504) d252_97 (fs10_168 252 rfl) rfl (lt_w1 rfl) sh260 (rs260_71 R) (by decide) ?_
              refine q_iload_n d252_100 rfl ?_
              refine q_iaload (a := r) d252_101 (lt_w1 rfl) sh504 rfl (by omega) ?_
              refine q_iload d252_102 rfl ?_
              refine q_isub d252_104 ?_
              refine q_icmp_le (tgt := 111) d252_105 rfl (fun h7t => ?_) (fun h7f => ?_)
              ·
                refine q_iconst (v := 0) (by decide) d252_111 ?_
                refine q_istore (L' := [some (.ref 260), some (.int (nI t)), some (.int 0), some (.int (nI r)), some (.int b), some (.int (nI n)), some (.int 0)]) d252_112 (Nat.le_of_ble_eq_true rfl) rfl ?_
                exact r_sub (L' := [some (.ref 260), some (.int (nI t)), some (.int 0), some (.int (nI r)), some (.int b), some (.int (nI n)), some (.int 0)]) ⟨rfl, rfl, rfl, rfl, rfl, rfl, rfl, trivial⟩ (v3 h1 h2 h3f h4t h5t h6f h7t)
              ·
                refine q_bipush (v := (-12)) (by decide) d252_108 ?_
                exact q_iret d252_110 rfl (Nat.le_refl _) (Nat.le_refl _) (v4 h1 h2 h3f h4t h5t h6f h7f)
          ·
            refine q_bipush (v := (-13)) (by decide) d252_86 ?_
            exact q_iret d252_88 rfl (Nat.le_refl _) (Nat.le_refl _) (v5 h1 h2 h3f h4t h5f)
        ·
          refine q_bipush (v := (-11)) (by decide) d252_73 ?_
          exact q_iret d252_75 rfl (Nat.le_refl _) (Nat.le_refl _) (v6 h1 h2 h3f h4f)
    ·
      show j_W 252 d 0 0 0 0 31 [some (.ref 260), some (.int (nI t)), some (.int 0), some (.int (nI r)), some (.int b), some (.int (nI n)), none] [.int 0] w1 (I, D, RR R) Q
      refine q_if_ne (tgt := 37) d252_31 rfl (fun h => absurd h (by decide)) (fun _ => ?_)
      refine q_bipush (v := (-2)) (by decide) d252_34 ?_
      exact q_iret d252_36 rfl (Nat.le_refl _) (Nat.le_refl _) (v7 h1 h2)
  ·
    show j_W 252 d 0 0 0 0 13 [some (.ref 260), some (.int (nI t)), some (.int 0), some (.int (nI r)), some (.int b), some (.int (nI n)), none] [.int 0] w1 (I, D, RR R) Q
    refine q_if_eq (tgt := 34) d252_13 rfl (fun _ => ?_) (fun h => absurd h (by decide))
    refine q_bipush (v := (-2)) (by decide) d252_34 ?_
    exact q_iret d252_36 rfl (Nat.le_refl _) (Nat.le_refl _) (v8 h1)

set_option maxRecDepth 10000 in
set_option maxHeartbeats 4000000 in
theorem s112_1 {d : Nat} {I : Nat → Nat → Int32} {D : Nat → Nat → UInt64} {R : Nat → Nat → Option Nat} {Q : j_Po} {t : Nat} {r : Nat} {b : Int32} {n : Nat}  (hR : WFR R) (ht : t < 6) (hr : r < 4) (hn1 : 1 ≤ n) (hn8 : n ≤ 8) (hd : 7 ≤ d)
    (v1 : (n < 1) → Q (some (.int (-2))) w1 (I, D, RR R))
    (v2 : (¬ n < 1) → (n ≤ 8) → ((I ((R 113 t).getD 0) 0) = 0) → Q (some (.int (-3))) w1 (I, D, RR R))
    (v3 : (¬ n < 1) → (n ≤ 8) → (¬ (I ((R 113 t).getD 0) 0) = 0) → ((I ((R 113 t).getD 0) 3) = (-1)) → Q (some (.int (-3))) w1 (I, D, RR R))
    (v4 : (¬ n < 1) → (n ≤ 8) → (¬ (I ((R 113 t).getD 0) 0) = 0) → (¬ (I ((R 113 t).getD 0) 3) = (-1)) → (¬ (I (248 + 3 * r) 0) = (-1)) → ((I (248 + 3 * r) 0) = 3) → ((nI n) < 0) → Q (some (.int (-12))) w1 (I, D, RR R))
    (v5 : (¬ n < 1) → (n ≤ 8) → (¬ (I ((R 113 t).getD 0) 0) = 0) → (¬ (I ((R 113 t).getD 0) 3) = (-1)) → (¬ (I (248 + 3 * r) 0) = (-1)) → ((I (248 + 3 * r) 0) = 3) → (¬ (nI n) < 0) → ((I (248 + 3 * r) 1) < (nI n)) → Q (some (.int (-12))) w1 (I, D, RR R))
    (v6 : (¬ n < 1) → (n ≤ 8) → (¬ (I ((R 113 t).getD 0) 0) = 0) → (¬ (I ((R 113 t).getD 0) 3) = (-1)) → (¬ (I (248 + 3 * r) 0) = (-1)) → ((I (248 + 3 * r) 0) = 3) → (¬ (nI n) < 0) → (¬ (I (248 + 3 * r) 1) < (nI n)) → (b < 0) → Q (some (.int (-12))) w1 (I, D, RR R))
    (v7 : (¬ n < 1) → (n ≤ 8) → (¬ (I ((R 113 t).getD 0) 0) = 0) → (¬ (I ((R 113 t).getD 0) 3) = (-1)) → (¬ (I (248 + 3 * r) 0) = (-1)) → ((I (248 + 3 * r) 0) = 3) → (¬ (nI n) < 0) → (¬ (I (248 + 3 * r) 1) < (nI n)) → (¬ b < 0) → (((I (248 + 3 * r) 1) - (nI n)) < b) → Q (some (.int (-12))) w1 (I, D, RR R))
    (v8 : (¬ n < 1) → (n ≤ 8) → (¬ (I ((R 113 t).getD 0) 0) = 0) → (¬ (I ((R 113 t).getD 0) 3) = (-1)) → (¬ (I (248 + 3 * r) 0) = (-1)) → ((I (248 + 3 * r) 0) = 3) → (¬ (nI n) < 0) → (¬ (I (248 + 3 * r) 1) < (nI n)) → (¬ b < 0) → (¬ ((I (248 + 3 * r) 1) - (nI n)) < b) → j_W 112 d 0 0 0 0 98 [some (.ref 0), some (.int (nI t)), some (.int 1), some (.int (nI r)), some (.int b), some (.int (nI n)), some (.ref (248 + 3 * r)), none] [] w1 (I, D, RR R) Q)
    (v9 : (¬ n < 1) → (n ≤ 8) → (¬ (I ((R 113 t).getD 0) 0) = 0) → (¬ (I ((R 113 t).getD 0) 3) = (-1)) → (¬ (I (248 + 3 * r) 0) = (-1)) → (¬ (I (248 + 3 * r) 0) = 3) → Q (some (.int (-13))) w1 (I, D, RR R))
    (v10 : (¬ n < 1) → (n ≤ 8) → (¬ (I ((R 113 t).getD 0) 0) = 0) → (¬ (I ((R 113 t).getD 0) 3) = (-1)) → ((I (248 + 3 * r) 0) = (-1)) → Q (some (.int (-11))) w1 (I, D, RR R))
    (v11 : (¬ n < 1) → (¬ n ≤ 8) → Q (some (.int (-2))) w1 (I, D, RR R)) : j_Call d 112 [.ref 0, .int (nI t), .int 1, .int (nI r), .int b, .int (nI n)] w1 (I, D, RR R) 0 0 Q := by
  refine q_enter (L := [some (.ref 0), some (.int (nI t)), some (.int 1), some (.int (nI r)), some (.int b), some (.int (nI n)), none, none]) j_m112 (Nat.le_of_ble_eq_true rfl) rfl ?_
  refine q_iload_n d112_0 rfl ?_
  refine q_invS (av := [.int (nI t)]) (rest := []) (d' := 0) (mc' := 0) (ms' := 0) d112_1 (cv9_183 112 rfl) rfl rfl (by omega) (Nat.le_of_ble_eq_true rfl) (Nat.le_of_ble_eq_true rfl) (Nat.le_refl _) (Nat.le_refl _) ?_
  refine r39t (by first | omega | decide)  ?_
  show j_W 112 d 0 0 0 0 4 [some (.ref 0), some (.int (nI t)), some (.int 1), some (.int (nI r)), some (.int b), some (.int (nI n)), none, none] [.int 1] w1 (I, D, RR R) Q
  refine q_if_eq (tgt := 36) d112_4 rfl (fun h => absurd h (by decide)) (fun _ => ?_)
  refine q_iload_n d112_7 rfl ?_
  refine q_if_lt (tgt := 36) d112_8 rfl (fun h => absurd h (by decide)) (fun _ => ?_)
  refine q_iload_n d112_11 rfl ?_
  refine q_iconst (v := 1) (by decide) d112_12 ?_
  refine q_icmp_gt (tgt := 36) d112_13 rfl (fun h => absurd h (by decide)) (fun _ => ?_)
  refine q_iload_n d112_16 rfl ?_
  refine q_invS (av := [.int (nI r)]) (rest := []) (d' := 0) (mc' := 0) (ms' := 0) d112_17 (cv9_216 112 rfl) rfl rfl (by omega) (Nat.le_of_ble_eq_true rfl) (Nat.le_of_ble_eq_true rfl) (Nat.le_refl _) (Nat.le_refl _) ?_
  refine r113t (by first | omega | decide)  ?_
  show j_W 112 d 0 0 0 0 20 [some (.ref 0), some (.int (nI t)), some (.int 1), some (.int (nI r)), some (.int b), some (.int (nI n)), none, none] [.int 1] w1 (I, D, RR R) Q
  refine q_if_eq (tgt := 36) d112_20 rfl (fun h => absurd h (by decide)) (fun _ => ?_)
  refine q_iload d112_23 rfl ?_
  refine q_iconst (v := 1) (by decide) d112_25 ?_
  refine q_icmp_lt (tgt := 36) d112_26 rfl (fun h1t => ?_) (fun h1f => ?_)
  ·
    have h1tc : n < 1 := (nI_ltI (by omega) (by omega)).mp h1t
    refine q_bipush (v := (-2)) (by decide) d112_36 ?_
    exact q_iret d112_38 rfl (Nat.le_refl _) (Nat.le_refl _) (v1 h1tc)
  ·
    have h1fc : ¬ n < 1 := mt (nI_ltI (by omega) (by omega)).mpr h1f
    refine q_iload d112_29 rfl ?_
    refine q_bipush (v := 8) (by decide) d112_31 ?_
    refine q_icmp_le (tgt := 39) d112_33 rfl (fun h2t => ?_) (fun h2f => ?_)
    ·
      have h2tc : n ≤ 8 := (nI_leI (by omega) (by omega)).mp h2t
      refine q_aload_n d112_39 rfl ?_
      refine q_iload_n d112_40 rfl ?_
      refine q_iload_n d112_41 rfl ?_
      refine q_invV (o := 0) (ci := 9) (av := [.int (nI t), .int 1]) (rest := []) (d' := 0) (mc' := 0) (ms' := 0) d112_42 (cv9_194 112 rfl) rfl (by decide) rfl rfl (by omega) (Nat.le_of_ble_eq_true rfl) (Nat.le_of_ble_eq_true rfl) (lt_w1 rfl) sh0 (Nat.le_refl _) (Nat.le_refl _) ?_
      refine s108_1 (t := t) hR (by first | omega | decide) (Nat.le_refl _) (fun c3 => ?_) (fun c4 c5 => ?_) (fun c6 c7 => ?_)
      ·
        show j_W 112 d 0 0 0 0 45 [some (.ref 0), some (.int (nI t)), some (.int 1), some (.int (nI r)), some (.int b), some (.int (nI n)), none, none] [.int 0] w1 (I, D, RR R) Q
        refine q_if_ne (tgt := 51) d112_45 rfl (fun h => absurd h (by decide)) (fun _ => ?_)
        refine q_bipush (v := (-3)) (by decide) d112_48 ?_
        exact q_iret d112_50 rfl (Nat.le_refl _) (Nat.le_refl _) (v2 h1fc h2tc c3)
      ·
        show j_W 112 d 0 0 0 0 45 [some (.ref 0), some (.int (nI t)), some (.int 1), some (.int (nI r)), some (.int b), some (.int (nI n)), none, none] [.int 0] w1 (I, D, RR R) Q
        refine q_if_ne (tgt := 51) d112_45 rfl (fun h => absurd h (by decide)) (fun _ => ?_)
        refine q_bipush (v := (-3)) (by decide) d112_48 ?_
        exact q_iret d112_50 rfl (Nat.le_refl _) (Nat.le_refl _) (v3 h1fc h2tc c4 c5)
      ·
        show j_W 112 d 0 0 0 0 45 [some (.ref 0), some (.int (nI t)), some (.int 1), some (.int (nI r)), some (.int b), some (.int (nI n)), none, none] [.int 1] w1 (I, D, RR R) Q
        refine q_if_ne (tgt := 51) d112_45 rfl (fun _ => ?_) (fun h => absurd h (by decide))
        refine q_aload_n d112_51 rfl ?_
        refine q_getR (x := 105) d112_52 (fs9_32 112 rfl) rfl (lt_w1 rfl) sh0 (rs0_7 R) (by decide) ?_
        refine q_iload_n d112_55 rfl ?_
        refine q_aaload (c := 8) (a := r) (x := (248 + 3 * r)) d112_56 (lt_w1 rfl) sh105 (by decide) rfl (by omega) (rl105 R (by omega)) (lt1000 (isRw_lt (isRw_k _ (by omega)))) ?_
        refine q_astore (L' := [some (.ref 0), some (.int (nI t)), some (.int 1), some (.int (nI r)), some (.int b), some (.int (nI n)), some (.ref (248 + 3 * r)), none]) d112_57 (Nat.le_of_ble_eq_true rfl) (Nat.ne_of_lt (Nat.lt_trans (lt1000 (isRw_lt (isRw_k _ (by omega)))) (by decide))) rfl ?_
        refine q_aload d112_59 rfl ?_
        refine q_getI d112_61 (fs9_219 112 rfl) rfl (isRw_lt (isRw_k _ (by omega))) (isRw_sh (isRw_k _ (by omega))) ?_
        refine q_iconst (v := (-1)) (by decide) d112_64 ?_
        refine q_icmp_ne (tgt := 71) d112_65 rfl (fun h8t => ?_) (fun h8f => ?_)
        ·
          refine q_aload d112_71 rfl ?_
          refine q_getI d112_73 (fs9_219 112 rfl) rfl (isRw_lt (isRw_k _ (by omega))) (isRw_sh (isRw_k _ (by omega))) ?_
          refine q_iconst (v := 3) (by decide) d112_76 ?_
          refine q_icmp_eq (tgt := 83) d112_77 rfl (fun h9t => ?_) (fun h9f => ?_)
          ·
            refine q_aload d112_83 rfl ?_
            refine q_iload d112_85 rfl ?_
            refine q_iload d112_87 rfl ?_
            refine q_invV (o := (248 + 3 * r)) (ci := 6) (av := [.int b, .int (nI n)]) (rest := []) (d' := 0) (mc' := 0) (ms' := 0) d112_89 (cv9_222 112 rfl) rfl (by decide) rfl rfl (by omega) (Nat.le_of_ble_eq_true rfl) (Nat.le_of_ble_eq_true rfl) (isRw_lt (isRw_k _ (by omega))) (isRw_sh (isRw_k _ (by omega))) (Nat.le_refl _) (Nat.le_refl _) ?_
            refine s114 (r := (248 + 3 * r)) (isRw_k _ (by omega)) (Nat.le_refl _) (fun c10 => ?_) (fun c11 c12 => ?_) (fun c13 c14 c15 => ?_) (fun c16 c17 c18 c19 => ?_) (fun c20 c21 c22 c23 => ?_)
            ·
              show j_W 112 d 0 0 0 0 92 [some (.ref 0), some (.int (nI t)), some (.int 1), some (.int (nI r)), some (.int b), some (.int (nI n)), some (.ref (248 + 3 * r)), none] [.int 0] w1 (I, D, RR R) Q
              refine q_if_ne (tgt := 98) d112_92 rfl (fun h => absurd h (by decide)) (fun _ => ?_)
              refine q_bipush (v := (-12)) (by decide) d112_95 ?_
              exact q_iret d112_97 rfl (Nat.le_refl _) (Nat.le_refl _) (v4 h1fc h2tc c6 c7 h8t h9t c10)
            ·
              show j_W 112 d 0 0 0 0 92 [some (.ref 0), some (.int (nI t)), some (.int 1), some (.int (nI r)), some (.int b), some (.int (nI n)), some (.ref (248 + 3 * r)), none] [.int 0] w1 (I, D, RR R) Q
              refine q_if_ne (tgt := 98) d112_92 rfl (fun h => absurd h (by decide)) (fun _ => ?_)
              refine q_bipush (v := (-12)) (by decide) d112_95 ?_
              exact q_iret d112_97 rfl (Nat.le_refl _) (Nat.le_refl _) (v5 h1fc h2tc c6 c7 h8t h9t c11 c12)
            ·
              show j_W 112 d 0 0 0 0 92 [some (.ref 0), some (.int (nI t)), some (.int 1), some (.int (nI r)), some (.int b), some (.int (nI n)), some (.ref (248 + 3 * r)), none] [.int 0] w1 (I, D, RR R) Q
              refine q_if_ne (tgt := 98) d112_92 rfl (fun h => absurd h (by decide)) (fun _ => ?_)
              refine q_bipush (v := (-12)) (by decide) d112_95 ?_
              exact q_iret d112_97 rfl (Nat.le_refl _) (Nat.le_refl _) (v6 h1fc h2tc c6 c7 h8t h9t c13 c14 c15)
            ·
              show j_W 112 d 0 0 0 0 92 [some (.ref 0), some (.int (nI t)), some (.int 1), some (.int (nI r)), some (.int b), some (.int (nI n)), some (.ref (248 + 3 * r)), none] [.int 0] w1 (I, D, RR R) Q
              refine q_if_ne (tgt := 98) d112_92 rfl (fun h => absurd h (by decide)) (fun _ => ?_)
              refine q_bipush (v := (-12)) (by decide) d112_95 ?_
              exact q_iret d112_97 rfl (Nat.le_refl _) (Nat.le_refl _) (v7 h1fc h2tc c6 c7 h8t h9t c16 c17 c18 c19)
            ·
              show j_W 112 d 0 0 0 0 92 [some (.ref 0), some (.int (nI t)), some (.int 1), some (.int (nI r)), some (.int b), some (.int (nI n)), some (.ref (248 + 3 * r)), none] [.int 1] w1 (I, D, RR R) Q
              refine q_if_ne (tgt := 98) d112_92 rfl (fun _ => ?_) (fun h => absurd h (by decide))
              exact r_sub (L' := [some (.ref 0), some (.int (nI t)), some (.int 1), some (.int (nI r)), some (.int b), some (.int (nI n)), some (.ref (248 + 3 * r)), none]) ⟨rfl, rfl, rfl, rfl, rfl, rfl, rfl, trivial⟩ (v8 h1fc h2tc c6 c7 h8t h9t c20 c21 c22 c23)
          ·
            refine q_bipush (v := (-13)) (by decide) d112_80 ?_
            exact q_iret d112_82 rfl (Nat.le_refl _) (Nat.le_refl _) (v9 h1fc h2tc c6 c7 h8t h9f)
        ·
          refine q_bipush (v := (-11)) (by decide) d112_68 ?_
          exact q_iret d112_70 rfl (Nat.le_refl _) (Nat.le_refl _) (v10 h1fc h2tc c6 c7 h8f)
    ·
      have h2fc : ¬ n ≤ 8 := mt (nI_leI (by omega) (by omega)).mpr h2f
      refine q_bipush (v := (-2)) (by decide) d112_36 ?_
      exact q_iret d112_38 rfl (Nat.le_refl _) (Nat.le_refl _) (v11 h1fc h2fc)

set_option maxRecDepth 10000 in
set_option maxHeartbeats 4000000 in
theorem s252_1 {d : Nat} {I : Nat → Nat → Int32} {D : Nat → Nat → UInt64} {R : Nat → Nat → Option Nat} {Q : j_Po} {t : Nat} {r : Nat} {b : Int32} {n : Nat}  (ht : t < 6) (hr : r < 4) (hn1 : 1 ≤ n) (hn8 : n ≤ 8) (hd : 84 ≤ d)
    (v1 : ((¬ (1 : Int32) < (0 : Int32) ∧ ¬ (1 : Int32) < (1 : Int32))) → ((¬ (nI n) < (1 : Int32) ∧ ¬ (8 : Int32) < (nI n))) → ((I 315 t) = 0) → Q (some (.int (-3))) w1 (I, D, RR R))
    (v2 : ((¬ (1 : Int32) < (0 : Int32) ∧ ¬ (1 : Int32) < (1 : Int32))) → ((¬ (nI n) < (1 : Int32) ∧ ¬ (8 : Int32) < (nI n))) → (¬ (I 315 t) = 0) → (¬ (I 318 t) = (-1)) → (0 ≤ (I 503 r)) → ((I 503 r) = 3) → (b < 0) → Q (some (.int (-12))) w1 (I, D, RR R))
    (v3 : ((¬ (1 : Int32) < (0 : Int32) ∧ ¬ (1 : Int32) < (1 : Int32))) → ((¬ (nI n) < (1 : Int32) ∧ ¬ (8 : Int32) < (nI n))) → (¬ (I 315 t) = 0) → (¬ (I 318 t) = (-1)) → (0 ≤ (I 503 r)) → ((I 503 r) = 3) → (¬ b < 0) → (b ≤ ((I 504 r) - (nI n))) → j_W 252 d 0 0 0 0 114 [some (.ref 260), some (.int (nI t)), some (.int 1), some (.int (nI r)), some (.int b), some (.int (nI n)), some (.int 0)] [] w1 (I, D, RR R) Q)
    (v4 : ((¬ (1 : Int32) < (0 : Int32) ∧ ¬ (1 : Int32) < (1 : Int32))) → ((¬ (nI n) < (1 : Int32) ∧ ¬ (8 : Int32) < (nI n))) → (¬ (I 315 t) = 0) → (¬ (I 318 t) = (-1)) → (0 ≤ (I 503 r)) → ((I 503 r) = 3) → (¬ b < 0) → (¬ b ≤ ((I 504 r) - (nI n))) → Q (some (.int (-12))) w1 (I, D, RR R))
    (v5 : ((¬ (1 : Int32) < (0 : Int32) ∧ ¬ (1 : Int32) < (1 : Int32))) → ((¬ (nI n) < (1 : Int32) ∧ ¬ (8 : Int32) < (nI n))) → (¬ (I 315 t) = 0) → (¬ (I 318 t) = (-1)) → (0 ≤ (I 503 r)) → (¬ (I 503 r) = 3) → Q (some (.int (-13))) w1 (I, D, RR R))
    (v6 : ((¬ (1 : Int32) < (0 : Int32) ∧ ¬ (1 : Int32) < (1 : Int32))) → ((¬ (nI n) < (1 : Int32) ∧ ¬ (8 : Int32) < (nI n))) → (¬ (I 315 t) = 0) → (¬ (I 318 t) = (-1)) → (¬ 0 ≤ (I 503 r)) → Q (some (.int (-11))) w1 (I, D, RR R))
    (v7 : ((¬ (1 : Int32) < (0 : Int32) ∧ ¬ (1 : Int32) < (1 : Int32))) → ((¬ (nI n) < (1 : Int32) ∧ ¬ (8 : Int32) < (nI n))) → (¬ (I 315 t) = 0) → ((I 318 t) = (-1)) → Q (some (.int (-3))) w1 (I, D, RR R))
    (v8 : ((¬ (1 : Int32) < (0 : Int32) ∧ ¬ (1 : Int32) < (1 : Int32))) → (¬ ((¬ (nI n) < (1 : Int32) ∧ ¬ (8 : Int32) < (nI n)))) → Q (some (.int (-2))) w1 (I, D, RR R))
    (v9 : (¬ ((¬ (1 : Int32) < (0 : Int32) ∧ ¬ (1 : Int32) < (1 : Int32)))) → Q (some (.int (-2))) w1 (I, D, RR R)) : j_Call d 252 [.ref 260, .int (nI t), .int 1, .int (nI r), .int b, .int (nI n)] w1 (I, D, RR R) 0 0 Q := by
  refine q_enter (L := [some (.ref 260), some (.int (nI t)), some (.int 1), some (.int (nI r)), some (.int b), some (.int (nI n)), none]) j_m252 (Nat.le_of_ble_eq_true rfl) rfl ?_
  refine q_iload_n d252_0 rfl ?_
  refine q_invS (av := [.int (nI t)]) (rest := []) (d' := 1) (mc' := 0) (ms' := 0) d252_1 (cv10_480 252 rfl) rfl rfl (by omega) (Nat.le_of_ble_eq_true rfl) (Nat.le_of_ble_eq_true rfl) (Nat.le_refl _) (Nat.le_refl _) ?_
  refine r249t (by first | omega | decide) (Nat.le_refl _)  ?_
  show j_W 252 d 0 0 0 0 4 [some (.ref 260), some (.int (nI t)), some (.int 1), some (.int (nI r)), some (.int b), some (.int (nI n)), none] [.int 1] w1 (I, D, RR R) Q
  refine q_if_eq (tgt := 34) d252_4 rfl (fun h => absurd h (by decide)) (fun _ => ?_)
  refine q_iload_n d252_7 rfl ?_
  refine q_iconst (v := 0) (by decide) d252_8 ?_
  refine q_iconst (v := 1) (by decide) d252_9 ?_
  refine q_invS (av := [.int 1, .int 0, .int 1]) (rest := []) (d' := 0) (mc' := 0) (ms' := 0) d252_10 (cv10_183 252 rfl) rfl rfl (by omega) (Nat.le_of_ble_eq_true rfl) (Nat.le_of_ble_eq_true rfl) (Nat.le_refl _) (Nat.le_refl _) ?_
  refine p168  (fun h1 => ?_) (fun h1 => ?_)
  ·
    show j_W 252 d 0 0 0 0 13 [some (.ref 260), some (.int (nI t)), some (.int 1), some (.int (nI r)), some (.int b), some (.int (nI n)), none] [.int 1] w1 (I, D, RR R) Q
    refine q_if_eq (tgt := 34) d252_13 rfl (fun h => absurd h (by decide)) (fun _ => ?_)
    refine q_iload_n d252_16 rfl ?_
    refine q_invS (av := [.int (nI r)]) (rest := []) (d' := 1) (mc' := 0) (ms' := 0) d252_17 (cv10_488 252 rfl) rfl rfl (by omega) (Nat.le_of_ble_eq_true rfl) (Nat.le_of_ble_eq_true rfl) (Nat.le_refl _) (Nat.le_refl _) ?_
    refine r253t (by first | omega | decide) (Nat.le_refl _)  ?_
    show j_W 252 d 0 0 0 0 20 [some (.ref 260), some (.int (nI t)), some (.int 1), some (.int (nI r)), some (.int b), some (.int (nI n)), none] [.int 1] w1 (I, D, RR R) Q
    refine q_if_eq (tgt := 34) d252_20 rfl (fun h => absurd h (by decide)) (fun _ => ?_)
    refine q_iload d252_23 rfl ?_
    refine q_iconst (v := 1) (by decide) d252_25 ?_
    refine q_bipush (v := 8) (by decide) d252_26 ?_
    refine q_invS (av := [.int (nI n), .int 1, .int 8]) (rest := []) (d' := 0) (mc' := 0) (ms' := 0) d252_28 (cv10_183 252 rfl) rfl rfl (by omega) (Nat.le_of_ble_eq_true rfl) (Nat.le_of_ble_eq_true rfl) (Nat.le_refl _) (Nat.le_refl _) ?_
    refine p168  (fun h2 => ?_) (fun h2 => ?_)
    ·
      show j_W 252 d 0 0 0 0 31 [some (.ref 260), some (.int (nI t)), some (.int 1), some (.int (nI r)), some (.int b), some (.int (nI n)), none] [.int 1] w1 (I, D, RR R) Q
      refine q_if_ne (tgt := 37) d252_31 rfl (fun _ => ?_) (fun h => absurd h (by decide))
      refine q_aload_n d252_37 rfl ?_
      refine q_getR (x := 315) d252_38 (fs10_34 252 rfl) rfl (lt_w1 rfl) sh260 (rs260_6 R) (by decide) ?_
      refine q_iload_n d252_41 rfl ?_
      refine q_zaload (a := t) d252_42 (lt_w1 rfl) sh315 rfl (by omega) ?_
      refine q_if_eq (tgt := 61) d252_43 rfl (fun h3t => ?_) (fun h3f => ?_)
      ·
        refine q_bipush (v := (-3)) (by decide) d252_61 ?_
        exact q_iret d252_63 rfl (Nat.le_refl _) (Nat.le_refl _) (v1 h1 h2 h3t)
      ·
        refine q_iload_n d252_46 rfl ?_
        refine q_iconst (v := 1) (by decide) d252_47 ?_
        refine q_icmp_ne (tgt := 64) d252_48 rfl (fun h => absurd h (by decide)) (fun _ => ?_)
        refine q_aload_n d252_51 rfl ?_
        refine q_getR (x := 318) d252_52 (fs10_43 252 rfl) rfl (lt_w1 rfl) sh260 (rs260_9 R) (by decide) ?_
        refine q_iload_n d252_55 rfl ?_
        refine q_iaload (a := t) d252_56 (lt_w1 rfl) sh318 rfl (by omega) ?_
        refine q_iconst (v := (-1)) (by decide) d252_57 ?_
        refine q_icmp_ne (tgt := 64) d252_58 rfl (fun h4t => ?_) (fun h4f => ?_)
        ·
          refine q_aload_n d252_64 rfl ?_
          refine q_getR (x := 503) d252_65 (fs10_165 252 rfl) rfl (lt_w1 rfl) sh260 (rs260_70 R) (by decide) ?_
          refine q_iload_n d252_68 rfl ?_
          refine q_iaload (a := r) d252_69 (lt_w1 rfl) sh503 rfl (by omega) ?_
          refine q_if_ge (tgt := 76) d252_70 rfl (fun h5t => ?_) (fun h5f => ?_)
          ·
            refine q_aload_n d252_76 rfl ?_
            refine q_getR (x := 503) d252_77 (fs10_165 252 rfl) rfl (lt_w1 rfl) sh260 (rs260_70 R) (by decide) ?_
            refine q_iload_n d252_80 rfl ?_
            refine q_iaload (a := r) d252_81 (lt_w1 rfl) sh503 rfl (by omega) ?_
            refine q_iconst (v := 3) (by decide) d252_82 ?_
            refine q_icmp_eq (tgt := 89) d252_83 rfl (fun h6t => ?_) (fun h6f => ?_)
            ·
              refine q_iload d252_89 rfl ?_
              refine q_if_lt (tgt := 108) d252_91 rfl (fun h7t => ?_) (fun h7f => ?_)
              ·
                refine q_bipush (v := (-12)) (by decide) d252_108 ?_
                exact q_iret d252_110 rfl (Nat.le_refl _) (Nat.le_refl _) (v2 h1 h2 h3f h4t h5t h6t h7t)
              ·
                refine q_iload d252_94 rfl ?_
                refine q_aload_n d252_96 rfl ?_
                refine q_getR (x := 504) d252_97 (fs10_168 252 rfl) rfl (lt_w1 rfl) sh260 (rs260_71 R) (by decide) ?_
                refine q_iload_n d252_100 rfl ?_
                refine q_iaload (a := r) d252_101 (lt_w1 rfl) sh504 rfl (by omega) ?_
                refine q_iload d252_102 rfl ?_
                refine q_isub d252_104 ?_
                refine q_icmp_le (tgt := 111) d252_105 rfl (fun h8t => ?_) (fun h8f => ?_)
                ·
                  refine q_iconst (v := 0) (by decide) d252_111 ?_
                  refine q_istore (L' := [some (.ref 260), some (.int (nI t)), some (.int 1), some (.int (nI r)), some (.int b), some (.int (nI n)), some (.int 0)]) d252_112 (Nat.le_of_ble_eq_true rfl) rfl ?_
                  exact r_sub (L' := [some (.ref 260), some (.int (nI t)), some (.int 1), some (.int (nI r)), some (.int b), some (.int (nI n)), some (.int 0)]) ⟨rfl, rfl, rfl, rfl, rfl, rfl, rfl, trivial⟩ (v3 h1 h2 h3f h4t h5t h6t h7f h8t)
                ·
                  refine q_bipush (v := (-12)) (by decide) d252_108 ?_
                  exact q_iret d252_110 rfl (Nat.le_refl _) (Nat.le_refl _) (v4 h1 h2 h3f h4t h5t h6t h7f h8f)
            ·
              refine q_bipush (v := (-13)) (by decide) d252_86 ?_
              exact q_iret d252_88 rfl (Nat.le_refl _) (Nat.le_refl _) (v5 h1 h2 h3f h4t h5t h6f)
          ·
            refine q_bipush (v := (-11)) (by decide) d252_73 ?_
            exact q_iret d252_75 rfl (Nat.le_refl _) (Nat.le_refl _) (v6 h1 h2 h3f h4t h5f)
        ·
          refine q_bipush (v := (-3)) (by decide) d252_61 ?_
          exact q_iret d252_63 rfl (Nat.le_refl _) (Nat.le_refl _) (v7 h1 h2 h3f h4f)
    ·
      show j_W 252 d 0 0 0 0 31 [some (.ref 260), some (.int (nI t)), some (.int 1), some (.int (nI r)), some (.int b), some (.int (nI n)), none] [.int 0] w1 (I, D, RR R) Q
      refine q_if_ne (tgt := 37) d252_31 rfl (fun h => absurd h (by decide)) (fun _ => ?_)
      refine q_bipush (v := (-2)) (by decide) d252_34 ?_
      exact q_iret d252_36 rfl (Nat.le_refl _) (Nat.le_refl _) (v8 h1 h2)
  ·
    show j_W 252 d 0 0 0 0 13 [some (.ref 260), some (.int (nI t)), some (.int 1), some (.int (nI r)), some (.int b), some (.int (nI n)), none] [.int 0] w1 (I, D, RR R) Q
    refine q_if_eq (tgt := 34) d252_13 rfl (fun _ => ?_) (fun h => absurd h (by decide))
    refine q_bipush (v := (-2)) (by decide) d252_34 ?_
    exact q_iret d252_36 rfl (Nat.le_refl _) (Nat.le_refl _) (v9 h1)

section HF
variable {d : Nat} {I : Nat → Nat → Int32} {D : Nat → Nat → UInt64} {R : Nat → Nat → Option Nat} {Q : j_Po}
theorem l115 {g i n : Nat} (hg : isRw g) (hi : i + n ≤ 64) (h1q : (∃ k, k < n ∧ ¬ I (g + 2) (i + k) = 0) → Q (some (.int 1)) w1 (I, D, RR R)) (h0q : (∀ k, k < n → I (g + 2) (i + k) = 0) → Q (some (.int 0)) w1 (I, D, RR R)) (m : Nat) : ∀ k, k ≤ n → n - k = m → (∀ j, j < k → I (g + 2) (i + j) = 0) → j_W 115 d 0 0 0 0 2 [some (.ref g), some (.int (nI i)), some (.int (nI n)), some (.int (nI (i + k)))] [] w1 (I, D, RR R) Q := by
  induction m with
  | zero =>
    intro k hk hm hz
    have : k = n := by omega
    subst this
    refine s115h hg hi (by omega) (Nat.zero_le _) (fun _ => h0q hz) (fun h => absurd (Nat.le_refl _) h) (fun h => absurd (Nat.le_refl _) h) (fun h => absurd (Nat.le_refl _) h)
  | succ m ih =>
    intro k hk hm hz
    refine s115h hg hi (by omega) (Nat.zero_le _) (fun h => absurd h (by omega)) (fun _ h => absurd h (by omega)) (fun _ _ h => ?_) (fun _ _ h => h1q ⟨k, by omega, h⟩)
    refine ih (k + 1) (by omega) (by omega) (fun j hj => ?_)
    by_cases e : j = k
    · subst e; exact h
    · exact hz j (by omega)
theorem c115 {g i n : Nat} (hg : isRw g) (hi : i + n ≤ 64) (h1q : (∃ k, k < n ∧ ¬ I (g + 2) (i + k) = 0) → Q (some (.int 1)) w1 (I, D, RR R)) (h0q : (∀ k, k < n → I (g + 2) (i + k) = 0) → Q (some (.int 0)) w1 (I, D, RR R)) : j_Call d 115 [.ref g, .int (nI i), .int (nI n)] w1 (I, D, RR R) 0 0 Q :=
  s115e hg (Nat.zero_le _) (l115 hg hi h1q h0q n 0 (Nat.zero_le _) rfl (fun j hj => absurd hj (Nat.not_lt_zero _)))
end HF
set_option maxRecDepth 10000 in
set_option maxHeartbeats 4000000 in
theorem s112h_0 {d : Nat} {I : Nat → Nat → Int32} {D : Nat → Nat → UInt64} {R : Nat → Nat → Option Nat} {Q : j_Po} {t : Nat} {r : Nat} {i : Nat} {n : Nat}  (hR : WFR R) (ht : t < 6) (hr : r < 4) (hn1 : 1 ≤ n) (hn8 : n ≤ 8) (hi : i + n ≤ 64) (hd : 7 ≤ d)
    (v1 : i + n ≤ 64)
    (v2 : (∃ k, k < n ∧ ¬ I ((248 + 3 * r) + 2) (i + k) = 0) → Q (some (.int (-3))) w1 (I, D, RR R))
    (v3 : (∀ k, k < n → I ((248 + 3 * r) + 2) (i + k) = 0) → ∀ i j, i ≤ 2 → j ≤ 2 → ((R 0 6).getD 0) + i ≠ ((R 113 t).getD 0) + j)
    (v4 : (∀ k, k < n → I ((248 + 3 * r) + 2) (i + k) = 0) → I ((R 113 t).getD 0) 0 = 0 ∨ I ((R 113 t).getD 0) 0 = 1)
    (v5 : (∀ k, k < n → I ((248 + 3 * r) + 2) (i + k) = 0) → ∀ J6 : Nat → Nat → Int32, ∀ E7 : Nat → Nat → UInt64, (∀ o, o ≠ ((R 0 6).getD 0) → J6 o = I o) → (∀ i, i < 6 → J6 ((R 0 6).getD 0) i = I ((R 113 t).getD 0) i) → (∀ o, o ≠ ((R 0 6).getD 0) + 1 → o ≠ ((R 0 6).getD 0) + 2 → E7 o = D o) → (∀ k, k < 8 → E7 (((R 0 6).getD 0) + 1) k = D (((R 113 t).getD 0) + 1) k) → (∀ k, k < 8 → E7 (((R 0 6).getD 0) + 2) k = D (((R 113 t).getD 0) + 2) k) → j_W 112 d 0 0 0 0 132 [some (.ref 0), some (.int (nI t)), some (.int 0), some (.int (nI r)), some (.int (nI i)), some (.int (nI n)), some (.ref (248 + 3 * r)), some (.int 0)] [] w1 (J6, E7, RR R) Q) : j_W 112 d 0 0 0 0 98 [some (.ref 0), some (.int (nI t)), some (.int 0), some (.int (nI r)), some (.int (nI i)), some (.int (nI n)), some (.ref (248 + 3 * r)), none] [] w1 (I, D, RR R) Q := by
  refine q_aload d112_98 rfl ?_
  refine q_iload d112_100 rfl ?_
  refine q_iload d112_102 rfl ?_
  refine q_invV (o := (248 + 3 * r)) (ci := 6) (av := [.int (nI i), .int (nI n)]) (rest := []) (d' := 0) (mc' := 0) (ms' := 0) d112_104 (cv9_225 112 rfl) rfl (by decide) rfl rfl (by omega) (Nat.le_of_ble_eq_true rfl) (Nat.le_of_ble_eq_true rfl) (isRw_lt (isRw_k r hr)) (isRw_sh (isRw_k r hr)) (Nat.le_refl _) (Nat.le_refl _) ?_
  refine c115 (isRw_k r hr) v1 (fun h1 => ?_) (fun h1 => ?_)
  ·
    show j_W 112 d 0 0 0 0 107 [some (.ref 0), some (.int (nI t)), some (.int 0), some (.int (nI r)), some (.int (nI i)), some (.int (nI n)), some (.ref (248 + 3 * r)), none] [.int 1] w1 (I, D, RR R) Q
    refine q_if_eq (tgt := 113) d112_107 rfl (fun h => absurd h (by decide)) (fun _ => ?_)
    refine q_bipush (v := (-3)) (by decide) d112_110 ?_
    exact q_iret d112_112 rfl (Nat.le_refl _) (Nat.le_refl _) (v2 h1)
  ·
    show j_W 112 d 0 0 0 0 107 [some (.ref 0), some (.int (nI t)), some (.int 0), some (.int (nI r)), some (.int (nI i)), some (.int (nI n)), some (.ref (248 + 3 * r)), none] [.int 0] w1 (I, D, RR R) Q
    refine q_if_eq (tgt := 113) d112_107 rfl (fun _ => ?_) (fun h => absurd h (by decide))
    refine q_aload_n d112_113 rfl ?_
    have g3 := hR.s
    refine q_getR (x := ((R 0 6).getD 0)) d112_114 (fs9_26 112 rfl) rfl (lt_w1 rfl) sh0 ((RR_d rfl).trans g3.1) (lt1000 (isG_lt g3.2)) ?_
    refine q_aload_n d112_117 rfl ?_
    refine q_getR (x := 108) d112_118 (fs9_53 112 rfl) rfl (lt_w1 rfl) sh0 (rs0_1 R) (by decide) ?_
    refine q_getR (x := 113) d112_121 (fs9_197 112 rfl) rfl (lt_w1 rfl) sh108 (rs108_4 R) (by decide) ?_
    refine q_iload_n d112_124 rfl ?_
    have g5 := hR.g t (by omega)
    refine q_aaload (c := 7) (a := t) (x := ((R 113 t).getD 0)) d112_125 (lt_w1 rfl) sh113 (by decide) rfl (by omega) ((RR_d rfl).trans g5.1) (lt1000 (isG_lt g5.2)) ?_
    refine q_invV (o := ((R 0 6).getD 0)) (ci := 3) (av := [.ref ((R 113 t).getD 0)]) (rest := []) (d' := 1) (mc' := 0) (ms' := 0) d112_126 (cv9_201 112 rfl) rfl (by decide) rfl rfl (by omega) (Nat.le_of_ble_eq_true rfl) (Nat.le_of_ble_eq_true rfl) (isG_lt g3.2) (isG_sh g3.2) (Nat.le_refl _) (Nat.le_refl _) ?_
    refine c109 g3.2 g5.2 (Nat.le_refl _) (v3 h1) (v4 h1) (fun J6 E7 h8 h9 h10 h11 h12 => ?_)
    show j_W 112 d 0 0 0 0 129 [some (.ref 0), some (.int (nI t)), some (.int 0), some (.int (nI r)), some (.int (nI i)), some (.int (nI n)), some (.ref (248 + 3 * r)), none] [] w1 (J6, E7, RR R) Q
    refine q_iconst (v := 0) (by decide) d112_129 ?_
    refine q_istore (L' := [some (.ref 0), some (.int (nI t)), some (.int 0), some (.int (nI r)), some (.int (nI i)), some (.int (nI n)), some (.ref (248 + 3 * r)), some (.int 0)]) d112_130 (Nat.le_of_ble_eq_true rfl) rfl ?_
    exact r_sub (L' := [some (.ref 0), some (.int (nI t)), some (.int 0), some (.int (nI r)), some (.int (nI i)), some (.int (nI n)), some (.ref (248 + 3 * r)), some (.int 0)]) ⟨rfl, rfl, rfl, rfl, rfl, rfl, rfl, rfl, trivial⟩ (v5 h1 J6 E7 h8 h9 h10 h11 h12)

set_option maxRecDepth 10000 in
set_option maxHeartbeats 4000000 in
theorem s112l_0 {d : Nat} {I : Nat → Nat → Int32} {D : Nat → Nat → UInt64} {R : Nat → Nat → Option Nat} {Q : j_Po} {t : Nat} {r : Nat} {i : Nat} {n : Nat} {k : Nat} {β β2 : Bd} (hR : WFR R) (ht : t < 6) (hr : r < 4) (hn1 : 1 ≤ n) (hn8 : n ≤ 8) (hi : i + n ≤ 64) (hk : k ≤ n) (hd : 7 ≤ d)
    (v1 : (n ≤ k) → t < 6)
    (v2 : (n ≤ k) → 5 ≤ d - 1)
    (v3 : (n ≤ k) → BV β)
    (v4 : (n ≤ k) → CB β (j_u I ((R 0 6).getD 0) 4 (nI n)) D R)
    (v5 : (n ≤ k) → NB (j_u I ((R 0 6).getD 0) 4 (nI n)))
    (v6 : (n ≤ k) → BV β2)
    (v7 : (n ≤ k) → CB β2 (j_u I ((R 0 6).getD 0) 4 (nI n)) D (j_u R 113 t (some (gs R))))
    (v8 : (n ≤ k) → ∀ J4 : Nat → Nat → Int32, (∀ o', (o' < 205 ∨ 211 ≤ o') → J4 o' = (j_u I ((R 0 6).getD 0) 4 (nI n)) o') → (NM β2 J4) → (OrdB β2 J4) → (∀ v, v < 30 → bu J4 v ≤ 2000) → (j_u (j_u R 113 t (some (gs R))) 0 6 (some (go R t))) 113 t = some (((j_u (j_u R 113 t (some (gs R))) 0 6 (some (go R t))) 113 t).getD 0) ∧ isG (((j_u (j_u R 113 t (some (gs R))) 0 6 (some (go R t))) 113 t).getD 0))
    (v9 : (n ≤ k) → ∀ J4 : Nat → Nat → Int32, (∀ o', (o' < 205 ∨ 211 ≤ o') → J4 o' = (j_u I ((R 0 6).getD 0) 4 (nI n)) o') → (NM β2 J4) → (OrdB β2 J4) → (∀ v, v < 30 → bu J4 v ≤ 2000) → GR β2 t J4 D (((j_u (j_u R 113 t (some (gs R))) 0 6 (some (go R t))) 113 t).getD 0))
    (v10 : (n ≤ k) → ∀ J4 : Nat → Nat → Int32, (∀ o', (o' < 205 ∨ 211 ≤ o') → J4 o' = (j_u I ((R 0 6).getD 0) 4 (nI n)) o') → (NM β2 J4) → (OrdB β2 J4) → (∀ v, v < 30 → bu J4 v ≤ 2000) → bL β2 t = true)
    (v11 : (n ≤ k) → ∀ J4 : Nat → Nat → Int32, (∀ o', (o' < 205 ∨ 211 ≤ o') → J4 o' = (j_u I ((R 0 6).getD 0) 4 (nI n)) o') → (NM β2 J4) → (OrdB β2 J4) → (∀ v, v < 30 → bu J4 v ≤ 2000) → Q (some (.int (nI (cas β2 t)))) w1 (J4, D, RR (j_u (j_u R 113 t (some (gs R))) 0 6 (some (go R t)))))
    (v12 : (n ≤ k) → ∀ J4 : Nat → Nat → Int32, (∀ o', (o' < 205 ∨ 211 ≤ o') → J4 o' = (j_u I ((R 0 6).getD 0) 4 (nI n)) o') → (NM β J4) → (OrdB β J4) → (∃ J', NM β2 J' ∧ ∃ v, v < 30 ∧ 2000 < bu J' v) → Q (some (.int (-4))) w1 (J4, D, RR R))
    (v13 : (¬ n ≤ k) → ((nI k) < 0) → j_W 112 d 0 0 0 0 132 [some (.ref 0), some (.int (nI t)), some (.int 0), some (.int (nI r)), some (.int (nI i)), some (.int (nI n)), some (.ref (248 + 3 * r)), some (.int (nI (k + 1)))] [] w1 (I, D, RR R) Q)
    (v14 : (¬ n ≤ k) → (¬ (nI k) < 0) → (k < 8) → j_W 112 d 0 0 0 0 132 [some (.ref 0), some (.int (nI t)), some (.int 0), some (.int (nI r)), some (.int (nI i)), some (.int (nI n)), some (.ref (248 + 3 * r)), some (.int (nI (k + 1)))] [] w1 (I, (j_u D (((R 0 6).getD 0) + 1) k (D ((248 + 3 * r) + 1) (i + k))), RR R) Q)
    (v15 : (¬ n ≤ k) → (¬ (nI k) < 0) → (¬ k < 8) → j_W 112 d 0 0 0 0 132 [some (.ref 0), some (.int (nI t)), some (.int 0), some (.int (nI r)), some (.int (nI i)), some (.int (nI n)), some (.ref (248 + 3 * r)), some (.int (nI (k + 1)))] [] w1 (I, D, RR R) Q) : j_W 112 d 0 0 0 0 132 [some (.ref 0), some (.int (nI t)), some (.int 0), some (.int (nI r)), some (.int (nI i)), some (.int (nI n)), some (.ref (248 + 3 * r)), some (.int (nI k))] [] w1 (I, D, RR R) Q := by
  refine q_iload d112_132 rfl ?_
  refine q_iload d112_134 rfl ?_
  refine q_icmp_ge (tgt := 166) d112_136 rfl (fun h1t => ?_) (fun h1f => ?_)
  ·
    have h1tc : n ≤ k := (nI_leI (by omega) (by omega)).mp h1t
    refine q_aload_n d112_166 rfl ?_
    have g3 := hR.s
    refine q_getR (x := ((R 0 6).getD 0)) d112_167 (fs9_26 112 rfl) rfl (lt_w1 rfl) sh0 ((RR_d rfl).trans g3.1) (lt1000 (isG_lt g3.2)) ?_
    refine q_iload_n d112_170 rfl ?_
    refine q_iload d112_171 rfl ?_
    refine q_invV (o := ((R 0 6).getD 0)) (ci := 3) (av := [.int 0, .int (nI n)]) (rest := []) (d' := 0) (mc' := 0) (ms' := 0) d112_173 (cv9_209 112 rfl) rfl (by decide) rfl rfl (by omega) (Nat.le_of_ble_eq_true rfl) (Nat.le_of_ble_eq_true rfl) (isG_lt g3.2) (isG_sh g3.2) (Nat.le_refl _) (Nat.le_refl _) ?_
    refine s111_0 (g := ((R 0 6).getD 0)) (n := n) g3.2 (Nat.le_refl _) ?_
    show j_W 112 d 0 0 0 0 176 [some (.ref 0), some (.int (nI t)), some (.int 0), some (.int (nI r)), some (.int (nI i)), some (.int (nI n)), some (.ref (248 + 3 * r)), some (.int (nI k))] [] w1 ((j_u I ((R 0 6).getD 0) 4 (nI n)), D, RR R) Q
    refine q_aload_n d112_176 rfl ?_
    refine q_iload_n d112_177 rfl ?_
    refine q_invV (o := 0) (ci := 9) (av := [.int (nI t)]) (rest := []) (d' := (d - 1)) (mc' := 0) (ms' := 0) d112_178 (cv9_190 112 rfl) rfl (by decide) rfl rfl (by omega) (Nat.le_of_ble_eq_true rfl) (Nat.le_of_ble_eq_true rfl) (lt_w1 rfl) sh0 (Nat.le_refl _) (Nat.le_refl _) ?_
    refine c106 (β := β) (β2 := β2) hR (v1 h1tc) (v2 h1tc) (v3 h1tc) (v4 h1tc) (v5 h1tc) (v6 h1tc) (v7 h1tc) (fun J4 h5 h6 h7 h8 => ?_) (fun J4 h5 h6 h7 h8 => ?_)
    ·
      show j_W 112 d 0 0 0 0 181 [some (.ref 0), some (.int (nI t)), some (.int 0), some (.int (nI r)), some (.int (nI i)), some (.int (nI n)), some (.ref (248 + 3 * r)), some (.int (nI k))] [.int 1] w1 (J4, D, RR (j_u (j_u R 113 t (some (gs R))) 0 6 (some (go R t)))) Q
      refine q_if_eq (tgt := 199) d112_181 rfl (fun h => absurd h (by decide)) (fun _ => ?_)
      refine q_aload_n d112_184 rfl ?_
      refine q_getR (x := 108) d112_185 (fs9_53 112 rfl) rfl (lt_w1 rfl) sh0 (rs0_1 (j_u (j_u R 113 t (some (gs R))) 0 6 (some (go R t)))) (by decide) ?_
      refine q_getR (x := 113) d112_188 (fs9_197 112 rfl) rfl (lt_w1 rfl) sh108 (rs108_4 (j_u (j_u R 113 t (some (gs R))) 0 6 (some (go R t)))) (by decide) ?_
      refine q_iload_n d112_191 rfl ?_
      have g10 := (v8 h1tc J4 h5 h6 h7 h8)
      refine q_aaload (c := 7) (a := t) (x := (((j_u (j_u R 113 t (some (gs R))) 0 6 (some (go R t))) 113 t).getD 0)) d112_192 (lt_w1 rfl) sh113 (by decide) rfl (by omega) ((RR_d rfl).trans g10.1) (lt1000 (isG_lt g10.2)) ?_
      refine q_invV (o := (((j_u (j_u R 113 t (some (gs R))) 0 6 (some (go R t))) 113 t).getD 0)) (ci := 3) (av := []) (rest := []) (d' := 1) (mc' := 0) (ms' := 0) d112_193 (cv9_213 112 rfl) rfl (by decide) rfl rfl (by omega) (Nat.le_of_ble_eq_true rfl) (Nat.le_of_ble_eq_true rfl) (isG_lt g10.2) (isG_sh g10.2) (Nat.le_refl _) (Nat.le_refl _) ?_
      refine c24g (β := β2) (t := t) g10.2 (Nat.le_refl _) (v6 h1tc) (v1 h1tc) (v9 h1tc J4 h5 h6 h7 h8) (v10 h1tc J4 h5 h6 h7 h8) ?_
      show j_W 112 d 0 0 0 0 196 [some (.ref 0), some (.int (nI t)), some (.int 0), some (.int (nI r)), some (.int (nI i)), some (.int (nI n)), some (.ref (248 + 3 * r)), some (.int (nI k))] [.int (nI (cas β2 t))] w1 (J4, D, RR (j_u (j_u R 113 t (some (gs R))) 0 6 (some (go R t)))) Q
      refine q_goto (tgt := 201) d112_196 rfl ?_
      exact q_iret d112_201 rfl (Nat.le_refl _) (Nat.le_refl _) (v11 h1tc J4 h5 h6 h7 h8)
    ·
      show j_W 112 d 0 0 0 0 181 [some (.ref 0), some (.int (nI t)), some (.int 0), some (.int (nI r)), some (.int (nI i)), some (.int (nI n)), some (.ref (248 + 3 * r)), some (.int (nI k))] [.int 0] w1 (J4, D, RR R) Q
      refine q_if_eq (tgt := 199) d112_181 rfl (fun _ => ?_) (fun h => absurd h (by decide))
      refine q_bipush (v := (-4)) (by decide) d112_199 ?_
      exact q_iret d112_201 rfl (Nat.le_refl _) (Nat.le_refl _) (v12 h1tc J4 h5 h6 h7 h8)
  ·
    have h1fc : ¬ n ≤ k := mt (nI_leI (by omega) (by omega)).mpr h1f
    refine q_aload_n d112_139 rfl ?_
    have g12 := hR.s
    refine q_getR (x := ((R 0 6).getD 0)) d112_140 (fs9_26 112 rfl) rfl (lt_w1 rfl) sh0 ((RR_d rfl).trans g12.1) (lt1000 (isG_lt g12.2)) ?_
    refine q_iload_n d112_143 rfl ?_
    refine q_iload d112_144 rfl ?_
    refine q_aload d112_146 rfl ?_
    refine q_getR (x := ((248 + 3 * r) + 1)) d112_148 (fs9_228 112 rfl) rfl (isRw_lt (isRw_k r hr)) (isRw_sh (isRw_k r hr)) (isRw_r1 R (isRw_k r hr)) (lt1000 (isRw_lt1 (isRw_k r hr))) ?_
    refine q_iload d112_151 rfl ?_
    refine q_iload d112_153 rfl ?_
    refine q_iadd d112_155 ?_
    refine r_int (y := (nI (i + k))) (nI_add i k) ?_
    refine q_daload (a := (i + k)) d112_156 (isRw_lt1 (isRw_k r hr)) (isRw_sh1 (isRw_k r hr)) rfl (by omega) ?_
    refine q_invV (o := ((R 0 6).getD 0)) (ci := 3) (av := [.int 0, .int (nI k), .double (D ((248 + 3 * r) + 1) (i + k))]) (rest := []) (d' := 0) (mc' := 0) (ms' := 0) d112_157 (cv9_205 112 rfl) rfl (by decide) rfl rfl (by omega) (Nat.le_of_ble_eq_true rfl) (Nat.le_of_ble_eq_true rfl) (isG_lt g12.2) (isG_sh g12.2) (Nat.le_refl _) (Nat.le_refl _) ?_
    refine s110_0 (g := ((R 0 6).getD 0)) (k := k) g12.2 (by first | omega | decide) (Nat.le_refl _) (fun c13 => ?_) (fun c14 c15 => ?_) (fun c16 c17 => ?_)
    ·
      show j_W 112 d 0 0 0 0 160 [some (.ref 0), some (.int (nI t)), some (.int 0), some (.int (nI r)), some (.int (nI i)), some (.int (nI n)), some (.ref (248 + 3 * r)), some (.int (nI k))] [] w1 (I, D, RR R) Q
      refine q_iinc (L' := [some (.ref 0), some (.int (nI t)), some (.int 0), some (.int (nI r)), some (.int (nI i)), some (.int (nI n)), some (.ref (248 + 3 * r)), some (.int (nI (k + 1)))]) (v := (nI (k + 1))) d112_160 rfl (nI_inc _) rfl ?_
      refine q_goto (tgt := 132) d112_163 rfl ?_
      exact r_sub (L' := [some (.ref 0), some (.int (nI t)), some (.int 0), some (.int (nI r)), some (.int (nI i)), some (.int (nI n)), some (.ref (248 + 3 * r)), some (.int (nI (k + 1)))]) ⟨rfl, rfl, rfl, rfl, rfl, rfl, rfl, rfl, trivial⟩ (v13 h1fc c13)
    ·
      show j_W 112 d 0 0 0 0 160 [some (.ref 0), some (.int (nI t)), some (.int 0), some (.int (nI r)), some (.int (nI i)), some (.int (nI n)), some (.ref (248 + 3 * r)), some (.int (nI k))] [] w1 (I, (j_u D (((R 0 6).getD 0) + 1) k (D ((248 + 3 * r) + 1) (i + k))), RR R) Q
      refine q_iinc (L' := [some (.ref 0), some (.int (nI t)), some (.int 0), some (.int (nI r)), some (.int (nI i)), some (.int (nI n)), some (.ref (248 + 3 * r)), some (.int (nI (k + 1)))]) (v := (nI (k + 1))) d112_160 rfl (nI_inc _) rfl ?_
      refine q_goto (tgt := 132) d112_163 rfl ?_
      exact r_sub (L' := [some (.ref 0), some (.int (nI t)), some (.int 0), some (.int (nI r)), some (.int (nI i)), some (.int (nI n)), some (.ref (248 + 3 * r)), some (.int (nI (k + 1)))]) ⟨rfl, rfl, rfl, rfl, rfl, rfl, rfl, rfl, trivial⟩ (v14 h1fc c14 c15)
    ·
      show j_W 112 d 0 0 0 0 160 [some (.ref 0), some (.int (nI t)), some (.int 0), some (.int (nI r)), some (.int (nI i)), some (.int (nI n)), some (.ref (248 + 3 * r)), some (.int (nI k))] [] w1 (I, D, RR R) Q
      refine q_iinc (L' := [some (.ref 0), some (.int (nI t)), some (.int 0), some (.int (nI r)), some (.int (nI i)), some (.int (nI n)), some (.ref (248 + 3 * r)), some (.int (nI (k + 1)))]) (v := (nI (k + 1))) d112_160 rfl (nI_inc _) rfl ?_
      refine q_goto (tgt := 132) d112_163 rfl ?_
      exact r_sub (L' := [some (.ref 0), some (.int (nI t)), some (.int 0), some (.int (nI r)), some (.int (nI i)), some (.int (nI n)), some (.ref (248 + 3 * r)), some (.int (nI (k + 1)))]) ⟨rfl, rfl, rfl, rfl, rfl, rfl, rfl, rfl, trivial⟩ (v15 h1fc c16 c17)

set_option maxRecDepth 10000 in
set_option maxHeartbeats 4000000 in
theorem s252h_0 {d : Nat} {I : Nat → Nat → Int32} {D : Nat → Nat → UInt64} {R : Nat → Nat → Option Nat} {Q : j_Po} {t : Nat} {r : Nat} {i : Nat} {n : Nat} {k : Nat} {β β2 : Bd} {X : Nat → Nat → Bool} {bv : Nat → Nat} (ht : t < 6) (hr : r < 4) (hn1 : 1 ≤ n) (hn8 : n ≤ 8) (hi : i + n ≤ 64) (hk : k ≤ n) (hd : 84 ≤ d)
    (v1 : (n ≤ k) → t < 6)
    (v2 : (n ≤ k) → 83 ≤ d - 1)
    (v3 : (n ≤ k) → BV β2)
    (v4 : (n ≤ k) → RcE β2 X)
    (v5 : (n ≤ k) → BuE β2 X bv)
    (v6 : (n ≤ k) → RBN β2 (j_u I 319 (2 * t + 0) (nI n)))
    (v7 : (n ≤ k) → RBN β I)
    (v8 : (n ≤ k) → (∀ v, v < 30 → bv v ≤ 2000) → ∀ K2 : Nat → Nat → Int32, (∀ o, o ≠ 361 → o ≠ 362 → K2 o = (j_u I 319 (2 * t + 0) (nI n)) o) → (RBN β2 K2) → j_W 252 d 0 0 0 0 162 [some (.ref 260), some (.int (nI t)), some (.int 0), some (.int (nI r)), some (.int (nI i)), some (.int (nI n)), some (.int 0)] [] w1 (K2, D, RR R) Q)
    (v9 : (n ≤ k) → (∃ v, v < 30 ∧ 2000 < bv v) → ∀ K2 : Nat → Nat → Int32, (∀ o, o ≠ 361 → o ≠ 362 → K2 o = I o) → (RBN β K2) → Q (some (.int (-4))) w1 (K2, D, RR R))
    (v10 : (¬ n ≤ k) → ((I (511 + r) (i + k)) = 0) → j_W 252 d 0 0 0 0 114 [some (.ref 260), some (.int (nI t)), some (.int 0), some (.int (nI r)), some (.int (nI i)), some (.int (nI n)), some (.int (nI (k + 1)))] [] w1 (I, D, RR R) Q)
    (v11 : (¬ n ≤ k) → (¬ (I (511 + r) (i + k)) = 0) → Q (some (.int (-3))) w1 (I, D, RR R)) : j_W 252 d 0 0 0 0 114 [some (.ref 260), some (.int (nI t)), some (.int 0), some (.int (nI r)), some (.int (nI i)), some (.int (nI n)), some (.int (nI k))] [] w1 (I, D, RR R) Q := by
  refine q_iload d252_114 rfl ?_
  refine q_iload d252_116 rfl ?_
  refine q_icmp_ge (tgt := 145) d252_118 rfl (fun h1t => ?_) (fun h1f => ?_)
  ·
    have h1tc : n ≤ k := (nI_leI (by omega) (by omega)).mp h1t
    refine q_aload_n d252_145 rfl ?_
    refine q_iload_n d252_146 rfl ?_
    refine q_iload_n d252_147 rfl ?_
    refine q_iload d252_148 rfl ?_
    refine q_invV (o := 260) (ci := 10) (av := [.int (nI t), .int 0, .int (nI n)]) (rest := []) (d' := (d - 1)) (mc' := 0) (ms' := 0) d252_150 (cv10_485 252 rfl) rfl (by decide) rfl rfl (by omega) (Nat.le_of_ble_eq_true rfl) (Nat.le_of_ble_eq_true rfl) (lt_w1 rfl) sh260 (Nat.le_refl _) (Nat.le_refl _) ?_
    refine c251 (β := β) (β2 := β2) (w := 0) (X := X) (bv := bv) (by decide) (v1 h1tc) (v2 h1tc) (v3 h1tc) (v4 h1tc) (v5 h1tc) (v6 h1tc) (v7 h1tc) (fun h3 K2 h4 h5 => ?_) (fun h3 K2 h4 h5 => ?_)
    ·
      show j_W 252 d 0 0 0 0 153 [some (.ref 260), some (.int (nI t)), some (.int 0), some (.int (nI r)), some (.int (nI i)), some (.int (nI n)), some (.int (nI k))] [.int 1] w1 (K2, D, RR R) Q
      refine q_if_ne (tgt := 159) d252_153 rfl (fun _ => ?_) (fun h => absurd h (by decide))
      refine q_iconst (v := 0) (by decide) d252_159 ?_
      refine q_istore (L' := [some (.ref 260), some (.int (nI t)), some (.int 0), some (.int (nI r)), some (.int (nI i)), some (.int (nI n)), some (.int 0)]) d252_160 (Nat.le_of_ble_eq_true rfl) rfl ?_
      exact r_sub (L' := [some (.ref 260), some (.int (nI t)), some (.int 0), some (.int (nI r)), some (.int (nI i)), some (.int (nI n)), some (.int 0)]) ⟨rfl, rfl, rfl, rfl, rfl, rfl, rfl, trivial⟩ (v8 h1tc h3 K2 h4 h5)
    ·
      show j_W 252 d 0 0 0 0 153 [some (.ref 260), some (.int (nI t)), some (.int 0), some (.int (nI r)), some (.int (nI i)), some (.int (nI n)), some (.int (nI k))] [.int 0] w1 (K2, D, RR R) Q
      refine q_if_ne (tgt := 159) d252_153 rfl (fun h => absurd h (by decide)) (fun _ => ?_)
      refine q_bipush (v := (-4)) (by decide) d252_156 ?_
      exact q_iret d252_158 rfl (Nat.le_refl _) (Nat.le_refl _) (v9 h1tc h3 K2 h4 h5)
  ·
    have h1fc : ¬ n ≤ k := mt (nI_leI (by omega) (by omega)).mpr h1f
    refine q_aload_n d252_121 rfl ?_
    refine q_getR (x := 510) d252_122 (fs10_174 252 rfl) rfl (lt_w1 rfl) sh260 (rs260_73 R) (by decide) ?_
    refine q_iload_n d252_125 rfl ?_
    refine q_aaload (c := 5) (a := r) (x := (511 + r)) d252_126 (lt_w1 rfl) sh510 (by decide) rfl (by omega) (rm510 R (by omega)) (lt1000 (lm510 (by omega))) ?_
    refine q_iload d252_127 rfl ?_
    refine q_iload d252_129 rfl ?_
    refine q_iadd d252_131 ?_
    refine r_int (y := (nI (i + k))) (nI_add i k) ?_
    refine q_zaload (a := (i + k)) d252_132 (lm510 (by omega)) (sm510 (by omega)) rfl (by omega) ?_
    refine q_if_eq (tgt := 139) d252_133 rfl (fun h6t => ?_) (fun h6f => ?_)
    ·
      refine q_iinc (L' := [some (.ref 260), some (.int (nI t)), some (.int 0), some (.int (nI r)), some (.int (nI i)), some (.int (nI n)), some (.int (nI (k + 1)))]) (v := (nI (k + 1))) d252_139 rfl (nI_inc _) rfl ?_
      refine q_goto (tgt := 114) d252_142 rfl ?_
      exact r_sub (L' := [some (.ref 260), some (.int (nI t)), some (.int 0), some (.int (nI r)), some (.int (nI i)), some (.int (nI n)), some (.int (nI (k + 1)))]) ⟨rfl, rfl, rfl, rfl, rfl, rfl, rfl, trivial⟩ (v10 h1fc h6t)
    ·
      refine q_bipush (v := (-3)) (by decide) d252_136 ?_
      exact q_iret d252_138 rfl (Nat.le_refl _) (Nat.le_refl _) (v11 h1fc h6f)

set_option maxRecDepth 10000 in
set_option maxHeartbeats 4000000 in
theorem s252l_0 {d : Nat} {I : Nat → Nat → Int32} {D : Nat → Nat → UInt64} {R : Nat → Nat → Option Nat} {Q : j_Po} {t : Nat} {r : Nat} {i : Nat} {n : Nat} {k : Nat} {β2 : Bd} (ht : t < 6) (hr : r < 4) (hn1 : 1 ≤ n) (hn8 : n ≤ 8) (hi : i + n ≤ 64) (hk : k ≤ n) (hV2 : BV β2) (hd : 84 ≤ d)
    (v1 : (n ≤ k) → RBN β2 I)
    (v2 : (n ≤ k) → bL β2 t = true)
    (v3 : (n ≤ k) → Q (some (.int (nI (cas β2 t)))) w1 (I, D, RR R))
    (v4 : (¬ n ≤ k) → j_W 252 d 0 0 0 0 162 [some (.ref 260), some (.int (nI t)), some (.int 0), some (.int (nI r)), some (.int (nI i)), some (.int (nI n)), some (.int (nI (k + 1)))] [] w1 (I, (j_u D (321 + ((2 * t) + 0)) k (D (506 + r) (i + k))), RR R) Q) : j_W 252 d 0 0 0 0 162 [some (.ref 260), some (.int (nI t)), some (.int 0), some (.int (nI r)), some (.int (nI i)), some (.int (nI n)), some (.int (nI k))] [] w1 (I, D, RR R) Q := by
  refine q_iload d252_162 rfl ?_
  refine q_iload d252_164 rfl ?_
  refine q_icmp_ge (tgt := 200) d252_166 rfl (fun h1t => ?_) (fun h1f => ?_)
  ·
    have h1tc : n ≤ k := (nI_leI (by omega) (by omega)).mp h1t
    refine q_aload_n d252_200 rfl ?_
    refine q_iload_n d252_201 rfl ?_
    refine q_invV (o := 260) (ci := 10) (av := [.int (nI t)]) (rest := []) (d' := 1) (mc' := 0) (ms' := 0) d252_202 (cv10_232 252 rfl) rfl (by decide) rfl rfl (by omega) (Nat.le_of_ble_eq_true rfl) (Nat.le_of_ble_eq_true rfl) (lt_w1 rfl) sh260 (Nat.le_refl _) (Nat.le_refl _) ?_
    refine c186 (β := β2) hV2 ht (v1 h1tc) (v2 h1tc) ?_
    show j_W 252 d 0 0 0 0 205 [some (.ref 260), some (.int (nI t)), some (.int 0), some (.int (nI r)), some (.int (nI i)), some (.int (nI n)), some (.int (nI k))] [.int (nI (cas β2 t))] w1 (I, D, RR R) Q
    exact q_iret d252_205 rfl (Nat.le_refl _) (Nat.le_refl _) (v3 h1tc)
  ·
    have h1fc : ¬ n ≤ k := mt (nI_leI (by omega) (by omega)).mpr h1f
    refine q_aload_n d252_169 rfl ?_
    refine q_getR (x := 320) d252_170 (fs10_49 252 rfl) rfl (lt_w1 rfl) sh260 (rs260_11 R) (by decide) ?_
    refine q_iconst (v := 2) (by decide) d252_173 ?_
    refine q_iload_n d252_174 rfl ?_
    refine q_imul d252_175 ?_
    refine r_int (y := (nI (2 * t))) (pk_mul 2 t) ?_
    refine q_iload_n d252_176 rfl ?_
    refine q_iadd d252_177 ?_
    refine r_int (y := (nI ((2 * t) + 0))) (nI_add (2 * t) 0) ?_
    refine q_aaload (c := 3) (a := ((2 * t) + 0)) (x := (321 + ((2 * t) + 0))) d252_178 (lt_w1 rfl) sh320 (by decide) rfl (by omega) (rm320 R (by omega)) (lt1000 (lm320 (by omega))) ?_
    refine q_iload d252_179 rfl ?_
    refine q_aload_n d252_181 rfl ?_
    refine q_getR (x := 505) d252_182 (fs10_171 252 rfl) rfl (lt_w1 rfl) sh260 (rs260_72 R) (by decide) ?_
    refine q_iload_n d252_185 rfl ?_
    refine q_aaload (c := 3) (a := r) (x := (506 + r)) d252_186 (lt_w1 rfl) sh505 (by decide) rfl (by omega) (rm505 R (by omega)) (lt1000 (lm505 (by omega))) ?_
    refine q_iload d252_187 rfl ?_
    refine q_iload d252_189 rfl ?_
    refine q_iadd d252_191 ?_
    refine r_int (y := (nI (i + k))) (nI_add i k) ?_
    refine q_daload (a := (i + k)) d252_192 (lm505 (by omega)) (sm505 (by omega)) rfl (by omega) ?_
    refine q_dastore (a := k) d252_193 (lm320 (by omega)) (sm320 (by omega)) rfl (by omega) ?_
    refine q_iinc (L' := [some (.ref 260), some (.int (nI t)), some (.int 0), some (.int (nI r)), some (.int (nI i)), some (.int (nI n)), some (.int (nI (k + 1)))]) (v := (nI (k + 1))) d252_194 rfl (nI_inc _) rfl ?_
    refine q_goto (tgt := 162) d252_197 rfl ?_
    exact r_sub (L' := [some (.ref 260), some (.int (nI t)), some (.int 0), some (.int (nI r)), some (.int (nI i)), some (.int (nI n)), some (.int (nI (k + 1)))]) ⟨rfl, rfl, rfl, rfl, rfl, rfl, rfl, trivial⟩ (v4 h1fc)

set_option maxRecDepth 10000 in
set_option maxHeartbeats 4000000 in
theorem s112h_1 {d : Nat} {I : Nat → Nat → Int32} {D : Nat → Nat → UInt64} {R : Nat → Nat → Option Nat} {Q : j_Po} {t : Nat} {r : Nat} {i : Nat} {n : Nat}  (hR : WFR R) (ht : t < 6) (hr : r < 4) (hn1 : 1 ≤ n) (hn8 : n ≤ 8) (hi : i + n ≤ 64) (hd : 7 ≤ d)
    (v1 : i + n ≤ 64)
    (v2 : (∃ k, k < n ∧ ¬ I ((248 + 3 * r) + 2) (i + k) = 0) → Q (some (.int (-3))) w1 (I, D, RR R))
    (v3 : (∀ k, k < n → I ((248 + 3 * r) + 2) (i + k) = 0) → ∀ i j, i ≤ 2 → j ≤ 2 → ((R 0 6).getD 0) + i ≠ ((R 113 t).getD 0) + j)
    (v4 : (∀ k, k < n → I ((248 + 3 * r) + 2) (i + k) = 0) → I ((R 113 t).getD 0) 0 = 0 ∨ I ((R 113 t).getD 0) 0 = 1)
    (v5 : (∀ k, k < n → I ((248 + 3 * r) + 2) (i + k) = 0) → ∀ J6 : Nat → Nat → Int32, ∀ E7 : Nat → Nat → UInt64, (∀ o, o ≠ ((R 0 6).getD 0) → J6 o = I o) → (∀ i, i < 6 → J6 ((R 0 6).getD 0) i = I ((R 113 t).getD 0) i) → (∀ o, o ≠ ((R 0 6).getD 0) + 1 → o ≠ ((R 0 6).getD 0) + 2 → E7 o = D o) → (∀ k, k < 8 → E7 (((R 0 6).getD 0) + 1) k = D (((R 113 t).getD 0) + 1) k) → (∀ k, k < 8 → E7 (((R 0 6).getD 0) + 2) k = D (((R 113 t).getD 0) + 2) k) → j_W 112 d 0 0 0 0 132 [some (.ref 0), some (.int (nI t)), some (.int 1), some (.int (nI r)), some (.int (nI i)), some (.int (nI n)), some (.ref (248 + 3 * r)), some (.int 0)] [] w1 (J6, E7, RR R) Q) : j_W 112 d 0 0 0 0 98 [some (.ref 0), some (.int (nI t)), some (.int 1), some (.int (nI r)), some (.int (nI i)), some (.int (nI n)), some (.ref (248 + 3 * r)), none] [] w1 (I, D, RR R) Q := by
  refine q_aload d112_98 rfl ?_
  refine q_iload d112_100 rfl ?_
  refine q_iload d112_102 rfl ?_
  refine q_invV (o := (248 + 3 * r)) (ci := 6) (av := [.int (nI i), .int (nI n)]) (rest := []) (d' := 0) (mc' := 0) (ms' := 0) d112_104 (cv9_225 112 rfl) rfl (by decide) rfl rfl (by omega) (Nat.le_of_ble_eq_true rfl) (Nat.le_of_ble_eq_true rfl) (isRw_lt (isRw_k r hr)) (isRw_sh (isRw_k r hr)) (Nat.le_refl _) (Nat.le_refl _) ?_
  refine c115 (isRw_k r hr) v1 (fun h1 => ?_) (fun h1 => ?_)
  ·
    show j_W 112 d 0 0 0 0 107 [some (.ref 0), some (.int (nI t)), some (.int 1), some (.int (nI r)), some (.int (nI i)), some (.int (nI n)), some (.ref (248 + 3 * r)), none] [.int 1] w1 (I, D, RR R) Q
    refine q_if_eq (tgt := 113) d112_107 rfl (fun h => absurd h (by decide)) (fun _ => ?_)
    refine q_bipush (v := (-3)) (by decide) d112_110 ?_
    exact q_iret d112_112 rfl (Nat.le_refl _) (Nat.le_refl _) (v2 h1)
  ·
    show j_W 112 d 0 0 0 0 107 [some (.ref 0), some (.int (nI t)), some (.int 1), some (.int (nI r)), some (.int (nI i)), some (.int (nI n)), some (.ref (248 + 3 * r)), none] [.int 0] w1 (I, D, RR R) Q
    refine q_if_eq (tgt := 113) d112_107 rfl (fun _ => ?_) (fun h => absurd h (by decide))
    refine q_aload_n d112_113 rfl ?_
    have g3 := hR.s
    refine q_getR (x := ((R 0 6).getD 0)) d112_114 (fs9_26 112 rfl) rfl (lt_w1 rfl) sh0 ((RR_d rfl).trans g3.1) (lt1000 (isG_lt g3.2)) ?_
    refine q_aload_n d112_117 rfl ?_
    refine q_getR (x := 108) d112_118 (fs9_53 112 rfl) rfl (lt_w1 rfl) sh0 (rs0_1 R) (by decide) ?_
    refine q_getR (x := 113) d112_121 (fs9_197 112 rfl) rfl (lt_w1 rfl) sh108 (rs108_4 R) (by decide) ?_
    refine q_iload_n d112_124 rfl ?_
    have g5 := hR.g t (by omega)
    refine q_aaload (c := 7) (a := t) (x := ((R 113 t).getD 0)) d112_125 (lt_w1 rfl) sh113 (by decide) rfl (by omega) ((RR_d rfl).trans g5.1) (lt1000 (isG_lt g5.2)) ?_
    refine q_invV (o := ((R 0 6).getD 0)) (ci := 3) (av := [.ref ((R 113 t).getD 0)]) (rest := []) (d' := 1) (mc' := 0) (ms' := 0) d112_126 (cv9_201 112 rfl) rfl (by decide) rfl rfl (by omega) (Nat.le_of_ble_eq_true rfl) (Nat.le_of_ble_eq_true rfl) (isG_lt g3.2) (isG_sh g3.2) (Nat.le_refl _) (Nat.le_refl _) ?_
    refine c109 g3.2 g5.2 (Nat.le_refl _) (v3 h1) (v4 h1) (fun J6 E7 h8 h9 h10 h11 h12 => ?_)
    show j_W 112 d 0 0 0 0 129 [some (.ref 0), some (.int (nI t)), some (.int 1), some (.int (nI r)), some (.int (nI i)), some (.int (nI n)), some (.ref (248 + 3 * r)), none] [] w1 (J6, E7, RR R) Q
    refine q_iconst (v := 0) (by decide) d112_129 ?_
    refine q_istore (L' := [some (.ref 0), some (.int (nI t)), some (.int 1), some (.int (nI r)), some (.int (nI i)), some (.int (nI n)), some (.ref (248 + 3 * r)), some (.int 0)]) d112_130 (Nat.le_of_ble_eq_true rfl) rfl ?_
    exact r_sub (L' := [some (.ref 0), some (.int (nI t)), some (.int 1), some (.int (nI r)), some (.int (nI i)), some (.int (nI n)), some (.ref (248 + 3 * r)), some (.int 0)]) ⟨rfl, rfl, rfl, rfl, rfl, rfl, rfl, rfl, trivial⟩ (v5 h1 J6 E7 h8 h9 h10 h11 h12)

set_option maxRecDepth 10000 in
set_option maxHeartbeats 4000000 in
theorem s112l_1 {d : Nat} {I : Nat → Nat → Int32} {D : Nat → Nat → UInt64} {R : Nat → Nat → Option Nat} {Q : j_Po} {t : Nat} {r : Nat} {i : Nat} {n : Nat} {k : Nat} {β β2 : Bd} (hR : WFR R) (ht : t < 6) (hr : r < 4) (hn1 : 1 ≤ n) (hn8 : n ≤ 8) (hi : i + n ≤ 64) (hk : k ≤ n) (hd : 7 ≤ d)
    (v1 : (n ≤ k) → t < 6)
    (v2 : (n ≤ k) → 5 ≤ d - 1)
    (v3 : (n ≤ k) → BV β)
    (v4 : (n ≤ k) → CB β (j_u I ((R 0 6).getD 0) 5 (nI n)) D R)
    (v5 : (n ≤ k) → NB (j_u I ((R 0 6).getD 0) 5 (nI n)))
    (v6 : (n ≤ k) → BV β2)
    (v7 : (n ≤ k) → CB β2 (j_u I ((R 0 6).getD 0) 5 (nI n)) D (j_u R 113 t (some (gs R))))
    (v8 : (n ≤ k) → ∀ J4 : Nat → Nat → Int32, (∀ o', (o' < 205 ∨ 211 ≤ o') → J4 o' = (j_u I ((R 0 6).getD 0) 5 (nI n)) o') → (NM β2 J4) → (OrdB β2 J4) → (∀ v, v < 30 → bu J4 v ≤ 2000) → (j_u (j_u R 113 t (some (gs R))) 0 6 (some (go R t))) 113 t = some (((j_u (j_u R 113 t (some (gs R))) 0 6 (some (go R t))) 113 t).getD 0) ∧ isG (((j_u (j_u R 113 t (some (gs R))) 0 6 (some (go R t))) 113 t).getD 0))
    (v9 : (n ≤ k) → ∀ J4 : Nat → Nat → Int32, (∀ o', (o' < 205 ∨ 211 ≤ o') → J4 o' = (j_u I ((R 0 6).getD 0) 5 (nI n)) o') → (NM β2 J4) → (OrdB β2 J4) → (∀ v, v < 30 → bu J4 v ≤ 2000) → GR β2 t J4 D (((j_u (j_u R 113 t (some (gs R))) 0 6 (some (go R t))) 113 t).getD 0))
    (v10 : (n ≤ k) → ∀ J4 : Nat → Nat → Int32, (∀ o', (o' < 205 ∨ 211 ≤ o') → J4 o' = (j_u I ((R 0 6).getD 0) 5 (nI n)) o') → (NM β2 J4) → (OrdB β2 J4) → (∀ v, v < 30 → bu J4 v ≤ 2000) → bL β2 t = true)
    (v11 : (n ≤ k) → ∀ J4 : Nat → Nat → Int32, (∀ o', (o' < 205 ∨ 211 ≤ o') → J4 o' = (j_u I ((R 0 6).getD 0) 5 (nI n)) o') → (NM β2 J4) → (OrdB β2 J4) → (∀ v, v < 30 → bu J4 v ≤ 2000) → Q (some (.int (nI (cas β2 t)))) w1 (J4, D, RR (j_u (j_u R 113 t (some (gs R))) 0 6 (some (go R t)))))
    (v12 : (n ≤ k) → ∀ J4 : Nat → Nat → Int32, (∀ o', (o' < 205 ∨ 211 ≤ o') → J4 o' = (j_u I ((R 0 6).getD 0) 5 (nI n)) o') → (NM β J4) → (OrdB β J4) → (∃ J', NM β2 J' ∧ ∃ v, v < 30 ∧ 2000 < bu J' v) → Q (some (.int (-4))) w1 (J4, D, RR R))
    (v13 : (¬ n ≤ k) → ((nI k) < 0) → j_W 112 d 0 0 0 0 132 [some (.ref 0), some (.int (nI t)), some (.int 1), some (.int (nI r)), some (.int (nI i)), some (.int (nI n)), some (.ref (248 + 3 * r)), some (.int (nI (k + 1)))] [] w1 (I, D, RR R) Q)
    (v14 : (¬ n ≤ k) → (¬ (nI k) < 0) → (k < 8) → j_W 112 d 0 0 0 0 132 [some (.ref 0), some (.int (nI t)), some (.int 1), some (.int (nI r)), some (.int (nI i)), some (.int (nI n)), some (.ref (248 + 3 * r)), some (.int (nI (k + 1)))] [] w1 (I, (j_u D (((R 0 6).getD 0) + 2) k (D ((248 + 3 * r) + 1) (i + k))), RR R) Q)
    (v15 : (¬ n ≤ k) → (¬ (nI k) < 0) → (¬ k < 8) → j_W 112 d 0 0 0 0 132 [some (.ref 0), some (.int (nI t)), some (.int 1), some (.int (nI r)), some (.int (nI i)), some (.int (nI n)), some (.ref (248 + 3 * r)), some (.int (nI (k + 1)))] [] w1 (I, D, RR R) Q) : j_W 112 d 0 0 0 0 132 [some (.ref 0), some (.int (nI t)), some (.int 1), some (.int (nI r)), some (.int (nI i)), some (.int (nI n)), some (.ref (248 + 3 * r)), some (.int (nI k))] [] w1 (I, D, RR R) Q := by
  refine q_iload d112_132 rfl ?_
  refine q_iload d112_134 rfl ?_
  refine q_icmp_ge (tgt := 166) d112_136 rfl (fun h1t => ?_) (fun h1f => ?_)
  ·
    have h1tc : n ≤ k := (nI_leI (by omega) (by omega)).mp h1t
    refine q_aload_n d112_166 rfl ?_
    have g3 := hR.s
    refine q_getR (x := ((R 0 6).getD 0)) d112_167 (fs9_26 112 rfl) rfl (lt_w1 rfl) sh0 ((RR_d rfl).trans g3.1) (lt1000 (isG_lt g3.2)) ?_
    refine q_iload_n d112_170 rfl ?_
    refine q_iload d112_171 rfl ?_
    refine q_invV (o := ((R 0 6).getD 0)) (ci := 3) (av := [.int 1, .int (nI n)]) (rest := []) (d' := 0) (mc' := 0) (ms' := 0) d112_173 (cv9_209 112 rfl) rfl (by decide) rfl rfl (by omega) (Nat.le_of_ble_eq_true rfl) (Nat.le_of_ble_eq_true rfl) (isG_lt g3.2) (isG_sh g3.2) (Nat.le_refl _) (Nat.le_refl _) ?_
    refine s111_1 (g := ((R 0 6).getD 0)) (n := n) g3.2 (Nat.le_refl _) ?_
    show j_W 112 d 0 0 0 0 176 [some (.ref 0), some (.int (nI t)), some (.int 1), some (.int (nI r)), some (.int (nI i)), some (.int (nI n)), some (.ref (248 + 3 * r)), some (.int (nI k))] [] w1 ((j_u I ((R 0 6).getD 0) 5 (nI n)), D, RR R) Q
    refine q_aload_n d112_176 rfl ?_
    refine q_iload_n d112_177 rfl ?_
    refine q_invV (o := 0) (ci := 9) (av := [.int (nI t)]) (rest := []) (d' := (d - 1)) (mc' := 0) (ms' := 0) d112_178 (cv9_190 112 rfl) rfl (by decide) rfl rfl (by omega) (Nat.le_of_ble_eq_true rfl) (Nat.le_of_ble_eq_true rfl) (lt_w1 rfl) sh0 (Nat.le_refl _) (Nat.le_refl _) ?_
    refine c106 (β := β) (β2 := β2) hR (v1 h1tc) (v2 h1tc) (v3 h1tc) (v4 h1tc) (v5 h1tc) (v6 h1tc) (v7 h1tc) (fun J4 h5 h6 h7 h8 => ?_) (fun J4 h5 h6 h7 h8 => ?_)
    ·
      show j_W 112 d 0 0 0 0 181 [some (.ref 0), some (.int (nI t)), some (.int 1), some (.int (nI r)), some (.int (nI i)), some (.int (nI n)), some (.ref (248 + 3 * r)), some (.int (nI k))] [.int 1] w1 (J4, D, RR (j_u (j_u R 113 t (some (gs R))) 0 6 (some (go R t)))) Q
      refine q_if_eq (tgt := 199) d112_181 rfl (fun h => absurd h (by decide)) (fun _ => ?_)
      refine q_aload_n d112_184 rfl ?_
      refine q_getR (x := 108) d112_185 (fs9_53 112 rfl) rfl (lt_w1 rfl) sh0 (rs0_1 (j_u (j_u R 113 t (some (gs R))) 0 6 (some (go R t)))) (by decide) ?_
      refine q_getR (x := 113) d112_188 (fs9_197 112 rfl) rfl (lt_w1 rfl) sh108 (rs108_4 (j_u (j_u R 113 t (some (gs R))) 0 6 (some (go R t)))) (by decide) ?_
      refine q_iload_n d112_191 rfl ?_
      have g10 := (v8 h1tc J4 h5 h6 h7 h8)
      refine q_aaload (c := 7) (a := t) (x := (((j_u (j_u R 113 t (some (gs R))) 0 6 (some (go R t))) 113 t).getD 0)) d112_192 (lt_w1 rfl) sh113 (by decide) rfl (by omega) ((RR_d rfl).trans g10.1) (lt1000 (isG_lt g10.2)) ?_
      refine q_invV (o := (((j_u (j_u R 113 t (some (gs R))) 0 6 (some (go R t))) 113 t).getD 0)) (ci := 3) (av := []) (rest := []) (d' := 1) (mc' := 0) (ms' := 0) d112_193 (cv9_213 112 rfl) rfl (by decide) rfl rfl (by omega) (Nat.le_of_ble_eq_true rfl) (Nat.le_of_ble_eq_true rfl) (isG_lt g10.2) (isG_sh g10.2) (Nat.le_refl _) (Nat.le_refl _) ?_
      refine c24g (β := β2) (t := t) g10.2 (Nat.le_refl _) (v6 h1tc) (v1 h1tc) (v9 h1tc J4 h5 h6 h7 h8) (v10 h1tc J4 h5 h6 h7 h8) ?_
      show j_W 112 d 0 0 0 0 196 [some (.ref 0), some (.int (nI t)), some (.int 1), some (.int (nI r)), some (.int (nI i)), some (.int (nI n)), some (.ref (248 + 3 * r)), some (.int (nI k))] [.int (nI (cas β2 t))] w1 (J4, D, RR (j_u (j_u R 113 t (some (gs R))) 0 6 (some (go R t)))) Q
      refine q_goto (tgt := 201) d112_196 rfl ?_
      exact q_iret d112_201 rfl (Nat.le_refl _) (Nat.le_refl _) (v11 h1tc J4 h5 h6 h7 h8)
    ·
      show j_W 112 d 0 0 0 0 181 [some (.ref 0), some (.int (nI t)), some (.int 1), some (.int (nI r)), some (.int (nI i)), some (.int (nI n)), some (.ref (248 + 3 * r)), some (.int (nI k))] [.int 0] w1 (J4, D, RR R) Q
      refine q_if_eq (tgt := 199) d112_181 rfl (fun _ => ?_) (fun h => absurd h (by decide))
      refine q_bipush (v := (-4)) (by decide) d112_199 ?_
      exact q_iret d112_201 rfl (Nat.le_refl _) (Nat.le_refl _) (v12 h1tc J4 h5 h6 h7 h8)
  ·
    have h1fc : ¬ n ≤ k := mt (nI_leI (by omega) (by omega)).mpr h1f
    refine q_aload_n d112_139 rfl ?_
    have g12 := hR.s
    refine q_getR (x := ((R 0 6).getD 0)) d112_140 (fs9_26 112 rfl) rfl (lt_w1 rfl) sh0 ((RR_d rfl).trans g12.1) (lt1000 (isG_lt g12.2)) ?_
    refine q_iload_n d112_143 rfl ?_
    refine q_iload d112_144 rfl ?_
    refine q_aload d112_146 rfl ?_
    refine q_getR (x := ((248 + 3 * r) + 1)) d112_148 (fs9_228 112 rfl) rfl (isRw_lt (isRw_k r hr)) (isRw_sh (isRw_k r hr)) (isRw_r1 R (isRw_k r hr)) (lt1000 (isRw_lt1 (isRw_k r hr))) ?_
    refine q_iload d112_151 rfl ?_
    refine q_iload d112_153 rfl ?_
    refine q_iadd d112_155 ?_
    refine r_int (y := (nI (i + k))) (nI_add i k) ?_
    refine q_daload (a := (i + k)) d112_156 (isRw_lt1 (isRw_k r hr)) (isRw_sh1 (isRw_k r hr)) rfl (by omega) ?_
    refine q_invV (o := ((R 0 6).getD 0)) (ci := 3) (av := [.int 1, .int (nI k), .double (D ((248 + 3 * r) + 1) (i + k))]) (rest := []) (d' := 0) (mc' := 0) (ms' := 0) d112_157 (cv9_205 112 rfl) rfl (by decide) rfl rfl (by omega) (Nat.le_of_ble_eq_true rfl) (Nat.le_of_ble_eq_true rfl) (isG_lt g12.2) (isG_sh g12.2) (Nat.le_refl _) (Nat.le_refl _) ?_
    refine s110_1 (g := ((R 0 6).getD 0)) (k := k) g12.2 (by first | omega | decide) (Nat.le_refl _) (fun c13 => ?_) (fun c14 c15 => ?_) (fun c16 c17 => ?_)
    ·
      show j_W 112 d 0 0 0 0 160 [some (.ref 0), some (.int (nI t)), some (.int 1), some (.int (nI r)), some (.int (nI i)), some (.int (nI n)), some (.ref (248 + 3 * r)), some (.int (nI k))] [] w1 (I, D, RR R) Q
      refine q_iinc (L' := [some (.ref 0), some (.int (nI t)), some (.int 1), some (.int (nI r)), some (.int (nI i)), some (.int (nI n)), some (.ref (248 + 3 * r)), some (.int (nI (k + 1)))]) (v := (nI (k + 1))) d112_160 rfl (nI_inc _) rfl ?_
      refine q_goto (tgt := 132) d112_163 rfl ?_
      exact r_sub (L' := [some (.ref 0), some (.int (nI t)), some (.int 1), some (.int (nI r)), some (.int (nI i)), some (.int (nI n)), some (.ref (248 + 3 * r)), some (.int (nI (k + 1)))]) ⟨rfl, rfl, rfl, rfl, rfl, rfl, rfl, rfl, trivial⟩ (v13 h1fc c13)
    ·
      show j_W 112 d 0 0 0 0 160 [some (.ref 0), some (.int (nI t)), some (.int 1), some (.int (nI r)), some (.int (nI i)), some (.int (nI n)), some (.ref (248 + 3 * r)), some (.int (nI k))] [] w1 (I, (j_u D (((R 0 6).getD 0) + 2) k (D ((248 + 3 * r) + 1) (i + k))), RR R) Q
      refine q_iinc (L' := [some (.ref 0), some (.int (nI t)), some (.int 1), some (.int (nI r)), some (.int (nI i)), some (.int (nI n)), some (.ref (248 + 3 * r)), some (.int (nI (k + 1)))]) (v := (nI (k + 1))) d112_160 rfl (nI_inc _) rfl ?_
      refine q_goto (tgt := 132) d112_163 rfl ?_
      exact r_sub (L' := [some (.ref 0), some (.int (nI t)), some (.int 1), some (.int (nI r)), some (.int (nI i)), some (.int (nI n)), some (.ref (248 + 3 * r)), some (.int (nI (k + 1)))]) ⟨rfl, rfl, rfl, rfl, rfl, rfl, rfl, rfl, trivial⟩ (v14 h1fc c14 c15)
    ·
      show j_W 112 d 0 0 0 0 160 [some (.ref 0), some (.int (nI t)), some (.int 1), some (.int (nI r)), some (.int (nI i)), some (.int (nI n)), some (.ref (248 + 3 * r)), some (.int (nI k))] [] w1 (I, D, RR R) Q
      refine q_iinc (L' := [some (.ref 0), some (.int (nI t)), some (.int 1), some (.int (nI r)), some (.int (nI i)), some (.int (nI n)), some (.ref (248 + 3 * r)), some (.int (nI (k + 1)))]) (v := (nI (k + 1))) d112_160 rfl (nI_inc _) rfl ?_
      refine q_goto (tgt := 132) d112_163 rfl ?_
      exact r_sub (L' := [some (.ref 0), some (.int (nI t)), some (.int 1), some (.int (nI r)), some (.int (nI i)), some (.int (nI n)), some (.ref (248 + 3 * r)), some (.int (nI (k + 1)))]) ⟨rfl, rfl, rfl, rfl, rfl, rfl, rfl, rfl, trivial⟩ (v15 h1fc c16 c17)

set_option maxRecDepth 10000 in
set_option maxHeartbeats 4000000 in
theorem s252h_1 {d : Nat} {I : Nat → Nat → Int32} {D : Nat → Nat → UInt64} {R : Nat → Nat → Option Nat} {Q : j_Po} {t : Nat} {r : Nat} {i : Nat} {n : Nat} {k : Nat} {β β2 : Bd} {X : Nat → Nat → Bool} {bv : Nat → Nat} (ht : t < 6) (hr : r < 4) (hn1 : 1 ≤ n) (hn8 : n ≤ 8) (hi : i + n ≤ 64) (hk : k ≤ n) (hd : 84 ≤ d)
    (v1 : (n ≤ k) → t < 6)
    (v2 : (n ≤ k) → 83 ≤ d - 1)
    (v3 : (n ≤ k) → BV β2)
    (v4 : (n ≤ k) → RcE β2 X)
    (v5 : (n ≤ k) → BuE β2 X bv)
    (v6 : (n ≤ k) → RBN β2 (j_u I 319 (2 * t + 1) (nI n)))
    (v7 : (n ≤ k) → RBN β I)
    (v8 : (n ≤ k) → (∀ v, v < 30 → bv v ≤ 2000) → ∀ K2 : Nat → Nat → Int32, (∀ o, o ≠ 361 → o ≠ 362 → K2 o = (j_u I 319 (2 * t + 1) (nI n)) o) → (RBN β2 K2) → j_W 252 d 0 0 0 0 162 [some (.ref 260), some (.int (nI t)), some (.int 1), some (.int (nI r)), some (.int (nI i)), some (.int (nI n)), some (.int 0)] [] w1 (K2, D, RR R) Q)
    (v9 : (n ≤ k) → (∃ v, v < 30 ∧ 2000 < bv v) → ∀ K2 : Nat → Nat → Int32, (∀ o, o ≠ 361 → o ≠ 362 → K2 o = I o) → (RBN β K2) → Q (some (.int (-4))) w1 (K2, D, RR R))
    (v10 : (¬ n ≤ k) → ((I (511 + r) (i + k)) = 0) → j_W 252 d 0 0 0 0 114 [some (.ref 260), some (.int (nI t)), some (.int 1), some (.int (nI r)), some (.int (nI i)), some (.int (nI n)), some (.int (nI (k + 1)))] [] w1 (I, D, RR R) Q)
    (v11 : (¬ n ≤ k) → (¬ (I (511 + r) (i + k)) = 0) → Q (some (.int (-3))) w1 (I, D, RR R)) : j_W 252 d 0 0 0 0 114 [some (.ref 260), some (.int (nI t)), some (.int 1), some (.int (nI r)), some (.int (nI i)), some (.int (nI n)), some (.int (nI k))] [] w1 (I, D, RR R) Q := by
  refine q_iload d252_114 rfl ?_
  refine q_iload d252_116 rfl ?_
  refine q_icmp_ge (tgt := 145) d252_118 rfl (fun h1t => ?_) (fun h1f => ?_)
  ·
    have h1tc : n ≤ k := (nI_leI (by omega) (by omega)).mp h1t
    refine q_aload_n d252_145 rfl ?_
    refine q_iload_n d252_146 rfl ?_
    refine q_iload_n d252_147 rfl ?_
    refine q_iload d252_148 rfl ?_
    refine q_invV (o := 260) (ci := 10) (av := [.int (nI t), .int 1, .int (nI n)]) (rest := []) (d' := (d - 1)) (mc' := 0) (ms' := 0) d252_150 (cv10_485 252 rfl) rfl (by decide) rfl rfl (by omega) (Nat.le_of_ble_eq_true rfl) (Nat.le_of_ble_eq_true rfl) (lt_w1 rfl) sh260 (Nat.le_refl _) (Nat.le_refl _) ?_
    refine c251 (β := β) (β2 := β2) (w := 1) (X := X) (bv := bv) (by decide) (v1 h1tc) (v2 h1tc) (v3 h1tc) (v4 h1tc) (v5 h1tc) (v6 h1tc) (v7 h1tc) (fun h3 K2 h4 h5 => ?_) (fun h3 K2 h4 h5 => ?_)
    ·
      show j_W 252 d 0 0 0 0 153 [some (.ref 260), some (.int (nI t)), some (.int 1), some (.int (nI r)), some (.int (nI i)), some (.int (nI n)), some (.int (nI k))] [.int 1] w1 (K2, D, RR R) Q
      refine q_if_ne (tgt := 159) d252_153 rfl (fun _ => ?_) (fun h => absurd h (by decide))
      refine q_iconst (v := 0) (by decide) d252_159 ?_
      refine q_istore (L' := [some (.ref 260), some (.int (nI t)), some (.int 1), some (.int (nI r)), some (.int (nI i)), some (.int (nI n)), some (.int 0)]) d252_160 (Nat.le_of_ble_eq_true rfl) rfl ?_
      exact r_sub (L' := [some (.ref 260), some (.int (nI t)), some (.int 1), some (.int (nI r)), some (.int (nI i)), some (.int (nI n)), some (.int 0)]) ⟨rfl, rfl, rfl, rfl, rfl, rfl, rfl, trivial⟩ (v8 h1tc h3 K2 h4 h5)
    ·
      show j_W 252 d 0 0 0 0 153 [some (.ref 260), some (.int (nI t)), some (.int 1), some (.int (nI r)), some (.int (nI i)), some (.int (nI n)), some (.int (nI k))] [.int 0] w1 (K2, D, RR R) Q
      refine q_if_ne (tgt := 159) d252_153 rfl (fun h => absurd h (by decide)) (fun _ => ?_)
      refine q_bipush (v := (-4)) (by decide) d252_156 ?_
      exact q_iret d252_158 rfl (Nat.le_refl _) (Nat.le_refl _) (v9 h1tc h3 K2 h4 h5)
  ·
    have h1fc : ¬ n ≤ k := mt (nI_leI (by omega) (by omega)).mpr h1f
    refine q_aload_n d252_121 rfl ?_
    refine q_getR (x := 510) d252_122 (fs10_174 252 rfl) rfl (lt_w1 rfl) sh260 (rs260_73 R) (by decide) ?_
    refine q_iload_n d252_125 rfl ?_
    refine q_aaload (c := 5) (a := r) (x := (511 + r)) d252_126 (lt_w1 rfl) sh510 (by decide) rfl (by omega) (rm510 R (by omega)) (lt1000 (lm510 (by omega))) ?_
    refine q_iload d252_127 rfl ?_
    refine q_iload d252_129 rfl ?_
    refine q_iadd d252_131 ?_
    refine r_int (y := (nI (i + k))) (nI_add i k) ?_
    refine q_zaload (a := (i + k)) d252_132 (lm510 (by omega)) (sm510 (by omega)) rfl (by omega) ?_
    refine q_if_eq (tgt := 139) d252_133 rfl (fun h6t => ?_) (fun h6f => ?_)
    ·
      refine q_iinc (L' := [some (.ref 260), some (.int (nI t)), some (.int 1), some (.int (nI r)), some (.int (nI i)), some (.int (nI n)), some (.int (nI (k + 1)))]) (v := (nI (k + 1))) d252_139 rfl (nI_inc _) rfl ?_
      refine q_goto (tgt := 114) d252_142 rfl ?_
      exact r_sub (L' := [some (.ref 260), some (.int (nI t)), some (.int 1), some (.int (nI r)), some (.int (nI i)), some (.int (nI n)), some (.int (nI (k + 1)))]) ⟨rfl, rfl, rfl, rfl, rfl, rfl, rfl, trivial⟩ (v10 h1fc h6t)
    ·
      refine q_bipush (v := (-3)) (by decide) d252_136 ?_
      exact q_iret d252_138 rfl (Nat.le_refl _) (Nat.le_refl _) (v11 h1fc h6f)

set_option maxRecDepth 10000 in
set_option maxHeartbeats 4000000 in
theorem s252l_1 {d : Nat} {I : Nat → Nat → Int32} {D : Nat → Nat → UInt64} {R : Nat → Nat → Option Nat} {Q : j_Po} {t : Nat} {r : Nat} {i : Nat} {n : Nat} {k : Nat} {β2 : Bd} (ht : t < 6) (hr : r < 4) (hn1 : 1 ≤ n) (hn8 : n ≤ 8) (hi : i + n ≤ 64) (hk : k ≤ n) (hV2 : BV β2) (hd : 84 ≤ d)
    (v1 : (n ≤ k) → RBN β2 I)
    (v2 : (n ≤ k) → bL β2 t = true)
    (v3 : (n ≤ k) → Q (some (.int (nI (cas β2 t)))) w1 (I, D, RR R))
    (v4 : (¬ n ≤ k) → j_W 252 d 0 0 0 0 162 [some (.ref 260), some (.int (nI t)), some (.int 1), some (.int (nI r)), some (.int (nI i)), some (.int (nI n)), some (.int (nI (k + 1)))] [] w1 (I, (j_u D (321 + ((2 * t) + 1)) k (D (506 + r) (i + k))), RR R) Q) : j_W 252 d 0 0 0 0 162 [some (.ref 260), some (.int (nI t)), some (.int 1), some (.int (nI r)), some (.int (nI i)), some (.int (nI n)), some (.int (nI k))] [] w1 (I, D, RR R) Q := by
  refine q_iload d252_162 rfl ?_
  refine q_iload d252_164 rfl ?_
  refine q_icmp_ge (tgt := 200) d252_166 rfl (fun h1t => ?_) (fun h1f => ?_)
  ·
    have h1tc : n ≤ k := (nI_leI (by omega) (by omega)).mp h1t
    refine q_aload_n d252_200 rfl ?_
    refine q_iload_n d252_201 rfl ?_
    refine q_invV (o := 260) (ci := 10) (av := [.int (nI t)]) (rest := []) (d' := 1) (mc' := 0) (ms' := 0) d252_202 (cv10_232 252 rfl) rfl (by decide) rfl rfl (by omega) (Nat.le_of_ble_eq_true rfl) (Nat.le_of_ble_eq_true rfl) (lt_w1 rfl) sh260 (Nat.le_refl _) (Nat.le_refl _) ?_
    refine c186 (β := β2) hV2 ht (v1 h1tc) (v2 h1tc) ?_
    show j_W 252 d 0 0 0 0 205 [some (.ref 260), some (.int (nI t)), some (.int 1), some (.int (nI r)), some (.int (nI i)), some (.int (nI n)), some (.int (nI k))] [.int (nI (cas β2 t))] w1 (I, D, RR R) Q
    exact q_iret d252_205 rfl (Nat.le_refl _) (Nat.le_refl _) (v3 h1tc)
  ·
    have h1fc : ¬ n ≤ k := mt (nI_leI (by omega) (by omega)).mpr h1f
    refine q_aload_n d252_169 rfl ?_
    refine q_getR (x := 320) d252_170 (fs10_49 252 rfl) rfl (lt_w1 rfl) sh260 (rs260_11 R) (by decide) ?_
    refine q_iconst (v := 2) (by decide) d252_173 ?_
    refine q_iload_n d252_174 rfl ?_
    refine q_imul d252_175 ?_
    refine r_int (y := (nI (2 * t))) (pk_mul 2 t) ?_
    refine q_iload_n d252_176 rfl ?_
    refine q_iadd d252_177 ?_
    refine r_int (y := (nI ((2 * t) + 1))) (nI_add (2 * t) 1) ?_
    refine q_aaload (c := 3) (a := ((2 * t) + 1)) (x := (321 + ((2 * t) + 1))) d252_178 (lt_w1 rfl) sh320 (by decide) rfl (by omega) (rm320 R (by omega)) (lt1000 (lm320 (by omega))) ?_
    refine q_iload d252_179 rfl ?_
    refine q_aload_n d252_181 rfl ?_
    refine q_getR (x := 505) d252_182 (fs10_171 252 rfl) rfl (lt_w1 rfl) sh260 (rs260_72 R) (by decide) ?_
    refine q_iload_n d252_185 rfl ?_
    refine q_aaload (c := 3) (a := r) (x := (506 + r)) d252_186 (lt_w1 rfl) sh505 (by decide) rfl (by omega) (rm505 R (by omega)) (lt1000 (lm505 (by omega))) ?_
    refine q_iload d252_187 rfl ?_
    refine q_iload d252_189 rfl ?_
    refine q_iadd d252_191 ?_
    refine r_int (y := (nI (i + k))) (nI_add i k) ?_
    refine q_daload (a := (i + k)) d252_192 (lm505 (by omega)) (sm505 (by omega)) rfl (by omega) ?_
    refine q_dastore (a := k) d252_193 (lm320 (by omega)) (sm320 (by omega)) rfl (by omega) ?_
    refine q_iinc (L' := [some (.ref 260), some (.int (nI t)), some (.int 1), some (.int (nI r)), some (.int (nI i)), some (.int (nI n)), some (.int (nI (k + 1)))]) (v := (nI (k + 1))) d252_194 rfl (nI_inc _) rfl ?_
    refine q_goto (tgt := 162) d252_197 rfl ?_
    exact r_sub (L' := [some (.ref 260), some (.int (nI t)), some (.int 1), some (.int (nI r)), some (.int (nI i)), some (.int (nI n)), some (.int (nI (k + 1)))]) ⟨rfl, rfl, rfl, rfl, rfl, rfl, rfl, trivial⟩ (v4 h1fc)

