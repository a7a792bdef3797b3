/-! tells: the walks of the pair -/
set_option maxRecDepth 10000 in
set_option maxHeartbeats 4000000 in
theorem u14t {d : Nat} {I : Nat → Nat → Int32} {D : Nat → Nat → UInt64} {R : Nat → Nat → Option Nat} {Q : j_Po} {k : Nat}  (hR : WFR R) (hk : k < 24) (hd : 0 ≤ d)
    (v1 : ((I ((R 112 k).getD 0) 1) ≤ 0) → Q (some (.int 0)) w1 (I, D, RR R))
    (v2 : (¬ (I ((R 112 k).getD 0) 1) ≤ 0) → Q (some (.int 1)) w1 (I, D, RR R)) : j_Call d 14 [.ref 108, .int (nI k)] w1 (I, D, RR R) 0 0 Q := by
  refine q_enter (L := [some (.ref 108), some (.int (nI k))]) j_m14 (Nat.le_of_ble_eq_true rfl) rfl ?_
  refine q_aload_n d14_0 rfl ?_
  refine q_getR (x := 112) d14_1 (fs0_25 14 rfl) rfl (lt_w1 rfl) sh108 (rs108_3 R) (by decide) ?_
  refine q_iload_n d14_4 rfl ?_
  have g2 := hR.f k (by omega)
  refine q_aaload (c := 6) (a := k) (x := ((R 112 k).getD 0)) d14_5 (lt_w1 rfl) sh112 (by decide) rfl (by omega) ((RR_d rfl).trans g2.1) (lt1000 (isF_lt g2.2)) ?_
  refine q_getI d14_6 (fs0_50 14 rfl) rfl (isF_lt g2.2) (isF_sh g2.2) ?_
  refine q_if_le (tgt := 16) d14_9 rfl (fun h3t => ?_) (fun h3f => ?_)
  ·
    refine q_iconst (v := 0) (by decide) d14_16 ?_
    exact q_zret d14_17 rfl (Or.inl rfl) (Nat.le_refl _) (Nat.le_refl _) (v1 h3t)
  ·
    refine q_iconst (v := 1) (by decide) d14_12 ?_
    refine q_goto (tgt := 17) d14_13 rfl ?_
    exact q_zret d14_17 rfl (Or.inr rfl) (Nat.le_refl _) (Nat.le_refl _) (v2 h3f)

set_option maxRecDepth 10000 in
set_option maxHeartbeats 4000000 in
theorem u148r {d : Nat} {I : Nat → Nat → Int32} {D : Nat → Nat → UInt64} {R : Nat → Nat → Option Nat} {Q : j_Po} {a : Int32} {b : Int32} {e : Int32} {w : Int32}  (hR : WFR R) (hd : 2 ≤ d)
    (v1 : ∀ k1 : Nat, (k1 < 6) → (a = nI k1) → ∀ k2 : Nat, (k2 < 4) → (b = nI k2) → ∀ k3 : Nat, (k3 < 24) → (e = nI k3) → (w < 0) → Q (some (.int (-2))) w1 (I, D, RR R))
    (v2 : ∀ k1 : Nat, (k1 < 6) → (a = nI k1) → ∀ k2 : Nat, (k2 < 4) → (b = nI k2) → ∀ k3 : Nat, (k3 < 24) → (e = nI k3) → (¬ w < 0) → (w ≤ 3) → ((I ((R 113 k1).getD 0) 0) = 0) → Q (some (.int (-3))) w1 (I, D, RR R))
    (v3 : ∀ k1 : Nat, (k1 < 6) → (a = nI k1) → ∀ k2 : Nat, (k2 < 4) → (b = nI k2) → ∀ k3 : Nat, (k3 < 24) → (e = nI k3) → (¬ w < 0) → (w ≤ 3) → (¬ (I ((R 113 k1).getD 0) 0) = 0) → (w < 2) → j_W 148 d 0 0 0 0 70 [some (.ref 0), some (.int (nI k1)), some (.int (nI k2)), some (.int (nI k3)), some (.int w), none] [] w1 (I, D, RR R) Q)
    (v4 : ∀ k1 : Nat, (k1 < 6) → (a = nI k1) → ∀ k2 : Nat, (k2 < 4) → (b = nI k2) → ∀ k3 : Nat, (k3 < 24) → (e = nI k3) → (¬ w < 0) → (w ≤ 3) → (¬ (I ((R 113 k1).getD 0) 0) = 0) → (¬ w < 2) → ((I ((R 112 k3).getD 0) 1) ≤ 0) → j_W 148 d 0 0 0 0 70 [some (.ref 0), some (.int (nI k1)), some (.int (nI k2)), some (.int (nI k3)), some (.int w), none] [] w1 (I, D, RR R) Q)
    (v5 : ∀ k1 : Nat, (k1 < 6) → (a = nI k1) → ∀ k2 : Nat, (k2 < 4) → (b = nI k2) → ∀ k3 : Nat, (k3 < 24) → (e = nI k3) → (¬ w < 0) → (w ≤ 3) → (¬ (I ((R 113 k1).getD 0) 0) = 0) → (¬ w < 2) → (¬ (I ((R 112 k3).getD 0) 1) ≤ 0) → Q (some (.int (-3))) w1 (I, D, RR R))
    (v6 : ∀ k1 : Nat, (k1 < 6) → (a = nI k1) → ∀ k2 : Nat, (k2 < 4) → (b = nI k2) → ∀ k3 : Nat, (k3 < 24) → (e = nI k3) → (¬ w < 0) → (¬ w ≤ 3) → Q (some (.int (-2))) w1 (I, D, RR R))
    (v7 : ∀ k1 : Nat, (k1 < 6) → (a = nI k1) → ∀ k2 : Nat, (k2 < 4) → (b = nI k2) → (¬ (∃ k : Nat, k < 24 ∧ e = nI k)) → Q (some (.int (-2))) w1 (I, D, RR R))
    (v8 : ∀ k1 : Nat, (k1 < 6) → (a = nI k1) → (¬ (∃ k : Nat, k < 4 ∧ b = nI k)) → Q (some (.int (-2))) w1 (I, D, RR R))
    (v9 : (¬ (∃ k : Nat, k < 6 ∧ a = nI k)) → Q (some (.int (-2))) w1 (I, D, RR R)) : j_Call d 148 [.ref 0, .int a, .int b, .int e, .int w] w1 (I, D, RR R) 0 0 Q := by
  refine q_enter (L := [some (.ref 0), some (.int a), some (.int b), some (.int e), some (.int w), none]) j_m148 (Nat.le_of_ble_eq_true rfl) rfl ?_
  refine q_iload_n d148_0 rfl ?_
  refine q_invS (av := [.int a]) (rest := []) (d' := 0) (mc' := 0) (ms' := 0) d148_1 (cv9_183 148 rfl) rfl rfl (by omega) (Nat.le_of_ble_eq_true rfl) (Nat.le_of_ble_eq_true rfl) (Nat.le_refl _) (Nat.le_refl _) ?_
  refine r39  (fun k1 h1 h1e => ?_) (fun h1 => ?_)
  ·
    subst h1e
    show j_W 148 d 0 0 0 0 4 [some (.ref 0), some (.int (nI k1)), some (.int b), some (.int e), some (.int w), none] [.int 1] w1 (I, D, RR R) Q
    refine q_if_eq (tgt := 32) d148_4 rfl (fun h => absurd h (by decide)) (fun _ => ?_)
    refine q_iload_n d148_7 rfl ?_
    refine q_invS (av := [.int b]) (rest := []) (d' := 0) (mc' := 0) (ms' := 0) d148_8 (cv9_216 148 rfl) rfl rfl (by omega) (Nat.le_of_ble_eq_true rfl) (Nat.le_of_ble_eq_true rfl) (Nat.le_refl _) (Nat.le_refl _) ?_
    refine r113  (fun k2 h2 h2e => ?_) (fun h2 => ?_)
    ·
      subst h2e
      show j_W 148 d 0 0 0 0 11 [some (.ref 0), some (.int (nI k1)), some (.int (nI k2)), some (.int e), some (.int w), none] [.int 1] w1 (I, D, RR R) Q
      refine q_if_eq (tgt := 32) d148_11 rfl (fun h => absurd h (by decide)) (fun _ => ?_)
      refine q_iload_n d148_14 rfl ?_
      refine q_invS (av := [.int e]) (rest := []) (d' := 0) (mc' := 0) (ms' := 0) d148_15 (cv9_60 148 rfl) rfl rfl (by omega) (Nat.le_of_ble_eq_true rfl) (Nat.le_of_ble_eq_true rfl) (Nat.le_refl _) (Nat.le_refl _) ?_
      refine r12  (fun k3 h3 h3e => ?_) (fun h3 => ?_)
      ·
        subst h3e
        show j_W 148 d 0 0 0 0 18 [some (.ref 0), some (.int (nI k1)), some (.int (nI k2)), some (.int (nI k3)), some (.int w), none] [.int 1] w1 (I, D, RR R) Q
        refine q_if_eq (tgt := 32) d148_18 rfl (fun h => absurd h (by decide)) (fun _ => ?_)
        refine q_iload d148_21 rfl ?_
        refine q_if_lt (tgt := 32) d148_23 rfl (fun h4t => ?_) (fun h4f => ?_)
        ·
          refine q_bipush (v := (-2)) (by decide) d148_32 ?_
          exact q_iret d148_34 rfl (Nat.le_refl _) (Nat.le_refl _) (v1 k1 h1 rfl k2 h2 rfl k3 h3 rfl h4t)
        ·
          refine q_iload d148_26 rfl ?_
          refine q_iconst (v := 3) (by decide) d148_28 ?_
          refine q_icmp_le (tgt := 35) d148_29 rfl (fun h5t => ?_) (fun h5f => ?_)
          ·
            refine q_aload_n d148_35 rfl ?_
            refine q_getR (x := 108) d148_36 (fs9_53 148 rfl) rfl (lt_w1 rfl) sh0 (rs0_1 R) (by decide) ?_
            refine q_getR (x := 113) d148_39 (fs9_197 148 rfl) rfl (lt_w1 rfl) sh108 (rs108_4 R) (by decide) ?_
            refine q_iload_n d148_42 rfl ?_
            have g7 := hR.g k1 (by omega)
            refine q_aaload (c := 7) (a := k1) (x := ((R 113 k1).getD 0)) d148_43 (lt_w1 rfl) sh113 (by decide) rfl (by omega) ((RR_d rfl).trans g7.1) (lt1000 (isG_lt g7.2)) ?_
            refine q_getI d148_44 (fs9_231 148 rfl) rfl (isG_lt g7.2) (isG_sh g7.2) ?_
            refine q_if_eq (tgt := 67) d148_47 rfl (fun h8t => ?_) (fun h8f => ?_)
            ·
              refine q_bipush (v := (-3)) (by decide) d148_67 ?_
              exact q_iret d148_69 rfl (Nat.le_refl _) (Nat.le_refl _) (v2 k1 h1 rfl k2 h2 rfl k3 h3 rfl h4f h5t h8t)
            ·
              refine q_iload d148_50 rfl ?_
              refine q_iconst (v := 2) (by decide) d148_52 ?_
              refine q_icmp_lt (tgt := 70) d148_53 rfl (fun h9t => ?_) (fun h9f => ?_)
              ·
                exact r_sub (L' := [some (.ref 0), some (.int (nI k1)), some (.int (nI k2)), some (.int (nI k3)), some (.int w), none]) ⟨rfl, rfl, rfl, rfl, rfl, trivial⟩ (v3 k1 h1 rfl k2 h2 rfl k3 h3 rfl h4f h5t h8f h9t)
              ·
                refine q_aload_n d148_56 rfl ?_
                refine q_getR (x := 108) d148_57 (fs9_53 148 rfl) rfl (lt_w1 rfl) sh0 (rs0_1 R) (by decide) ?_
                refine q_iload_n d148_60 rfl ?_
                refine q_invV (o := 108) (ci := 0) (av := [.int (nI k3)]) (rest := []) (d' := 0) (mc' := 0) (ms' := 0) d148_61 (cv9_69 148 rfl) rfl (by decide) rfl rfl (by omega) (Nat.le_of_ble_eq_true rfl) (Nat.le_of_ble_eq_true rfl) (lt_w1 rfl) sh108 (Nat.le_refl _) (Nat.le_refl _) ?_
                refine u14t (k := k3) hR (by first | omega | decide) (Nat.le_refl _) (fun c10 => ?_) (fun c11 => ?_)
                ·
                  show j_W 148 d 0 0 0 0 64 [some (.ref 0), some (.int (nI k1)), some (.int (nI k2)), some (.int (nI k3)), some (.int w), none] [.int 0] w1 (I, D, RR R) Q
                  refine q_if_eq (tgt := 70) d148_64 rfl (fun _ => ?_) (fun h => absurd h (by decide))
                  exact r_sub (L' := [some (.ref 0), some (.int (nI k1)), some (.int (nI k2)), some (.int (nI k3)), some (.int w), none]) ⟨rfl, rfl, rfl, rfl, rfl, trivial⟩ (v4 k1 h1 rfl k2 h2 rfl k3 h3 rfl h4f h5t h8f h9f c10)
                ·
                  show j_W 148 d 0 0 0 0 64 [some (.ref 0), some (.int (nI k1)), some (.int (nI k2)), some (.int (nI k3)), some (.int w), none] [.int 1] w1 (I, D, RR R) Q
                  refine q_if_eq (tgt := 70) d148_64 rfl (fun h => absurd h (by decide)) (fun _ => ?_)
                  refine q_bipush (v := (-3)) (by decide) d148_67 ?_
                  exact q_iret d148_69 rfl (Nat.le_refl _) (Nat.le_refl _) (v5 k1 h1 rfl k2 h2 rfl k3 h3 rfl h4f h5t h8f h9f c11)
          ·
            refine q_bipush (v := (-2)) (by decide) d148_32 ?_
            exact q_iret d148_34 rfl (Nat.le_refl _) (Nat.le_refl _) (v6 k1 h1 rfl k2 h2 rfl k3 h3 rfl h4f h5f)
      ·
        show j_W 148 d 0 0 0 0 18 [some (.ref 0), some (.int (nI k1)), some (.int (nI k2)), some (.int e), some (.int w), none] [.int 0] w1 (I, D, RR R) Q
        refine q_if_eq (tgt := 32) d148_18 rfl (fun _ => ?_) (fun h => absurd h (by decide))
        refine q_bipush (v := (-2)) (by decide) d148_32 ?_
        exact q_iret d148_34 rfl (Nat.le_refl _) (Nat.le_refl _) (v7 k1 h1 rfl k2 h2 rfl h3)
    ·
      show j_W 148 d 0 0 0 0 11 [some (.ref 0), some (.int (nI k1)), some (.int b), some (.int e), some (.int w), none] [.int 0] w1 (I, D, RR R) Q
      refine q_if_eq (tgt := 32) d148_11 rfl (fun _ => ?_) (fun h => absurd h (by decide))
      refine q_bipush (v := (-2)) (by decide) d148_32 ?_
      exact q_iret d148_34 rfl (Nat.le_refl _) (Nat.le_refl _) (v8 k1 h1 rfl h2)
  ·
    show j_W 148 d 0 0 0 0 4 [some (.ref 0), some (.int a), some (.int b), some (.int e), some (.int w), none] [.int 0] w1 (I, D, RR R) Q
    refine q_if_eq (tgt := 32) d148_4 rfl (fun _ => ?_) (fun h => absurd h (by decide))
    refine q_bipush (v := (-2)) (by decide) d148_32 ?_
    exact q_iret d148_34 rfl (Nat.le_refl _) (Nat.le_refl _) (v9 h1)

set_option maxRecDepth 10000 in
set_option maxHeartbeats 4000000 in
theorem u276r {d : Nat} {I : Nat → Nat → Int32} {D : Nat → Nat → UInt64} {R : Nat → Nat → Option Nat} {Q : j_Po} {a : Int32} {b : Int32} {e : Int32} {w : Int32}   (hd : 3 ≤ d)
    (v1 : ∀ k1 : Nat, (k1 < 6) → (a = nI k1) → ∀ k2 : Nat, (k2 < 4) → (b = nI k2) → ∀ k3 : Nat, (k3 < 24) → (e = nI k3) → ((¬ w < (0 : Int32) ∧ ¬ (3 : Int32) < w)) → ((I 315 k1) = 0) → Q (some (.int (-3))) w1 (I, D, RR R))
    (v2 : ∀ k1 : Nat, (k1 < 6) → (a = nI k1) → ∀ k2 : Nat, (k2 < 4) → (b = nI k2) → ∀ k3 : Nat, (k3 < 24) → (e = nI k3) → ((¬ w < (0 : Int32) ∧ ¬ (3 : Int32) < w)) → (¬ (I 315 k1) = 0) → (w ≤ 1) → j_W 276 d 0 0 0 0 60 [some (.ref 260), some (.int (nI k1)), some (.int (nI k2)), some (.int (nI k3)), some (.int w)] [] w1 (I, D, RR R) Q)
    (v3 : ∀ k1 : Nat, (k1 < 6) → (a = nI k1) → ∀ k2 : Nat, (k2 < 4) → (b = nI k2) → ∀ k3 : Nat, (k3 < 24) → (e = nI k3) → ((¬ w < (0 : Int32) ∧ ¬ (3 : Int32) < w)) → (¬ (I 315 k1) = 0) → (¬ w ≤ 1) → (¬ (I 264 k3) = 0) → Q (some (.int (-3))) w1 (I, D, RR R))
    (v4 : ∀ k1 : Nat, (k1 < 6) → (a = nI k1) → ∀ k2 : Nat, (k2 < 4) → (b = nI k2) → ∀ k3 : Nat, (k3 < 24) → (e = nI k3) → ((¬ w < (0 : Int32) ∧ ¬ (3 : Int32) < w)) → (¬ (I 315 k1) = 0) → (¬ w ≤ 1) → ((I 264 k3) = 0) → j_W 276 d 0 0 0 0 60 [some (.ref 260), some (.int (nI k1)), some (.int (nI k2)), some (.int (nI k3)), some (.int w)] [] w1 (I, D, RR R) Q)
    (v5 : ∀ k1 : Nat, (k1 < 6) → (a = nI k1) → ∀ k2 : Nat, (k2 < 4) → (b = nI k2) → ∀ k3 : Nat, (k3 < 24) → (e = nI k3) → (¬ ((¬ w < (0 : Int32) ∧ ¬ (3 : Int32) < w))) → Q (some (.int (-2))) w1 (I, D, RR R))
    (v6 : ∀ k1 : Nat, (k1 < 6) → (a = nI k1) → ∀ k2 : Nat, (k2 < 4) → (b = nI k2) → (¬ (∃ k : Nat, k < 24 ∧ e = nI k)) → Q (some (.int (-2))) w1 (I, D, RR R))
    (v7 : ∀ k1 : Nat, (k1 < 6) → (a = nI k1) → (¬ (∃ k : Nat, k < 4 ∧ b = nI k)) → Q (some (.int (-2))) w1 (I, D, RR R))
    (v8 : (¬ (∃ k : Nat, k < 6 ∧ a = nI k)) → Q (some (.int (-2))) w1 (I, D, RR R)) : j_Call d 276 [.ref 260, .int a, .int b, .int e, .int w] w1 (I, D, RR R) 0 0 Q := by
  refine q_enter (L := [some (.ref 260), some (.int a), some (.int b), some (.int e), some (.int w)]) j_m276 (Nat.le_of_ble_eq_true rfl) rfl ?_
  refine q_iload_n d276_0 rfl ?_
  refine q_invS (av := [.int a]) (rest := []) (d' := 1) (mc' := 0) (ms' := 0) d276_1 (cv10_480 276 rfl) rfl rfl (by omega) (Nat.le_of_ble_eq_true rfl) (Nat.le_of_ble_eq_true rfl) (Nat.le_refl _) (Nat.le_refl _) ?_
  refine r249 (Nat.le_refl _)  (fun k1 h1 h1e => ?_) (fun h1 => ?_)
  ·
    subst h1e
    show j_W 276 d 0 0 0 0 4 [some (.ref 260), some (.int (nI k1)), some (.int b), some (.int e), some (.int w)] [.int 1] w1 (I, D, RR R) Q
    refine q_if_eq (tgt := 31) d276_4 rfl (fun h => absurd h (by decide)) (fun _ => ?_)
    refine q_iload_n d276_7 rfl ?_
    refine q_invS (av := [.int b]) (rest := []) (d' := 1) (mc' := 0) (ms' := 0) d276_8 (cv10_488 276 rfl) rfl rfl (by omega) (Nat.le_of_ble_eq_true rfl) (Nat.le_of_ble_eq_true rfl) (Nat.le_refl _) (Nat.le_refl _) ?_
    refine r253 (Nat.le_refl _)  (fun k2 h2 h2e => ?_) (fun h2 => ?_)
    ·
      subst h2e
      show j_W 276 d 0 0 0 0 11 [some (.ref 260), some (.int (nI k1)), some (.int (nI k2)), some (.int e), some (.int w)] [.int 1] w1 (I, D, RR R) Q
      refine q_if_eq (tgt := 31) d276_11 rfl (fun h => absurd h (by decide)) (fun _ => ?_)
      refine q_iload_n d276_14 rfl ?_
      refine q_invS (av := [.int e]) (rest := []) (d' := 1) (mc' := 0) (ms' := 0) d276_15 (cv10_312 276 rfl) rfl rfl (by omega) (Nat.le_of_ble_eq_true rfl) (Nat.le_of_ble_eq_true rfl) (Nat.le_refl _) (Nat.le_refl _) ?_
      refine r167 (Nat.le_refl _)  (fun k3 h3 h3e => ?_) (fun h3 => ?_)
      ·
        subst h3e
        show j_W 276 d 0 0 0 0 18 [some (.ref 260), some (.int (nI k1)), some (.int (nI k2)), some (.int (nI k3)), some (.int w)] [.int 1] w1 (I, D, RR R) Q
        refine q_if_eq (tgt := 31) d276_18 rfl (fun h => absurd h (by decide)) (fun _ => ?_)
        refine q_iload d276_21 rfl ?_
        refine q_iconst (v := 0) (by decide) d276_23 ?_
        refine q_iconst (v := 3) (by decide) d276_24 ?_
        refine q_invS (av := [.int w, .int 0, .int 3]) (rest := []) (d' := 0) (mc' := 0) (ms' := 0) d276_25 (cv10_183 276 rfl) rfl rfl (by omega) (Nat.le_of_ble_eq_true rfl) (Nat.le_of_ble_eq_true rfl) (Nat.le_refl _) (Nat.le_refl _) ?_
        refine p168  (fun h4 => ?_) (fun h4 => ?_)
        ·
          show j_W 276 d 0 0 0 0 28 [some (.ref 260), some (.int (nI k1)), some (.int (nI k2)), some (.int (nI k3)), some (.int w)] [.int 1] w1 (I, D, RR R) Q
          refine q_if_ne (tgt := 34) d276_28 rfl (fun _ => ?_) (fun h => absurd h (by decide))
          refine q_aload_n d276_34 rfl ?_
          refine q_getR (x := 315) d276_35 (fs10_34 276 rfl) rfl (lt_w1 rfl) sh260 (rs260_6 R) (by decide) ?_
          refine q_iload_n d276_38 rfl ?_
          refine q_zaload (a := k1) d276_39 (lt_w1 rfl) sh315 rfl (by omega) ?_
          refine q_if_eq (tgt := 57) d276_40 rfl (fun h5t => ?_) (fun h5f => ?_)
          ·
            refine q_bipush (v := (-3)) (by decide) d276_57 ?_
            exact q_iret d276_59 rfl (Nat.le_refl _) (Nat.le_refl _) (v1 k1 h1 rfl k2 h2 rfl k3 h3 rfl h4 h5t)
          ·
            refine q_iload d276_43 rfl ?_
            refine q_iconst (v := 1) (by decide) d276_45 ?_
            refine q_icmp_le (tgt := 60) d276_46 rfl (fun h6t => ?_) (fun h6f => ?_)
            ·
              exact r_sub (L' := [some (.ref 260), some (.int (nI k1)), some (.int (nI k2)), some (.int (nI k3)), some (.int w)]) ⟨rfl, rfl, rfl, rfl, rfl, trivial⟩ (v2 k1 h1 rfl k2 h2 rfl k3 h3 rfl h4 h5f h6t)
            ·
              refine q_aload_n d276_49 rfl ?_
              refine q_iload_n d276_50 rfl ?_
              refine q_invV (o := 260) (ci := 10) (av := [.int (nI k3)]) (rest := []) (d' := 0) (mc' := 0) (ms' := 0) d276_51 (cv10_204 276 rfl) rfl (by decide) rfl rfl (by omega) (Nat.le_of_ble_eq_true rfl) (Nat.le_of_ble_eq_true rfl) (lt_w1 rfl) sh260 (Nat.le_refl _) (Nat.le_refl _) ?_
              refine s170 (k := k3) (by first | omega | decide) (Nat.le_refl _) (fun c7 => ?_) (fun c8 => ?_)
              ·
                show j_W 276 d 0 0 0 0 54 [some (.ref 260), some (.int (nI k1)), some (.int (nI k2)), some (.int (nI k3)), some (.int w)] [.int 0] w1 (I, D, RR R) Q
                refine q_if_ne (tgt := 60) d276_54 rfl (fun h => absurd h (by decide)) (fun _ => ?_)
                refine q_bipush (v := (-3)) (by decide) d276_57 ?_
                exact q_iret d276_59 rfl (Nat.le_refl _) (Nat.le_refl _) (v3 k1 h1 rfl k2 h2 rfl k3 h3 rfl h4 h5f h6f c7)
              ·
                show j_W 276 d 0 0 0 0 54 [some (.ref 260), some (.int (nI k1)), some (.int (nI k2)), some (.int (nI k3)), some (.int w)] [.int 1] w1 (I, D, RR R) Q
                refine q_if_ne (tgt := 60) d276_54 rfl (fun _ => ?_) (fun h => absurd h (by decide))
                exact r_sub (L' := [some (.ref 260), some (.int (nI k1)), some (.int (nI k2)), some (.int (nI k3)), some (.int w)]) ⟨rfl, rfl, rfl, rfl, rfl, trivial⟩ (v4 k1 h1 rfl k2 h2 rfl k3 h3 rfl h4 h5f h6f c8)
        ·
          show j_W 276 d 0 0 0 0 28 [some (.ref 260), some (.int (nI k1)), some (.int (nI k2)), some (.int (nI k3)), some (.int w)] [.int 0] w1 (I, D, RR R) Q
          refine q_if_ne (tgt := 34) d276_28 rfl (fun h => absurd h (by decide)) (fun _ => ?_)
          refine q_bipush (v := (-2)) (by decide) d276_31 ?_
          exact q_iret d276_33 rfl (Nat.le_refl _) (Nat.le_refl _) (v5 k1 h1 rfl k2 h2 rfl k3 h3 rfl h4)
      ·
        show j_W 276 d 0 0 0 0 18 [some (.ref 260), some (.int (nI k1)), some (.int (nI k2)), some (.int e), some (.int w)] [.int 0] w1 (I, D, RR R) Q
        refine q_if_eq (tgt := 31) d276_18 rfl (fun _ => ?_) (fun h => absurd h (by decide))
        refine q_bipush (v := (-2)) (by decide) d276_31 ?_
        exact q_iret d276_33 rfl (Nat.le_refl _) (Nat.le_refl _) (v6 k1 h1 rfl k2 h2 rfl h3)
    ·
      show j_W 276 d 0 0 0 0 11 [some (.ref 260), some (.int (nI k1)), some (.int b), some (.int e), some (.int w)] [.int 0] w1 (I, D, RR R) Q
      refine q_if_eq (tgt := 31) d276_11 rfl (fun _ => ?_) (fun h => absurd h (by decide))
      refine q_bipush (v := (-2)) (by decide) d276_31 ?_
      exact q_iret d276_33 rfl (Nat.le_refl _) (Nat.le_refl _) (v7 k1 h1 rfl h2)
  ·
    show j_W 276 d 0 0 0 0 4 [some (.ref 260), some (.int a), some (.int b), some (.int e), some (.int w)] [.int 0] w1 (I, D, RR R) Q
    refine q_if_eq (tgt := 31) d276_4 rfl (fun _ => ?_) (fun h => absurd h (by decide))
    refine q_bipush (v := (-2)) (by decide) d276_31 ?_
    exact q_iret d276_33 rfl (Nat.le_refl _) (Nat.le_refl _) (v8 h1)

set_option maxRecDepth 10000 in
set_option maxHeartbeats 4000000 in
theorem u148s {d : Nat} {I : Nat → Nat → Int32} {D : Nat → Nat → UInt64} {R : Nat → Nat → Option Nat} {Q : j_Po} {t : Nat} {r : Nat} {c : Nat} {w : Int32} {β : Bd} (hR : WFR R) (hr : r < 4) (ht : t < 6) (hd : 2 ≤ d)
    (v1 : (¬ (I (248 + 3 * r) 0) = (-1)) → ((I (248 + 3 * r) 0) = 3) → BV β)
    (v2 : (¬ (I (248 + 3 * r) 0) = (-1)) → ((I (248 + 3 * r) 0) = 3) → t < 6)
    (v3 : (¬ (I (248 + 3 * r) 0) = (-1)) → ((I (248 + 3 * r) 0) = 3) → GR β t I D ((R 113 t).getD 0))
    (v4 : (¬ (I (248 + 3 * r) 0) = (-1)) → ((I (248 + 3 * r) 0) = 3) → bL β t = true)
    (v5 : (¬ (I (248 + 3 * r) 0) = (-1)) → ((I (248 + 3 * r) 0) = 3) → ((I (248 + 3 * r) 1) = (nI (cas β t))) → j_W 148 d 0 0 0 0 125 [some (.ref 0), some (.int (nI t)), some (.int (nI r)), some (.int (nI c)), some (.int w), some (.ref (248 + 3 * r))] [] w1 (I, D, RR R) Q)
    (v6 : (¬ (I (248 + 3 * r) 0) = (-1)) → ((I (248 + 3 * r) 0) = 3) → (¬ (I (248 + 3 * r) 1) = (nI (cas β t))) → Q (some (.int (-2))) w1 (I, D, RR R))
    (v7 : (¬ (I (248 + 3 * r) 0) = (-1)) → (¬ (I (248 + 3 * r) 0) = 3) → Q (some (.int (-13))) w1 (I, D, RR R))
    (v8 : ((I (248 + 3 * r) 0) = (-1)) → Q (some (.int (-11))) w1 (I, D, RR R)) : j_W 148 d 0 0 0 0 70 [some (.ref 0), some (.int (nI t)), some (.int (nI r)), some (.int (nI c)), some (.int w), none] [] w1 (I, D, RR R) Q := by
  refine q_aload_n d148_70 rfl ?_
  refine q_getR (x := 105) d148_71 (fs9_32 148 rfl) rfl (lt_w1 rfl) sh0 (rs0_7 R) (by decide) ?_
  refine q_iload_n d148_74 rfl ?_
  refine q_aaload (c := 8) (a := r) (x := (248 + 3 * r)) d148_75 (lt_w1 rfl) sh105 (by decide) rfl (by omega) (rl105 R (by omega)) (lt1000 (isRw_lt (isRw_k _ (by omega)))) ?_
  refine q_astore (L' := [some (.ref 0), some (.int (nI t)), some (.int (nI r)), some (.int (nI c)), some (.int w), some (.ref (248 + 3 * r))]) d148_76 (Nat.le_of_ble_eq_true rfl) (Nat.ne_of_lt (Nat.lt_trans (lt1000 (isRw_lt (isRw_k _ (by omega)))) (by decide))) rfl ?_
  refine q_aload d148_78 rfl ?_
  refine q_getI d148_80 (fs9_219 148 rfl) rfl (isRw_lt (isRw_k _ (by omega))) (isRw_sh (isRw_k _ (by omega))) ?_
  refine q_iconst (v := (-1)) (by decide) d148_83 ?_
  refine q_icmp_ne (tgt := 90) d148_84 rfl (fun h1t => ?_) (fun h1f => ?_)
  ·
    refine q_aload d148_90 rfl ?_
    refine q_getI d148_92 (fs9_219 148 rfl) rfl (isRw_lt (isRw_k _ (by omega))) (isRw_sh (isRw_k _ (by omega))) ?_
    refine q_iconst (v := 3) (by decide) d148_95 ?_
    refine q_icmp_eq (tgt := 102) d148_96 rfl (fun h2t => ?_) (fun h2f => ?_)
    ·
      refine q_aload d148_102 rfl ?_
      refine q_getI d148_104 (fs9_335 148 rfl) rfl (isRw_lt (isRw_k _ (by omega))) (isRw_sh (isRw_k _ (by omega))) ?_
      refine q_aload_n d148_107 rfl ?_
      refine q_getR (x := 108) d148_108 (fs9_53 148 rfl) rfl (lt_w1 rfl) sh0 (rs0_1 R) (by decide) ?_
      refine q_getR (x := 113) d148_111 (fs9_197 148 rfl) rfl (lt_w1 rfl) sh108 (rs108_4 R) (by decide) ?_
      refine q_iload_n d148_114 rfl ?_
      have g4 := hR.g t (by omega)
      refine q_aaload (c := 7) (a := t) (x := ((R 113 t).getD 0)) d148_115 (lt_w1 rfl) sh113 (by decide) rfl (by omega) ((RR_d rfl).trans g4.1) (lt1000 (isG_lt g4.2)) ?_
      refine q_invV (o := ((R 113 t).getD 0)) (ci := 3) (av := []) (rest := [.int (I (248 + 3 * r) 1)]) (d' := 1) (mc' := 0) (ms' := 0) d148_116 (cv9_213 148 rfl) rfl (by decide) rfl rfl (by omega) (Nat.le_of_ble_eq_true rfl) (Nat.le_of_ble_eq_true rfl) (isG_lt g4.2) (isG_sh g4.2) (Nat.le_refl _) (Nat.le_refl _) ?_
      refine c24g (β := β) (t := t) g4.2 (Nat.le_refl _) (v1 h1t h2t) (v2 h1t h2t) (v3 h1t h2t) (v4 h1t h2t) ?_
      show j_W 148 d 0 0 0 0 119 [some (.ref 0), some (.int (nI t)), some (.int (nI r)), some (.int (nI c)), some (.int w), some (.ref (248 + 3 * r))] [.int (nI (cas β t)), .int (I (248 + 3 * r) 1)] w1 (I, D, RR R) Q
      refine q_icmp_eq (tgt := 125) d148_119 rfl (fun h5t => ?_) (fun h5f => ?_)
      ·
        exact r_sub (L' := [some (.ref 0), some (.int (nI t)), some (.int (nI r)), some (.int (nI c)), some (.int w), some (.ref (248 + 3 * r))]) ⟨rfl, rfl, rfl, rfl, rfl, rfl, trivial⟩ (v5 h1t h2t h5t)
      ·
        refine q_bipush (v := (-2)) (by decide) d148_122 ?_
        exact q_iret d148_124 rfl (Nat.le_refl _) (Nat.le_refl _) (v6 h1t h2t h5f)
    ·
      refine q_bipush (v := (-13)) (by decide) d148_99 ?_
      exact q_iret d148_101 rfl (Nat.le_refl _) (Nat.le_refl _) (v7 h1t h2f)
  ·
    refine q_bipush (v := (-11)) (by decide) d148_87 ?_
    exact q_iret d148_89 rfl (Nat.le_refl _) (Nat.le_refl _) (v8 h1f)

set_option maxRecDepth 10000 in
set_option maxHeartbeats 4000000 in
theorem u276s {d : Nat} {I : Nat → Nat → Int32} {D : Nat → Nat → UInt64} {R : Nat → Nat → Option Nat} {Q : j_Po} {t : Nat} {r : Nat} {c : Nat} {w : Int32} {β : Bd} (hr : r < 4) (ht : t < 6) (hV : BV β) (hd : 3 ≤ d)
    (v1 : (0 ≤ (I 503 r)) → ((I 503 r) = 3) → t < 6)
    (v2 : (0 ≤ (I 503 r)) → ((I 503 r) = 3) → RBN β I)
    (v3 : (0 ≤ (I 503 r)) → ((I 503 r) = 3) → bL β t = true)
    (v4 : (0 ≤ (I 503 r)) → ((I 503 r) = 3) → ((I 504 r) = (nI (cas β t))) → j_W 276 d 0 0 0 0 102 [some (.ref 260), some (.int (nI t)), some (.int (nI r)), some (.int (nI c)), some (.int w)] [] w1 (I, D, RR R) Q)
    (v5 : (0 ≤ (I 503 r)) → ((I 503 r) = 3) → (¬ (I 504 r) = (nI (cas β t))) → Q (some (.int (-2))) w1 (I, D, RR R))
    (v6 : (0 ≤ (I 503 r)) → (¬ (I 503 r) = 3) → Q (some (.int (-13))) w1 (I, D, RR R))
    (v7 : (¬ 0 ≤ (I 503 r)) → Q (some (.int (-11))) w1 (I, D, RR R)) : j_W 276 d 0 0 0 0 60 [some (.ref 260), some (.int (nI t)), some (.int (nI r)), some (.int (nI c)), some (.int w)] [] w1 (I, D, RR R) Q := by
  refine q_aload_n d276_60 rfl ?_
  refine q_getR (x := 503) d276_61 (fs10_165 276 rfl) rfl (lt_w1 rfl) sh260 (rs260_70 R) (by decide) ?_
  refine q_iload_n d276_64 rfl ?_
  refine q_iaload (a := r) d276_65 (lt_w1 rfl) sh503 rfl (by omega) ?_
  refine q_if_ge (tgt := 72) d276_66 rfl (fun h1t => ?_) (fun h1f => ?_)
  ·
    refine q_aload_n d276_72 rfl ?_
    refine q_getR (x := 503) d276_73 (fs10_165 276 rfl) rfl (lt_w1 rfl) sh260 (rs260_70 R) (by decide) ?_
    refine q_iload_n d276_76 rfl ?_
    refine q_iaload (a := r) d276_77 (lt_w1 rfl) sh503 rfl (by omega) ?_
    refine q_iconst (v := 3) (by decide) d276_78 ?_
    refine q_icmp_eq (tgt := 85) d276_79 rfl (fun h2t => ?_) (fun h2f => ?_)
    ·
      refine q_aload_n d276_85 rfl ?_
      refine q_getR (x := 504) d276_86 (fs10_168 276 rfl) rfl (lt_w1 rfl) sh260 (rs260_71 R) (by decide) ?_
      refine q_iload_n d276_89 rfl ?_
      refine q_iaload (a := r) d276_90 (lt_w1 rfl) sh504 rfl (by omega) ?_
      refine q_aload_n d276_91 rfl ?_
      refine q_iload_n d276_92 rfl ?_
      refine q_invV (o := 260) (ci := 10) (av := [.int (nI t)]) (rest := [.int (I 504 r)]) (d' := 1) (mc' := 0) (ms' := 0) d276_93 (cv10_232 276 rfl) rfl (by decide) rfl rfl (by omega) (Nat.le_of_ble_eq_true rfl) (Nat.le_of_ble_eq_true rfl) (lt_w1 rfl) sh260 (Nat.le_refl _) (Nat.le_refl _) ?_
      refine c186 (d := 1) hV (v1 h1t h2t) (v2 h1t h2t) (v3 h1t h2t) ?_
      show j_W 276 d 0 0 0 0 96 [some (.ref 260), some (.int (nI t)), some (.int (nI r)), some (.int (nI c)), some (.int w)] [.int (nI (cas β t)), .int (I 504 r)] w1 (I, D, RR R) Q
      refine q_icmp_eq (tgt := 102) d276_96 rfl (fun h3t => ?_) (fun h3f => ?_)
      ·
        exact r_sub (L' := [some (.ref 260), some (.int (nI t)), some (.int (nI r)), some (.int (nI c)), some (.int w)]) ⟨rfl, rfl, rfl, rfl, rfl, trivial⟩ (v4 h1t h2t h3t)
      ·
        refine q_bipush (v := (-2)) (by decide) d276_99 ?_
        exact q_iret d276_101 rfl (Nat.le_refl _) (Nat.le_refl _) (v5 h1t h2t h3f)
    ·
      refine q_bipush (v := (-13)) (by decide) d276_82 ?_
      exact q_iret d276_84 rfl (Nat.le_refl _) (Nat.le_refl _) (v6 h1t h2f)
  ·
    refine q_bipush (v := (-11)) (by decide) d276_69 ?_
    exact q_iret d276_71 rfl (Nat.le_refl _) (Nat.le_refl _) (v7 h1f)

set_option maxRecDepth 10000 in
set_option maxHeartbeats 4000000 in
theorem u148_0 {d : Nat} {I : Nat → Nat → Int32} {D : Nat → Nat → UInt64} {R : Nat → Nat → Option Nat} {Q : j_Po} {t : Nat} {r : Nat} {c : Nat} {β : Bd} (hR : WFR R) (hV : BV β) (hC : CB β I D R) (hN : NM β I) (hO : OrdB β I) (hr : r < 4) (ht : t < 6) (hc : c < 24) (hl : bL β t = true) (hd : 60 ≤ d)
    (v1 : t < 6)
    (v2 : bL β t = true)
    (v3 : 40 ≤ 40)
    (v4 : ∀ J1 : Nat → Nat → Int32, ∀ E2 : Nat → Nat → UInt64, (FRc I D J1 E2) → (TLR J1 E2 (230 + 3 * t) (cas β t) (csV β (env β) t)) → (∀ q, q < cas β t → (csV β (env β) t q).1 < 200 ∧ ((csV β (env β) t q).1 = 0 → Sm (csV β (env β) t q).2)) → cas β t ≤ 64)
    (v5 : ∀ J1 : Nat → Nat → Int32, ∀ E2 : Nat → Nat → UInt64, (FRc I D J1 E2) → (TLR J1 E2 (230 + 3 * t) (cas β t) (csV β (env β) t)) → (∀ q, q < cas β t → (csV β (env β) t q).1 < 200 ∧ ((csV β (env β) t q).1 = 0 → Sm (csV β (env β) t q).2)) → TLR J1 E2 (230 + 3 * t) (cas β t) (csV β (env β) t))
    (v6 : ∀ J1 : Nat → Nat → Int32, ∀ E2 : Nat → Nat → UInt64, (FRc I D J1 E2) → (TLR J1 E2 (230 + 3 * t) (cas β t) (csV β (env β) t)) → (∀ q, q < cas β t → (csV β (env β) t q).1 < 200 ∧ ((csV β (env β) t q).1 = 0 → Sm (csV β (env β) t q).2)) → ∀ k, k < cas β t → (csV β (env β) t k).1 < 200)
    (v7 : ∀ J1 : Nat → Nat → Int32, ∀ E2 : Nat → Nat → UInt64, (FRc I D J1 E2) → (TLR J1 E2 (230 + 3 * t) (cas β t) (csV β (env β) t)) → (∀ q, q < cas β t → (csV β (env β) t q).1 < 200 ∧ ((csV β (env β) t q).1 = 0 → Sm (csV β (env β) t q).2)) → J1 (248 + 3 * r) 1 = nI (cas β t))
    (v8 : ∀ J1 : Nat → Nat → Int32, ∀ E2 : Nat → Nat → UInt64, (FRc I D J1 E2) → (TLR J1 E2 (230 + 3 * t) (cas β t) (csV β (env β) t)) → (∀ q, q < cas β t → (csV β (env β) t q).1 < 200 ∧ ((csV β (env β) t q).1 = 0 → Sm (csV β (env β) t q).2)) → 1 ≤ 1)
    (v9 : ∀ J1 : Nat → Nat → Int32, ∀ E2 : Nat → Nat → UInt64, (FRc I D J1 E2) → (TLR J1 E2 (230 + 3 * t) (cas β t) (csV β (env β) t)) → (∀ q, q < cas β t → (csV β (env β) t q).1 < 200 ∧ ((csV β (env β) t q).1 = 0 → Sm (csV β (env β) t q).2)) → Q (some (.int (oth (J1 (248 + 3 * r + 2)) (E2 (248 + 3 * r + 1)) (csV β (env β) t) (cas β t) 0))) w1 (J1, E2, RR R)) : j_W 148 d 0 0 0 0 125 [some (.ref 0), some (.int (nI t)), some (.int (nI r)), some (.int (nI c)), some (.int 0), some (.ref (248 + 3 * r))] [] w1 (I, D, RR R) Q := by
  refine q_iload d148_125 rfl ?_
  refine q_if_ne (tgt := 141) d148_127 rfl (fun h => absurd h (by decide)) (fun _ => ?_)
  refine q_aload d148_130 rfl ?_
  refine q_aload_n d148_132 rfl ?_
  refine q_iload_n d148_133 rfl ?_
  refine q_invV (o := 0) (ci := 9) (av := [.int (nI t)]) (rest := [.ref (248 + 3 * r)]) (d' := 40) (mc' := 0) (ms' := 0) d148_134 (cv9_245 148 rfl) rfl (by decide) rfl rfl (by omega) (Nat.le_of_ble_eq_true rfl) (Nat.le_of_ble_eq_true rfl) (lt_w1 rfl) sh0 (Nat.le_refl _) (Nat.le_refl _) ?_
  refine c122 hR hV hC hN hO v1 v2 v3 (fun J1 E2 h3 h4 h5 => ?_)
  show j_W 148 d 0 0 0 0 137 [some (.ref 0), some (.int (nI t)), some (.int (nI r)), some (.int (nI c)), some (.int 0), some (.ref (248 + 3 * r))] [.ref (230 + 3 * t), .ref (248 + 3 * r)] w1 (J1, E2, RR R) Q
  refine q_invV (o := (248 + 3 * r)) (ci := 6) (av := [.ref (230 + 3 * t)]) (rest := []) (d' := 1) (mc' := 0) (ms' := 0) d148_137 (cv9_336 148 rfl) rfl (by decide) rfl rfl (by omega) (Nat.le_of_ble_eq_true rfl) (Nat.le_of_ble_eq_true rfl) (isRw_lt (isRw_k r hr)) (isRw_sh (isRw_k r hr)) (Nat.le_refl _) (Nat.le_refl _) ?_
  refine c149 (n := cas β t) (v := csV β (env β) t) hr ht (v4 J1 E2 h3 h4 h5) (v5 J1 E2 h3 h4 h5) (v6 J1 E2 h3 h4 h5) (v7 J1 E2 h3 h4 h5) (v8 J1 E2 h3 h4 h5) ?_
  show j_W 148 d 0 0 0 0 140 [some (.ref 0), some (.int (nI t)), some (.int (nI r)), some (.int (nI c)), some (.int 0), some (.ref (248 + 3 * r))] [.int (oth (J1 (248 + 3 * r + 2)) (E2 (248 + 3 * r + 1)) (csV β (env β) t) (cas β t) 0)] w1 (J1, E2, RR R) Q
  exact q_iret d148_140 rfl (Nat.le_refl _) (Nat.le_refl _) (v9 J1 E2 h3 h4 h5)

set_option maxRecDepth 10000 in
set_option maxHeartbeats 4000000 in
theorem u276_0 {d : Nat} {I : Nat → Nat → Int32} {D : Nat → Nat → UInt64} {R : Nat → Nat → Option Nat} {Q : j_Po} {t : Nat} {r : Nat} {c : Nat} {β : Bd} {f : Nat → Int32} {x : Nat → UInt64} (hV : BV β) (hB : RB β I D) (hr : r < 4) (ht : t < 6) (hc : c < 24) (hl : bL β t = true) (hd : 100 ≤ d)
    (v1 : I 504 r = nI (cas β t))
    (v2 : ∀ i, i < cas β t → I (511 + r) i = f i)
    (v3 : ∀ i, i < cas β t → f i = 0 → D (506 + r) i = x i ∧ Fi (x i))
    (v4 : 80 ≤ 80)
    (v5 : ∀ J1 : Nat → Nat → Int32, ∀ E2 : Nat → Nat → UInt64, (FRr I D J1 E2) → Q (some (.int (oth f x (csV β (env β) t) (cas β t) 0))) w1 (J1, E2, RR R)) : j_W 276 d 0 0 0 0 102 [some (.ref 260), some (.int (nI t)), some (.int (nI r)), some (.int (nI c)), some (.int 0)] [] w1 (I, D, RR R) Q := by
  refine q_iload d276_102 rfl ?_
  refine q_if_ne (tgt := 116) d276_104 rfl (fun h => absurd h (by decide)) (fun _ => ?_)
  refine q_aload_n d276_107 rfl ?_
  refine q_iload_n d276_108 rfl ?_
  refine q_iload_n d276_109 rfl ?_
  refine q_invV (o := 260) (ci := 10) (av := [.int (nI t), .int (nI r)]) (rest := []) (d' := 80) (mc' := 0) (ms' := 0) d276_110 (cv10_553 276 rfl) rfl (by decide) rfl rfl (by omega) (Nat.le_of_ble_eq_true rfl) (Nat.le_of_ble_eq_true rfl) (lt_w1 rfl) sh260 (Nat.le_refl _) (Nat.le_refl _) ?_
  refine c277 (η := env β) (f := f) (x := x) hV hB.st hB.inp ht hr hl v1 v2 v3 v4 (fun J1 E2 h3 => ?_)
  show j_W 276 d 0 0 0 0 113 [some (.ref 260), some (.int (nI t)), some (.int (nI r)), some (.int (nI c)), some (.int 0)] [.int (oth f x (csV β (env β) t) (cas β t) 0)] w1 (J1, E2, RR R) Q
  refine q_goto (tgt := 150) d276_113 rfl ?_
  exact q_iret d276_150 rfl (Nat.le_refl _) (Nat.le_refl _) (v5 J1 E2 h3)

set_option maxRecDepth 10000 in
set_option maxHeartbeats 4000000 in
theorem u148_1 {d : Nat} {I : Nat → Nat → Int32} {D : Nat → Nat → UInt64} {R : Nat → Nat → Option Nat} {Q : j_Po} {t : Nat} {r : Nat} {c : Nat} {β : Bd} (hR : WFR R) (hV : BV β) (hC : CB β I D R) (hN : NM β I) (hO : OrdB β I) (hr : r < 4) (ht : t < 6) (hc : c < 24) (hl : bL β t = true) (hd : 60 ≤ d)
    (v1 : I (248 + 3 * r) 1 = nI (cas β t))
    (v2 : 50 ≤ 50)
    (v3 : ∀ J3 : Nat → Nat → Int32, ∀ E4 : Nat → Nat → UInt64, (FRc I D J3 E4) → Q (some (.int (kN (I (248 + 3 * r + 2)) (D (248 + 3 * r + 1)) β t c 6))) w1 (J3, E4, RR R)) : j_W 148 d 0 0 0 0 125 [some (.ref 0), some (.int (nI t)), some (.int (nI r)), some (.int (nI c)), some (.int 1), some (.ref (248 + 3 * r))] [] w1 (I, D, RR R) Q := by
  refine q_iload d148_125 rfl ?_
  refine q_if_ne (tgt := 141) d148_127 rfl (fun _ => ?_) (fun h => absurd h (by decide))
  refine q_iload d148_141 rfl ?_
  refine q_iconst (v := 1) (by decide) d148_143 ?_
  refine q_icmp_ne (tgt := 158) d148_144 rfl (fun h => absurd h (by decide)) (fun _ => ?_)
  refine q_aload_n d148_147 rfl ?_
  refine q_iload_n d148_148 rfl ?_
  refine q_aload d148_149 rfl ?_
  refine q_iload_n d148_151 rfl ?_
  refine q_invV (o := 0) (ci := 9) (av := [.int (nI t), .ref (248 + 3 * r), .int (nI c)]) (rest := []) (d' := 50) (mc' := 0) (ms' := 0) d148_152 (cv9_340 148 rfl) rfl (by decide) rfl rfl (by omega) (Nat.le_of_ble_eq_true rfl) (Nat.le_of_ble_eq_true rfl) (lt_w1 rfl) sh0 (Nat.le_refl _) (Nat.le_refl _) ?_
  refine c150 hR hV hC hN hO ht hr hc hl v1 v2 (fun J3 E4 h5 => ?_)
  show j_W 148 d 0 0 0 0 155 [some (.ref 0), some (.int (nI t)), some (.int (nI r)), some (.int (nI c)), some (.int 1), some (.ref (248 + 3 * r))] [.int (kN (I (248 + 3 * r + 2)) (D (248 + 3 * r + 1)) β t c 6)] w1 (J3, E4, RR R) Q
  refine q_goto (tgt := 177) d148_155 rfl ?_
  exact q_iret d148_177 rfl (Nat.le_refl _) (Nat.le_refl _) (v3 J3 E4 h5)

set_option maxRecDepth 10000 in
set_option maxHeartbeats 4000000 in
theorem u276_1 {d : Nat} {I : Nat → Nat → Int32} {D : Nat → Nat → UInt64} {R : Nat → Nat → Option Nat} {Q : j_Po} {t : Nat} {r : Nat} {c : Nat} {β : Bd} {f : Nat → Int32} {x : Nat → UInt64} (hV : BV β) (hB : RB β I D) (hr : r < 4) (ht : t < 6) (hc : c < 24) (hl : bL β t = true) (hd : 100 ≤ d)
    (v1 : I 504 r = nI (cas β t))
    (v2 : ∀ i, i < cas β t → I (511 + r) i = f i)
    (v3 : ∀ i, i < cas β t → f i = 0 → D (506 + r) i = x i ∧ Fi (x i))
    (v4 : 90 ≤ 90)
    (v5 : ∀ J1 : Nat → Nat → Int32, ∀ E2 : Nat → Nat → UInt64, (FRr I D J1 E2) → Q (some (.int (kN f x β t c 6))) w1 (J1, E2, RR R)) : j_W 276 d 0 0 0 0 102 [some (.ref 260), some (.int (nI t)), some (.int (nI r)), some (.int (nI c)), some (.int 1)] [] w1 (I, D, RR R) Q := by
  refine q_iload d276_102 rfl ?_
  refine q_if_ne (tgt := 116) d276_104 rfl (fun _ => ?_) (fun h => absurd h (by decide))
  refine q_iload d276_116 rfl ?_
  refine q_iconst (v := 1) (by decide) d276_118 ?_
  refine q_icmp_ne (tgt := 132) d276_119 rfl (fun h => absurd h (by decide)) (fun _ => ?_)
  refine q_aload_n d276_122 rfl ?_
  refine q_iload_n d276_123 rfl ?_
  refine q_iload_n d276_124 rfl ?_
  refine q_iload_n d276_125 rfl ?_
  refine q_invV (o := 260) (ci := 10) (av := [.int (nI t), .int (nI r), .int (nI c)]) (rest := []) (d' := 90) (mc' := 0) (ms' := 0) d276_126 (cv10_556 276 rfl) rfl (by decide) rfl rfl (by omega) (Nat.le_of_ble_eq_true rfl) (Nat.le_of_ble_eq_true rfl) (lt_w1 rfl) sh260 (Nat.le_refl _) (Nat.le_refl _) ?_
  refine c278 (f := f) (x := x) hV hB ht hr hc hl v1 v2 v3 v4 (fun J1 E2 h3 => ?_)
  show j_W 276 d 0 0 0 0 129 [some (.ref 260), some (.int (nI t)), some (.int (nI r)), some (.int (nI c)), some (.int 1)] [.int (kN f x β t c 6)] w1 (J1, E2, RR R) Q
  refine q_goto (tgt := 150) d276_129 rfl ?_
  exact q_iret d276_150 rfl (Nat.le_refl _) (Nat.le_refl _) (v5 J1 E2 h3)

set_option maxRecDepth 10000 in
set_option maxHeartbeats 4000000 in
theorem u148_2 {d : Nat} {I : Nat → Nat → Int32} {D : Nat → Nat → UInt64} {R : Nat → Nat → Option Nat} {Q : j_Po} {t : Nat} {r : Nat} {c : Nat} {β : Bd} (hR : WFR R) (hV : BV β) (hC : CB β I D R) (hN : NM β I) (hO : OrdB β I) (hr : r < 4) (ht : t < 6) (hc : c < 24) (hl : bL β t = true) (hd : 60 ≤ d)
    (v1 : I (248 + 3 * r) 1 = nI (cas β t))
    (v2 : 50 ≤ 50)
    (v3 : ∀ J1 : Nat → Nat → Int32, ∀ E2 : Nat → Nat → UInt64, (FRc I D J1 E2) → Q (some (.int (nR (I (248 + 3 * r + 2)) (D (248 + 3 * r + 1)) β t c 0))) w1 (J1, E2, RR R)) : j_W 148 d 0 0 0 0 125 [some (.ref 0), some (.int (nI t)), some (.int (nI r)), some (.int (nI c)), some (.int 2), some (.ref (248 + 3 * r))] [] w1 (I, D, RR R) Q := by
  refine q_iload d148_125 rfl ?_
  refine q_if_ne (tgt := 141) d148_127 rfl (fun _ => ?_) (fun h => absurd h (by decide))
  refine q_iload d148_141 rfl ?_
  refine q_iconst (v := 1) (by decide) d148_143 ?_
  refine q_icmp_ne (tgt := 158) d148_144 rfl (fun _ => ?_) (fun h => absurd h (by decide))
  refine q_aload_n d148_158 rfl ?_
  refine q_iload_n d148_159 rfl ?_
  refine q_aload d148_160 rfl ?_
  refine q_iload_n d148_162 rfl ?_
  refine q_iload d148_163 rfl ?_
  refine q_iconst (v := 3) (by decide) d148_165 ?_
  refine q_icmp_ne (tgt := 173) d148_166 rfl (fun _ => ?_) (fun h => absurd h (by decide))
  refine q_iconst (v := 0) (by decide) d148_173 ?_
  refine q_invV (o := 0) (ci := 9) (av := [.int (nI t), .ref (248 + 3 * r), .int (nI c), .int 0]) (rest := []) (d' := 50) (mc' := 0) (ms' := 0) d148_174 (cv9_344 148 rfl) rfl (by decide) rfl rfl (by omega) (Nat.le_of_ble_eq_true rfl) (Nat.le_of_ble_eq_true rfl) (lt_w1 rfl) sh0 (Nat.le_refl _) (Nat.le_refl _) ?_
  refine c151 (b := 0) hR hV hC hN hO ht hr hc (by decide) hl v1 v2 (fun J1 E2 h3 => ?_)
  show j_W 148 d 0 0 0 0 177 [some (.ref 0), some (.int (nI t)), some (.int (nI r)), some (.int (nI c)), some (.int 2), some (.ref (248 + 3 * r))] [.int (nR (I (248 + 3 * r + 2)) (D (248 + 3 * r + 1)) β t c 0)] w1 (J1, E2, RR R) Q
  exact q_iret d148_177 rfl (Nat.le_refl _) (Nat.le_refl _) (v3 J1 E2 h3)

set_option maxRecDepth 10000 in
set_option maxHeartbeats 4000000 in
theorem u276_2 {d : Nat} {I : Nat → Nat → Int32} {D : Nat → Nat → UInt64} {R : Nat → Nat → Option Nat} {Q : j_Po} {t : Nat} {r : Nat} {c : Nat} {β : Bd} {f : Nat → Int32} {x : Nat → UInt64} (hV : BV β) (hB : RB β I D) (hr : r < 4) (ht : t < 6) (hc : c < 24) (hl : bL β t = true) (hd : 100 ≤ d)
    (v1 : I 504 r = nI (cas β t))
    (v2 : ∀ i, i < cas β t → I (511 + r) i = f i)
    (v3 : ∀ i, i < cas β t → f i = 0 → D (506 + r) i = x i ∧ Fi (x i))
    (v4 : 90 ≤ 90)
    (v5 : ∀ J1 : Nat → Nat → Int32, ∀ E2 : Nat → Nat → UInt64, (FRr I D J1 E2) → Q (some (.int (nR f x β t c 0))) w1 (J1, E2, RR R)) : j_W 276 d 0 0 0 0 102 [some (.ref 260), some (.int (nI t)), some (.int (nI r)), some (.int (nI c)), some (.int 2)] [] w1 (I, D, RR R) Q := by
  refine q_iload d276_102 rfl ?_
  refine q_if_ne (tgt := 116) d276_104 rfl (fun _ => ?_) (fun h => absurd h (by decide))
  refine q_iload d276_116 rfl ?_
  refine q_iconst (v := 1) (by decide) d276_118 ?_
  refine q_icmp_ne (tgt := 132) d276_119 rfl (fun _ => ?_) (fun h => absurd h (by decide))
  refine q_aload_n d276_132 rfl ?_
  refine q_iload_n d276_133 rfl ?_
  refine q_iload_n d276_134 rfl ?_
  refine q_iload_n d276_135 rfl ?_
  refine q_iload d276_136 rfl ?_
  refine q_iconst (v := 3) (by decide) d276_138 ?_
  refine q_icmp_ne (tgt := 146) d276_139 rfl (fun _ => ?_) (fun h => absurd h (by decide))
  refine q_iconst (v := 0) (by decide) d276_146 ?_
  refine q_invV (o := 260) (ci := 10) (av := [.int (nI t), .int (nI r), .int (nI c), .int 0]) (rest := []) (d' := 90) (mc' := 0) (ms' := 0) d276_147 (cv10_559 276 rfl) rfl (by decide) rfl rfl (by omega) (Nat.le_of_ble_eq_true rfl) (Nat.le_of_ble_eq_true rfl) (lt_w1 rfl) sh260 (Nat.le_refl _) (Nat.le_refl _) ?_
  refine c279 (b := 0) (f := f) (x := x) hV hB ht hr hc (by decide) hl v1 v2 v3 v4 (fun J1 E2 h3 => ?_)
  show j_W 276 d 0 0 0 0 150 [some (.ref 260), some (.int (nI t)), some (.int (nI r)), some (.int (nI c)), some (.int 2)] [.int (nR f x β t c 0)] w1 (J1, E2, RR R) Q
  exact q_iret d276_150 rfl (Nat.le_refl _) (Nat.le_refl _) (v5 J1 E2 h3)

set_option maxRecDepth 10000 in
set_option maxHeartbeats 4000000 in
theorem u148_3 {d : Nat} {I : Nat → Nat → Int32} {D : Nat → Nat → UInt64} {R : Nat → Nat → Option Nat} {Q : j_Po} {t : Nat} {r : Nat} {c : Nat} {β : Bd} (hR : WFR R) (hV : BV β) (hC : CB β I D R) (hN : NM β I) (hO : OrdB β I) (hr : r < 4) (ht : t < 6) (hc : c < 24) (hl : bL β t = true) (hd : 60 ≤ d)
    (v1 : I (248 + 3 * r) 1 = nI (cas β t))
    (v2 : 50 ≤ 50)
    (v3 : ∀ J1 : Nat → Nat → Int32, ∀ E2 : Nat → Nat → UInt64, (FRc I D J1 E2) → Q (some (.int (nR (I (248 + 3 * r + 2)) (D (248 + 3 * r + 1)) β t c 1))) w1 (J1, E2, RR R)) : j_W 148 d 0 0 0 0 125 [some (.ref 0), some (.int (nI t)), some (.int (nI r)), some (.int (nI c)), some (.int 3), some (.ref (248 + 3 * r))] [] w1 (I, D, RR R) Q := by
  refine q_iload d148_125 rfl ?_
  refine q_if_ne (tgt := 141) d148_127 rfl (fun _ => ?_) (fun h => absurd h (by decide))
  refine q_iload d148_141 rfl ?_
  refine q_iconst (v := 1) (by decide) d148_143 ?_
  refine q_icmp_ne (tgt := 158) d148_144 rfl (fun _ => ?_) (fun h => absurd h (by decide))
  refine q_aload_n d148_158 rfl ?_
  refine q_iload_n d148_159 rfl ?_
  refine q_aload d148_160 rfl ?_
  refine q_iload_n d148_162 rfl ?_
  refine q_iload d148_163 rfl ?_
  refine q_iconst (v := 3) (by decide) d148_165 ?_
  refine q_icmp_ne (tgt := 173) d148_166 rfl (fun h => absurd h (by decide)) (fun _ => ?_)
  refine q_iconst (v := 1) (by decide) d148_169 ?_
  refine q_goto (tgt := 174) d148_170 rfl ?_
  refine q_invV (o := 0) (ci := 9) (av := [.int (nI t), .ref (248 + 3 * r), .int (nI c), .int 1]) (rest := []) (d' := 50) (mc' := 0) (ms' := 0) d148_174 (cv9_344 148 rfl) rfl (by decide) rfl rfl (by omega) (Nat.le_of_ble_eq_true rfl) (Nat.le_of_ble_eq_true rfl) (lt_w1 rfl) sh0 (Nat.le_refl _) (Nat.le_refl _) ?_
  refine c151 (b := 1) hR hV hC hN hO ht hr hc (by decide) hl v1 v2 (fun J1 E2 h3 => ?_)
  show j_W 148 d 0 0 0 0 177 [some (.ref 0), some (.int (nI t)), some (.int (nI r)), some (.int (nI c)), some (.int 3), some (.ref (248 + 3 * r))] [.int (nR (I (248 + 3 * r + 2)) (D (248 + 3 * r + 1)) β t c 1)] w1 (J1, E2, RR R) Q
  exact q_iret d148_177 rfl (Nat.le_refl _) (Nat.le_refl _) (v3 J1 E2 h3)

set_option maxRecDepth 10000 in
set_option maxHeartbeats 4000000 in
theorem u276_3 {d : Nat} {I : Nat → Nat → Int32} {D : Nat → Nat → UInt64} {R : Nat → Nat → Option Nat} {Q : j_Po} {t : Nat} {r : Nat} {c : Nat} {β : Bd} {f : Nat → Int32} {x : Nat → UInt64} (hV : BV β) (hB : RB β I D) (hr : r < 4) (ht : t < 6) (hc : c < 24) (hl : bL β t = true) (hd : 100 ≤ d)
    (v1 : I 504 r = nI (cas β t))
    (v2 : ∀ i, i < cas β t → I (511 + r) i = f i)
    (v3 : ∀ i, i < cas β t → f i = 0 → D (506 + r) i = x i ∧ Fi (x i))
    (v4 : 90 ≤ 90)
    (v5 : ∀ J1 : Nat → Nat → Int32, ∀ E2 : Nat → Nat → UInt64, (FRr I D J1 E2) → Q (some (.int (nR f x β t c 1))) w1 (J1, E2, RR R)) : j_W 276 d 0 0 0 0 102 [some (.ref 260), some (.int (nI t)), some (.int (nI r)), some (.int (nI c)), some (.int 3)] [] w1 (I, D, RR R) Q := by
  refine q_iload d276_102 rfl ?_
  refine q_if_ne (tgt := 116) d276_104 rfl (fun _ => ?_) (fun h => absurd h (by decide))
  refine q_iload d276_116 rfl ?_
  refine q_iconst (v := 1) (by decide) d276_118 ?_
  refine q_icmp_ne (tgt := 132) d276_119 rfl (fun _ => ?_) (fun h => absurd h (by decide))
  refine q_aload_n d276_132 rfl ?_
  refine q_iload_n d276_133 rfl ?_
  refine q_iload_n d276_134 rfl ?_
  refine q_iload_n d276_135 rfl ?_
  refine q_iload d276_136 rfl ?_
  refine q_iconst (v := 3) (by decide) d276_138 ?_
  refine q_icmp_ne (tgt := 146) d276_139 rfl (fun h => absurd h (by decide)) (fun _ => ?_)
  refine q_iconst (v := 1) (by decide) d276_142 ?_
  refine q_goto (tgt := 147) d276_143 rfl ?_
  refine q_invV (o := 260) (ci := 10) (av := [.int (nI t), .int (nI r), .int (nI c), .int 1]) (rest := []) (d' := 90) (mc' := 0) (ms' := 0) d276_147 (cv10_559 276 rfl) rfl (by decide) rfl rfl (by omega) (Nat.le_of_ble_eq_true rfl) (Nat.le_of_ble_eq_true rfl) (lt_w1 rfl) sh260 (Nat.le_refl _) (Nat.le_refl _) ?_
  refine c279 (b := 1) (f := f) (x := x) hV hB ht hr hc (by decide) hl v1 v2 v3 v4 (fun J1 E2 h3 => ?_)
  show j_W 276 d 0 0 0 0 150 [some (.ref 260), some (.int (nI t)), some (.int (nI r)), some (.int (nI c)), some (.int 3)] [.int (nR f x β t c 1)] w1 (J1, E2, RR R) Q
  exact q_iret d276_150 rfl (Nat.le_refl _) (Nat.le_refl _) (v5 J1 E2 h3)

