/-! kind -/
set_option maxRecDepth 10000 in
set_option maxHeartbeats 4000000 in
theorem s30 {d : Nat} {I : Nat → Nat → Int32} {D : Nat → Nat → UInt64} {R : Nat → Nat → Option Nat} {Q : j_Po} {a : Int32} {b : Int32}  (hKC : fp_keep 15) (hR : WFR R) (hd : 3 ≤ d)
    (v1 : ∀ k1 : Nat, (k1 < 24) → (a = nI k1) → ∀ k2 : Nat, (k2 < 6) → (b = nI k2) → keepOk (nI k2) (D 110 k1))
    (v2 : ∀ k1 : Nat, (k1 < 24) → (a = nI k1) → ∀ k2 : Nat, (k2 < 6) → (b = nI k2) → Q (some (.int (I 109 k1))) w1 ((j_u I 109 k1 (nI k2)), (j_u D 110 k1 (kp (nI k2) (D 110 k1))), RR R))
    (v3 : ∀ k1 : Nat, (k1 < 24) → (a = nI k1) → (¬ (∃ k : Nat, k < 6 ∧ b = nI k)) → Q (some (.int (-2))) w1 (I, D, RR R))
    (v4 : (¬ (∃ k : Nat, k < 24 ∧ a = nI k)) → Q (some (.int (-2))) w1 (I, D, RR R)) : j_Call d 30 [.ref 0, .int a, .int b] w1 (I, D, RR R) 0 0 Q := by
  refine q_enter (L := [some (.ref 0), some (.int a), some (.int b), none]) j_m30 (Nat.le_of_ble_eq_true rfl) rfl ?_
  refine q_iload_n d30_0 rfl ?_
  refine q_invS (av := [.int a]) (rest := []) (d' := 0) (mc' := 0) (ms' := 0) d30_1 (cv9_60 30 rfl) rfl rfl (by omega) (Nat.le_of_ble_eq_true rfl) (Nat.le_of_ble_eq_true rfl) (Nat.le_refl _) (Nat.le_refl _) ?_
  refine r12  (fun k1 h1 h1e => ?_) (fun h1 => ?_)
  ·
    subst h1e
    show j_W 30 d 0 0 0 0 4 [some (.ref 0), some (.int (nI k1)), some (.int b), none] [.int 1] w1 (I, D, RR R) Q
    refine q_if_eq (tgt := 14) d30_4 rfl (fun h => absurd h (by decide)) (fun _ => ?_)
    refine q_iload_n d30_7 rfl ?_
    refine q_invS (av := [.int b]) (rest := []) (d' := 0) (mc' := 0) (ms' := 0) d30_8 (cv9_105 30 rfl) rfl rfl (by omega) (Nat.le_of_ble_eq_true rfl) (Nat.le_of_ble_eq_true rfl) (Nat.le_refl _) (Nat.le_refl _) ?_
    refine r31  (fun k2 h2 h2e => ?_) (fun h2 => ?_)
    ·
      subst h2e
      show j_W 30 d 0 0 0 0 11 [some (.ref 0), some (.int (nI k1)), some (.int (nI k2)), none] [.int 1] w1 (I, D, RR R) Q
      refine q_if_ne (tgt := 17) d30_11 rfl (fun _ => ?_) (fun h => absurd h (by decide))
      refine q_aload_n d30_17 rfl ?_
      refine q_getR (x := 108) d30_18 (fs9_53 30 rfl) rfl (lt_w1 rfl) sh0 (rs0_1 R) (by decide) ?_
      refine q_getR (x := 109) d30_21 (fs9_76 30 rfl) rfl (lt_w1 rfl) sh108 (rs108_0 R) (by decide) ?_
      refine q_iload_n d30_24 rfl ?_
      refine q_iaload (a := k1) d30_25 (lt_w1 rfl) sh109 rfl (by omega) ?_
      refine q_istore_n (L' := [some (.ref 0), some (.int (nI k1)), some (.int (nI k2)), some (.int (I 109 k1))]) d30_26 (Nat.le_of_ble_eq_true rfl) rfl ?_
      refine q_aload_n d30_27 rfl ?_
      refine q_getR (x := 108) d30_28 (fs9_53 30 rfl) rfl (lt_w1 rfl) sh0 (rs0_1 R) (by decide) ?_
      refine q_getR (x := 109) d30_31 (fs9_76 30 rfl) rfl (lt_w1 rfl) sh108 (rs108_0 R) (by decide) ?_
      refine q_iload_n d30_34 rfl ?_
      refine q_iload_n d30_35 rfl ?_
      refine q_iastore (a := k1) d30_36 (lt_w1 rfl) sh109 rfl (by omega) ?_
      refine q_aload_n d30_37 rfl ?_
      refine q_getR (x := 108) d30_38 (fs9_53 30 rfl) rfl (lt_w1 rfl) sh0 (rs0_1 R) (by decide) ?_
      refine q_getR (x := 110) d30_41 (fs9_72 30 rfl) rfl (lt_w1 rfl) sh108 (rs108_1 R) (by decide) ?_
      refine q_iload_n d30_44 rfl ?_
      refine q_iload_n d30_45 rfl ?_
      refine q_aload_n d30_46 rfl ?_
      refine q_getR (x := 108) d30_47 (fs9_53 30 rfl) rfl (lt_w1 rfl) sh0 (rs0_1 R) (by decide) ?_
      refine q_getR (x := 110) d30_50 (fs9_72 30 rfl) rfl (lt_w1 rfl) sh108 (rs108_1 R) (by decide) ?_
      refine q_iload_n d30_53 rfl ?_
      refine q_daload (a := k1) d30_54 (lt_w1 rfl) sh110 rfl (by omega) ?_
      refine q_invS (av := [.int (nI k2), .double (D 110 k1)]) (rest := [.int (nI k1), .ref 110]) (d' := 2) (mc' := 0) (ms' := 0) d30_55 (cv9_82 30 rfl) rfl rfl (by omega) (Nat.le_of_ble_eq_true rfl) (Nat.le_of_ble_eq_true rfl) (Nat.le_refl _) (Nat.le_refl _) ?_
      refine hKC (v1 k1 h1 rfl k2 h2 rfl) ?_
      show j_W 30 d 0 0 0 0 58 [some (.ref 0), some (.int (nI k1)), some (.int (nI k2)), some (.int (I 109 k1))] [.double (kp (nI k2) (D 110 k1)), .int (nI k1), .ref 110] w1 ((j_u I 109 k1 (nI k2)), D, RR R) Q
      refine q_dastore (a := k1) d30_58 (lt_w1 rfl) sh110 rfl (by omega) ?_
      refine q_iload_n d30_59 rfl ?_
      exact q_iret d30_60 rfl (Nat.le_refl _) (Nat.le_refl _) (v2 k1 h1 rfl k2 h2 rfl)
    ·
      show j_W 30 d 0 0 0 0 11 [some (.ref 0), some (.int (nI k1)), some (.int b), none] [.int 0] w1 (I, D, RR R) Q
      refine q_if_ne (tgt := 17) d30_11 rfl (fun h => absurd h (by decide)) (fun _ => ?_)
      refine q_bipush (v := (-2)) (by decide) d30_14 ?_
      exact q_iret d30_16 rfl (Nat.le_refl _) (Nat.le_refl _) (v3 k1 h1 rfl h2)
  ·
    show j_W 30 d 0 0 0 0 4 [some (.ref 0), some (.int a), some (.int b), none] [.int 0] w1 (I, D, RR R) Q
    refine q_if_eq (tgt := 14) d30_4 rfl (fun _ => ?_) (fun h => absurd h (by decide))
    refine q_bipush (v := (-2)) (by decide) d30_14 ?_
    exact q_iret d30_16 rfl (Nat.le_refl _) (Nat.le_refl _) (v4 h1)

set_option maxRecDepth 10000 in
set_option maxHeartbeats 4000000 in
theorem s175 {d : Nat} {I : Nat → Nat → Int32} {D : Nat → Nat → UInt64} {R : Nat → Nat → Option Nat} {Q : j_Po} {a : Int32} {b : Int32}  (hKR : fp_keep 171) (hd : 3 ≤ d)
    (v1 : ∀ k1 : Nat, (k1 < 24) → (a = nI k1) → ((¬ b < (0 : Int32) ∧ ¬ (5 : Int32) < b)) → (¬ ((j_u I 261 k1 b) 264 k1) = 0) → Q (some (.int (I 261 k1))) w1 ((j_u I 261 k1 b), D, RR R))
    (v2 : ∀ k1 : Nat, (k1 < 24) → (a = nI k1) → ((¬ b < (0 : Int32) ∧ ¬ (5 : Int32) < b)) → (((j_u I 261 k1 b) 264 k1) = 0) → keepOk b (D 263 k1))
    (v3 : ∀ k1 : Nat, (k1 < 24) → (a = nI k1) → ((¬ b < (0 : Int32) ∧ ¬ (5 : Int32) < b)) → (((j_u I 261 k1 b) 264 k1) = 0) → Q (some (.int (I 261 k1))) w1 ((j_u I 261 k1 b), (j_u D 263 k1 (kp b (D 263 k1))), RR R))
    (v4 : ∀ k1 : Nat, (k1 < 24) → (a = nI k1) → (¬ ((¬ b < (0 : Int32) ∧ ¬ (5 : Int32) < b))) → Q (some (.int (-2))) w1 (I, D, RR R))
    (v5 : (¬ (∃ k : Nat, k < 24 ∧ a = nI k)) → Q (some (.int (-2))) w1 (I, D, RR R)) : j_Call d 175 [.ref 260, .int a, .int b] w1 (I, D, RR R) 0 0 Q := by
  refine q_enter (L := [some (.ref 260), some (.int a), some (.int b), none]) j_m175 (Nat.le_of_ble_eq_true rfl) rfl ?_
  refine q_iload_n d175_0 rfl ?_
  refine q_invS (av := [.int a]) (rest := []) (d' := 1) (mc' := 0) (ms' := 0) d175_1 (cv10_312 175 rfl) rfl rfl (by omega) (Nat.le_of_ble_eq_true rfl) (Nat.le_of_ble_eq_true rfl) (Nat.le_refl _) (Nat.le_refl _) ?_
  refine r167 (Nat.le_refl _)  (fun k1 h1 h1e => ?_) (fun h1 => ?_)
  ·
    subst h1e
    show j_W 175 d 0 0 0 0 4 [some (.ref 260), some (.int (nI k1)), some (.int b), none] [.int 1] w1 (I, D, RR R) Q
    refine q_if_eq (tgt := 16) d175_4 rfl (fun h => absurd h (by decide)) (fun _ => ?_)
    refine q_iload_n d175_7 rfl ?_
    refine q_iconst (v := 0) (by decide) d175_8 ?_
    refine q_iconst (v := 5) (by decide) d175_9 ?_
    refine q_invS (av := [.int b, .int 0, .int 5]) (rest := []) (d' := 0) (mc' := 0) (ms' := 0) d175_10 (cv10_183 175 rfl) rfl rfl (by omega) (Nat.le_of_ble_eq_true rfl) (Nat.le_of_ble_eq_true rfl) (Nat.le_refl _) (Nat.le_refl _) ?_
    refine p168  (fun h2 => ?_) (fun h2 => ?_)
    ·
      show j_W 175 d 0 0 0 0 13 [some (.ref 260), some (.int (nI k1)), some (.int b), none] [.int 1] w1 (I, D, RR R) Q
      refine q_if_ne (tgt := 19) d175_13 rfl (fun _ => ?_) (fun h => absurd h (by decide))
      refine q_aload_n d175_19 rfl ?_
      refine q_getR (x := 261) d175_20 (fs10_9 175 rfl) rfl (lt_w1 rfl) sh260 (rs260_0 R) (by decide) ?_
      refine q_iload_n d175_23 rfl ?_
      refine q_iaload (a := k1) d175_24 (lt_w1 rfl) sh261 rfl (by omega) ?_
      refine q_istore_n (L' := [some (.ref 260), some (.int (nI k1)), some (.int b), some (.int (I 261 k1))]) d175_25 (Nat.le_of_ble_eq_true rfl) rfl ?_
      refine q_aload_n d175_26 rfl ?_
      refine q_getR (x := 261) d175_27 (fs10_9 175 rfl) rfl (lt_w1 rfl) sh260 (rs260_0 R) (by decide) ?_
      refine q_iload_n d175_30 rfl ?_
      refine q_iload_n d175_31 rfl ?_
      refine q_iastore (a := k1) d175_32 (lt_w1 rfl) sh261 rfl (by omega) ?_
      refine q_aload_n d175_33 rfl ?_
      refine q_iload_n d175_34 rfl ?_
      refine q_invV (o := 260) (ci := 10) (av := [.int (nI k1)]) (rest := []) (d' := 0) (mc' := 0) (ms' := 0) d175_35 (cv10_204 175 rfl) rfl (by decide) rfl rfl (by omega) (Nat.le_of_ble_eq_true rfl) (Nat.le_of_ble_eq_true rfl) (lt_w1 rfl) sh260 (Nat.le_refl _) (Nat.le_refl _) ?_
      refine s170 (k := k1) (by first | omega | decide) (Nat.le_refl _) (fun c3 => ?_) (fun c4 => ?_)
      ·
        show j_W 175 d 0 0 0 0 38 [some (.ref 260), some (.int (nI k1)), some (.int b), some (.int (I 261 k1))] [.int 0] w1 ((j_u I 261 k1 b), D, RR R) Q
        refine q_if_eq (tgt := 57) d175_38 rfl (fun _ => ?_) (fun h => absurd h (by decide))
        refine q_iload_n d175_57 rfl ?_
        exact q_iret d175_58 rfl (Nat.le_refl _) (Nat.le_refl _) (v1 k1 h1 rfl h2 c3)
      ·
        show j_W 175 d 0 0 0 0 38 [some (.ref 260), some (.int (nI k1)), some (.int b), some (.int (I 261 k1))] [.int 1] w1 ((j_u I 261 k1 b), D, RR R) Q
        refine q_if_eq (tgt := 57) d175_38 rfl (fun h => absurd h (by decide)) (fun _ => ?_)
        refine q_aload_n d175_41 rfl ?_
        refine q_getR (x := 263) d175_42 (fs10_17 175 rfl) rfl (lt_w1 rfl) sh260 (rs260_2 R) (by decide) ?_
        refine q_iload_n d175_45 rfl ?_
        refine q_iload_n d175_46 rfl ?_
        refine q_aload_n d175_47 rfl ?_
        refine q_getR (x := 263) d175_48 (fs10_17 175 rfl) rfl (lt_w1 rfl) sh260 (rs260_2 R) (by decide) ?_
        refine q_iload_n d175_51 rfl ?_
        refine q_daload (a := k1) d175_52 (lt_w1 rfl) sh263 rfl (by omega) ?_
        refine q_invS (av := [.int b, .double (D 263 k1)]) (rest := [.int (nI k1), .ref 263]) (d' := 2) (mc' := 0) (ms' := 0) d175_53 (cv10_250 175 rfl) rfl rfl (by omega) (Nat.le_of_ble_eq_true rfl) (Nat.le_of_ble_eq_true rfl) (Nat.le_refl _) (Nat.le_refl _) ?_
        refine hKR (v2 k1 h1 rfl h2 c4) ?_
        show j_W 175 d 0 0 0 0 56 [some (.ref 260), some (.int (nI k1)), some (.int b), some (.int (I 261 k1))] [.double (kp b (D 263 k1)), .int (nI k1), .ref 263] w1 ((j_u I 261 k1 b), D, RR R) Q
        refine q_dastore (a := k1) d175_56 (lt_w1 rfl) sh263 rfl (by omega) ?_
        refine q_iload_n d175_57 rfl ?_
        exact q_iret d175_58 rfl (Nat.le_refl _) (Nat.le_refl _) (v3 k1 h1 rfl h2 c4)
    ·
      show j_W 175 d 0 0 0 0 13 [some (.ref 260), some (.int (nI k1)), some (.int b), none] [.int 0] w1 (I, D, RR R) Q
      refine q_if_ne (tgt := 19) d175_13 rfl (fun h => absurd h (by decide)) (fun _ => ?_)
      refine q_bipush (v := (-2)) (by decide) d175_16 ?_
      exact q_iret d175_18 rfl (Nat.le_refl _) (Nat.le_refl _) (v4 k1 h1 rfl h2)
  ·
    show j_W 175 d 0 0 0 0 4 [some (.ref 260), some (.int a), some (.int b), none] [.int 0] w1 (I, D, RR R) Q
    refine q_if_eq (tgt := 16) d175_4 rfl (fun _ => ?_) (fun h => absurd h (by decide))
    refine q_bipush (v := (-2)) (by decide) d175_16 ?_
    exact q_iret d175_18 rfl (Nat.le_refl _) (Nat.le_refl _) (v5 h1)

