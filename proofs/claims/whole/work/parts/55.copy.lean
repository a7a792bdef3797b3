/-! copy -/
set_option maxRecDepth 10000 in
set_option maxHeartbeats 4000000 in
theorem s164 {d : Nat} {I : Nat → Nat → Int32} {D : Nat → Nat → UInt64} {R : Nat → Nat → Option Nat} {Q : j_Po} {a : Int32} {b : Int32} {c : Int32} {e : Int32} {f : Int32}  (hR : WFR R) (hd : 1 ≤ d)
    (v1 : ∀ k1 : Nat, (k1 < 4) → (a = nI k1) → ∀ k2 : Nat, (k2 < 4) → (c = nI k2) → ((I (248 + 3 * k1) 0) = (-1)) → Q (some (.int (-11))) w1 (I, D, RR R))
    (v2 : ∀ k1 : Nat, (k1 < 4) → (a = nI k1) → ∀ k2 : Nat, (k2 < 4) → (c = nI k2) → (¬ (I (248 + 3 * k1) 0) = (-1)) → (¬ (I (248 + 3 * k2) 0) = (-1)) → ((I (248 + 3 * k1) 0) = (I (248 + 3 * k2) 0)) → (f < 0) → Q (some (.int (-12))) w1 (I, D, RR R))
    (v3 : ∀ k1 : Nat, (k1 < 4) → (a = nI k1) → ∀ k2 : Nat, (k2 < 4) → (c = nI k2) → (¬ (I (248 + 3 * k1) 0) = (-1)) → (¬ (I (248 + 3 * k2) 0) = (-1)) → ((I (248 + 3 * k1) 0) = (I (248 + 3 * k2) 0)) → (¬ f < 0) → ((I (248 + 3 * k1) 1) < f) → Q (some (.int (-12))) w1 (I, D, RR R))
    (v4 : ∀ k1 : Nat, (k1 < 4) → (a = nI k1) → ∀ k2 : Nat, (k2 < 4) → (c = nI k2) → (¬ (I (248 + 3 * k1) 0) = (-1)) → (¬ (I (248 + 3 * k2) 0) = (-1)) → ((I (248 + 3 * k1) 0) = (I (248 + 3 * k2) 0)) → (¬ f < 0) → (¬ (I (248 + 3 * k1) 1) < f) → (b < 0) → Q (some (.int (-12))) w1 (I, D, RR R))
    (v5 : ∀ k1 : Nat, (k1 < 4) → (a = nI k1) → ∀ k2 : Nat, (k2 < 4) → (c = nI k2) → (¬ (I (248 + 3 * k1) 0) = (-1)) → (¬ (I (248 + 3 * k2) 0) = (-1)) → ((I (248 + 3 * k1) 0) = (I (248 + 3 * k2) 0)) → (¬ f < 0) → (¬ (I (248 + 3 * k1) 1) < f) → (¬ b < 0) → (((I (248 + 3 * k1) 1) - f) < b) → Q (some (.int (-12))) w1 (I, D, RR R))
    (v6 : ∀ k1 : Nat, (k1 < 4) → (a = nI k1) → ∀ k2 : Nat, (k2 < 4) → (c = nI k2) → (¬ (I (248 + 3 * k1) 0) = (-1)) → (¬ (I (248 + 3 * k2) 0) = (-1)) → ((I (248 + 3 * k1) 0) = (I (248 + 3 * k2) 0)) → (¬ f < 0) → (¬ (I (248 + 3 * k1) 1) < f) → (¬ b < 0) → (¬ ((I (248 + 3 * k1) 1) - f) < b) → ((I (248 + 3 * k2) 1) < f) → Q (some (.int (-12))) w1 (I, D, RR R))
    (v7 : ∀ k1 : Nat, (k1 < 4) → (a = nI k1) → ∀ k2 : Nat, (k2 < 4) → (c = nI k2) → (¬ (I (248 + 3 * k1) 0) = (-1)) → (¬ (I (248 + 3 * k2) 0) = (-1)) → ((I (248 + 3 * k1) 0) = (I (248 + 3 * k2) 0)) → (¬ f < 0) → (¬ (I (248 + 3 * k1) 1) < f) → (¬ b < 0) → (¬ ((I (248 + 3 * k1) 1) - f) < b) → (¬ (I (248 + 3 * k2) 1) < f) → (e < 0) → Q (some (.int (-12))) w1 (I, D, RR R))
    (v8 : ∀ k1 : Nat, (k1 < 4) → (a = nI k1) → ∀ k2 : Nat, (k2 < 4) → (c = nI k2) → (¬ (I (248 + 3 * k1) 0) = (-1)) → (¬ (I (248 + 3 * k2) 0) = (-1)) → ((I (248 + 3 * k1) 0) = (I (248 + 3 * k2) 0)) → (¬ f < 0) → (¬ (I (248 + 3 * k1) 1) < f) → (¬ b < 0) → (¬ ((I (248 + 3 * k1) 1) - f) < b) → (¬ (I (248 + 3 * k2) 1) < f) → (¬ e < 0) → (((I (248 + 3 * k2) 1) - f) < e) → Q (some (.int (-12))) w1 (I, D, RR R))
    (v9 : ∀ k1 : Nat, (k1 < 4) → (a = nI k1) → ∀ k2 : Nat, (k2 < 4) → (c = nI k2) → (¬ (I (248 + 3 * k1) 0) = (-1)) → (¬ (I (248 + 3 * k2) 0) = (-1)) → ((I (248 + 3 * k1) 0) = (I (248 + 3 * k2) 0)) → (¬ f < 0) → (¬ (I (248 + 3 * k1) 1) < f) → (¬ b < 0) → (¬ ((I (248 + 3 * k1) 1) - f) < b) → (¬ (I (248 + 3 * k2) 1) < f) → (¬ e < 0) → (¬ ((I (248 + 3 * k2) 1) - f) < e) → b = nI b.toNatClampNeg)
    (v10 : ∀ k1 : Nat, (k1 < 4) → (a = nI k1) → ∀ k2 : Nat, (k2 < 4) → (c = nI k2) → (¬ (I (248 + 3 * k1) 0) = (-1)) → (¬ (I (248 + 3 * k2) 0) = (-1)) → ((I (248 + 3 * k1) 0) = (I (248 + 3 * k2) 0)) → (¬ f < 0) → (¬ (I (248 + 3 * k1) 1) < f) → (¬ b < 0) → (¬ ((I (248 + 3 * k1) 1) - f) < b) → (¬ (I (248 + 3 * k2) 1) < f) → (¬ e < 0) → (¬ ((I (248 + 3 * k2) 1) - f) < e) → e = nI e.toNatClampNeg)
    (v11 : ∀ k1 : Nat, (k1 < 4) → (a = nI k1) → ∀ k2 : Nat, (k2 < 4) → (c = nI k2) → (¬ (I (248 + 3 * k1) 0) = (-1)) → (¬ (I (248 + 3 * k2) 0) = (-1)) → ((I (248 + 3 * k1) 0) = (I (248 + 3 * k2) 0)) → (¬ f < 0) → (¬ (I (248 + 3 * k1) 1) < f) → (¬ b < 0) → (¬ ((I (248 + 3 * k1) 1) - f) < b) → (¬ (I (248 + 3 * k2) 1) < f) → (¬ e < 0) → (¬ ((I (248 + 3 * k2) 1) - f) < e) → f = nI f.toNatClampNeg)
    (v12 : ∀ k1 : Nat, (k1 < 4) → (a = nI k1) → ∀ k2 : Nat, (k2 < 4) → (c = nI k2) → (¬ (I (248 + 3 * k1) 0) = (-1)) → (¬ (I (248 + 3 * k2) 0) = (-1)) → ((I (248 + 3 * k1) 0) = (I (248 + 3 * k2) 0)) → (¬ f < 0) → (¬ (I (248 + 3 * k1) 1) < f) → (¬ b < 0) → (¬ ((I (248 + 3 * k1) 1) - f) < b) → (¬ (I (248 + 3 * k2) 1) < f) → (¬ e < 0) → (¬ ((I (248 + 3 * k2) 1) - f) < e) → b.toNatClampNeg + f.toNatClampNeg ≤ 64)
    (v13 : ∀ k1 : Nat, (k1 < 4) → (a = nI k1) → ∀ k2 : Nat, (k2 < 4) → (c = nI k2) → (¬ (I (248 + 3 * k1) 0) = (-1)) → (¬ (I (248 + 3 * k2) 0) = (-1)) → ((I (248 + 3 * k1) 0) = (I (248 + 3 * k2) 0)) → (¬ f < 0) → (¬ (I (248 + 3 * k1) 1) < f) → (¬ b < 0) → (¬ ((I (248 + 3 * k1) 1) - f) < b) → (¬ (I (248 + 3 * k2) 1) < f) → (¬ e < 0) → (¬ ((I (248 + 3 * k2) 1) - f) < e) → e.toNatClampNeg + f.toNatClampNeg ≤ 64)
    (v14 : ∀ k1 : Nat, (k1 < 4) → (a = nI k1) → ∀ k2 : Nat, (k2 < 4) → (c = nI k2) → (¬ (I (248 + 3 * k1) 0) = (-1)) → (¬ (I (248 + 3 * k2) 0) = (-1)) → ((I (248 + 3 * k1) 0) = (I (248 + 3 * k2) 0)) → (¬ f < 0) → (¬ (I (248 + 3 * k1) 1) < f) → (¬ b < 0) → (¬ ((I (248 + 3 * k1) 1) - f) < b) → (¬ (I (248 + 3 * k2) 1) < f) → (¬ e < 0) → (¬ ((I (248 + 3 * k2) 1) - f) < e) → ∀ q, q < f.toNatClampNeg → I ((248 + 3 * k1) + 2) (b.toNatClampNeg + q) = 0 ∨ I ((248 + 3 * k1) + 2) (b.toNatClampNeg + q) = 1)
    (v15 : ∀ k1 : Nat, (k1 < 4) → (a = nI k1) → ∀ k2 : Nat, (k2 < 4) → (c = nI k2) → (¬ (I (248 + 3 * k1) 0) = (-1)) → (¬ (I (248 + 3 * k2) 0) = (-1)) → ((I (248 + 3 * k1) 0) = (I (248 + 3 * k2) 0)) → (¬ f < 0) → (¬ (I (248 + 3 * k1) 1) < f) → (¬ b < 0) → (¬ ((I (248 + 3 * k1) 1) - f) < b) → (¬ (I (248 + 3 * k2) 1) < f) → (¬ e < 0) → (¬ ((I (248 + 3 * k2) 1) - f) < e) → Q (some (.int f)) w1 ((j_uo I ((248 + 3 * k2) + 2) (va_cpy (I ((248 + 3 * k1) + 2)) (I ((248 + 3 * k2) + 2)) b.toNatClampNeg e.toNatClampNeg f.toNatClampNeg)), (j_uo D ((248 + 3 * k2) + 1) (va_cpy (D ((248 + 3 * k1) + 1)) (D ((248 + 3 * k2) + 1)) b.toNatClampNeg e.toNatClampNeg f.toNatClampNeg)), RR R))
    (v16 : ∀ k1 : Nat, (k1 < 4) → (a = nI k1) → ∀ k2 : Nat, (k2 < 4) → (c = nI k2) → (¬ (I (248 + 3 * k1) 0) = (-1)) → (¬ (I (248 + 3 * k2) 0) = (-1)) → (¬ (I (248 + 3 * k1) 0) = (I (248 + 3 * k2) 0)) → Q (some (.int (-13))) w1 (I, D, RR R))
    (v17 : ∀ k1 : Nat, (k1 < 4) → (a = nI k1) → ∀ k2 : Nat, (k2 < 4) → (c = nI k2) → (¬ (I (248 + 3 * k1) 0) = (-1)) → ((I (248 + 3 * k2) 0) = (-1)) → Q (some (.int (-11))) w1 (I, D, RR R))
    (v18 : ∀ k1 : Nat, (k1 < 4) → (a = nI k1) → (¬ (∃ k : Nat, k < 4 ∧ c = nI k)) → Q (some (.int (-2))) w1 (I, D, RR R))
    (v19 : (¬ (∃ k : Nat, k < 4 ∧ a = nI k)) → Q (some (.int (-2))) w1 (I, D, RR R)) : j_Call d 164 [.ref 0, .int a, .int b, .int c, .int e, .int f] w1 (I, D, RR R) 0 0 Q := by
  refine q_enter (L := [some (.ref 0), some (.int a), some (.int b), some (.int c), some (.int e), some (.int f), none, none]) j_m164 (Nat.le_of_ble_eq_true rfl) rfl ?_
  refine q_iload_n d164_0 rfl ?_
  refine q_invS (av := [.int a]) (rest := []) (d' := 0) (mc' := 0) (ms' := 0) d164_1 (cv9_216 164 rfl) rfl rfl (by omega) (Nat.le_of_ble_eq_true rfl) (Nat.le_of_ble_eq_true rfl) (Nat.le_refl _) (Nat.le_refl _) ?_
  refine r113  (fun k1 h1 h1e => ?_) (fun h1 => ?_)
  ·
    subst h1e
    show j_W 164 d 0 0 0 0 4 [some (.ref 0), some (.int (nI k1)), some (.int b), some (.int c), some (.int e), some (.int f), none, none] [.int 1] w1 (I, D, RR R) Q
    refine q_if_eq (tgt := 14) d164_4 rfl (fun h => absurd h (by decide)) (fun _ => ?_)
    refine q_iload_n d164_7 rfl ?_
    refine q_invS (av := [.int c]) (rest := []) (d' := 0) (mc' := 0) (ms' := 0) d164_8 (cv9_216 164 rfl) rfl rfl (by omega) (Nat.le_of_ble_eq_true rfl) (Nat.le_of_ble_eq_true rfl) (Nat.le_refl _) (Nat.le_refl _) ?_
    refine r113  (fun k2 h2 h2e => ?_) (fun h2 => ?_)
    ·
      subst h2e
      show j_W 164 d 0 0 0 0 11 [some (.ref 0), some (.int (nI k1)), some (.int b), some (.int (nI k2)), some (.int e), some (.int f), none, none] [.int 1] w1 (I, D, RR R) Q
      refine q_if_ne (tgt := 17) d164_11 rfl (fun _ => ?_) (fun h => absurd h (by decide))
      refine q_aload_n d164_17 rfl ?_
      refine q_getR (x := 105) d164_18 (fs9_32 164 rfl) rfl (lt_w1 rfl) sh0 (rs0_7 R) (by decide) ?_
      refine q_iload_n d164_21 rfl ?_
      refine q_aaload (c := 8) (a := k1) (x := (248 + 3 * k1)) d164_22 (lt_w1 rfl) sh105 (by decide) rfl (by omega) (rl105 R (by omega)) (lt1000 (isRw_lt (isRw_k _ (by omega)))) ?_
      refine q_astore (L' := [some (.ref 0), some (.int (nI k1)), some (.int b), some (.int (nI k2)), some (.int e), some (.int f), some (.ref (248 + 3 * k1)), none]) d164_23 (Nat.le_of_ble_eq_true rfl) (Nat.ne_of_lt (Nat.lt_trans (lt1000 (isRw_lt (isRw_k _ (by omega)))) (by decide))) rfl ?_
      refine q_aload_n d164_25 rfl ?_
      refine q_getR (x := 105) d164_26 (fs9_32 164 rfl) rfl (lt_w1 rfl) sh0 (rs0_7 R) (by decide) ?_
      refine q_iload_n d164_29 rfl ?_
      refine q_aaload (c := 8) (a := k2) (x := (248 + 3 * k2)) d164_30 (lt_w1 rfl) sh105 (by decide) rfl (by omega) (rl105 R (by omega)) (lt1000 (isRw_lt (isRw_k _ (by omega)))) ?_
      refine q_astore (L' := [some (.ref 0), some (.int (nI k1)), some (.int b), some (.int (nI k2)), some (.int e), some (.int f), some (.ref (248 + 3 * k1)), some (.ref (248 + 3 * k2))]) d164_31 (Nat.le_of_ble_eq_true rfl) (Nat.ne_of_lt (Nat.lt_trans (lt1000 (isRw_lt (isRw_k _ (by omega)))) (by decide))) rfl ?_
      refine q_aload d164_33 rfl ?_
      refine q_getI d164_35 (fs9_219 164 rfl) rfl (isRw_lt (isRw_k _ (by omega))) (isRw_sh (isRw_k _ (by omega))) ?_
      refine q_iconst (v := (-1)) (by decide) d164_38 ?_
      refine q_icmp_eq (tgt := 51) d164_39 rfl (fun h3t => ?_) (fun h3f => ?_)
      ·
        refine q_bipush (v := (-11)) (by decide) d164_51 ?_
        exact q_iret d164_53 rfl (Nat.le_refl _) (Nat.le_refl _) (v1 k1 h1 rfl k2 h2 rfl h3t)
      ·
        refine q_aload d164_42 rfl ?_
        refine q_getI d164_44 (fs9_219 164 rfl) rfl (isRw_lt (isRw_k _ (by omega))) (isRw_sh (isRw_k _ (by omega))) ?_
        refine q_iconst (v := (-1)) (by decide) d164_47 ?_
        refine q_icmp_ne (tgt := 54) d164_48 rfl (fun h4t => ?_) (fun h4f => ?_)
        ·
          refine q_aload d164_54 rfl ?_
          refine q_getI d164_56 (fs9_219 164 rfl) rfl (isRw_lt (isRw_k _ (by omega))) (isRw_sh (isRw_k _ (by omega))) ?_
          refine q_aload d164_59 rfl ?_
          refine q_getI d164_61 (fs9_219 164 rfl) rfl (isRw_lt (isRw_k _ (by omega))) (isRw_sh (isRw_k _ (by omega))) ?_
          refine q_icmp_eq (tgt := 70) d164_64 rfl (fun h5t => ?_) (fun h5f => ?_)
          ·
            refine q_aload d164_70 rfl ?_
            refine q_iload_n d164_72 rfl ?_
            refine q_iload d164_73 rfl ?_
            refine q_invV (o := (248 + 3 * k1)) (ci := 6) (av := [.int b, .int f]) (rest := []) (d' := 0) (mc' := 0) (ms' := 0) d164_75 (cv9_222 164 rfl) rfl (by decide) rfl rfl (by omega) (Nat.le_of_ble_eq_true rfl) (Nat.le_of_ble_eq_true rfl) (isRw_lt (isRw_k _ (by omega))) (isRw_sh (isRw_k _ (by omega))) (Nat.le_refl _) (Nat.le_refl _) ?_
            refine s114 (r := (248 + 3 * k1)) (isRw_k _ (by omega)) (Nat.le_refl _) (fun c6 => ?_) (fun c7 c8 => ?_) (fun c9 c10 c11 => ?_) (fun c12 c13 c14 c15 => ?_) (fun c16 c17 c18 c19 => ?_)
            ·
              show j_W 164 d 0 0 0 0 78 [some (.ref 0), some (.int (nI k1)), some (.int b), some (.int (nI k2)), some (.int e), some (.int f), some (.ref (248 + 3 * k1)), some (.ref (248 + 3 * k2))] [.int 0] w1 (I, D, RR R) Q
              refine q_if_eq (tgt := 93) d164_78 rfl (fun _ => ?_) (fun h => absurd h (by decide))
              refine q_bipush (v := (-12)) (by decide) d164_93 ?_
              exact q_iret d164_95 rfl (Nat.le_refl _) (Nat.le_refl _) (v2 k1 h1 rfl k2 h2 rfl h3f h4t h5t c6)
            ·
              show j_W 164 d 0 0 0 0 78 [some (.ref 0), some (.int (nI k1)), some (.int b), some (.int (nI k2)), some (.int e), some (.int f), some (.ref (248 + 3 * k1)), some (.ref (248 + 3 * k2))] [.int 0] w1 (I, D, RR R) Q
              refine q_if_eq (tgt := 93) d164_78 rfl (fun _ => ?_) (fun h => absurd h (by decide))
              refine q_bipush (v := (-12)) (by decide) d164_93 ?_
              exact q_iret d164_95 rfl (Nat.le_refl _) (Nat.le_refl _) (v3 k1 h1 rfl k2 h2 rfl h3f h4t h5t c7 c8)
            ·
              show j_W 164 d 0 0 0 0 78 [some (.ref 0), some (.int (nI k1)), some (.int b), some (.int (nI k2)), some (.int e), some (.int f), some (.ref (248 + 3 * k1)), some (.ref (248 + 3 * k2))] [.int 0] w1 (I, D, RR R) Q
              refine q_if_eq (tgt := 93) d164_78 rfl (fun _ => ?_) (fun h => absurd h (by decide))
              refine q_bipush (v := (-12)) (by decide) d164_93 ?_
              exact q_iret d164_95 rfl (Nat.le_refl _) (Nat.le_refl _) (v4 k1 h1 rfl k2 h2 rfl h3f h4t h5t c9 c10 c11)
            ·
              show j_W 164 d 0 0 0 0 78 [some (.ref 0), some (.int (nI k1)), some (.int b), some (.int (nI k2)), some (.int e), some (.int f), some (.ref (248 + 3 * k1)), some (.ref (248 + 3 * k2))] [.int 0] w1 (I, D, RR R) Q
              refine q_if_eq (tgt := 93) d164_78 rfl (fun _ => ?_) (fun h => absurd h (by decide))
              refine q_bipush (v := (-12)) (by decide) d164_93 ?_
              exact q_iret d164_95 rfl (Nat.le_refl _) (Nat.le_refl _) (v5 k1 h1 rfl k2 h2 rfl h3f h4t h5t c12 c13 c14 c15)
            ·
              show j_W 164 d 0 0 0 0 78 [some (.ref 0), some (.int (nI k1)), some (.int b), some (.int (nI k2)), some (.int e), some (.int f), some (.ref (248 + 3 * k1)), some (.ref (248 + 3 * k2))] [.int 1] w1 (I, D, RR R) Q
              refine q_if_eq (tgt := 93) d164_78 rfl (fun h => absurd h (by decide)) (fun _ => ?_)
              refine q_aload d164_81 rfl ?_
              refine q_iload d164_83 rfl ?_
              refine q_iload d164_85 rfl ?_
              refine q_invV (o := (248 + 3 * k2)) (ci := 6) (av := [.int e, .int f]) (rest := []) (d' := 0) (mc' := 0) (ms' := 0) d164_87 (cv9_222 164 rfl) rfl (by decide) rfl rfl (by omega) (Nat.le_of_ble_eq_true rfl) (Nat.le_of_ble_eq_true rfl) (isRw_lt (isRw_k _ (by omega))) (isRw_sh (isRw_k _ (by omega))) (Nat.le_refl _) (Nat.le_refl _) ?_
              refine s114 (r := (248 + 3 * k2)) (isRw_k _ (by omega)) (Nat.le_refl _) (fun c20 => False.elim (by first | exact absurd c20 c16 | exact absurd c16 c20 | exact (Int32.not_lt.mpr c20) c16 | exact (Int32.not_lt.mpr c16) c20 | exact c20 (Int32.not_le.mp c16) | exact c16 (Int32.not_le.mp c20) | omega)) (fun c21 c22 => ?_) (fun c23 c24 c25 => ?_) (fun c26 c27 c28 c29 => ?_) (fun c30 c31 c32 c33 => ?_)
              ·
                show j_W 164 d 0 0 0 0 90 [some (.ref 0), some (.int (nI k1)), some (.int b), some (.int (nI k2)), some (.int e), some (.int f), some (.ref (248 + 3 * k1)), some (.ref (248 + 3 * k2))] [.int 0] w1 (I, D, RR R) Q
                refine q_if_ne (tgt := 96) d164_90 rfl (fun h => absurd h (by decide)) (fun _ => ?_)
                refine q_bipush (v := (-12)) (by decide) d164_93 ?_
                exact q_iret d164_95 rfl (Nat.le_refl _) (Nat.le_refl _) (v6 k1 h1 rfl k2 h2 rfl h3f h4t h5t c16 c17 c18 c19 c22)
              ·
                show j_W 164 d 0 0 0 0 90 [some (.ref 0), some (.int (nI k1)), some (.int b), some (.int (nI k2)), some (.int e), some (.int f), some (.ref (248 + 3 * k1)), some (.ref (248 + 3 * k2))] [.int 0] w1 (I, D, RR R) Q
                refine q_if_ne (tgt := 96) d164_90 rfl (fun h => absurd h (by decide)) (fun _ => ?_)
                refine q_bipush (v := (-12)) (by decide) d164_93 ?_
                exact q_iret d164_95 rfl (Nat.le_refl _) (Nat.le_refl _) (v7 k1 h1 rfl k2 h2 rfl h3f h4t h5t c16 c17 c18 c19 c24 c25)
              ·
                show j_W 164 d 0 0 0 0 90 [some (.ref 0), some (.int (nI k1)), some (.int b), some (.int (nI k2)), some (.int e), some (.int f), some (.ref (248 + 3 * k1)), some (.ref (248 + 3 * k2))] [.int 0] w1 (I, D, RR R) Q
                refine q_if_ne (tgt := 96) d164_90 rfl (fun h => absurd h (by decide)) (fun _ => ?_)
                refine q_bipush (v := (-12)) (by decide) d164_93 ?_
                exact q_iret d164_95 rfl (Nat.le_refl _) (Nat.le_refl _) (v8 k1 h1 rfl k2 h2 rfl h3f h4t h5t c16 c17 c18 c19 c27 c28 c29)
              ·
                show j_W 164 d 0 0 0 0 90 [some (.ref 0), some (.int (nI k1)), some (.int b), some (.int (nI k2)), some (.int e), some (.int f), some (.ref (248 + 3 * k1)), some (.ref (248 + 3 * k2))] [.int 1] w1 (I, D, RR R) Q
                refine q_if_ne (tgt := 96) d164_90 rfl (fun _ => ?_) (fun h => absurd h (by decide))
                refine q_aload d164_96 rfl ?_
                refine q_getR (x := ((248 + 3 * k1) + 1)) d164_98 (fs9_228 164 rfl) rfl (isRw_lt (isRw_k _ (by omega))) (isRw_sh (isRw_k _ (by omega))) (isRw_r1 R (isRw_k _ (by omega))) (lt1000 (isRw_lt1 (isRw_k _ (by omega)))) ?_
                refine q_iload_n d164_101 rfl ?_
                refine q_aload d164_102 rfl ?_
                refine q_getR (x := ((248 + 3 * k2) + 1)) d164_104 (fs9_228 164 rfl) rfl (isRw_lt (isRw_k _ (by omega))) (isRw_sh (isRw_k _ (by omega))) (isRw_r1 R (isRw_k _ (by omega))) (lt1000 (isRw_lt1 (isRw_k _ (by omega)))) ?_
                refine q_iload d164_107 rfl ?_
                refine q_iload d164_109 rfl ?_
                refine r_copyD (a := b.toNatClampNeg) (b := e.toNatClampNeg) (m0 := f.toNatClampNeg) d164_111 (by exact j_i5 103 rfl) (isRw_lt1 (isRw_k _ (by omega))) (isRw_sh1 (isRw_k _ (by omega))) (isRw_lt1 (isRw_k _ (by omega))) (isRw_sh1 (isRw_k _ (by omega))) (v9 k1 h1 rfl k2 h2 rfl h3f h4t h5t c16 c17 c18 c19 c31 c32 c33) (v10 k1 h1 rfl k2 h2 rfl h3f h4t h5t c16 c17 c18 c19 c31 c32 c33) (v11 k1 h1 rfl k2 h2 rfl h3f h4t h5t c16 c17 c18 c19 c31 c32 c33) (v12 k1 h1 rfl k2 h2 rfl h3f h4t h5t c16 c17 c18 c19 c31 c32 c33) (v13 k1 h1 rfl k2 h2 rfl h3f h4t h5t c16 c17 c18 c19 c31 c32 c33) (by omega) (Nat.le_of_ble_eq_true rfl) ?_
                refine q_aload d164_114 rfl ?_
                refine q_getR (x := ((248 + 3 * k1) + 2)) d164_116 (fs9_369 164 rfl) rfl (isRw_lt (isRw_k _ (by omega))) (isRw_sh (isRw_k _ (by omega))) (isRw_r2 R (isRw_k _ (by omega))) (lt1000 (isRw_lt2 (isRw_k _ (by omega)))) ?_
                refine q_iload_n d164_119 rfl ?_
                refine q_aload d164_120 rfl ?_
                refine q_getR (x := ((248 + 3 * k2) + 2)) d164_122 (fs9_369 164 rfl) rfl (isRw_lt (isRw_k _ (by omega))) (isRw_sh (isRw_k _ (by omega))) (isRw_r2 R (isRw_k _ (by omega))) (lt1000 (isRw_lt2 (isRw_k _ (by omega)))) ?_
                refine q_iload d164_125 rfl ?_
                refine q_iload d164_127 rfl ?_
                refine r_copyZ (a := b.toNatClampNeg) (b := e.toNatClampNeg) (m0 := f.toNatClampNeg) d164_129 (by exact j_i5 103 rfl) (isRw_lt2 (isRw_k _ (by omega))) (isRw_sh2 (isRw_k _ (by omega))) (isRw_lt2 (isRw_k _ (by omega))) (isRw_sh2 (isRw_k _ (by omega))) (v9 k1 h1 rfl k2 h2 rfl h3f h4t h5t c16 c17 c18 c19 c31 c32 c33) (v10 k1 h1 rfl k2 h2 rfl h3f h4t h5t c16 c17 c18 c19 c31 c32 c33) (v11 k1 h1 rfl k2 h2 rfl h3f h4t h5t c16 c17 c18 c19 c31 c32 c33) (v12 k1 h1 rfl k2 h2 rfl h3f h4t h5t c16 c17 c18 c19 c31 c32 c33) (v13 k1 h1 rfl k2 h2 rfl h3f h4t h5t c16 c17 c18 c19 c31 c32 c33) (v14 k1 h1 rfl k2 h2 rfl h3f h4t h5t c16 c17 c18 c19 c31 c32 c33) (by omega) (Nat.le_of_ble_eq_true rfl) ?_
                refine q_iload d164_132 rfl ?_
                exact q_iret d164_134 rfl (Nat.le_refl _) (Nat.le_refl _) (v15 k1 h1 rfl k2 h2 rfl h3f h4t h5t c16 c17 c18 c19 c31 c32 c33)
          ·
            refine q_bipush (v := (-13)) (by decide) d164_67 ?_
            exact q_iret d164_69 rfl (Nat.le_refl _) (Nat.le_refl _) (v16 k1 h1 rfl k2 h2 rfl h3f h4t h5f)
        ·
          refine q_bipush (v := (-11)) (by decide) d164_51 ?_
          exact q_iret d164_53 rfl (Nat.le_refl _) (Nat.le_refl _) (v17 k1 h1 rfl k2 h2 rfl h3f h4f)
    ·
      show j_W 164 d 0 0 0 0 11 [some (.ref 0), some (.int (nI k1)), some (.int b), some (.int c), some (.int e), some (.int f), none, none] [.int 0] w1 (I, D, RR R) Q
      refine q_if_ne (tgt := 17) d164_11 rfl (fun h => absurd h (by decide)) (fun _ => ?_)
      refine q_bipush (v := (-2)) (by decide) d164_14 ?_
      exact q_iret d164_16 rfl (Nat.le_refl _) (Nat.le_refl _) (v18 k1 h1 rfl h2)
  ·
    show j_W 164 d 0 0 0 0 4 [some (.ref 0), some (.int a), some (.int b), some (.int c), some (.int e), some (.int f), none, none] [.int 0] w1 (I, D, RR R) Q
    refine q_if_eq (tgt := 14) d164_4 rfl (fun _ => ?_) (fun h => absurd h (by decide))
    refine q_bipush (v := (-2)) (by decide) d164_14 ?_
    exact q_iret d164_16 rfl (Nat.le_refl _) (Nat.le_refl _) (v19 h1)

set_option maxRecDepth 10000 in
set_option maxHeartbeats 4000000 in
theorem s288 {d : Nat} {I : Nat → Nat → Int32} {D : Nat → Nat → UInt64} {R : Nat → Nat → Option Nat} {Q : j_Po} {a : Int32} {b : Int32} {c : Int32} {e : Int32} {f : Int32}   (hd : 2 ≤ d)
    (v1 : ∀ k1 : Nat, (k1 < 4) → (a = nI k1) → ∀ k2 : Nat, (k2 < 4) → (c = nI k2) → ((I 503 k1) < 0) → Q (some (.int (-11))) w1 (I, D, RR R))
    (v2 : ∀ k1 : Nat, (k1 < 4) → (a = nI k1) → ∀ k2 : Nat, (k2 < 4) → (c = nI k2) → (¬ (I 503 k1) < 0) → (0 ≤ (I 503 k2)) → ((I 503 k1) = (I 503 k2)) → (f < 0) → Q (some (.int (-12))) w1 (I, D, RR R))
    (v3 : ∀ k1 : Nat, (k1 < 4) → (a = nI k1) → ∀ k2 : Nat, (k2 < 4) → (c = nI k2) → (¬ (I 503 k1) < 0) → (0 ≤ (I 503 k2)) → ((I 503 k1) = (I 503 k2)) → (¬ f < 0) → (b < 0) → Q (some (.int (-12))) w1 (I, D, RR R))
    (v4 : ∀ k1 : Nat, (k1 < 4) → (a = nI k1) → ∀ k2 : Nat, (k2 < 4) → (c = nI k2) → (¬ (I 503 k1) < 0) → (0 ≤ (I 503 k2)) → ((I 503 k1) = (I 503 k2)) → (¬ f < 0) → (¬ b < 0) → (e < 0) → Q (some (.int (-12))) w1 (I, D, RR R))
    (v5 : ∀ k1 : Nat, (k1 < 4) → (a = nI k1) → ∀ k2 : Nat, (k2 < 4) → (c = nI k2) → (¬ (I 503 k1) < 0) → (0 ≤ (I 503 k2)) → ((I 503 k1) = (I 503 k2)) → (¬ f < 0) → (¬ b < 0) → (¬ e < 0) → (((I 504 k1) - f) < b) → Q (some (.int (-12))) w1 (I, D, RR R))
    (v6 : ∀ k1 : Nat, (k1 < 4) → (a = nI k1) → ∀ k2 : Nat, (k2 < 4) → (c = nI k2) → (¬ (I 503 k1) < 0) → (0 ≤ (I 503 k2)) → ((I 503 k1) = (I 503 k2)) → (¬ f < 0) → (¬ b < 0) → (¬ e < 0) → (¬ ((I 504 k1) - f) < b) → (e ≤ ((I 504 k2) - f)) → b = nI b.toNatClampNeg)
    (v7 : ∀ k1 : Nat, (k1 < 4) → (a = nI k1) → ∀ k2 : Nat, (k2 < 4) → (c = nI k2) → (¬ (I 503 k1) < 0) → (0 ≤ (I 503 k2)) → ((I 503 k1) = (I 503 k2)) → (¬ f < 0) → (¬ b < 0) → (¬ e < 0) → (¬ ((I 504 k1) - f) < b) → (e ≤ ((I 504 k2) - f)) → f = nI f.toNatClampNeg)
    (v8 : ∀ k1 : Nat, (k1 < 4) → (a = nI k1) → ∀ k2 : Nat, (k2 < 4) → (c = nI k2) → (¬ (I 503 k1) < 0) → (0 ≤ (I 503 k2)) → ((I 503 k1) = (I 503 k2)) → (¬ f < 0) → (¬ b < 0) → (¬ e < 0) → (¬ ((I 504 k1) - f) < b) → (e ≤ ((I 504 k2) - f)) → b.toNatClampNeg + f.toNatClampNeg ≤ 64)
    (v9 : ∀ k1 : Nat, (k1 < 4) → (a = nI k1) → ∀ k2 : Nat, (k2 < 4) → (c = nI k2) → (¬ (I 503 k1) < 0) → (0 ≤ (I 503 k2)) → ((I 503 k1) = (I 503 k2)) → (¬ f < 0) → (¬ b < 0) → (¬ e < 0) → (¬ ((I 504 k1) - f) < b) → (e ≤ ((I 504 k2) - f)) → 0 + f.toNatClampNeg ≤ 64)
    (v10 : ∀ k1 : Nat, (k1 < 4) → (a = nI k1) → ∀ k2 : Nat, (k2 < 4) → (c = nI k2) → (¬ (I 503 k1) < 0) → (0 ≤ (I 503 k2)) → ((I 503 k1) = (I 503 k2)) → (¬ f < 0) → (¬ b < 0) → (¬ e < 0) → (¬ ((I 504 k1) - f) < b) → (e ≤ ((I 504 k2) - f)) → ∀ q, q < f.toNatClampNeg → I (511 + k1) (b.toNatClampNeg + q) = 0 ∨ I (511 + k1) (b.toNatClampNeg + q) = 1)
    (v11 : ∀ k1 : Nat, (k1 < 4) → (a = nI k1) → ∀ k2 : Nat, (k2 < 4) → (c = nI k2) → (¬ (I 503 k1) < 0) → (0 ≤ (I 503 k2)) → ((I 503 k1) = (I 503 k2)) → (¬ f < 0) → (¬ b < 0) → (¬ e < 0) → (¬ ((I 504 k1) - f) < b) → (e ≤ ((I 504 k2) - f)) → e = nI e.toNatClampNeg)
    (v12 : ∀ k1 : Nat, (k1 < 4) → (a = nI k1) → ∀ k2 : Nat, (k2 < 4) → (c = nI k2) → (¬ (I 503 k1) < 0) → (0 ≤ (I 503 k2)) → ((I 503 k1) = (I 503 k2)) → (¬ f < 0) → (¬ b < 0) → (¬ e < 0) → (¬ ((I 504 k1) - f) < b) → (e ≤ ((I 504 k2) - f)) → e.toNatClampNeg + f.toNatClampNeg ≤ 64)
    (v13 : ∀ k1 : Nat, (k1 < 4) → (a = nI k1) → ∀ k2 : Nat, (k2 < 4) → (c = nI k2) → (¬ (I 503 k1) < 0) → (0 ≤ (I 503 k2)) → ((I 503 k1) = (I 503 k2)) → (¬ f < 0) → (¬ b < 0) → (¬ e < 0) → (¬ ((I 504 k1) - f) < b) → (e ≤ ((I 504 k2) - f)) → ∀ q, q < f.toNatClampNeg → (j_uo I 516 (va_cpy (I (511 + k1)) (I 516) b.toNatClampNeg 0 f.toNatClampNeg)) 516 (0 + q) = 0 ∨ (j_uo I 516 (va_cpy (I (511 + k1)) (I 516) b.toNatClampNeg 0 f.toNatClampNeg)) 516 (0 + q) = 1)
    (v14 : ∀ k1 : Nat, (k1 < 4) → (a = nI k1) → ∀ k2 : Nat, (k2 < 4) → (c = nI k2) → (¬ (I 503 k1) < 0) → (0 ≤ (I 503 k2)) → ((I 503 k1) = (I 503 k2)) → (¬ f < 0) → (¬ b < 0) → (¬ e < 0) → (¬ ((I 504 k1) - f) < b) → (e ≤ ((I 504 k2) - f)) → Q (some (.int f)) w1 ((j_uo (j_uo I 516 (va_cpy (I (511 + k1)) (I 516) b.toNatClampNeg 0 f.toNatClampNeg)) (511 + k2) (va_cpy ((j_uo I 516 (va_cpy (I (511 + k1)) (I 516) b.toNatClampNeg 0 f.toNatClampNeg)) 516) ((j_uo I 516 (va_cpy (I (511 + k1)) (I 516) b.toNatClampNeg 0 f.toNatClampNeg)) (511 + k2)) 0 e.toNatClampNeg f.toNatClampNeg)), (j_uo (j_uo D 515 (va_cpy (D (506 + k1)) (D 515) b.toNatClampNeg 0 f.toNatClampNeg)) (506 + k2) (va_cpy ((j_uo D 515 (va_cpy (D (506 + k1)) (D 515) b.toNatClampNeg 0 f.toNatClampNeg)) 515) ((j_uo D 515 (va_cpy (D (506 + k1)) (D 515) b.toNatClampNeg 0 f.toNatClampNeg)) (506 + k2)) 0 e.toNatClampNeg f.toNatClampNeg)), RR R))
    (v15 : ∀ k1 : Nat, (k1 < 4) → (a = nI k1) → ∀ k2 : Nat, (k2 < 4) → (c = nI k2) → (¬ (I 503 k1) < 0) → (0 ≤ (I 503 k2)) → ((I 503 k1) = (I 503 k2)) → (¬ f < 0) → (¬ b < 0) → (¬ e < 0) → (¬ ((I 504 k1) - f) < b) → (¬ e ≤ ((I 504 k2) - f)) → Q (some (.int (-12))) w1 (I, D, RR R))
    (v16 : ∀ k1 : Nat, (k1 < 4) → (a = nI k1) → ∀ k2 : Nat, (k2 < 4) → (c = nI k2) → (¬ (I 503 k1) < 0) → (0 ≤ (I 503 k2)) → (¬ (I 503 k1) = (I 503 k2)) → Q (some (.int (-13))) w1 (I, D, RR R))
    (v17 : ∀ k1 : Nat, (k1 < 4) → (a = nI k1) → ∀ k2 : Nat, (k2 < 4) → (c = nI k2) → (¬ (I 503 k1) < 0) → (¬ 0 ≤ (I 503 k2)) → Q (some (.int (-11))) w1 (I, D, RR R))
    (v18 : ∀ k1 : Nat, (k1 < 4) → (a = nI k1) → (¬ (∃ k : Nat, k < 4 ∧ c = nI k)) → Q (some (.int (-2))) w1 (I, D, RR R))
    (v19 : (¬ (∃ k : Nat, k < 4 ∧ a = nI k)) → Q (some (.int (-2))) w1 (I, D, RR R)) : j_Call d 288 [.ref 260, .int a, .int b, .int c, .int e, .int f] w1 (I, D, RR R) 0 0 Q := by
  refine q_enter (L := [some (.ref 260), some (.int a), some (.int b), some (.int c), some (.int e), some (.int f)]) j_m288 (Nat.le_of_ble_eq_true rfl) rfl ?_
  refine q_iload_n d288_0 rfl ?_
  refine q_invS (av := [.int a]) (rest := []) (d' := 1) (mc' := 0) (ms' := 0) d288_1 (cv10_488 288 rfl) rfl rfl (by omega) (Nat.le_of_ble_eq_true rfl) (Nat.le_of_ble_eq_true rfl) (Nat.le_refl _) (Nat.le_refl _) ?_
  refine r253 (Nat.le_refl _)  (fun k1 h1 h1e => ?_) (fun h1 => ?_)
  ·
    subst h1e
    show j_W 288 d 0 0 0 0 4 [some (.ref 260), some (.int (nI k1)), some (.int b), some (.int c), some (.int e), some (.int f)] [.int 1] w1 (I, D, RR R) Q
    refine q_if_eq (tgt := 14) d288_4 rfl (fun h => absurd h (by decide)) (fun _ => ?_)
    refine q_iload_n d288_7 rfl ?_
    refine q_invS (av := [.int c]) (rest := []) (d' := 1) (mc' := 0) (ms' := 0) d288_8 (cv10_488 288 rfl) rfl rfl (by omega) (Nat.le_of_ble_eq_true rfl) (Nat.le_of_ble_eq_true rfl) (Nat.le_refl _) (Nat.le_refl _) ?_
    refine r253 (Nat.le_refl _)  (fun k2 h2 h2e => ?_) (fun h2 => ?_)
    ·
      subst h2e
      show j_W 288 d 0 0 0 0 11 [some (.ref 260), some (.int (nI k1)), some (.int b), some (.int (nI k2)), some (.int e), some (.int f)] [.int 1] w1 (I, D, RR R) Q
      refine q_if_ne (tgt := 17) d288_11 rfl (fun _ => ?_) (fun h => absurd h (by decide))
      refine q_aload_n d288_17 rfl ?_
      refine q_getR (x := 503) d288_18 (fs10_165 288 rfl) rfl (lt_w1 rfl) sh260 (rs260_70 R) (by decide) ?_
      refine q_iload_n d288_21 rfl ?_
      refine q_iaload (a := k1) d288_22 (lt_w1 rfl) sh503 rfl (by omega) ?_
      refine q_if_lt (tgt := 35) d288_23 rfl (fun h3t => ?_) (fun h3f => ?_)
      ·
        refine q_bipush (v := (-11)) (by decide) d288_35 ?_
        exact q_iret d288_37 rfl (Nat.le_refl _) (Nat.le_refl _) (v1 k1 h1 rfl k2 h2 rfl h3t)
      ·
        refine q_aload_n d288_26 rfl ?_
        refine q_getR (x := 503) d288_27 (fs10_165 288 rfl) rfl (lt_w1 rfl) sh260 (rs260_70 R) (by decide) ?_
        refine q_iload_n d288_30 rfl ?_
        refine q_iaload (a := k2) d288_31 (lt_w1 rfl) sh503 rfl (by omega) ?_
        refine q_if_ge (tgt := 38) d288_32 rfl (fun h4t => ?_) (fun h4f => ?_)
        ·
          refine q_aload_n d288_38 rfl ?_
          refine q_getR (x := 503) d288_39 (fs10_165 288 rfl) rfl (lt_w1 rfl) sh260 (rs260_70 R) (by decide) ?_
          refine q_iload_n d288_42 rfl ?_
          refine q_iaload (a := k1) d288_43 (lt_w1 rfl) sh503 rfl (by omega) ?_
          refine q_aload_n d288_44 rfl ?_
          refine q_getR (x := 503) d288_45 (fs10_165 288 rfl) rfl (lt_w1 rfl) sh260 (rs260_70 R) (by decide) ?_
          refine q_iload_n d288_48 rfl ?_
          refine q_iaload (a := k2) d288_49 (lt_w1 rfl) sh503 rfl (by omega) ?_
          refine q_icmp_eq (tgt := 56) d288_50 rfl (fun h5t => ?_) (fun h5f => ?_)
          ·
            refine q_iload d288_56 rfl ?_
            refine q_if_lt (tgt := 97) d288_58 rfl (fun h6t => ?_) (fun h6f => ?_)
            ·
              refine q_bipush (v := (-12)) (by decide) d288_97 ?_
              exact q_iret d288_99 rfl (Nat.le_refl _) (Nat.le_refl _) (v2 k1 h1 rfl k2 h2 rfl h3f h4t h5t h6t)
            ·
              refine q_iload_n d288_61 rfl ?_
              refine q_if_lt (tgt := 97) d288_62 rfl (fun h7t => ?_) (fun h7f => ?_)
              ·
                refine q_bipush (v := (-12)) (by decide) d288_97 ?_
                exact q_iret d288_99 rfl (Nat.le_refl _) (Nat.le_refl _) (v3 k1 h1 rfl k2 h2 rfl h3f h4t h5t h6f h7t)
              ·
                refine q_iload d288_65 rfl ?_
                refine q_if_lt (tgt := 97) d288_67 rfl (fun h8t => ?_) (fun h8f => ?_)
                ·
                  refine q_bipush (v := (-12)) (by decide) d288_97 ?_
                  exact q_iret d288_99 rfl (Nat.le_refl _) (Nat.le_refl _) (v4 k1 h1 rfl k2 h2 rfl h3f h4t h5t h6f h7f h8t)
                ·
                  refine q_iload_n d288_70 rfl ?_
                  refine q_aload_n d288_71 rfl ?_
                  refine q_getR (x := 504) d288_72 (fs10_168 288 rfl) rfl (lt_w1 rfl) sh260 (rs260_71 R) (by decide) ?_
                  refine q_iload_n d288_75 rfl ?_
                  refine q_iaload (a := k1) d288_76 (lt_w1 rfl) sh504 rfl (by omega) ?_
                  refine q_iload d288_77 rfl ?_
                  refine q_isub d288_79 ?_
                  refine q_icmp_gt (tgt := 97) d288_80 rfl (fun h9t => ?_) (fun h9f => ?_)
                  ·
                    refine q_bipush (v := (-12)) (by decide) d288_97 ?_
                    exact q_iret d288_99 rfl (Nat.le_refl _) (Nat.le_refl _) (v5 k1 h1 rfl k2 h2 rfl h3f h4t h5t h6f h7f h8f h9t)
                  ·
                    refine q_iload d288_83 rfl ?_
                    refine q_aload_n d288_85 rfl ?_
                    refine q_getR (x := 504) d288_86 (fs10_168 288 rfl) rfl (lt_w1 rfl) sh260 (rs260_71 R) (by decide) ?_
                    refine q_iload_n d288_89 rfl ?_
                    refine q_iaload (a := k2) d288_90 (lt_w1 rfl) sh504 rfl (by omega) ?_
                    refine q_iload d288_91 rfl ?_
                    refine q_isub d288_93 ?_
                    refine q_icmp_le (tgt := 100) d288_94 rfl (fun h10t => ?_) (fun h10f => ?_)
                    ·
                      refine q_aload_n d288_100 rfl ?_
                      refine q_getR (x := 505) d288_101 (fs10_171 288 rfl) rfl (lt_w1 rfl) sh260 (rs260_72 R) (by decide) ?_
                      refine q_iload_n d288_104 rfl ?_
                      refine q_aaload (c := 3) (a := k1) (x := (506 + k1)) d288_105 (lt_w1 rfl) sh505 (by decide) rfl (by omega) (rm505 R (by omega)) (lt1000 (lm505 (by omega))) ?_
                      refine q_iload_n d288_106 rfl ?_
                      refine q_aload_n d288_107 rfl ?_
                      refine q_getR (x := 515) d288_108 (fs10_177 288 rfl) rfl (lt_w1 rfl) sh260 (rs260_74 R) (by decide) ?_
                      refine q_iconst (v := 0) (by decide) d288_111 ?_
                      refine q_iload d288_112 rfl ?_
                      refine r_copyD (a := b.toNatClampNeg) (b := 0) (m0 := f.toNatClampNeg) d288_114 (by exact j_i7 197 rfl) (lm505 (by omega)) (sm505 (by omega)) (lt_w1 rfl) sh515 (v6 k1 h1 rfl k2 h2 rfl h3f h4t h5t h6f h7f h8f h9f h10t) rfl (v7 k1 h1 rfl k2 h2 rfl h3f h4t h5t h6f h7f h8f h9f h10t) (v8 k1 h1 rfl k2 h2 rfl h3f h4t h5t h6f h7f h8f h9f h10t) (v9 k1 h1 rfl k2 h2 rfl h3f h4t h5t h6f h7f h8f h9f h10t) (by omega) (Nat.le_of_ble_eq_true rfl) ?_
                      refine q_aload_n d288_117 rfl ?_
                      refine q_getR (x := 510) d288_118 (fs10_174 288 rfl) rfl (lt_w1 rfl) sh260 (rs260_73 R) (by decide) ?_
                      refine q_iload_n d288_121 rfl ?_
                      refine q_aaload (c := 5) (a := k1) (x := (511 + k1)) d288_122 (lt_w1 rfl) sh510 (by decide) rfl (by omega) (rm510 R (by omega)) (lt1000 (lm510 (by omega))) ?_
                      refine q_iload_n d288_123 rfl ?_
                      refine q_aload_n d288_124 rfl ?_
                      refine q_getR (x := 516) d288_125 (fs10_180 288 rfl) rfl (lt_w1 rfl) sh260 (rs260_75 R) (by decide) ?_
                      refine q_iconst (v := 0) (by decide) d288_128 ?_
                      refine q_iload d288_129 rfl ?_
                      refine r_copyZ (a := b.toNatClampNeg) (b := 0) (m0 := f.toNatClampNeg) d288_131 (by exact j_i7 197 rfl) (lm510 (by omega)) (sm510 (by omega)) (lt_w1 rfl) sh516 (v6 k1 h1 rfl k2 h2 rfl h3f h4t h5t h6f h7f h8f h9f h10t) rfl (v7 k1 h1 rfl k2 h2 rfl h3f h4t h5t h6f h7f h8f h9f h10t) (v8 k1 h1 rfl k2 h2 rfl h3f h4t h5t h6f h7f h8f h9f h10t) (v9 k1 h1 rfl k2 h2 rfl h3f h4t h5t h6f h7f h8f h9f h10t) (v10 k1 h1 rfl k2 h2 rfl h3f h4t h5t h6f h7f h8f h9f h10t) (by omega) (Nat.le_of_ble_eq_true rfl) ?_
                      refine q_aload_n d288_134 rfl ?_
                      refine q_getR (x := 515) d288_135 (fs10_177 288 rfl) rfl (lt_w1 rfl) sh260 (rs260_74 R) (by decide) ?_
                      refine q_iconst (v := 0) (by decide) d288_138 ?_
                      refine q_aload_n d288_139 rfl ?_
                      refine q_getR (x := 505) d288_140 (fs10_171 288 rfl) rfl (lt_w1 rfl) sh260 (rs260_72 R) (by decide) ?_
                      refine q_iload_n d288_143 rfl ?_
                      refine q_aaload (c := 3) (a := k2) (x := (506 + k2)) d288_144 (lt_w1 rfl) sh505 (by decide) rfl (by omega) (rm505 R (by omega)) (lt1000 (lm505 (by omega))) ?_
                      refine q_iload d288_145 rfl ?_
                      refine q_iload d288_147 rfl ?_
                      refine r_copyD (a := 0) (b := e.toNatClampNeg) (m0 := f.toNatClampNeg) d288_149 (by exact j_i7 197 rfl) (lt_w1 rfl) sh515 (lm505 (by omega)) (sm505 (by omega)) rfl (v11 k1 h1 rfl k2 h2 rfl h3f h4t h5t h6f h7f h8f h9f h10t) (v7 k1 h1 rfl k2 h2 rfl h3f h4t h5t h6f h7f h8f h9f h10t) (v9 k1 h1 rfl k2 h2 rfl h3f h4t h5t h6f h7f h8f h9f h10t) (v12 k1 h1 rfl k2 h2 rfl h3f h4t h5t h6f h7f h8f h9f h10t) (by omega) (Nat.le_of_ble_eq_true rfl) ?_
                      refine q_aload_n d288_152 rfl ?_
                      refine q_getR (x := 516) d288_153 (fs10_180 288 rfl) rfl (lt_w1 rfl) sh260 (rs260_75 R) (by decide) ?_
                      refine q_iconst (v := 0) (by decide) d288_156 ?_
                      refine q_aload_n d288_157 rfl ?_
                      refine q_getR (x := 510) d288_158 (fs10_174 288 rfl) rfl (lt_w1 rfl) sh260 (rs260_73 R) (by decide) ?_
                      refine q_iload_n d288_161 rfl ?_
                      refine q_aaload (c := 5) (a := k2) (x := (511 + k2)) d288_162 (lt_w1 rfl) sh510 (by decide) rfl (by omega) (rm510 R (by omega)) (lt1000 (lm510 (by omega))) ?_
                      refine q_iload d288_163 rfl ?_
                      refine q_iload d288_165 rfl ?_
                      refine r_copyZ (a := 0) (b := e.toNatClampNeg) (m0 := f.toNatClampNeg) d288_167 (by exact j_i7 197 rfl) (lt_w1 rfl) sh516 (lm510 (by omega)) (sm510 (by omega)) rfl (v11 k1 h1 rfl k2 h2 rfl h3f h4t h5t h6f h7f h8f h9f h10t) (v7 k1 h1 rfl k2 h2 rfl h3f h4t h5t h6f h7f h8f h9f h10t) (v9 k1 h1 rfl k2 h2 rfl h3f h4t h5t h6f h7f h8f h9f h10t) (v12 k1 h1 rfl k2 h2 rfl h3f h4t h5t h6f h7f h8f h9f h10t) (v13 k1 h1 rfl k2 h2 rfl h3f h4t h5t h6f h7f h8f h9f h10t) (by omega) (Nat.le_of_ble_eq_true rfl) ?_
                      refine q_iload d288_170 rfl ?_
                      exact q_iret d288_172 rfl (Nat.le_refl _) (Nat.le_refl _) (v14 k1 h1 rfl k2 h2 rfl h3f h4t h5t h6f h7f h8f h9f h10t)
                    ·
                      refine q_bipush (v := (-12)) (by decide) d288_97 ?_
                      exact q_iret d288_99 rfl (Nat.le_refl _) (Nat.le_refl _) (v15 k1 h1 rfl k2 h2 rfl h3f h4t h5t h6f h7f h8f h9f h10f)
          ·
            refine q_bipush (v := (-13)) (by decide) d288_53 ?_
            exact q_iret d288_55 rfl (Nat.le_refl _) (Nat.le_refl _) (v16 k1 h1 rfl k2 h2 rfl h3f h4t h5f)
        ·
          refine q_bipush (v := (-11)) (by decide) d288_35 ?_
          exact q_iret d288_37 rfl (Nat.le_refl _) (Nat.le_refl _) (v17 k1 h1 rfl k2 h2 rfl h3f h4f)
    ·
      show j_W 288 d 0 0 0 0 11 [some (.ref 260), some (.int (nI k1)), some (.int b), some (.int c), some (.int e), some (.int f)] [.int 0] w1 (I, D, RR R) Q
      refine q_if_ne (tgt := 17) d288_11 rfl (fun h => absurd h (by decide)) (fun _ => ?_)
      refine q_bipush (v := (-2)) (by decide) d288_14 ?_
      exact q_iret d288_16 rfl (Nat.le_refl _) (Nat.le_refl _) (v18 k1 h1 rfl h2)
  ·
    show j_W 288 d 0 0 0 0 4 [some (.ref 260), some (.int a), some (.int b), some (.int c), some (.int e), some (.int f)] [.int 0] w1 (I, D, RR R) Q
    refine q_if_eq (tgt := 14) d288_4 rfl (fun _ => ?_) (fun h => absurd h (by decide))
    refine q_bipush (v := (-2)) (by decide) d288_14 ?_
    exact q_iret d288_16 rfl (Nat.le_refl _) (Nat.le_refl _) (v19 h1)

set_option maxRecDepth 10000 in
set_option maxHeartbeats 4000000 in
theorem s164n {d : Nat} {I : Nat → Nat → Int32} {D : Nat → Nat → UInt64} {R : Nat → Nat → Option Nat} {Q : j_Po} {r : Nat} {b : Int32} {q : Nat} {e : Int32} {f : Int32}  (hR : WFR R) (hr : r < 4) (hq : q < 4) (hd : 1 ≤ d)
    (v1 : ((I (248 + 3 * r) 0) = (-1)) → Q (some (.int (-11))) w1 (I, D, RR R))
    (v2 : (¬ (I (248 + 3 * r) 0) = (-1)) → (¬ (I (248 + 3 * q) 0) = (-1)) → ((I (248 + 3 * r) 0) = (I (248 + 3 * q) 0)) → (f < 0) → Q (some (.int (-12))) w1 (I, D, RR R))
    (v3 : (¬ (I (248 + 3 * r) 0) = (-1)) → (¬ (I (248 + 3 * q) 0) = (-1)) → ((I (248 + 3 * r) 0) = (I (248 + 3 * q) 0)) → (¬ f < 0) → ((I (248 + 3 * r) 1) < f) → Q (some (.int (-12))) w1 (I, D, RR R))
    (v4 : (¬ (I (248 + 3 * r) 0) = (-1)) → (¬ (I (248 + 3 * q) 0) = (-1)) → ((I (248 + 3 * r) 0) = (I (248 + 3 * q) 0)) → (¬ f < 0) → (¬ (I (248 + 3 * r) 1) < f) → (b < 0) → Q (some (.int (-12))) w1 (I, D, RR R))
    (v5 : (¬ (I (248 + 3 * r) 0) = (-1)) → (¬ (I (248 + 3 * q) 0) = (-1)) → ((I (248 + 3 * r) 0) = (I (248 + 3 * q) 0)) → (¬ f < 0) → (¬ (I (248 + 3 * r) 1) < f) → (¬ b < 0) → (((I (248 + 3 * r) 1) - f) < b) → Q (some (.int (-12))) w1 (I, D, RR R))
    (v6 : (¬ (I (248 + 3 * r) 0) = (-1)) → (¬ (I (248 + 3 * q) 0) = (-1)) → ((I (248 + 3 * r) 0) = (I (248 + 3 * q) 0)) → (¬ f < 0) → (¬ (I (248 + 3 * r) 1) < f) → (¬ b < 0) → (¬ ((I (248 + 3 * r) 1) - f) < b) → ((I (248 + 3 * q) 1) < f) → Q (some (.int (-12))) w1 (I, D, RR R))
    (v7 : (¬ (I (248 + 3 * r) 0) = (-1)) → (¬ (I (248 + 3 * q) 0) = (-1)) → ((I (248 + 3 * r) 0) = (I (248 + 3 * q) 0)) → (¬ f < 0) → (¬ (I (248 + 3 * r) 1) < f) → (¬ b < 0) → (¬ ((I (248 + 3 * r) 1) - f) < b) → (¬ (I (248 + 3 * q) 1) < f) → (e < 0) → Q (some (.int (-12))) w1 (I, D, RR R))
    (v8 : (¬ (I (248 + 3 * r) 0) = (-1)) → (¬ (I (248 + 3 * q) 0) = (-1)) → ((I (248 + 3 * r) 0) = (I (248 + 3 * q) 0)) → (¬ f < 0) → (¬ (I (248 + 3 * r) 1) < f) → (¬ b < 0) → (¬ ((I (248 + 3 * r) 1) - f) < b) → (¬ (I (248 + 3 * q) 1) < f) → (¬ e < 0) → (((I (248 + 3 * q) 1) - f) < e) → Q (some (.int (-12))) w1 (I, D, RR R))
    (v9 : (¬ (I (248 + 3 * r) 0) = (-1)) → (¬ (I (248 + 3 * q) 0) = (-1)) → ((I (248 + 3 * r) 0) = (I (248 + 3 * q) 0)) → (¬ f < 0) → (¬ (I (248 + 3 * r) 1) < f) → (¬ b < 0) → (¬ ((I (248 + 3 * r) 1) - f) < b) → (¬ (I (248 + 3 * q) 1) < f) → (¬ e < 0) → (¬ ((I (248 + 3 * q) 1) - f) < e) → b = nI b.toNatClampNeg)
    (v10 : (¬ (I (248 + 3 * r) 0) = (-1)) → (¬ (I (248 + 3 * q) 0) = (-1)) → ((I (248 + 3 * r) 0) = (I (248 + 3 * q) 0)) → (¬ f < 0) → (¬ (I (248 + 3 * r) 1) < f) → (¬ b < 0) → (¬ ((I (248 + 3 * r) 1) - f) < b) → (¬ (I (248 + 3 * q) 1) < f) → (¬ e < 0) → (¬ ((I (248 + 3 * q) 1) - f) < e) → e = nI e.toNatClampNeg)
    (v11 : (¬ (I (248 + 3 * r) 0) = (-1)) → (¬ (I (248 + 3 * q) 0) = (-1)) → ((I (248 + 3 * r) 0) = (I (248 + 3 * q) 0)) → (¬ f < 0) → (¬ (I (248 + 3 * r) 1) < f) → (¬ b < 0) → (¬ ((I (248 + 3 * r) 1) - f) < b) → (¬ (I (248 + 3 * q) 1) < f) → (¬ e < 0) → (¬ ((I (248 + 3 * q) 1) - f) < e) → f = nI f.toNatClampNeg)
    (v12 : (¬ (I (248 + 3 * r) 0) = (-1)) → (¬ (I (248 + 3 * q) 0) = (-1)) → ((I (248 + 3 * r) 0) = (I (248 + 3 * q) 0)) → (¬ f < 0) → (¬ (I (248 + 3 * r) 1) < f) → (¬ b < 0) → (¬ ((I (248 + 3 * r) 1) - f) < b) → (¬ (I (248 + 3 * q) 1) < f) → (¬ e < 0) → (¬ ((I (248 + 3 * q) 1) - f) < e) → b.toNatClampNeg + f.toNatClampNeg ≤ 64)
    (v13 : (¬ (I (248 + 3 * r) 0) = (-1)) → (¬ (I (248 + 3 * q) 0) = (-1)) → ((I (248 + 3 * r) 0) = (I (248 + 3 * q) 0)) → (¬ f < 0) → (¬ (I (248 + 3 * r) 1) < f) → (¬ b < 0) → (¬ ((I (248 + 3 * r) 1) - f) < b) → (¬ (I (248 + 3 * q) 1) < f) → (¬ e < 0) → (¬ ((I (248 + 3 * q) 1) - f) < e) → e.toNatClampNeg + f.toNatClampNeg ≤ 64)
    (v14 : (¬ (I (248 + 3 * r) 0) = (-1)) → (¬ (I (248 + 3 * q) 0) = (-1)) → ((I (248 + 3 * r) 0) = (I (248 + 3 * q) 0)) → (¬ f < 0) → (¬ (I (248 + 3 * r) 1) < f) → (¬ b < 0) → (¬ ((I (248 + 3 * r) 1) - f) < b) → (¬ (I (248 + 3 * q) 1) < f) → (¬ e < 0) → (¬ ((I (248 + 3 * q) 1) - f) < e) → ∀ q, q < f.toNatClampNeg → I ((248 + 3 * r) + 2) (b.toNatClampNeg + q) = 0 ∨ I ((248 + 3 * r) + 2) (b.toNatClampNeg + q) = 1)
    (v15 : (¬ (I (248 + 3 * r) 0) = (-1)) → (¬ (I (248 + 3 * q) 0) = (-1)) → ((I (248 + 3 * r) 0) = (I (248 + 3 * q) 0)) → (¬ f < 0) → (¬ (I (248 + 3 * r) 1) < f) → (¬ b < 0) → (¬ ((I (248 + 3 * r) 1) - f) < b) → (¬ (I (248 + 3 * q) 1) < f) → (¬ e < 0) → (¬ ((I (248 + 3 * q) 1) - f) < e) → Q (some (.int f)) w1 ((j_uo I ((248 + 3 * q) + 2) (va_cpy (I ((248 + 3 * r) + 2)) (I ((248 + 3 * q) + 2)) b.toNatClampNeg e.toNatClampNeg f.toNatClampNeg)), (j_uo D ((248 + 3 * q) + 1) (va_cpy (D ((248 + 3 * r) + 1)) (D ((248 + 3 * q) + 1)) b.toNatClampNeg e.toNatClampNeg f.toNatClampNeg)), RR R))
    (v16 : (¬ (I (248 + 3 * r) 0) = (-1)) → (¬ (I (248 + 3 * q) 0) = (-1)) → (¬ (I (248 + 3 * r) 0) = (I (248 + 3 * q) 0)) → Q (some (.int (-13))) w1 (I, D, RR R))
    (v17 : (¬ (I (248 + 3 * r) 0) = (-1)) → ((I (248 + 3 * q) 0) = (-1)) → Q (some (.int (-11))) w1 (I, D, RR R)) : j_Call d 164 [.ref 0, .int (nI r), .int b, .int (nI q), .int e, .int f] w1 (I, D, RR R) 0 0 Q := by
  refine q_enter (L := [some (.ref 0), some (.int (nI r)), some (.int b), some (.int (nI q)), some (.int e), some (.int f), none, none]) j_m164 (Nat.le_of_ble_eq_true rfl) rfl ?_
  refine q_iload_n d164_0 rfl ?_
  refine q_invS (av := [.int (nI r)]) (rest := []) (d' := 0) (mc' := 0) (ms' := 0) d164_1 (cv9_216 164 rfl) rfl rfl (by omega) (Nat.le_of_ble_eq_true rfl) (Nat.le_of_ble_eq_true rfl) (Nat.le_refl _) (Nat.le_refl _) ?_
  refine r113t (by first | omega | decide)  ?_
  show j_W 164 d 0 0 0 0 4 [some (.ref 0), some (.int (nI r)), some (.int b), some (.int (nI q)), some (.int e), some (.int f), none, none] [.int 1] w1 (I, D, RR R) Q
  refine q_if_eq (tgt := 14) d164_4 rfl (fun h => absurd h (by decide)) (fun _ => ?_)
  refine q_iload_n d164_7 rfl ?_
  refine q_invS (av := [.int (nI q)]) (rest := []) (d' := 0) (mc' := 0) (ms' := 0) d164_8 (cv9_216 164 rfl) rfl rfl (by omega) (Nat.le_of_ble_eq_true rfl) (Nat.le_of_ble_eq_true rfl) (Nat.le_refl _) (Nat.le_refl _) ?_
  refine r113t (by first | omega | decide)  ?_
  show j_W 164 d 0 0 0 0 11 [some (.ref 0), some (.int (nI r)), some (.int b), some (.int (nI q)), some (.int e), some (.int f), none, none] [.int 1] w1 (I, D, RR R) Q
  refine q_if_ne (tgt := 17) d164_11 rfl (fun _ => ?_) (fun h => absurd h (by decide))
  refine q_aload_n d164_17 rfl ?_
  refine q_getR (x := 105) d164_18 (fs9_32 164 rfl) rfl (lt_w1 rfl) sh0 (rs0_7 R) (by decide) ?_
  refine q_iload_n d164_21 rfl ?_
  refine q_aaload (c := 8) (a := r) (x := (248 + 3 * r)) d164_22 (lt_w1 rfl) sh105 (by decide) rfl (by omega) (rl105 R (by omega)) (lt1000 (isRw_lt (isRw_k _ (by omega)))) ?_
  refine q_astore (L' := [some (.ref 0), some (.int (nI r)), some (.int b), some (.int (nI q)), some (.int e), some (.int f), some (.ref (248 + 3 * r)), none]) d164_23 (Nat.le_of_ble_eq_true rfl) (Nat.ne_of_lt (Nat.lt_trans (lt1000 (isRw_lt (isRw_k _ (by omega)))) (by decide))) rfl ?_
  refine q_aload_n d164_25 rfl ?_
  refine q_getR (x := 105) d164_26 (fs9_32 164 rfl) rfl (lt_w1 rfl) sh0 (rs0_7 R) (by decide) ?_
  refine q_iload_n d164_29 rfl ?_
  refine q_aaload (c := 8) (a := q) (x := (248 + 3 * q)) d164_30 (lt_w1 rfl) sh105 (by decide) rfl (by omega) (rl105 R (by omega)) (lt1000 (isRw_lt (isRw_k _ (by omega)))) ?_
  refine q_astore (L' := [some (.ref 0), some (.int (nI r)), some (.int b), some (.int (nI q)), some (.int e), some (.int f), some (.ref (248 + 3 * r)), some (.ref (248 + 3 * q))]) d164_31 (Nat.le_of_ble_eq_true rfl) (Nat.ne_of_lt (Nat.lt_trans (lt1000 (isRw_lt (isRw_k _ (by omega)))) (by decide))) rfl ?_
  refine q_aload d164_33 rfl ?_
  refine q_getI d164_35 (fs9_219 164 rfl) rfl (isRw_lt (isRw_k _ (by omega))) (isRw_sh (isRw_k _ (by omega))) ?_
  refine q_iconst (v := (-1)) (by decide) d164_38 ?_
  refine q_icmp_eq (tgt := 51) d164_39 rfl (fun h1t => ?_) (fun h1f => ?_)
  ·
    refine q_bipush (v := (-11)) (by decide) d164_51 ?_
    exact q_iret d164_53 rfl (Nat.le_refl _) (Nat.le_refl _) (v1 h1t)
  ·
    refine q_aload d164_42 rfl ?_
    refine q_getI d164_44 (fs9_219 164 rfl) rfl (isRw_lt (isRw_k _ (by omega))) (isRw_sh (isRw_k _ (by omega))) ?_
    refine q_iconst (v := (-1)) (by decide) d164_47 ?_
    refine q_icmp_ne (tgt := 54) d164_48 rfl (fun h2t => ?_) (fun h2f => ?_)
    ·
      refine q_aload d164_54 rfl ?_
      refine q_getI d164_56 (fs9_219 164 rfl) rfl (isRw_lt (isRw_k _ (by omega))) (isRw_sh (isRw_k _ (by omega))) ?_
      refine q_aload d164_59 rfl ?_
      refine q_getI d164_61 (fs9_219 164 rfl) rfl (isRw_lt (isRw_k _ (by omega))) (isRw_sh (isRw_k _ (by omega))) ?_
      refine q_icmp_eq (tgt := 70) d164_64 rfl (fun h3t => ?_) (fun h3f => ?_)
      ·
        refine q_aload d164_70 rfl ?_
        refine q_iload_n d164_72 rfl ?_
        refine q_iload d164_73 rfl ?_
        refine q_invV (o := (248 + 3 * r)) (ci := 6) (av := [.int b, .int f]) (rest := []) (d' := 0) (mc' := 0) (ms' := 0) d164_75 (cv9_222 164 rfl) rfl (by decide) rfl rfl (by omega) (Nat.le_of_ble_eq_true rfl) (Nat.le_of_ble_eq_true rfl) (isRw_lt (isRw_k _ (by omega))) (isRw_sh (isRw_k _ (by omega))) (Nat.le_refl _) (Nat.le_refl _) ?_
        refine s114 (r := (248 + 3 * r)) (isRw_k _ (by omega)) (Nat.le_refl _) (fun c4 => ?_) (fun c5 c6 => ?_) (fun c7 c8 c9 => ?_) (fun c10 c11 c12 c13 => ?_) (fun c14 c15 c16 c17 => ?_)
        ·
          show j_W 164 d 0 0 0 0 78 [some (.ref 0), some (.int (nI r)), some (.int b), some (.int (nI q)), some (.int e), some (.int f), some (.ref (248 + 3 * r)), some (.ref (248 + 3 * q))] [.int 0] w1 (I, D, RR R) Q
          refine q_if_eq (tgt := 93) d164_78 rfl (fun _ => ?_) (fun h => absurd h (by decide))
          refine q_bipush (v := (-12)) (by decide) d164_93 ?_
          exact q_iret d164_95 rfl (Nat.le_refl _) (Nat.le_refl _) (v2 h1f h2t h3t c4)
        ·
          show j_W 164 d 0 0 0 0 78 [some (.ref 0), some (.int (nI r)), some (.int b), some (.int (nI q)), some (.int e), some (.int f), some (.ref (248 + 3 * r)), some (.ref (248 + 3 * q))] [.int 0] w1 (I, D, RR R) Q
          refine q_if_eq (tgt := 93) d164_78 rfl (fun _ => ?_) (fun h => absurd h (by decide))
          refine q_bipush (v := (-12)) (by decide) d164_93 ?_
          exact q_iret d164_95 rfl (Nat.le_refl _) (Nat.le_refl _) (v3 h1f h2t h3t c5 c6)
        ·
          show j_W 164 d 0 0 0 0 78 [some (.ref 0), some (.int (nI r)), some (.int b), some (.int (nI q)), some (.int e), some (.int f), some (.ref (248 + 3 * r)), some (.ref (248 + 3 * q))] [.int 0] w1 (I, D, RR R) Q
          refine q_if_eq (tgt := 93) d164_78 rfl (fun _ => ?_) (fun h => absurd h (by decide))
          refine q_bipush (v := (-12)) (by decide) d164_93 ?_
          exact q_iret d164_95 rfl (Nat.le_refl _) (Nat.le_refl _) (v4 h1f h2t h3t c7 c8 c9)
        ·
          show j_W 164 d 0 0 0 0 78 [some (.ref 0), some (.int (nI r)), some (.int b), some (.int (nI q)), some (.int e), some (.int f), some (.ref (248 + 3 * r)), some (.ref (248 + 3 * q))] [.int 0] w1 (I, D, RR R) Q
          refine q_if_eq (tgt := 93) d164_78 rfl (fun _ => ?_) (fun h => absurd h (by decide))
          refine q_bipush (v := (-12)) (by decide) d164_93 ?_
          exact q_iret d164_95 rfl (Nat.le_refl _) (Nat.le_refl _) (v5 h1f h2t h3t c10 c11 c12 c13)
        ·
          show j_W 164 d 0 0 0 0 78 [some (.ref 0), some (.int (nI r)), some (.int b), some (.int (nI q)), some (.int e), some (.int f), some (.ref (248 + 3 * r)), some (.ref (248 + 3 * q))] [.int 1] w1 (I, D, RR R) Q
          refine q_if_eq (tgt := 93) d164_78 rfl (fun h => absurd h (by decide)) (fun _ => ?_)
          refine q_aload d164_81 rfl ?_
          refine q_iload d164_83 rfl ?_
          refine q_iload d164_85 rfl ?_
          refine q_invV (o := (248 + 3 * q)) (ci := 6) (av := [.int e, .int f]) (rest := []) (d' := 0) (mc' := 0) (ms' := 0) d164_87 (cv9_222 164 rfl) rfl (by decide) rfl rfl (by omega) (Nat.le_of_ble_eq_true rfl) (Nat.le_of_ble_eq_true rfl) (isRw_lt (isRw_k _ (by omega))) (isRw_sh (isRw_k _ (by omega))) (Nat.le_refl _) (Nat.le_refl _) ?_
          refine s114 (r := (248 + 3 * q)) (isRw_k _ (by omega)) (Nat.le_refl _) (fun c18 => False.elim (by first | exact absurd c18 c14 | exact absurd c14 c18 | exact (Int32.not_lt.mpr c18) c14 | exact (Int32.not_lt.mpr c14) c18 | exact c18 (Int32.not_le.mp c14) | exact c14 (Int32.not_le.mp c18) | omega)) (fun c19 c20 => ?_) (fun c21 c22 c23 => ?_) (fun c24 c25 c26 c27 => ?_) (fun c28 c29 c30 c31 => ?_)
          ·
            show j_W 164 d 0 0 0 0 90 [some (.ref 0), some (.int (nI r)), some (.int b), some (.int (nI q)), some (.int e), some (.int f), some (.ref (248 + 3 * r)), some (.ref (248 + 3 * q))] [.int 0] w1 (I, D, RR R) Q
            refine q_if_ne (tgt := 96) d164_90 rfl (fun h => absurd h (by decide)) (fun _ => ?_)
            refine q_bipush (v := (-12)) (by decide) d164_93 ?_
            exact q_iret d164_95 rfl (Nat.le_refl _) (Nat.le_refl _) (v6 h1f h2t h3t c14 c15 c16 c17 c20)
          ·
            show j_W 164 d 0 0 0 0 90 [some (.ref 0), some (.int (nI r)), some (.int b), some (.int (nI q)), some (.int e), some (.int f), some (.ref (248 + 3 * r)), some (.ref (248 + 3 * q))] [.int 0] w1 (I, D, RR R) Q
            refine q_if_ne (tgt := 96) d164_90 rfl (fun h => absurd h (by decide)) (fun _ => ?_)
            refine q_bipush (v := (-12)) (by decide) d164_93 ?_
            exact q_iret d164_95 rfl (Nat.le_refl _) (Nat.le_refl _) (v7 h1f h2t h3t c14 c15 c16 c17 c22 c23)
          ·
            show j_W 164 d 0 0 0 0 90 [some (.ref 0), some (.int (nI r)), some (.int b), some (.int (nI q)), some (.int e), some (.int f), some (.ref (248 + 3 * r)), some (.ref (248 + 3 * q))] [.int 0] w1 (I, D, RR R) Q
            refine q_if_ne (tgt := 96) d164_90 rfl (fun h => absurd h (by decide)) (fun _ => ?_)
            refine q_bipush (v := (-12)) (by decide) d164_93 ?_
            exact q_iret d164_95 rfl (Nat.le_refl _) (Nat.le_refl _) (v8 h1f h2t h3t c14 c15 c16 c17 c25 c26 c27)
          ·
            show j_W 164 d 0 0 0 0 90 [some (.ref 0), some (.int (nI r)), some (.int b), some (.int (nI q)), some (.int e), some (.int f), some (.ref (248 + 3 * r)), some (.ref (248 + 3 * q))] [.int 1] w1 (I, D, RR R) Q
            refine q_if_ne (tgt := 96) d164_90 rfl (fun _ => ?_) (fun h => absurd h (by decide))
            refine q_aload d164_96 rfl ?_
            refine q_getR (x := ((248 + 3 * r) + 1)) d164_98 (fs9_228 164 rfl) rfl (isRw_lt (isRw_k _ (by omega))) (isRw_sh (isRw_k _ (by omega))) (isRw_r1 R (isRw_k _ (by omega))) (lt1000 (isRw_lt1 (isRw_k _ (by omega)))) ?_
            refine q_iload_n d164_101 rfl ?_
            refine q_aload d164_102 rfl ?_
            refine q_getR (x := ((248 + 3 * q) + 1)) d164_104 (fs9_228 164 rfl) rfl (isRw_lt (isRw_k _ (by omega))) (isRw_sh (isRw_k _ (by omega))) (isRw_r1 R (isRw_k _ (by omega))) (lt1000 (isRw_lt1 (isRw_k _ (by omega)))) ?_
            refine q_iload d164_107 rfl ?_
            refine q_iload d164_109 rfl ?_
            refine r_copyD (a := b.toNatClampNeg) (b := e.toNatClampNeg) (m0 := f.toNatClampNeg) d164_111 (by exact j_i5 103 rfl) (isRw_lt1 (isRw_k _ (by omega))) (isRw_sh1 (isRw_k _ (by omega))) (isRw_lt1 (isRw_k _ (by omega))) (isRw_sh1 (isRw_k _ (by omega))) (v9 h1f h2t h3t c14 c15 c16 c17 c29 c30 c31) (v10 h1f h2t h3t c14 c15 c16 c17 c29 c30 c31) (v11 h1f h2t h3t c14 c15 c16 c17 c29 c30 c31) (v12 h1f h2t h3t c14 c15 c16 c17 c29 c30 c31) (v13 h1f h2t h3t c14 c15 c16 c17 c29 c30 c31) (by omega) (Nat.le_of_ble_eq_true rfl) ?_
            refine q_aload d164_114 rfl ?_
            refine q_getR (x := ((248 + 3 * r) + 2)) d164_116 (fs9_369 164 rfl) rfl (isRw_lt (isRw_k _ (by omega))) (isRw_sh (isRw_k _ (by omega))) (isRw_r2 R (isRw_k _ (by omega))) (lt1000 (isRw_lt2 (isRw_k _ (by omega)))) ?_
            refine q_iload_n d164_119 rfl ?_
            refine q_aload d164_120 rfl ?_
            refine q_getR (x := ((248 + 3 * q) + 2)) d164_122 (fs9_369 164 rfl) rfl (isRw_lt (isRw_k _ (by omega))) (isRw_sh (isRw_k _ (by omega))) (isRw_r2 R (isRw_k _ (by omega))) (lt1000 (isRw_lt2 (isRw_k _ (by omega)))) ?_
            refine q_iload d164_125 rfl ?_
            refine q_iload d164_127 rfl ?_
            refine r_copyZ (a := b.toNatClampNeg) (b := e.toNatClampNeg) (m0 := f.toNatClampNeg) d164_129 (by exact j_i5 103 rfl) (isRw_lt2 (isRw_k _ (by omega))) (isRw_sh2 (isRw_k _ (by omega))) (isRw_lt2 (isRw_k _ (by omega))) (isRw_sh2 (isRw_k _ (by omega))) (v9 h1f h2t h3t c14 c15 c16 c17 c29 c30 c31) (v10 h1f h2t h3t c14 c15 c16 c17 c29 c30 c31) (v11 h1f h2t h3t c14 c15 c16 c17 c29 c30 c31) (v12 h1f h2t h3t c14 c15 c16 c17 c29 c30 c31) (v13 h1f h2t h3t c14 c15 c16 c17 c29 c30 c31) (v14 h1f h2t h3t c14 c15 c16 c17 c29 c30 c31) (by omega) (Nat.le_of_ble_eq_true rfl) ?_
            refine q_iload d164_132 rfl ?_
            exact q_iret d164_134 rfl (Nat.le_refl _) (Nat.le_refl _) (v15 h1f h2t h3t c14 c15 c16 c17 c29 c30 c31)
      ·
        refine q_bipush (v := (-13)) (by decide) d164_67 ?_
        exact q_iret d164_69 rfl (Nat.le_refl _) (Nat.le_refl _) (v16 h1f h2t h3f)
    ·
      refine q_bipush (v := (-11)) (by decide) d164_51 ?_
      exact q_iret d164_53 rfl (Nat.le_refl _) (Nat.le_refl _) (v17 h1f h2f)

set_option maxRecDepth 10000 in
set_option maxHeartbeats 4000000 in
theorem s288n {d : Nat} {I : Nat → Nat → Int32} {D : Nat → Nat → UInt64} {R : Nat → Nat → Option Nat} {Q : j_Po} {r : Nat} {b : Int32} {q : Nat} {e : Int32} {f : Int32}  (hr : r < 4) (hq : q < 4) (hd : 2 ≤ d)
    (v1 : ((I 503 r) < 0) → Q (some (.int (-11))) w1 (I, D, RR R))
    (v2 : (¬ (I 503 r) < 0) → (0 ≤ (I 503 q)) → ((I 503 r) = (I 503 q)) → (f < 0) → Q (some (.int (-12))) w1 (I, D, RR R))
    (v3 : (¬ (I 503 r) < 0) → (0 ≤ (I 503 q)) → ((I 503 r) = (I 503 q)) → (¬ f < 0) → (b < 0) → Q (some (.int (-12))) w1 (I, D, RR R))
    (v4 : (¬ (I 503 r) < 0) → (0 ≤ (I 503 q)) → ((I 503 r) = (I 503 q)) → (¬ f < 0) → (¬ b < 0) → (e < 0) → Q (some (.int (-12))) w1 (I, D, RR R))
    (v5 : (¬ (I 503 r) < 0) → (0 ≤ (I 503 q)) → ((I 503 r) = (I 503 q)) → (¬ f < 0) → (¬ b < 0) → (¬ e < 0) → (((I 504 r) - f) < b) → Q (some (.int (-12))) w1 (I, D, RR R))
    (v6 : (¬ (I 503 r) < 0) → (0 ≤ (I 503 q)) → ((I 503 r) = (I 503 q)) → (¬ f < 0) → (¬ b < 0) → (¬ e < 0) → (¬ ((I 504 r) - f) < b) → (e ≤ ((I 504 q) - f)) → b = nI b.toNatClampNeg)
    (v7 : (¬ (I 503 r) < 0) → (0 ≤ (I 503 q)) → ((I 503 r) = (I 503 q)) → (¬ f < 0) → (¬ b < 0) → (¬ e < 0) → (¬ ((I 504 r) - f) < b) → (e ≤ ((I 504 q) - f)) → f = nI f.toNatClampNeg)
    (v8 : (¬ (I 503 r) < 0) → (0 ≤ (I 503 q)) → ((I 503 r) = (I 503 q)) → (¬ f < 0) → (¬ b < 0) → (¬ e < 0) → (¬ ((I 504 r) - f) < b) → (e ≤ ((I 504 q) - f)) → b.toNatClampNeg + f.toNatClampNeg ≤ 64)
    (v9 : (¬ (I 503 r) < 0) → (0 ≤ (I 503 q)) → ((I 503 r) = (I 503 q)) → (¬ f < 0) → (¬ b < 0) → (¬ e < 0) → (¬ ((I 504 r) - f) < b) → (e ≤ ((I 504 q) - f)) → 0 + f.toNatClampNeg ≤ 64)
    (v10 : (¬ (I 503 r) < 0) → (0 ≤ (I 503 q)) → ((I 503 r) = (I 503 q)) → (¬ f < 0) → (¬ b < 0) → (¬ e < 0) → (¬ ((I 504 r) - f) < b) → (e ≤ ((I 504 q) - f)) → ∀ q, q < f.toNatClampNeg → I (511 + r) (b.toNatClampNeg + q) = 0 ∨ I (511 + r) (b.toNatClampNeg + q) = 1)
    (v11 : (¬ (I 503 r) < 0) → (0 ≤ (I 503 q)) → ((I 503 r) = (I 503 q)) → (¬ f < 0) → (¬ b < 0) → (¬ e < 0) → (¬ ((I 504 r) - f) < b) → (e ≤ ((I 504 q) - f)) → e = nI e.toNatClampNeg)
    (v12 : (¬ (I 503 r) < 0) → (0 ≤ (I 503 q)) → ((I 503 r) = (I 503 q)) → (¬ f < 0) → (¬ b < 0) → (¬ e < 0) → (¬ ((I 504 r) - f) < b) → (e ≤ ((I 504 q) - f)) → e.toNatClampNeg + f.toNatClampNeg ≤ 64)
    (v13 : (¬ (I 503 r) < 0) → (0 ≤ (I 503 q)) → ((I 503 r) = (I 503 q)) → (¬ f < 0) → (¬ b < 0) → (¬ e < 0) → (¬ ((I 504 r) - f) < b) → (e ≤ ((I 504 q) - f)) → ∀ q, q < f.toNatClampNeg → (j_uo I 516 (va_cpy (I (511 + r)) (I 516) b.toNatClampNeg 0 f.toNatClampNeg)) 516 (0 + q) = 0 ∨ (j_uo I 516 (va_cpy (I (511 + r)) (I 516) b.toNatClampNeg 0 f.toNatClampNeg)) 516 (0 + q) = 1)
    (v14 : (¬ (I 503 r) < 0) → (0 ≤ (I 503 q)) → ((I 503 r) = (I 503 q)) → (¬ f < 0) → (¬ b < 0) → (¬ e < 0) → (¬ ((I 504 r) - f) < b) → (e ≤ ((I 504 q) - f)) → Q (some (.int f)) w1 ((j_uo (j_uo I 516 (va_cpy (I (511 + r)) (I 516) b.toNatClampNeg 0 f.toNatClampNeg)) (511 + q) (va_cpy ((j_uo I 516 (va_cpy (I (511 + r)) (I 516) b.toNatClampNeg 0 f.toNatClampNeg)) 516) ((j_uo I 516 (va_cpy (I (511 + r)) (I 516) b.toNatClampNeg 0 f.toNatClampNeg)) (511 + q)) 0 e.toNatClampNeg f.toNatClampNeg)), (j_uo (j_uo D 515 (va_cpy (D (506 + r)) (D 515) b.toNatClampNeg 0 f.toNatClampNeg)) (506 + q) (va_cpy ((j_uo D 515 (va_cpy (D (506 + r)) (D 515) b.toNatClampNeg 0 f.toNatClampNeg)) 515) ((j_uo D 515 (va_cpy (D (506 + r)) (D 515) b.toNatClampNeg 0 f.toNatClampNeg)) (506 + q)) 0 e.toNatClampNeg f.toNatClampNeg)), RR R))
    (v15 : (¬ (I 503 r) < 0) → (0 ≤ (I 503 q)) → ((I 503 r) = (I 503 q)) → (¬ f < 0) → (¬ b < 0) → (¬ e < 0) → (¬ ((I 504 r) - f) < b) → (¬ e ≤ ((I 504 q) - f)) → Q (some (.int (-12))) w1 (I, D, RR R))
    (v16 : (¬ (I 503 r) < 0) → (0 ≤ (I 503 q)) → (¬ (I 503 r) = (I 503 q)) → Q (some (.int (-13))) w1 (I, D, RR R))
    (v17 : (¬ (I 503 r) < 0) → (¬ 0 ≤ (I 503 q)) → Q (some (.int (-11))) w1 (I, D, RR R)) : j_Call d 288 [.ref 260, .int (nI r), .int b, .int (nI q), .int e, .int f] w1 (I, D, RR R) 0 0 Q := by
  refine q_enter (L := [some (.ref 260), some (.int (nI r)), some (.int b), some (.int (nI q)), some (.int e), some (.int f)]) j_m288 (Nat.le_of_ble_eq_true rfl) rfl ?_
  refine q_iload_n d288_0 rfl ?_
  refine q_invS (av := [.int (nI r)]) (rest := []) (d' := 1) (mc' := 0) (ms' := 0) d288_1 (cv10_488 288 rfl) rfl rfl (by omega) (Nat.le_of_ble_eq_true rfl) (Nat.le_of_ble_eq_true rfl) (Nat.le_refl _) (Nat.le_refl _) ?_
  refine r253t (by first | omega | decide) (Nat.le_refl _)  ?_
  show j_W 288 d 0 0 0 0 4 [some (.ref 260), some (.int (nI r)), some (.int b), some (.int (nI q)), some (.int e), some (.int f)] [.int 1] w1 (I, D, RR R) Q
  refine q_if_eq (tgt := 14) d288_4 rfl (fun h => absurd h (by decide)) (fun _ => ?_)
  refine q_iload_n d288_7 rfl ?_
  refine q_invS (av := [.int (nI q)]) (rest := []) (d' := 1) (mc' := 0) (ms' := 0) d288_8 (cv10_488 288 rfl) rfl rfl (by omega) (Nat.le_of_ble_eq_true rfl) (Nat.le_of_ble_eq_true rfl) (Nat.le_refl _) (Nat.le_refl _) ?_
  refine r253t (by first | omega | decide) (Nat.le_refl _)  ?_
  show j_W 288 d 0 0 0 0 11 [some (.ref 260), some (.int (nI r)), some (.int b), some (.int (nI q)), some (.int e), some (.int f)] [.int 1] w1 (I, D, RR R) Q
  refine q_if_ne (tgt := 17) d288_11 rfl (fun _ => ?_) (fun h => absurd h (by decide))
  refine q_aload_n d288_17 rfl ?_
  refine q_getR (x := 503) d288_18 (fs10_165 288 rfl) rfl (lt_w1 rfl) sh260 (rs260_70 R) (by decide) ?_
  refine q_iload_n d288_21 rfl ?_
  refine q_iaload (a := r) d288_22 (lt_w1 rfl) sh503 rfl (by omega) ?_
  refine q_if_lt (tgt := 35) d288_23 rfl (fun h1t => ?_) (fun h1f => ?_)
  ·
    refine q_bipush (v := (-11)) (by decide) d288_35 ?_
    exact q_iret d288_37 rfl (Nat.le_refl _) (Nat.le_refl _) (v1 h1t)
  ·
    refine q_aload_n d288_26 rfl ?_
    refine q_getR (x := 503) d288_27 (fs10_165 288 rfl) rfl (lt_w1 rfl) sh260 (rs260_70 R) (by decide) ?_
    refine q_iload_n d288_30 rfl ?_
    refine q_iaload (a := q) d288_31 (lt_w1 rfl) sh503 rfl (by omega) ?_
    refine q_if_ge (tgt := 38) d288_32 rfl (fun h2t => ?_) (fun h2f => ?_)
    ·
      refine q_aload_n d288_38 rfl ?_
      refine q_getR (x := 503) d288_39 (fs10_165 288 rfl) rfl (lt_w1 rfl) sh260 (rs260_70 R) (by decide) ?_
      refine q_iload_n d288_42 rfl ?_
      refine q_iaload (a := r) d288_43 (lt_w1 rfl) sh503 rfl (by omega) ?_
      refine q_aload_n d288_44 rfl ?_
      refine q_getR (x := 503) d288_45 (fs10_165 288 rfl) rfl (lt_w1 rfl) sh260 (rs260_70 R) (by decide) ?_
      refine q_iload_n d288_48 rfl ?_
      refine q_iaload (a := q) d288_49 (lt_w1 rfl) sh503 rfl (by omega) ?_
      refine q_icmp_eq (tgt := 56) d288_50 rfl (fun h3t => ?_) (fun h3f => ?_)
      ·
        refine q_iload d288_56 rfl ?_
        refine q_if_lt (tgt := 97) d288_58 rfl (fun h4t => ?_) (fun h4f => ?_)
        ·
          refine q_bipush (v := (-12)) (by decide) d288_97 ?_
          exact q_iret d288_99 rfl (Nat.le_refl _) (Nat.le_refl _) (v2 h1f h2t h3t h4t)
        ·
          refine q_iload_n d288_61 rfl ?_
          refine q_if_lt (tgt := 97) d288_62 rfl (fun h5t => ?_) (fun h5f => ?_)
          ·
            refine q_bipush (v := (-12)) (by decide) d288_97 ?_
            exact q_iret d288_99 rfl (Nat.le_refl _) (Nat.le_refl _) (v3 h1f h2t h3t h4f h5t)
          ·
            refine q_iload d288_65 rfl ?_
            refine q_if_lt (tgt := 97) d288_67 rfl (fun h6t => ?_) (fun h6f => ?_)
            ·
              refine q_bipush (v := (-12)) (by decide) d288_97 ?_
              exact q_iret d288_99 rfl (Nat.le_refl _) (Nat.le_refl _) (v4 h1f h2t h3t h4f h5f h6t)
            ·
              refine q_iload_n d288_70 rfl ?_
              refine q_aload_n d288_71 rfl ?_
              refine q_getR (x := 504) d288_72 (fs10_168 288 rfl) rfl (lt_w1 rfl) sh260 (rs260_71 R) (by decide) ?_
              refine q_iload_n d288_75 rfl ?_
              refine q_iaload (a := r) d288_76 (lt_w1 rfl) sh504 rfl (by omega) ?_
              refine q_iload d288_77 rfl ?_
              refine q_isub d288_79 ?_
              refine q_icmp_gt (tgt := 97) d288_80 rfl (fun h7t => ?_) (fun h7f => ?_)
              ·
                refine q_bipush (v := (-12)) (by decide) d288_97 ?_
                exact q_iret d288_99 rfl (Nat.le_refl _) (Nat.le_refl _) (v5 h1f h2t h3t h4f h5f h6f h7t)
              ·
                refine q_iload d288_83 rfl ?_
                refine q_aload_n d288_85 rfl ?_
                refine q_getR (x := 504) d288_86 (fs10_168 288 rfl) rfl (lt_w1 rfl) sh260 (rs260_71 R) (by decide) ?_
                refine q_iload_n d288_89 rfl ?_
                refine q_iaload (a := q) d288_90 (lt_w1 rfl) sh504 rfl (by omega) ?_
                refine q_iload d288_91 rfl ?_
                refine q_isub d288_93 ?_
                refine q_icmp_le (tgt := 100) d288_94 rfl (fun h8t => ?_) (fun h8f => ?_)
                ·
                  refine q_aload_n d288_100 rfl ?_
                  refine q_getR (x := 505) d288_101 (fs10_171 288 rfl) rfl (lt_w1 rfl) sh260 (rs260_72 R) (by decide) ?_
                  refine q_iload_n d288_104 rfl ?_
                  refine q_aaload (c := 3) (a := r) (x := (506 + r)) d288_105 (lt_w1 rfl) sh505 (by decide) rfl (by omega) (rm505 R (by omega)) (lt1000 (lm505 (by omega))) ?_
                  refine q_iload_n d288_106 rfl ?_
                  refine q_aload_n d288_107 rfl ?_
                  refine q_getR (x := 515) d288_108 (fs10_177 288 rfl) rfl (lt_w1 rfl) sh260 (rs260_74 R) (by decide) ?_
                  refine q_iconst (v := 0) (by decide) d288_111 ?_
                  refine q_iload d288_112 rfl ?_
                  refine r_copyD (a := b.toNatClampNeg) (b := 0) (m0 := f.toNatClampNeg) d288_114 (by exact j_i7 197 rfl) (lm505 (by omega)) (sm505 (by omega)) (lt_w1 rfl) sh515 (v6 h1f h2t h3t h4f h5f h6f h7f h8t) rfl (v7 h1f h2t h3t h4f h5f h6f h7f h8t) (v8 h1f h2t h3t h4f h5f h6f h7f h8t) (v9 h1f h2t h3t h4f h5f h6f h7f h8t) (by omega) (Nat.le_of_ble_eq_true rfl) ?_
                  refine q_aload_n d288_117 rfl ?_
                  refine q_getR (x := 510) d288_118 (fs10_174 288 rfl) rfl (lt_w1 rfl) sh260 (rs260_73 R) (by decide) ?_
                  refine q_iload_n d288_121 rfl ?_
                  refine q_aaload (c := 5) (a := r) (x := (511 + r)) d288_122 (lt_w1 rfl) sh510 (by decide) rfl (by omega) (rm510 R (by omega)) (lt1000 (lm510 (by omega))) ?_
                  refine q_iload_n d288_123 rfl ?_
                  refine q_aload_n d288_124 rfl ?_
                  refine q_getR (x := 516) d288_125 (fs10_180 288 rfl) rfl (lt_w1 rfl) sh260 (rs260_75 R) (by decide) ?_
                  refine q_iconst (v := 0) (by decide) d288_128 ?_
                  refine q_iload d288_129 rfl ?_
                  refine r_copyZ (a := b.toNatClampNeg) (b := 0) (m0 := f.toNatClampNeg) d288_131 (by exact j_i7 197 rfl) (lm510 (by omega)) (sm510 (by omega)) (lt_w1 rfl) sh516 (v6 h1f h2t h3t h4f h5f h6f h7f h8t) rfl (v7 h1f h2t h3t h4f h5f h6f h7f h8t) (v8 h1f h2t h3t h4f h5f h6f h7f h8t) (v9 h1f h2t h3t h4f h5f h6f h7f h8t) (v10 h1f h2t h3t h4f h5f h6f h7f h8t) (by omega) (Nat.le_of_ble_eq_true rfl) ?_
                  refine q_aload_n d288_134 rfl ?_
                  refine q_getR (x := 515) d288_135 (fs10_177 288 rfl) rfl (lt_w1 rfl) sh260 (rs260_74 R) (by decide) ?_
                  refine q_iconst (v := 0) (by decide) d288_138 ?_
                  refine q_aload_n d288_139 rfl ?_
                  refine q_getR (x := 505) d288_140 (fs10_171 288 rfl) rfl (lt_w1 rfl) sh260 (rs260_72 R) (by decide) ?_
                  refine q_iload_n d288_143 rfl ?_
                  refine q_aaload (c := 3) (a := q) (x := (506 + q)) d288_144 (lt_w1 rfl) sh505 (by decide) rfl (by omega) (rm505 R (by omega)) (lt1000 (lm505 (by omega))) ?_
                  refine q_iload d288_145 rfl ?_
                  refine q_iload d288_147 rfl ?_
                  refine r_copyD (a := 0) (b := e.toNatClampNeg) (m0 := f.toNatClampNeg) d288_149 (by exact j_i7 197 rfl) (lt_w1 rfl) sh515 (lm505 (by omega)) (sm505 (by omega)) rfl (v11 h1f h2t h3t h4f h5f h6f h7f h8t) (v7 h1f h2t h3t h4f h5f h6f h7f h8t) (v9 h1f h2t h3t h4f h5f h6f h7f h8t) (v12 h1f h2t h3t h4f h5f h6f h7f h8t) (by omega) (Nat.le_of_ble_eq_true rfl) ?_
                  refine q_aload_n d288_152 rfl ?_
                  refine q_getR (x := 516) d288_153 (fs10_180 288 rfl) rfl (lt_w1 rfl) sh260 (rs260_75 R) (by decide) ?_
                  refine q_iconst (v := 0) (by decide) d288_156 ?_
                  refine q_aload_n d288_157 rfl ?_
                  refine q_getR (x := 510) d288_158 (fs10_174 288 rfl) rfl (lt_w1 rfl) sh260 (rs260_73 R) (by decide) ?_
                  refine q_iload_n d288_161 rfl ?_
                  refine q_aaload (c := 5) (a := q) (x := (511 + q)) d288_162 (lt_w1 rfl) sh510 (by decide) rfl (by omega) (rm510 R (by omega)) (lt1000 (lm510 (by omega))) ?_
                  refine q_iload d288_163 rfl ?_
                  refine q_iload d288_165 rfl ?_
                  refine r_copyZ (a := 0) (b := e.toNatClampNeg) (m0 := f.toNatClampNeg) d288_167 (by exact j_i7 197 rfl) (lt_w1 rfl) sh516 (lm510 (by omega)) (sm510 (by omega)) rfl (v11 h1f h2t h3t h4f h5f h6f h7f h8t) (v7 h1f h2t h3t h4f h5f h6f h7f h8t) (v9 h1f h2t h3t h4f h5f h6f h7f h8t) (v12 h1f h2t h3t h4f h5f h6f h7f h8t) (v13 h1f h2t h3t h4f h5f h6f h7f h8t) (by omega) (Nat.le_of_ble_eq_true rfl) ?_
                  refine q_iload d288_170 rfl ?_
                  exact q_iret d288_172 rfl (Nat.le_refl _) (Nat.le_refl _) (v14 h1f h2t h3t h4f h5f h6f h7f h8t)
                ·
                  refine q_bipush (v := (-12)) (by decide) d288_97 ?_
                  exact q_iret d288_99 rfl (Nat.le_refl _) (Nat.le_refl _) (v15 h1f h2t h3t h4f h5f h6f h7f h8f)
      ·
        refine q_bipush (v := (-13)) (by decide) d288_53 ?_
        exact q_iret d288_55 rfl (Nat.le_refl _) (Nat.le_refl _) (v16 h1f h2t h3f)
    ·
      refine q_bipush (v := (-11)) (by decide) d288_35 ?_
      exact q_iret d288_37 rfl (Nat.le_refl _) (Nat.le_refl _) (v17 h1f h2f)

theorem va_cpy_in {α : Type} (f g : Nat → α) {a b n k : Nat} (h1 : b ≤ k) (h2 : k < b + n) : va_cpy f g a b n k = f (a + (k - b)) := by
  unfold va_cpy
  first | (rw [if_pos ⟨h1, h2⟩]; done) | (rw [if_pos ⟨h1, h2⟩]; congr 1; omega)
theorem va_cpy_out {α : Type} (f g : Nat → α) {a b n k : Nat} (h : ¬ (b ≤ k ∧ k < b + n)) : va_cpy f g a b n k = g k := by
  unfold va_cpy
  rw [if_neg h]
theorem j_uo_o {α : Type} (f : Nat → Nat → α) {o o' : Nat} (v : Nat → α) (h : o' ≠ o) : j_uo f o v o' = f o' := by
  unfold j_uo
  first | exact if_neg h | (funext k; exact if_neg h)
theorem cp_ok {n : Nat} {b f : Int32} (hn : n ≤ 64) (h1 : ¬ f < 0) (h2 : ¬ b < 0) (h3 : ¬ (nI n - f) < b) : ∃ i m, b = nI i ∧ f = nI m ∧ i + m ≤ n := by
  obtain ⟨i, hi, rfl⟩ := nI_of h2
  obtain ⟨m, hm, rfl⟩ := nI_of h1
  refine ⟨i, m, rfl, rfl, ?_⟩
  have hb2 : Int.bmod ((n : Int) - (m : Int)) (2 ^ 32) = (n : Int) - (m : Int) := by
    rw [Int.bmod_def]
    omega
  rw [Int32.lt_iff_toInt_lt, Int32.toInt_sub, nI_toInt (by omega : n < 2 ^ 31), nI_toInt hm, nI_toInt hi, hb2] at h3
  omega
theorem cp_of {n i m : Nat} (hn : n ≤ 64) (h : i + m ≤ n) : ¬ nI m < 0 ∧ ¬ nI n < nI m ∧ ¬ nI i < 0 ∧ ¬ (nI n - nI m) < nI i := by
  refine ⟨fun h => ?_, fun h => ?_, fun h => ?_, fun h => ?_⟩
  · exact absurd ((nI_ltI (b := 0) (by omega) (by omega)).mp h) (by omega)
  · exact absurd ((nI_ltI (by omega) (by omega)).mp h) (by omega)
  · exact absurd ((nI_ltI (b := 0) (by omega) (by omega)).mp h) (by omega)
  · rw [Int32.lt_iff_toInt_lt, pk_sub_toInt (by omega) (by omega), nI_toInt (by omega)] at h
    omega
theorem pair_copy {σ : j_I3} {a b c e f : Int32} (h : rowsR σ) (hR : WFR σ.2.2) : Pair 164 288 [.int a, .int b, .int c, .int e, .int f] σ (fun σ2 => rowsR σ2 ∧ same rowsP σ σ2) := by
  show j_Call lD 164 [.ref 0, .int a, .int b, .int c, .int e, .int f] w1 (σ.1, σ.2.1, RR σ.2.2) 0 0 (PEnd 288 [.int a, .int b, .int c, .int e, .int f] _)
  have hT : rowsR σ ∧ same rowsP σ σ := ⟨h, same.rf⟩
  by_cases ha : ∃ k : Nat, k < 4 ∧ a = nI k
  case neg => exact s164 hR lD1 (fun k1 h2 h3 k2 h5 h6 h7 => absurd ⟨k1, h2, h3⟩ ha) (fun k1 h2 h3 k2 h5 h6 h7 h8 h9 h10 => absurd ⟨k1, h2, h3⟩ ha) (fun k1 h2 h3 k2 h5 h6 h7 h8 h9 h10 h11 => absurd ⟨k1, h2, h3⟩ ha) (fun k1 h2 h3 k2 h5 h6 h7 h8 h9 h10 h11 h12 => absurd ⟨k1, h2, h3⟩ ha) (fun k1 h2 h3 k2 h5 h6 h7 h8 h9 h10 h11 h12 h13 => absurd ⟨k1, h2, h3⟩ ha) (fun k1 h2 h3 k2 h5 h6 h7 h8 h9 h10 h11 h12 h13 h14 => absurd ⟨k1, h2, h3⟩ ha) (fun k1 h2 h3 k2 h5 h6 h7 h8 h9 h10 h11 h12 h13 h14 h15 => absurd ⟨k1, h2, h3⟩ ha) (fun k1 h2 h3 k2 h5 h6 h7 h8 h9 h10 h11 h12 h13 h14 h15 h16 => absurd ⟨k1, h2, h3⟩ ha) (fun k1 h2 h3 k2 h5 h6 h7 h8 h9 h10 h11 h12 h13 h14 h15 h16 => absurd ⟨k1, h2, h3⟩ ha) (fun k1 h2 h3 k2 h5 h6 h7 h8 h9 h10 h11 h12 h13 h14 h15 h16 => absurd ⟨k1, h2, h3⟩ ha) (fun k1 h2 h3 k2 h5 h6 h7 h8 h9 h10 h11 h12 h13 h14 h15 h16 => absurd ⟨k1, h2, h3⟩ ha) (fun k1 h2 h3 k2 h5 h6 h7 h8 h9 h10 h11 h12 h13 h14 h15 h16 => absurd ⟨k1, h2, h3⟩ ha) (fun k1 h2 h3 k2 h5 h6 h7 h8 h9 h10 h11 h12 h13 h14 h15 h16 => absurd ⟨k1, h2, h3⟩ ha) (fun k1 h2 h3 k2 h5 h6 h7 h8 h9 h10 h11 h12 h13 h14 h15 h16 => absurd ⟨k1, h2, h3⟩ ha) (fun k1 h2 h3 k2 h5 h6 h7 h8 h9 h10 h11 h12 h13 h14 h15 h16 => absurd ⟨k1, h2, h3⟩ ha) (fun k1 h2 h3 k2 h5 h6 h7 h8 h9 => absurd ⟨k1, h2, h3⟩ ha) (fun k1 h2 h3 k2 h5 h6 h7 h8 => absurd ⟨k1, h2, h3⟩ ha) (fun k1 h2 h3 h4 => absurd ⟨k1, h2, h3⟩ ha) (fun h1 => pend_same hT (s288 lD2 (fun k1 h2 h3 k2 h5 h6 h7 => absurd ⟨k1, h2, h3⟩ ha) (fun k1 h2 h3 k2 h5 h6 h7 h8 h9 h10 => absurd ⟨k1, h2, h3⟩ ha) (fun k1 h2 h3 k2 h5 h6 h7 h8 h9 h10 h11 => absurd ⟨k1, h2, h3⟩ ha) (fun k1 h2 h3 k2 h5 h6 h7 h8 h9 h10 h11 h12 => absurd ⟨k1, h2, h3⟩ ha) (fun k1 h2 h3 k2 h5 h6 h7 h8 h9 h10 h11 h12 h13 => absurd ⟨k1, h2, h3⟩ ha) (fun k1 h2 h3 k2 h5 h6 h7 h8 h9 h10 h11 h12 h13 h14 => absurd ⟨k1, h2, h3⟩ ha) (fun k1 h2 h3 k2 h5 h6 h7 h8 h9 h10 h11 h12 h13 h14 => absurd ⟨k1, h2, h3⟩ ha) (fun k1 h2 h3 k2 h5 h6 h7 h8 h9 h10 h11 h12 h13 h14 => absurd ⟨k1, h2, h3⟩ ha) (fun k1 h2 h3 k2 h5 h6 h7 h8 h9 h10 h11 h12 h13 h14 => absurd ⟨k1, h2, h3⟩ ha) (fun k1 h2 h3 k2 h5 h6 h7 h8 h9 h10 h11 h12 h13 h14 => absurd ⟨k1, h2, h3⟩ ha) (fun k1 h2 h3 k2 h5 h6 h7 h8 h9 h10 h11 h12 h13 h14 => absurd ⟨k1, h2, h3⟩ ha) (fun k1 h2 h3 k2 h5 h6 h7 h8 h9 h10 h11 h12 h13 h14 => absurd ⟨k1, h2, h3⟩ ha) (fun k1 h2 h3 k2 h5 h6 h7 h8 h9 h10 h11 h12 h13 h14 => absurd ⟨k1, h2, h3⟩ ha) (fun k1 h2 h3 k2 h5 h6 h7 h8 h9 h10 h11 h12 h13 h14 => absurd ⟨k1, h2, h3⟩ ha) (fun k1 h2 h3 k2 h5 h6 h7 h8 h9 h10 h11 h12 h13 h14 => absurd ⟨k1, h2, h3⟩ ha) (fun k1 h2 h3 k2 h5 h6 h7 h8 h9 => absurd ⟨k1, h2, h3⟩ ha) (fun k1 h2 h3 k2 h5 h6 h7 h8 => absurd ⟨k1, h2, h3⟩ ha) (fun k1 h2 h3 h4 => absurd ⟨k1, h2, h3⟩ ha) (fun h1 => ⟨rfl, rfl, rfl⟩)))
  by_cases hc : ∃ k : Nat, k < 4 ∧ c = nI k
  case neg => exact s164 hR lD1 (fun k1 h2 h3 k2 h5 h6 h7 => absurd ⟨k2, h5, h6⟩ hc) (fun k1 h2 h3 k2 h5 h6 h7 h8 h9 h10 => absurd ⟨k2, h5, h6⟩ hc) (fun k1 h2 h3 k2 h5 h6 h7 h8 h9 h10 h11 => absurd ⟨k2, h5, h6⟩ hc) (fun k1 h2 h3 k2 h5 h6 h7 h8 h9 h10 h11 h12 => absurd ⟨k2, h5, h6⟩ hc) (fun k1 h2 h3 k2 h5 h6 h7 h8 h9 h10 h11 h12 h13 => absurd ⟨k2, h5, h6⟩ hc) (fun k1 h2 h3 k2 h5 h6 h7 h8 h9 h10 h11 h12 h13 h14 => absurd ⟨k2, h5, h6⟩ hc) (fun k1 h2 h3 k2 h5 h6 h7 h8 h9 h10 h11 h12 h13 h14 h15 => absurd ⟨k2, h5, h6⟩ hc) (fun k1 h2 h3 k2 h5 h6 h7 h8 h9 h10 h11 h12 h13 h14 h15 h16 => absurd ⟨k2, h5, h6⟩ hc) (fun k1 h2 h3 k2 h5 h6 h7 h8 h9 h10 h11 h12 h13 h14 h15 h16 => absurd ⟨k2, h5, h6⟩ hc) (fun k1 h2 h3 k2 h5 h6 h7 h8 h9 h10 h11 h12 h13 h14 h15 h16 => absurd ⟨k2, h5, h6⟩ hc) (fun k1 h2 h3 k2 h5 h6 h7 h8 h9 h10 h11 h12 h13 h14 h15 h16 => absurd ⟨k2, h5, h6⟩ hc) (fun k1 h2 h3 k2 h5 h6 h7 h8 h9 h10 h11 h12 h13 h14 h15 h16 => absurd ⟨k2, h5, h6⟩ hc) (fun k1 h2 h3 k2 h5 h6 h7 h8 h9 h10 h11 h12 h13 h14 h15 h16 => absurd ⟨k2, h5, h6⟩ hc) (fun k1 h2 h3 k2 h5 h6 h7 h8 h9 h10 h11 h12 h13 h14 h15 h16 => absurd ⟨k2, h5, h6⟩ hc) (fun k1 h2 h3 k2 h5 h6 h7 h8 h9 h10 h11 h12 h13 h14 h15 h16 => absurd ⟨k2, h5, h6⟩ hc) (fun k1 h2 h3 k2 h5 h6 h7 h8 h9 => absurd ⟨k2, h5, h6⟩ hc) (fun k1 h2 h3 k2 h5 h6 h7 h8 => absurd ⟨k2, h5, h6⟩ hc) (fun k1 h2 h3 h4 => pend_same hT (s288 lD2 (fun k1 h2 h3 k2 h5 h6 h7 => absurd ⟨k2, h5, h6⟩ hc) (fun k1 h2 h3 k2 h5 h6 h7 h8 h9 h10 => absurd ⟨k2, h5, h6⟩ hc) (fun k1 h2 h3 k2 h5 h6 h7 h8 h9 h10 h11 => absurd ⟨k2, h5, h6⟩ hc) (fun k1 h2 h3 k2 h5 h6 h7 h8 h9 h10 h11 h12 => absurd ⟨k2, h5, h6⟩ hc) (fun k1 h2 h3 k2 h5 h6 h7 h8 h9 h10 h11 h12 h13 => absurd ⟨k2, h5, h6⟩ hc) (fun k1 h2 h3 k2 h5 h6 h7 h8 h9 h10 h11 h12 h13 h14 => absurd ⟨k2, h5, h6⟩ hc) (fun k1 h2 h3 k2 h5 h6 h7 h8 h9 h10 h11 h12 h13 h14 => absurd ⟨k2, h5, h6⟩ hc) (fun k1 h2 h3 k2 h5 h6 h7 h8 h9 h10 h11 h12 h13 h14 => absurd ⟨k2, h5, h6⟩ hc) (fun k1 h2 h3 k2 h5 h6 h7 h8 h9 h10 h11 h12 h13 h14 => absurd ⟨k2, h5, h6⟩ hc) (fun k1 h2 h3 k2 h5 h6 h7 h8 h9 h10 h11 h12 h13 h14 => absurd ⟨k2, h5, h6⟩ hc) (fun k1 h2 h3 k2 h5 h6 h7 h8 h9 h10 h11 h12 h13 h14 => absurd ⟨k2, h5, h6⟩ hc) (fun k1 h2 h3 k2 h5 h6 h7 h8 h9 h10 h11 h12 h13 h14 => absurd ⟨k2, h5, h6⟩ hc) (fun k1 h2 h3 k2 h5 h6 h7 h8 h9 h10 h11 h12 h13 h14 => absurd ⟨k2, h5, h6⟩ hc) (fun k1 h2 h3 k2 h5 h6 h7 h8 h9 h10 h11 h12 h13 h14 => absurd ⟨k2, h5, h6⟩ hc) (fun k1 h2 h3 k2 h5 h6 h7 h8 h9 h10 h11 h12 h13 h14 => absurd ⟨k2, h5, h6⟩ hc) (fun k1 h2 h3 k2 h5 h6 h7 h8 h9 => absurd ⟨k2, h5, h6⟩ hc) (fun k1 h2 h3 k2 h5 h6 h7 h8 => absurd ⟨k2, h5, h6⟩ hc) (fun k1 h2 h3 h4 => ⟨rfl, rfl, rfl⟩) (fun h1 => False.elim (by first | exact absurd h1 ((not_not_intro ha)) | exact absurd ((not_not_intro ha)) h1 | exact (Int32.not_lt.mpr h1) ((not_not_intro ha)) | exact (Int32.not_lt.mpr ((not_not_intro ha))) h1 | exact h1 (Int32.not_le.mp ((not_not_intro ha))) | exact ((not_not_intro ha)) (Int32.not_le.mp h1) | omega)))) (fun h1 => False.elim (by first | exact absurd h1 ((not_not_intro ha)) | exact absurd ((not_not_intro ha)) h1 | exact (Int32.not_lt.mpr h1) ((not_not_intro ha)) | exact (Int32.not_lt.mpr ((not_not_intro ha))) h1 | exact h1 (Int32.not_le.mp ((not_not_intro ha))) | exact ((not_not_intro ha)) (Int32.not_le.mp h1) | omega))
  obtain ⟨r, hr, rfl⟩ := ha
  obtain ⟨q, hq, rfl⟩ := hc
  obtain ⟨n, hn, hs1, hs3, hs, hz, hz2, hit⟩ := h r hr
  obtain ⟨n', hn', hs1', hs3', hs', hz', hz2', hit'⟩ := h q hq
  by_cases hm : σ.1 503 r = -1
  case pos =>
    have cA : σ.1 (248 + 3 * r) 0 = (-1) := hs.trans hm
    have mA : σ.1 503 r < 0 := by rw [hm]; decide
    exact s164n hR hr hq lD1 (fun h1 => pend_same hT (s288n hr hq lD2 (fun h1 => ⟨rfl, rfl, rfl⟩) (fun h1 h2 h3 h4 => False.elim (by first | exact absurd h1 mA | exact absurd mA h1 | exact (Int32.not_lt.mpr h1) mA | exact (Int32.not_lt.mpr mA) h1 | exact h1 (Int32.not_le.mp mA) | exact mA (Int32.not_le.mp h1) | omega)) (fun h1 h2 h3 h4 h5 => False.elim (by first | exact absurd h1 mA | exact absurd mA h1 | exact (Int32.not_lt.mpr h1) mA | exact (Int32.not_lt.mpr mA) h1 | exact h1 (Int32.not_le.mp mA) | exact mA (Int32.not_le.mp h1) | omega)) (fun h1 h2 h3 h4 h5 h6 => False.elim (by first | exact absurd h1 mA | exact absurd mA h1 | exact (Int32.not_lt.mpr h1) mA | exact (Int32.not_lt.mpr mA) h1 | exact h1 (Int32.not_le.mp mA) | exact mA (Int32.not_le.mp h1) | omega)) (fun h1 h2 h3 h4 h5 h6 h7 => False.elim (by first | exact absurd h1 mA | exact absurd mA h1 | exact (Int32.not_lt.mpr h1) mA | exact (Int32.not_lt.mpr mA) h1 | exact h1 (Int32.not_le.mp mA) | exact mA (Int32.not_le.mp h1) | omega)) (fun h1 h2 h3 h4 h5 h6 h7 h8 => False.elim (by first | exact absurd h1 mA | exact absurd mA h1 | exact (Int32.not_lt.mpr h1) mA | exact (Int32.not_lt.mpr mA) h1 | exact h1 (Int32.not_le.mp mA) | exact mA (Int32.not_le.mp h1) | omega)) (fun h1 h2 h3 h4 h5 h6 h7 h8 => False.elim (by first | exact absurd h1 mA | exact absurd mA h1 | exact (Int32.not_lt.mpr h1) mA | exact (Int32.not_lt.mpr mA) h1 | exact h1 (Int32.not_le.mp mA) | exact mA (Int32.not_le.mp h1) | omega)) (fun h1 h2 h3 h4 h5 h6 h7 h8 => False.elim (by first | exact absurd h1 mA | exact absurd mA h1 | exact (Int32.not_lt.mpr h1) mA | exact (Int32.not_lt.mpr mA) h1 | exact h1 (Int32.not_le.mp mA) | exact mA (Int32.not_le.mp h1) | omega)) (fun h1 h2 h3 h4 h5 h6 h7 h8 => False.elim (by first | exact absurd h1 mA | exact absurd mA h1 | exact (Int32.not_lt.mpr h1) mA | exact (Int32.not_lt.mpr mA) h1 | exact h1 (Int32.not_le.mp mA) | exact mA (Int32.not_le.mp h1) | omega)) (fun h1 h2 h3 h4 h5 h6 h7 h8 => False.elim (by first | exact absurd h1 mA | exact absurd mA h1 | exact (Int32.not_lt.mpr h1) mA | exact (Int32.not_lt.mpr mA) h1 | exact h1 (Int32.not_le.mp mA) | exact mA (Int32.not_le.mp h1) | omega)) (fun h1 h2 h3 h4 h5 h6 h7 h8 => False.elim (by first | exact absurd h1 mA | exact absurd mA h1 | exact (Int32.not_lt.mpr h1) mA | exact (Int32.not_lt.mpr mA) h1 | exact h1 (Int32.not_le.mp mA) | exact mA (Int32.not_le.mp h1) | omega)) (fun h1 h2 h3 h4 h5 h6 h7 h8 => False.elim (by first | exact absurd h1 mA | exact absurd mA h1 | exact (Int32.not_lt.mpr h1) mA | exact (Int32.not_lt.mpr mA) h1 | exact h1 (Int32.not_le.mp mA) | exact mA (Int32.not_le.mp h1) | omega)) (fun h1 h2 h3 h4 h5 h6 h7 h8 => False.elim (by first | exact absurd h1 mA | exact absurd mA h1 | exact (Int32.not_lt.mpr h1) mA | exact (Int32.not_lt.mpr mA) h1 | exact h1 (Int32.not_le.mp mA) | exact mA (Int32.not_le.mp h1) | omega)) (fun h1 h2 h3 h4 h5 h6 h7 h8 => False.elim (by first | exact absurd h1 mA | exact absurd mA h1 | exact (Int32.not_lt.mpr h1) mA | exact (Int32.not_lt.mpr mA) h1 | exact h1 (Int32.not_le.mp mA) | exact mA (Int32.not_le.mp h1) | omega)) (fun h1 h2 h3 h4 h5 h6 h7 h8 => False.elim (by first | exact absurd h1 mA | exact absurd mA h1 | exact (Int32.not_lt.mpr h1) mA | exact (Int32.not_lt.mpr mA) h1 | exact h1 (Int32.not_le.mp mA) | exact mA (Int32.not_le.mp h1) | omega)) (fun h1 h2 h3 => False.elim (by first | exact absurd h1 mA | exact absurd mA h1 | exact (Int32.not_lt.mpr h1) mA | exact (Int32.not_lt.mpr mA) h1 | exact h1 (Int32.not_le.mp mA) | exact mA (Int32.not_le.mp h1) | omega)) (fun h1 h2 => False.elim (by first | exact absurd h1 mA | exact absurd mA h1 | exact (Int32.not_lt.mpr h1) mA | exact (Int32.not_lt.mpr mA) h1 | exact h1 (Int32.not_le.mp mA) | exact mA (Int32.not_le.mp h1) | omega)))) (fun h1 h2 h3 h4 => False.elim (by first | exact absurd h1 cA | exact absurd cA h1 | exact (Int32.not_lt.mpr h1) cA | exact (Int32.not_lt.mpr cA) h1 | exact h1 (Int32.not_le.mp cA) | exact cA (Int32.not_le.mp h1) | omega)) (fun h1 h2 h3 h4 h5 => False.elim (by first | exact absurd h1 cA | exact absurd cA h1 | exact (Int32.not_lt.mpr h1) cA | exact (Int32.not_lt.mpr cA) h1 | exact h1 (Int32.not_le.mp cA) | exact cA (Int32.not_le.mp h1) | omega)) (fun h1 h2 h3 h4 h5 h6 => False.elim (by first | exact absurd h1 cA | exact absurd cA h1 | exact (Int32.not_lt.mpr h1) cA | exact (Int32.not_lt.mpr cA) h1 | exact h1 (Int32.not_le.mp cA) | exact cA (Int32.not_le.mp h1) | omega)) (fun h1 h2 h3 h4 h5 h6 h7 => False.elim (by first | exact absurd h1 cA | exact absurd cA h1 | exact (Int32.not_lt.mpr h1) cA | exact (Int32.not_lt.mpr cA) h1 | exact h1 (Int32.not_le.mp cA) | exact cA (Int32.not_le.mp h1) | omega)) (fun h1 h2 h3 h4 h5 h6 h7 h8 => False.elim (by first | exact absurd h1 cA | exact absurd cA h1 | exact (Int32.not_lt.mpr h1) cA | exact (Int32.not_lt.mpr cA) h1 | exact h1 (Int32.not_le.mp cA) | exact cA (Int32.not_le.mp h1) | omega)) (fun h1 h2 h3 h4 h5 h6 h7 h8 h9 => False.elim (by first | exact absurd h1 cA | exact absurd cA h1 | exact (Int32.not_lt.mpr h1) cA | exact (Int32.not_lt.mpr cA) h1 | exact h1 (Int32.not_le.mp cA) | exact cA (Int32.not_le.mp h1) | omega)) (fun h1 h2 h3 h4 h5 h6 h7 h8 h9 h10 => False.elim (by first | exact absurd h1 cA | exact absurd cA h1 | exact (Int32.not_lt.mpr h1) cA | exact (Int32.not_lt.mpr cA) h1 | exact h1 (Int32.not_le.mp cA) | exact cA (Int32.not_le.mp h1) | omega)) (fun h1 h2 h3 h4 h5 h6 h7 h8 h9 h10 => False.elim (by first | exact absurd h1 cA | exact absurd cA h1 | exact (Int32.not_lt.mpr h1) cA | exact (Int32.not_lt.mpr cA) h1 | exact h1 (Int32.not_le.mp cA) | exact cA (Int32.not_le.mp h1) | omega)) (fun h1 h2 h3 h4 h5 h6 h7 h8 h9 h10 => False.elim (by first | exact absurd h1 cA | exact absurd cA h1 | exact (Int32.not_lt.mpr h1) cA | exact (Int32.not_lt.mpr cA) h1 | exact h1 (Int32.not_le.mp cA) | exact cA (Int32.not_le.mp h1) | omega)) (fun h1 h2 h3 h4 h5 h6 h7 h8 h9 h10 => False.elim (by first | exact absurd h1 cA | exact absurd cA h1 | exact (Int32.not_lt.mpr h1) cA | exact (Int32.not_lt.mpr cA) h1 | exact h1 (Int32.not_le.mp cA) | exact cA (Int32.not_le.mp h1) | omega)) (fun h1 h2 h3 h4 h5 h6 h7 h8 h9 h10 => False.elim (by first | exact absurd h1 cA | exact absurd cA h1 | exact (Int32.not_lt.mpr h1) cA | exact (Int32.not_lt.mpr cA) h1 | exact h1 (Int32.not_le.mp cA) | exact cA (Int32.not_le.mp h1) | omega)) (fun h1 h2 h3 h4 h5 h6 h7 h8 h9 h10 => False.elim (by first | exact absurd h1 cA | exact absurd cA h1 | exact (Int32.not_lt.mpr h1) cA | exact (Int32.not_lt.mpr cA) h1 | exact h1 (Int32.not_le.mp cA) | exact cA (Int32.not_le.mp h1) | omega)) (fun h1 h2 h3 h4 h5 h6 h7 h8 h9 h10 => False.elim (by first | exact absurd h1 cA | exact absurd cA h1 | exact (Int32.not_lt.mpr h1) cA | exact (Int32.not_lt.mpr cA) h1 | exact h1 (Int32.not_le.mp cA) | exact cA (Int32.not_le.mp h1) | omega)) (fun h1 h2 h3 h4 h5 h6 h7 h8 h9 h10 => False.elim (by first | exact absurd h1 cA | exact absurd cA h1 | exact (Int32.not_lt.mpr h1) cA | exact (Int32.not_lt.mpr cA) h1 | exact h1 (Int32.not_le.mp cA) | exact cA (Int32.not_le.mp h1) | omega)) (fun h1 h2 h3 => False.elim (by first | exact absurd h1 cA | exact absurd cA h1 | exact (Int32.not_lt.mpr h1) cA | exact (Int32.not_lt.mpr cA) h1 | exact h1 (Int32.not_le.mp cA) | exact cA (Int32.not_le.mp h1) | omega)) (fun h1 h2 => False.elim (by first | exact absurd h1 cA | exact absurd cA h1 | exact (Int32.not_lt.mpr h1) cA | exact (Int32.not_lt.mpr cA) h1 | exact h1 (Int32.not_le.mp cA) | exact cA (Int32.not_le.mp h1) | omega))
  have cA : ¬ σ.1 (248 + 3 * r) 0 = (-1) := fun q => hm (hs.symm.trans q)
  have mA : ¬ σ.1 503 r < 0 := fun q => hm (i_m1 hs1 q)
  by_cases hm' : σ.1 503 q = -1
  case pos =>
    have cB : σ.1 (248 + 3 * q) 0 = (-1) := hs'.trans hm'
    have mB : ¬ 0 ≤ σ.1 503 q := by rw [hm']; decide
    exact s164n hR hr hq lD1 (fun h1 => False.elim (by first | exact absurd h1 cA | exact absurd cA h1 | exact (Int32.not_lt.mpr h1) cA | exact (Int32.not_lt.mpr cA) h1 | exact h1 (Int32.not_le.mp cA) | exact cA (Int32.not_le.mp h1) | omega)) (fun h1 h2 h3 h4 => False.elim (by first | exact absurd h2 cB | exact absurd cB h2 | exact (Int32.not_lt.mpr h2) cB | exact (Int32.not_lt.mpr cB) h2 | exact h2 (Int32.not_le.mp cB) | exact cB (Int32.not_le.mp h2) | omega)) (fun h1 h2 h3 h4 h5 => False.elim (by first | exact absurd h2 cB | exact absurd cB h2 | exact (Int32.not_lt.mpr h2) cB | exact (Int32.not_lt.mpr cB) h2 | exact h2 (Int32.not_le.mp cB) | exact cB (Int32.not_le.mp h2) | omega)) (fun h1 h2 h3 h4 h5 h6 => False.elim (by first | exact absurd h2 cB | exact absurd cB h2 | exact (Int32.not_lt.mpr h2) cB | exact (Int32.not_lt.mpr cB) h2 | exact h2 (Int32.not_le.mp cB) | exact cB (Int32.not_le.mp h2) | omega)) (fun h1 h2 h3 h4 h5 h6 h7 => False.elim (by first | exact absurd h2 cB | exact absurd cB h2 | exact (Int32.not_lt.mpr h2) cB | exact (Int32.not_lt.mpr cB) h2 | exact h2 (Int32.not_le.mp cB) | exact cB (Int32.not_le.mp h2) | omega)) (fun h1 h2 h3 h4 h5 h6 h7 h8 => False.elim (by first | exact absurd h2 cB | exact absurd cB h2 | exact (Int32.not_lt.mpr h2) cB | exact (Int32.not_lt.mpr cB) h2 | exact h2 (Int32.not_le.mp cB) | exact cB (Int32.not_le.mp h2) | omega)) (fun h1 h2 h3 h4 h5 h6 h7 h8 h9 => False.elim (by first | exact absurd h2 cB | exact absurd cB h2 | exact (Int32.not_lt.mpr h2) cB | exact (Int32.not_lt.mpr cB) h2 | exact h2 (Int32.not_le.mp cB) | exact cB (Int32.not_le.mp h2) | omega)) (fun h1 h2 h3 h4 h5 h6 h7 h8 h9 h10 => False.elim (by first | exact absurd h2 cB | exact absurd cB h2 | exact (Int32.not_lt.mpr h2) cB | exact (Int32.not_lt.mpr cB) h2 | exact h2 (Int32.not_le.mp cB) | exact cB (Int32.not_le.mp h2) | omega)) (fun h1 h2 h3 h4 h5 h6 h7 h8 h9 h10 => False.elim (by first | exact absurd h2 cB | exact absurd cB h2 | exact (Int32.not_lt.mpr h2) cB | exact (Int32.not_lt.mpr cB) h2 | exact h2 (Int32.not_le.mp cB) | exact cB (Int32.not_le.mp h2) | omega)) (fun h1 h2 h3 h4 h5 h6 h7 h8 h9 h10 => False.elim (by first | exact absurd h2 cB | exact absurd cB h2 | exact (Int32.not_lt.mpr h2) cB | exact (Int32.not_lt.mpr cB) h2 | exact h2 (Int32.not_le.mp cB) | exact cB (Int32.not_le.mp h2) | omega)) (fun h1 h2 h3 h4 h5 h6 h7 h8 h9 h10 => False.elim (by first | exact absurd h2 cB | exact absurd cB h2 | exact (Int32.not_lt.mpr h2) cB | exact (Int32.not_lt.mpr cB) h2 | exact h2 (Int32.not_le.mp cB) | exact cB (Int32.not_le.mp h2) | omega)) (fun h1 h2 h3 h4 h5 h6 h7 h8 h9 h10 => False.elim (by first | exact absurd h2 cB | exact absurd cB h2 | exact (Int32.not_lt.mpr h2) cB | exact (Int32.not_lt.mpr cB) h2 | exact h2 (Int32.not_le.mp cB) | exact cB (Int32.not_le.mp h2) | omega)) (fun h1 h2 h3 h4 h5 h6 h7 h8 h9 h10 => False.elim (by first | exact absurd h2 cB | exact absurd cB h2 | exact (Int32.not_lt.mpr h2) cB | exact (Int32.not_lt.mpr cB) h2 | exact h2 (Int32.not_le.mp cB) | exact cB (Int32.not_le.mp h2) | omega)) (fun h1 h2 h3 h4 h5 h6 h7 h8 h9 h10 => False.elim (by first | exact absurd h2 cB | exact absurd cB h2 | exact (Int32.not_lt.mpr h2) cB | exact (Int32.not_lt.mpr cB) h2 | exact h2 (Int32.not_le.mp cB) | exact cB (Int32.not_le.mp h2) | omega)) (fun h1 h2 h3 h4 h5 h6 h7 h8 h9 h10 => False.elim (by first | exact absurd h2 cB | exact absurd cB h2 | exact (Int32.not_lt.mpr h2) cB | exact (Int32.not_lt.mpr cB) h2 | exact h2 (Int32.not_le.mp cB) | exact cB (Int32.not_le.mp h2) | omega)) (fun h1 h2 h3 => False.elim (by first | exact absurd h2 cB | exact absurd cB h2 | exact (Int32.not_lt.mpr h2) cB | exact (Int32.not_lt.mpr cB) h2 | exact h2 (Int32.not_le.mp cB) | exact cB (Int32.not_le.mp h2) | omega)) (fun h1 h2 => pend_same hT (s288n hr hq lD2 (fun h1 => False.elim (by first | exact absurd h1 mA | exact absurd mA h1 | exact (Int32.not_lt.mpr h1) mA | exact (Int32.not_lt.mpr mA) h1 | exact h1 (Int32.not_le.mp mA) | exact mA (Int32.not_le.mp h1) | omega)) (fun h1 h2 h3 h4 => False.elim (by first | exact absurd h2 mB | exact absurd mB h2 | exact (Int32.not_lt.mpr h2) mB | exact (Int32.not_lt.mpr mB) h2 | exact h2 (Int32.not_le.mp mB) | exact mB (Int32.not_le.mp h2) | omega)) (fun h1 h2 h3 h4 h5 => False.elim (by first | exact absurd h2 mB | exact absurd mB h2 | exact (Int32.not_lt.mpr h2) mB | exact (Int32.not_lt.mpr mB) h2 | exact h2 (Int32.not_le.mp mB) | exact mB (Int32.not_le.mp h2) | omega)) (fun h1 h2 h3 h4 h5 h6 => False.elim (by first | exact absurd h2 mB | exact absurd mB h2 | exact (Int32.not_lt.mpr h2) mB | exact (Int32.not_lt.mpr mB) h2 | exact h2 (Int32.not_le.mp mB) | exact mB (Int32.not_le.mp h2) | omega)) (fun h1 h2 h3 h4 h5 h6 h7 => False.elim (by first | exact absurd h2 mB | exact absurd mB h2 | exact (Int32.not_lt.mpr h2) mB | exact (Int32.not_lt.mpr mB) h2 | exact h2 (Int32.not_le.mp mB) | exact mB (Int32.not_le.mp h2) | omega)) (fun h1 h2 h3 h4 h5 h6 h7 h8 => False.elim (by first | exact absurd h2 mB | exact absurd mB h2 | exact (Int32.not_lt.mpr h2) mB | exact (Int32.not_lt.mpr mB) h2 | exact h2 (Int32.not_le.mp mB) | exact mB (Int32.not_le.mp h2) | omega)) (fun h1 h2 h3 h4 h5 h6 h7 h8 => False.elim (by first | exact absurd h2 mB | exact absurd mB h2 | exact (Int32.not_lt.mpr h2) mB | exact (Int32.not_lt.mpr mB) h2 | exact h2 (Int32.not_le.mp mB) | exact mB (Int32.not_le.mp h2) | omega)) (fun h1 h2 h3 h4 h5 h6 h7 h8 => False.elim (by first | exact absurd h2 mB | exact absurd mB h2 | exact (Int32.not_lt.mpr h2) mB | exact (Int32.not_lt.mpr mB) h2 | exact h2 (Int32.not_le.mp mB) | exact mB (Int32.not_le.mp h2) | omega)) (fun h1 h2 h3 h4 h5 h6 h7 h8 => False.elim (by first | exact absurd h2 mB | exact absurd mB h2 | exact (Int32.not_lt.mpr h2) mB | exact (Int32.not_lt.mpr mB) h2 | exact h2 (Int32.not_le.mp mB) | exact mB (Int32.not_le.mp h2) | omega)) (fun h1 h2 h3 h4 h5 h6 h7 h8 => False.elim (by first | exact absurd h2 mB | exact absurd mB h2 | exact (Int32.not_lt.mpr h2) mB | exact (Int32.not_lt.mpr mB) h2 | exact h2 (Int32.not_le.mp mB) | exact mB (Int32.not_le.mp h2) | omega)) (fun h1 h2 h3 h4 h5 h6 h7 h8 => False.elim (by first | exact absurd h2 mB | exact absurd mB h2 | exact (Int32.not_lt.mpr h2) mB | exact (Int32.not_lt.mpr mB) h2 | exact h2 (Int32.not_le.mp mB) | exact mB (Int32.not_le.mp h2) | omega)) (fun h1 h2 h3 h4 h5 h6 h7 h8 => False.elim (by first | exact absurd h2 mB | exact absurd mB h2 | exact (Int32.not_lt.mpr h2) mB | exact (Int32.not_lt.mpr mB) h2 | exact h2 (Int32.not_le.mp mB) | exact mB (Int32.not_le.mp h2) | omega)) (fun h1 h2 h3 h4 h5 h6 h7 h8 => False.elim (by first | exact absurd h2 mB | exact absurd mB h2 | exact (Int32.not_lt.mpr h2) mB | exact (Int32.not_lt.mpr mB) h2 | exact h2 (Int32.not_le.mp mB) | exact mB (Int32.not_le.mp h2) | omega)) (fun h1 h2 h3 h4 h5 h6 h7 h8 => False.elim (by first | exact absurd h2 mB | exact absurd mB h2 | exact (Int32.not_lt.mpr h2) mB | exact (Int32.not_lt.mpr mB) h2 | exact h2 (Int32.not_le.mp mB) | exact mB (Int32.not_le.mp h2) | omega)) (fun h1 h2 h3 h4 h5 h6 h7 h8 => False.elim (by first | exact absurd h2 mB | exact absurd mB h2 | exact (Int32.not_lt.mpr h2) mB | exact (Int32.not_lt.mpr mB) h2 | exact h2 (Int32.not_le.mp mB) | exact mB (Int32.not_le.mp h2) | omega)) (fun h1 h2 h3 => False.elim (by first | exact absurd h2 mB | exact absurd mB h2 | exact (Int32.not_lt.mpr h2) mB | exact (Int32.not_lt.mpr mB) h2 | exact h2 (Int32.not_le.mp mB) | exact mB (Int32.not_le.mp h2) | omega)) (fun h1 h2 => ⟨rfl, rfl, rfl⟩)))
  have cB : ¬ σ.1 (248 + 3 * q) 0 = (-1) := fun z => hm' (hs'.symm.trans z)
  have mB : 0 ≤ σ.1 503 q := Classical.not_not.mp (mt (sort_neg hs1').mpr hm')
  by_cases hE : σ.1 503 r = σ.1 503 q
  case neg =>
    have cE : ¬ σ.1 (248 + 3 * r) 0 = σ.1 (248 + 3 * q) 0 := by rw [hs, hs']; exact hE
    exact s164n hR hr hq lD1 (fun h1 => False.elim (by first | exact absurd h1 cA | exact absurd cA h1 | exact (Int32.not_lt.mpr h1) cA | exact (Int32.not_lt.mpr cA) h1 | exact h1 (Int32.not_le.mp cA) | exact cA (Int32.not_le.mp h1) | omega)) (fun h1 h2 h3 h4 => False.elim (by first | exact absurd h3 cE | exact absurd cE h3 | exact (Int32.not_lt.mpr h3) cE | exact (Int32.not_lt.mpr cE) h3 | exact h3 (Int32.not_le.mp cE) | exact cE (Int32.not_le.mp h3) | omega)) (fun h1 h2 h3 h4 h5 => False.elim (by first | exact absurd h3 cE | exact absurd cE h3 | exact (Int32.not_lt.mpr h3) cE | exact (Int32.not_lt.mpr cE) h3 | exact h3 (Int32.not_le.mp cE) | exact cE (Int32.not_le.mp h3) | omega)) (fun h1 h2 h3 h4 h5 h6 => False.elim (by first | exact absurd h3 cE | exact absurd cE h3 | exact (Int32.not_lt.mpr h3) cE | exact (Int32.not_lt.mpr cE) h3 | exact h3 (Int32.not_le.mp cE) | exact cE (Int32.not_le.mp h3) | omega)) (fun h1 h2 h3 h4 h5 h6 h7 => False.elim (by first | exact absurd h3 cE | exact absurd cE h3 | exact (Int32.not_lt.mpr h3) cE | exact (Int32.not_lt.mpr cE) h3 | exact h3 (Int32.not_le.mp cE) | exact cE (Int32.not_le.mp h3) | omega)) (fun h1 h2 h3 h4 h5 h6 h7 h8 => False.elim (by first | exact absurd h3 cE | exact absurd cE h3 | exact (Int32.not_lt.mpr h3) cE | exact (Int32.not_lt.mpr cE) h3 | exact h3 (Int32.not_le.mp cE) | exact cE (Int32.not_le.mp h3) | omega)) (fun h1 h2 h3 h4 h5 h6 h7 h8 h9 => False.elim (by first | exact absurd h3 cE | exact absurd cE h3 | exact (Int32.not_lt.mpr h3) cE | exact (Int32.not_lt.mpr cE) h3 | exact h3 (Int32.not_le.mp cE) | exact cE (Int32.not_le.mp h3) | omega)) (fun h1 h2 h3 h4 h5 h6 h7 h8 h9 h10 => False.elim (by first | exact absurd h3 cE | exact absurd cE h3 | exact (Int32.not_lt.mpr h3) cE | exact (Int32.not_lt.mpr cE) h3 | exact h3 (Int32.not_le.mp cE) | exact cE (Int32.not_le.mp h3) | omega)) (fun h1 h2 h3 h4 h5 h6 h7 h8 h9 h10 => False.elim (by first | exact absurd h3 cE | exact absurd cE h3 | exact (Int32.not_lt.mpr h3) cE | exact (Int32.not_lt.mpr cE) h3 | exact h3 (Int32.not_le.mp cE) | exact cE (Int32.not_le.mp h3) | omega)) (fun h1 h2 h3 h4 h5 h6 h7 h8 h9 h10 => False.elim (by first | exact absurd h3 cE | exact absurd cE h3 | exact (Int32.not_lt.mpr h3) cE | exact (Int32.not_lt.mpr cE) h3 | exact h3 (Int32.not_le.mp cE) | exact cE (Int32.not_le.mp h3) | omega)) (fun h1 h2 h3 h4 h5 h6 h7 h8 h9 h10 => False.elim (by first | exact absurd h3 cE | exact absurd cE h3 | exact (Int32.not_lt.mpr h3) cE | exact (Int32.not_lt.mpr cE) h3 | exact h3 (Int32.not_le.mp cE) | exact cE (Int32.not_le.mp h3) | omega)) (fun h1 h2 h3 h4 h5 h6 h7 h8 h9 h10 => False.elim (by first | exact absurd h3 cE | exact absurd cE h3 | exact (Int32.not_lt.mpr h3) cE | exact (Int32.not_lt.mpr cE) h3 | exact h3 (Int32.not_le.mp cE) | exact cE (Int32.not_le.mp h3) | omega)) (fun h1 h2 h3 h4 h5 h6 h7 h8 h9 h10 => False.elim (by first | exact absurd h3 cE | exact absurd cE h3 | exact (Int32.not_lt.mpr h3) cE | exact (Int32.not_lt.mpr cE) h3 | exact h3 (Int32.not_le.mp cE) | exact cE (Int32.not_le.mp h3) | omega)) (fun h1 h2 h3 h4 h5 h6 h7 h8 h9 h10 => False.elim (by first | exact absurd h3 cE | exact absurd cE h3 | exact (Int32.not_lt.mpr h3) cE | exact (Int32.not_lt.mpr cE) h3 | exact h3 (Int32.not_le.mp cE) | exact cE (Int32.not_le.mp h3) | omega)) (fun h1 h2 h3 h4 h5 h6 h7 h8 h9 h10 => False.elim (by first | exact absurd h3 cE | exact absurd cE h3 | exact (Int32.not_lt.mpr h3) cE | exact (Int32.not_lt.mpr cE) h3 | exact h3 (Int32.not_le.mp cE) | exact cE (Int32.not_le.mp h3) | omega)) (fun h1 h2 h3 => pend_same hT (s288n hr hq lD2 (fun h1 => False.elim (by first | exact absurd h1 mA | exact absurd mA h1 | exact (Int32.not_lt.mpr h1) mA | exact (Int32.not_lt.mpr mA) h1 | exact h1 (Int32.not_le.mp mA) | exact mA (Int32.not_le.mp h1) | omega)) (fun h1 h2 h3 h4 => False.elim (by first | exact absurd h3 hE | exact absurd hE h3 | exact (Int32.not_lt.mpr h3) hE | exact (Int32.not_lt.mpr hE) h3 | exact h3 (Int32.not_le.mp hE) | exact hE (Int32.not_le.mp h3) | omega)) (fun h1 h2 h3 h4 h5 => False.elim (by first | exact absurd h3 hE | exact absurd hE h3 | exact (Int32.not_lt.mpr h3) hE | exact (Int32.not_lt.mpr hE) h3 | exact h3 (Int32.not_le.mp hE) | exact hE (Int32.not_le.mp h3) | omega)) (fun h1 h2 h3 h4 h5 h6 => False.elim (by first | exact absurd h3 hE | exact absurd hE h3 | exact (Int32.not_lt.mpr h3) hE | exact (Int32.not_lt.mpr hE) h3 | exact h3 (Int32.not_le.mp hE) | exact hE (Int32.not_le.mp h3) | omega)) (fun h1 h2 h3 h4 h5 h6 h7 => False.elim (by first | exact absurd h3 hE | exact absurd hE h3 | exact (Int32.not_lt.mpr h3) hE | exact (Int32.not_lt.mpr hE) h3 | exact h3 (Int32.not_le.mp hE) | exact hE (Int32.not_le.mp h3) | omega)) (fun h1 h2 h3 h4 h5 h6 h7 h8 => False.elim (by first | exact absurd h3 hE | exact absurd hE h3 | exact (Int32.not_lt.mpr h3) hE | exact (Int32.not_lt.mpr hE) h3 | exact h3 (Int32.not_le.mp hE) | exact hE (Int32.not_le.mp h3) | omega)) (fun h1 h2 h3 h4 h5 h6 h7 h8 => False.elim (by first | exact absurd h3 hE | exact absurd hE h3 | exact (Int32.not_lt.mpr h3) hE | exact (Int32.not_lt.mpr hE) h3 | exact h3 (Int32.not_le.mp hE) | exact hE (Int32.not_le.mp h3) | omega)) (fun h1 h2 h3 h4 h5 h6 h7 h8 => False.elim (by first | exact absurd h3 hE | exact absurd hE h3 | exact (Int32.not_lt.mpr h3) hE | exact (Int32.not_lt.mpr hE) h3 | exact h3 (Int32.not_le.mp hE) | exact hE (Int32.not_le.mp h3) | omega)) (fun h1 h2 h3 h4 h5 h6 h7 h8 => False.elim (by first | exact absurd h3 hE | exact absurd hE h3 | exact (Int32.not_lt.mpr h3) hE | exact (Int32.not_lt.mpr hE) h3 | exact h3 (Int32.not_le.mp hE) | exact hE (Int32.not_le.mp h3) | omega)) (fun h1 h2 h3 h4 h5 h6 h7 h8 => False.elim (by first | exact absurd h3 hE | exact absurd hE h3 | exact (Int32.not_lt.mpr h3) hE | exact (Int32.not_lt.mpr hE) h3 | exact h3 (Int32.not_le.mp hE) | exact hE (Int32.not_le.mp h3) | omega)) (fun h1 h2 h3 h4 h5 h6 h7 h8 => False.elim (by first | exact absurd h3 hE | exact absurd hE h3 | exact (Int32.not_lt.mpr h3) hE | exact (Int32.not_lt.mpr hE) h3 | exact h3 (Int32.not_le.mp hE) | exact hE (Int32.not_le.mp h3) | omega)) (fun h1 h2 h3 h4 h5 h6 h7 h8 => False.elim (by first | exact absurd h3 hE | exact absurd hE h3 | exact (Int32.not_lt.mpr h3) hE | exact (Int32.not_lt.mpr hE) h3 | exact h3 (Int32.not_le.mp hE) | exact hE (Int32.not_le.mp h3) | omega)) (fun h1 h2 h3 h4 h5 h6 h7 h8 => False.elim (by first | exact absurd h3 hE | exact absurd hE h3 | exact (Int32.not_lt.mpr h3) hE | exact (Int32.not_lt.mpr hE) h3 | exact h3 (Int32.not_le.mp hE) | exact hE (Int32.not_le.mp h3) | omega)) (fun h1 h2 h3 h4 h5 h6 h7 h8 => False.elim (by first | exact absurd h3 hE | exact absurd hE h3 | exact (Int32.not_lt.mpr h3) hE | exact (Int32.not_lt.mpr hE) h3 | exact h3 (Int32.not_le.mp hE) | exact hE (Int32.not_le.mp h3) | omega)) (fun h1 h2 h3 h4 h5 h6 h7 h8 => False.elim (by first | exact absurd h3 hE | exact absurd hE h3 | exact (Int32.not_lt.mpr h3) hE | exact (Int32.not_lt.mpr hE) h3 | exact h3 (Int32.not_le.mp hE) | exact hE (Int32.not_le.mp h3) | omega)) (fun h1 h2 h3 => ⟨rfl, rfl, rfl⟩) (fun h1 h2 => False.elim (by first | exact absurd h2 mB | exact absurd mB h2 | exact (Int32.not_lt.mpr h2) mB | exact (Int32.not_lt.mpr mB) h2 | exact h2 (Int32.not_le.mp mB) | exact mB (Int32.not_le.mp h2) | omega)))) (fun h1 h2 => False.elim (by first | exact absurd h2 cB | exact absurd cB h2 | exact (Int32.not_lt.mpr h2) cB | exact (Int32.not_lt.mpr cB) h2 | exact h2 (Int32.not_le.mp cB) | exact cB (Int32.not_le.mp h2) | omega))
  have cE : σ.1 (248 + 3 * r) 0 = σ.1 (248 + 3 * q) 0 := by rw [hs, hs']; exact hE
  by_cases hok : ∃ i j m : Nat, b = nI i ∧ e = nI j ∧ f = nI m ∧ i + m ≤ n ∧ j + m ≤ n'
  case neg =>
    have hbad : ∀ {P : Prop}, ¬ f < 0 → ¬ b < 0 → ¬ ((σ.1 (248 + 3 * r) 1) - f) < b → ¬ f < 0 → ¬ e < 0 → ¬ ((σ.1 (248 + 3 * q) 1) - f) < e → P := fun x1 x2 x3 _ x5 x6 => by
      rw [hz] at x3
      rw [hz'] at x6
      obtain ⟨i, m, rfl, rfl, y1⟩ := cp_ok hn x1 x2 x3
      obtain ⟨j, m2, rfl, y3, y4⟩ := cp_ok hn' x1 x5 x6
      have y5 : m = m2 := (nI_eqN (by omega) (by omega)).mp y3
      exact absurd ⟨i, j, m, rfl, rfl, rfl, y1, by omega⟩ hok
    have hbad2 : ∀ {P : Prop}, ¬ f < 0 → ¬ b < 0 → ¬ ((σ.1 504 r) - f) < b → ¬ e < 0 → e ≤ ((σ.1 504 q) - f) → P := fun x1 x2 x3 x5 x6 => hbad x1 x2 (by rw [hz, ← hz2]; exact x3) x1 x5 (by rw [hz', ← hz2']; exact Int32.not_lt.mpr x6)
    exact s164n hR hr hq lD1 (fun h1 => False.elim (by first | exact absurd h1 cA | exact absurd cA h1 | exact (Int32.not_lt.mpr h1) cA | exact (Int32.not_lt.mpr cA) h1 | exact h1 (Int32.not_le.mp cA) | exact cA (Int32.not_le.mp h1) | omega)) (fun h1 h2 h3 h4 => pend_same hT (s288n hr hq lD2 (fun h1 => False.elim (by first | exact absurd h1 mA | exact absurd mA h1 | exact (Int32.not_lt.mpr h1) mA | exact (Int32.not_lt.mpr mA) h1 | exact h1 (Int32.not_le.mp mA) | exact mA (Int32.not_le.mp h1) | omega)) (fun h1 h2 h3 h4 => ⟨rfl, rfl, rfl⟩) (fun h1 h2 h3 h4 h5 => ⟨rfl, rfl, rfl⟩) (fun h1 h2 h3 h4 h5 h6 => ⟨rfl, rfl, rfl⟩) (fun h1 h2 h3 h4 h5 h6 h7 => ⟨rfl, rfl, rfl⟩) (fun h1 h2 h3 h4 h5 h6 h7 h8 => hbad2 h4 h5 h7 h6 h8) (fun h1 h2 h3 h4 h5 h6 h7 h8 => hbad2 h4 h5 h7 h6 h8) (fun h1 h2 h3 h4 h5 h6 h7 h8 => hbad2 h4 h5 h7 h6 h8) (fun h1 h2 h3 h4 h5 h6 h7 h8 => hbad2 h4 h5 h7 h6 h8) (fun h1 h2 h3 h4 h5 h6 h7 h8 => hbad2 h4 h5 h7 h6 h8) (fun h1 h2 h3 h4 h5 h6 h7 h8 => hbad2 h4 h5 h7 h6 h8) (fun h1 h2 h3 h4 h5 h6 h7 h8 => hbad2 h4 h5 h7 h6 h8) (fun h1 h2 h3 h4 h5 h6 h7 h8 => hbad2 h4 h5 h7 h6 h8) (fun h1 h2 h3 h4 h5 h6 h7 h8 => hbad2 h4 h5 h7 h6 h8) (fun h1 h2 h3 h4 h5 h6 h7 h8 => ⟨rfl, rfl, rfl⟩) (fun h1 h2 h3 => False.elim (by first | exact absurd h3 hE | exact absurd hE h3 | exact (Int32.not_lt.mpr h3) hE | exact (Int32.not_lt.mpr hE) h3 | exact h3 (Int32.not_le.mp hE) | exact hE (Int32.not_le.mp h3) | omega)) (fun h1 h2 => False.elim (by first | exact absurd h2 mB | exact absurd mB h2 | exact (Int32.not_lt.mpr h2) mB | exact (Int32.not_lt.mpr mB) h2 | exact h2 (Int32.not_le.mp mB) | exact mB (Int32.not_le.mp h2) | omega)))) (fun h1 h2 h3 h4 h5 => pend_same hT (s288n hr hq lD2 (fun h1 => False.elim (by first | exact absurd h1 mA | exact absurd mA h1 | exact (Int32.not_lt.mpr h1) mA | exact (Int32.not_lt.mpr mA) h1 | exact h1 (Int32.not_le.mp mA) | exact mA (Int32.not_le.mp h1) | omega)) (fun h1 h2 h3 h4 => ⟨rfl, rfl, rfl⟩) (fun h1 h2 h3 h4 h5 => ⟨rfl, rfl, rfl⟩) (fun h1 h2 h3 h4 h5 h6 => ⟨rfl, rfl, rfl⟩) (fun h1 h2 h3 h4 h5 h6 h7 => ⟨rfl, rfl, rfl⟩) (fun h1 h2 h3 h4 h5 h6 h7 h8 => hbad2 h4 h5 h7 h6 h8) (fun h1 h2 h3 h4 h5 h6 h7 h8 => hbad2 h4 h5 h7 h6 h8) (fun h1 h2 h3 h4 h5 h6 h7 h8 => hbad2 h4 h5 h7 h6 h8) (fun h1 h2 h3 h4 h5 h6 h7 h8 => hbad2 h4 h5 h7 h6 h8) (fun h1 h2 h3 h4 h5 h6 h7 h8 => hbad2 h4 h5 h7 h6 h8) (fun h1 h2 h3 h4 h5 h6 h7 h8 => hbad2 h4 h5 h7 h6 h8) (fun h1 h2 h3 h4 h5 h6 h7 h8 => hbad2 h4 h5 h7 h6 h8) (fun h1 h2 h3 h4 h5 h6 h7 h8 => hbad2 h4 h5 h7 h6 h8) (fun h1 h2 h3 h4 h5 h6 h7 h8 => hbad2 h4 h5 h7 h6 h8) (fun h1 h2 h3 h4 h5 h6 h7 h8 => ⟨rfl, rfl, rfl⟩) (fun h1 h2 h3 => False.elim (by first | exact absurd h3 hE | exact absurd hE h3 | exact (Int32.not_lt.mpr h3) hE | exact (Int32.not_lt.mpr hE) h3 | exact h3 (Int32.not_le.mp hE) | exact hE (Int32.not_le.mp h3) | omega)) (fun h1 h2 => False.elim (by first | exact absurd h2 mB | exact absurd mB h2 | exact (Int32.not_lt.mpr h2) mB | exact (Int32.not_lt.mpr mB) h2 | exact h2 (Int32.not_le.mp mB) | exact mB (Int32.not_le.mp h2) | omega)))) (fun h1 h2 h3 h4 h5 h6 => pend_same hT (s288n hr hq lD2 (fun h1 => False.elim (by first | exact absurd h1 mA | exact absurd mA h1 | exact (Int32.not_lt.mpr h1) mA | exact (Int32.not_lt.mpr mA) h1 | exact h1 (Int32.not_le.mp mA) | exact mA (Int32.not_le.mp h1) | omega)) (fun h1 h2 h3 h4 => ⟨rfl, rfl, rfl⟩) (fun h1 h2 h3 h4 h5 => ⟨rfl, rfl, rfl⟩) (fun h1 h2 h3 h4 h5 h6 => ⟨rfl, rfl, rfl⟩) (fun h1 h2 h3 h4 h5 h6 h7 => ⟨rfl, rfl, rfl⟩) (fun h1 h2 h3 h4 h5 h6 h7 h8 => hbad2 h4 h5 h7 h6 h8) (fun h1 h2 h3 h4 h5 h6 h7 h8 => hbad2 h4 h5 h7 h6 h8) (fun h1 h2 h3 h4 h5 h6 h7 h8 => hbad2 h4 h5 h7 h6 h8) (fun h1 h2 h3 h4 h5 h6 h7 h8 => hbad2 h4 h5 h7 h6 h8) (fun h1 h2 h3 h4 h5 h6 h7 h8 => hbad2 h4 h5 h7 h6 h8) (fun h1 h2 h3 h4 h5 h6 h7 h8 => hbad2 h4 h5 h7 h6 h8) (fun h1 h2 h3 h4 h5 h6 h7 h8 => hbad2 h4 h5 h7 h6 h8) (fun h1 h2 h3 h4 h5 h6 h7 h8 => hbad2 h4 h5 h7 h6 h8) (fun h1 h2 h3 h4 h5 h6 h7 h8 => hbad2 h4 h5 h7 h6 h8) (fun h1 h2 h3 h4 h5 h6 h7 h8 => ⟨rfl, rfl, rfl⟩) (fun h1 h2 h3 => False.elim (by first | exact absurd h3 hE | exact absurd hE h3 | exact (Int32.not_lt.mpr h3) hE | exact (Int32.not_lt.mpr hE) h3 | exact h3 (Int32.not_le.mp hE) | exact hE (Int32.not_le.mp h3) | omega)) (fun h1 h2 => False.elim (by first | exact absurd h2 mB | exact absurd mB h2 | exact (Int32.not_lt.mpr h2) mB | exact (Int32.not_lt.mpr mB) h2 | exact h2 (Int32.not_le.mp mB) | exact mB (Int32.not_le.mp h2) | omega)))) (fun h1 h2 h3 h4 h5 h6 h7 => pend_same hT (s288n hr hq lD2 (fun h1 => False.elim (by first | exact absurd h1 mA | exact absurd mA h1 | exact (Int32.not_lt.mpr h1) mA | exact (Int32.not_lt.mpr mA) h1 | exact h1 (Int32.not_le.mp mA) | exact mA (Int32.not_le.mp h1) | omega)) (fun h1 h2 h3 h4 => ⟨rfl, rfl, rfl⟩) (fun h1 h2 h3 h4 h5 => ⟨rfl, rfl, rfl⟩) (fun h1 h2 h3 h4 h5 h6 => ⟨rfl, rfl, rfl⟩) (fun h1 h2 h3 h4 h5 h6 h7 => ⟨rfl, rfl, rfl⟩) (fun h1 h2 h3 h4 h5 h6 h7 h8 => hbad2 h4 h5 h7 h6 h8) (fun h1 h2 h3 h4 h5 h6 h7 h8 => hbad2 h4 h5 h7 h6 h8) (fun h1 h2 h3 h4 h5 h6 h7 h8 => hbad2 h4 h5 h7 h6 h8) (fun h1 h2 h3 h4 h5 h6 h7 h8 => hbad2 h4 h5 h7 h6 h8) (fun h1 h2 h3 h4 h5 h6 h7 h8 => hbad2 h4 h5 h7 h6 h8) (fun h1 h2 h3 h4 h5 h6 h7 h8 => hbad2 h4 h5 h7 h6 h8) (fun h1 h2 h3 h4 h5 h6 h7 h8 => hbad2 h4 h5 h7 h6 h8) (fun h1 h2 h3 h4 h5 h6 h7 h8 => hbad2 h4 h5 h7 h6 h8) (fun h1 h2 h3 h4 h5 h6 h7 h8 => hbad2 h4 h5 h7 h6 h8) (fun h1 h2 h3 h4 h5 h6 h7 h8 => ⟨rfl, rfl, rfl⟩) (fun h1 h2 h3 => False.elim (by first | exact absurd h3 hE | exact absurd hE h3 | exact (Int32.not_lt.mpr h3) hE | exact (Int32.not_lt.mpr hE) h3 | exact h3 (Int32.not_le.mp hE) | exact hE (Int32.not_le.mp h3) | omega)) (fun h1 h2 => False.elim (by first | exact absurd h2 mB | exact absurd mB h2 | exact (Int32.not_lt.mpr h2) mB | exact (Int32.not_lt.mpr mB) h2 | exact h2 (Int32.not_le.mp mB) | exact mB (Int32.not_le.mp h2) | omega)))) (fun h1 h2 h3 h4 h5 h6 h7 h8 => pend_same hT (s288n hr hq lD2 (fun h1 => False.elim (by first | exact absurd h1 mA | exact absurd mA h1 | exact (Int32.not_lt.mpr h1) mA | exact (Int32.not_lt.mpr mA) h1 | exact h1 (Int32.not_le.mp mA) | exact mA (Int32.not_le.mp h1) | omega)) (fun h1 h2 h3 h4 => ⟨rfl, rfl, rfl⟩) (fun h1 h2 h3 h4 h5 => ⟨rfl, rfl, rfl⟩) (fun h1 h2 h3 h4 h5 h6 => ⟨rfl, rfl, rfl⟩) (fun h1 h2 h3 h4 h5 h6 h7 => ⟨rfl, rfl, rfl⟩) (fun h1 h2 h3 h4 h5 h6 h7 h8 => hbad2 h4 h5 h7 h6 h8) (fun h1 h2 h3 h4 h5 h6 h7 h8 => hbad2 h4 h5 h7 h6 h8) (fun h1 h2 h3 h4 h5 h6 h7 h8 => hbad2 h4 h5 h7 h6 h8) (fun h1 h2 h3 h4 h5 h6 h7 h8 => hbad2 h4 h5 h7 h6 h8) (fun h1 h2 h3 h4 h5 h6 h7 h8 => hbad2 h4 h5 h7 h6 h8) (fun h1 h2 h3 h4 h5 h6 h7 h8 => hbad2 h4 h5 h7 h6 h8) (fun h1 h2 h3 h4 h5 h6 h7 h8 => hbad2 h4 h5 h7 h6 h8) (fun h1 h2 h3 h4 h5 h6 h7 h8 => hbad2 h4 h5 h7 h6 h8) (fun h1 h2 h3 h4 h5 h6 h7 h8 => hbad2 h4 h5 h7 h6 h8) (fun h1 h2 h3 h4 h5 h6 h7 h8 => ⟨rfl, rfl, rfl⟩) (fun h1 h2 h3 => False.elim (by first | exact absurd h3 hE | exact absurd hE h3 | exact (Int32.not_lt.mpr h3) hE | exact (Int32.not_lt.mpr hE) h3 | exact h3 (Int32.not_le.mp hE) | exact hE (Int32.not_le.mp h3) | omega)) (fun h1 h2 => False.elim (by first | exact absurd h2 mB | exact absurd mB h2 | exact (Int32.not_lt.mpr h2) mB | exact (Int32.not_lt.mpr mB) h2 | exact h2 (Int32.not_le.mp mB) | exact mB (Int32.not_le.mp h2) | omega)))) (fun h1 h2 h3 h4 h5 h6 h7 h8 h9 => pend_same hT (s288n hr hq lD2 (fun h1 => False.elim (by first | exact absurd h1 mA | exact absurd mA h1 | exact (Int32.not_lt.mpr h1) mA | exact (Int32.not_lt.mpr mA) h1 | exact h1 (Int32.not_le.mp mA) | exact mA (Int32.not_le.mp h1) | omega)) (fun h1 h2 h3 h4 => ⟨rfl, rfl, rfl⟩) (fun h1 h2 h3 h4 h5 => ⟨rfl, rfl, rfl⟩) (fun h1 h2 h3 h4 h5 h6 => ⟨rfl, rfl, rfl⟩) (fun h1 h2 h3 h4 h5 h6 h7 => ⟨rfl, rfl, rfl⟩) (fun h1 h2 h3 h4 h5 h6 h7 h8 => hbad2 h4 h5 h7 h6 h8) (fun h1 h2 h3 h4 h5 h6 h7 h8 => hbad2 h4 h5 h7 h6 h8) (fun h1 h2 h3 h4 h5 h6 h7 h8 => hbad2 h4 h5 h7 h6 h8) (fun h1 h2 h3 h4 h5 h6 h7 h8 => hbad2 h4 h5 h7 h6 h8) (fun h1 h2 h3 h4 h5 h6 h7 h8 => hbad2 h4 h5 h7 h6 h8) (fun h1 h2 h3 h4 h5 h6 h7 h8 => hbad2 h4 h5 h7 h6 h8) (fun h1 h2 h3 h4 h5 h6 h7 h8 => hbad2 h4 h5 h7 h6 h8) (fun h1 h2 h3 h4 h5 h6 h7 h8 => hbad2 h4 h5 h7 h6 h8) (fun h1 h2 h3 h4 h5 h6 h7 h8 => hbad2 h4 h5 h7 h6 h8) (fun h1 h2 h3 h4 h5 h6 h7 h8 => ⟨rfl, rfl, rfl⟩) (fun h1 h2 h3 => False.elim (by first | exact absurd h3 hE | exact absurd hE h3 | exact (Int32.not_lt.mpr h3) hE | exact (Int32.not_lt.mpr hE) h3 | exact h3 (Int32.not_le.mp hE) | exact hE (Int32.not_le.mp h3) | omega)) (fun h1 h2 => False.elim (by first | exact absurd h2 mB | exact absurd mB h2 | exact (Int32.not_lt.mpr h2) mB | exact (Int32.not_lt.mpr mB) h2 | exact h2 (Int32.not_le.mp mB) | exact mB (Int32.not_le.mp h2) | omega)))) (fun h1 h2 h3 h4 h5 h6 h7 h8 h9 h10 => pend_same hT (s288n hr hq lD2 (fun h1 => False.elim (by first | exact absurd h1 mA | exact absurd mA h1 | exact (Int32.not_lt.mpr h1) mA | exact (Int32.not_lt.mpr mA) h1 | exact h1 (Int32.not_le.mp mA) | exact mA (Int32.not_le.mp h1) | omega)) (fun h1 h2 h3 h4 => ⟨rfl, rfl, rfl⟩) (fun h1 h2 h3 h4 h5 => ⟨rfl, rfl, rfl⟩) (fun h1 h2 h3 h4 h5 h6 => ⟨rfl, rfl, rfl⟩) (fun h1 h2 h3 h4 h5 h6 h7 => ⟨rfl, rfl, rfl⟩) (fun h1 h2 h3 h4 h5 h6 h7 h8 => hbad2 h4 h5 h7 h6 h8) (fun h1 h2 h3 h4 h5 h6 h7 h8 => hbad2 h4 h5 h7 h6 h8) (fun h1 h2 h3 h4 h5 h6 h7 h8 => hbad2 h4 h5 h7 h6 h8) (fun h1 h2 h3 h4 h5 h6 h7 h8 => hbad2 h4 h5 h7 h6 h8) (fun h1 h2 h3 h4 h5 h6 h7 h8 => hbad2 h4 h5 h7 h6 h8) (fun h1 h2 h3 h4 h5 h6 h7 h8 => hbad2 h4 h5 h7 h6 h8) (fun h1 h2 h3 h4 h5 h6 h7 h8 => hbad2 h4 h5 h7 h6 h8) (fun h1 h2 h3 h4 h5 h6 h7 h8 => hbad2 h4 h5 h7 h6 h8) (fun h1 h2 h3 h4 h5 h6 h7 h8 => hbad2 h4 h5 h7 h6 h8) (fun h1 h2 h3 h4 h5 h6 h7 h8 => ⟨rfl, rfl, rfl⟩) (fun h1 h2 h3 => False.elim (by first | exact absurd h3 hE | exact absurd hE h3 | exact (Int32.not_lt.mpr h3) hE | exact (Int32.not_lt.mpr hE) h3 | exact h3 (Int32.not_le.mp hE) | exact hE (Int32.not_le.mp h3) | omega)) (fun h1 h2 => False.elim (by first | exact absurd h2 mB | exact absurd mB h2 | exact (Int32.not_lt.mpr h2) mB | exact (Int32.not_lt.mpr mB) h2 | exact h2 (Int32.not_le.mp mB) | exact mB (Int32.not_le.mp h2) | omega)))) (fun h1 h2 h3 h4 h5 h6 h7 h8 h9 h10 => hbad h4 h6 h7 h4 h9 h10) (fun h1 h2 h3 h4 h5 h6 h7 h8 h9 h10 => hbad h4 h6 h7 h4 h9 h10) (fun h1 h2 h3 h4 h5 h6 h7 h8 h9 h10 => hbad h4 h6 h7 h4 h9 h10) (fun h1 h2 h3 h4 h5 h6 h7 h8 h9 h10 => hbad h4 h6 h7 h4 h9 h10) (fun h1 h2 h3 h4 h5 h6 h7 h8 h9 h10 => hbad h4 h6 h7 h4 h9 h10) (fun h1 h2 h3 h4 h5 h6 h7 h8 h9 h10 => hbad h4 h6 h7 h4 h9 h10) (fun h1 h2 h3 h4 h5 h6 h7 h8 h9 h10 => hbad h4 h6 h7 h4 h9 h10) (fun h1 h2 h3 => False.elim (by first | exact absurd h3 cE | exact absurd cE h3 | exact (Int32.not_lt.mpr h3) cE | exact (Int32.not_lt.mpr cE) h3 | exact h3 (Int32.not_le.mp cE) | exact cE (Int32.not_le.mp h3) | omega)) (fun h1 h2 => False.elim (by first | exact absurd h2 cB | exact absurd cB h2 | exact (Int32.not_lt.mpr h2) cB | exact (Int32.not_lt.mpr cB) h2 | exact h2 (Int32.not_le.mp cB) | exact cB (Int32.not_le.mp h2) | omega))
  obtain ⟨i, j, m, rfl, rfl, rfl, hi, hj⟩ := hok
  obtain ⟨o1, o2, o3, o4⟩ := cp_of hn hi
  obtain ⟨-, q2, q3, q4⟩ := cp_of hn' hj
  have m4 := o4
  have m4q := Int32.not_lt.mp q4
  rw [← hz] at o2 o4
  rw [← hz'] at q2 q4
  rw [← hz2] at m4
  rw [← hz2'] at m4q
  have ci : (nI i).toNatClampNeg = i := nI_clamp (by omega)
  have cj : (nI j).toNatClampNeg = j := nI_clamp (by omega)
  have cm : (nI m).toNatClampNeg = m := nI_clamp (by omega)
  have y1 : ∀ k, k < m → σ.1 (511 + r) (i + k) = 0 ∨ σ.1 (511 + r) (i + k) = 1 := fun k hk => (hit (i + k) (by omega)).2.1
  have z1 : ∀ k, k < m → σ.1 (248 + 3 * r + 2) (i + k) = 0 ∨ σ.1 (248 + 3 * r + 2) (i + k) = 1 := fun k hk => by
    rw [(hit (i + k) (by omega)).1]
    exact y1 k hk
  have fin : PEnd 288 [.int (nI r), .int (nI i), .int (nI q), .int (nI j), .int (nI m)] (fun σ2 => rowsR σ2 ∧ same rowsP σ σ2) (some (.int (nI m))) w1 ((j_uo σ.1 ((248 + 3 * q) + 2) (va_cpy (σ.1 ((248 + 3 * r) + 2)) (σ.1 ((248 + 3 * q) + 2)) i j m)), (j_uo σ.2.1 ((248 + 3 * q) + 1) (va_cpy (σ.2.1 ((248 + 3 * r) + 1)) (σ.2.1 ((248 + 3 * q) + 1)) i j m)), RR σ.2.2) := by
    generalize hI1 : (j_uo σ.1 ((248 + 3 * q) + 2) (va_cpy (σ.1 ((248 + 3 * r) + 2)) (σ.1 ((248 + 3 * q) + 2)) i j m)) = I1
    generalize hD1 : (j_uo σ.2.1 ((248 + 3 * q) + 1) (va_cpy (σ.2.1 ((248 + 3 * r) + 1)) (σ.2.1 ((248 + 3 * q) + 1)) i j m)) = D1
    have eI : ∀ o, 260 ≤ o → I1 o = σ.1 o := fun o ho => by rw [← hI1]; exact j_uo_ne _ _ (by omega)
    have eD : ∀ o, 260 ≤ o → D1 o = σ.2.1 o := fun o ho => by rw [← hD1]; exact j_uo_ne _ _ (by omega)
    rw [← eI 503 (by omega)] at hE mA mB
    rw [← eI 504 (by omega)] at m4 m4q
    have y2 : ∀ k, k < m → I1 (511 + r) (i + k) = 0 ∨ I1 (511 + r) (i + k) = 1 := fun k hk => by rw [eI _ (by omega)]; exact y1 k hk
    have z2 : ∀ k, k < m → (j_uo I1 516 (va_cpy (I1 (511 + r)) (I1 516) i 0 m)) 516 (0 + k) = 0 ∨ (j_uo I1 516 (va_cpy (I1 (511 + r)) (I1 516) i 0 m)) 516 (0 + k) = 1 := fun k hk => by
      rw [j_uo_same, va_cpy_in _ _ (by omega) (by omega), show i + (0 + k - 0) = i + k by omega]
      exact y2 k hk
    refine pend_to (R2 := σ.2.2) (I2 := (j_uo (j_uo I1 516 (va_cpy (I1 (511 + r)) (I1 516) i 0 m)) (511 + q) (va_cpy ((j_uo I1 516 (va_cpy (I1 (511 + r)) (I1 516) i 0 m)) 516) ((j_uo I1 516 (va_cpy (I1 (511 + r)) (I1 516) i 0 m)) (511 + q)) 0 j m))) (D2 := (j_uo (j_uo D1 515 (va_cpy (D1 (506 + r)) (D1 515) i 0 m)) (506 + q) (va_cpy ((j_uo D1 515 (va_cpy (D1 (506 + r)) (D1 515) i 0 m)) 515) ((j_uo D1 515 (va_cpy (D1 (506 + r)) (D1 515) i 0 m)) (506 + q)) 0 j m))) ?_ ?_
    · refine ⟨rowsR.one h (r := q) ⟨n', hn', ?_⟩ (fun k hk => ?_) (fun o ho h0 h1 h2 h3 h4 h5 h6 h7 => ?_) hq, fun o ho => ?_⟩
      · have iq : I1 (248 + 3 * q + 2) = va_cpy (σ.1 ((248 + 3 * r) + 2)) (σ.1 ((248 + 3 * q) + 2)) i j m := by rw [← hI1, j_uo_same]
        have dq : D1 (248 + 3 * q + 1) = va_cpy (σ.2.1 ((248 + 3 * r) + 1)) (σ.2.1 ((248 + 3 * q) + 1)) i j m := by rw [← hD1, j_uo_same]
        have i0 : I1 (248 + 3 * q) = σ.1 (248 + 3 * q) := by rw [← hI1, j_uo_ne _ _ (by omega)]
        simp (disch := omega) only [j_uo_ne, j_uo_same, eI, eD, iq, dq, i0]
        refine ⟨hs1', hs3', hs', hz', hz2', fun k hk => ?_⟩
        by_cases hjk : j ≤ k ∧ k < j + m
        · obtain ⟨k1, k2⟩ := hjk
          simp (disch := omega) only [va_cpy_in]
          have e : i + (0 + (k - j) - 0) = i + (k - j) := by omega
          rw [e]
          exact hit (i + (k - j)) (by omega)
        · simp only [va_cpy_out _ _ hjk]
          exact hit' k hk
      · simp (disch := omega) only [j_uo_ne]
        rw [eI 503 (by omega), eI 504 (by omega)]
        exact ⟨rfl, rfl⟩
      · simp (disch := omega) only [j_uo_ne]
        rw [← hI1, ← hD1]
        simp (disch := omega) only [j_uo_ne]
        exact ⟨trivial, trivial⟩
      · have h1 : ¬ (248 ≤ o ∧ o < 260) := fun q => ho (Or.inl q)
        have h2 : ¬ (503 ≤ o ∧ o < 517) := fun q => ho (Or.inr q)
        simp (disch := omega) only [j_uo_ne]
        rw [← hI1, ← hD1]
        simp (disch := omega) only [j_uo_ne]
        exact ⟨trivial, trivial, trivial⟩
    · exact s288n hr hq lD2 (fun h1 => False.elim (by first | exact absurd h1 mA | exact absurd mA h1 | exact (Int32.not_lt.mpr h1) mA | exact (Int32.not_lt.mpr mA) h1 | exact h1 (Int32.not_le.mp mA) | exact mA (Int32.not_le.mp h1) | omega)) (fun h1 h2 h3 h4 => False.elim (by first | exact absurd h4 o1 | exact absurd o1 h4 | exact (Int32.not_lt.mpr h4) o1 | exact (Int32.not_lt.mpr o1) h4 | exact h4 (Int32.not_le.mp o1) | exact o1 (Int32.not_le.mp h4) | omega)) (fun h1 h2 h3 h4 h5 => False.elim (by first | exact absurd h5 o3 | exact absurd o3 h5 | exact (Int32.not_lt.mpr h5) o3 | exact (Int32.not_lt.mpr o3) h5 | exact h5 (Int32.not_le.mp o3) | exact o3 (Int32.not_le.mp h5) | omega)) (fun h1 h2 h3 h4 h5 h6 => False.elim (by first | exact absurd h6 q3 | exact absurd q3 h6 | exact (Int32.not_lt.mpr h6) q3 | exact (Int32.not_lt.mpr q3) h6 | exact h6 (Int32.not_le.mp q3) | exact q3 (Int32.not_le.mp h6) | omega)) (fun h1 h2 h3 h4 h5 h6 h7 => False.elim (by first | exact absurd h7 m4 | exact absurd m4 h7 | exact (Int32.not_lt.mpr h7) m4 | exact (Int32.not_lt.mpr m4) h7 | exact h7 (Int32.not_le.mp m4) | exact m4 (Int32.not_le.mp h7) | omega)) (fun h1 h2 h3 h4 h5 h6 h7 h8 => by first | rw [ci] | rw [cj] | rw [cm]) (fun h1 h2 h3 h4 h5 h6 h7 h8 => by first | rw [ci] | rw [cj] | rw [cm]) (fun h1 h2 h3 h4 h5 h6 h7 h8 => by first | (rw [ci, cm]; omega) | (rw [cj, cm]; omega) | (rw [cm]; omega)) (fun h1 h2 h3 h4 h5 h6 h7 h8 => by first | (rw [ci, cm]; omega) | (rw [cj, cm]; omega) | (rw [cm]; omega)) (fun h1 h2 h3 h4 h5 h6 h7 h8 => by rw [cm]; intro k hk; first | (rw [ci]; exact z1 k hk) | (rw [ci]; exact y2 k hk) | (rw [ci]; exact z2 k hk) | (exact z2 k hk)) (fun h1 h2 h3 h4 h5 h6 h7 h8 => by first | rw [ci] | rw [cj] | rw [cm]) (fun h1 h2 h3 h4 h5 h6 h7 h8 => by first | (rw [ci, cm]; omega) | (rw [cj, cm]; omega) | (rw [cm]; omega)) (fun h1 h2 h3 h4 h5 h6 h7 h8 => by rw [cm]; intro k hk; first | (rw [ci]; exact z1 k hk) | (rw [ci]; exact y2 k hk) | (rw [ci]; exact z2 k hk) | (exact z2 k hk)) (fun h1 h2 h3 h4 h5 h6 h7 h8 => by rw [ci, cj, cm]; exact ⟨rfl, rfl, rfl⟩) (fun h1 h2 h3 h4 h5 h6 h7 h8 => False.elim (by first | exact absurd h8 m4q | exact absurd m4q h8 | exact (Int32.not_lt.mpr h8) m4q | exact (Int32.not_lt.mpr m4q) h8 | exact h8 (Int32.not_le.mp m4q) | exact m4q (Int32.not_le.mp h8) | omega)) (fun h1 h2 h3 => False.elim (by first | exact absurd h3 hE | exact absurd hE h3 | exact (Int32.not_lt.mpr h3) hE | exact (Int32.not_lt.mpr hE) h3 | exact h3 (Int32.not_le.mp hE) | exact hE (Int32.not_le.mp h3) | omega)) (fun h1 h2 => False.elim (by first | exact absurd h2 mB | exact absurd mB h2 | exact (Int32.not_lt.mpr h2) mB | exact (Int32.not_lt.mpr mB) h2 | exact h2 (Int32.not_le.mp mB) | exact mB (Int32.not_le.mp h2) | omega))
  exact s164n hR hr hq lD1 (fun h1 => False.elim (by first | exact absurd h1 cA | exact absurd cA h1 | exact (Int32.not_lt.mpr h1) cA | exact (Int32.not_lt.mpr cA) h1 | exact h1 (Int32.not_le.mp cA) | exact cA (Int32.not_le.mp h1) | omega)) (fun h1 h2 h3 h4 => False.elim (by first | exact absurd h4 o1 | exact absurd o1 h4 | exact (Int32.not_lt.mpr h4) o1 | exact (Int32.not_lt.mpr o1) h4 | exact h4 (Int32.not_le.mp o1) | exact o1 (Int32.not_le.mp h4) | omega)) (fun h1 h2 h3 h4 h5 => False.elim (by first | exact absurd h5 o2 | exact absurd o2 h5 | exact (Int32.not_lt.mpr h5) o2 | exact (Int32.not_lt.mpr o2) h5 | exact h5 (Int32.not_le.mp o2) | exact o2 (Int32.not_le.mp h5) | omega)) (fun h1 h2 h3 h4 h5 h6 => False.elim (by first | exact absurd h6 o3 | exact absurd o3 h6 | exact (Int32.not_lt.mpr h6) o3 | exact (Int32.not_lt.mpr o3) h6 | exact h6 (Int32.not_le.mp o3) | exact o3 (Int32.not_le.mp h6) | omega)) (fun h1 h2 h3 h4 h5 h6 h7 => False.elim (by first | exact absurd h7 o4 | exact absurd o4 h7 | exact (Int32.not_lt.mpr h7) o4 | exact (Int32.not_lt.mpr o4) h7 | exact h7 (Int32.not_le.mp o4) | exact o4 (Int32.not_le.mp h7) | omega)) (fun h1 h2 h3 h4 h5 h6 h7 h8 => False.elim (by first | exact absurd h8 q2 | exact absurd q2 h8 | exact (Int32.not_lt.mpr h8) q2 | exact (Int32.not_lt.mpr q2) h8 | exact h8 (Int32.not_le.mp q2) | exact q2 (Int32.not_le.mp h8) | omega)) (fun h1 h2 h3 h4 h5 h6 h7 h8 h9 => False.elim (by first | exact absurd h9 q3 | exact absurd q3 h9 | exact (Int32.not_lt.mpr h9) q3 | exact (Int32.not_lt.mpr q3) h9 | exact h9 (Int32.not_le.mp q3) | exact q3 (Int32.not_le.mp h9) | omega)) (fun h1 h2 h3 h4 h5 h6 h7 h8 h9 h10 => False.elim (by first | exact absurd h10 q4 | exact absurd q4 h10 | exact (Int32.not_lt.mpr h10) q4 | exact (Int32.not_lt.mpr q4) h10 | exact h10 (Int32.not_le.mp q4) | exact q4 (Int32.not_le.mp h10) | omega)) (fun h1 h2 h3 h4 h5 h6 h7 h8 h9 h10 => by first | rw [ci] | rw [cj] | rw [cm]) (fun h1 h2 h3 h4 h5 h6 h7 h8 h9 h10 => by first | rw [ci] | rw [cj] | rw [cm]) (fun h1 h2 h3 h4 h5 h6 h7 h8 h9 h10 => by first | rw [ci] | rw [cj] | rw [cm]) (fun h1 h2 h3 h4 h5 h6 h7 h8 h9 h10 => by first | (rw [ci, cm]; omega) | (rw [cj, cm]; omega) | (rw [cm]; omega)) (fun h1 h2 h3 h4 h5 h6 h7 h8 h9 h10 => by first | (rw [ci, cm]; omega) | (rw [cj, cm]; omega) | (rw [cm]; omega)) (fun h1 h2 h3 h4 h5 h6 h7 h8 h9 h10 => by rw [cm]; intro k hk; first | (rw [ci]; exact z1 k hk) | (rw [ci]; exact y2 k hk) | (rw [ci]; exact z2 k hk) | (exact z2 k hk)) (fun h1 h2 h3 h4 h5 h6 h7 h8 h9 h10 => by rw [ci, cj, cm]; exact fin) (fun h1 h2 h3 => False.elim (by first | exact absurd h3 cE | exact absurd cE h3 | exact (Int32.not_lt.mpr h3) cE | exact (Int32.not_lt.mpr cE) h3 | exact h3 (Int32.not_le.mp cE) | exact cE (Int32.not_le.mp h3) | omega)) (fun h1 h2 => False.elim (by first | exact absurd h2 cB | exact absurd cB h2 | exact (Int32.not_lt.mpr h2) cB | exact (Int32.not_lt.mpr cB) h2 | exact h2 (Int32.not_le.mp cB) | exact cB (Int32.not_le.mp h2) | omega))
