/-! items -/
def fp_bits : Prop := ∀ {d : Nat} {I : Nat → Nat → Int32} {D : Nat → Nat → UInt64} {R : Nat → Nat → Option Nat} {Q : j_Po} {x : UInt64}, okD x → Q (some (.long x.toInt64)) w1 (I, D, RR R) → j_Call d 57 [.double x] w1 (I, D, RR R) 0 0 Q
set_option maxRecDepth 10000 in
set_option maxHeartbeats 4000000 in
theorem s204 {d : Nat} {I : Nat → Nat → Int32} {D : Nat → Nat → UInt64} {R : Nat → Nat → Option Nat} {Q : j_Po} {y : UInt64}   (hd : 0 ≤ d)
    (v1 : (deq y y = true) → Q (some (.int 0)) w1 (I, D, RR R))
    (v2 : (deq y y = false) → Q (some (.int 1)) w1 (I, D, RR R)) : j_Call d 204 [.double y] w1 (I, D, RR R) 0 0 Q := by
  refine q_enter (L := [some (.double y), none]) j_m204 (Nat.le_of_ble_eq_true rfl) rfl ?_
  refine q_dload_n d204_0 rfl ?_
  refine q_dload_n d204_1 rfl ?_
  refine q_dcmp d204_2 ?_
  refine q_if_eq (tgt := 10) d204_3 rfl (fun h1t => ?_) (fun h1f => ?_)
  ·
    have h1tc : deq y y = true := dc_l_eq_t h1t
    refine q_iconst (v := 0) (by decide) d204_10 ?_
    exact q_zret d204_11 rfl (Or.inl rfl) (Nat.le_refl _) (Nat.le_refl _) (v1 h1tc)
  ·
    have h1fc : deq y y = false := dc_l_eq_f h1f
    refine q_iconst (v := 1) (by decide) d204_6 ?_
    refine q_goto (tgt := 11) d204_7 rfl ?_
    exact q_zret d204_11 rfl (Or.inr rfl) (Nat.le_refl _) (Nat.le_refl _) (v2 h1fc)

set_option maxRecDepth 10000 in
set_option maxHeartbeats 4000000 in
theorem s203 {d : Nat} {I : Nat → Nat → Int32} {D : Nat → Nat → UInt64} {R : Nat → Nat → Option Nat} {Q : j_Po} {y : UInt64}   (hd : 1 ≤ d)
    (v1 : (deq y y = true) → Q (some (.long ((y : UInt64).toInt64))) w1 (I, D, RR R))
    (v2 : (deq y y = false) → Q (some (.long 9221120237041090560)) w1 (I, D, RR R)) : j_Call d 203 [.double y] w1 (I, D, RR R) 0 0 Q := by
  refine q_enter (L := [some (.double y), none]) j_m203 (Nat.le_of_ble_eq_true rfl) rfl ?_
  refine q_dload_n d203_0 rfl ?_
  refine q_invS (av := [.double y]) (rest := []) (d' := 0) (mc' := 0) (ms' := 0) d203_1 (cv11_122 203 rfl) rfl rfl (by omega) (Nat.le_of_ble_eq_true rfl) (Nat.le_of_ble_eq_true rfl) (Nat.le_refl _) (Nat.le_refl _) ?_
  refine s204   (Nat.le_refl _) (fun c1 => ?_) (fun c2 => ?_)
  ·
    show j_W 203 d 0 0 0 0 4 [some (.double y), none] [.int 0] w1 (I, D, RR R) Q
    refine q_if_ne (tgt := 12) d203_4 rfl (fun h => absurd h (by decide)) (fun _ => ?_)
    refine q_dload_n d203_7 rfl ?_
    refine q_d2raw d203_8 (j_i7 19 rfl) (j_i7 21 rfl) (j_i7 20 rfl) (j_i1 14 rfl) (by omega) (Nat.le_of_ble_eq_true rfl) ?_
    exact q_lret d203_11 rfl (Nat.le_refl _) (Nat.le_refl _) (v1 c1)
  ·
    show j_W 203 d 0 0 0 0 4 [some (.double y), none] [.int 1] w1 (I, D, RR R) Q
    refine q_if_ne (tgt := 12) d203_4 rfl (fun _ => ?_) (fun h => absurd h (by decide))
    refine q_ldcL (v := 9221120237041090560) d203_12 (kc11_137 203 rfl) ?_
    exact q_lret d203_15 rfl (Nat.le_refl _) (Nat.le_refl _) (v2 c2)

set_option maxRecDepth 10000 in
set_option maxHeartbeats 4000000 in
theorem s202 {d : Nat} {I : Nat → Nat → Int32} {D : Nat → Nat → UInt64} {R : Nat → Nat → Option Nat} {Q : j_Po} {y : UInt64}   (hd : 2 ≤ d)
    (v1 : (deq y y = true) → Q (some (.long ((y : UInt64).toInt64))) w1 (I, D, RR R))
    (v2 : (deq y y = false) → Q (some (.long 9221120237041090560)) w1 (I, D, RR R)) : j_Call d 202 [.double y] w1 (I, D, RR R) 0 0 Q := by
  refine q_enter (L := [some (.double y), none]) j_m202 (Nat.le_of_ble_eq_true rfl) rfl ?_
  refine q_dload_n d202_0 rfl ?_
  refine q_invS (av := [.double y]) (rest := []) (d' := 1) (mc' := 0) (ms' := 0) d202_1 (cv10_299 202 rfl) rfl rfl (by omega) (Nat.le_of_ble_eq_true rfl) (Nat.le_of_ble_eq_true rfl) (Nat.le_refl _) (Nat.le_refl _) ?_
  refine s203   (Nat.le_refl _) (fun c1 => ?_) (fun c2 => ?_)
  ·
    show j_W 202 d 0 0 0 0 4 [some (.double y), none] [.long ((y : UInt64).toInt64)] w1 (I, D, RR R) Q
    exact q_lret d202_4 rfl (Nat.le_refl _) (Nat.le_refl _) (v1 c1)
  ·
    show j_W 202 d 0 0 0 0 4 [some (.double y), none] [.long 9221120237041090560] w1 (I, D, RR R) Q
    exact q_lret d202_4 rfl (Nat.le_refl _) (Nat.le_refl _) (v2 c2)

set_option maxRecDepth 10000 in
set_option maxHeartbeats 4000000 in
theorem s201 {d : Nat} {I : Nat → Nat → Int32} {D : Nat → Nat → UInt64} {R : Nat → Nat → Option Nat} {Q : j_Po} {y : UInt64} {a : Int32}   (hd : 3 ≤ d)
    (v1 : (¬ a = 0) → Q (some (.long ((-20) - ((a : Int32).toInt64)))) w1 (I, D, RR R))
    (v2 : (a = 0) → (deq y y = true) → Q (some (.long ((y : UInt64).toInt64))) w1 (I, D, RR R))
    (v3 : (a = 0) → (deq y y = false) → Q (some (.long 9221120237041090560)) w1 (I, D, RR R)) : j_Call d 201 [.double y, .int a] w1 (I, D, RR R) 0 0 Q := by
  refine q_enter (L := [some (.double y), none, some (.int a)]) j_m201 (Nat.le_of_ble_eq_true rfl) rfl ?_
  refine q_iload_n d201_0 rfl ?_
  refine q_if_ne (tgt := 11) d201_1 rfl (fun h1t => ?_) (fun h1f => ?_)
  ·
    refine q_ldcL (v := (-20)) d201_11 (kc10_308 201 rfl) ?_
    refine q_iload_n d201_14 rfl ?_
    refine q_i2l d201_15 ?_
    refine q_lsub d201_16 ?_
    exact q_lret d201_17 rfl (Nat.le_refl _) (Nat.le_refl _) (v1 h1t)
  ·
    refine q_dload_n d201_4 rfl ?_
    refine q_invS (av := [.double y]) (rest := []) (d' := 2) (mc' := 0) (ms' := 0) d201_5 (cv10_305 201 rfl) rfl rfl (by omega) (Nat.le_of_ble_eq_true rfl) (Nat.le_of_ble_eq_true rfl) (Nat.le_refl _) (Nat.le_refl _) ?_
    refine s202   (Nat.le_refl _) (fun c2 => ?_) (fun c3 => ?_)
    ·
      show j_W 201 d 0 0 0 0 8 [some (.double y), none, some (.int a)] [.long ((y : UInt64).toInt64)] w1 (I, D, RR R) Q
      refine q_goto (tgt := 17) d201_8 rfl ?_
      exact q_lret d201_17 rfl (Nat.le_refl _) (Nat.le_refl _) (v2 h1f c2)
    ·
      show j_W 201 d 0 0 0 0 8 [some (.double y), none, some (.int a)] [.long 9221120237041090560] w1 (I, D, RR R) Q
      refine q_goto (tgt := 17) d201_8 rfl ?_
      exact q_lret d201_17 rfl (Nat.le_refl _) (Nat.le_refl _) (v3 h1f c3)

set_option maxRecDepth 10000 in
set_option maxHeartbeats 4000000 in
theorem s287 {d : Nat} {I : Nat → Nat → Int32} {D : Nat → Nat → UInt64} {R : Nat → Nat → Option Nat} {Q : j_Po} {a : Int32} {b : Int32}   (hd : 3 ≤ d)
    (v1 : ∀ u1 : Nat, (u1 < 4) → (a = nI u1) → (0 ≤ (I 503 u1)) → ((¬ b < (0 : Int32) ∧ ¬ ((I 504 u1) - 1) < b)) → vp_in b 64)
    (v2 : ∀ u1 : Nat, (u1 < 4) → (a = nI u1) → (0 ≤ (I 503 u1)) → ((¬ b < (0 : Int32) ∧ ¬ ((I 504 u1) - 1) < b)) → ((I (511 + u1) b.toNatClampNeg) = 0) → (deq (D (506 + u1) b.toNatClampNeg) (D (506 + u1) b.toNatClampNeg) = true) → Q (some (.long (((D (506 + u1) b.toNatClampNeg) : UInt64).toInt64))) w1 (I, D, RR R))
    (v3 : ∀ u1 : Nat, (u1 < 4) → (a = nI u1) → (0 ≤ (I 503 u1)) → ((¬ b < (0 : Int32) ∧ ¬ ((I 504 u1) - 1) < b)) → ((I (511 + u1) b.toNatClampNeg) = 0) → (deq (D (506 + u1) b.toNatClampNeg) (D (506 + u1) b.toNatClampNeg) = false) → Q (some (.long 9221120237041090560)) w1 (I, D, RR R))
    (v4 : ∀ u1 : Nat, (u1 < 4) → (a = nI u1) → (0 ≤ (I 503 u1)) → ((¬ b < (0 : Int32) ∧ ¬ ((I 504 u1) - 1) < b)) → (¬ (I (511 + u1) b.toNatClampNeg) = 0) → Q (some (.long (-1))) w1 (I, D, RR R))
    (v5 : ∀ u6 : Nat, (u6 < 4) → (a = nI u6) → (0 ≤ (I 503 u6)) → (¬ ((¬ b < (0 : Int32) ∧ ¬ ((I 504 u6) - 1) < b))) → Q (some (.long (((-12) : Int32).toInt64))) w1 (I, D, RR R))
    (v6 : ∀ u11 : Nat, (u11 < 4) → (a = nI u11) → (¬ 0 ≤ (I 503 u11)) → Q (some (.long (((-11) : Int32).toInt64))) w1 (I, D, RR R))
    (v7 : (¬ (∃ k : Nat, k < 4 ∧ a = nI k)) → Q (some (.long (((-2) : Int32).toInt64))) w1 (I, D, RR R)) : j_Call d 287 [.ref 260, .int a, .int b] w1 (I, D, RR R) 0 0 Q := by
  refine q_enter (L := [some (.ref 260), some (.int a), some (.int b), none]) j_m287 (Nat.le_of_ble_eq_true rfl) rfl ?_
  refine q_aload_n d287_0 rfl ?_
  refine q_iload_n d287_1 rfl ?_
  refine q_iload_n d287_2 rfl ?_
  refine q_invV (o := 260) (ci := 10) (av := [.int a, .int b]) (rest := []) (d' := 2) (mc' := 0) (ms' := 0) d287_3 (cv10_569 287 rfl) rfl (by decide) rfl rfl (by omega) (Nat.le_of_ble_eq_true rfl) (Nat.le_of_ble_eq_true rfl) (lt_w1 rfl) sh260 (Nat.le_refl _) (Nat.le_refl _) ?_
  refine s286   (Nat.le_refl _) (fun u1 c2 c3 c4 c5 => ?_) (fun u6 c7 c8 c9 c10 => ?_) (fun u11 c12 c13 c14 => ?_) (fun c15 => ?_)
  ·
    subst c3
    show j_W 287 d 0 0 0 0 6 [some (.ref 260), some (.int (nI u1)), some (.int b), none] [.int 0] w1 (I, D, RR R) Q
    refine q_istore_n (L' := [some (.ref 260), some (.int (nI u1)), some (.int b), some (.int 0)]) d287_6 (Nat.le_of_ble_eq_true rfl) rfl ?_
    refine q_iload_n d287_7 rfl ?_
    refine q_if_eq (tgt := 14) d287_8 rfl (fun _ => ?_) (fun h => absurd h (by decide))
    refine q_aload_n d287_14 rfl ?_
    refine q_getR (x := 510) d287_15 (fs10_174 287 rfl) rfl (lt_w1 rfl) sh260 (rs260_73 R) (by decide) ?_
    refine q_iload_n d287_18 rfl ?_
    refine q_aaload (c := 5) (a := u1) (x := (511 + u1)) d287_19 (lt_w1 rfl) sh510 (by decide) rfl (by omega) (rm510 R (by omega)) (lt1000 (lm510 (by omega))) ?_
    refine q_iload_n d287_20 rfl ?_
    have g16 := ix_of (v1 u1 c2 rfl c4 c5) (by decide)
    refine q_zaload (a := b.toNatClampNeg) d287_21 (lm510 (by omega)) (sm510 (by omega)) g16.1 g16.2 ?_
    refine q_if_eq (tgt := 31) d287_22 rfl (fun h17t => ?_) (fun h17f => ?_)
    ·
      refine q_aload_n d287_31 rfl ?_
      refine q_getR (x := 505) d287_32 (fs10_171 287 rfl) rfl (lt_w1 rfl) sh260 (rs260_72 R) (by decide) ?_
      refine q_iload_n d287_35 rfl ?_
      refine q_aaload (c := 3) (a := u1) (x := (506 + u1)) d287_36 (lt_w1 rfl) sh505 (by decide) rfl (by omega) (rm505 R (by omega)) (lt1000 (lm505 (by omega))) ?_
      refine q_iload_n d287_37 rfl ?_
      have g18 := ix_of (v1 u1 c2 rfl c4 c5) (by decide)
      refine q_daload (a := b.toNatClampNeg) d287_38 (lm505 (by omega)) (sm505 (by omega)) g18.1 g18.2 ?_
      refine q_invS (av := [.double (D (506 + u1) b.toNatClampNeg)]) (rest := []) (d' := 2) (mc' := 0) (ms' := 0) d287_39 (cv10_305 287 rfl) rfl rfl (by omega) (Nat.le_of_ble_eq_true rfl) (Nat.le_of_ble_eq_true rfl) (Nat.le_refl _) (Nat.le_refl _) ?_
      refine s202   (Nat.le_refl _) (fun c19 => ?_) (fun c20 => ?_)
      ·
        show j_W 287 d 0 0 0 0 42 [some (.ref 260), some (.int (nI u1)), some (.int b), some (.int 0)] [.long (((D (506 + u1) b.toNatClampNeg) : UInt64).toInt64)] w1 (I, D, RR R) Q
        exact q_lret d287_42 rfl (Nat.le_refl _) (Nat.le_refl _) (v2 u1 c2 rfl c4 c5 h17t c19)
      ·
        show j_W 287 d 0 0 0 0 42 [some (.ref 260), some (.int (nI u1)), some (.int b), some (.int 0)] [.long 9221120237041090560] w1 (I, D, RR R) Q
        exact q_lret d287_42 rfl (Nat.le_refl _) (Nat.le_refl _) (v3 u1 c2 rfl c4 c5 h17t c20)
    ·
      refine q_ldcL (v := (-1)) d287_25 (kc10_543 287 rfl) ?_
      refine q_goto (tgt := 42) d287_28 rfl ?_
      exact q_lret d287_42 rfl (Nat.le_refl _) (Nat.le_refl _) (v4 u1 c2 rfl c4 c5 h17f)
  ·
    subst c8
    show j_W 287 d 0 0 0 0 6 [some (.ref 260), some (.int (nI u6)), some (.int b), none] [.int (-12)] w1 (I, D, RR R) Q
    refine q_istore_n (L' := [some (.ref 260), some (.int (nI u6)), some (.int b), some (.int (-12))]) d287_6 (Nat.le_of_ble_eq_true rfl) rfl ?_
    refine q_iload_n d287_7 rfl ?_
    refine q_if_eq (tgt := 14) d287_8 rfl (fun h => absurd h (by decide)) (fun _ => ?_)
    refine q_iload_n d287_11 rfl ?_
    refine q_i2l d287_12 ?_
    exact q_lret d287_13 rfl (Nat.le_refl _) (Nat.le_refl _) (v5 u6 c7 rfl c9 c10)
  ·
    subst c13
    show j_W 287 d 0 0 0 0 6 [some (.ref 260), some (.int (nI u11)), some (.int b), none] [.int (-11)] w1 (I, D, RR R) Q
    refine q_istore_n (L' := [some (.ref 260), some (.int (nI u11)), some (.int b), some (.int (-11))]) d287_6 (Nat.le_of_ble_eq_true rfl) rfl ?_
    refine q_iload_n d287_7 rfl ?_
    refine q_if_eq (tgt := 14) d287_8 rfl (fun h => absurd h (by decide)) (fun _ => ?_)
    refine q_iload_n d287_11 rfl ?_
    refine q_i2l d287_12 ?_
    exact q_lret d287_13 rfl (Nat.le_refl _) (Nat.le_refl _) (v6 u11 c12 rfl c14)
  ·
    show j_W 287 d 0 0 0 0 6 [some (.ref 260), some (.int a), some (.int b), none] [.int (-2)] w1 (I, D, RR R) Q
    refine q_istore_n (L' := [some (.ref 260), some (.int a), some (.int b), some (.int (-2))]) d287_6 (Nat.le_of_ble_eq_true rfl) rfl ?_
    refine q_iload_n d287_7 rfl ?_
    refine q_if_eq (tgt := 14) d287_8 rfl (fun h => absurd h (by decide)) (fun _ => ?_)
    refine q_iload_n d287_11 rfl ?_
    refine q_i2l d287_12 ?_
    exact q_lret d287_13 rfl (Nat.le_refl _) (Nat.le_refl _) (v7 c15)

set_option maxRecDepth 10000 in
set_option maxHeartbeats 4000000 in
theorem s163 {d : Nat} {I : Nat → Nat → Int32} {D : Nat → Nat → UInt64} {R : Nat → Nat → Option Nat} {Q : j_Po} {a : Int32} {b : Int32}  (hB : fp_bits) (hR : WFR R) (hd : 1 ≤ d)
    (v1 : ∀ k1 : Nat, (k1 < 4) → (a = nI k1) → (¬ (I (248 + 3 * k1) 0) = (-1)) → ((I (248 + 3 * k1) 1) < (1 : Int32)) → Q (some (.long (-12))) w1 (I, D, RR R))
    (v2 : ∀ k1 : Nat, (k1 < 4) → (a = nI k1) → (¬ (I (248 + 3 * k1) 0) = (-1)) → (¬ (I (248 + 3 * k1) 1) < (1 : Int32)) → (b < 0) → Q (some (.long (-12))) w1 (I, D, RR R))
    (v3 : ∀ k1 : Nat, (k1 < 4) → (a = nI k1) → (¬ (I (248 + 3 * k1) 0) = (-1)) → (¬ (I (248 + 3 * k1) 1) < (1 : Int32)) → (¬ b < 0) → (((I (248 + 3 * k1) 1) - (1 : Int32)) < b) → Q (some (.long (-12))) w1 (I, D, RR R))
    (v4 : ∀ k1 : Nat, (k1 < 4) → (a = nI k1) → (¬ (I (248 + 3 * k1) 0) = (-1)) → (¬ (I (248 + 3 * k1) 1) < (1 : Int32)) → (¬ b < 0) → (¬ ((I (248 + 3 * k1) 1) - (1 : Int32)) < b) → vp_in b 64)
    (v5 : ∀ k1 : Nat, (k1 < 4) → (a = nI k1) → (¬ (I (248 + 3 * k1) 0) = (-1)) → (¬ (I (248 + 3 * k1) 1) < (1 : Int32)) → (¬ b < 0) → (¬ ((I (248 + 3 * k1) 1) - (1 : Int32)) < b) → ((I ((248 + 3 * k1) + 2) b.toNatClampNeg) = 0) → okD (D ((248 + 3 * k1) + 1) b.toNatClampNeg))
    (v6 : ∀ k1 : Nat, (k1 < 4) → (a = nI k1) → (¬ (I (248 + 3 * k1) 0) = (-1)) → (¬ (I (248 + 3 * k1) 1) < (1 : Int32)) → (¬ b < 0) → (¬ ((I (248 + 3 * k1) 1) - (1 : Int32)) < b) → ((I ((248 + 3 * k1) + 2) b.toNatClampNeg) = 0) → Q (some (.long ((D ((248 + 3 * k1) + 1) b.toNatClampNeg) : UInt64).toInt64)) w1 (I, D, RR R))
    (v7 : ∀ k1 : Nat, (k1 < 4) → (a = nI k1) → (¬ (I (248 + 3 * k1) 0) = (-1)) → (¬ (I (248 + 3 * k1) 1) < (1 : Int32)) → (¬ b < 0) → (¬ ((I (248 + 3 * k1) 1) - (1 : Int32)) < b) → (¬ (I ((248 + 3 * k1) + 2) b.toNatClampNeg) = 0) → Q (some (.long (-1))) w1 (I, D, RR R))
    (v8 : ∀ k1 : Nat, (k1 < 4) → (a = nI k1) → ((I (248 + 3 * k1) 0) = (-1)) → Q (some (.long (-11))) w1 (I, D, RR R))
    (v9 : (¬ (∃ k : Nat, k < 4 ∧ a = nI k)) → Q (some (.long (-2))) w1 (I, D, RR R)) : j_Call d 163 [.ref 0, .int a, .int b] w1 (I, D, RR R) 0 0 Q := by
  refine q_enter (L := [some (.ref 0), some (.int a), some (.int b), none]) j_m163 (Nat.le_of_ble_eq_true rfl) rfl ?_
  refine q_iload_n d163_0 rfl ?_
  refine q_invS (av := [.int a]) (rest := []) (d' := 0) (mc' := 0) (ms' := 0) d163_1 (cv9_216 163 rfl) rfl rfl (by omega) (Nat.le_of_ble_eq_true rfl) (Nat.le_of_ble_eq_true rfl) (Nat.le_refl _) (Nat.le_refl _) ?_
  refine r113  (fun k1 h1 h1e => ?_) (fun h1 => ?_)
  ·
    subst h1e
    show j_W 163 d 0 0 0 0 4 [some (.ref 0), some (.int (nI k1)), some (.int b), none] [.int 1] w1 (I, D, RR R) Q
    refine q_if_ne (tgt := 11) d163_4 rfl (fun _ => ?_) (fun h => absurd h (by decide))
    refine q_aload_n d163_11 rfl ?_
    refine q_getR (x := 105) d163_12 (fs9_32 163 rfl) rfl (lt_w1 rfl) sh0 (rs0_7 R) (by decide) ?_
    refine q_iload_n d163_15 rfl ?_
    refine q_aaload (c := 8) (a := k1) (x := (248 + 3 * k1)) d163_16 (lt_w1 rfl) sh105 (by decide) rfl (by omega) (rl105 R (by omega)) (lt1000 (isRw_lt (isRw_k _ (by omega)))) ?_
    refine q_astore_n (L' := [some (.ref 0), some (.int (nI k1)), some (.int b), some (.ref (248 + 3 * k1))]) d163_17 (Nat.le_of_ble_eq_true rfl) (Nat.ne_of_lt (Nat.lt_trans (lt1000 (isRw_lt (isRw_k _ (by omega)))) (by decide))) rfl ?_
    refine q_aload_n d163_18 rfl ?_
    refine q_getI d163_19 (fs9_219 163 rfl) rfl (isRw_lt (isRw_k _ (by omega))) (isRw_sh (isRw_k _ (by omega))) ?_
    refine q_iconst (v := (-1)) (by decide) d163_22 ?_
    refine q_icmp_ne (tgt := 30) d163_23 rfl (fun h2t => ?_) (fun h2f => ?_)
    ·
      refine q_aload_n d163_30 rfl ?_
      refine q_iload_n d163_31 rfl ?_
      refine q_iconst (v := 1) (by decide) d163_32 ?_
      refine q_invV (o := (248 + 3 * k1)) (ci := 6) (av := [.int b, .int 1]) (rest := []) (d' := 0) (mc' := 0) (ms' := 0) d163_33 (cv9_222 163 rfl) rfl (by decide) rfl rfl (by omega) (Nat.le_of_ble_eq_true rfl) (Nat.le_of_ble_eq_true rfl) (isRw_lt (isRw_k _ (by omega))) (isRw_sh (isRw_k _ (by omega))) (Nat.le_refl _) (Nat.le_refl _) ?_
      refine s114 (r := (248 + 3 * k1)) (isRw_k _ (by omega)) (Nat.le_refl _) (fun c3 => False.elim (by exact absurd c3 (by decide))) (fun c4 c5 => ?_) (fun c6 c7 c8 => ?_) (fun c9 c10 c11 c12 => ?_) (fun c13 c14 c15 c16 => ?_)
      ·
        show j_W 163 d 0 0 0 0 36 [some (.ref 0), some (.int (nI k1)), some (.int b), some (.ref (248 + 3 * k1))] [.int 0] w1 (I, D, RR R) Q
        refine q_if_ne (tgt := 43) d163_36 rfl (fun h => absurd h (by decide)) (fun _ => ?_)
        refine q_ldcL (v := (-12)) d163_39 (kc9_374 163 rfl) ?_
        exact q_lret d163_42 rfl (Nat.le_refl _) (Nat.le_refl _) (v1 k1 h1 rfl h2t c5)
      ·
        show j_W 163 d 0 0 0 0 36 [some (.ref 0), some (.int (nI k1)), some (.int b), some (.ref (248 + 3 * k1))] [.int 0] w1 (I, D, RR R) Q
        refine q_if_ne (tgt := 43) d163_36 rfl (fun h => absurd h (by decide)) (fun _ => ?_)
        refine q_ldcL (v := (-12)) d163_39 (kc9_374 163 rfl) ?_
        exact q_lret d163_42 rfl (Nat.le_refl _) (Nat.le_refl _) (v2 k1 h1 rfl h2t c7 c8)
      ·
        show j_W 163 d 0 0 0 0 36 [some (.ref 0), some (.int (nI k1)), some (.int b), some (.ref (248 + 3 * k1))] [.int 0] w1 (I, D, RR R) Q
        refine q_if_ne (tgt := 43) d163_36 rfl (fun h => absurd h (by decide)) (fun _ => ?_)
        refine q_ldcL (v := (-12)) d163_39 (kc9_374 163 rfl) ?_
        exact q_lret d163_42 rfl (Nat.le_refl _) (Nat.le_refl _) (v3 k1 h1 rfl h2t c10 c11 c12)
      ·
        show j_W 163 d 0 0 0 0 36 [some (.ref 0), some (.int (nI k1)), some (.int b), some (.ref (248 + 3 * k1))] [.int 1] w1 (I, D, RR R) Q
        refine q_if_ne (tgt := 43) d163_36 rfl (fun _ => ?_) (fun h => absurd h (by decide))
        refine q_aload_n d163_43 rfl ?_
        refine q_getR (x := ((248 + 3 * k1) + 2)) d163_44 (fs9_369 163 rfl) rfl (isRw_lt (isRw_k _ (by omega))) (isRw_sh (isRw_k _ (by omega))) (isRw_r2 R (isRw_k _ (by omega))) (lt1000 (isRw_lt2 (isRw_k _ (by omega)))) ?_
        refine q_iload_n d163_47 rfl ?_
        have g17 := ix_of (v4 k1 h1 rfl h2t c14 c15 c16) (by decide)
        refine q_zaload (a := b.toNatClampNeg) d163_48 (isRw_lt2 (isRw_k _ (by omega))) (isRw_sh2 (isRw_k _ (by omega))) g17.1 g17.2 ?_
        refine q_if_eq (tgt := 58) d163_49 rfl (fun h18t => ?_) (fun h18f => ?_)
        ·
          refine q_aload_n d163_58 rfl ?_
          refine q_getR (x := ((248 + 3 * k1) + 1)) d163_59 (fs9_228 163 rfl) rfl (isRw_lt (isRw_k _ (by omega))) (isRw_sh (isRw_k _ (by omega))) (isRw_r1 R (isRw_k _ (by omega))) (lt1000 (isRw_lt1 (isRw_k _ (by omega)))) ?_
          refine q_iload_n d163_62 rfl ?_
          have g19 := ix_of (v4 k1 h1 rfl h2t c14 c15 c16) (by decide)
          refine q_daload (a := b.toNatClampNeg) d163_63 (isRw_lt1 (isRw_k _ (by omega))) (isRw_sh1 (isRw_k _ (by omega))) g19.1 g19.2 ?_
          refine q_invS (av := [.double (D ((248 + 3 * k1) + 1) b.toNatClampNeg)]) (rest := []) (d' := 0) (mc' := 0) (ms' := 0) d163_64 (cv9_267 163 rfl) rfl rfl (by omega) (Nat.le_of_ble_eq_true rfl) (Nat.le_of_ble_eq_true rfl) (Nat.le_refl _) (Nat.le_refl _) ?_
          refine hB (v5 k1 h1 rfl h2t c14 c15 c16 h18t) ?_
          show j_W 163 d 0 0 0 0 67 [some (.ref 0), some (.int (nI k1)), some (.int b), some (.ref (248 + 3 * k1))] [.long ((D ((248 + 3 * k1) + 1) b.toNatClampNeg) : UInt64).toInt64] w1 (I, D, RR R) Q
          exact q_lret d163_67 rfl (Nat.le_refl _) (Nat.le_refl _) (v6 k1 h1 rfl h2t c14 c15 c16 h18t)
        ·
          refine q_ldcL (v := (-1)) d163_52 (kc9_311 163 rfl) ?_
          refine q_goto (tgt := 67) d163_55 rfl ?_
          exact q_lret d163_67 rfl (Nat.le_refl _) (Nat.le_refl _) (v7 k1 h1 rfl h2t c14 c15 c16 h18f)
    ·
      refine q_ldcL (v := (-11)) d163_26 (kc9_372 163 rfl) ?_
      exact q_lret d163_29 rfl (Nat.le_refl _) (Nat.le_refl _) (v8 k1 h1 rfl h2f)
  ·
    show j_W 163 d 0 0 0 0 4 [some (.ref 0), some (.int a), some (.int b), none] [.int 0] w1 (I, D, RR R) Q
    refine q_if_ne (tgt := 11) d163_4 rfl (fun h => absurd h (by decide)) (fun _ => ?_)
    refine q_ldcL (v := (-2)) d163_7 (kc9_127 163 rfl) ?_
    exact q_lret d163_10 rfl (Nat.le_refl _) (Nat.le_refl _) (v9 h1)

