/-! set: what a KIND keeps -/
def pl (x : UInt64) : UInt64 := if deq x 0 = true then 0 else x
def kp (k : Int32) (x : UInt64) : UInt64 :=
  if k = 1 then pl (FP.l2d (FP.d2l x)) else if k = 2 then pl (FP.f2d (FP.d2f x)) else if k = 3 then pl (FP.i2d (FP.d2l x).toInt32.toInt8.toInt32) else if k = 4 then pl (FP.f2d (FP.frem (FP.d2f x) 1135869952)) else if k = 5 then pl (if dlt x 13875379345695965184 = true then 13875379345695965184 else if dlt 4652007308841189376 x = true then 4652007308841189376 else x) else pl x
def keepOk (k : Int32) (x : UInt64) : Prop := (∃ j : Nat, j < 6 ∧ k = nI j) ∧ Jvm.Free.Fl.Fin64 x
def fp_keep (i : Nat) : Prop := ∀ {I : Nat → Nat → Int32} {D : Nat → Nat → UInt64} {R : Nat → Nat → Option Nat} {Q : j_Po} {k : Int32} {x : UInt64}, keepOk k x → Q (some (.double (kp k x))) w1 (I, D, RR R) → j_Call 2 i [.int k, .double x] w1 (I, D, RR R) 0 0 Q
set_option maxRecDepth 10000 in
set_option maxHeartbeats 4000000 in
theorem s11 {d : Nat} {I : Nat → Nat → Int32} {D : Nat → Nat → UInt64} {R : Nat → Nat → Option Nat} {Q : j_Po} {a : Int32} {b : Int32}  (hKC : fp_keep 15) (hR : WFR R) (hd : 3 ≤ d)
    (v1 : ∀ k1 : Nat, (k1 < 24) → (a = nI k1) → ((¬ b < -(8000000 : Int32) ∧ ¬ (8000000 : Int32) < b)) → ((I ((R 112 k1).getD 0) 1) ≤ 0) → keepOk (I 109 k1) (FP.ddiv (FP.i2d b) 4620693217682128896))
    (v2 : ∀ k1 : Nat, (k1 < 24) → (a = nI k1) → ((¬ b < -(8000000 : Int32) ∧ ¬ (8000000 : Int32) < b)) → ((I ((R 112 k1).getD 0) 1) ≤ 0) → Q (some (.int 1)) w1 ((j_u I 111 k1 1), (j_u D 110 k1 (kp (I 109 k1) (FP.ddiv (FP.i2d b) 4620693217682128896))), RR R))
    (v3 : ∀ k1 : Nat, (k1 < 24) → (a = nI k1) → ((¬ b < -(8000000 : Int32) ∧ ¬ (8000000 : Int32) < b)) → (¬ (I ((R 112 k1).getD 0) 1) ≤ 0) → Q (some (.int (-3))) w1 (I, D, RR R))
    (v4 : ∀ k1 : Nat, (k1 < 24) → (a = nI k1) → (¬ ((¬ b < -(8000000 : Int32) ∧ ¬ (8000000 : Int32) < b))) → Q (some (.int (-2))) w1 (I, D, RR R))
    (v5 : (¬ (∃ k : Nat, k < 24 ∧ a = nI k)) → Q (some (.int (-2))) w1 (I, D, RR R)) : j_Call d 11 [.ref 0, .int a, .int b] w1 (I, D, RR R) 0 0 Q := by
  refine q_enter (L := [some (.ref 0), some (.int a), some (.int b)]) j_m11 (Nat.le_of_ble_eq_true rfl) rfl ?_
  refine q_iload_n d11_0 rfl ?_
  refine q_invS (av := [.int a]) (rest := []) (d' := 0) (mc' := 0) (ms' := 0) d11_1 (cv9_60 11 rfl) rfl rfl (by omega) (Nat.le_of_ble_eq_true rfl) (Nat.le_of_ble_eq_true rfl) (Nat.le_refl _) (Nat.le_refl _) ?_
  refine r12  (fun k1 h1 h1e => ?_) (fun h1 => ?_)
  ·
    subst h1e
    show j_W 11 d 0 0 0 0 4 [some (.ref 0), some (.int (nI k1)), some (.int b)] [.int 1] w1 (I, D, RR R) Q
    refine q_if_eq (tgt := 16) d11_4 rfl (fun h => absurd h (by decide)) (fun _ => ?_)
    refine q_iload_n d11_7 rfl ?_
    refine q_ldcI (v := 8000000) d11_8 (kc9_64 11 rfl) ?_
    refine q_invS (av := [.int b, .int 8000000]) (rest := []) (d' := 0) (mc' := 0) (ms' := 0) d11_10 (cv9_65 11 rfl) rfl rfl (by omega) (Nat.le_of_ble_eq_true rfl) (Nat.le_of_ble_eq_true rfl) (Nat.le_refl _) (Nat.le_refl _) ?_
    refine p13  (fun h2 => ?_) (fun h2 => ?_)
    ·
      show j_W 11 d 0 0 0 0 13 [some (.ref 0), some (.int (nI k1)), some (.int b)] [.int 1] w1 (I, D, RR R) Q
      refine q_if_ne (tgt := 19) d11_13 rfl (fun _ => ?_) (fun h => absurd h (by decide))
      refine q_aload_n d11_19 rfl ?_
      refine q_getR (x := 108) d11_20 (fs9_53 11 rfl) rfl (lt_w1 rfl) sh0 (rs0_1 R) (by decide) ?_
      refine q_iload_n d11_23 rfl ?_
      refine q_invV (o := 108) (ci := 0) (av := [.int (nI k1)]) (rest := []) (d' := 0) (mc' := 0) (ms' := 0) d11_24 (cv9_69 11 rfl) rfl (by decide) rfl rfl (by omega) (Nat.le_of_ble_eq_true rfl) (Nat.le_of_ble_eq_true rfl) (lt_w1 rfl) sh108 (Nat.le_refl _) (Nat.le_refl _) ?_
      refine s14 (k := k1) hR (by first | omega | decide) (Nat.le_refl _) (fun c3 => ?_) (fun c4 => ?_)
      ·
        show j_W 11 d 0 0 0 0 27 [some (.ref 0), some (.int (nI k1)), some (.int b)] [.int 0] w1 (I, D, RR R) Q
        refine q_if_eq (tgt := 33) d11_27 rfl (fun _ => ?_) (fun h => absurd h (by decide))
        refine q_aload_n d11_33 rfl ?_
        refine q_getR (x := 108) d11_34 (fs9_53 11 rfl) rfl (lt_w1 rfl) sh0 (rs0_1 R) (by decide) ?_
        refine q_getR (x := 110) d11_37 (fs9_72 11 rfl) rfl (lt_w1 rfl) sh108 (rs108_1 R) (by decide) ?_
        refine q_iload_n d11_40 rfl ?_
        refine q_aload_n d11_41 rfl ?_
        refine q_getR (x := 108) d11_42 (fs9_53 11 rfl) rfl (lt_w1 rfl) sh0 (rs0_1 R) (by decide) ?_
        refine q_getR (x := 109) d11_45 (fs9_76 11 rfl) rfl (lt_w1 rfl) sh108 (rs108_0 R) (by decide) ?_
        refine q_iload_n d11_48 rfl ?_
        refine q_iaload (a := k1) d11_49 (lt_w1 rfl) sh109 rfl (by omega) ?_
        refine q_iload_n d11_50 rfl ?_
        refine q_i2d d11_51 ?_
        refine q_ldcD (v := 4620693217682128896) d11_52 (kc9_80 11 rfl) ?_
        refine q_ddiv (n64_i8 _) d11_55 ?_
        refine q_invS (av := [.int (I 109 k1), .double (FP.ddiv (FP.i2d b) 4620693217682128896)]) (rest := [.int (nI k1), .ref 110]) (d' := 2) (mc' := 0) (ms' := 0) d11_56 (cv9_82 11 rfl) rfl rfl (by omega) (Nat.le_of_ble_eq_true rfl) (Nat.le_of_ble_eq_true rfl) (Nat.le_refl _) (Nat.le_refl _) ?_
        refine hKC (v1 k1 h1 rfl h2 c3) ?_
        show j_W 11 d 0 0 0 0 59 [some (.ref 0), some (.int (nI k1)), some (.int b)] [.double (kp (I 109 k1) (FP.ddiv (FP.i2d b) 4620693217682128896)), .int (nI k1), .ref 110] w1 (I, D, RR R) Q
        refine q_dastore (a := k1) d11_59 (lt_w1 rfl) sh110 rfl (by omega) ?_
        refine q_aload_n d11_60 rfl ?_
        refine q_getR (x := 108) d11_61 (fs9_53 11 rfl) rfl (lt_w1 rfl) sh0 (rs0_1 R) (by decide) ?_
        refine q_getR (x := 111) d11_64 (fs9_86 11 rfl) rfl (lt_w1 rfl) sh108 (rs108_2 R) (by decide) ?_
        refine q_iload_n d11_67 rfl ?_
        refine q_iconst (v := 1) (by decide) d11_68 ?_
        refine q_zastore (a := k1) d11_69 (Or.inr rfl) (lt_w1 rfl) sh111 rfl (by omega) ?_
        refine q_iconst (v := 1) (by decide) d11_70 ?_
        exact q_iret d11_71 rfl (Nat.le_refl _) (Nat.le_refl _) (v2 k1 h1 rfl h2 c3)
      ·
        show j_W 11 d 0 0 0 0 27 [some (.ref 0), some (.int (nI k1)), some (.int b)] [.int 1] w1 (I, D, RR R) Q
        refine q_if_eq (tgt := 33) d11_27 rfl (fun h => absurd h (by decide)) (fun _ => ?_)
        refine q_bipush (v := (-3)) (by decide) d11_30 ?_
        exact q_iret d11_32 rfl (Nat.le_refl _) (Nat.le_refl _) (v3 k1 h1 rfl h2 c4)
    ·
      show j_W 11 d 0 0 0 0 13 [some (.ref 0), some (.int (nI k1)), some (.int b)] [.int 0] w1 (I, D, RR R) Q
      refine q_if_ne (tgt := 19) d11_13 rfl (fun h => absurd h (by decide)) (fun _ => ?_)
      refine q_bipush (v := (-2)) (by decide) d11_16 ?_
      exact q_iret d11_18 rfl (Nat.le_refl _) (Nat.le_refl _) (v4 k1 h1 rfl h2)
  ·
    show j_W 11 d 0 0 0 0 4 [some (.ref 0), some (.int a), some (.int b)] [.int 0] w1 (I, D, RR R) Q
    refine q_if_eq (tgt := 16) d11_4 rfl (fun _ => ?_) (fun h => absurd h (by decide))
    refine q_bipush (v := (-2)) (by decide) d11_16 ?_
    exact q_iret d11_18 rfl (Nat.le_refl _) (Nat.le_refl _) (v5 h1)

set_option maxRecDepth 10000 in
set_option maxHeartbeats 4000000 in
theorem s166 {d : Nat} {I : Nat → Nat → Int32} {D : Nat → Nat → UInt64} {R : Nat → Nat → Option Nat} {Q : j_Po} {a : Int32} {b : Int32}  (hKR : fp_keep 171) (hd : 3 ≤ d)
    (v1 : ∀ k1 : Nat, (k1 < 24) → (a = nI k1) → ((¬ b < (-8000000 : Int32) ∧ ¬ (8000000 : Int32) < b)) → (¬ (I 264 k1) = 0) → Q (some (.int (-3))) w1 (I, D, RR R))
    (v2 : ∀ k1 : Nat, (k1 < 24) → (a = nI k1) → ((¬ b < (-8000000 : Int32) ∧ ¬ (8000000 : Int32) < b)) → ((I 264 k1) = 0) → keepOk (I 261 k1) (FP.ddiv (FP.i2d b) 4620693217682128896))
    (v3 : ∀ k1 : Nat, (k1 < 24) → (a = nI k1) → ((¬ b < (-8000000 : Int32) ∧ ¬ (8000000 : Int32) < b)) → ((I 264 k1) = 0) → Q (some (.int 1)) w1 ((j_u I 262 k1 1), (j_u D 263 k1 (kp (I 261 k1) (FP.ddiv (FP.i2d b) 4620693217682128896))), RR R))
    (v4 : ∀ k1 : Nat, (k1 < 24) → (a = nI k1) → (¬ ((¬ b < (-8000000 : Int32) ∧ ¬ (8000000 : Int32) < b))) → Q (some (.int (-2))) w1 (I, D, RR R))
    (v5 : (¬ (∃ k : Nat, k < 24 ∧ a = nI k)) → Q (some (.int (-2))) w1 (I, D, RR R)) : j_Call d 166 [.ref 260, .int a, .int b] w1 (I, D, RR R) 0 0 Q := by
  refine q_enter (L := [some (.ref 260), some (.int a), some (.int b)]) j_m166 (Nat.le_of_ble_eq_true rfl) rfl ?_
  refine q_iload_n d166_0 rfl ?_
  refine q_invS (av := [.int a]) (rest := []) (d' := 1) (mc' := 0) (ms' := 0) d166_1 (cv10_312 166 rfl) rfl rfl (by omega) (Nat.le_of_ble_eq_true rfl) (Nat.le_of_ble_eq_true rfl) (Nat.le_refl _) (Nat.le_refl _) ?_
  refine r167 (Nat.le_refl _)  (fun k1 h1 h1e => ?_) (fun h1 => ?_)
  ·
    subst h1e
    show j_W 166 d 0 0 0 0 4 [some (.ref 260), some (.int (nI k1)), some (.int b)] [.int 1] w1 (I, D, RR R) Q
    refine q_if_eq (tgt := 14) d166_4 rfl (fun h => absurd h (by decide)) (fun _ => ?_)
    refine q_iload_n d166_7 rfl ?_
    refine q_invS (av := [.int b]) (rest := []) (d' := 1) (mc' := 0) (ms' := 0) d166_8 (cv10_315 166 rfl) rfl rfl (by omega) (Nat.le_of_ble_eq_true rfl) (Nat.le_of_ble_eq_true rfl) (Nat.le_refl _) (Nat.le_refl _) ?_
    refine s169   (Nat.le_refl _) (fun c2 => ?_) (fun c3 => ?_)
    ·
      show j_W 166 d 0 0 0 0 11 [some (.ref 260), some (.int (nI k1)), some (.int b)] [.int 1] w1 (I, D, RR R) Q
      refine q_if_ne (tgt := 17) d166_11 rfl (fun _ => ?_) (fun h => absurd h (by decide))
      refine q_aload_n d166_17 rfl ?_
      refine q_iload_n d166_18 rfl ?_
      refine q_invV (o := 260) (ci := 10) (av := [.int (nI k1)]) (rest := []) (d' := 0) (mc' := 0) (ms' := 0) d166_19 (cv10_204 166 rfl) rfl (by decide) rfl rfl (by omega) (Nat.le_of_ble_eq_true rfl) (Nat.le_of_ble_eq_true rfl) (lt_w1 rfl) sh260 (Nat.le_refl _) (Nat.le_refl _) ?_
      refine s170 (k := k1) (by first | omega | decide) (Nat.le_refl _) (fun c4 => ?_) (fun c5 => ?_)
      ·
        show j_W 166 d 0 0 0 0 22 [some (.ref 260), some (.int (nI k1)), some (.int b)] [.int 0] w1 (I, D, RR R) Q
        refine q_if_ne (tgt := 28) d166_22 rfl (fun h => absurd h (by decide)) (fun _ => ?_)
        refine q_bipush (v := (-3)) (by decide) d166_25 ?_
        exact q_iret d166_27 rfl (Nat.le_refl _) (Nat.le_refl _) (v1 k1 h1 rfl c2 c4)
      ·
        show j_W 166 d 0 0 0 0 22 [some (.ref 260), some (.int (nI k1)), some (.int b)] [.int 1] w1 (I, D, RR R) Q
        refine q_if_ne (tgt := 28) d166_22 rfl (fun _ => ?_) (fun h => absurd h (by decide))
        refine q_aload_n d166_28 rfl ?_
        refine q_getR (x := 263) d166_29 (fs10_17 166 rfl) rfl (lt_w1 rfl) sh260 (rs260_2 R) (by decide) ?_
        refine q_iload_n d166_32 rfl ?_
        refine q_aload_n d166_33 rfl ?_
        refine q_getR (x := 261) d166_34 (fs10_9 166 rfl) rfl (lt_w1 rfl) sh260 (rs260_0 R) (by decide) ?_
        refine q_iload_n d166_37 rfl ?_
        refine q_iaload (a := k1) d166_38 (lt_w1 rfl) sh261 rfl (by omega) ?_
        refine q_iload_n d166_39 rfl ?_
        refine q_i2d d166_40 ?_
        refine q_ldcD (v := 4620693217682128896) d166_41 (kc10_318 166 rfl) ?_
        refine q_ddiv (n64_i8 _) d166_44 ?_
        refine q_invS (av := [.int (I 261 k1), .double (FP.ddiv (FP.i2d b) 4620693217682128896)]) (rest := [.int (nI k1), .ref 263]) (d' := 2) (mc' := 0) (ms' := 0) d166_45 (cv10_250 166 rfl) rfl rfl (by omega) (Nat.le_of_ble_eq_true rfl) (Nat.le_of_ble_eq_true rfl) (Nat.le_refl _) (Nat.le_refl _) ?_
        refine hKR (v2 k1 h1 rfl c2 c5) ?_
        show j_W 166 d 0 0 0 0 48 [some (.ref 260), some (.int (nI k1)), some (.int b)] [.double (kp (I 261 k1) (FP.ddiv (FP.i2d b) 4620693217682128896)), .int (nI k1), .ref 263] w1 (I, D, RR R) Q
        refine q_dastore (a := k1) d166_48 (lt_w1 rfl) sh263 rfl (by omega) ?_
        refine q_aload_n d166_49 rfl ?_
        refine q_getR (x := 262) d166_50 (fs10_13 166 rfl) rfl (lt_w1 rfl) sh260 (rs260_1 R) (by decide) ?_
        refine q_iload_n d166_53 rfl ?_
        refine q_iconst (v := 1) (by decide) d166_54 ?_
        refine q_zastore (a := k1) d166_55 (Or.inr rfl) (lt_w1 rfl) sh262 rfl (by omega) ?_
        refine q_iconst (v := 1) (by decide) d166_56 ?_
        exact q_iret d166_57 rfl (Nat.le_refl _) (Nat.le_refl _) (v3 k1 h1 rfl c2 c5)
    ·
      show j_W 166 d 0 0 0 0 11 [some (.ref 260), some (.int (nI k1)), some (.int b)] [.int 0] w1 (I, D, RR R) Q
      refine q_if_ne (tgt := 17) d166_11 rfl (fun h => absurd h (by decide)) (fun _ => ?_)
      refine q_bipush (v := (-2)) (by decide) d166_14 ?_
      exact q_iret d166_16 rfl (Nat.le_refl _) (Nat.le_refl _) (v4 k1 h1 rfl c3)
  ·
    show j_W 166 d 0 0 0 0 4 [some (.ref 260), some (.int a), some (.int b)] [.int 0] w1 (I, D, RR R) Q
    refine q_if_eq (tgt := 14) d166_4 rfl (fun _ => ?_) (fun h => absurd h (by decide))
    refine q_bipush (v := (-2)) (by decide) d166_14 ?_
    exact q_iret d166_16 rfl (Nat.le_refl _) (Nat.le_refl _) (v5 h1)

