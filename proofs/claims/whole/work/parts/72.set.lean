/-! set -/
set_option maxRecDepth 10000 in
set_option maxHeartbeats 4000000 in
theorem sFGe {d : Nat} {I : Nat → Nat → Int32} {D : Nat → Nat → UInt64} {R : Nat → Nat → Option Nat} {Q : j_Po} {f : Nat}  (hf : isF f) (hd : 0 ≤ d)
    (v1 : j_W 18 d 0 0 0 0 12 [some (.ref f), some (.int 0)] [] w1 ((j_u (j_u I f 1 0) f 2 0), D, RR R) Q) : j_Call d 18 [.ref f] w1 (I, D, RR R) 0 0 Q := by
  refine q_enter (L := [some (.ref f), none]) j_m18 (Nat.le_of_ble_eq_true rfl) rfl ?_
  refine q_aload_n d18_0 rfl ?_
  refine q_iconst (v := 0) (by decide) d18_1 ?_
  refine q_putI d18_2 (fs2_18 18 rfl) (Or.inl rfl) rfl (isF_lt hf) (isF_sh hf) ?_
  refine q_aload_n d18_5 rfl ?_
  refine q_iconst (v := 0) (by decide) d18_6 ?_
  refine q_putI d18_7 (fs2_22 18 rfl) (Or.inl rfl) rfl (isF_lt hf) (isF_sh hf) ?_
  refine q_iconst (v := 0) (by decide) d18_10 ?_
  refine q_istore_n (L' := [some (.ref f), some (.int 0)]) d18_11 (Nat.le_of_ble_eq_true rfl) rfl ?_
  exact r_sub (L' := [some (.ref f), some (.int 0)]) ⟨rfl, rfl, trivial⟩ v1

set_option maxRecDepth 10000 in
set_option maxHeartbeats 4000000 in
theorem sFGh {d : Nat} {I : Nat → Nat → Int32} {D : Nat → Nat → UInt64} {R : Nat → Nat → Option Nat} {Q : j_Po} {f : Nat} {k : Nat}  (hf : isF f) (hk : k ≤ 6) (hd : 0 ≤ d)
    (v1 : (6 ≤ k) → Q none w1 (I, D, RR R))
    (v2 : (¬ 6 ≤ k) → j_W 18 d 0 0 0 0 12 [some (.ref f), some (.int (nI (k + 1)))] [] w1 ((j_u I (f + 2) k 0), D, RR R) Q) : j_W 18 d 0 0 0 0 12 [some (.ref f), some (.int (nI k))] [] w1 (I, D, RR R) Q := by
  refine q_iload_n d18_12 rfl ?_
  refine q_bipush (v := 6) (by decide) d18_13 ?_
  refine q_icmp_ge (tgt := 31) d18_15 rfl (fun h1t => ?_) (fun h1f => ?_)
  ·
    have h1tc : 6 ≤ k := (nI_leI (by omega) (by omega)).mp h1t
    exact q_ret d18_31 rfl (Nat.le_refl _) (Nat.le_refl _) (v1 h1tc)
  ·
    have h1fc : ¬ 6 ≤ k := mt (nI_leI (by omega) (by omega)).mpr h1f
    refine q_aload_n d18_18 rfl ?_
    refine q_getR (x := (f + 2)) d18_19 (fs2_15 18 rfl) rfl (isF_lt hf) (isF_sh hf) (isF_r2 R hf) (lt1000 (isF_lt2 hf)) ?_
    refine q_iload_n d18_22 rfl ?_
    refine q_iconst (v := 0) (by decide) d18_23 ?_
    refine q_iastore (a := k) d18_24 (isF_lt2 hf) (isF_sh2 hf) rfl (by omega) ?_
    refine q_iinc (L' := [some (.ref f), some (.int (nI (k + 1)))]) (v := (nI (k + 1))) d18_25 rfl (nI_inc _) rfl ?_
    refine q_goto (tgt := 12) d18_28 rfl ?_
    exact r_sub (L' := [some (.ref f), some (.int (nI (k + 1)))]) ⟨rfl, rfl, trivial⟩ (v2 h1fc)

section FG
variable {d : Nat} {I : Nat → Nat → Int32} {D : Nat → Nat → UInt64} {R : Nat → Nat → Option Nat} {Q : j_Po} {f : Nat}
theorem lFG (hf : isF f) {I0 : Nat → Nat → Int32} (hq : ∀ J, (∀ o, o ≠ f → o ≠ f + 2 → J o = I0 o) → J f = I0 f → (∀ t, t < 6 → J (f + 2) t = 0) → Q none w1 (J, D, RR R)) :
    ∀ (n k : Nat) (J : Nat → Nat → Int32), n + k = 6 → (∀ o, o ≠ f → o ≠ f + 2 → J o = I0 o) → J f = I0 f → (∀ t, t < k → J (f + 2) t = 0) → j_W 18 d 0 0 0 0 12 [some (.ref f), some (.int (nI k))] [] w1 (J, D, RR R) Q := by
  intro n
  induction n with
  | zero =>
    intro k J hk h1 h2 h3
    have : k = 6 := by omega
    subst this
    exact sFGh hf (by omega) (Nat.zero_le _) (fun _ => hq J h1 h2 h3) (fun h => absurd (by omega) h)
  | succ n ih =>
    intro k J hk h1 h2 h3
    refine sFGh hf (by omega) (Nat.zero_le _) (fun h => absurd h (by omega)) (fun _ => ih (k + 1) _ (by omega) (fun o o1 o2 => ?_) ?_ (fun t ht => ?_))
    · rw [← h1 o o1 o2]; funext i; rw [j_u_o _ _ _ o2]
    · rw [← h2]; funext i; rw [j_u_o _ _ _ (by omega)]
    · by_cases e : t = k
      · subst e; rw [j_u_same]
      · rw [j_u_k _ _ e]; exact h3 t (by omega)
theorem cFG (hf : isF f) (hq : ∀ J, (∀ o, o ≠ f → o ≠ f + 2 → J o = I o) → J f 1 = 0 → J f 2 = 0 → (∀ t, t < 6 → J (f + 2) t = 0) → Q none w1 (J, D, RR R)) : j_Call d 18 [.ref f] w1 (I, D, RR R) 0 0 Q := by
  refine sFGe hf (Nat.zero_le _) (lFG hf (I0 := j_u (j_u I f 1 0) f 2 0) (fun J h1 h2 h3 => hq J (fun o o1 o2 => ?_) ?_ ?_ h3) 6 0 _ rfl (fun _ _ _ => rfl) rfl (fun t h => absurd h (Nat.not_lt_zero t)))
  · rw [h1 o o1 o2]; funext i; rw [j_u_o _ _ _ o1, j_u_o _ _ _ o1]
  · rw [h2, j_u_k _ _ (by decide), j_u_same]
  · rw [h2, j_u_same]
end FG
set_option maxRecDepth 10000 in
set_option maxHeartbeats 4000000 in
theorem s11 {d : Nat} {I : Nat → Nat → Int32} {D : Nat → Nat → UInt64} {R : Nat → Nat → Option Nat} {Q : j_Po} {a : Int32} {b : Int32}  (hR : WFR R) (hd : 2 ≤ d)
    (v1 : ∀ k1 : Nat, (k1 < 24) → (a = nI k1) → ((¬ b < -(8000000 : Int32) ∧ ¬ (8000000 : Int32) < b)) → ((I ((R 112 k1).getD 0) 1) ≤ 0) → Sm (FP.ddiv (FP.i2d b) 4620693217682128896))
    (v2 : ∀ k1 : Nat, (k1 < 24) → (a = nI k1) → ((¬ b < -(8000000 : Int32) ∧ ¬ (8000000 : Int32) < b)) → ((I ((R 112 k1).getD 0) 1) ≤ 0) → Q (some (.int 1)) w1 ((j_u I 111 k1 1), (j_u D 110 k1 (kp (I 109 k1) (FP.ddiv (FP.i2d b) 4620693217682128896))), RR R))
    (v3 : ∀ k1 : Nat, (k1 < 24) → (a = nI k1) → ((¬ b < -(8000000 : Int32) ∧ ¬ (8000000 : Int32) < b)) → (¬ (I ((R 112 k1).getD 0) 1) ≤ 0) → Q (some (.int (-3))) w1 (I, D, RR R))
    (v4 : ∀ k1 : Nat, (k1 < 24) → (a = nI k1) → (¬ ((¬ b < -(8000000 : Int32) ∧ ¬ (8000000 : Int32) < b))) → Q (some (.int (-2))) w1 (I, D, RR R))
    (v5 : (¬ (∃ k : Nat, k < 24 ∧ a = nI k)) → Q (some (.int (-2))) w1 (I, D, RR R)) : j_Call d 11 [.ref 0, .int a, .int b] w1 (I, D, RR R) 0 0 Q := by
  refine q_enter (L := [some (.ref 0), some (.int a), some (.int b)]) j_m11 (Nat.le_of_ble_eq_true rfl) rfl ?_
  refine q_iload_n d11_0 rfl ?_
  refine q_invS (av := [.int a]) (rest := []) (d' := 0) (mc' := 0) (ms' := 0) d11_1 (cv9_60 11 rfl) rfl rfl (by omega) (Nat.le_of_ble_eq_true rfl) (Nat.le_of_ble_eq_true rfl) (Nat.le_refl _) (Nat.le_refl _) ?_
  refine r12  (fun k1 h1 h1e => ?_) (fun h1 => ?_)
  ·
    subst h1e
    show j_W 11 d 0 0 0 0 4 [some (.ref 0), some (.int (nI k1)), some (.int b)] [.int 1] w1 (I, D, RR R) Q
    refine q_if_eq (tgt := 16) d11_4 rfl (fun h => absurd h (by decide)) (fun _ => ?_)
    refine q_iload_n d11_7 rfl ?_
    refine q_ldcI (v := 8000000) d11_8 (kc9_64 11 rfl) ?_
    refine q_invS (av := [.int b, .int 8000000]) (rest := []) (d' := 0) (mc' := 0) (ms' := 0) d11_10 (cv9_65 11 rfl) rfl rfl (by omega) (Nat.le_of_ble_eq_true rfl) (Nat.le_of_ble_eq_true rfl) (Nat.le_refl _) (Nat.le_refl _) ?_
    refine p13  (fun h2 => ?_) (fun h2 => ?_)
    ·
      show j_W 11 d 0 0 0 0 13 [some (.ref 0), some (.int (nI k1)), some (.int b)] [.int 1] w1 (I, D, RR R) Q
      refine q_if_ne (tgt := 19) d11_13 rfl (fun _ => ?_) (fun h => absurd h (by decide))
      refine q_aload_n d11_19 rfl ?_
      refine q_getR (x := 108) d11_20 (fs9_53 11 rfl) rfl (lt_w1 rfl) sh0 (rs0_1 R) (by decide) ?_
      refine q_iload_n d11_23 rfl ?_
      refine q_invV (o := 108) (ci := 0) (av := [.int (nI k1)]) (rest := []) (d' := 0) (mc' := 0) (ms' := 0) d11_24 (cv9_69 11 rfl) rfl (by decide) rfl rfl (by omega) (Nat.le_of_ble_eq_true rfl) (Nat.le_of_ble_eq_true rfl) (lt_w1 rfl) sh108 (Nat.le_refl _) (Nat.le_refl _) ?_
      refine s14 (k := k1) hR (by first | omega | decide) (Nat.le_refl _) (fun c3 => ?_) (fun c4 => ?_)
      ·
        show j_W 11 d 0 0 0 0 27 [some (.ref 0), some (.int (nI k1)), some (.int b)] [.int 0] w1 (I, D, RR R) Q
        refine q_if_eq (tgt := 33) d11_27 rfl (fun _ => ?_) (fun h => absurd h (by decide))
        refine q_aload_n d11_33 rfl ?_
        refine q_getR (x := 108) d11_34 (fs9_53 11 rfl) rfl (lt_w1 rfl) sh0 (rs0_1 R) (by decide) ?_
        refine q_getR (x := 110) d11_37 (fs9_72 11 rfl) rfl (lt_w1 rfl) sh108 (rs108_1 R) (by decide) ?_
        refine q_iload_n d11_40 rfl ?_
        refine q_aload_n d11_41 rfl ?_
        refine q_getR (x := 108) d11_42 (fs9_53 11 rfl) rfl (lt_w1 rfl) sh0 (rs0_1 R) (by decide) ?_
        refine q_getR (x := 109) d11_45 (fs9_76 11 rfl) rfl (lt_w1 rfl) sh108 (rs108_0 R) (by decide) ?_
        refine q_iload_n d11_48 rfl ?_
        refine q_iaload (a := k1) d11_49 (lt_w1 rfl) sh109 rfl (by omega) ?_
        refine q_iload_n d11_50 rfl ?_
        refine q_i2d d11_51 ?_
        refine q_ldcD (v := 4620693217682128896) d11_52 (kc9_80 11 rfl) ?_
        refine q_ddiv (n64_i8 _) d11_55 ?_
        refine q_invS (av := [.int (I 109 k1), .double (FP.ddiv (FP.i2d b) 4620693217682128896)]) (rest := [.int (nI k1), .ref 110]) (d' := 1) (mc' := 0) (ms' := 0) d11_56 (cv9_82 11 rfl) rfl rfl (by omega) (Nat.le_of_ble_eq_true rfl) (Nat.le_of_ble_eq_true rfl) (Nat.le_refl _) (Nat.le_refl _) ?_
        refine (fun a b => c15 a (Nat.le_refl _) b) (v1 k1 h1 rfl h2 c3) ?_
        show j_W 11 d 0 0 0 0 59 [some (.ref 0), some (.int (nI k1)), some (.int b)] [.double (kp (I 109 k1) (FP.ddiv (FP.i2d b) 4620693217682128896)), .int (nI k1), .ref 110] w1 (I, D, RR R) Q
        refine q_dastore (a := k1) d11_59 (lt_w1 rfl) sh110 rfl (by omega) ?_
        refine q_aload_n d11_60 rfl ?_
        refine q_getR (x := 108) d11_61 (fs9_53 11 rfl) rfl (lt_w1 rfl) sh0 (rs0_1 R) (by decide) ?_
        refine q_getR (x := 111) d11_64 (fs9_86 11 rfl) rfl (lt_w1 rfl) sh108 (rs108_2 R) (by decide) ?_
        refine q_iload_n d11_67 rfl ?_
        refine q_iconst (v := 1) (by decide) d11_68 ?_
        refine q_zastore (a := k1) d11_69 (Or.inr rfl) (lt_w1 rfl) sh111 rfl (by omega) ?_
        refine q_iconst (v := 1) (by decide) d11_70 ?_
        exact q_iret d11_71 rfl (Nat.le_refl _) (Nat.le_refl _) (v2 k1 h1 rfl h2 c3)
      ·
        show j_W 11 d 0 0 0 0 27 [some (.ref 0), some (.int (nI k1)), some (.int b)] [.int 1] w1 (I, D, RR R) Q
        refine q_if_eq (tgt := 33) d11_27 rfl (fun h => absurd h (by decide)) (fun _ => ?_)
        refine q_bipush (v := (-3)) (by decide) d11_30 ?_
        exact q_iret d11_32 rfl (Nat.le_refl _) (Nat.le_refl _) (v3 k1 h1 rfl h2 c4)
    ·
      show j_W 11 d 0 0 0 0 13 [some (.ref 0), some (.int (nI k1)), some (.int b)] [.int 0] w1 (I, D, RR R) Q
      refine q_if_ne (tgt := 19) d11_13 rfl (fun h => absurd h (by decide)) (fun _ => ?_)
      refine q_bipush (v := (-2)) (by decide) d11_16 ?_
      exact q_iret d11_18 rfl (Nat.le_refl _) (Nat.le_refl _) (v4 k1 h1 rfl h2)
  ·
    show j_W 11 d 0 0 0 0 4 [some (.ref 0), some (.int a), some (.int b)] [.int 0] w1 (I, D, RR R) Q
    refine q_if_eq (tgt := 16) d11_4 rfl (fun _ => ?_) (fun h => absurd h (by decide))
    refine q_bipush (v := (-2)) (by decide) d11_16 ?_
    exact q_iret d11_18 rfl (Nat.le_refl _) (Nat.le_refl _) (v5 h1)

set_option maxRecDepth 10000 in
set_option maxHeartbeats 4000000 in
theorem s11n {d : Nat} {I : Nat → Nat → Int32} {D : Nat → Nat → UInt64} {R : Nat → Nat → Option Nat} {Q : j_Po} {k : Nat} {b : Int32}  (hR : WFR R) (hk : k < 24) (hd : 2 ≤ d)
    (v1 : ((¬ b < -(8000000 : Int32) ∧ ¬ (8000000 : Int32) < b)) → ((I ((R 112 k).getD 0) 1) ≤ 0) → Sm (FP.ddiv (FP.i2d b) 4620693217682128896))
    (v2 : ((¬ b < -(8000000 : Int32) ∧ ¬ (8000000 : Int32) < b)) → ((I ((R 112 k).getD 0) 1) ≤ 0) → Q (some (.int 1)) w1 ((j_u I 111 k 1), (j_u D 110 k (kp (I 109 k) (FP.ddiv (FP.i2d b) 4620693217682128896))), RR R))
    (v3 : ((¬ b < -(8000000 : Int32) ∧ ¬ (8000000 : Int32) < b)) → (¬ (I ((R 112 k).getD 0) 1) ≤ 0) → Q (some (.int (-3))) w1 (I, D, RR R))
    (v4 : (¬ ((¬ b < -(8000000 : Int32) ∧ ¬ (8000000 : Int32) < b))) → Q (some (.int (-2))) w1 (I, D, RR R)) : j_Call d 11 [.ref 0, .int (nI k), .int b] w1 (I, D, RR R) 0 0 Q := by
  refine q_enter (L := [some (.ref 0), some (.int (nI k)), some (.int b)]) j_m11 (Nat.le_of_ble_eq_true rfl) rfl ?_
  refine q_iload_n d11_0 rfl ?_
  refine q_invS (av := [.int (nI k)]) (rest := []) (d' := 0) (mc' := 0) (ms' := 0) d11_1 (cv9_60 11 rfl) rfl rfl (by omega) (Nat.le_of_ble_eq_true rfl) (Nat.le_of_ble_eq_true rfl) (Nat.le_refl _) (Nat.le_refl _) ?_
  refine r12t (by first | omega | decide)  ?_
  show j_W 11 d 0 0 0 0 4 [some (.ref 0), some (.int (nI k)), some (.int b)] [.int 1] w1 (I, D, RR R) Q
  refine q_if_eq (tgt := 16) d11_4 rfl (fun h => absurd h (by decide)) (fun _ => ?_)
  refine q_iload_n d11_7 rfl ?_
  refine q_ldcI (v := 8000000) d11_8 (kc9_64 11 rfl) ?_
  refine q_invS (av := [.int b, .int 8000000]) (rest := []) (d' := 0) (mc' := 0) (ms' := 0) d11_10 (cv9_65 11 rfl) rfl rfl (by omega) (Nat.le_of_ble_eq_true rfl) (Nat.le_of_ble_eq_true rfl) (Nat.le_refl _) (Nat.le_refl _) ?_
  refine p13  (fun h1 => ?_) (fun h1 => ?_)
  ·
    show j_W 11 d 0 0 0 0 13 [some (.ref 0), some (.int (nI k)), some (.int b)] [.int 1] w1 (I, D, RR R) Q
    refine q_if_ne (tgt := 19) d11_13 rfl (fun _ => ?_) (fun h => absurd h (by decide))
    refine q_aload_n d11_19 rfl ?_
    refine q_getR (x := 108) d11_20 (fs9_53 11 rfl) rfl (lt_w1 rfl) sh0 (rs0_1 R) (by decide) ?_
    refine q_iload_n d11_23 rfl ?_
    refine q_invV (o := 108) (ci := 0) (av := [.int (nI k)]) (rest := []) (d' := 0) (mc' := 0) (ms' := 0) d11_24 (cv9_69 11 rfl) rfl (by decide) rfl rfl (by omega) (Nat.le_of_ble_eq_true rfl) (Nat.le_of_ble_eq_true rfl) (lt_w1 rfl) sh108 (Nat.le_refl _) (Nat.le_refl _) ?_
    refine s14 (k := k) hR (by first | omega | decide) (Nat.le_refl _) (fun c2 => ?_) (fun c3 => ?_)
    ·
      show j_W 11 d 0 0 0 0 27 [some (.ref 0), some (.int (nI k)), some (.int b)] [.int 0] w1 (I, D, RR R) Q
      refine q_if_eq (tgt := 33) d11_27 rfl (fun _ => ?_) (fun h => absurd h (by decide))
      refine q_aload_n d11_33 rfl ?_
      refine q_getR (x := 108) d11_34 (fs9_53 11 rfl) rfl (lt_w1 rfl) sh0 (rs0_1 R) (by decide) ?_
      refine q_getR (x := 110) d11_37 (fs9_72 11 rfl) rfl (lt_w1 rfl) sh108 (rs108_1 R) (by decide) ?_
      refine q_iload_n d11_40 rfl ?_
      refine q_aload_n d11_41 rfl ?_
      refine q_getR (x := 108) d11_42 (fs9_53 11 rfl) rfl (lt_w1 rfl) sh0 (rs0_1 R) (by decide) ?_
      refine q_getR (x := 109) d11_45 (fs9_76 11 rfl) rfl (lt_w1 rfl) sh108 (rs108_0 R) (by decide) ?_
      refine q_iload_n d11_48 rfl ?_
      refine q_iaload (a := k) d11_49 (lt_w1 rfl) sh109 rfl (by omega) ?_
      refine q_iload_n d11_50 rfl ?_
      refine q_i2d d11_51 ?_
      refine q_ldcD (v := 4620693217682128896) d11_52 (kc9_80 11 rfl) ?_
      refine q_ddiv (n64_i8 _) d11_55 ?_
      refine q_invS (av := [.int (I 109 k), .double (FP.ddiv (FP.i2d b) 4620693217682128896)]) (rest := [.int (nI k), .ref 110]) (d' := 1) (mc' := 0) (ms' := 0) d11_56 (cv9_82 11 rfl) rfl rfl (by omega) (Nat.le_of_ble_eq_true rfl) (Nat.le_of_ble_eq_true rfl) (Nat.le_refl _) (Nat.le_refl _) ?_
      refine (fun a b => c15 a (Nat.le_refl _) b) (v1 h1 c2) ?_
      show j_W 11 d 0 0 0 0 59 [some (.ref 0), some (.int (nI k)), some (.int b)] [.double (kp (I 109 k) (FP.ddiv (FP.i2d b) 4620693217682128896)), .int (nI k), .ref 110] w1 (I, D, RR R) Q
      refine q_dastore (a := k) d11_59 (lt_w1 rfl) sh110 rfl (by omega) ?_
      refine q_aload_n d11_60 rfl ?_
      refine q_getR (x := 108) d11_61 (fs9_53 11 rfl) rfl (lt_w1 rfl) sh0 (rs0_1 R) (by decide) ?_
      refine q_getR (x := 111) d11_64 (fs9_86 11 rfl) rfl (lt_w1 rfl) sh108 (rs108_2 R) (by decide) ?_
      refine q_iload_n d11_67 rfl ?_
      refine q_iconst (v := 1) (by decide) d11_68 ?_
      refine q_zastore (a := k) d11_69 (Or.inr rfl) (lt_w1 rfl) sh111 rfl (by omega) ?_
      refine q_iconst (v := 1) (by decide) d11_70 ?_
      exact q_iret d11_71 rfl (Nat.le_refl _) (Nat.le_refl _) (v2 h1 c2)
    ·
      show j_W 11 d 0 0 0 0 27 [some (.ref 0), some (.int (nI k)), some (.int b)] [.int 1] w1 (I, D, RR R) Q
      refine q_if_eq (tgt := 33) d11_27 rfl (fun h => absurd h (by decide)) (fun _ => ?_)
      refine q_bipush (v := (-3)) (by decide) d11_30 ?_
      exact q_iret d11_32 rfl (Nat.le_refl _) (Nat.le_refl _) (v3 h1 c3)
  ·
    show j_W 11 d 0 0 0 0 13 [some (.ref 0), some (.int (nI k)), some (.int b)] [.int 0] w1 (I, D, RR R) Q
    refine q_if_ne (tgt := 19) d11_13 rfl (fun h => absurd h (by decide)) (fun _ => ?_)
    refine q_bipush (v := (-2)) (by decide) d11_16 ?_
    exact q_iret d11_18 rfl (Nat.le_refl _) (Nat.le_refl _) (v4 h1)

set_option maxRecDepth 10000 in
set_option maxHeartbeats 4000000 in
theorem s30 {d : Nat} {I : Nat → Nat → Int32} {D : Nat → Nat → UInt64} {R : Nat → Nat → Option Nat} {Q : j_Po} {a : Int32} {b : Int32}  (hR : WFR R) (hd : 2 ≤ d)
    (v1 : ∀ k1 : Nat, (k1 < 24) → (a = nI k1) → ∀ k2 : Nat, (k2 < 6) → (b = nI k2) → Sm (D 110 k1))
    (v2 : ∀ k1 : Nat, (k1 < 24) → (a = nI k1) → ∀ k2 : Nat, (k2 < 6) → (b = nI k2) → Q (some (.int (I 109 k1))) w1 ((j_u I 109 k1 (nI k2)), (j_u D 110 k1 (kp (nI k2) (D 110 k1))), RR R))
    (v3 : ∀ k1 : Nat, (k1 < 24) → (a = nI k1) → (¬ (∃ k : Nat, k < 6 ∧ b = nI k)) → Q (some (.int (-2))) w1 (I, D, RR R))
    (v4 : (¬ (∃ k : Nat, k < 24 ∧ a = nI k)) → Q (some (.int (-2))) w1 (I, D, RR R)) : j_Call d 30 [.ref 0, .int a, .int b] w1 (I, D, RR R) 0 0 Q := by
  refine q_enter (L := [some (.ref 0), some (.int a), some (.int b), none]) j_m30 (Nat.le_of_ble_eq_true rfl) rfl ?_
  refine q_iload_n d30_0 rfl ?_
  refine q_invS (av := [.int a]) (rest := []) (d' := 0) (mc' := 0) (ms' := 0) d30_1 (cv9_60 30 rfl) rfl rfl (by omega) (Nat.le_of_ble_eq_true rfl) (Nat.le_of_ble_eq_true rfl) (Nat.le_refl _) (Nat.le_refl _) ?_
  refine r12  (fun k1 h1 h1e => ?_) (fun h1 => ?_)
  ·
    subst h1e
    show j_W 30 d 0 0 0 0 4 [some (.ref 0), some (.int (nI k1)), some (.int b), none] [.int 1] w1 (I, D, RR R) Q
    refine q_if_eq (tgt := 14) d30_4 rfl (fun h => absurd h (by decide)) (fun _ => ?_)
    refine q_iload_n d30_7 rfl ?_
    refine q_invS (av := [.int b]) (rest := []) (d' := 0) (mc' := 0) (ms' := 0) d30_8 (cv9_105 30 rfl) rfl rfl (by omega) (Nat.le_of_ble_eq_true rfl) (Nat.le_of_ble_eq_true rfl) (Nat.le_refl _) (Nat.le_refl _) ?_
    refine r31  (fun k2 h2 h2e => ?_) (fun h2 => ?_)
    ·
      subst h2e
      show j_W 30 d 0 0 0 0 11 [some (.ref 0), some (.int (nI k1)), some (.int (nI k2)), none] [.int 1] w1 (I, D, RR R) Q
      refine q_if_ne (tgt := 17) d30_11 rfl (fun _ => ?_) (fun h => absurd h (by decide))
      refine q_aload_n d30_17 rfl ?_
      refine q_getR (x := 108) d30_18 (fs9_53 30 rfl) rfl (lt_w1 rfl) sh0 (rs0_1 R) (by decide) ?_
      refine q_getR (x := 109) d30_21 (fs9_76 30 rfl) rfl (lt_w1 rfl) sh108 (rs108_0 R) (by decide) ?_
      refine q_iload_n d30_24 rfl ?_
      refine q_iaload (a := k1) d30_25 (lt_w1 rfl) sh109 rfl (by omega) ?_
      refine q_istore_n (L' := [some (.ref 0), some (.int (nI k1)), some (.int (nI k2)), some (.int (I 109 k1))]) d30_26 (Nat.le_of_ble_eq_true rfl) rfl ?_
      refine q_aload_n d30_27 rfl ?_
      refine q_getR (x := 108) d30_28 (fs9_53 30 rfl) rfl (lt_w1 rfl) sh0 (rs0_1 R) (by decide) ?_
      refine q_getR (x := 109) d30_31 (fs9_76 30 rfl) rfl (lt_w1 rfl) sh108 (rs108_0 R) (by decide) ?_
      refine q_iload_n d30_34 rfl ?_
      refine q_iload_n d30_35 rfl ?_
      refine q_iastore (a := k1) d30_36 (lt_w1 rfl) sh109 rfl (by omega) ?_
      refine q_aload_n d30_37 rfl ?_
      refine q_getR (x := 108) d30_38 (fs9_53 30 rfl) rfl (lt_w1 rfl) sh0 (rs0_1 R) (by decide) ?_
      refine q_getR (x := 110) d30_41 (fs9_72 30 rfl) rfl (lt_w1 rfl) sh108 (rs108_1 R) (by decide) ?_
      refine q_iload_n d30_44 rfl ?_
      refine q_iload_n d30_45 rfl ?_
      refine q_aload_n d30_46 rfl ?_
      refine q_getR (x := 108) d30_47 (fs9_53 30 rfl) rfl (lt_w1 rfl) sh0 (rs0_1 R) (by decide) ?_
      refine q_getR (x := 110) d30_50 (fs9_72 30 rfl) rfl (lt_w1 rfl) sh108 (rs108_1 R) (by decide) ?_
      refine q_iload_n d30_53 rfl ?_
      refine q_daload (a := k1) d30_54 (lt_w1 rfl) sh110 rfl (by omega) ?_
      refine q_invS (av := [.int (nI k2), .double (D 110 k1)]) (rest := [.int (nI k1), .ref 110]) (d' := 1) (mc' := 0) (ms' := 0) d30_55 (cv9_82 30 rfl) rfl rfl (by omega) (Nat.le_of_ble_eq_true rfl) (Nat.le_of_ble_eq_true rfl) (Nat.le_refl _) (Nat.le_refl _) ?_
      refine (fun a b => c15 a (Nat.le_refl _) b) (v1 k1 h1 rfl k2 h2 rfl) ?_
      show j_W 30 d 0 0 0 0 58 [some (.ref 0), some (.int (nI k1)), some (.int (nI k2)), some (.int (I 109 k1))] [.double (kp (nI k2) (D 110 k1)), .int (nI k1), .ref 110] w1 ((j_u I 109 k1 (nI k2)), D, RR R) Q
      refine q_dastore (a := k1) d30_58 (lt_w1 rfl) sh110 rfl (by omega) ?_
      refine q_iload_n d30_59 rfl ?_
      exact q_iret d30_60 rfl (Nat.le_refl _) (Nat.le_refl _) (v2 k1 h1 rfl k2 h2 rfl)
    ·
      show j_W 30 d 0 0 0 0 11 [some (.ref 0), some (.int (nI k1)), some (.int b), none] [.int 0] w1 (I, D, RR R) Q
      refine q_if_ne (tgt := 17) d30_11 rfl (fun h => absurd h (by decide)) (fun _ => ?_)
      refine q_bipush (v := (-2)) (by decide) d30_14 ?_
      exact q_iret d30_16 rfl (Nat.le_refl _) (Nat.le_refl _) (v3 k1 h1 rfl h2)
  ·
    show j_W 30 d 0 0 0 0 4 [some (.ref 0), some (.int a), some (.int b), none] [.int 0] w1 (I, D, RR R) Q
    refine q_if_eq (tgt := 14) d30_4 rfl (fun _ => ?_) (fun h => absurd h (by decide))
    refine q_bipush (v := (-2)) (by decide) d30_14 ?_
    exact q_iret d30_16 rfl (Nat.le_refl _) (Nat.le_refl _) (v4 h1)

set_option maxRecDepth 10000 in
set_option maxHeartbeats 4000000 in
theorem s30n {d : Nat} {I : Nat → Nat → Int32} {D : Nat → Nat → UInt64} {R : Nat → Nat → Option Nat} {Q : j_Po} {k : Nat} {b : Int32}  (hR : WFR R) (hk : k < 24) (hd : 2 ≤ d)
    (v1 : ∀ k1 : Nat, (k1 < 6) → (b = nI k1) → Sm (D 110 k))
    (v2 : ∀ k1 : Nat, (k1 < 6) → (b = nI k1) → Q (some (.int (I 109 k))) w1 ((j_u I 109 k (nI k1)), (j_u D 110 k (kp (nI k1) (D 110 k))), RR R))
    (v3 : (¬ (∃ k : Nat, k < 6 ∧ b = nI k)) → Q (some (.int (-2))) w1 (I, D, RR R)) : j_Call d 30 [.ref 0, .int (nI k), .int b] w1 (I, D, RR R) 0 0 Q := by
  refine q_enter (L := [some (.ref 0), some (.int (nI k)), some (.int b), none]) j_m30 (Nat.le_of_ble_eq_true rfl) rfl ?_
  refine q_iload_n d30_0 rfl ?_
  refine q_invS (av := [.int (nI k)]) (rest := []) (d' := 0) (mc' := 0) (ms' := 0) d30_1 (cv9_60 30 rfl) rfl rfl (by omega) (Nat.le_of_ble_eq_true rfl) (Nat.le_of_ble_eq_true rfl) (Nat.le_refl _) (Nat.le_refl _) ?_
  refine r12t (by first | omega | decide)  ?_
  show j_W 30 d 0 0 0 0 4 [some (.ref 0), some (.int (nI k)), some (.int b), none] [.int 1] w1 (I, D, RR R) Q
  refine q_if_eq (tgt := 14) d30_4 rfl (fun h => absurd h (by decide)) (fun _ => ?_)
  refine q_iload_n d30_7 rfl ?_
  refine q_invS (av := [.int b]) (rest := []) (d' := 0) (mc' := 0) (ms' := 0) d30_8 (cv9_105 30 rfl) rfl rfl (by omega) (Nat.le_of_ble_eq_true rfl) (Nat.le_of_ble_eq_true rfl) (Nat.le_refl _) (Nat.le_refl _) ?_
  refine r31  (fun k1 h1 h1e => ?_) (fun h1 => ?_)
  ·
    subst h1e
    show j_W 30 d 0 0 0 0 11 [some (.ref 0), some (.int (nI k)), some (.int (nI k1)), none] [.int 1] w1 (I, D, RR R) Q
    refine q_if_ne (tgt := 17) d30_11 rfl (fun _ => ?_) (fun h => absurd h (by decide))
    refine q_aload_n d30_17 rfl ?_
    refine q_getR (x := 108) d30_18 (fs9_53 30 rfl) rfl (lt_w1 rfl) sh0 (rs0_1 R) (by decide) ?_
    refine q_getR (x := 109) d30_21 (fs9_76 30 rfl) rfl (lt_w1 rfl) sh108 (rs108_0 R) (by decide) ?_
    refine q_iload_n d30_24 rfl ?_
    refine q_iaload (a := k) d30_25 (lt_w1 rfl) sh109 rfl (by omega) ?_
    refine q_istore_n (L' := [some (.ref 0), some (.int (nI k)), some (.int (nI k1)), some (.int (I 109 k))]) d30_26 (Nat.le_of_ble_eq_true rfl) rfl ?_
    refine q_aload_n d30_27 rfl ?_
    refine q_getR (x := 108) d30_28 (fs9_53 30 rfl) rfl (lt_w1 rfl) sh0 (rs0_1 R) (by decide) ?_
    refine q_getR (x := 109) d30_31 (fs9_76 30 rfl) rfl (lt_w1 rfl) sh108 (rs108_0 R) (by decide) ?_
    refine q_iload_n d30_34 rfl ?_
    refine q_iload_n d30_35 rfl ?_
    refine q_iastore (a := k) d30_36 (lt_w1 rfl) sh109 rfl (by omega) ?_
    refine q_aload_n d30_37 rfl ?_
    refine q_getR (x := 108) d30_38 (fs9_53 30 rfl) rfl (lt_w1 rfl) sh0 (rs0_1 R) (by decide) ?_
    refine q_getR (x := 110) d30_41 (fs9_72 30 rfl) rfl (lt_w1 rfl) sh108 (rs108_1 R) (by decide) ?_
    refine q_iload_n d30_44 rfl ?_
    refine q_iload_n d30_45 rfl ?_
    refine q_aload_n d30_46 rfl ?_
    refine q_getR (x := 108) d30_47 (fs9_53 30 rfl) rfl (lt_w1 rfl) sh0 (rs0_1 R) (by decide) ?_
    refine q_getR (x := 110) d30_50 (fs9_72 30 rfl) rfl (lt_w1 rfl) sh108 (rs108_1 R) (by decide) ?_
    refine q_iload_n d30_53 rfl ?_
    refine q_daload (a := k) d30_54 (lt_w1 rfl) sh110 rfl (by omega) ?_
    refine q_invS (av := [.int (nI k1), .double (D 110 k)]) (rest := [.int (nI k), .ref 110]) (d' := 1) (mc' := 0) (ms' := 0) d30_55 (cv9_82 30 rfl) rfl rfl (by omega) (Nat.le_of_ble_eq_true rfl) (Nat.le_of_ble_eq_true rfl) (Nat.le_refl _) (Nat.le_refl _) ?_
    refine (fun a b => c15 a (Nat.le_refl _) b) (v1 k1 h1 rfl) ?_
    show j_W 30 d 0 0 0 0 58 [some (.ref 0), some (.int (nI k)), some (.int (nI k1)), some (.int (I 109 k))] [.double (kp (nI k1) (D 110 k)), .int (nI k), .ref 110] w1 ((j_u I 109 k (nI k1)), D, RR R) Q
    refine q_dastore (a := k) d30_58 (lt_w1 rfl) sh110 rfl (by omega) ?_
    refine q_iload_n d30_59 rfl ?_
    exact q_iret d30_60 rfl (Nat.le_refl _) (Nat.le_refl _) (v2 k1 h1 rfl)
  ·
    show j_W 30 d 0 0 0 0 11 [some (.ref 0), some (.int (nI k)), some (.int b), none] [.int 0] w1 (I, D, RR R) Q
    refine q_if_ne (tgt := 17) d30_11 rfl (fun h => absurd h (by decide)) (fun _ => ?_)
    refine q_bipush (v := (-2)) (by decide) d30_14 ?_
    exact q_iret d30_16 rfl (Nat.le_refl _) (Nat.le_refl _) (v3 h1)

set_option maxRecDepth 10000 in
set_option maxHeartbeats 4000000 in
theorem s17 {d : Nat} {I : Nat → Nat → Int32} {D : Nat → Nat → UInt64} {R : Nat → Nat → Option Nat} {Q : j_Po} {a : Int32} {β : Bd} (hR : WFR R) (hd : 4 ≤ d)
    (v1 : ∀ k1 : Nat, (k1 < 24) → (a = nI k1) → ∀ J4 : Nat → Nat → Int32, (∀ o, o ≠ ((R 112 k1).getD 0) → o ≠ ((R 112 k1).getD 0) + 2 → J4 o = I o) → (J4 ((R 112 k1).getD 0) 1 = 0) → (J4 ((R 112 k1).getD 0) 2 = 0) → (∀ t, t < 6 → J4 (((R 112 k1).getD 0) + 2) t = 0) → BV β)
    (v2 : ∀ k1 : Nat, (k1 < 24) → (a = nI k1) → ∀ J4 : Nat → Nat → Int32, (∀ o, o ≠ ((R 112 k1).getD 0) → o ≠ ((R 112 k1).getD 0) + 2 → J4 o = I o) → (J4 ((R 112 k1).getD 0) 1 = 0) → (J4 ((R 112 k1).getD 0) 2 = 0) → (∀ t, t < 6 → J4 (((R 112 k1).getD 0) + 2) t = 0) → CB β (j_u J4 111 k1 0) D R)
    (v3 : ∀ k1 : Nat, (k1 < 24) → (a = nI k1) → ∀ J4 : Nat → Nat → Int32, (∀ o, o ≠ ((R 112 k1).getD 0) → o ≠ ((R 112 k1).getD 0) + 2 → J4 o = I o) → (J4 ((R 112 k1).getD 0) 1 = 0) → (J4 ((R 112 k1).getD 0) 2 = 0) → (∀ t, t < 6 → J4 (((R 112 k1).getD 0) + 2) t = 0) → NB (j_u J4 111 k1 0))
    (v4 : ∀ k1 : Nat, (k1 < 24) → (a = nI k1) → ∀ J4 : Nat → Nat → Int32, (∀ o, o ≠ ((R 112 k1).getD 0) → o ≠ ((R 112 k1).getD 0) + 2 → J4 o = I o) → (J4 ((R 112 k1).getD 0) 1 = 0) → (J4 ((R 112 k1).getD 0) 2 = 0) → (∀ t, t < 6 → J4 (((R 112 k1).getD 0) + 2) t = 0) → ∀ J9 : Nat → Nat → Int32, (∀ o', (o' < 205 ∨ 211 ≤ o') → J9 o' = (j_u J4 111 k1 0) o') → (NM β J9) → (OrdB β J9) → Q (some (.int 1)) w1 (J9, D, RR R))
    (v5 : (¬ (∃ k : Nat, k < 24 ∧ a = nI k)) → Q (some (.int (-2))) w1 (I, D, RR R)) : j_Call d 17 [.ref 0, .int a] w1 (I, D, RR R) 0 0 Q := by
  refine q_enter (L := [some (.ref 0), some (.int a)]) j_m17 (Nat.le_of_ble_eq_true rfl) rfl ?_
  refine q_iload_n d17_0 rfl ?_
  refine q_invS (av := [.int a]) (rest := []) (d' := 0) (mc' := 0) (ms' := 0) d17_1 (cv9_60 17 rfl) rfl rfl (by omega) (Nat.le_of_ble_eq_true rfl) (Nat.le_of_ble_eq_true rfl) (Nat.le_refl _) (Nat.le_refl _) ?_
  refine r12  (fun k1 h1 h1e => ?_) (fun h1 => ?_)
  ·
    subst h1e
    show j_W 17 d 0 0 0 0 4 [some (.ref 0), some (.int (nI k1))] [.int 1] w1 (I, D, RR R) Q
    refine q_if_ne (tgt := 10) d17_4 rfl (fun _ => ?_) (fun h => absurd h (by decide))
    refine q_aload_n d17_10 rfl ?_
    refine q_getR (x := 108) d17_11 (fs9_53 17 rfl) rfl (lt_w1 rfl) sh0 (rs0_1 R) (by decide) ?_
    refine q_getR (x := 112) d17_14 (fs9_90 17 rfl) rfl (lt_w1 rfl) sh108 (rs108_3 R) (by decide) ?_
    refine q_iload_n d17_17 rfl ?_
    have g3 := hR.f k1 (by omega)
    refine q_aaload (c := 6) (a := k1) (x := ((R 112 k1).getD 0)) d17_18 (lt_w1 rfl) sh112 (by decide) rfl (by omega) ((RR_d rfl).trans g3.1) (lt1000 (isF_lt g3.2)) ?_
    refine q_invV (o := ((R 112 k1).getD 0)) (ci := 2) (av := []) (rest := []) (d' := 0) (mc' := 0) (ms' := 0) d17_19 (cv9_94 17 rfl) rfl (by decide) rfl rfl (by omega) (Nat.le_of_ble_eq_true rfl) (Nat.le_of_ble_eq_true rfl) (isF_lt g3.2) (isF_sh g3.2) (Nat.le_refl _) (Nat.le_refl _) ?_
    refine cFG g3.2  (fun J4 j5 j6 j7 j8 => ?_)
    show j_W 17 d 0 0 0 0 22 [some (.ref 0), some (.int (nI k1))] [] w1 (J4, D, RR R) Q
    refine q_aload_n d17_22 rfl ?_
    refine q_getR (x := 108) d17_23 (fs9_53 17 rfl) rfl (lt_w1 rfl) sh0 (rs0_1 R) (by decide) ?_
    refine q_getR (x := 111) d17_26 (fs9_86 17 rfl) rfl (lt_w1 rfl) sh108 (rs108_2 R) (by decide) ?_
    refine q_iload_n d17_29 rfl ?_
    refine q_iconst (v := 0) (by decide) d17_30 ?_
    refine q_zastore (a := k1) d17_31 (Or.inl rfl) (lt_w1 rfl) sh111 rfl (by omega) ?_
    refine q_aload_n d17_32 rfl ?_
    refine q_getR (x := 204) d17_33 (fs9_58 17 rfl) rfl (lt_w1 rfl) sh0 (rs0_2 R) (by decide) ?_
    refine q_aload_n d17_36 rfl ?_
    refine q_getR (x := 108) d17_37 (fs9_53 17 rfl) rfl (lt_w1 rfl) sh0 (rs0_1 R) (by decide) ?_
    refine q_invV (o := 204) (ci := 4) (av := [.ref 108]) (rest := []) (d' := 3) (mc' := 0) (ms' := 0) d17_40 (cv9_99 17 rfl) rfl (by decide) rfl rfl (by omega) (Nat.le_of_ble_eq_true rfl) (Nat.le_of_ble_eq_true rfl) (lt_w1 rfl) sh204 (Nat.le_refl _) (Nat.le_refl _) ?_
    refine c19 (β := β) hR (Nat.le_refl _) (v1 k1 h1 rfl J4 j5 j6 j7 j8) (v2 k1 h1 rfl J4 j5 j6 j7 j8) (v3 k1 h1 rfl J4 j5 j6 j7 j8) (fun J9 j10 j11 j12 => ?_)
    show j_W 17 d 0 0 0 0 43 [some (.ref 0), some (.int (nI k1))] [] w1 (J9, D, RR R) Q
    refine q_iconst (v := 1) (by decide) d17_43 ?_
    exact q_iret d17_44 rfl (Nat.le_refl _) (Nat.le_refl _) (v4 k1 h1 rfl J4 j5 j6 j7 j8 J9 j10 j11 j12)
  ·
    show j_W 17 d 0 0 0 0 4 [some (.ref 0), some (.int a)] [.int 0] w1 (I, D, RR R) Q
    refine q_if_ne (tgt := 10) d17_4 rfl (fun h => absurd h (by decide)) (fun _ => ?_)
    refine q_bipush (v := (-2)) (by decide) d17_7 ?_
    exact q_iret d17_9 rfl (Nat.le_refl _) (Nat.le_refl _) (v5 h1)

set_option maxRecDepth 10000 in
set_option maxHeartbeats 4000000 in
theorem s17n {d : Nat} {I : Nat → Nat → Int32} {D : Nat → Nat → UInt64} {R : Nat → Nat → Option Nat} {Q : j_Po} {k : Nat} {β : Bd} (hR : WFR R) (hk : k < 24) (hd : 4 ≤ d)
    (v1 : ∀ J3 : Nat → Nat → Int32, (∀ o, o ≠ ((R 112 k).getD 0) → o ≠ ((R 112 k).getD 0) + 2 → J3 o = I o) → (J3 ((R 112 k).getD 0) 1 = 0) → (J3 ((R 112 k).getD 0) 2 = 0) → (∀ t, t < 6 → J3 (((R 112 k).getD 0) + 2) t = 0) → BV β)
    (v2 : ∀ J3 : Nat → Nat → Int32, (∀ o, o ≠ ((R 112 k).getD 0) → o ≠ ((R 112 k).getD 0) + 2 → J3 o = I o) → (J3 ((R 112 k).getD 0) 1 = 0) → (J3 ((R 112 k).getD 0) 2 = 0) → (∀ t, t < 6 → J3 (((R 112 k).getD 0) + 2) t = 0) → CB β (j_u J3 111 k 0) D R)
    (v3 : ∀ J3 : Nat → Nat → Int32, (∀ o, o ≠ ((R 112 k).getD 0) → o ≠ ((R 112 k).getD 0) + 2 → J3 o = I o) → (J3 ((R 112 k).getD 0) 1 = 0) → (J3 ((R 112 k).getD 0) 2 = 0) → (∀ t, t < 6 → J3 (((R 112 k).getD 0) + 2) t = 0) → NB (j_u J3 111 k 0))
    (v4 : ∀ J3 : Nat → Nat → Int32, (∀ o, o ≠ ((R 112 k).getD 0) → o ≠ ((R 112 k).getD 0) + 2 → J3 o = I o) → (J3 ((R 112 k).getD 0) 1 = 0) → (J3 ((R 112 k).getD 0) 2 = 0) → (∀ t, t < 6 → J3 (((R 112 k).getD 0) + 2) t = 0) → ∀ J8 : Nat → Nat → Int32, (∀ o', (o' < 205 ∨ 211 ≤ o') → J8 o' = (j_u J3 111 k 0) o') → (NM β J8) → (OrdB β J8) → Q (some (.int 1)) w1 (J8, D, RR R)) : j_Call d 17 [.ref 0, .int (nI k)] w1 (I, D, RR R) 0 0 Q := by
  refine q_enter (L := [some (.ref 0), some (.int (nI k))]) j_m17 (Nat.le_of_ble_eq_true rfl) rfl ?_
  refine q_iload_n d17_0 rfl ?_
  refine q_invS (av := [.int (nI k)]) (rest := []) (d' := 0) (mc' := 0) (ms' := 0) d17_1 (cv9_60 17 rfl) rfl rfl (by omega) (Nat.le_of_ble_eq_true rfl) (Nat.le_of_ble_eq_true rfl) (Nat.le_refl _) (Nat.le_refl _) ?_
  refine r12t (by first | omega | decide)  ?_
  show j_W 17 d 0 0 0 0 4 [some (.ref 0), some (.int (nI k))] [.int 1] w1 (I, D, RR R) Q
  refine q_if_ne (tgt := 10) d17_4 rfl (fun _ => ?_) (fun h => absurd h (by decide))
  refine q_aload_n d17_10 rfl ?_
  refine q_getR (x := 108) d17_11 (fs9_53 17 rfl) rfl (lt_w1 rfl) sh0 (rs0_1 R) (by decide) ?_
  refine q_getR (x := 112) d17_14 (fs9_90 17 rfl) rfl (lt_w1 rfl) sh108 (rs108_3 R) (by decide) ?_
  refine q_iload_n d17_17 rfl ?_
  have g2 := hR.f k (by omega)
  refine q_aaload (c := 6) (a := k) (x := ((R 112 k).getD 0)) d17_18 (lt_w1 rfl) sh112 (by decide) rfl (by omega) ((RR_d rfl).trans g2.1) (lt1000 (isF_lt g2.2)) ?_
  refine q_invV (o := ((R 112 k).getD 0)) (ci := 2) (av := []) (rest := []) (d' := 0) (mc' := 0) (ms' := 0) d17_19 (cv9_94 17 rfl) rfl (by decide) rfl rfl (by omega) (Nat.le_of_ble_eq_true rfl) (Nat.le_of_ble_eq_true rfl) (isF_lt g2.2) (isF_sh g2.2) (Nat.le_refl _) (Nat.le_refl _) ?_
  refine cFG g2.2  (fun J3 j4 j5 j6 j7 => ?_)
  show j_W 17 d 0 0 0 0 22 [some (.ref 0), some (.int (nI k))] [] w1 (J3, D, RR R) Q
  refine q_aload_n d17_22 rfl ?_
  refine q_getR (x := 108) d17_23 (fs9_53 17 rfl) rfl (lt_w1 rfl) sh0 (rs0_1 R) (by decide) ?_
  refine q_getR (x := 111) d17_26 (fs9_86 17 rfl) rfl (lt_w1 rfl) sh108 (rs108_2 R) (by decide) ?_
  refine q_iload_n d17_29 rfl ?_
  refine q_iconst (v := 0) (by decide) d17_30 ?_
  refine q_zastore (a := k) d17_31 (Or.inl rfl) (lt_w1 rfl) sh111 rfl (by omega) ?_
  refine q_aload_n d17_32 rfl ?_
  refine q_getR (x := 204) d17_33 (fs9_58 17 rfl) rfl (lt_w1 rfl) sh0 (rs0_2 R) (by decide) ?_
  refine q_aload_n d17_36 rfl ?_
  refine q_getR (x := 108) d17_37 (fs9_53 17 rfl) rfl (lt_w1 rfl) sh0 (rs0_1 R) (by decide) ?_
  refine q_invV (o := 204) (ci := 4) (av := [.ref 108]) (rest := []) (d' := 3) (mc' := 0) (ms' := 0) d17_40 (cv9_99 17 rfl) rfl (by decide) rfl rfl (by omega) (Nat.le_of_ble_eq_true rfl) (Nat.le_of_ble_eq_true rfl) (lt_w1 rfl) sh204 (Nat.le_refl _) (Nat.le_refl _) ?_
  refine c19 (β := β) hR (Nat.le_refl _) (v1 J3 j4 j5 j6 j7) (v2 J3 j4 j5 j6 j7) (v3 J3 j4 j5 j6 j7) (fun J8 j9 j10 j11 => ?_)
  show j_W 17 d 0 0 0 0 43 [some (.ref 0), some (.int (nI k))] [] w1 (J8, D, RR R) Q
  refine q_iconst (v := 1) (by decide) d17_43 ?_
  exact q_iret d17_44 rfl (Nat.le_refl _) (Nat.le_refl _) (v4 J3 j4 j5 j6 j7 J8 j9 j10 j11)

set_option maxRecDepth 10000 in
set_option maxHeartbeats 4000000 in
theorem s116 {d : Nat} {I : Nat → Nat → Int32} {D : Nat → Nat → UInt64} {R : Nat → Nat → Option Nat} {Q : j_Po} {a : Int32} {β : Bd} (hR : WFR R) (hd : 4 ≤ d)
    (v1 : ∀ k1 : Nat, (k1 < 6) → (a = nI k1) → (¬ (I ((R 113 k1).getD 0) 0) = 0) → BV β)
    (v2 : ∀ k1 : Nat, (k1 < 6) → (a = nI k1) → (¬ (I ((R 113 k1).getD 0) 0) = 0) → CB β (j_u I ((R 113 k1).getD 0) 0 0) D R)
    (v3 : ∀ k1 : Nat, (k1 < 6) → (a = nI k1) → (¬ (I ((R 113 k1).getD 0) 0) = 0) → NB (j_u I ((R 113 k1).getD 0) 0 0))
    (v4 : ∀ k1 : Nat, (k1 < 6) → (a = nI k1) → (¬ (I ((R 113 k1).getD 0) 0) = 0) → ∀ J7 : Nat → Nat → Int32, (∀ o', (o' < 205 ∨ 211 ≤ o') → J7 o' = (j_u I ((R 113 k1).getD 0) 0 0) o') → (NM β J7) → (OrdB β J7) → Q (some (.int 1)) w1 (J7, D, RR R))
    (v5 : ∀ k1 : Nat, (k1 < 6) → (a = nI k1) → ((I ((R 113 k1).getD 0) 0) = 0) → Q (some (.int (-3))) w1 (I, D, RR R))
    (v6 : (¬ (∃ k : Nat, k < 6 ∧ a = nI k)) → Q (some (.int (-2))) w1 (I, D, RR R)) : j_Call d 116 [.ref 0, .int a] w1 (I, D, RR R) 0 0 Q := by
  refine q_enter (L := [some (.ref 0), some (.int a)]) j_m116 (Nat.le_of_ble_eq_true rfl) rfl ?_
  refine q_iload_n d116_0 rfl ?_
  refine q_invS (av := [.int a]) (rest := []) (d' := 0) (mc' := 0) (ms' := 0) d116_1 (cv9_183 116 rfl) rfl rfl (by omega) (Nat.le_of_ble_eq_true rfl) (Nat.le_of_ble_eq_true rfl) (Nat.le_refl _) (Nat.le_refl _) ?_
  refine r39  (fun k1 h1 h1e => ?_) (fun h1 => ?_)
  ·
    subst h1e
    show j_W 116 d 0 0 0 0 4 [some (.ref 0), some (.int (nI k1))] [.int 1] w1 (I, D, RR R) Q
    refine q_if_ne (tgt := 10) d116_4 rfl (fun _ => ?_) (fun h => absurd h (by decide))
    refine q_aload_n d116_10 rfl ?_
    refine q_getR (x := 108) d116_11 (fs9_53 116 rfl) rfl (lt_w1 rfl) sh0 (rs0_1 R) (by decide) ?_
    refine q_getR (x := 113) d116_14 (fs9_197 116 rfl) rfl (lt_w1 rfl) sh108 (rs108_4 R) (by decide) ?_
    refine q_iload_n d116_17 rfl ?_
    have g3 := hR.g k1 (by omega)
    refine q_aaload (c := 7) (a := k1) (x := ((R 113 k1).getD 0)) d116_18 (lt_w1 rfl) sh113 (by decide) rfl (by omega) ((RR_d rfl).trans g3.1) (lt1000 (isG_lt g3.2)) ?_
    refine q_getI d116_19 (fs9_231 116 rfl) rfl (isG_lt g3.2) (isG_sh g3.2) ?_
    refine q_if_ne (tgt := 28) d116_22 rfl (fun h4t => ?_) (fun h4f => ?_)
    ·
      refine q_aload_n d116_28 rfl ?_
      refine q_getR (x := 108) d116_29 (fs9_53 116 rfl) rfl (lt_w1 rfl) sh0 (rs0_1 R) (by decide) ?_
      refine q_getR (x := 113) d116_32 (fs9_197 116 rfl) rfl (lt_w1 rfl) sh108 (rs108_4 R) (by decide) ?_
      refine q_iload_n d116_35 rfl ?_
      have g6 := hR.g k1 (by omega)
      refine q_aaload (c := 7) (a := k1) (x := ((R 113 k1).getD 0)) d116_36 (lt_w1 rfl) sh113 (by decide) rfl (by omega) ((RR_d rfl).trans g6.1) (lt1000 (isG_lt g6.2)) ?_
      refine q_iconst (v := 0) (by decide) d116_37 ?_
      refine q_putZ d116_38 (fs9_231 116 rfl) (Or.inl rfl) rfl (Or.inl rfl) (isG_lt g6.2) (isG_sh g6.2) ?_
      refine q_aload_n d116_41 rfl ?_
      refine q_getR (x := 204) d116_42 (fs9_58 116 rfl) rfl (lt_w1 rfl) sh0 (rs0_2 R) (by decide) ?_
      refine q_aload_n d116_45 rfl ?_
      refine q_getR (x := 108) d116_46 (fs9_53 116 rfl) rfl (lt_w1 rfl) sh0 (rs0_1 R) (by decide) ?_
      refine q_invV (o := 204) (ci := 4) (av := [.ref 108]) (rest := []) (d' := 3) (mc' := 0) (ms' := 0) d116_49 (cv9_99 116 rfl) rfl (by decide) rfl rfl (by omega) (Nat.le_of_ble_eq_true rfl) (Nat.le_of_ble_eq_true rfl) (lt_w1 rfl) sh204 (Nat.le_refl _) (Nat.le_refl _) ?_
      refine c19 (β := β) hR (Nat.le_refl _) (v1 k1 h1 rfl h4t) (v2 k1 h1 rfl h4t) (v3 k1 h1 rfl h4t) (fun J7 j8 j9 j10 => ?_)
      show j_W 116 d 0 0 0 0 52 [some (.ref 0), some (.int (nI k1))] [] w1 (J7, D, RR R) Q
      refine q_iconst (v := 1) (by decide) d116_52 ?_
      exact q_iret d116_53 rfl (Nat.le_refl _) (Nat.le_refl _) (v4 k1 h1 rfl h4t J7 j8 j9 j10)
    ·
      refine q_bipush (v := (-3)) (by decide) d116_25 ?_
      exact q_iret d116_27 rfl (Nat.le_refl _) (Nat.le_refl _) (v5 k1 h1 rfl h4f)
  ·
    show j_W 116 d 0 0 0 0 4 [some (.ref 0), some (.int a)] [.int 0] w1 (I, D, RR R) Q
    refine q_if_ne (tgt := 10) d116_4 rfl (fun h => absurd h (by decide)) (fun _ => ?_)
    refine q_bipush (v := (-2)) (by decide) d116_7 ?_
    exact q_iret d116_9 rfl (Nat.le_refl _) (Nat.le_refl _) (v6 h1)

set_option maxRecDepth 10000 in
set_option maxHeartbeats 4000000 in
theorem s116n {d : Nat} {I : Nat → Nat → Int32} {D : Nat → Nat → UInt64} {R : Nat → Nat → Option Nat} {Q : j_Po} {k : Nat} {β : Bd} (hR : WFR R) (hk : k < 6) (hd : 4 ≤ d)
    (v1 : (¬ (I ((R 113 k).getD 0) 0) = 0) → BV β)
    (v2 : (¬ (I ((R 113 k).getD 0) 0) = 0) → CB β (j_u I ((R 113 k).getD 0) 0 0) D R)
    (v3 : (¬ (I ((R 113 k).getD 0) 0) = 0) → NB (j_u I ((R 113 k).getD 0) 0 0))
    (v4 : (¬ (I ((R 113 k).getD 0) 0) = 0) → ∀ J6 : Nat → Nat → Int32, (∀ o', (o' < 205 ∨ 211 ≤ o') → J6 o' = (j_u I ((R 113 k).getD 0) 0 0) o') → (NM β J6) → (OrdB β J6) → Q (some (.int 1)) w1 (J6, D, RR R))
    (v5 : ((I ((R 113 k).getD 0) 0) = 0) → Q (some (.int (-3))) w1 (I, D, RR R)) : j_Call d 116 [.ref 0, .int (nI k)] w1 (I, D, RR R) 0 0 Q := by
  refine q_enter (L := [some (.ref 0), some (.int (nI k))]) j_m116 (Nat.le_of_ble_eq_true rfl) rfl ?_
  refine q_iload_n d116_0 rfl ?_
  refine q_invS (av := [.int (nI k)]) (rest := []) (d' := 0) (mc' := 0) (ms' := 0) d116_1 (cv9_183 116 rfl) rfl rfl (by omega) (Nat.le_of_ble_eq_true rfl) (Nat.le_of_ble_eq_true rfl) (Nat.le_refl _) (Nat.le_refl _) ?_
  refine r39t (by first | omega | decide)  ?_
  show j_W 116 d 0 0 0 0 4 [some (.ref 0), some (.int (nI k))] [.int 1] w1 (I, D, RR R) Q
  refine q_if_ne (tgt := 10) d116_4 rfl (fun _ => ?_) (fun h => absurd h (by decide))
  refine q_aload_n d116_10 rfl ?_
  refine q_getR (x := 108) d116_11 (fs9_53 116 rfl) rfl (lt_w1 rfl) sh0 (rs0_1 R) (by decide) ?_
  refine q_getR (x := 113) d116_14 (fs9_197 116 rfl) rfl (lt_w1 rfl) sh108 (rs108_4 R) (by decide) ?_
  refine q_iload_n d116_17 rfl ?_
  have g2 := hR.g k (by omega)
  refine q_aaload (c := 7) (a := k) (x := ((R 113 k).getD 0)) d116_18 (lt_w1 rfl) sh113 (by decide) rfl (by omega) ((RR_d rfl).trans g2.1) (lt1000 (isG_lt g2.2)) ?_
  refine q_getI d116_19 (fs9_231 116 rfl) rfl (isG_lt g2.2) (isG_sh g2.2) ?_
  refine q_if_ne (tgt := 28) d116_22 rfl (fun h3t => ?_) (fun h3f => ?_)
  ·
    refine q_aload_n d116_28 rfl ?_
    refine q_getR (x := 108) d116_29 (fs9_53 116 rfl) rfl (lt_w1 rfl) sh0 (rs0_1 R) (by decide) ?_
    refine q_getR (x := 113) d116_32 (fs9_197 116 rfl) rfl (lt_w1 rfl) sh108 (rs108_4 R) (by decide) ?_
    refine q_iload_n d116_35 rfl ?_
    have g5 := hR.g k (by omega)
    refine q_aaload (c := 7) (a := k) (x := ((R 113 k).getD 0)) d116_36 (lt_w1 rfl) sh113 (by decide) rfl (by omega) ((RR_d rfl).trans g5.1) (lt1000 (isG_lt g5.2)) ?_
    refine q_iconst (v := 0) (by decide) d116_37 ?_
    refine q_putZ d116_38 (fs9_231 116 rfl) (Or.inl rfl) rfl (Or.inl rfl) (isG_lt g5.2) (isG_sh g5.2) ?_
    refine q_aload_n d116_41 rfl ?_
    refine q_getR (x := 204) d116_42 (fs9_58 116 rfl) rfl (lt_w1 rfl) sh0 (rs0_2 R) (by decide) ?_
    refine q_aload_n d116_45 rfl ?_
    refine q_getR (x := 108) d116_46 (fs9_53 116 rfl) rfl (lt_w1 rfl) sh0 (rs0_1 R) (by decide) ?_
    refine q_invV (o := 204) (ci := 4) (av := [.ref 108]) (rest := []) (d' := 3) (mc' := 0) (ms' := 0) d116_49 (cv9_99 116 rfl) rfl (by decide) rfl rfl (by omega) (Nat.le_of_ble_eq_true rfl) (Nat.le_of_ble_eq_true rfl) (lt_w1 rfl) sh204 (Nat.le_refl _) (Nat.le_refl _) ?_
    refine c19 (β := β) hR (Nat.le_refl _) (v1 h3t) (v2 h3t) (v3 h3t) (fun J6 j7 j8 j9 => ?_)
    show j_W 116 d 0 0 0 0 52 [some (.ref 0), some (.int (nI k))] [] w1 (J6, D, RR R) Q
    refine q_iconst (v := 1) (by decide) d116_52 ?_
    exact q_iret d116_53 rfl (Nat.le_refl _) (Nat.le_refl _) (v4 h3t J6 j7 j8 j9)
  ·
    refine q_bipush (v := (-3)) (by decide) d116_25 ?_
    exact q_iret d116_27 rfl (Nat.le_refl _) (Nat.le_refl _) (v5 h3f)

set_option maxRecDepth 10000 in
set_option maxHeartbeats 4000000 in
theorem s166 {d : Nat} {I : Nat → Nat → Int32} {D : Nat → Nat → UInt64} {R : Nat → Nat → Option Nat} {Q : j_Po} {a : Int32} {b : Int32}   (hd : 2 ≤ d)
    (v1 : ∀ k1 : Nat, (k1 < 24) → (a = nI k1) → ((¬ b < (-8000000 : Int32) ∧ ¬ (8000000 : Int32) < b)) → (¬ (I 264 k1) = 0) → Q (some (.int (-3))) w1 (I, D, RR R))
    (v2 : ∀ k1 : Nat, (k1 < 24) → (a = nI k1) → ((¬ b < (-8000000 : Int32) ∧ ¬ (8000000 : Int32) < b)) → ((I 264 k1) = 0) → Sm (FP.ddiv (FP.i2d b) 4620693217682128896))
    (v3 : ∀ k1 : Nat, (k1 < 24) → (a = nI k1) → ((¬ b < (-8000000 : Int32) ∧ ¬ (8000000 : Int32) < b)) → ((I 264 k1) = 0) → Q (some (.int 1)) w1 ((j_u I 262 k1 1), (j_u D 263 k1 (kp (I 261 k1) (FP.ddiv (FP.i2d b) 4620693217682128896))), RR R))
    (v4 : ∀ k1 : Nat, (k1 < 24) → (a = nI k1) → (¬ ((¬ b < (-8000000 : Int32) ∧ ¬ (8000000 : Int32) < b))) → Q (some (.int (-2))) w1 (I, D, RR R))
    (v5 : (¬ (∃ k : Nat, k < 24 ∧ a = nI k)) → Q (some (.int (-2))) w1 (I, D, RR R)) : j_Call d 166 [.ref 260, .int a, .int b] w1 (I, D, RR R) 0 0 Q := by
  refine q_enter (L := [some (.ref 260), some (.int a), some (.int b)]) j_m166 (Nat.le_of_ble_eq_true rfl) rfl ?_
  refine q_iload_n d166_0 rfl ?_
  refine q_invS (av := [.int a]) (rest := []) (d' := 1) (mc' := 0) (ms' := 0) d166_1 (cv10_312 166 rfl) rfl rfl (by omega) (Nat.le_of_ble_eq_true rfl) (Nat.le_of_ble_eq_true rfl) (Nat.le_refl _) (Nat.le_refl _) ?_
  refine r167 (Nat.le_refl _)  (fun k1 h1 h1e => ?_) (fun h1 => ?_)
  ·
    subst h1e
    show j_W 166 d 0 0 0 0 4 [some (.ref 260), some (.int (nI k1)), some (.int b)] [.int 1] w1 (I, D, RR R) Q
    refine q_if_eq (tgt := 14) d166_4 rfl (fun h => absurd h (by decide)) (fun _ => ?_)
    refine q_iload_n d166_7 rfl ?_
    refine q_invS (av := [.int b]) (rest := []) (d' := 1) (mc' := 0) (ms' := 0) d166_8 (cv10_315 166 rfl) rfl rfl (by omega) (Nat.le_of_ble_eq_true rfl) (Nat.le_of_ble_eq_true rfl) (Nat.le_refl _) (Nat.le_refl _) ?_
    refine s169   (Nat.le_refl _) (fun c2 => ?_) (fun c3 => ?_)
    ·
      show j_W 166 d 0 0 0 0 11 [some (.ref 260), some (.int (nI k1)), some (.int b)] [.int 1] w1 (I, D, RR R) Q
      refine q_if_ne (tgt := 17) d166_11 rfl (fun _ => ?_) (fun h => absurd h (by decide))
      refine q_aload_n d166_17 rfl ?_
      refine q_iload_n d166_18 rfl ?_
      refine q_invV (o := 260) (ci := 10) (av := [.int (nI k1)]) (rest := []) (d' := 0) (mc' := 0) (ms' := 0) d166_19 (cv10_204 166 rfl) rfl (by decide) rfl rfl (by omega) (Nat.le_of_ble_eq_true rfl) (Nat.le_of_ble_eq_true rfl) (lt_w1 rfl) sh260 (Nat.le_refl _) (Nat.le_refl _) ?_
      refine s170 (k := k1) (by first | omega | decide) (Nat.le_refl _) (fun c4 => ?_) (fun c5 => ?_)
      ·
        show j_W 166 d 0 0 0 0 22 [some (.ref 260), some (.int (nI k1)), some (.int b)] [.int 0] w1 (I, D, RR R) Q
        refine q_if_ne (tgt := 28) d166_22 rfl (fun h => absurd h (by decide)) (fun _ => ?_)
        refine q_bipush (v := (-3)) (by decide) d166_25 ?_
        exact q_iret d166_27 rfl (Nat.le_refl _) (Nat.le_refl _) (v1 k1 h1 rfl c2 c4)
      ·
        show j_W 166 d 0 0 0 0 22 [some (.ref 260), some (.int (nI k1)), some (.int b)] [.int 1] w1 (I, D, RR R) Q
        refine q_if_ne (tgt := 28) d166_22 rfl (fun _ => ?_) (fun h => absurd h (by decide))
        refine q_aload_n d166_28 rfl ?_
        refine q_getR (x := 263) d166_29 (fs10_17 166 rfl) rfl (lt_w1 rfl) sh260 (rs260_2 R) (by decide) ?_
        refine q_iload_n d166_32 rfl ?_
        refine q_aload_n d166_33 rfl ?_
        refine q_getR (x := 261) d166_34 (fs10_9 166 rfl) rfl (lt_w1 rfl) sh260 (rs260_0 R) (by decide) ?_
        refine q_iload_n d166_37 rfl ?_
        refine q_iaload (a := k1) d166_38 (lt_w1 rfl) sh261 rfl (by omega) ?_
        refine q_iload_n d166_39 rfl ?_
        refine q_i2d d166_40 ?_
        refine q_ldcD (v := 4620693217682128896) d166_41 (kc10_318 166 rfl) ?_
        refine q_ddiv (n64_i8 _) d166_44 ?_
        refine q_invS (av := [.int (I 261 k1), .double (FP.ddiv (FP.i2d b) 4620693217682128896)]) (rest := [.int (nI k1), .ref 263]) (d' := 1) (mc' := 0) (ms' := 0) d166_45 (cv10_250 166 rfl) rfl rfl (by omega) (Nat.le_of_ble_eq_true rfl) (Nat.le_of_ble_eq_true rfl) (Nat.le_refl _) (Nat.le_refl _) ?_
        refine (fun a b => c171 a (Nat.le_refl _) b) (v2 k1 h1 rfl c2 c5) ?_
        show j_W 166 d 0 0 0 0 48 [some (.ref 260), some (.int (nI k1)), some (.int b)] [.double (kp (I 261 k1) (FP.ddiv (FP.i2d b) 4620693217682128896)), .int (nI k1), .ref 263] w1 (I, D, RR R) Q
        refine q_dastore (a := k1) d166_48 (lt_w1 rfl) sh263 rfl (by omega) ?_
        refine q_aload_n d166_49 rfl ?_
        refine q_getR (x := 262) d166_50 (fs10_13 166 rfl) rfl (lt_w1 rfl) sh260 (rs260_1 R) (by decide) ?_
        refine q_iload_n d166_53 rfl ?_
        refine q_iconst (v := 1) (by decide) d166_54 ?_
        refine q_zastore (a := k1) d166_55 (Or.inr rfl) (lt_w1 rfl) sh262 rfl (by omega) ?_
        refine q_iconst (v := 1) (by decide) d166_56 ?_
        exact q_iret d166_57 rfl (Nat.le_refl _) (Nat.le_refl _) (v3 k1 h1 rfl c2 c5)
    ·
      show j_W 166 d 0 0 0 0 11 [some (.ref 260), some (.int (nI k1)), some (.int b)] [.int 0] w1 (I, D, RR R) Q
      refine q_if_ne (tgt := 17) d166_11 rfl (fun h => absurd h (by decide)) (fun _ => ?_)
      refine q_bipush (v := (-2)) (by decide) d166_14 ?_
      exact q_iret d166_16 rfl (Nat.le_refl _) (Nat.le_refl _) (v4 k1 h1 rfl c3)
  ·
    show j_W 166 d 0 0 0 0 4 [some (.ref 260), some (.int a), some (.int b)] [.int 0] w1 (I, D, RR R) Q
    refine q_if_eq (tgt := 14) d166_4 rfl (fun _ => ?_) (fun h => absurd h (by decide))
    refine q_bipush (v := (-2)) (by decide) d166_14 ?_
    exact q_iret d166_16 rfl (Nat.le_refl _) (Nat.le_refl _) (v5 h1)

set_option maxRecDepth 10000 in
set_option maxHeartbeats 4000000 in
theorem s166n {d : Nat} {I : Nat → Nat → Int32} {D : Nat → Nat → UInt64} {R : Nat → Nat → Option Nat} {Q : j_Po} {k : Nat} {b : Int32}  (hk : k < 24) (hd : 2 ≤ d)
    (v1 : ((¬ b < (-8000000 : Int32) ∧ ¬ (8000000 : Int32) < b)) → (¬ (I 264 k) = 0) → Q (some (.int (-3))) w1 (I, D, RR R))
    (v2 : ((¬ b < (-8000000 : Int32) ∧ ¬ (8000000 : Int32) < b)) → ((I 264 k) = 0) → Sm (FP.ddiv (FP.i2d b) 4620693217682128896))
    (v3 : ((¬ b < (-8000000 : Int32) ∧ ¬ (8000000 : Int32) < b)) → ((I 264 k) = 0) → Q (some (.int 1)) w1 ((j_u I 262 k 1), (j_u D 263 k (kp (I 261 k) (FP.ddiv (FP.i2d b) 4620693217682128896))), RR R))
    (v4 : (¬ ((¬ b < (-8000000 : Int32) ∧ ¬ (8000000 : Int32) < b))) → Q (some (.int (-2))) w1 (I, D, RR R)) : j_Call d 166 [.ref 260, .int (nI k), .int b] w1 (I, D, RR R) 0 0 Q := by
  refine q_enter (L := [some (.ref 260), some (.int (nI k)), some (.int b)]) j_m166 (Nat.le_of_ble_eq_true rfl) rfl ?_
  refine q_iload_n d166_0 rfl ?_
  refine q_invS (av := [.int (nI k)]) (rest := []) (d' := 1) (mc' := 0) (ms' := 0) d166_1 (cv10_312 166 rfl) rfl rfl (by omega) (Nat.le_of_ble_eq_true rfl) (Nat.le_of_ble_eq_true rfl) (Nat.le_refl _) (Nat.le_refl _) ?_
  refine r167t (by first | omega | decide) (Nat.le_refl _)  ?_
  show j_W 166 d 0 0 0 0 4 [some (.ref 260), some (.int (nI k)), some (.int b)] [.int 1] w1 (I, D, RR R) Q
  refine q_if_eq (tgt := 14) d166_4 rfl (fun h => absurd h (by decide)) (fun _ => ?_)
  refine q_iload_n d166_7 rfl ?_
  refine q_invS (av := [.int b]) (rest := []) (d' := 1) (mc' := 0) (ms' := 0) d166_8 (cv10_315 166 rfl) rfl rfl (by omega) (Nat.le_of_ble_eq_true rfl) (Nat.le_of_ble_eq_true rfl) (Nat.le_refl _) (Nat.le_refl _) ?_
  refine s169   (Nat.le_refl _) (fun c1 => ?_) (fun c2 => ?_)
  ·
    show j_W 166 d 0 0 0 0 11 [some (.ref 260), some (.int (nI k)), some (.int b)] [.int 1] w1 (I, D, RR R) Q
    refine q_if_ne (tgt := 17) d166_11 rfl (fun _ => ?_) (fun h => absurd h (by decide))
    refine q_aload_n d166_17 rfl ?_
    refine q_iload_n d166_18 rfl ?_
    refine q_invV (o := 260) (ci := 10) (av := [.int (nI k)]) (rest := []) (d' := 0) (mc' := 0) (ms' := 0) d166_19 (cv10_204 166 rfl) rfl (by decide) rfl rfl (by omega) (Nat.le_of_ble_eq_true rfl) (Nat.le_of_ble_eq_true rfl) (lt_w1 rfl) sh260 (Nat.le_refl _) (Nat.le_refl _) ?_
    refine s170 (k := k) (by first | omega | decide) (Nat.le_refl _) (fun c3 => ?_) (fun c4 => ?_)
    ·
      show j_W 166 d 0 0 0 0 22 [some (.ref 260), some (.int (nI k)), some (.int b)] [.int 0] w1 (I, D, RR R) Q
      refine q_if_ne (tgt := 28) d166_22 rfl (fun h => absurd h (by decide)) (fun _ => ?_)
      refine q_bipush (v := (-3)) (by decide) d166_25 ?_
      exact q_iret d166_27 rfl (Nat.le_refl _) (Nat.le_refl _) (v1 c1 c3)
    ·
      show j_W 166 d 0 0 0 0 22 [some (.ref 260), some (.int (nI k)), some (.int b)] [.int 1] w1 (I, D, RR R) Q
      refine q_if_ne (tgt := 28) d166_22 rfl (fun _ => ?_) (fun h => absurd h (by decide))
      refine q_aload_n d166_28 rfl ?_
      refine q_getR (x := 263) d166_29 (fs10_17 166 rfl) rfl (lt_w1 rfl) sh260 (rs260_2 R) (by decide) ?_
      refine q_iload_n d166_32 rfl ?_
      refine q_aload_n d166_33 rfl ?_
      refine q_getR (x := 261) d166_34 (fs10_9 166 rfl) rfl (lt_w1 rfl) sh260 (rs260_0 R) (by decide) ?_
      refine q_iload_n d166_37 rfl ?_
      refine q_iaload (a := k) d166_38 (lt_w1 rfl) sh261 rfl (by omega) ?_
      refine q_iload_n d166_39 rfl ?_
      refine q_i2d d166_40 ?_
      refine q_ldcD (v := 4620693217682128896) d166_41 (kc10_318 166 rfl) ?_
      refine q_ddiv (n64_i8 _) d166_44 ?_
      refine q_invS (av := [.int (I 261 k), .double (FP.ddiv (FP.i2d b) 4620693217682128896)]) (rest := [.int (nI k), .ref 263]) (d' := 1) (mc' := 0) (ms' := 0) d166_45 (cv10_250 166 rfl) rfl rfl (by omega) (Nat.le_of_ble_eq_true rfl) (Nat.le_of_ble_eq_true rfl) (Nat.le_refl _) (Nat.le_refl _) ?_
      refine (fun a b => c171 a (Nat.le_refl _) b) (v2 c1 c4) ?_
      show j_W 166 d 0 0 0 0 48 [some (.ref 260), some (.int (nI k)), some (.int b)] [.double (kp (I 261 k) (FP.ddiv (FP.i2d b) 4620693217682128896)), .int (nI k), .ref 263] w1 (I, D, RR R) Q
      refine q_dastore (a := k) d166_48 (lt_w1 rfl) sh263 rfl (by omega) ?_
      refine q_aload_n d166_49 rfl ?_
      refine q_getR (x := 262) d166_50 (fs10_13 166 rfl) rfl (lt_w1 rfl) sh260 (rs260_1 R) (by decide) ?_
      refine q_iload_n d166_53 rfl ?_
      refine q_iconst (v := 1) (by decide) d166_54 ?_
      refine q_zastore (a := k) d166_55 (Or.inr rfl) (lt_w1 rfl) sh262 rfl (by omega) ?_
      refine q_iconst (v := 1) (by decide) d166_56 ?_
      exact q_iret d166_57 rfl (Nat.le_refl _) (Nat.le_refl _) (v3 c1 c4)
  ·
    show j_W 166 d 0 0 0 0 11 [some (.ref 260), some (.int (nI k)), some (.int b)] [.int 0] w1 (I, D, RR R) Q
    refine q_if_ne (tgt := 17) d166_11 rfl (fun h => absurd h (by decide)) (fun _ => ?_)
    refine q_bipush (v := (-2)) (by decide) d166_14 ?_
    exact q_iret d166_16 rfl (Nat.le_refl _) (Nat.le_refl _) (v4 c2)

set_option maxRecDepth 10000 in
set_option maxHeartbeats 4000000 in
theorem s175 {d : Nat} {I : Nat → Nat → Int32} {D : Nat → Nat → UInt64} {R : Nat → Nat → Option Nat} {Q : j_Po} {a : Int32} {b : Int32}   (hd : 2 ≤ d)
    (v1 : ∀ k1 : Nat, (k1 < 24) → (a = nI k1) → ((¬ b < (0 : Int32) ∧ ¬ (5 : Int32) < b)) → (¬ ((j_u I 261 k1 b) 264 k1) = 0) → Q (some (.int (I 261 k1))) w1 ((j_u I 261 k1 b), D, RR R))
    (v2 : ∀ k1 : Nat, (k1 < 24) → (a = nI k1) → ((¬ b < (0 : Int32) ∧ ¬ (5 : Int32) < b)) → (((j_u I 261 k1 b) 264 k1) = 0) → Sm (D 263 k1))
    (v3 : ∀ k1 : Nat, (k1 < 24) → (a = nI k1) → ((¬ b < (0 : Int32) ∧ ¬ (5 : Int32) < b)) → (((j_u I 261 k1 b) 264 k1) = 0) → Q (some (.int (I 261 k1))) w1 ((j_u I 261 k1 b), (j_u D 263 k1 (kp b (D 263 k1))), RR R))
    (v4 : ∀ k1 : Nat, (k1 < 24) → (a = nI k1) → (¬ ((¬ b < (0 : Int32) ∧ ¬ (5 : Int32) < b))) → Q (some (.int (-2))) w1 (I, D, RR R))
    (v5 : (¬ (∃ k : Nat, k < 24 ∧ a = nI k)) → Q (some (.int (-2))) w1 (I, D, RR R)) : j_Call d 175 [.ref 260, .int a, .int b] w1 (I, D, RR R) 0 0 Q := by
  refine q_enter (L := [some (.ref 260), some (.int a), some (.int b), none]) j_m175 (Nat.le_of_ble_eq_true rfl) rfl ?_
  refine q_iload_n d175_0 rfl ?_
  refine q_invS (av := [.int a]) (rest := []) (d' := 1) (mc' := 0) (ms' := 0) d175_1 (cv10_312 175 rfl) rfl rfl (by omega) (Nat.le_of_ble_eq_true rfl) (Nat.le_of_ble_eq_true rfl) (Nat.le_refl _) (Nat.le_refl _) ?_
  refine r167 (Nat.le_refl _)  (fun k1 h1 h1e => ?_) (fun h1 => ?_)
  ·
    subst h1e
    show j_W 175 d 0 0 0 0 4 [some (.ref 260), some (.int (nI k1)), some (.int b), none] [.int 1] w1 (I, D, RR R) Q
    refine q_if_eq (tgt := 16) d175_4 rfl (fun h => absurd h (by decide)) (fun _ => ?_)
    refine q_iload_n d175_7 rfl ?_
    refine q_iconst (v := 0) (by decide) d175_8 ?_
    refine q_iconst (v := 5) (by decide) d175_9 ?_
    refine q_invS (av := [.int b, .int 0, .int 5]) (rest := []) (d' := 0) (mc' := 0) (ms' := 0) d175_10 (cv10_183 175 rfl) rfl rfl (by omega) (Nat.le_of_ble_eq_true rfl) (Nat.le_of_ble_eq_true rfl) (Nat.le_refl _) (Nat.le_refl _) ?_
    refine p168  (fun h2 => ?_) (fun h2 => ?_)
    ·
      show j_W 175 d 0 0 0 0 13 [some (.ref 260), some (.int (nI k1)), some (.int b), none] [.int 1] w1 (I, D, RR R) Q
      refine q_if_ne (tgt := 19) d175_13 rfl (fun _ => ?_) (fun h => absurd h (by decide))
      refine q_aload_n d175_19 rfl ?_
      refine q_getR (x := 261) d175_20 (fs10_9 175 rfl) rfl (lt_w1 rfl) sh260 (rs260_0 R) (by decide) ?_
      refine q_iload_n d175_23 rfl ?_
      refine q_iaload (a := k1) d175_24 (lt_w1 rfl) sh261 rfl (by omega) ?_
      refine q_istore_n (L' := [some (.ref 260), some (.int (nI k1)), some (.int b), some (.int (I 261 k1))]) d175_25 (Nat.le_of_ble_eq_true rfl) rfl ?_
      refine q_aload_n d175_26 rfl ?_
      refine q_getR (x := 261) d175_27 (fs10_9 175 rfl) rfl (lt_w1 rfl) sh260 (rs260_0 R) (by decide) ?_
      refine q_iload_n d175_30 rfl ?_
      refine q_iload_n d175_31 rfl ?_
      refine q_iastore (a := k1) d175_32 (lt_w1 rfl) sh261 rfl (by omega) ?_
      refine q_aload_n d175_33 rfl ?_
      refine q_iload_n d175_34 rfl ?_
      refine q_invV (o := 260) (ci := 10) (av := [.int (nI k1)]) (rest := []) (d' := 0) (mc' := 0) (ms' := 0) d175_35 (cv10_204 175 rfl) rfl (by decide) rfl rfl (by omega) (Nat.le_of_ble_eq_true rfl) (Nat.le_of_ble_eq_true rfl) (lt_w1 rfl) sh260 (Nat.le_refl _) (Nat.le_refl _) ?_
      refine s170 (k := k1) (by first | omega | decide) (Nat.le_refl _) (fun c3 => ?_) (fun c4 => ?_)
      ·
        show j_W 175 d 0 0 0 0 38 [some (.ref 260), some (.int (nI k1)), some (.int b), some (.int (I 261 k1))] [.int 0] w1 ((j_u I 261 k1 b), D, RR R) Q
        refine q_if_eq (tgt := 57) d175_38 rfl (fun _ => ?_) (fun h => absurd h (by decide))
        refine q_iload_n d175_57 rfl ?_
        exact q_iret d175_58 rfl (Nat.le_refl _) (Nat.le_refl _) (v1 k1 h1 rfl h2 c3)
      ·
        show j_W 175 d 0 0 0 0 38 [some (.ref 260), some (.int (nI k1)), some (.int b), some (.int (I 261 k1))] [.int 1] w1 ((j_u I 261 k1 b), D, RR R) Q
        refine q_if_eq (tgt := 57) d175_38 rfl (fun h => absurd h (by decide)) (fun _ => ?_)
        refine q_aload_n d175_41 rfl ?_
        refine q_getR (x := 263) d175_42 (fs10_17 175 rfl) rfl (lt_w1 rfl) sh260 (rs260_2 R) (by decide) ?_
        refine q_iload_n d175_45 rfl ?_
        refine q_iload_n d175_46 rfl ?_
        refine q_aload_n d175_47 rfl ?_
        refine q_getR (x := 263) d175_48 (fs10_17 175 rfl) rfl (lt_w1 rfl) sh260 (rs260_2 R) (by decide) ?_
        refine q_iload_n d175_51 rfl ?_
        refine q_daload (a := k1) d175_52 (lt_w1 rfl) sh263 rfl (by omega) ?_
        refine q_invS (av := [.int b, .double (D 263 k1)]) (rest := [.int (nI k1), .ref 263]) (d' := 1) (mc' := 0) (ms' := 0) d175_53 (cv10_250 175 rfl) rfl rfl (by omega) (Nat.le_of_ble_eq_true rfl) (Nat.le_of_ble_eq_true rfl) (Nat.le_refl _) (Nat.le_refl _) ?_
        refine (fun a b => c171 a (Nat.le_refl _) b) (v2 k1 h1 rfl h2 c4) ?_
        show j_W 175 d 0 0 0 0 56 [some (.ref 260), some (.int (nI k1)), some (.int b), some (.int (I 261 k1))] [.double (kp b (D 263 k1)), .int (nI k1), .ref 263] w1 ((j_u I 261 k1 b), D, RR R) Q
        refine q_dastore (a := k1) d175_56 (lt_w1 rfl) sh263 rfl (by omega) ?_
        refine q_iload_n d175_57 rfl ?_
        exact q_iret d175_58 rfl (Nat.le_refl _) (Nat.le_refl _) (v3 k1 h1 rfl h2 c4)
    ·
      show j_W 175 d 0 0 0 0 13 [some (.ref 260), some (.int (nI k1)), some (.int b), none] [.int 0] w1 (I, D, RR R) Q
      refine q_if_ne (tgt := 19) d175_13 rfl (fun h => absurd h (by decide)) (fun _ => ?_)
      refine q_bipush (v := (-2)) (by decide) d175_16 ?_
      exact q_iret d175_18 rfl (Nat.le_refl _) (Nat.le_refl _) (v4 k1 h1 rfl h2)
  ·
    show j_W 175 d 0 0 0 0 4 [some (.ref 260), some (.int a), some (.int b), none] [.int 0] w1 (I, D, RR R) Q
    refine q_if_eq (tgt := 16) d175_4 rfl (fun _ => ?_) (fun h => absurd h (by decide))
    refine q_bipush (v := (-2)) (by decide) d175_16 ?_
    exact q_iret d175_18 rfl (Nat.le_refl _) (Nat.le_refl _) (v5 h1)

set_option maxRecDepth 10000 in
set_option maxHeartbeats 4000000 in
theorem s175n {d : Nat} {I : Nat → Nat → Int32} {D : Nat → Nat → UInt64} {R : Nat → Nat → Option Nat} {Q : j_Po} {k : Nat} {b : Int32}  (hk : k < 24) (hd : 2 ≤ d)
    (v1 : ((¬ b < (0 : Int32) ∧ ¬ (5 : Int32) < b)) → (¬ ((j_u I 261 k b) 264 k) = 0) → Q (some (.int (I 261 k))) w1 ((j_u I 261 k b), D, RR R))
    (v2 : ((¬ b < (0 : Int32) ∧ ¬ (5 : Int32) < b)) → (((j_u I 261 k b) 264 k) = 0) → Sm (D 263 k))
    (v3 : ((¬ b < (0 : Int32) ∧ ¬ (5 : Int32) < b)) → (((j_u I 261 k b) 264 k) = 0) → Q (some (.int (I 261 k))) w1 ((j_u I 261 k b), (j_u D 263 k (kp b (D 263 k))), RR R))
    (v4 : (¬ ((¬ b < (0 : Int32) ∧ ¬ (5 : Int32) < b))) → Q (some (.int (-2))) w1 (I, D, RR R)) : j_Call d 175 [.ref 260, .int (nI k), .int b] w1 (I, D, RR R) 0 0 Q := by
  refine q_enter (L := [some (.ref 260), some (.int (nI k)), some (.int b), none]) j_m175 (Nat.le_of_ble_eq_true rfl) rfl ?_
  refine q_iload_n d175_0 rfl ?_
  refine q_invS (av := [.int (nI k)]) (rest := []) (d' := 1) (mc' := 0) (ms' := 0) d175_1 (cv10_312 175 rfl) rfl rfl (by omega) (Nat.le_of_ble_eq_true rfl) (Nat.le_of_ble_eq_true rfl) (Nat.le_refl _) (Nat.le_refl _) ?_
  refine r167t (by first | omega | decide) (Nat.le_refl _)  ?_
  show j_W 175 d 0 0 0 0 4 [some (.ref 260), some (.int (nI k)), some (.int b), none] [.int 1] w1 (I, D, RR R) Q
  refine q_if_eq (tgt := 16) d175_4 rfl (fun h => absurd h (by decide)) (fun _ => ?_)
  refine q_iload_n d175_7 rfl ?_
  refine q_iconst (v := 0) (by decide) d175_8 ?_
  refine q_iconst (v := 5) (by decide) d175_9 ?_
  refine q_invS (av := [.int b, .int 0, .int 5]) (rest := []) (d' := 0) (mc' := 0) (ms' := 0) d175_10 (cv10_183 175 rfl) rfl rfl (by omega) (Nat.le_of_ble_eq_true rfl) (Nat.le_of_ble_eq_true rfl) (Nat.le_refl _) (Nat.le_refl _) ?_
  refine p168  (fun h1 => ?_) (fun h1 => ?_)
  ·
    show j_W 175 d 0 0 0 0 13 [some (.ref 260), some (.int (nI k)), some (.int b), none] [.int 1] w1 (I, D, RR R) Q
    refine q_if_ne (tgt := 19) d175_13 rfl (fun _ => ?_) (fun h => absurd h (by decide))
    refine q_aload_n d175_19 rfl ?_
    refine q_getR (x := 261) d175_20 (fs10_9 175 rfl) rfl (lt_w1 rfl) sh260 (rs260_0 R) (by decide) ?_
    refine q_iload_n d175_23 rfl ?_
    refine q_iaload (a := k) d175_24 (lt_w1 rfl) sh261 rfl (by omega) ?_
    refine q_istore_n (L' := [some (.ref 260), some (.int (nI k)), some (.int b), some (.int (I 261 k))]) d175_25 (Nat.le_of_ble_eq_true rfl) rfl ?_
    refine q_aload_n d175_26 rfl ?_
    refine q_getR (x := 261) d175_27 (fs10_9 175 rfl) rfl (lt_w1 rfl) sh260 (rs260_0 R) (by decide) ?_
    refine q_iload_n d175_30 rfl ?_
    refine q_iload_n d175_31 rfl ?_
    refine q_iastore (a := k) d175_32 (lt_w1 rfl) sh261 rfl (by omega) ?_
    refine q_aload_n d175_33 rfl ?_
    refine q_iload_n d175_34 rfl ?_
    refine q_invV (o := 260) (ci := 10) (av := [.int (nI k)]) (rest := []) (d' := 0) (mc' := 0) (ms' := 0) d175_35 (cv10_204 175 rfl) rfl (by decide) rfl rfl (by omega) (Nat.le_of_ble_eq_true rfl) (Nat.le_of_ble_eq_true rfl) (lt_w1 rfl) sh260 (Nat.le_refl _) (Nat.le_refl _) ?_
    refine s170 (k := k) (by first | omega | decide) (Nat.le_refl _) (fun c2 => ?_) (fun c3 => ?_)
    ·
      show j_W 175 d 0 0 0 0 38 [some (.ref 260), some (.int (nI k)), some (.int b), some (.int (I 261 k))] [.int 0] w1 ((j_u I 261 k b), D, RR R) Q
      refine q_if_eq (tgt := 57) d175_38 rfl (fun _ => ?_) (fun h => absurd h (by decide))
      refine q_iload_n d175_57 rfl ?_
      exact q_iret d175_58 rfl (Nat.le_refl _) (Nat.le_refl _) (v1 h1 c2)
    ·
      show j_W 175 d 0 0 0 0 38 [some (.ref 260), some (.int (nI k)), some (.int b), some (.int (I 261 k))] [.int 1] w1 ((j_u I 261 k b), D, RR R) Q
      refine q_if_eq (tgt := 57) d175_38 rfl (fun h => absurd h (by decide)) (fun _ => ?_)
      refine q_aload_n d175_41 rfl ?_
      refine q_getR (x := 263) d175_42 (fs10_17 175 rfl) rfl (lt_w1 rfl) sh260 (rs260_2 R) (by decide) ?_
      refine q_iload_n d175_45 rfl ?_
      refine q_iload_n d175_46 rfl ?_
      refine q_aload_n d175_47 rfl ?_
      refine q_getR (x := 263) d175_48 (fs10_17 175 rfl) rfl (lt_w1 rfl) sh260 (rs260_2 R) (by decide) ?_
      refine q_iload_n d175_51 rfl ?_
      refine q_daload (a := k) d175_52 (lt_w1 rfl) sh263 rfl (by omega) ?_
      refine q_invS (av := [.int b, .double (D 263 k)]) (rest := [.int (nI k), .ref 263]) (d' := 1) (mc' := 0) (ms' := 0) d175_53 (cv10_250 175 rfl) rfl rfl (by omega) (Nat.le_of_ble_eq_true rfl) (Nat.le_of_ble_eq_true rfl) (Nat.le_refl _) (Nat.le_refl _) ?_
      refine (fun a b => c171 a (Nat.le_refl _) b) (v2 h1 c3) ?_
      show j_W 175 d 0 0 0 0 56 [some (.ref 260), some (.int (nI k)), some (.int b), some (.int (I 261 k))] [.double (kp b (D 263 k)), .int (nI k), .ref 263] w1 ((j_u I 261 k b), D, RR R) Q
      refine q_dastore (a := k) d175_56 (lt_w1 rfl) sh263 rfl (by omega) ?_
      refine q_iload_n d175_57 rfl ?_
      exact q_iret d175_58 rfl (Nat.le_refl _) (Nat.le_refl _) (v3 h1 c3)
  ·
    show j_W 175 d 0 0 0 0 13 [some (.ref 260), some (.int (nI k)), some (.int b), none] [.int 0] w1 (I, D, RR R) Q
    refine q_if_ne (tgt := 19) d175_13 rfl (fun h => absurd h (by decide)) (fun _ => ?_)
    refine q_bipush (v := (-2)) (by decide) d175_16 ?_
    exact q_iret d175_18 rfl (Nat.le_refl _) (Nat.le_refl _) (v4 h1)

set_option maxRecDepth 10000 in
set_option maxHeartbeats 4000000 in
theorem s173 {d : Nat} {I : Nat → Nat → Int32} {D : Nat → Nat → UInt64} {R : Nat → Nat → Option Nat} {Q : j_Po} {a : Int32} {z : Nat} {st : Nat → Nat × Nat} {F : Nat → UInt64}  (hd : 2 ≤ d)
    (v1 : ∀ k1 : Nat, (k1 < 24) → (a = nI k1) → k1 < 24)
    (v2 : ∀ k1 : Nat, (k1 < 24) → (a = nI k1) → z ≤ 96)
    (v3 : ∀ k1 : Nat, (k1 < 24) → (a = nI k1) → (j_u I 264 k1 0) 264 k1 = nI z)
    (v4 : ∀ k1 : Nat, (k1 < 24) → (a = nI k1) → ∀ q, q < z → stV (st q))
    (v5 : ∀ k1 : Nat, (k1 < 24) → (a = nI k1) → ∀ q, q < z → MR (st q) ((j_u I 264 k1 0) (266 + k1) q) F)
    (v6 : ∀ k1 : Nat, (k1 < 24) → (a = nI k1) → ∀ J2 : Nat → Nat → Int32, (TnI (j_u I 264 k1 0) k1 st z J2) → Q (some (.int 1)) w1 ((j_u J2 262 k1 0), (j_u D 263 k1 FP.dconst0), RR R))
    (v7 : (¬ (∃ k : Nat, k < 24 ∧ a = nI k)) → Q (some (.int (-2))) w1 (I, D, RR R)) : j_Call d 173 [.ref 260, .int a] w1 (I, D, RR R) 0 0 Q := by
  refine q_enter (L := [some (.ref 260), some (.int a)]) j_m173 (Nat.le_of_ble_eq_true rfl) rfl ?_
  refine q_iload_n d173_0 rfl ?_
  refine q_invS (av := [.int a]) (rest := []) (d' := 1) (mc' := 0) (ms' := 0) d173_1 (cv10_312 173 rfl) rfl rfl (by omega) (Nat.le_of_ble_eq_true rfl) (Nat.le_of_ble_eq_true rfl) (Nat.le_refl _) (Nat.le_refl _) ?_
  refine r167 (Nat.le_refl _)  (fun k1 h1 h1e => ?_) (fun h1 => ?_)
  ·
    subst h1e
    show j_W 173 d 0 0 0 0 4 [some (.ref 260), some (.int (nI k1))] [.int 1] w1 (I, D, RR R) Q
    refine q_if_ne (tgt := 10) d173_4 rfl (fun _ => ?_) (fun h => absurd h (by decide))
    refine q_aload_n d173_10 rfl ?_
    refine q_getR (x := 264) d173_11 (fs10_21 173 rfl) rfl (lt_w1 rfl) sh260 (rs260_3 R) (by decide) ?_
    refine q_iload_n d173_14 rfl ?_
    refine q_iconst (v := 0) (by decide) d173_15 ?_
    refine q_iastore (a := k1) d173_16 (lt_w1 rfl) sh264 rfl (by omega) ?_
    refine q_aload_n d173_17 rfl ?_
    refine q_iload_n d173_18 rfl ?_
    refine q_invV (o := 260) (ci := 10) (av := [.int (nI k1)]) (rest := []) (d' := 0) (mc' := 0) (ms' := 0) d173_19 (cv10_320 173 rfl) rfl (by decide) rfl rfl (by omega) (Nat.le_of_ble_eq_true rfl) (Nat.le_of_ble_eq_true rfl) (lt_w1 rfl) sh260 (Nat.le_refl _) (Nat.le_refl _) ?_
    refine c174 (z := z) (s := st) (F := F) (v1 k1 h1 rfl) (v2 k1 h1 rfl) (v3 k1 h1 rfl) (v4 k1 h1 rfl) (v5 k1 h1 rfl) (fun J2 j3 => ?_)
    show j_W 173 d 0 0 0 0 22 [some (.ref 260), some (.int (nI k1))] [] w1 (J2, D, RR R) Q
    refine q_aload_n d173_22 rfl ?_
    refine q_getR (x := 262) d173_23 (fs10_13 173 rfl) rfl (lt_w1 rfl) sh260 (rs260_1 R) (by decide) ?_
    refine q_iload_n d173_26 rfl ?_
    refine q_iconst (v := 0) (by decide) d173_27 ?_
    refine q_zastore (a := k1) d173_28 (Or.inl rfl) (lt_w1 rfl) sh262 rfl (by omega) ?_
    refine q_aload_n d173_29 rfl ?_
    refine q_getR (x := 263) d173_30 (fs10_17 173 rfl) rfl (lt_w1 rfl) sh260 (rs260_2 R) (by decide) ?_
    refine q_iload_n d173_33 rfl ?_
    refine q_dconst0 d173_34 ?_
    refine q_dastore (a := k1) d173_35 (lt_w1 rfl) sh263 rfl (by omega) ?_
    refine q_iconst (v := 1) (by decide) d173_36 ?_
    exact q_iret d173_37 rfl (Nat.le_refl _) (Nat.le_refl _) (v6 k1 h1 rfl J2 j3)
  ·
    show j_W 173 d 0 0 0 0 4 [some (.ref 260), some (.int a)] [.int 0] w1 (I, D, RR R) Q
    refine q_if_ne (tgt := 10) d173_4 rfl (fun h => absurd h (by decide)) (fun _ => ?_)
    refine q_bipush (v := (-2)) (by decide) d173_7 ?_
    exact q_iret d173_9 rfl (Nat.le_refl _) (Nat.le_refl _) (v7 h1)

set_option maxRecDepth 10000 in
set_option maxHeartbeats 4000000 in
theorem s173n {d : Nat} {I : Nat → Nat → Int32} {D : Nat → Nat → UInt64} {R : Nat → Nat → Option Nat} {Q : j_Po} {k : Nat} {z : Nat} {st : Nat → Nat × Nat} {F : Nat → UInt64} (hk : k < 24) (hd : 2 ≤ d)
    (v1 : k < 24)
    (v2 : z ≤ 96)
    (v3 : (j_u I 264 k 0) 264 k = nI z)
    (v4 : ∀ q, q < z → stV (st q))
    (v5 : ∀ q, q < z → MR (st q) ((j_u I 264 k 0) (266 + k) q) F)
    (v6 : ∀ J1 : Nat → Nat → Int32, (TnI (j_u I 264 k 0) k st z J1) → Q (some (.int 1)) w1 ((j_u J1 262 k 0), (j_u D 263 k FP.dconst0), RR R)) : j_Call d 173 [.ref 260, .int (nI k)] w1 (I, D, RR R) 0 0 Q := by
  refine q_enter (L := [some (.ref 260), some (.int (nI k))]) j_m173 (Nat.le_of_ble_eq_true rfl) rfl ?_
  refine q_iload_n d173_0 rfl ?_
  refine q_invS (av := [.int (nI k)]) (rest := []) (d' := 1) (mc' := 0) (ms' := 0) d173_1 (cv10_312 173 rfl) rfl rfl (by omega) (Nat.le_of_ble_eq_true rfl) (Nat.le_of_ble_eq_true rfl) (Nat.le_refl _) (Nat.le_refl _) ?_
  refine r167t (by first | omega | decide) (Nat.le_refl _)  ?_
  show j_W 173 d 0 0 0 0 4 [some (.ref 260), some (.int (nI k))] [.int 1] w1 (I, D, RR R) Q
  refine q_if_ne (tgt := 10) d173_4 rfl (fun _ => ?_) (fun h => absurd h (by decide))
  refine q_aload_n d173_10 rfl ?_
  refine q_getR (x := 264) d173_11 (fs10_21 173 rfl) rfl (lt_w1 rfl) sh260 (rs260_3 R) (by decide) ?_
  refine q_iload_n d173_14 rfl ?_
  refine q_iconst (v := 0) (by decide) d173_15 ?_
  refine q_iastore (a := k) d173_16 (lt_w1 rfl) sh264 rfl (by omega) ?_
  refine q_aload_n d173_17 rfl ?_
  refine q_iload_n d173_18 rfl ?_
  refine q_invV (o := 260) (ci := 10) (av := [.int (nI k)]) (rest := []) (d' := 0) (mc' := 0) (ms' := 0) d173_19 (cv10_320 173 rfl) rfl (by decide) rfl rfl (by omega) (Nat.le_of_ble_eq_true rfl) (Nat.le_of_ble_eq_true rfl) (lt_w1 rfl) sh260 (Nat.le_refl _) (Nat.le_refl _) ?_
  refine c174 (z := z) (s := st) (F := F) v1 v2 v3 v4 v5 (fun J1 j2 => ?_)
  show j_W 173 d 0 0 0 0 22 [some (.ref 260), some (.int (nI k))] [] w1 (J1, D, RR R) Q
  refine q_aload_n d173_22 rfl ?_
  refine q_getR (x := 262) d173_23 (fs10_13 173 rfl) rfl (lt_w1 rfl) sh260 (rs260_1 R) (by decide) ?_
  refine q_iload_n d173_26 rfl ?_
  refine q_iconst (v := 0) (by decide) d173_27 ?_
  refine q_zastore (a := k) d173_28 (Or.inl rfl) (lt_w1 rfl) sh262 rfl (by omega) ?_
  refine q_aload_n d173_29 rfl ?_
  refine q_getR (x := 263) d173_30 (fs10_17 173 rfl) rfl (lt_w1 rfl) sh260 (rs260_2 R) (by decide) ?_
  refine q_iload_n d173_33 rfl ?_
  refine q_dconst0 d173_34 ?_
  refine q_dastore (a := k) d173_35 (lt_w1 rfl) sh263 rfl (by omega) ?_
  refine q_iconst (v := 1) (by decide) d173_36 ?_
  exact q_iret d173_37 rfl (Nat.le_refl _) (Nat.le_refl _) (v6 J1 j2)

set_option maxRecDepth 10000 in
set_option maxHeartbeats 4000000 in
theorem s254 {d : Nat} {I : Nat → Nat → Int32} {D : Nat → Nat → UInt64} {R : Nat → Nat → Option Nat} {Q : j_Po} {a : Int32}   (hd : 2 ≤ d)
    (v1 : ∀ k1 : Nat, (k1 < 6) → (a = nI k1) → (¬ (I 315 k1) = 0) → Q (some (.int 1)) w1 ((j_u I 315 k1 0), D, RR R))
    (v2 : ∀ k1 : Nat, (k1 < 6) → (a = nI k1) → ((I 315 k1) = 0) → Q (some (.int (-3))) w1 (I, D, RR R))
    (v3 : (¬ (∃ k : Nat, k < 6 ∧ a = nI k)) → Q (some (.int (-2))) w1 (I, D, RR R)) : j_Call d 254 [.ref 260, .int a] w1 (I, D, RR R) 0 0 Q := by
  refine q_enter (L := [some (.ref 260), some (.int a)]) j_m254 (Nat.le_of_ble_eq_true rfl) rfl ?_
  refine q_iload_n d254_0 rfl ?_
  refine q_invS (av := [.int a]) (rest := []) (d' := 1) (mc' := 0) (ms' := 0) d254_1 (cv10_480 254 rfl) rfl rfl (by omega) (Nat.le_of_ble_eq_true rfl) (Nat.le_of_ble_eq_true rfl) (Nat.le_refl _) (Nat.le_refl _) ?_
  refine r249 (Nat.le_refl _)  (fun k1 h1 h1e => ?_) (fun h1 => ?_)
  ·
    subst h1e
    show j_W 254 d 0 0 0 0 4 [some (.ref 260), some (.int (nI k1))] [.int 1] w1 (I, D, RR R) Q
    refine q_if_ne (tgt := 10) d254_4 rfl (fun _ => ?_) (fun h => absurd h (by decide))
    refine q_aload_n d254_10 rfl ?_
    refine q_getR (x := 315) d254_11 (fs10_34 254 rfl) rfl (lt_w1 rfl) sh260 (rs260_6 R) (by decide) ?_
    refine q_iload_n d254_14 rfl ?_
    refine q_zaload (a := k1) d254_15 (lt_w1 rfl) sh315 rfl (by omega) ?_
    refine q_if_ne (tgt := 22) d254_16 rfl (fun h2t => ?_) (fun h2f => ?_)
    ·
      refine q_aload_n d254_22 rfl ?_
      refine q_getR (x := 315) d254_23 (fs10_34 254 rfl) rfl (lt_w1 rfl) sh260 (rs260_6 R) (by decide) ?_
      refine q_iload_n d254_26 rfl ?_
      refine q_iconst (v := 0) (by decide) d254_27 ?_
      refine q_zastore (a := k1) d254_28 (Or.inl rfl) (lt_w1 rfl) sh315 rfl (by omega) ?_
      refine q_iconst (v := 1) (by decide) d254_29 ?_
      exact q_iret d254_30 rfl (Nat.le_refl _) (Nat.le_refl _) (v1 k1 h1 rfl h2t)
    ·
      refine q_bipush (v := (-3)) (by decide) d254_19 ?_
      exact q_iret d254_21 rfl (Nat.le_refl _) (Nat.le_refl _) (v2 k1 h1 rfl h2f)
  ·
    show j_W 254 d 0 0 0 0 4 [some (.ref 260), some (.int a)] [.int 0] w1 (I, D, RR R) Q
    refine q_if_ne (tgt := 10) d254_4 rfl (fun h => absurd h (by decide)) (fun _ => ?_)
    refine q_bipush (v := (-2)) (by decide) d254_7 ?_
    exact q_iret d254_9 rfl (Nat.le_refl _) (Nat.le_refl _) (v3 h1)

set_option maxRecDepth 10000 in
set_option maxHeartbeats 4000000 in
theorem s254n {d : Nat} {I : Nat → Nat → Int32} {D : Nat → Nat → UInt64} {R : Nat → Nat → Option Nat} {Q : j_Po} {k : Nat}  (hk : k < 6) (hd : 2 ≤ d)
    (v1 : (¬ (I 315 k) = 0) → Q (some (.int 1)) w1 ((j_u I 315 k 0), D, RR R))
    (v2 : ((I 315 k) = 0) → Q (some (.int (-3))) w1 (I, D, RR R)) : j_Call d 254 [.ref 260, .int (nI k)] w1 (I, D, RR R) 0 0 Q := by
  refine q_enter (L := [some (.ref 260), some (.int (nI k))]) j_m254 (Nat.le_of_ble_eq_true rfl) rfl ?_
  refine q_iload_n d254_0 rfl ?_
  refine q_invS (av := [.int (nI k)]) (rest := []) (d' := 1) (mc' := 0) (ms' := 0) d254_1 (cv10_480 254 rfl) rfl rfl (by omega) (Nat.le_of_ble_eq_true rfl) (Nat.le_of_ble_eq_true rfl) (Nat.le_refl _) (Nat.le_refl _) ?_
  refine r249t (by first | omega | decide) (Nat.le_refl _)  ?_
  show j_W 254 d 0 0 0 0 4 [some (.ref 260), some (.int (nI k))] [.int 1] w1 (I, D, RR R) Q
  refine q_if_ne (tgt := 10) d254_4 rfl (fun _ => ?_) (fun h => absurd h (by decide))
  refine q_aload_n d254_10 rfl ?_
  refine q_getR (x := 315) d254_11 (fs10_34 254 rfl) rfl (lt_w1 rfl) sh260 (rs260_6 R) (by decide) ?_
  refine q_iload_n d254_14 rfl ?_
  refine q_zaload (a := k) d254_15 (lt_w1 rfl) sh315 rfl (by omega) ?_
  refine q_if_ne (tgt := 22) d254_16 rfl (fun h1t => ?_) (fun h1f => ?_)
  ·
    refine q_aload_n d254_22 rfl ?_
    refine q_getR (x := 315) d254_23 (fs10_34 254 rfl) rfl (lt_w1 rfl) sh260 (rs260_6 R) (by decide) ?_
    refine q_iload_n d254_26 rfl ?_
    refine q_iconst (v := 0) (by decide) d254_27 ?_
    refine q_zastore (a := k) d254_28 (Or.inl rfl) (lt_w1 rfl) sh315 rfl (by omega) ?_
    refine q_iconst (v := 1) (by decide) d254_29 ?_
    exact q_iret d254_30 rfl (Nat.le_refl _) (Nat.le_refl _) (v1 h1t)
  ·
    refine q_bipush (v := (-3)) (by decide) d254_19 ?_
    exact q_iret d254_21 rfl (Nat.le_refl _) (Nat.le_refl _) (v2 h1f)

theorem nIc {k k' N : Nat} (hk : k < N) (hk' : k' < N) (hN : N < 2 ^ 31) (h : nI k = nI k') : k' = k := ((nI_eq (by omega) (by omega)).mp h).symm
def fu {α : Type} (f : Nat → α) (k : Nat) (v : α) : Nat → α := fun j => if j = k then v else f j
theorem fu_s {α : Type} {f : Nat → α} {k : Nat} {v : α} : fu f k v k = v := if_pos rfl
theorem fu_n {α : Type} {f : Nat → α} {k j : Nat} {v : α} (h : j ≠ k) : fu f k v j = f j := if_neg h
theorem lD4' : 4 ≤ lD := by decide
def bset (β : Bd) (k : Nat) (x : UInt64) : Bd := (β.1, fu β.2.1 k x, fu β.2.2.1 k true, β.2.2.2)
theorem Live.z {β : Bd} {σ : j_I3} (h : Live β σ) {k : Nat} (hk : k < 24) : (σ.1 ((σ.2.2 112 k).getD 0) 1 ≤ 0 ↔ bZ β k = 0) ∧ (σ.1 264 k = 0 ↔ bZ β k = 0) := by
  have hz := (h.2.2.2.1.1 k hk).2.1
  rw [show σ.1 ((σ.2.2 112 k).getD 0) 1 = nI (bZ β k) from (h.1.1 k hk).2.2.2.2.1, (h.2.1.1 k hk).2.2.2.2.1]
  constructor
  · rcases Nat.eq_zero_or_pos (bZ β k) with h | h
    · rw [h]; decide
    · exact ⟨fun h2 => absurd h2 (nI_nle h (by omega)), fun h2 => by omega⟩
  · exact nI_eq (b := 0) (by omega) (by decide)
theorem bset_V {β : Bd} {k : Nat} {x : UInt64} (h : BV β) (hz : bZ β k = 0) (hx : okB x) : BV (bset β k x) := by
  refine ⟨fun c hc => ?_, h.2.1, h.2.2⟩
  obtain ⟨a1, a2, a3, a4, a5⟩ := h.1 c hc
  refine ⟨a1, a2, fun hp => ?_, fun hf => ?_, a5⟩
  · show fu β.2.2.1 k true c = false
    by_cases e : c = k
    · subst e; exact absurd hp (by show ¬ 0 < bZ β c; omega)
    · rw [fu_n e]; exact a3 hp
  · show okB (fu β.2.1 k x c)
    by_cases e : c = k
    · subst e; rw [fu_s]; exact hx
    · rw [fu_n e]
      have : fu β.2.2.1 k true c = true := hf
      rw [fu_n e] at this
      exact a4 this
theorem Inv.mk {β : Bd} {I : Nat → Nat → Int32} {D : Nat → Nat → UInt64} {R : Nat → Nat → Option Nat} (hR : WFR R) (hW : WFD R) (h1 : CB β I D R) (h2 : RB β I D) (h3 : RN β I) (h4 : BV β) (h5 : NM β I) (h6 : OrdB β I) (h7 : ∀ v, v < 30 → bu I v ≤ 2000) (h8 : Rest (I, D, R)) : Inv (I, D, R) := ⟨⟨hR, hW⟩, ⟨β, h1, h2, h3, h4, h5, h6, h7⟩, h8⟩
theorem Rest.cg' {σ : j_I3} {I : Nat → Nat → Int32} {D : Nat → Nat → UInt64} {R : Nat → Nat → Option Nat} (h : Rest σ) (hI : ∀ o, restP o → I o = σ.1 o) (hD : ∀ o, restP o → D o = σ.2.1 o) (h97 : I 97 1 = σ.1 97 1) (h34 : I 260 34 = σ.1 260 34) (h57 : I 260 57 = σ.1 260 57) (h04 : I 0 4 = σ.1 0 4) : Rest (I, D, R) :=
  h.cg (σ' := (I, D, R)) hI hD h97 h34 h57 h04
/-- one cell is another one -/
def otherC (β β' : Bd) (k : Nat) : Prop := β'.2.2.2.2.2 = β.2.2.2.2.2 ∧ ∀ c, c < 24 → c ≠ k → bK β' c = bK β c ∧ bX β' c = bX β c ∧ bF β' c = bF β c ∧ bZ β' c = bZ β c ∧ bS β' c = bS β c
theorem CB.cell {β β' : Bd} {I I' : Nat → Nat → Int32} {D D' : Nat → Nat → UInt64} {R R' : Nat → Nat → Option Nat} {k : Nat} (h : CB β I D R) (hb : otherC β β' k)
    (h109 : ∀ i, i ≠ k → I' 109 i = I 109 i) (h111 : ∀ i, i ≠ k → I' 111 i = I 111 i) (h110 : ∀ i, i ≠ k → D' 110 i = D 110 i)
    (hf : ∀ c, c < 24 → c ≠ k → R' 112 c = R 112 c ∧ I' (fo R c) = I (fo R c) ∧ I' (fo R c + 1) = I (fo R c + 1) ∧ I' (fo R c + 2) = I (fo R c + 2))
    (hg : ∀ t, t < 6 → R' 113 t = R 113 t ∧ I' (go R t) = I (go R t) ∧ D' (go R t + 1) = D (go R t + 1) ∧ D' (go R t + 2) = D (go R t + 2))
    (hn : I' 109 k = nI (bK β' k) ∧ (bF β' k = true → D' 110 k = bX β' k) ∧ Sm (D' 110 k) ∧ I' 111 k = bi (bF β' k) ∧ FR (bZ β' k) (bS β' k) I' (fo R' k)) : CB β' I' D' R' := by
  refine ⟨fun c hc => ?_, fun t ht => ?_⟩
  · by_cases e : c = k
    · subst e; exact hn
    · obtain ⟨f0, f1, f2, f3⟩ := hf c hc e
      obtain ⟨b1, b2, b3, b4, b5⟩ := hb.2 c hc e
      obtain ⟨c1, c2, c3, c4, c5⟩ := h.1 c hc
      have e0 : fo R' c = fo R c := by show (R' 112 c).getD 0 = (R 112 c).getD 0; rw [f0]
      rw [h109 c e, h111 c e, h110 c e, b1, b2, b3, b4, b5, e0]
      exact ⟨c1, c2, c3, c4, c5.cg f1 f2 f3⟩
  · obtain ⟨f0, f1, f2, f3⟩ := hg t ht
    have e0 : go R' t = go R t := by show (R' 113 t).getD 0 = (R 113 t).getD 0; rw [f0]
    rw [e0]
    have := (h.2 t ht).cg f1 f2 f3
    unfold GR at this ⊢
    unfold bL bO b1 b2 bm bn bA at this ⊢
    rw [hb.1]
    exact this
theorem RB.cell {β β' : Bd} {I I' : Nat → Nat → Int32} {D D' : Nat → Nat → UInt64} {k : Nat} (h : RB β I D) (hb : otherC β β' k)
    (h261 : ∀ i, i ≠ k → I' 261 i = I 261 i) (h262 : ∀ i, i ≠ k → I' 262 i = I 262 i) (h264 : ∀ i, i ≠ k → I' 264 i = I 264 i) (h263 : ∀ i, i ≠ k → D' 263 i = D 263 i)
    (hf : ∀ c, c < 24 → c ≠ k → I' (266 + c) = I (266 + c) ∧ D' (291 + c) = D (291 + c)) (hg : ∀ o, 315 ≤ o → o < 320 → I' o = I o) (hx : ∀ o, 321 ≤ o → o < 333 → D' o = D o)
    (hn : I' 261 k = nI (bK β' k) ∧ I' 262 k = bi (bF β' k) ∧ (bF β' k = true → D' 263 k = bX β' k) ∧ Sm (D' 263 k) ∧ I' 264 k = nI (bZ β' k) ∧ ∀ j, j < bZ β' k → MR (bS β' k j) (I' (266 + k) j) (D' (291 + k))) : RB β' I' D' := by
  refine ⟨fun c hc => ?_, fun t ht => ?_⟩
  · by_cases e : c = k
    · subst e; exact hn
    · obtain ⟨f1, f2⟩ := hf c hc e
      obtain ⟨b1, b2, b3, b4, b5⟩ := hb.2 c hc e
      rw [h261 c e, h262 c e, h264 c e, h263 c e, b1, b2, b3, b4, b5, f1, f2]
      exact h.1 c hc
  · have e1 := hx (321 + 2 * t) (by omega) (by omega)
    have e2 := hx (321 + 2 * t + 1) (by omega) (by omega)
    have := h.2 t ht
    rw [hg 315 (by omega) (by omega), hg 316 (by omega) (by omega), hg 317 (by omega) (by omega), hg 318 (by omega) (by omega), hg 319 (by omega) (by omega), e1, e2]
    unfold bL bO b1 b2 bm bn bA at this ⊢
    rw [hb.1]
    exact this
theorem set_inv {β : Bd} {σ : j_I3} (hR : WFR σ.2.2) (hW : WFD σ.2.2) (hL : Live β σ) (hRe : Rest σ) {k : Nat} (hk : k < 24) (hz : bZ β k = 0) {x : UInt64} (hx : okB x) : Inv (j_u (j_u σ.1 111 k 1) 262 k 1, j_u (j_u σ.2.1 110 k x) 263 k x, σ.2.2) := by
  obtain ⟨a1, a2, a3, a4, a5, a6, a7⟩ := hL
  have hf : ∀ o, o ≠ 111 → o ≠ 262 → j_u (j_u σ.1 111 k 1) 262 k 1 o = σ.1 o := fun o h1 h2 => by funext i; rw [j_u_o _ _ _ h2, j_u_o _ _ _ h1]
  have hg : ∀ o, o ≠ 110 → o ≠ 263 → j_u (j_u σ.2.1 110 k x) 263 k x o = σ.2.1 o := fun o h1 h2 => by funext i; rw [j_u_o _ _ _ h2, j_u_o _ _ _ h1]
  have ho : otherC β (bset β k x) k := ⟨rfl, fun c hc e => ⟨rfl, fu_n e, fu_n e, rfl, rfl⟩⟩
  obtain ⟨c1, c2, c3, c4, c5⟩ := a1.1 k hk
  obtain ⟨d1, d2, d3, d4, d5, d6⟩ := a2.1 k hk
  refine Inv.mk (β := bset β k x) hR hW (a1.cell ho (fun i e => ?_) (fun i e => ?_) (fun i e => ?_) (fun c hc e => ?_) (fun t ht => ?_) ⟨?_, fun _ => ?_, ?_, ?_, ?_⟩) (a2.cell ho (fun i e => ?_) (fun i e => ?_) (fun i e => ?_) (fun i e => ?_) (fun c hc e => ?_) (fun o h1 h2 => ?_) (fun o h1 h2 => ?_) ⟨?_, ?_, fun _ => ?_, ?_, ?_, ?_⟩) (a3.cg (fun o h1 h2 => hf o (by omega) (by omega))) (bset_V a4 hz hx) (a5.cg (fun o h1 h2 => hf o (by omega) (by omega))) (a6.cg (hf 205 (by decide) (by decide))) (fun v hv => ?_) (hRe.cg' (fun o ho => hf o ?_ ?_) (fun o ho => hg o ?_ ?_) ?_ ?_ ?_ ?_)
  · rw [hf 109 (by decide) (by decide)]
  · rw [j_u_o _ _ _ (by decide), j_u_k _ _ e]
  · rw [j_u_o _ _ _ (by decide), j_u_k _ _ e]
  · have hb := (hR.1 c hc).2
    unfold isBF at hb
    exact ⟨rfl, hf _ (by omega) (by omega), hf _ (by omega) (by omega), hf _ (by omega) (by omega)⟩
  · have hb := (hR.2.1 t ht).2
    unfold isBG at hb
    exact ⟨rfl, hf _ (by omega) (by omega), hg _ (by omega) (by omega), hg _ (by omega) (by omega)⟩
  · rw [hf 109 (by decide) (by decide)]; exact c1
  · rw [j_u_o _ _ _ (by decide), j_u_same]; exact fu_s.symm
  · rw [j_u_o _ _ _ (by decide), j_u_same]; exact hx.1.1
  · rw [j_u_o _ _ _ (by decide), j_u_same]
    show 1 = bi (fu β.2.2.1 k true k)
    rw [fu_s]; rfl
  · have hb := (hR.1 k hk).2
    unfold isBF at hb
    exact c5.cg (hf _ (by omega) (by omega)) (hf _ (by omega) (by omega)) (hf _ (by omega) (by omega))
  · rw [hf 261 (by decide) (by decide)]
  · rw [j_u_k _ _ e, j_u_o _ _ _ (by decide)]
  · rw [hf 264 (by decide) (by decide)]
  · rw [j_u_k _ _ e, j_u_o _ _ _ (by decide)]
  · exact ⟨hf _ (by omega) (by omega), hg _ (by omega) (by omega)⟩
  · exact hf o (by omega) (by omega)
  · exact hg o (by omega) (by omega)
  · rw [hf 261 (by decide) (by decide)]; exact d1
  · rw [j_u_same]
    show 1 = bi (fu β.2.2.1 k true k)
    rw [fu_s]; rfl
  · rw [j_u_same]; exact fu_s.symm
  · rw [j_u_same]; exact hx.1.1
  · rw [hf 264 (by decide) (by decide)]; exact d5
  · rw [hf (266 + k) (by omega) (by omega), hg (291 + k) (by omega) (by omega)]; exact d6
  · unfold bu; rw [hf 208 (by decide) (by decide)]; exact a7 v hv
  · unfold restP at ho; omega
  · unfold restP at ho; omega
  · unfold restP at ho; omega
  · unfold restP at ho; omega
  · rw [hf 97 (by decide) (by decide)]
  · rw [hf 260 (by decide) (by decide)]
  · rw [hf 260 (by decide) (by decide)]
  · rw [hf 0 (by decide) (by decide)]
theorem both_set (a b : Int32) : BothI Inv 11 166 [.int a, .int b] := fun σ h => by
  have hT := h
  obtain ⟨⟨hR, hW⟩, ⟨β, hL⟩, hRe⟩ := h
  show j_Call lD 11 [.ref 0, .int a, .int b] w1 (σ.1, σ.2.1, RR σ.2.2) 0 0 (PEnd 166 [.int a, .int b] Inv)
  by_cases ha : ∃ k : Nat, k < 24 ∧ a = nI k
  case neg => exact s11 hR lD2 (fun k1 h2 h3 h4 h5 => absurd ⟨k1, h2, h3⟩ ha) (fun k1 h2 h3 h4 h5 => absurd ⟨k1, h2, h3⟩ ha) (fun k1 h2 h3 h4 h5 => absurd ⟨k1, h2, h3⟩ ha) (fun k1 h2 h3 h4 => absurd ⟨k1, h2, h3⟩ ha) (fun h1 => pend_same hT (s166 lD2 (fun k1 g2 g3 g4 g5 => absurd ⟨k1, g2, g3⟩ ha) (fun k1 g2 g3 g4 g5 => absurd ⟨k1, g2, g3⟩ ha) (fun k1 g2 g3 g4 g5 => absurd ⟨k1, g2, g3⟩ ha) (fun k1 g2 g3 g4 => absurd ⟨k1, g2, g3⟩ ha) (fun g1 => ⟨rfl, rfl, rfl⟩)))
  obtain ⟨k, hk, rfl⟩ := ha
  by_cases hb : (¬ b < -(8000000 : Int32) ∧ ¬ (8000000 : Int32) < b)
  case neg => exact s11n hR hk lD2 (fun h1 h2 => False.elim (by first | exact absurd h1 hb | exact absurd hb h1 | exact (Int32.not_lt.mpr h1) hb | exact (Int32.not_lt.mpr hb) h1 | exact h1 (Int32.not_le.mp hb) | exact hb (Int32.not_le.mp h1) | omega)) (fun h1 h2 => False.elim (by first | exact absurd h1 hb | exact absurd hb h1 | exact (Int32.not_lt.mpr h1) hb | exact (Int32.not_lt.mpr hb) h1 | exact h1 (Int32.not_le.mp hb) | exact hb (Int32.not_le.mp h1) | omega)) (fun h1 h2 => False.elim (by first | exact absurd h1 hb | exact absurd hb h1 | exact (Int32.not_lt.mpr h1) hb | exact (Int32.not_lt.mpr hb) h1 | exact h1 (Int32.not_le.mp hb) | exact hb (Int32.not_le.mp h1) | omega)) (fun h1 => pend_same hT (s166n hk lD2 (fun g1 g2 => False.elim (by first | exact absurd g1 hb | exact absurd hb g1 | exact (Int32.not_lt.mpr g1) hb | exact (Int32.not_lt.mpr hb) g1 | exact g1 (Int32.not_le.mp hb) | exact hb (Int32.not_le.mp g1) | omega)) (fun g1 g2 => False.elim (by first | exact absurd g1 hb | exact absurd hb g1 | exact (Int32.not_lt.mpr g1) hb | exact (Int32.not_lt.mpr hb) g1 | exact g1 (Int32.not_le.mp hb) | exact hb (Int32.not_le.mp g1) | omega)) (fun g1 g2 => False.elim (by first | exact absurd g1 hb | exact absurd hb g1 | exact (Int32.not_lt.mpr g1) hb | exact (Int32.not_lt.mpr hb) g1 | exact g1 (Int32.not_le.mp hb) | exact hb (Int32.not_le.mp g1) | omega)) (fun g1 => ⟨rfl, rfl, rfl⟩)))
  obtain ⟨z1, z2⟩ := hL.z hk
  by_cases hz : bZ β k = 0
  case neg =>
    have hz1 := mt z1.mp hz
    have hz2 := mt z2.mp hz
    exact s11n hR hk lD2 (fun h1 h2 => False.elim (by first | exact absurd h2 hz1 | exact absurd hz1 h2 | exact (Int32.not_lt.mpr h2) hz1 | exact (Int32.not_lt.mpr hz1) h2 | exact h2 (Int32.not_le.mp hz1) | exact hz1 (Int32.not_le.mp h2) | omega)) (fun h1 h2 => False.elim (by first | exact absurd h2 hz1 | exact absurd hz1 h2 | exact (Int32.not_lt.mpr h2) hz1 | exact (Int32.not_lt.mpr hz1) h2 | exact h2 (Int32.not_le.mp hz1) | exact hz1 (Int32.not_le.mp h2) | omega)) (fun h1 h2 => pend_same hT (s166n hk lD2 (fun g1 g2 => ⟨rfl, rfl, rfl⟩) (fun g1 g2 => False.elim (by first | exact absurd g2 hz2 | exact absurd hz2 g2 | exact (Int32.not_lt.mpr g2) hz2 | exact (Int32.not_lt.mpr hz2) g2 | exact g2 (Int32.not_le.mp hz2) | exact hz2 (Int32.not_le.mp g2) | omega)) (fun g1 g2 => False.elim (by first | exact absurd g2 hz2 | exact absurd hz2 g2 | exact (Int32.not_lt.mpr g2) hz2 | exact (Int32.not_lt.mpr hz2) g2 | exact g2 (Int32.not_le.mp hz2) | exact hz2 (Int32.not_le.mp g2) | omega)) (fun g1 => False.elim (by first | exact absurd g1 hb | exact absurd hb g1 | exact (Int32.not_lt.mpr g1) hb | exact (Int32.not_lt.mpr hb) g1 | exact g1 (Int32.not_le.mp hb) | exact hb (Int32.not_le.mp g1) | omega)))) (fun h1 => False.elim (by first | exact absurd h1 hb | exact absurd hb h1 | exact (Int32.not_lt.mpr h1) hb | exact (Int32.not_lt.mpr hb) h1 | exact h1 (Int32.not_le.mp hb) | exact hb (Int32.not_le.mp h1) | omega))
  have hz1 := z1.mpr hz
  have hz2 := z2.mpr hz
  refine s11n hR hk lD2 (fun h1 h2 => sm_i8 b) (fun h1 h2 => ?_) (fun h1 h2 => False.elim (by first | exact absurd h2 hz1 | exact absurd hz1 h2 | exact (Int32.not_lt.mpr h2) hz1 | exact (Int32.not_lt.mpr hz1) h2 | exact h2 (Int32.not_le.mp hz1) | exact hz1 (Int32.not_le.mp h2) | omega)) (fun h1 => False.elim (by first | exact absurd h1 hb | exact absurd hb h1 | exact (Int32.not_lt.mpr h1) hb | exact (Int32.not_lt.mpr hb) h1 | exact h1 (Int32.not_le.mp hb) | exact hb (Int32.not_le.mp h1) | omega))
  have hz3 : (j_u σ.1 111 k 1) 264 k = 0 := by rw [j_u_o _ _ _ (by decide)]; exact hz2
  have hk2 : (j_u σ.1 111 k 1) 261 k = σ.1 109 k := by rw [j_u_o _ _ _ (by decide)]; exact (hL.kinds k hk).1.symm
  refine pend_to (I2 := j_u (j_u σ.1 111 k 1) 262 k 1) (D2 := j_u (j_u σ.2.1 110 k (kp (σ.1 109 k) (FP.ddiv (FP.i2d b) 4620693217682128896))) 263 k (kp (σ.1 109 k) (FP.ddiv (FP.i2d b) 4620693217682128896))) (R2 := σ.2.2) (set_inv hR hW hL hRe hk hz (set_ok hb)) (s166n hk lD2 (fun g1 g2 => False.elim (by first | exact absurd g2 hz3 | exact absurd hz3 g2 | exact (Int32.not_lt.mpr g2) hz3 | exact (Int32.not_lt.mpr hz3) g2 | exact g2 (Int32.not_le.mp hz3) | exact hz3 (Int32.not_le.mp g2) | omega)) (fun g1 g2 => sm_i8 b) (fun g1 g2 => ⟨rfl, rfl, by rw [hk2]⟩) (fun g1 => False.elim (by first | exact absurd g1 hb | exact absurd hb g1 | exact (Int32.not_lt.mpr g1) hb | exact (Int32.not_lt.mpr hb) g1 | exact g1 (Int32.not_le.mp hb) | exact hb (Int32.not_le.mp g1) | omega)))
