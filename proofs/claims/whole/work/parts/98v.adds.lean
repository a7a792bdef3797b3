set_option maxRecDepth 10000 in
set_option maxHeartbeats 4000000 in
theorem u121r {d : Nat} {I : Nat → Nat → Int32} {D : Nat → Nat → UInt64} {R : Nat → Nat → Option Nat} {Q : j_Po} {a : Int32} {b : Int32}  (hR : WFR R) (hd : 2 ≤ d)
    (v1 : ∀ k1 : Nat, (k1 < 6) → (a = nI k1) → (b < 0) → Q (some (.long (-2))) w1 (I, D, RR R))
    (v2 : ∀ k1 : Nat, (k1 < 6) → (a = nI k1) → (¬ b < 0) → (b ≤ 4) → (¬ (I ((R 113 k1).getD 0) 0) = 0) → j_W 121 d 0 0 0 0 39 [some (.ref 0), some (.int (nI k1)), some (.int b), none, none, none, none] [] w1 (I, D, RR R) Q)
    (v3 : ∀ k1 : Nat, (k1 < 6) → (a = nI k1) → (¬ b < 0) → (b ≤ 4) → ((I ((R 113 k1).getD 0) 0) = 0) → Q (some (.long (-3))) w1 (I, D, RR R))
    (v4 : ∀ k1 : Nat, (k1 < 6) → (a = nI k1) → (¬ b < 0) → (¬ b ≤ 4) → Q (some (.long (-2))) w1 (I, D, RR R))
    (v5 : (¬ (∃ k : Nat, k < 6 ∧ a = nI k)) → Q (some (.long (-2))) w1 (I, D, RR R)) : j_Call d 121 [.ref 0, .int a, .int b] w1 (I, D, RR R) 0 0 Q := by
  refine q_enter (L := [some (.ref 0), some (.int a), some (.int b), none, none, none, none]) j_m121 (Nat.le_of_ble_eq_true rfl) rfl ?_
  refine q_iload_n d121_0 rfl ?_
  refine q_invS (av := [.int a]) (rest := []) (d' := 0) (mc' := 0) (ms' := 0) d121_1 (cv9_183 121 rfl) rfl rfl (by omega) (Nat.le_of_ble_eq_true rfl) (Nat.le_of_ble_eq_true rfl) (Nat.le_refl _) (Nat.le_refl _) ?_
  refine r39  (fun k1 h1 h1e => ?_) (fun h1 => ?_)
  ·
    subst h1e
    show j_W 121 d 0 0 0 0 4 [some (.ref 0), some (.int (nI k1)), some (.int b), none, none, none, none] [.int 1] w1 (I, D, RR R) Q
    refine q_if_eq (tgt := 16) d121_4 rfl (fun h => absurd h (by decide)) (fun _ => ?_)
    refine q_iload_n d121_7 rfl ?_
    refine q_if_lt (tgt := 16) d121_8 rfl (fun h2t => ?_) (fun h2f => ?_)
    ·
      refine q_ldcL (v := (-2)) d121_16 (kc9_127 121 rfl) ?_
      exact q_lret d121_19 rfl (Nat.le_refl _) (Nat.le_refl _) (v1 k1 h1 rfl h2t)
    ·
      refine q_iload_n d121_11 rfl ?_
      refine q_iconst (v := 4) (by decide) d121_12 ?_
      refine q_icmp_le (tgt := 20) d121_13 rfl (fun h3t => ?_) (fun h3f => ?_)
      ·
        refine q_aload_n d121_20 rfl ?_
        refine q_getR (x := 108) d121_21 (fs9_53 121 rfl) rfl (lt_w1 rfl) sh0 (rs0_1 R) (by decide) ?_
        refine q_getR (x := 113) d121_24 (fs9_197 121 rfl) rfl (lt_w1 rfl) sh108 (rs108_4 R) (by decide) ?_
        refine q_iload_n d121_27 rfl ?_
        have g5 := hR.g k1 (by omega)
        refine q_aaload (c := 7) (a := k1) (x := ((R 113 k1).getD 0)) d121_28 (lt_w1 rfl) sh113 (by decide) rfl (by omega) ((RR_d rfl).trans g5.1) (lt1000 (isG_lt g5.2)) ?_
        refine q_getI d121_29 (fs9_231 121 rfl) rfl (isG_lt g5.2) (isG_sh g5.2) ?_
        refine q_if_ne (tgt := 39) d121_32 rfl (fun h6t => ?_) (fun h6f => ?_)
        ·
          exact r_sub (L' := [some (.ref 0), some (.int (nI k1)), some (.int b), none, none, none, none]) ⟨rfl, rfl, rfl, trivial⟩ (v2 k1 h1 rfl h2f h3t h6t)
        ·
          refine q_ldcL (v := (-3)) d121_35 (kc9_136 121 rfl) ?_
          exact q_lret d121_38 rfl (Nat.le_refl _) (Nat.le_refl _) (v3 k1 h1 rfl h2f h3t h6f)
      ·
        refine q_ldcL (v := (-2)) d121_16 (kc9_127 121 rfl) ?_
        exact q_lret d121_19 rfl (Nat.le_refl _) (Nat.le_refl _) (v4 k1 h1 rfl h2f h3f)
  ·
    show j_W 121 d 0 0 0 0 4 [some (.ref 0), some (.int a), some (.int b), none, none, none, none] [.int 0] w1 (I, D, RR R) Q
    refine q_if_eq (tgt := 16) d121_4 rfl (fun _ => ?_) (fun h => absurd h (by decide))
    refine q_ldcL (v := (-2)) d121_16 (kc9_127 121 rfl) ?_
    exact q_lret d121_19 rfl (Nat.le_refl _) (Nat.le_refl _) (v5 h1)

set_option maxRecDepth 10000 in
set_option maxHeartbeats 4000000 in
theorem u259r {d : Nat} {I : Nat → Nat → Int32} {D : Nat → Nat → UInt64} {R : Nat → Nat → Option Nat} {Q : j_Po} {a : Int32} {b : Int32}   (hd : 3 ≤ d)
    (v1 : ∀ k1 : Nat, (k1 < 6) → (a = nI k1) → ((¬ b < (0 : Int32) ∧ ¬ (4 : Int32) < b)) → (¬ (I 315 k1) = 0) → j_W 259 d 0 0 0 0 33 [some (.ref 260), some (.int (nI k1)), some (.int b)] [] w1 (I, D, RR R) Q)
    (v2 : ∀ k1 : Nat, (k1 < 6) → (a = nI k1) → ((¬ b < (0 : Int32) ∧ ¬ (4 : Int32) < b)) → ((I 315 k1) = 0) → Q (some (.long (-3))) w1 (I, D, RR R))
    (v3 : ∀ k1 : Nat, (k1 < 6) → (a = nI k1) → (¬ ((¬ b < (0 : Int32) ∧ ¬ (4 : Int32) < b))) → Q (some (.long (-2))) w1 (I, D, RR R))
    (v4 : (¬ (∃ k : Nat, k < 6 ∧ a = nI k)) → Q (some (.long (-2))) w1 (I, D, RR R)) : j_Call d 259 [.ref 260, .int a, .int b] w1 (I, D, RR R) 0 0 Q := by
  refine q_enter (L := [some (.ref 260), some (.int a), some (.int b)]) j_m259 (Nat.le_of_ble_eq_true rfl) rfl ?_
  refine q_iload_n d259_0 rfl ?_
  refine q_invS (av := [.int a]) (rest := []) (d' := 1) (mc' := 0) (ms' := 0) d259_1 (cv10_480 259 rfl) rfl rfl (by omega) (Nat.le_of_ble_eq_true rfl) (Nat.le_of_ble_eq_true rfl) (Nat.le_refl _) (Nat.le_refl _) ?_
  refine r249 (Nat.le_refl _)  (fun k1 h1 h1e => ?_) (fun h1 => ?_)
  ·
    subst h1e
    show j_W 259 d 0 0 0 0 4 [some (.ref 260), some (.int (nI k1)), some (.int b)] [.int 1] w1 (I, D, RR R) Q
    refine q_if_eq (tgt := 16) d259_4 rfl (fun h => absurd h (by decide)) (fun _ => ?_)
    refine q_iload_n d259_7 rfl ?_
    refine q_iconst (v := 0) (by decide) d259_8 ?_
    refine q_iconst (v := 4) (by decide) d259_9 ?_
    refine q_invS (av := [.int b, .int 0, .int 4]) (rest := []) (d' := 0) (mc' := 0) (ms' := 0) d259_10 (cv10_183 259 rfl) rfl rfl (by omega) (Nat.le_of_ble_eq_true rfl) (Nat.le_of_ble_eq_true rfl) (Nat.le_refl _) (Nat.le_refl _) ?_
    refine p168  (fun h2 => ?_) (fun h2 => ?_)
    ·
      show j_W 259 d 0 0 0 0 13 [some (.ref 260), some (.int (nI k1)), some (.int b)] [.int 1] w1 (I, D, RR R) Q
      refine q_if_ne (tgt := 20) d259_13 rfl (fun _ => ?_) (fun h => absurd h (by decide))
      refine q_aload_n d259_20 rfl ?_
      refine q_getR (x := 315) d259_21 (fs10_34 259 rfl) rfl (lt_w1 rfl) sh260 (rs260_6 R) (by decide) ?_
      refine q_iload_n d259_24 rfl ?_
      refine q_zaload (a := k1) d259_25 (lt_w1 rfl) sh315 rfl (by omega) ?_
      refine q_if_ne (tgt := 33) d259_26 rfl (fun h3t => ?_) (fun h3f => ?_)
      ·
        exact r_sub (L' := [some (.ref 260), some (.int (nI k1)), some (.int b)]) ⟨rfl, rfl, rfl, trivial⟩ (v1 k1 h1 rfl h2 h3t)
      ·
        refine q_ldcL (v := (-3)) d259_29 (kc10_339 259 rfl) ?_
        exact q_lret d259_32 rfl (Nat.le_refl _) (Nat.le_refl _) (v2 k1 h1 rfl h2 h3f)
    ·
      show j_W 259 d 0 0 0 0 13 [some (.ref 260), some (.int (nI k1)), some (.int b)] [.int 0] w1 (I, D, RR R) Q
      refine q_if_ne (tgt := 20) d259_13 rfl (fun h => absurd h (by decide)) (fun _ => ?_)
      refine q_ldcL (v := (-2)) d259_16 (kc10_326 259 rfl) ?_
      exact q_lret d259_19 rfl (Nat.le_refl _) (Nat.le_refl _) (v3 k1 h1 rfl h2)
  ·
    show j_W 259 d 0 0 0 0 4 [some (.ref 260), some (.int a), some (.int b)] [.int 0] w1 (I, D, RR R) Q
    refine q_if_eq (tgt := 16) d259_4 rfl (fun _ => ?_) (fun h => absurd h (by decide))
    refine q_ldcL (v := (-2)) d259_16 (kc10_326 259 rfl) ?_
    exact q_lret d259_19 rfl (Nat.le_refl _) (Nat.le_refl _) (v4 h1)

set_option maxRecDepth 10000 in
set_option maxHeartbeats 4000000 in
theorem u121a {d : Nat} {I : Nat → Nat → Int32} {D : Nat → Nat → UInt64} {R : Nat → Nat → Option Nat} {Q : j_Po} {t : Nat} {b : Nat} {β : Bd} (hR : WFR R) (hV : BV β) (hC : CB β I D R) (hN : NM β I) (hO : OrdB β I) (ht : t < 6) (hl : bL β t = true) (hd : 50 ≤ d)
    (v1 : t < 6)
    (v2 : bL β t = true)
    (v3 : 40 ≤ 40)
    (v4 : ∀ J1 : Nat → Nat → Int32, ∀ E2 : Nat → Nat → UInt64, (FRc I D J1 E2) → (TLR J1 E2 (230 + 3 * t) (cas β t) (csV β (env β) t)) → (∀ q, q < cas β t → (csV β (env β) t q).1 < 200 ∧ ((csV β (env β) t q).1 = 0 → Sm (csV β (env β) t q).2)) → j_W 121 d 0 0 0 0 45 [some (.ref 0), some (.int (nI t)), some (.int (nI b)), some (.ref (230 + 3 * t)), none, none, none] [] w1 (J1, E2, RR R) Q) : j_W 121 d 0 0 0 0 39 [some (.ref 0), some (.int (nI t)), some (.int (nI b)), none, none, none, none] [] w1 (I, D, RR R) Q := by
  refine q_aload_n d121_39 rfl ?_
  refine q_iload_n d121_40 rfl ?_
  refine q_invV (o := 0) (ci := 9) (av := [.int (nI t)]) (rest := []) (d' := 40) (mc' := 0) (ms' := 0) d121_41 (cv9_245 121 rfl) rfl (by decide) rfl rfl (by omega) (Nat.le_of_ble_eq_true rfl) (Nat.le_of_ble_eq_true rfl) (lt_w1 rfl) sh0 (Nat.le_refl _) (Nat.le_refl _) ?_
  refine c122 hR hV hC hN hO v1 v2 v3 (fun J1 E2 h3 h4 h5 => ?_)
  show j_W 121 d 0 0 0 0 44 [some (.ref 0), some (.int (nI t)), some (.int (nI b)), none, none, none, none] [.ref (230 + 3 * t)] w1 (J1, E2, RR R) Q
  refine q_astore_n (L' := [some (.ref 0), some (.int (nI t)), some (.int (nI b)), some (.ref (230 + 3 * t)), none, none, none]) d121_44 (Nat.le_of_ble_eq_true rfl) (Nat.ne_of_lt (Nat.lt_trans (lt1000 (isTl_lt (isTl_k t ht))) (by decide))) rfl ?_
  exact r_sub (L' := [some (.ref 0), some (.int (nI t)), some (.int (nI b)), some (.ref (230 + 3 * t)), none, none, none]) ⟨rfl, rfl, rfl, rfl, trivial⟩ (v4 J1 E2 h3 h4 h5)

set_option maxRecDepth 10000 in
set_option maxHeartbeats 4000000 in
theorem u121b {d : Nat} {I : Nat → Nat → Int32} {D : Nat → Nat → UInt64} {R : Nat → Nat → Option Nat} {Q : j_Po} {t : Nat} {b : Nat} {β : Bd} (ht : t < 6) (hb : b < 5) (hd : 10 ≤ d)
    (v1 : (¬ b = 4) → isTl (230 + 3 * t))
    (v2 : (¬ b = 4) → cas β t ≤ 64)
    (v3 : (¬ b = 4) → b < 5)
    (v4 : (¬ b = 4) → ∀ k, k < cas β t → (csV β (env β) t k).1 = 0 → Sm (csV β (env β) t k).2)
    (v5 : (¬ b = 4) → TLR I D (230 + 3 * t) (cas β t) (csV β (env β) t))
    (v6 : (¬ b = 4) → ((nI (askE b (tal (csV β (env β) t) (cas β t)))) = 0) → askE b (tal (csV β (env β) t) (cas β t)) = 0)
    (v7 : (¬ b = 4) → ((nI (askE b (tal (csV β (env β) t) (cas β t)))) = 0) → (Sm (askN b (tal (csV β (env β) t) (cas β t)))) → j_W 121 d 0 0 0 0 82 [some (.ref 0), some (.int (nI t)), some (.int (nI b)), some (.ref (230 + 3 * t)), none, some (.double (askN b (tal (csV β (env β) t) (cas β t)))), none] [] w1 (I, D, RR R) Q)
    (v8 : (¬ b = 4) → (¬ (nI (askE b (tal (csV β (env β) t) (cas β t)))) = 0) → Q (some (.long ((((-20) - (nI (askE b (tal (csV β (env β) t) (cas β t))))) : Int32).toInt64))) w1 (I, D, RR R))
    (v9 : (b = 4) → Q (some (.long (((I (230 + 3 * t) 3) : Int32).toInt64))) w1 (I, D, RR R)) : j_W 121 d 0 0 0 0 45 [some (.ref 0), some (.int (nI t)), some (.int (nI b)), some (.ref (230 + 3 * t)), none, none, none] [] w1 (I, D, RR R) Q := by
  refine q_iload_n d121_45 rfl ?_
  refine q_iconst (v := 4) (by decide) d121_46 ?_
  refine q_icmp_ne (tgt := 56) d121_47 rfl (fun h1t => ?_) (fun h1f => ?_)
  ·
    have h1tc : ¬ b = 4 := mt (nI_eqN (by omega) (by omega)).mpr h1t
    refine q_aload_n d121_56 rfl ?_
    refine q_iload_n d121_57 rfl ?_
    refine q_invV (o := (230 + 3 * t)) (ci := 7) (av := [.int (nI b)]) (rest := []) (d' := 1) (mc' := 0) (ms' := 0) d121_58 (cv9_254 121 rfl) rfl (by decide) rfl rfl (by omega) (Nat.le_of_ble_eq_true rfl) (Nat.le_of_ble_eq_true rfl) (isTl_lt (isTl_k t ht)) (isTl_sh (isTl_k t ht)) (Nat.le_refl _) (Nat.le_refl _) ?_
    refine c48 (n := cas β t) (v := csV β (env β) t) (v1 h1tc) (v2 h1tc) (v3 h1tc) (v4 h1tc) (v5 h1tc) ?_
    show j_W 121 d 0 0 0 0 61 [some (.ref 0), some (.int (nI t)), some (.int (nI b)), some (.ref (230 + 3 * t)), none, none, none] [.int (nI (askE b (tal (csV β (env β) t) (cas β t))))] w1 (I, D, RR R) Q
    refine q_istore (L' := [some (.ref 0), some (.int (nI t)), some (.int (nI b)), some (.ref (230 + 3 * t)), some (.int (nI (askE b (tal (csV β (env β) t) (cas β t))))), none, none]) d121_61 (Nat.le_of_ble_eq_true rfl) rfl ?_
    refine q_iload d121_63 rfl ?_
    refine q_if_eq (tgt := 75) d121_65 rfl (fun h2t => ?_) (fun h2f => ?_)
    ·
      refine q_aload_n d121_75 rfl ?_
      refine q_iload_n d121_76 rfl ?_
      refine q_invV (o := (230 + 3 * t)) (ci := 7) (av := [.int (nI b)]) (rest := []) (d' := 1) (mc' := 0) (ms' := 0) d121_77 (cv9_257 121 rfl) rfl (by decide) rfl rfl (by omega) (Nat.le_of_ble_eq_true rfl) (Nat.le_of_ble_eq_true rfl) (isTl_lt (isTl_k t ht)) (isTl_sh (isTl_k t ht)) (Nat.le_refl _) (Nat.le_refl _) ?_
      refine c49 (n := cas β t) (v := csV β (env β) t) (v1 h1tc) (v2 h1tc) (v3 h1tc) (v4 h1tc) (v5 h1tc) (v6 h1tc h2t) (fun h3 => ?_)
      show j_W 121 d 0 0 0 0 80 [some (.ref 0), some (.int (nI t)), some (.int (nI b)), some (.ref (230 + 3 * t)), some (.int (nI (askE b (tal (csV β (env β) t) (cas β t))))), none, none] [.double (askN b (tal (csV β (env β) t) (cas β t)))] w1 (I, D, RR R) Q
      refine q_dstore (L' := [some (.ref 0), some (.int (nI t)), some (.int (nI b)), some (.ref (230 + 3 * t)), some (.int (nI (askE b (tal (csV β (env β) t) (cas β t))))), some (.double (askN b (tal (csV β (env β) t) (cas β t)))), none]) d121_80 (Nat.le_of_ble_eq_true rfl) rfl ?_
      exact r_sub (L' := [some (.ref 0), some (.int (nI t)), some (.int (nI b)), some (.ref (230 + 3 * t)), none, some (.double (askN b (tal (csV β (env β) t) (cas β t)))), none]) ⟨rfl, rfl, rfl, rfl, rfl, trivial⟩ (v7 h1tc h2t h3)
    ·
      refine q_bipush (v := (-20)) (by decide) d121_68 ?_
      refine q_iload d121_70 rfl ?_
      refine q_isub d121_72 ?_
      refine q_i2l d121_73 ?_
      exact q_lret d121_74 rfl (Nat.le_refl _) (Nat.le_refl _) (v8 h1tc h2f)
  ·
    have h1fc : b = 4 := (nI_eqN (by omega) (by omega)).mp h1f
    refine q_aload_n d121_50 rfl ?_
    refine q_getI d121_51 (fs9_249 121 rfl) rfl (isTl_lt (isTl_k t ht)) (isTl_sh (isTl_k t ht)) ?_
    refine q_i2l d121_54 ?_
    exact q_lret d121_55 rfl (Nat.le_refl _) (Nat.le_refl _) (v9 h1fc)

set_option maxRecDepth 10000 in
set_option maxHeartbeats 4000000 in
theorem u121c {d : Nat} {I : Nat → Nat → Int32} {D : Nat → Nat → UInt64} {R : Nat → Nat → Option Nat} {Q : j_Po} {t : Nat} {b : Nat} {y : UInt64}  (ht : t < 6) (hb : b < 5) (hd : 10 ≤ d)
    (v1 : (deq y FP.dconst0 = false) → okD y)
    (v2 : (deq y FP.dconst0 = false) → Q (some (.long (y : UInt64).toInt64)) w1 (I, D, RR R))
    (v3 : (deq y FP.dconst0 = true) → (dlt (D (230 + 3 * t) 4) FP.dconst0 = false) → okD y)
    (v4 : (deq y FP.dconst0 = true) → (dlt (D (230 + 3 * t) 4) FP.dconst0 = false) → Q (some (.long (y : UInt64).toInt64)) w1 (I, D, RR R))
    (v5 : (deq y FP.dconst0 = true) → (dlt (D (230 + 3 * t) 4) FP.dconst0 = true) → (¬ b = 1) → okD y)
    (v6 : (deq y FP.dconst0 = true) → (dlt (D (230 + 3 * t) 4) FP.dconst0 = true) → (¬ b = 1) → Q (some (.long (y : UInt64).toInt64)) w1 (I, D, RR R))
    (v7 : (deq y FP.dconst0 = true) → (dlt (D (230 + 3 * t) 4) FP.dconst0 = true) → (b = 1) → Q (some (.long (-9223372036854775808))) w1 (I, D, RR R)) : j_W 121 d 0 0 0 0 82 [some (.ref 0), some (.int (nI t)), some (.int (nI b)), some (.ref (230 + 3 * t)), none, some (.double y), none] [] w1 (I, D, RR R) Q := by
  refine q_dload d121_82 rfl ?_
  refine q_dconst0 d121_84 ?_
  refine q_dcmp d121_85 ?_
  refine q_if_ne (tgt := 109) d121_86 rfl (fun h1t => ?_) (fun h1f => ?_)
  ·
    have h1tc : deq y FP.dconst0 = false := dc_l_ne_t h1t
    refine q_dload d121_109 rfl ?_
    refine q_invS (av := [.double y]) (rest := []) (d' := 0) (mc' := 0) (ms' := 0) d121_111 (cv9_267 121 rfl) rfl rfl (by omega) (Nat.le_of_ble_eq_true rfl) (Nat.le_of_ble_eq_true rfl) (Nat.le_refl _) (Nat.le_refl _) ?_
    refine fpB (v1 h1tc) ?_
    show j_W 121 d 0 0 0 0 114 [some (.ref 0), some (.int (nI t)), some (.int (nI b)), some (.ref (230 + 3 * t)), none, some (.double y), none] [.long (y : UInt64).toInt64] w1 (I, D, RR R) Q
    exact q_lret d121_114 rfl (Nat.le_refl _) (Nat.le_refl _) (v2 h1tc)
  ·
    have h1fc : deq y FP.dconst0 = true := dc_l_ne_f h1f
    refine q_aload_n d121_89 rfl ?_
    refine q_getD d121_90 (fs9_261 121 rfl) rfl (isTl_lt (isTl_k t ht)) (isTl_sh (isTl_k t ht)) ?_
    refine q_dconst0 d121_93 ?_
    refine q_dcmp d121_94 ?_
    refine q_if_ge (tgt := 109) d121_95 rfl (fun h2t => ?_) (fun h2f => ?_)
    ·
      have h2tc : dlt (D (230 + 3 * t) 4) FP.dconst0 = false := dc_g_ge_t h2t
      refine q_dload d121_109 rfl ?_
      refine q_invS (av := [.double y]) (rest := []) (d' := 0) (mc' := 0) (ms' := 0) d121_111 (cv9_267 121 rfl) rfl rfl (by omega) (Nat.le_of_ble_eq_true rfl) (Nat.le_of_ble_eq_true rfl) (Nat.le_refl _) (Nat.le_refl _) ?_
      refine fpB (v3 h1fc h2tc) ?_
      show j_W 121 d 0 0 0 0 114 [some (.ref 0), some (.int (nI t)), some (.int (nI b)), some (.ref (230 + 3 * t)), none, some (.double y), none] [.long (y : UInt64).toInt64] w1 (I, D, RR R) Q
      exact q_lret d121_114 rfl (Nat.le_refl _) (Nat.le_refl _) (v4 h1fc h2tc)
    ·
      have h2fc : dlt (D (230 + 3 * t) 4) FP.dconst0 = true := dc_g_ge_f h2f
      refine q_iload_n d121_98 rfl ?_
      refine q_iconst (v := 1) (by decide) d121_99 ?_
      refine q_icmp_ne (tgt := 109) d121_100 rfl (fun h3t => ?_) (fun h3f => ?_)
      ·
        have h3tc : ¬ b = 1 := mt (nI_eqN (by omega) (by omega)).mpr h3t
        refine q_dload d121_109 rfl ?_
        refine q_invS (av := [.double y]) (rest := []) (d' := 0) (mc' := 0) (ms' := 0) d121_111 (cv9_267 121 rfl) rfl rfl (by omega) (Nat.le_of_ble_eq_true rfl) (Nat.le_of_ble_eq_true rfl) (Nat.le_refl _) (Nat.le_refl _) ?_
        refine fpB (v5 h1fc h2fc h3tc) ?_
        show j_W 121 d 0 0 0 0 114 [some (.ref 0), some (.int (nI t)), some (.int (nI b)), some (.ref (230 + 3 * t)), none, some (.double y), none] [.long (y : UInt64).toInt64] w1 (I, D, RR R) Q
        exact q_lret d121_114 rfl (Nat.le_refl _) (Nat.le_refl _) (v6 h1fc h2fc h3tc)
      ·
        have h3fc : b = 1 := (nI_eqN (by omega) (by omega)).mp h3f
        refine q_ldcL (v := (-9223372036854775808)) d121_103 (kc9_265 121 rfl) ?_
        refine q_goto (tgt := 114) d121_106 rfl ?_
        exact q_lret d121_114 rfl (Nat.le_refl _) (Nat.le_refl _) (v7 h1fc h2fc h3fc)

set_option maxRecDepth 10000 in
set_option maxHeartbeats 4000000 in
theorem u259a {d : Nat} {I : Nat → Nat → Int32} {D : Nat → Nat → UInt64} {R : Nat → Nat → Option Nat} {Q : j_Po} {t : Nat} {b : Nat}   (hd : 10 ≤ d)
    (v1 : j_W 259 d 0 0 0 0 43 [some (.ref 260), some (.int (nI t)), some (.int (nI b))] [] w1 ((j_u (j_u I 260 18 0) 260 26 0), D, RR R) Q) : j_W 259 d 0 0 0 0 33 [some (.ref 260), some (.int (nI t)), some (.int (nI b))] [] w1 (I, D, RR R) Q := by
  refine q_aload_n d259_33 rfl ?_
  refine q_iconst (v := 0) (by decide) d259_34 ?_
  refine q_putI d259_35 (fs10_247 259 rfl) (Or.inl rfl) rfl (lt_w1 rfl) sh260 ?_
  refine q_aload_n d259_38 rfl ?_
  refine q_iconst (v := 0) (by decide) d259_39 ?_
  refine q_putI d259_40 (fs10_243 259 rfl) (Or.inl rfl) rfl (lt_w1 rfl) sh260 ?_
  exact r_sub (L' := [some (.ref 260), some (.int (nI t)), some (.int (nI b))]) ⟨rfl, rfl, rfl, trivial⟩ v1

set_option maxRecDepth 10000 in
set_option maxHeartbeats 4000000 in
theorem u259b {d : Nat} {I : Nat → Nat → Int32} {D : Nat → Nat → UInt64} {R : Nat → Nat → Option Nat} {Q : j_Po} {t : Nat} {b : Nat}  {AP : (Nat → Nat → Int32) → (Nat → Nat → UInt64) → Prop} (hA : ∀ (Q : j_Po), (∀ J E, AP J E → Q none w1 (J, E, RR R)) → j_Call (d - 1) 190 [.ref 260] w1 (I, D, RR R) 0 0 Q) (hd : 10 ≤ d)
    (v1 : ∀ J1 : Nat → Nat → Int32, ∀ E2 : Nat → Nat → UInt64, (AP J1 E2) → j_W 259 d 0 0 0 0 47 [some (.ref 260), some (.int (nI t)), some (.int (nI b))] [] w1 (J1, E2, RR R) Q) : j_W 259 d 0 0 0 0 43 [some (.ref 260), some (.int (nI t)), some (.int (nI b))] [] w1 (I, D, RR R) Q := by
  refine q_aload_n d259_43 rfl ?_
  refine q_invV (o := 260) (ci := 10) (av := []) (rest := []) (d' := (d - 1)) (mc' := 0) (ms' := 0) d259_44 (cv10_279 259 rfl) rfl (by decide) rfl rfl (by omega) (Nat.le_of_ble_eq_true rfl) (Nat.le_of_ble_eq_true rfl) (lt_w1 rfl) sh260 (Nat.le_refl _) (Nat.le_refl _) ?_
  refine hA _  (fun J1 E2 h3 => ?_)
  show j_W 259 d 0 0 0 0 47 [some (.ref 260), some (.int (nI t)), some (.int (nI b))] [] w1 (J1, E2, RR R) Q
  exact r_sub (L' := [some (.ref 260), some (.int (nI t)), some (.int (nI b))]) ⟨rfl, rfl, rfl, trivial⟩ (v1 J1 E2 h3)

set_option maxRecDepth 10000 in
set_option maxHeartbeats 4000000 in
theorem u259c {d : Nat} {I : Nat → Nat → Int32} {D : Nat → Nat → UInt64} {R : Nat → Nat → Option Nat} {Q : j_Po} {t : Nat} {b : Nat}  {AP : (Nat → Nat → Int32) → (Nat → Nat → UInt64) → Prop} (hA : ∀ (Q : j_Po), (∀ J E, AP J E → Q none w1 (J, E, RR R)) → j_Call (d - 1) 194 [.ref 260, .int (nI t)] w1 (I, D, RR R) 0 0 Q) (hd : 10 ≤ d)
    (v1 : ∀ J1 : Nat → Nat → Int32, ∀ E2 : Nat → Nat → UInt64, (AP J1 E2) → j_W 259 d 0 0 0 0 52 [some (.ref 260), some (.int (nI t)), some (.int (nI b))] [] w1 (J1, E2, RR R) Q) : j_W 259 d 0 0 0 0 47 [some (.ref 260), some (.int (nI t)), some (.int (nI b))] [] w1 (I, D, RR R) Q := by
  refine q_aload_n d259_47 rfl ?_
  refine q_iload_n d259_48 rfl ?_
  refine q_invV (o := 260) (ci := 10) (av := [.int (nI t)]) (rest := []) (d' := (d - 1)) (mc' := 0) (ms' := 0) d259_49 (cv10_266 259 rfl) rfl (by decide) rfl rfl (by omega) (Nat.le_of_ble_eq_true rfl) (Nat.le_of_ble_eq_true rfl) (lt_w1 rfl) sh260 (Nat.le_refl _) (Nat.le_refl _) ?_
  refine hA _  (fun J1 E2 h3 => ?_)
  show j_W 259 d 0 0 0 0 52 [some (.ref 260), some (.int (nI t)), some (.int (nI b))] [] w1 (J1, E2, RR R) Q
  exact r_sub (L' := [some (.ref 260), some (.int (nI t)), some (.int (nI b))]) ⟨rfl, rfl, rfl, trivial⟩ (v1 J1 E2 h3)

set_option maxRecDepth 10000 in
set_option maxHeartbeats 4000000 in
theorem u259d {d : Nat} {I : Nat → Nat → Int32} {D : Nat → Nat → UInt64} {R : Nat → Nat → Option Nat} {Q : j_Po} {t : Nat} {b : Nat} {β : Bd} (ht : t < 6) (hb : b < 5) (hd : 10 ≤ d)
    (v1 : (¬ b = 4) → 3 ≤ 3)
    (v2 : (¬ b = 4) → VQ (I 412 ((5 * t) + b)) (if I 412 (5 * t + b) = 0 then -1 else nI 0) (D 404 ((5 * t) + b)) (askV 0 b (tal (csV β (env β) t) (cas β t))))
    (v3 : (¬ b = 4) → Q (some (.long (ansV (askV 0 b (tal (csV β (env β) t) (cas β t)))))) w1 (I, D, RR R))
    (v4 : (b = 4) → Q (some (.long (FP.d2l (D 404 ((5 * t) + 4))))) w1 (I, D, RR R)) : j_W 259 d 0 0 0 0 52 [some (.ref 260), some (.int (nI t)), some (.int (nI b))] [] w1 (I, D, RR R) Q := by
  refine q_iload_n d259_52 rfl ?_
  refine q_iconst (v := 4) (by decide) d259_53 ?_
  refine q_icmp_ne (tgt := 71) d259_54 rfl (fun h1t => ?_) (fun h1f => ?_)
  ·
    have h1tc : ¬ b = 4 := mt (nI_eqN (by omega) (by omega)).mpr h1t
    refine q_aload_n d259_71 rfl ?_
    refine q_getR (x := 403) d259_72 (fs10_87 259 rfl) rfl (lt_w1 rfl) sh260 (rs260_24 R) (by decide) ?_
    refine q_iconst (v := 0) (by decide) d259_75 ?_
    refine q_aaload (c := 3) (a := 0) (x := 404) d259_76 (lt_w1 rfl) sh403 (by decide) rfl (by decide) (rm403 (k := 0) R (by decide)) (by decide) ?_
    refine q_iconst (v := 5) (by decide) d259_77 ?_
    refine q_iload_n d259_78 rfl ?_
    refine q_imul d259_79 ?_
    refine r_int (y := (nI (5 * t))) (pk_mul 5 t) ?_
    refine q_iload_n d259_80 rfl ?_
    refine q_iadd d259_81 ?_
    refine r_int (y := (nI ((5 * t) + b))) (nI_add (5 * t) b) ?_
    refine q_daload (a := ((5 * t) + b)) d259_82 (lt_w1 rfl) sh404 rfl (by omega) ?_
    refine q_aload_n d259_83 rfl ?_
    refine q_getR (x := 411) d259_84 (fs10_90 259 rfl) rfl (lt_w1 rfl) sh260 (rs260_25 R) (by decide) ?_
    refine q_iconst (v := 0) (by decide) d259_87 ?_
    refine q_aaload (c := 4) (a := 0) (x := 412) d259_88 (lt_w1 rfl) sh411 (by decide) rfl (by decide) (rm411 (k := 0) R (by decide)) (by decide) ?_
    refine q_iconst (v := 5) (by decide) d259_89 ?_
    refine q_iload_n d259_90 rfl ?_
    refine q_imul d259_91 ?_
    refine r_int (y := (nI (5 * t))) (pk_mul 5 t) ?_
    refine q_iload_n d259_92 rfl ?_
    refine q_iadd d259_93 ?_
    refine r_int (y := (nI ((5 * t) + b))) (nI_add (5 * t) b) ?_
    refine q_iaload (a := ((5 * t) + b)) d259_94 (lt_w1 rfl) sh412 rfl (by omega) ?_
    refine q_invS (av := [.double (D 404 ((5 * t) + b)), .int (I 412 ((5 * t) + b))]) (rest := []) (d' := 3) (mc' := 0) (ms' := 0) d259_95 (cv10_335 259 rfl) rfl rfl (by omega) (Nat.le_of_ble_eq_true rfl) (Nat.le_of_ble_eq_true rfl) (Nat.le_refl _) (Nat.le_refl _) ?_
    refine c201 (v := (askV 0 b (tal (csV β (env β) t) (cas β t)))) (b := (if I 412 (5 * t + b) = 0 then -1 else nI 0)) (v1 h1tc) (v2 h1tc) ?_
    show j_W 259 d 0 0 0 0 98 [some (.ref 260), some (.int (nI t)), some (.int (nI b))] [.long (ansV (askV 0 b (tal (csV β (env β) t) (cas β t))))] w1 (I, D, RR R) Q
    exact q_lret d259_98 rfl (Nat.le_refl _) (Nat.le_refl _) (v3 h1tc)
  ·
    have h1fc : b = 4 := (nI_eqN (by omega) (by omega)).mp h1f
    refine q_aload_n d259_57 rfl ?_
    refine q_getR (x := 403) d259_58 (fs10_87 259 rfl) rfl (lt_w1 rfl) sh260 (rs260_24 R) (by decide) ?_
    refine q_iconst (v := 0) (by decide) d259_61 ?_
    refine q_aaload (c := 3) (a := 0) (x := 404) d259_62 (lt_w1 rfl) sh403 (by decide) rfl (by decide) (rm403 (k := 0) R (by decide)) (by decide) ?_
    refine q_iconst (v := 5) (by decide) d259_63 ?_
    refine q_iload_n d259_64 rfl ?_
    refine q_imul d259_65 ?_
    refine r_int (y := (nI (5 * t))) (pk_mul 5 t) ?_
    refine q_iconst (v := 4) (by decide) d259_66 ?_
    refine q_iadd d259_67 ?_
    refine r_int (y := (nI ((5 * t) + 4))) (nI_add (5 * t) 4) ?_
    refine q_daload (a := ((5 * t) + 4)) d259_68 (lt_w1 rfl) sh404 rfl (by omega) ?_
    refine q_d2l d259_69 ?_
    exact q_lret d259_70 rfl (Nat.le_refl _) (Nat.le_refl _) (v4 h1fc)

