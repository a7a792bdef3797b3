set_option maxRecDepth 10000 in
set_option maxHeartbeats 4000000 in
theorem u144e {d : Nat} {I : Nat → Nat → Int32} {D : Nat → Nat → UInt64} {R : Nat → Nat → Option Nat} {Q : j_Po} {a : Nat} {b : Nat}   (hd : 0 ≤ d)
    (v1 : j_W 144 d 0 0 0 0 7 [none, none, some (.int (nI a)), some (.int (nI b)), some (.int 0), none] [] w1 (I, D, RR R) Q) : j_Call d 144 [.int (nI a), .int (nI b)] w1 (I, D, RR R) 0 0 Q := by
  refine q_enter (L := [some (.int (nI a)), some (.int (nI b)), none, none, none, none]) j_m144 (Nat.le_of_ble_eq_true rfl) rfl ?_
  refine q_iload_n d144_0 rfl ?_
  refine q_istore_n (L' := [some (.int (nI a)), some (.int (nI b)), some (.int (nI a)), none, none, none]) d144_1 (Nat.le_of_ble_eq_true rfl) rfl ?_
  refine q_iload_n d144_2 rfl ?_
  refine q_istore_n (L' := [some (.int (nI a)), some (.int (nI b)), some (.int (nI a)), some (.int (nI b)), none, none]) d144_3 (Nat.le_of_ble_eq_true rfl) rfl ?_
  refine q_iconst (v := 0) (by decide) d144_4 ?_
  refine q_istore (L' := [some (.int (nI a)), some (.int (nI b)), some (.int (nI a)), some (.int (nI b)), some (.int 0), none]) d144_5 (Nat.le_of_ble_eq_true rfl) rfl ?_
  exact r_sub (L' := [none, none, some (.int (nI a)), some (.int (nI b)), some (.int 0), none]) ⟨rfl, rfl, rfl, trivial⟩ v1

set_option maxRecDepth 10000 in
set_option maxHeartbeats 4000000 in
theorem u144h {d : Nat} {I : Nat → Nat → Int32} {D : Nat → Nat → UInt64} {R : Nat → Nat → Option Nat} {Q : j_Po} {x : Nat} {y : Nat} {k : Nat}  (hy : y ≤ 20) (hk : k ≤ 32) (hd : 0 ≤ d)
    (v1 : (32 ≤ k) → Q (some (.int (nI x))) w1 (I, D, RR R))
    (v2 : (¬ 32 ≤ k) → ((nI y) = 0) → Q (some (.int (nI x))) w1 (I, D, RR R))
    (v3 : (¬ 32 ≤ k) → (¬ (nI y) = 0) → ¬ (nI y) = 0)
    (v4 : (¬ 32 ≤ k) → (¬ (nI y) = 0) → j_W 144 d 0 0 0 0 7 [none, none, some (.int (nI y)), some (.int ((nI x) - (nI x) / (nI y) * (nI y))), some (.int (nI (k + 1))), none] [] w1 (I, D, RR R) Q) : j_W 144 d 0 0 0 0 7 [none, none, some (.int (nI x)), some (.int (nI y)), some (.int (nI k)), none] [] w1 (I, D, RR R) Q := by
  refine q_iload d144_7 rfl ?_
  refine q_bipush (v := 32) (by decide) d144_9 ?_
  refine q_icmp_ge (tgt := 34) d144_11 rfl (fun h1t => ?_) (fun h1f => ?_)
  ·
    have h1tc : 32 ≤ k := (nI_leI (by omega) (by omega)).mp h1t
    refine q_iload_n d144_34 rfl ?_
    exact q_iret d144_35 rfl (Nat.le_refl _) (Nat.le_refl _) (v1 h1tc)
  ·
    have h1fc : ¬ 32 ≤ k := mt (nI_leI (by omega) (by omega)).mpr h1f
    refine q_iload_n d144_14 rfl ?_
    refine q_if_eq (tgt := 34) d144_15 rfl (fun h2t => ?_) (fun h2f => ?_)
    ·
      refine q_iload_n d144_34 rfl ?_
      exact q_iret d144_35 rfl (Nat.le_refl _) (Nat.le_refl _) (v2 h1fc h2t)
    ·
      refine q_iload_n d144_18 rfl ?_
      refine q_iload_n d144_19 rfl ?_
      refine q_irem (v3 h1fc h2f) d144_20 ?_
      refine q_istore (L' := [none, none, some (.int (nI x)), some (.int (nI y)), some (.int (nI k)), some (.int ((nI x) - (nI x) / (nI y) * (nI y)))]) d144_21 (Nat.le_of_ble_eq_true rfl) rfl ?_
      refine q_iload_n d144_23 rfl ?_
      refine q_istore_n (L' := [none, none, some (.int (nI y)), some (.int (nI y)), some (.int (nI k)), some (.int ((nI x) - (nI x) / (nI y) * (nI y)))]) d144_24 (Nat.le_of_ble_eq_true rfl) rfl ?_
      refine q_iload d144_25 rfl ?_
      refine q_istore_n (L' := [none, none, some (.int (nI y)), some (.int ((nI x) - (nI x) / (nI y) * (nI y))), some (.int (nI k)), some (.int ((nI x) - (nI x) / (nI y) * (nI y)))]) d144_27 (Nat.le_of_ble_eq_true rfl) rfl ?_
      refine q_iinc (L' := [none, none, some (.int (nI y)), some (.int ((nI x) - (nI x) / (nI y) * (nI y))), some (.int (nI (k + 1))), some (.int ((nI x) - (nI x) / (nI y) * (nI y)))]) (v := (nI (k + 1))) d144_28 rfl (nI_inc _) rfl ?_
      refine q_goto (tgt := 7) d144_31 rfl ?_
      exact r_sub (L' := [none, none, some (.int (nI y)), some (.int ((nI x) - (nI x) / (nI y) * (nI y))), some (.int (nI (k + 1))), none]) ⟨rfl, rfl, rfl, trivial⟩ (v4 h1fc h2f)

set_option maxRecDepth 10000 in
set_option maxHeartbeats 4000000 in
theorem u274 {d : Nat} {I : Nat → Nat → Int32} {D : Nat → Nat → UInt64} {R : Nat → Nat → Option Nat} {Q : j_Po} {a : Nat} {b : Nat} {v : Int32} (hb : b ≤ 20) (hA : ∀ (Q : j_Po), ¬ b = 0 → Q (some (.int v)) w1 (I, D, RR R) → j_Call (d - 1) 274 [.int (nI b), .int ((nI a) - (nI a) / (nI b) * (nI b))] w1 (I, D, RR R) 0 0 Q) (hd : 1 ≤ d)
    (v1 : (¬ (nI b) = 0) → ¬ (nI b) = 0)
    (v2 : (¬ (nI b) = 0) → ¬ b = 0)
    (v3 : (¬ (nI b) = 0) → Q (some (.int v)) w1 (I, D, RR R))
    (v4 : ((nI b) = 0) → Q (some (.int (nI a))) w1 (I, D, RR R)) : j_Call d 274 [.int (nI a), .int (nI b)] w1 (I, D, RR R) 0 0 Q := by
  refine q_enter (L := [some (.int (nI a)), some (.int (nI b))]) j_m274 (Nat.le_of_ble_eq_true rfl) rfl ?_
  refine q_iload_n d274_0 rfl ?_
  refine q_if_ne (tgt := 8) d274_1 rfl (fun h1t => ?_) (fun h1f => ?_)
  ·
    refine q_iload_n d274_8 rfl ?_
    refine q_iload_n d274_9 rfl ?_
    refine q_iload_n d274_10 rfl ?_
    refine q_irem (v1 h1t) d274_11 ?_
    refine q_invS (av := [.int (nI b), .int ((nI a) - (nI a) / (nI b) * (nI b))]) (rest := []) (d' := (d - 1)) (mc' := 0) (ms' := 0) d274_12 (cv10_546 274 rfl) rfl rfl (by omega) (Nat.le_of_ble_eq_true rfl) (Nat.le_of_ble_eq_true rfl) (Nat.le_refl _) (Nat.le_refl _) ?_
    refine hA _ (v2 h1t) ?_
    show j_W 274 d 0 0 0 0 15 [some (.int (nI a)), some (.int (nI b))] [.int v] w1 (I, D, RR R) Q
    exact q_iret d274_15 rfl (Nat.le_refl _) (Nat.le_refl _) (v3 h1t)
  ·
    refine q_iload_n d274_4 rfl ?_
    refine q_goto (tgt := 15) d274_5 rfl ?_
    exact q_iret d274_15 rfl (Nat.le_refl _) (Nat.le_refl _) (v4 h1f)

set_option maxRecDepth 10000 in
set_option maxHeartbeats 4000000 in
theorem u143e {d : Nat} {I : Nat → Nat → Int32} {D : Nat → Nat → UInt64} {R : Nat → Nat → Option Nat} {Q : j_Po} {c : Nat} {s : Int32}   (hd : 0 ≤ d)
    (v1 : j_W 143 d 0 0 0 0 5 [some (.ref 107), some (.int (nI c)), none, some (.int s), some (.int 0)] [] w1 (I, D, RR R) Q) : j_Call d 143 [.ref 107, .int (nI c), .int s] w1 (I, D, RR R) 0 0 Q := by
  refine q_enter (L := [some (.ref 107), some (.int (nI c)), some (.int s), none, none]) j_m143 (Nat.le_of_ble_eq_true rfl) rfl ?_
  refine q_iload_n d143_0 rfl ?_
  refine q_istore_n (L' := [some (.ref 107), some (.int (nI c)), some (.int s), some (.int s), none]) d143_1 (Nat.le_of_ble_eq_true rfl) rfl ?_
  refine q_iconst (v := 0) (by decide) d143_2 ?_
  refine q_istore (L' := [some (.ref 107), some (.int (nI c)), some (.int s), some (.int s), some (.int 0)]) d143_3 (Nat.le_of_ble_eq_true rfl) rfl ?_
  exact r_sub (L' := [some (.ref 107), some (.int (nI c)), none, some (.int s), some (.int 0)]) ⟨rfl, rfl, rfl, rfl, trivial⟩ v1

set_option maxRecDepth 10000 in
set_option maxHeartbeats 4000000 in
theorem u143h {d : Nat} {I : Nat → Nat → Int32} {D : Nat → Nat → UInt64} {R : Nat → Nat → Option Nat} {Q : j_Po} {c : Nat} {k : Int32} {i : Nat} {β : Bd} {η : VEnv} (hC : CB β I D R) (hc : c < 24) (hi : i ≤ 24) (hd : 3 ≤ d)
    (v1 : (24 ≤ i) → j_W 143 d 0 0 0 0 70 [some (.ref 107), some (.int (nI c)), none, none, none] [] w1 (I, D, RR R) Q)
    (v2 : (¬ 24 ≤ i) → ((¬ ((I 207 c) >>> ((nI i) &&& 31)) &&& 1 = 0)) → vf_n64 (FP.ddiv (FP.i2d ((((((k * 1103515245) + 12345)).toUInt32 >>> ((9 : Int32).toUInt32 &&& Int32.toUInt32 31)).toInt32 - ((((k * 1103515245) + 12345)).toUInt32 >>> ((9 : Int32).toUInt32 &&& Int32.toUInt32 31)).toInt32 / 401 * 401) - 200)) 4620693217682128896))
    (v3 : (¬ 24 ≤ i) → ((¬ ((I 207 c) >>> ((nI i) &&& 31)) &&& 1 = 0)) → i < 24)
    (v4 : (¬ 24 ≤ i) → ((¬ ((I 207 c) >>> ((nI i) &&& 31)) &&& 1 = 0)) → Sm (FP.ddiv (FP.i2d ((((((k * 1103515245) + 12345)).toUInt32 >>> ((9 : Int32).toUInt32 &&& Int32.toUInt32 31)).toInt32 - ((((k * 1103515245) + 12345)).toUInt32 >>> ((9 : Int32).toUInt32 &&& Int32.toUInt32 31)).toInt32 / 401 * 401) - 200)) 4620693217682128896))
    (v5 : (¬ 24 ≤ i) → ((¬ ((I 207 c) >>> ((nI i) &&& 31)) &&& 1 = 0)) → 2 ≤ 2)
    (v6 : (¬ 24 ≤ i) → ((¬ ((I 207 c) >>> ((nI i) &&& 31)) &&& 1 = 0)) → LE β I D 0 η)
    (v7 : (¬ 24 ≤ i) → ((¬ ((I 207 c) >>> ((nI i) &&& 31)) &&& 1 = 0)) → ∀ J3 : Nat → Nat → Int32, ∀ E4 : Nat → Nat → UInt64, (FL 0 I D J3 E4) → (LE β J3 E4 0 (fu η i (0, kp (nI (bK β i)) (FP.ddiv (FP.i2d ((((((k * 1103515245) + 12345)).toUInt32 >>> ((9 : Int32).toUInt32 &&& Int32.toUInt32 31)).toInt32 - ((((k * 1103515245) + 12345)).toUInt32 >>> ((9 : Int32).toUInt32 &&& Int32.toUInt32 31)).toInt32 / 401 * 401) - 200)) 4620693217682128896)))) → j_W 143 d 0 0 0 0 5 [some (.ref 107), some (.int (nI c)), none, some (.int ((k * 1103515245) + 12345)), some (.int (nI (i + 1)))] [] w1 (J3, E4, RR R) Q)
    (v8 : (¬ 24 ≤ i) → (¬ ((¬ ((I 207 c) >>> ((nI i) &&& 31)) &&& 1 = 0))) → j_W 143 d 0 0 0 0 5 [some (.ref 107), some (.int (nI c)), none, some (.int k), some (.int (nI (i + 1)))] [] w1 (I, D, RR R) Q) : j_W 143 d 0 0 0 0 5 [some (.ref 107), some (.int (nI c)), none, some (.int k), some (.int (nI i))] [] w1 (I, D, RR R) Q := by
  refine q_iload d143_5 rfl ?_
  refine q_bipush (v := 24) (by decide) d143_7 ?_
  refine q_icmp_ge (tgt := 70) d143_9 rfl (fun h1t => ?_) (fun h1f => ?_)
  ·
    have h1tc : 24 ≤ i := (nI_leI (by omega) (by omega)).mp h1t
    exact r_sub (L' := [some (.ref 107), some (.int (nI c)), none, none, none]) ⟨rfl, rfl, trivial⟩ (v1 h1tc)
  ·
    have h1fc : ¬ 24 ≤ i := mt (nI_leI (by omega) (by omega)).mpr h1f
    refine q_aload_n d143_12 rfl ?_
    refine q_getR (x := 204) d143_13 (fs8_21 143 rfl) rfl (lt_w1 rfl) sh107 (rs107_1 R) (by decide) ?_
    refine q_getR (x := 207) d143_16 (fs8_82 143 rfl) rfl (lt_w1 rfl) sh204 (rs204_2 R) (by decide) ?_
    refine q_iload_n d143_19 rfl ?_
    refine q_iaload (a := c) d143_20 (lt_w1 rfl) sh207 rfl (by omega) ?_
    refine q_iload d143_21 rfl ?_
    refine q_invSN (av := [.int (I 207 c), .int (nI i)]) (rest := []) (d' := 0) (mc' := 0) (ms' := 0) d143_23 (nv8_85 143 rfl) rfl rfl (by omega) (Nat.le_of_ble_eq_true rfl) (Nat.le_of_ble_eq_true rfl) (Nat.le_refl _) (Nat.le_refl _) ?_
    refine p21  (fun h2 => ?_) (fun h2 => ?_)
    ·
      show j_W 143 d 0 0 0 0 26 [some (.ref 107), some (.int (nI c)), none, some (.int k), some (.int (nI i))] [.int 1] w1 (I, D, RR R) Q
      refine q_if_ne (tgt := 32) d143_26 rfl (fun _ => ?_) (fun h => absurd h (by decide))
      refine q_iload_n d143_32 rfl ?_
      refine q_ldcI (v := 1103515245) d143_33 (kc8_89 143 rfl) ?_
      refine q_imul d143_35 ?_
      refine q_sipush (v := 12345) (by decide) d143_36 ?_
      refine q_iadd d143_39 ?_
      refine q_istore_n (L' := [some (.ref 107), some (.int (nI c)), none, some (.int ((k * 1103515245) + 12345)), some (.int (nI i))]) d143_40 (Nat.le_of_ble_eq_true rfl) rfl ?_
      refine q_aload_n d143_41 rfl ?_
      refine q_iload d143_42 rfl ?_
      refine q_iload_n d143_44 rfl ?_
      refine q_bipush (v := 9) (by decide) d143_45 ?_
      refine q_iushr d143_47 ?_
      refine q_sipush (v := 401) (by decide) d143_48 ?_
      refine q_irem (by decide) d143_51 ?_
      refine q_sipush (v := 200) (by decide) d143_52 ?_
      refine q_isub d143_55 ?_
      refine q_i2d d143_56 ?_
      refine q_ldcD (v := 4620693217682128896) d143_57 (kc8_90 143 rfl) ?_
      refine q_ddiv (v2 h1fc h2) d143_60 ?_
      refine q_invV (o := 107) (ci := 8) (av := [.int (nI i), .double (FP.ddiv (FP.i2d ((((((k * 1103515245) + 12345)).toUInt32 >>> ((9 : Int32).toUInt32 &&& Int32.toUInt32 31)).toInt32 - ((((k * 1103515245) + 12345)).toUInt32 >>> ((9 : Int32).toUInt32 &&& Int32.toUInt32 31)).toInt32 / 401 * 401) - 200)) 4620693217682128896)]) (rest := []) (d' := 2) (mc' := 0) (ms' := 0) d143_61 (cv8_71 143 rfl) rfl (by decide) rfl rfl (by omega) (Nat.le_of_ble_eq_true rfl) (Nat.le_of_ble_eq_true rfl) (lt_w1 rfl) sh107 (Nat.le_refl _) (Nat.le_refl _) ?_
      refine c60 (η := η) hC (v3 h1fc h2) (v4 h1fc h2) (v5 h1fc h2) (v6 h1fc h2) (fun J3 E4 h5 h6 => ?_)
      show j_W 143 d 0 0 0 0 64 [some (.ref 107), some (.int (nI c)), none, some (.int ((k * 1103515245) + 12345)), some (.int (nI i))] [] w1 (J3, E4, RR R) Q
      refine q_iinc (L' := [some (.ref 107), some (.int (nI c)), none, some (.int ((k * 1103515245) + 12345)), some (.int (nI (i + 1)))]) (v := (nI (i + 1))) d143_64 rfl (nI_inc _) rfl ?_
      refine q_goto (tgt := 5) d143_67 rfl ?_
      exact r_sub (L' := [some (.ref 107), some (.int (nI c)), none, some (.int ((k * 1103515245) + 12345)), some (.int (nI (i + 1)))]) ⟨rfl, rfl, rfl, rfl, trivial⟩ (v7 h1fc h2 J3 E4 h5 h6)
    ·
      show j_W 143 d 0 0 0 0 26 [some (.ref 107), some (.int (nI c)), none, some (.int k), some (.int (nI i))] [.int 0] w1 (I, D, RR R) Q
      refine q_if_ne (tgt := 32) d143_26 rfl (fun h => absurd h (by decide)) (fun _ => ?_)
      refine q_goto (tgt := 64) d143_29 rfl ?_
      refine q_iinc (L' := [some (.ref 107), some (.int (nI c)), none, some (.int k), some (.int (nI (i + 1)))]) (v := (nI (i + 1))) d143_64 rfl (nI_inc _) rfl ?_
      refine q_goto (tgt := 5) d143_67 rfl ?_
      exact r_sub (L' := [some (.ref 107), some (.int (nI c)), none, some (.int k), some (.int (nI (i + 1)))]) ⟨rfl, rfl, rfl, rfl, trivial⟩ (v8 h1fc h2)

set_option maxRecDepth 10000 in
set_option maxHeartbeats 4000000 in
theorem u143b {d : Nat} {I : Nat → Nat → Int32} {D : Nat → Nat → UInt64} {R : Nat → Nat → Option Nat} {Q : j_Po} {c : Nat}  {AP : (Nat → Nat → Int32) → (Nat → Nat → UInt64) → Prop} (hc : c < 24) (hA : ∀ (Q : j_Po), (∀ J E, AP J E → Q none w1 (J, E, RR R)) → j_Call (d - 1) 36 [.ref 107, .int 0, .int (I 206 c)] w1 (I, D, RR R) 0 0 Q) (hd : 1 ≤ d)
    (v1 : ∀ J1 : Nat → Nat → Int32, ∀ E2 : Nat → Nat → UInt64, (AP J1 E2) → j_W 143 d 0 0 0 0 84 [some (.ref 107), some (.int (nI c)), none, none, none] [] w1 (J1, E2, RR R) Q) : j_W 143 d 0 0 0 0 70 [some (.ref 107), some (.int (nI c)), none, none, none] [] w1 (I, D, RR R) Q := by
  refine q_aload_n d143_70 rfl ?_
  refine q_iconst (v := 0) (by decide) d143_71 ?_
  refine q_aload_n d143_72 rfl ?_
  refine q_getR (x := 204) d143_73 (fs8_21 143 rfl) rfl (lt_w1 rfl) sh107 (rs107_1 R) (by decide) ?_
  refine q_getR (x := 206) d143_76 (fs8_75 143 rfl) rfl (lt_w1 rfl) sh204 (rs204_1 R) (by decide) ?_
  refine q_iload_n d143_79 rfl ?_
  refine q_iaload (a := c) d143_80 (lt_w1 rfl) sh206 rfl (by omega) ?_
  refine q_invV (o := 107) (ci := 8) (av := [.int 0, .int (I 206 c)]) (rest := []) (d' := (d - 1)) (mc' := 0) (ms' := 0) d143_81 (cv8_78 143 rfl) rfl (by decide) rfl rfl (by omega) (Nat.le_of_ble_eq_true rfl) (Nat.le_of_ble_eq_true rfl) (lt_w1 rfl) sh107 (Nat.le_refl _) (Nat.le_refl _) ?_
  refine hA _  (fun J1 E2 h3 => ?_)
  show j_W 143 d 0 0 0 0 84 [some (.ref 107), some (.int (nI c)), none, none, none] [] w1 (J1, E2, RR R) Q
  exact r_sub (L' := [some (.ref 107), some (.int (nI c)), none, none, none]) ⟨rfl, rfl, trivial⟩ (v1 J1 E2 h3)

set_option maxRecDepth 10000 in
set_option maxHeartbeats 4000000 in
theorem u143c {d : Nat} {I : Nat → Nat → Int32} {D : Nat → Nat → UInt64} {R : Nat → Nat → Option Nat} {Q : j_Po} {c : Nat}  (hc : c < 24) (hd : 1 ≤ d)
    (v1 : Q (some (.int (I 221 c))) w1 (I, D, RR R)) : j_W 143 d 0 0 0 0 84 [some (.ref 107), some (.int (nI c)), none, none, none] [] w1 (I, D, RR R) Q := by
  refine q_aload_n d143_84 rfl ?_
  refine q_getR (x := 220) d143_85 (fs8_38 143 rfl) rfl (lt_w1 rfl) sh107 (rs107_4 R) (by decide) ?_
  refine q_iconst (v := 0) (by decide) d143_88 ?_
  refine q_aaload (c := 4) (a := 0) (x := 221) d143_89 (lt_w1 rfl) sh220 (by decide) rfl (by decide) (rm220 (k := 0) R (by decide)) (by decide) ?_
  refine q_iload_n d143_90 rfl ?_
  refine q_iaload (a := c) d143_91 (lt_w1 rfl) sh221 rfl (by omega) ?_
  exact q_iret d143_92 rfl (Nat.le_refl _) (Nat.le_refl _) v1

set_option maxRecDepth 10000 in
set_option maxHeartbeats 4000000 in
theorem u273e {d : Nat} {I : Nat → Nat → Int32} {D : Nat → Nat → UInt64} {R : Nat → Nat → Option Nat} {Q : j_Po} {c : Nat} {x : Int32} {s : Int32} {y : UInt64}   (hd : 2 ≤ d)
    (v1 : ∀ q, q < 24 → I 262 (0 + q) = 0 ∨ I 262 (0 + q) = 1)
    (v2 : j_W 273 d 0 0 0 0 36 [some (.ref 260), some (.int (nI c)), some (.int x), none, some (.double y), none, some (.int s), some (.int 0), none, none] [] w1 ((j_uo I 430 (va_cpy (I 262) (I 430) 0 0 24)), (j_uo D 429 (va_cpy (D 263) (D 429) 0 0 24)), RR R) Q) : j_Call d 273 [.ref 260, .int (nI c), .int x, .int s, .double y] w1 (I, D, RR R) 0 0 Q := by
  refine q_enter (L := [some (.ref 260), some (.int (nI c)), some (.int x), some (.int s), some (.double y), none, none, none, none, none]) j_m273 (Nat.le_of_ble_eq_true rfl) rfl ?_
  refine q_aload_n d273_0 rfl ?_
  refine q_getR (x := 263) d273_1 (fs10_17 273 rfl) rfl (lt_w1 rfl) sh260 (rs260_2 R) (by decide) ?_
  refine q_iconst (v := 0) (by decide) d273_4 ?_
  refine q_aload_n d273_5 rfl ?_
  refine q_getR (x := 429) d273_6 (fs10_123 273 rfl) rfl (lt_w1 rfl) sh260 (rs260_55 R) (by decide) ?_
  refine q_iconst (v := 0) (by decide) d273_9 ?_
  refine q_bipush (v := 24) (by decide) d273_10 ?_
  refine r_copyD (a := 0) (b := 0) (m0 := 24) d273_12 (by exact j_i7 197 rfl) (lt_w1 rfl) sh263 (lt_w1 rfl) sh429 rfl rfl rfl (by omega) (by omega) (by omega) (Nat.le_of_ble_eq_true rfl) ?_
  refine q_aload_n d273_15 rfl ?_
  refine q_getR (x := 262) d273_16 (fs10_13 273 rfl) rfl (lt_w1 rfl) sh260 (rs260_1 R) (by decide) ?_
  refine q_iconst (v := 0) (by decide) d273_19 ?_
  refine q_aload_n d273_20 rfl ?_
  refine q_getR (x := 430) d273_21 (fs10_126 273 rfl) rfl (lt_w1 rfl) sh260 (rs260_56 R) (by decide) ?_
  refine q_iconst (v := 0) (by decide) d273_24 ?_
  refine q_bipush (v := 24) (by decide) d273_25 ?_
  refine r_copyZ (a := 0) (b := 0) (m0 := 24) d273_27 (by exact j_i7 197 rfl) (lt_w1 rfl) sh262 (lt_w1 rfl) sh430 rfl rfl rfl (by omega) (by omega) v1 (by omega) (Nat.le_of_ble_eq_true rfl) ?_
  refine q_iload_n d273_30 rfl ?_
  refine q_istore (L' := [some (.ref 260), some (.int (nI c)), some (.int x), some (.int s), some (.double y), none, some (.int s), none, none, none]) d273_31 (Nat.le_of_ble_eq_true rfl) rfl ?_
  refine q_iconst (v := 0) (by decide) d273_33 ?_
  refine q_istore (L' := [some (.ref 260), some (.int (nI c)), some (.int x), some (.int s), some (.double y), none, some (.int s), some (.int 0), none, none]) d273_34 (Nat.le_of_ble_eq_true rfl) rfl ?_
  exact r_sub (L' := [some (.ref 260), some (.int (nI c)), some (.int x), none, some (.double y), none, some (.int s), some (.int 0), none, none]) ⟨rfl, rfl, rfl, rfl, rfl, rfl, trivial⟩ v2

set_option maxRecDepth 10000 in
set_option maxHeartbeats 4000000 in
theorem u273h {d : Nat} {I : Nat → Nat → Int32} {D : Nat → Nat → UInt64} {R : Nat → Nat → Option Nat} {Q : j_Po} {c : Nat} {x : Int32} {y : UInt64} {k : Int32} {i : Nat}  (hi : i ≤ 24) (hd : 1 ≤ d)
    (v1 : (24 ≤ i) → j_W 273 d 0 0 0 0 106 [some (.ref 260), some (.int (nI c)), none, none, some (.double y), none, none, none, none, none] [] w1 (I, D, RR R) Q)
    (v2 : (¬ 24 ≤ i) → (¬ ((x >>> ((nI i) &&& 31)) &&& 1) = 0) → vf_n64 (FP.ddiv (FP.i2d ((((((k * 1103515245) + 12345)).toUInt32 >>> ((9 : Int32).toUInt32 &&& Int32.toUInt32 31)).toInt32 - ((((k * 1103515245) + 12345)).toUInt32 >>> ((9 : Int32).toUInt32 &&& Int32.toUInt32 31)).toInt32 / 401 * 401) - 200)) 4620693217682128896))
    (v3 : (¬ 24 ≤ i) → (¬ ((x >>> ((nI i) &&& 31)) &&& 1) = 0) → j_W 273 d 0 0 0 0 36 [some (.ref 260), some (.int (nI c)), some (.int x), none, some (.double y), none, some (.int ((k * 1103515245) + 12345)), some (.int (nI (i + 1))), none, none] [] w1 ((j_u I 262 i 1), (j_u D 263 i (FP.ddiv (FP.i2d ((((((k * 1103515245) + 12345)).toUInt32 >>> ((9 : Int32).toUInt32 &&& Int32.toUInt32 31)).toInt32 - ((((k * 1103515245) + 12345)).toUInt32 >>> ((9 : Int32).toUInt32 &&& Int32.toUInt32 31)).toInt32 / 401 * 401) - 200)) 4620693217682128896)), RR R) Q)
    (v4 : (¬ 24 ≤ i) → (((x >>> ((nI i) &&& 31)) &&& 1) = 0) → j_W 273 d 0 0 0 0 36 [some (.ref 260), some (.int (nI c)), some (.int x), none, some (.double y), none, some (.int k), some (.int (nI (i + 1))), none, none] [] w1 (I, D, RR R) Q) : j_W 273 d 0 0 0 0 36 [some (.ref 260), some (.int (nI c)), some (.int x), none, some (.double y), none, some (.int k), some (.int (nI i)), none, none] [] w1 (I, D, RR R) Q := by
  refine q_iload d273_36 rfl ?_
  refine q_bipush (v := 24) (by decide) d273_38 ?_
  refine q_icmp_ge (tgt := 106) d273_40 rfl (fun h1t => ?_) (fun h1f => ?_)
  ·
    have h1tc : 24 ≤ i := (nI_leI (by omega) (by omega)).mp h1t
    exact r_sub (L' := [some (.ref 260), some (.int (nI c)), none, none, some (.double y), none, none, none, none, none]) ⟨rfl, rfl, rfl, trivial⟩ (v1 h1tc)
  ·
    have h1fc : ¬ 24 ≤ i := mt (nI_leI (by omega) (by omega)).mpr h1f
    refine q_iload_n d273_43 rfl ?_
    refine q_iload d273_44 rfl ?_
    refine q_ishr d273_46 ?_
    refine q_iconst (v := 1) (by decide) d273_47 ?_
    refine q_iand d273_48 ?_
    refine q_if_ne (tgt := 55) d273_49 rfl (fun h2t => ?_) (fun h2f => ?_)
    ·
      refine q_iload d273_55 rfl ?_
      refine q_ldcwI (v := 1103515245) d273_57 (kc10_545 273 rfl) ?_
      refine q_imul d273_60 ?_
      refine q_sipush (v := 12345) (by decide) d273_61 ?_
      refine q_iadd d273_64 ?_
      refine q_istore (L' := [some (.ref 260), some (.int (nI c)), some (.int x), none, some (.double y), none, some (.int ((k * 1103515245) + 12345)), some (.int (nI i)), none, none]) d273_65 (Nat.le_of_ble_eq_true rfl) rfl ?_
      refine q_aload_n d273_67 rfl ?_
      refine q_getR (x := 263) d273_68 (fs10_17 273 rfl) rfl (lt_w1 rfl) sh260 (rs260_2 R) (by decide) ?_
      refine q_iload d273_71 rfl ?_
      refine q_iload d273_73 rfl ?_
      refine q_bipush (v := 9) (by decide) d273_75 ?_
      refine q_iushr d273_77 ?_
      refine q_sipush (v := 401) (by decide) d273_78 ?_
      refine q_irem (by decide) d273_81 ?_
      refine q_sipush (v := 200) (by decide) d273_82 ?_
      refine q_isub d273_85 ?_
      refine q_i2d d273_86 ?_
      refine q_ldcD (v := 4620693217682128896) d273_87 (kc10_318 273 rfl) ?_
      refine q_ddiv (v2 h1fc h2t) d273_90 ?_
      refine q_dastore (a := i) d273_91 (lt_w1 rfl) sh263 rfl (by omega) ?_
      refine q_aload_n d273_92 rfl ?_
      refine q_getR (x := 262) d273_93 (fs10_13 273 rfl) rfl (lt_w1 rfl) sh260 (rs260_1 R) (by decide) ?_
      refine q_iload d273_96 rfl ?_
      refine q_iconst (v := 1) (by decide) d273_98 ?_
      refine q_zastore (a := i) d273_99 (Or.inr rfl) (lt_w1 rfl) sh262 rfl (by omega) ?_
      refine q_iinc (L' := [some (.ref 260), some (.int (nI c)), some (.int x), none, some (.double y), none, some (.int ((k * 1103515245) + 12345)), some (.int (nI (i + 1))), none, none]) (v := (nI (i + 1))) d273_100 rfl (nI_inc _) rfl ?_
      refine q_goto (tgt := 36) d273_103 rfl ?_
      exact r_sub (L' := [some (.ref 260), some (.int (nI c)), some (.int x), none, some (.double y), none, some (.int ((k * 1103515245) + 12345)), some (.int (nI (i + 1))), none, none]) ⟨rfl, rfl, rfl, rfl, rfl, rfl, trivial⟩ (v3 h1fc h2t)
    ·
      refine q_goto (tgt := 100) d273_52 rfl ?_
      refine q_iinc (L' := [some (.ref 260), some (.int (nI c)), some (.int x), none, some (.double y), none, some (.int k), some (.int (nI (i + 1))), none, none]) (v := (nI (i + 1))) d273_100 rfl (nI_inc _) rfl ?_
      refine q_goto (tgt := 36) d273_103 rfl ?_
      exact r_sub (L' := [some (.ref 260), some (.int (nI c)), some (.int x), none, some (.double y), none, some (.int k), some (.int (nI (i + 1))), none, none]) ⟨rfl, rfl, rfl, rfl, rfl, rfl, trivial⟩ (v4 h1fc h2f)

set_option maxRecDepth 10000 in
set_option maxHeartbeats 4000000 in
theorem u273b {d : Nat} {I : Nat → Nat → Int32} {D : Nat → Nat → UInt64} {R : Nat → Nat → Option Nat} {Q : j_Po} {c : Nat} {y : UInt64} {β : Bd} {η : VEnv} (hV : BV β) (hc : c < 24) (hd : 90 ≤ d)
    (v1 : RSt β I D)
    (v2 : RIn β I D η)
    (v3 : c < 24)
    (v4 : 80 ≤ 80)
    (v5 : ∀ J1 : Nat → Nat → Int32, ∀ E2 : Nat → Nat → UInt64, (FRr I D J1 E2) → (VQ (J1 380 c) (J1 388 c) (E2 372 c) (val β η c)) → 0 ≤ 0)
    (v6 : ∀ J1 : Nat → Nat → Int32, ∀ E2 : Nat → Nat → UInt64, (FRr I D J1 E2) → (VQ (J1 380 c) (J1 388 c) (E2 372 c) (val β η c)) → (¬ (J1 380 c) = 0) → j_W 273 d 0 0 0 0 136 [some (.ref 260), none, none, none, none, none, none, none, none, some (.int 0)] [] w1 (J1, E2, RR R) Q)
    (v7 : ∀ J1 : Nat → Nat → Int32, ∀ E2 : Nat → Nat → UInt64, (FRr I D J1 E2) → (VQ (J1 380 c) (J1 388 c) (E2 372 c) (val β η c)) → ((J1 380 c) = 0) → (dge (E2 372 c) y = false) → j_W 273 d 0 0 0 0 136 [some (.ref 260), none, none, none, none, none, none, none, none, some (.int 0)] [] w1 (J1, E2, RR R) Q)
    (v8 : ∀ J1 : Nat → Nat → Int32, ∀ E2 : Nat → Nat → UInt64, (FRr I D J1 E2) → (VQ (J1 380 c) (J1 388 c) (E2 372 c) (val β η c)) → ((J1 380 c) = 0) → (dge (E2 372 c) y = true) → j_W 273 d 0 0 0 0 136 [some (.ref 260), none, none, none, none, none, none, none, none, some (.int 1)] [] w1 (J1, E2, RR R) Q) : j_W 273 d 0 0 0 0 106 [some (.ref 260), some (.int (nI c)), none, none, some (.double y), none, none, none, none, none] [] w1 (I, D, RR R) Q := by
  refine q_aload_n d273_106 rfl ?_
  refine q_iload_n d273_107 rfl ?_
  refine q_invV (o := 260) (ci := 10) (av := [.int (nI c)]) (rest := []) (d' := 80) (mc' := 0) (ms' := 0) d273_108 (cv10_328 273 rfl) rfl (by decide) rfl rfl (by omega) (Nat.le_of_ble_eq_true rfl) (Nat.le_of_ble_eq_true rfl) (lt_w1 rfl) sh260 (Nat.le_refl _) (Nat.le_refl _) ?_
  refine c199 (η := η) hV v1 v2 v3 v4 (fun J1 E2 h3 h4 => ?_)
  show j_W 273 d 0 0 0 0 111 [some (.ref 260), some (.int (nI c)), none, none, some (.double y), none, none, none, none, none] [.double (E2 372 c)] w1 (J1, E2, RR R) Q
  refine q_dstore (L' := [some (.ref 260), some (.int (nI c)), none, none, some (.double y), none, none, some (.double (E2 372 c)), none, none]) d273_111 (Nat.le_of_ble_eq_true rfl) rfl ?_
  refine q_aload_n d273_113 rfl ?_
  refine q_iload_n d273_114 rfl ?_
  refine q_invV (o := 260) (ci := 10) (av := [.int (nI c)]) (rest := []) (d' := 0) (mc' := 0) (ms' := 0) d273_115 (cv10_332 273 rfl) rfl (by decide) rfl rfl (by omega) (Nat.le_of_ble_eq_true rfl) (Nat.le_of_ble_eq_true rfl) (lt_w1 rfl) sh260 (Nat.le_refl _) (Nat.le_refl _) ?_
  refine u200 v3 (v5 J1 E2 h3 h4) ?_
  show j_W 273 d 0 0 0 0 118 [some (.ref 260), some (.int (nI c)), none, none, some (.double y), none, none, some (.double (E2 372 c)), none, none] [.int (J1 380 c)] w1 (J1, E2, RR R) Q
  refine q_if_ne (tgt := 133) d273_118 rfl (fun h5t => ?_) (fun h5f => ?_)
  ·
    refine q_iconst (v := 0) (by decide) d273_133 ?_
    refine q_istore (L' := [some (.ref 260), some (.int (nI c)), none, none, some (.double y), none, none, some (.double (E2 372 c)), none, some (.int 0)]) d273_134 (Nat.le_of_ble_eq_true rfl) rfl ?_
    exact r_sub (L' := [some (.ref 260), none, none, none, none, none, none, none, none, some (.int 0)]) ⟨rfl, rfl, trivial⟩ (v6 J1 E2 h3 h4 h5t)
  ·
    refine q_dload d273_121 rfl ?_
    refine q_dload d273_123 rfl ?_
    refine q_dcmp d273_125 ?_
    refine q_if_lt (tgt := 133) d273_126 rfl (fun h6t => ?_) (fun h6f => ?_)
    ·
      have h6tc : dge (E2 372 c) y = false := dc_l_lt_t h6t
      refine q_iconst (v := 0) (by decide) d273_133 ?_
      refine q_istore (L' := [some (.ref 260), some (.int (nI c)), none, none, some (.double y), none, none, some (.double (E2 372 c)), none, some (.int 0)]) d273_134 (Nat.le_of_ble_eq_true rfl) rfl ?_
      exact r_sub (L' := [some (.ref 260), none, none, none, none, none, none, none, none, some (.int 0)]) ⟨rfl, rfl, trivial⟩ (v7 J1 E2 h3 h4 h5f h6tc)
    ·
      have h6fc : dge (E2 372 c) y = true := dc_l_lt_f h6f
      refine q_iconst (v := 1) (by decide) d273_129 ?_
      refine q_goto (tgt := 134) d273_130 rfl ?_
      refine q_istore (L' := [some (.ref 260), some (.int (nI c)), none, none, some (.double y), none, none, some (.double (E2 372 c)), none, some (.int 1)]) d273_134 (Nat.le_of_ble_eq_true rfl) rfl ?_
      exact r_sub (L' := [some (.ref 260), none, none, none, none, none, none, none, none, some (.int 1)]) ⟨rfl, rfl, trivial⟩ (v8 J1 E2 h3 h4 h5f h6fc)

set_option maxRecDepth 10000 in
set_option maxHeartbeats 4000000 in
theorem u273c {d : Nat} {I : Nat → Nat → Int32} {D : Nat → Nat → UInt64} {R : Nat → Nat → Option Nat} {Q : j_Po} {b : Int32}   (hd : 5 ≤ d)
    (v1 : ∀ q, q < 24 → I 430 (0 + q) = 0 ∨ I 430 (0 + q) = 1)
    (v2 : Q (some (.int b)) w1 ((j_uo I 262 (va_cpy (I 430) (I 262) 0 0 24)), (j_uo D 263 (va_cpy (D 429) (D 263) 0 0 24)), RR R))
    (v3 : b = 0 ∨ b = 1) : j_W 273 d 0 0 0 0 136 [some (.ref 260), none, none, none, none, none, none, none, none, some (.int b)] [] w1 (I, D, RR R) Q := by
  refine q_aload_n d273_136 rfl ?_
  refine q_getR (x := 429) d273_137 (fs10_123 273 rfl) rfl (lt_w1 rfl) sh260 (rs260_55 R) (by decide) ?_
  refine q_iconst (v := 0) (by decide) d273_140 ?_
  refine q_aload_n d273_141 rfl ?_
  refine q_getR (x := 263) d273_142 (fs10_17 273 rfl) rfl (lt_w1 rfl) sh260 (rs260_2 R) (by decide) ?_
  refine q_iconst (v := 0) (by decide) d273_145 ?_
  refine q_bipush (v := 24) (by decide) d273_146 ?_
  refine r_copyD (a := 0) (b := 0) (m0 := 24) d273_148 (by exact j_i7 197 rfl) (lt_w1 rfl) sh429 (lt_w1 rfl) sh263 rfl rfl rfl (by omega) (by omega) (by omega) (Nat.le_of_ble_eq_true rfl) ?_
  refine q_aload_n d273_151 rfl ?_
  refine q_getR (x := 430) d273_152 (fs10_126 273 rfl) rfl (lt_w1 rfl) sh260 (rs260_56 R) (by decide) ?_
  refine q_iconst (v := 0) (by decide) d273_155 ?_
  refine q_aload_n d273_156 rfl ?_
  refine q_getR (x := 262) d273_157 (fs10_13 273 rfl) rfl (lt_w1 rfl) sh260 (rs260_1 R) (by decide) ?_
  refine q_iconst (v := 0) (by decide) d273_160 ?_
  refine q_bipush (v := 24) (by decide) d273_161 ?_
  refine r_copyZ (a := 0) (b := 0) (m0 := 24) d273_163 (by exact j_i7 197 rfl) (lt_w1 rfl) sh430 (lt_w1 rfl) sh262 rfl rfl rfl (by omega) (by omega) v1 (by omega) (Nat.le_of_ble_eq_true rfl) ?_
  refine q_iload d273_166 rfl ?_
  exact q_zret d273_168 rfl v3 (Nat.le_refl _) (Nat.le_refl _) v2

set_option maxRecDepth 10000 in
set_option maxHeartbeats 4000000 in
theorem u142r {d : Nat} {I : Nat → Nat → Int32} {D : Nat → Nat → UInt64} {R : Nat → Nat → Option Nat} {Q : j_Po} {a : Int32} {s : Int32} {n : Int32} {w : Int32} {o : Int32}   (hd : 2 ≤ d)
    (v1 : ∀ k1 : Nat, (k1 < 24) → (a = nI k1) → (n < 1) → Q (some (.int (-2))) w1 (I, D, RR R))
    (v2 : ∀ k1 : Nat, (k1 < 24) → (a = nI k1) → (¬ n < 1) → (20 < n) → Q (some (.int (-2))) w1 (I, D, RR R))
    (v3 : ∀ k1 : Nat, (k1 < 24) → (a = nI k1) → (¬ n < 1) → (¬ 20 < n) → ((¬ w < -(80000 : Int32) ∧ ¬ (80000 : Int32) < w)) → (o < 0) → Q (some (.int (-2))) w1 (I, D, RR R))
    (v4 : ∀ k1 : Nat, (k1 < 24) → (a = nI k1) → (¬ n < 1) → (¬ 20 < n) → ((¬ w < -(80000 : Int32) ∧ ¬ (80000 : Int32) < w)) → (¬ o < 0) → (o ≤ 1) → j_W 142 d 0 0 0 0 42 [some (.ref 0), some (.int (nI k1)), some (.int s), some (.int n), some (.int w), some (.int o), none, none, none] [] w1 (I, D, RR R) Q)
    (v5 : ∀ k1 : Nat, (k1 < 24) → (a = nI k1) → (¬ n < 1) → (¬ 20 < n) → ((¬ w < -(80000 : Int32) ∧ ¬ (80000 : Int32) < w)) → (¬ o < 0) → (¬ o ≤ 1) → Q (some (.int (-2))) w1 (I, D, RR R))
    (v6 : ∀ k1 : Nat, (k1 < 24) → (a = nI k1) → (¬ n < 1) → (¬ 20 < n) → (¬ ((¬ w < -(80000 : Int32) ∧ ¬ (80000 : Int32) < w))) → Q (some (.int (-2))) w1 (I, D, RR R))
    (v7 : (¬ (∃ k : Nat, k < 24 ∧ a = nI k)) → Q (some (.int (-2))) w1 (I, D, RR R)) : j_Call d 142 [.ref 0, .int a, .int s, .int n, .int w, .int o] w1 (I, D, RR R) 0 0 Q := by
  refine q_enter (L := [some (.ref 0), some (.int a), some (.int s), some (.int n), some (.int w), some (.int o), none, none, none]) j_m142 (Nat.le_of_ble_eq_true rfl) rfl ?_
  refine q_iload_n d142_0 rfl ?_
  refine q_invS (av := [.int a]) (rest := []) (d' := 0) (mc' := 0) (ms' := 0) d142_1 (cv9_60 142 rfl) rfl rfl (by omega) (Nat.le_of_ble_eq_true rfl) (Nat.le_of_ble_eq_true rfl) (Nat.le_refl _) (Nat.le_refl _) ?_
  refine r12  (fun k1 h1 h1e => ?_) (fun h1 => ?_)
  ·
    subst h1e
    show j_W 142 d 0 0 0 0 4 [some (.ref 0), some (.int (nI k1)), some (.int s), some (.int n), some (.int w), some (.int o), none, none, none] [.int 1] w1 (I, D, RR R) Q
    refine q_if_eq (tgt := 39) d142_4 rfl (fun h => absurd h (by decide)) (fun _ => ?_)
    refine q_iload_n d142_7 rfl ?_
    refine q_iconst (v := 1) (by decide) d142_8 ?_
    refine q_icmp_lt (tgt := 39) d142_9 rfl (fun h2t => ?_) (fun h2f => ?_)
    ·
      refine q_bipush (v := (-2)) (by decide) d142_39 ?_
      exact q_iret d142_41 rfl (Nat.le_refl _) (Nat.le_refl _) (v1 k1 h1 rfl h2t)
    ·
      refine q_iload_n d142_12 rfl ?_
      refine q_bipush (v := 20) (by decide) d142_13 ?_
      refine q_icmp_gt (tgt := 39) d142_15 rfl (fun h3t => ?_) (fun h3f => ?_)
      ·
        refine q_bipush (v := (-2)) (by decide) d142_39 ?_
        exact q_iret d142_41 rfl (Nat.le_refl _) (Nat.le_refl _) (v2 k1 h1 rfl h2f h3t)
      ·
        refine q_iload d142_18 rfl ?_
        refine q_ldcI (v := 80000) d142_20 (kc9_193 142 rfl) ?_
        refine q_invS (av := [.int w, .int 80000]) (rest := []) (d' := 0) (mc' := 0) (ms' := 0) d142_22 (cv9_65 142 rfl) rfl rfl (by omega) (Nat.le_of_ble_eq_true rfl) (Nat.le_of_ble_eq_true rfl) (Nat.le_refl _) (Nat.le_refl _) ?_
        refine p13  (fun h4 => ?_) (fun h4 => ?_)
        ·
          show j_W 142 d 0 0 0 0 25 [some (.ref 0), some (.int (nI k1)), some (.int s), some (.int n), some (.int w), some (.int o), none, none, none] [.int 1] w1 (I, D, RR R) Q
          refine q_if_eq (tgt := 39) d142_25 rfl (fun h => absurd h (by decide)) (fun _ => ?_)
          refine q_iload d142_28 rfl ?_
          refine q_if_lt (tgt := 39) d142_30 rfl (fun h5t => ?_) (fun h5f => ?_)
          ·
            refine q_bipush (v := (-2)) (by decide) d142_39 ?_
            exact q_iret d142_41 rfl (Nat.le_refl _) (Nat.le_refl _) (v3 k1 h1 rfl h2f h3f h4 h5t)
          ·
            refine q_iload d142_33 rfl ?_
            refine q_iconst (v := 1) (by decide) d142_35 ?_
            refine q_icmp_le (tgt := 42) d142_36 rfl (fun h6t => ?_) (fun h6f => ?_)
            ·
              exact r_sub (L' := [some (.ref 0), some (.int (nI k1)), some (.int s), some (.int n), some (.int w), some (.int o), none, none, none]) ⟨rfl, rfl, rfl, rfl, rfl, rfl, trivial⟩ (v4 k1 h1 rfl h2f h3f h4 h5f h6t)
            ·
              refine q_bipush (v := (-2)) (by decide) d142_39 ?_
              exact q_iret d142_41 rfl (Nat.le_refl _) (Nat.le_refl _) (v5 k1 h1 rfl h2f h3f h4 h5f h6f)
        ·
          show j_W 142 d 0 0 0 0 25 [some (.ref 0), some (.int (nI k1)), some (.int s), some (.int n), some (.int w), some (.int o), none, none, none] [.int 0] w1 (I, D, RR R) Q
          refine q_if_eq (tgt := 39) d142_25 rfl (fun _ => ?_) (fun h => absurd h (by decide))
          refine q_bipush (v := (-2)) (by decide) d142_39 ?_
          exact q_iret d142_41 rfl (Nat.le_refl _) (Nat.le_refl _) (v6 k1 h1 rfl h2f h3f h4)
  ·
    show j_W 142 d 0 0 0 0 4 [some (.ref 0), some (.int a), some (.int s), some (.int n), some (.int w), some (.int o), none, none, none] [.int 0] w1 (I, D, RR R) Q
    refine q_if_eq (tgt := 39) d142_4 rfl (fun _ => ?_) (fun h => absurd h (by decide))
    refine q_bipush (v := (-2)) (by decide) d142_39 ?_
    exact q_iret d142_41 rfl (Nat.le_refl _) (Nat.le_refl _) (v7 h1)

set_option maxRecDepth 10000 in
set_option maxHeartbeats 4000000 in
theorem u272r {d : Nat} {I : Nat → Nat → Int32} {D : Nat → Nat → UInt64} {R : Nat → Nat → Option Nat} {Q : j_Po} {a : Int32} {s : Int32} {n : Int32} {w : Int32} {o : Int32}   (hd : 3 ≤ d)
    (v1 : ∀ k1 : Nat, (k1 < 24) → (a = nI k1) → ((¬ n < (1 : Int32) ∧ ¬ (20 : Int32) < n)) → ((¬ w < (-80000 : Int32) ∧ ¬ (80000 : Int32) < w)) → ((¬ o < (0 : Int32) ∧ ¬ (1 : Int32) < o)) → j_W 272 d 0 0 0 0 38 [some (.ref 260), some (.int (nI k1)), some (.int s), some (.int n), some (.int w), some (.int o), none, none, none] [] w1 (I, D, RR R) Q)
    (v2 : ∀ k1 : Nat, (k1 < 24) → (a = nI k1) → ((¬ n < (1 : Int32) ∧ ¬ (20 : Int32) < n)) → ((¬ w < (-80000 : Int32) ∧ ¬ (80000 : Int32) < w)) → (¬ ((¬ o < (0 : Int32) ∧ ¬ (1 : Int32) < o))) → Q (some (.int (-2))) w1 (I, D, RR R))
    (v3 : ∀ k1 : Nat, (k1 < 24) → (a = nI k1) → ((¬ n < (1 : Int32) ∧ ¬ (20 : Int32) < n)) → (¬ ((¬ w < (-80000 : Int32) ∧ ¬ (80000 : Int32) < w))) → Q (some (.int (-2))) w1 (I, D, RR R))
    (v4 : ∀ k1 : Nat, (k1 < 24) → (a = nI k1) → (¬ ((¬ n < (1 : Int32) ∧ ¬ (20 : Int32) < n))) → Q (some (.int (-2))) w1 (I, D, RR R))
    (v5 : (¬ (∃ k : Nat, k < 24 ∧ a = nI k)) → Q (some (.int (-2))) w1 (I, D, RR R)) : j_Call d 272 [.ref 260, .int a, .int s, .int n, .int w, .int o] w1 (I, D, RR R) 0 0 Q := by
  refine q_enter (L := [some (.ref 260), some (.int a), some (.int s), some (.int n), some (.int w), some (.int o), none, none, none]) j_m272 (Nat.le_of_ble_eq_true rfl) rfl ?_
  refine q_iload_n d272_0 rfl ?_
  refine q_invS (av := [.int a]) (rest := []) (d' := 1) (mc' := 0) (ms' := 0) d272_1 (cv10_312 272 rfl) rfl rfl (by omega) (Nat.le_of_ble_eq_true rfl) (Nat.le_of_ble_eq_true rfl) (Nat.le_refl _) (Nat.le_refl _) ?_
  refine r167 (Nat.le_refl _)  (fun k1 h1 h1e => ?_) (fun h1 => ?_)
  ·
    subst h1e
    show j_W 272 d 0 0 0 0 4 [some (.ref 260), some (.int (nI k1)), some (.int s), some (.int n), some (.int w), some (.int o), none, none, none] [.int 1] w1 (I, D, RR R) Q
    refine q_if_eq (tgt := 35) d272_4 rfl (fun h => absurd h (by decide)) (fun _ => ?_)
    refine q_iload_n d272_7 rfl ?_
    refine q_iconst (v := 1) (by decide) d272_8 ?_
    refine q_bipush (v := 20) (by decide) d272_9 ?_
    refine q_invS (av := [.int n, .int 1, .int 20]) (rest := []) (d' := 0) (mc' := 0) (ms' := 0) d272_11 (cv10_183 272 rfl) rfl rfl (by omega) (Nat.le_of_ble_eq_true rfl) (Nat.le_of_ble_eq_true rfl) (Nat.le_refl _) (Nat.le_refl _) ?_
    refine p168  (fun h2 => ?_) (fun h2 => ?_)
    ·
      show j_W 272 d 0 0 0 0 14 [some (.ref 260), some (.int (nI k1)), some (.int s), some (.int n), some (.int w), some (.int o), none, none, none] [.int 1] w1 (I, D, RR R) Q
      refine q_if_eq (tgt := 35) d272_14 rfl (fun h => absurd h (by decide)) (fun _ => ?_)
      refine q_iload d272_17 rfl ?_
      refine q_invS (av := [.int w]) (rest := []) (d' := 1) (mc' := 0) (ms' := 0) d272_19 (cv10_536 272 rfl) rfl rfl (by omega) (Nat.le_of_ble_eq_true rfl) (Nat.le_of_ble_eq_true rfl) (Nat.le_refl _) (Nat.le_refl _) ?_
      refine s266   (Nat.le_refl _) (fun c3 => ?_) (fun c4 => ?_)
      ·
        show j_W 272 d 0 0 0 0 22 [some (.ref 260), some (.int (nI k1)), some (.int s), some (.int n), some (.int w), some (.int o), none, none, none] [.int 1] w1 (I, D, RR R) Q
        refine q_if_eq (tgt := 35) d272_22 rfl (fun h => absurd h (by decide)) (fun _ => ?_)
        refine q_iload d272_25 rfl ?_
        refine q_iconst (v := 0) (by decide) d272_27 ?_
        refine q_iconst (v := 1) (by decide) d272_28 ?_
        refine q_invS (av := [.int o, .int 0, .int 1]) (rest := []) (d' := 0) (mc' := 0) (ms' := 0) d272_29 (cv10_183 272 rfl) rfl rfl (by omega) (Nat.le_of_ble_eq_true rfl) (Nat.le_of_ble_eq_true rfl) (Nat.le_refl _) (Nat.le_refl _) ?_
        refine p168  (fun h5 => ?_) (fun h5 => ?_)
        ·
          show j_W 272 d 0 0 0 0 32 [some (.ref 260), some (.int (nI k1)), some (.int s), some (.int n), some (.int w), some (.int o), none, none, none] [.int 1] w1 (I, D, RR R) Q
          refine q_if_ne (tgt := 38) d272_32 rfl (fun _ => ?_) (fun h => absurd h (by decide))
          exact r_sub (L' := [some (.ref 260), some (.int (nI k1)), some (.int s), some (.int n), some (.int w), some (.int o), none, none, none]) ⟨rfl, rfl, rfl, rfl, rfl, rfl, trivial⟩ (v1 k1 h1 rfl h2 c3 h5)
        ·
          show j_W 272 d 0 0 0 0 32 [some (.ref 260), some (.int (nI k1)), some (.int s), some (.int n), some (.int w), some (.int o), none, none, none] [.int 0] w1 (I, D, RR R) Q
          refine q_if_ne (tgt := 38) d272_32 rfl (fun h => absurd h (by decide)) (fun _ => ?_)
          refine q_bipush (v := (-2)) (by decide) d272_35 ?_
          exact q_iret d272_37 rfl (Nat.le_refl _) (Nat.le_refl _) (v2 k1 h1 rfl h2 c3 h5)
      ·
        show j_W 272 d 0 0 0 0 22 [some (.ref 260), some (.int (nI k1)), some (.int s), some (.int n), some (.int w), some (.int o), none, none, none] [.int 0] w1 (I, D, RR R) Q
        refine q_if_eq (tgt := 35) d272_22 rfl (fun _ => ?_) (fun h => absurd h (by decide))
        refine q_bipush (v := (-2)) (by decide) d272_35 ?_
        exact q_iret d272_37 rfl (Nat.le_refl _) (Nat.le_refl _) (v3 k1 h1 rfl h2 c4)
    ·
      show j_W 272 d 0 0 0 0 14 [some (.ref 260), some (.int (nI k1)), some (.int s), some (.int n), some (.int w), some (.int o), none, none, none] [.int 0] w1 (I, D, RR R) Q
      refine q_if_eq (tgt := 35) d272_14 rfl (fun _ => ?_) (fun h => absurd h (by decide))
      refine q_bipush (v := (-2)) (by decide) d272_35 ?_
      exact q_iret d272_37 rfl (Nat.le_refl _) (Nat.le_refl _) (v4 k1 h1 rfl h2)
  ·
    show j_W 272 d 0 0 0 0 4 [some (.ref 260), some (.int a), some (.int s), some (.int n), some (.int w), some (.int o), none, none, none] [.int 0] w1 (I, D, RR R) Q
    refine q_if_eq (tgt := 35) d272_4 rfl (fun _ => ?_) (fun h => absurd h (by decide))
    refine q_bipush (v := (-2)) (by decide) d272_35 ?_
    exact q_iret d272_37 rfl (Nat.le_refl _) (Nat.le_refl _) (v5 h1)

