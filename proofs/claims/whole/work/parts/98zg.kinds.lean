/-! tells: kinds, walks -/
set_option maxRecDepth 10000 in
set_option maxHeartbeats 4000000 in
theorem u150e {d : Nat} {I : Nat → Nat → Int32} {D : Nat → Nat → UInt64} {R : Nat → Nat → Option Nat} {Q : j_Po} {t : Nat} {c : Nat} {r : Nat} (hr : r < 4) (hc : c < 24) (hd : 1 ≤ d)
    (v1 : j_W 150 d 0 0 0 0 17 [some (.ref 0), some (.int (nI t)), some (.ref (248 + 3 * r)), some (.int (nI c)), some (.int (I 109 c)), some (.int 0), some (.int 0)] [] w1 (I, D, RR R) Q) : j_Call d 150 [.ref 0, .int (nI t), .ref (248 + 3 * r), .int (nI c)] w1 (I, D, RR R) 0 0 Q := by
  refine q_enter (L := [some (.ref 0), some (.int (nI t)), some (.ref (248 + 3 * r)), some (.int (nI c)), none, none, none]) j_m150 (Nat.le_of_ble_eq_true rfl) rfl ?_
  refine q_aload_n d150_0 rfl ?_
  refine q_getR (x := 108) d150_1 (fs9_53 150 rfl) rfl (lt_w1 rfl) sh0 (rs0_1 R) (by decide) ?_
  refine q_getR (x := 109) d150_4 (fs9_76 150 rfl) rfl (lt_w1 rfl) sh108 (rs108_0 R) (by decide) ?_
  refine q_iload_n d150_7 rfl ?_
  refine q_iaload (a := c) d150_8 (lt_w1 rfl) sh109 rfl (by omega) ?_
  refine q_istore (L' := [some (.ref 0), some (.int (nI t)), some (.ref (248 + 3 * r)), some (.int (nI c)), some (.int (I 109 c)), none, none]) d150_9 (Nat.le_of_ble_eq_true rfl) rfl ?_
  refine q_iconst (v := 0) (by decide) d150_11 ?_
  refine q_istore (L' := [some (.ref 0), some (.int (nI t)), some (.ref (248 + 3 * r)), some (.int (nI c)), some (.int (I 109 c)), some (.int 0), none]) d150_12 (Nat.le_of_ble_eq_true rfl) rfl ?_
  refine q_iconst (v := 0) (by decide) d150_14 ?_
  refine q_istore (L' := [some (.ref 0), some (.int (nI t)), some (.ref (248 + 3 * r)), some (.int (nI c)), some (.int (I 109 c)), some (.int 0), some (.int 0)]) d150_15 (Nat.le_of_ble_eq_true rfl) rfl ?_
  exact r_sub (L' := [some (.ref 0), some (.int (nI t)), some (.ref (248 + 3 * r)), some (.int (nI c)), some (.int (I 109 c)), some (.int 0), some (.int 0)]) ⟨rfl, rfl, rfl, rfl, rfl, rfl, rfl, trivial⟩ v1

set_option maxRecDepth 10000 in
set_option maxHeartbeats 4000000 in
theorem u150h {d : Nat} {I : Nat → Nat → Int32} {D : Nat → Nat → UInt64} {R : Nat → Nat → Option Nat} {Q : j_Po} {t : Nat} {c : Nat} {s : Int32} {b : Int32} {k : Nat} {r : Nat} (hr : r < 4) (hc : c < 24) (hk : k ≤ 6) (hd : 1 ≤ d)
    (v1 : (6 ≤ k) → Q (some (.int b)) w1 ((j_u I 109 c s), D, RR R))
    (v2 : (¬ 6 ≤ k) → j_W 150 d 0 0 0 0 35 [some (.ref 0), some (.int (nI t)), some (.ref (248 + 3 * r)), some (.int (nI c)), some (.int s), some (.int b), some (.int (nI k))] [] w1 ((j_u I 109 c (nI k)), D, RR R) Q) : j_W 150 d 0 0 0 0 17 [some (.ref 0), some (.int (nI t)), some (.ref (248 + 3 * r)), some (.int (nI c)), some (.int s), some (.int b), some (.int (nI k))] [] w1 (I, D, RR R) Q := by
  refine q_iload d150_17 rfl ?_
  refine q_bipush (v := 6) (by decide) d150_19 ?_
  refine q_icmp_ge (tgt := 63) d150_21 rfl (fun h1t => ?_) (fun h1f => ?_)
  ·
    have h1tc : 6 ≤ k := (nI_leI (by omega) (by omega)).mp h1t
    refine q_aload_n d150_63 rfl ?_
    refine q_getR (x := 108) d150_64 (fs9_53 150 rfl) rfl (lt_w1 rfl) sh0 (rs0_1 R) (by decide) ?_
    refine q_getR (x := 109) d150_67 (fs9_76 150 rfl) rfl (lt_w1 rfl) sh108 (rs108_0 R) (by decide) ?_
    refine q_iload_n d150_70 rfl ?_
    refine q_iload d150_71 rfl ?_
    refine q_iastore (a := c) d150_73 (lt_w1 rfl) sh109 rfl (by omega) ?_
    refine q_iload d150_74 rfl ?_
    exact q_iret d150_76 rfl (Nat.le_refl _) (Nat.le_refl _) (v1 h1tc)
  ·
    have h1fc : ¬ 6 ≤ k := mt (nI_leI (by omega) (by omega)).mpr h1f
    refine q_aload_n d150_24 rfl ?_
    refine q_getR (x := 108) d150_25 (fs9_53 150 rfl) rfl (lt_w1 rfl) sh0 (rs0_1 R) (by decide) ?_
    refine q_getR (x := 109) d150_28 (fs9_76 150 rfl) rfl (lt_w1 rfl) sh108 (rs108_0 R) (by decide) ?_
    refine q_iload_n d150_31 rfl ?_
    refine q_iload d150_32 rfl ?_
    refine q_iastore (a := c) d150_34 (lt_w1 rfl) sh109 rfl (by omega) ?_
    exact r_sub (L' := [some (.ref 0), some (.int (nI t)), some (.ref (248 + 3 * r)), some (.int (nI c)), some (.int s), some (.int b), some (.int (nI k))]) ⟨rfl, rfl, rfl, rfl, rfl, rfl, rfl, trivial⟩ (v2 h1fc)

set_option maxRecDepth 10000 in
set_option maxHeartbeats 4000000 in
theorem u150c {d : Nat} {I : Nat → Nat → Int32} {D : Nat → Nat → UInt64} {R : Nat → Nat → Option Nat} {Q : j_Po} {t : Nat} {c : Nat} {s : Int32} {b : Int32} {k : Nat} {r : Nat} {v : Int32} {AP : (Nat → Nat → Int32) → (Nat → Nat → UInt64) → Prop} (hr : r < 4) (ht : t < 6) (hc : c < 24) (hk : k < 6) (hA : ∀ (Q : j_Po), (∀ J E, AP J E → Q (some (.ref (230 + 3 * t))) w1 (J, E, RR R)) → j_Call (d - 1) 122 [.ref 0, .int (nI t)] w1 (I, D, RR R) 0 0 Q) (hB : ∀ (J : Nat → Nat → Int32) (E : Nat → Nat → UInt64) (Q0 : j_Po), AP J E → Q0 (some (.int v)) w1 (J, E, RR R) → j_Call (d - 1) 149 [.ref (248 + 3 * r), .ref (230 + 3 * t)] w1 (J, E, RR R) 0 0 Q0) (hd : 1 ≤ d)
    (v1 : ∀ J1 : Nat → Nat → Int32, ∀ E2 : Nat → Nat → UInt64, (AP J1 E2) → AP J1 E2)
    (v2 : ∀ J1 : Nat → Nat → Int32, ∀ E2 : Nat → Nat → UInt64, (AP J1 E2) → (¬ v = (-1)) → j_W 150 d 0 0 0 0 57 [some (.ref 0), some (.int (nI t)), some (.ref (248 + 3 * r)), some (.int (nI c)), some (.int s), some (.int b), some (.int (nI k))] [] w1 (J1, E2, RR R) Q)
    (v3 : ∀ J1 : Nat → Nat → Int32, ∀ E2 : Nat → Nat → UInt64, (AP J1 E2) → (v = (-1)) → j_W 150 d 0 0 0 0 57 [some (.ref 0), some (.int (nI t)), some (.ref (248 + 3 * r)), some (.int (nI c)), some (.int s), some (.int (b ||| (1 <<< ((nI k) &&& 31)))), some (.int (nI k))] [] w1 (J1, E2, RR R) Q) : j_W 150 d 0 0 0 0 35 [some (.ref 0), some (.int (nI t)), some (.ref (248 + 3 * r)), some (.int (nI c)), some (.int s), some (.int b), some (.int (nI k))] [] w1 (I, D, RR R) Q := by
  refine q_aload_n d150_35 rfl ?_
  refine q_aload_n d150_36 rfl ?_
  refine q_iload_n d150_37 rfl ?_
  refine q_invV (o := 0) (ci := 9) (av := [.int (nI t)]) (rest := [.ref (248 + 3 * r)]) (d' := (d - 1)) (mc' := 0) (ms' := 0) d150_38 (cv9_245 150 rfl) rfl (by decide) rfl rfl (by omega) (Nat.le_of_ble_eq_true rfl) (Nat.le_of_ble_eq_true rfl) (lt_w1 rfl) sh0 (Nat.le_refl _) (Nat.le_refl _) ?_
  refine hA _  (fun J1 E2 h3 => ?_)
  show j_W 150 d 0 0 0 0 41 [some (.ref 0), some (.int (nI t)), some (.ref (248 + 3 * r)), some (.int (nI c)), some (.int s), some (.int b), some (.int (nI k))] [.ref (230 + 3 * t), .ref (248 + 3 * r)] w1 (J1, E2, RR R) Q
  refine q_invV (o := (248 + 3 * r)) (ci := 6) (av := [.ref (230 + 3 * t)]) (rest := []) (d' := (d - 1)) (mc' := 0) (ms' := 0) d150_41 (cv9_336 150 rfl) rfl (by decide) rfl rfl (by omega) (Nat.le_of_ble_eq_true rfl) (Nat.le_of_ble_eq_true rfl) (isRw_lt (isRw_k r hr)) (isRw_sh (isRw_k r hr)) (Nat.le_refl _) (Nat.le_refl _) ?_
  refine hB _ _ _ (v1 J1 E2 h3) ?_
  show j_W 150 d 0 0 0 0 44 [some (.ref 0), some (.int (nI t)), some (.ref (248 + 3 * r)), some (.int (nI c)), some (.int s), some (.int b), some (.int (nI k))] [.int v] w1 (J1, E2, RR R) Q
  refine q_iconst (v := (-1)) (by decide) d150_44 ?_
  refine q_icmp_ne (tgt := 57) d150_45 rfl (fun h4t => ?_) (fun h4f => ?_)
  ·
    exact r_sub (L' := [some (.ref 0), some (.int (nI t)), some (.ref (248 + 3 * r)), some (.int (nI c)), some (.int s), some (.int b), some (.int (nI k))]) ⟨rfl, rfl, rfl, rfl, rfl, rfl, rfl, trivial⟩ (v2 J1 E2 h3 h4t)
  ·
    refine q_iload d150_48 rfl ?_
    refine q_iconst (v := 1) (by decide) d150_50 ?_
    refine q_iload d150_51 rfl ?_
    refine q_ishl d150_53 ?_
    refine q_ior d150_54 ?_
    refine q_istore (L' := [some (.ref 0), some (.int (nI t)), some (.ref (248 + 3 * r)), some (.int (nI c)), some (.int s), some (.int (b ||| (1 <<< ((nI k) &&& 31)))), some (.int (nI k))]) d150_55 (Nat.le_of_ble_eq_true rfl) rfl ?_
    exact r_sub (L' := [some (.ref 0), some (.int (nI t)), some (.ref (248 + 3 * r)), some (.int (nI c)), some (.int s), some (.int (b ||| (1 <<< ((nI k) &&& 31)))), some (.int (nI k))]) ⟨rfl, rfl, rfl, rfl, rfl, rfl, rfl, trivial⟩ (v3 J1 E2 h3 h4f)

set_option maxRecDepth 10000 in
set_option maxHeartbeats 4000000 in
theorem u150i {d : Nat} {I : Nat → Nat → Int32} {D : Nat → Nat → UInt64} {R : Nat → Nat → Option Nat} {Q : j_Po} {t : Nat} {c : Nat} {s : Int32} {b : Int32} {k : Nat} {r : Nat} (hr : r < 4) (hk : k < 6) (hd : 1 ≤ d)
    (v1 : j_W 150 d 0 0 0 0 17 [some (.ref 0), some (.int (nI t)), some (.ref (248 + 3 * r)), some (.int (nI c)), some (.int s), some (.int b), some (.int (nI (k + 1)))] [] w1 (I, D, RR R) Q) : j_W 150 d 0 0 0 0 57 [some (.ref 0), some (.int (nI t)), some (.ref (248 + 3 * r)), some (.int (nI c)), some (.int s), some (.int b), some (.int (nI k))] [] w1 (I, D, RR R) Q := by
  refine q_iinc (L' := [some (.ref 0), some (.int (nI t)), some (.ref (248 + 3 * r)), some (.int (nI c)), some (.int s), some (.int b), some (.int (nI (k + 1)))]) (v := (nI (k + 1))) d150_57 rfl (nI_inc _) rfl ?_
  refine q_goto (tgt := 17) d150_60 rfl ?_
  exact r_sub (L' := [some (.ref 0), some (.int (nI t)), some (.ref (248 + 3 * r)), some (.int (nI c)), some (.int s), some (.int b), some (.int (nI (k + 1)))]) ⟨rfl, rfl, rfl, rfl, rfl, rfl, rfl, trivial⟩ v1

set_option maxRecDepth 10000 in
set_option maxHeartbeats 4000000 in
theorem u278e {d : Nat} {I : Nat → Nat → Int32} {D : Nat → Nat → UInt64} {R : Nat → Nat → Option Nat} {Q : j_Po} {t : Nat} {r : Nat} {c : Nat}  (hc : c < 24) (hd : 1 ≤ d)
    (v1 : j_W 278 d 0 0 0 0 14 [some (.ref 260), some (.int (nI t)), some (.int (nI r)), some (.int (nI c)), some (.int (I 261 c)), some (.int 0), some (.int 0)] [] w1 (I, D, RR R) Q) : j_Call d 278 [.ref 260, .int (nI t), .int (nI r), .int (nI c)] w1 (I, D, RR R) 0 0 Q := by
  refine q_enter (L := [some (.ref 260), some (.int (nI t)), some (.int (nI r)), some (.int (nI c)), none, none, none]) j_m278 (Nat.le_of_ble_eq_true rfl) rfl ?_
  refine q_aload_n d278_0 rfl ?_
  refine q_getR (x := 261) d278_1 (fs10_9 278 rfl) rfl (lt_w1 rfl) sh260 (rs260_0 R) (by decide) ?_
  refine q_iload_n d278_4 rfl ?_
  refine q_iaload (a := c) d278_5 (lt_w1 rfl) sh261 rfl (by omega) ?_
  refine q_istore (L' := [some (.ref 260), some (.int (nI t)), some (.int (nI r)), some (.int (nI c)), some (.int (I 261 c)), none, none]) d278_6 (Nat.le_of_ble_eq_true rfl) rfl ?_
  refine q_iconst (v := 0) (by decide) d278_8 ?_
  refine q_istore (L' := [some (.ref 260), some (.int (nI t)), some (.int (nI r)), some (.int (nI c)), some (.int (I 261 c)), some (.int 0), none]) d278_9 (Nat.le_of_ble_eq_true rfl) rfl ?_
  refine q_iconst (v := 0) (by decide) d278_11 ?_
  refine q_istore (L' := [some (.ref 260), some (.int (nI t)), some (.int (nI r)), some (.int (nI c)), some (.int (I 261 c)), some (.int 0), some (.int 0)]) d278_12 (Nat.le_of_ble_eq_true rfl) rfl ?_
  exact r_sub (L' := [some (.ref 260), some (.int (nI t)), some (.int (nI r)), some (.int (nI c)), some (.int (I 261 c)), some (.int 0), some (.int 0)]) ⟨rfl, rfl, rfl, rfl, rfl, rfl, rfl, trivial⟩ v1

set_option maxRecDepth 10000 in
set_option maxHeartbeats 4000000 in
theorem u278h {d : Nat} {I : Nat → Nat → Int32} {D : Nat → Nat → UInt64} {R : Nat → Nat → Option Nat} {Q : j_Po} {t : Nat} {r : Nat} {c : Nat} {s : Int32} {b : Int32} {k : Nat}  (hc : c < 24) (hk : k ≤ 6) (hd : 1 ≤ d)
    (v1 : (6 ≤ k) → Q (some (.int b)) w1 ((j_u I 261 c s), D, RR R))
    (v2 : (¬ 6 ≤ k) → j_W 278 d 0 0 0 0 29 [some (.ref 260), some (.int (nI t)), some (.int (nI r)), some (.int (nI c)), some (.int s), some (.int b), some (.int (nI k))] [] w1 ((j_u I 261 c (nI k)), D, RR R) Q) : j_W 278 d 0 0 0 0 14 [some (.ref 260), some (.int (nI t)), some (.int (nI r)), some (.int (nI c)), some (.int s), some (.int b), some (.int (nI k))] [] w1 (I, D, RR R) Q := by
  refine q_iload d278_14 rfl ?_
  refine q_bipush (v := 6) (by decide) d278_16 ?_
  refine q_icmp_ge (tgt := 54) d278_18 rfl (fun h1t => ?_) (fun h1f => ?_)
  ·
    have h1tc : 6 ≤ k := (nI_leI (by omega) (by omega)).mp h1t
    refine q_aload_n d278_54 rfl ?_
    refine q_getR (x := 261) d278_55 (fs10_9 278 rfl) rfl (lt_w1 rfl) sh260 (rs260_0 R) (by decide) ?_
    refine q_iload_n d278_58 rfl ?_
    refine q_iload d278_59 rfl ?_
    refine q_iastore (a := c) d278_61 (lt_w1 rfl) sh261 rfl (by omega) ?_
    refine q_iload d278_62 rfl ?_
    exact q_iret d278_64 rfl (Nat.le_refl _) (Nat.le_refl _) (v1 h1tc)
  ·
    have h1fc : ¬ 6 ≤ k := mt (nI_leI (by omega) (by omega)).mpr h1f
    refine q_aload_n d278_21 rfl ?_
    refine q_getR (x := 261) d278_22 (fs10_9 278 rfl) rfl (lt_w1 rfl) sh260 (rs260_0 R) (by decide) ?_
    refine q_iload_n d278_25 rfl ?_
    refine q_iload d278_26 rfl ?_
    refine q_iastore (a := c) d278_28 (lt_w1 rfl) sh261 rfl (by omega) ?_
    exact r_sub (L' := [some (.ref 260), some (.int (nI t)), some (.int (nI r)), some (.int (nI c)), some (.int s), some (.int b), some (.int (nI k))]) ⟨rfl, rfl, rfl, rfl, rfl, rfl, rfl, trivial⟩ (v2 h1fc)

set_option maxRecDepth 10000 in
set_option maxHeartbeats 4000000 in
theorem u278c {d : Nat} {I : Nat → Nat → Int32} {D : Nat → Nat → UInt64} {R : Nat → Nat → Option Nat} {Q : j_Po} {t : Nat} {r : Nat} {c : Nat} {s : Int32} {b : Int32} {k : Nat} {v : Int32} {AP : (Nat → Nat → Int32) → (Nat → Nat → UInt64) → Prop} (hc : c < 24) (hk : k < 6) (hA : ∀ (Q : j_Po), (∀ J E, AP J E → Q (some (.int v)) w1 (J, E, RR R)) → j_Call (d - 1) 277 [.ref 260, .int (nI t), .int (nI r)] w1 (I, D, RR R) 0 0 Q) (hd : 1 ≤ d)
    (v1 : ∀ J1 : Nat → Nat → Int32, ∀ E2 : Nat → Nat → UInt64, (AP J1 E2) → (¬ v = (-1)) → j_W 278 d 0 0 0 0 48 [some (.ref 260), some (.int (nI t)), some (.int (nI r)), some (.int (nI c)), some (.int s), some (.int b), some (.int (nI k))] [] w1 (J1, E2, RR R) Q)
    (v2 : ∀ J1 : Nat → Nat → Int32, ∀ E2 : Nat → Nat → UInt64, (AP J1 E2) → (v = (-1)) → j_W 278 d 0 0 0 0 48 [some (.ref 260), some (.int (nI t)), some (.int (nI r)), some (.int (nI c)), some (.int s), some (.int (b ||| (1 <<< ((nI k) &&& 31)))), some (.int (nI k))] [] w1 (J1, E2, RR R) Q) : j_W 278 d 0 0 0 0 29 [some (.ref 260), some (.int (nI t)), some (.int (nI r)), some (.int (nI c)), some (.int s), some (.int b), some (.int (nI k))] [] w1 (I, D, RR R) Q := by
  refine q_aload_n d278_29 rfl ?_
  refine q_iload_n d278_30 rfl ?_
  refine q_iload_n d278_31 rfl ?_
  refine q_invV (o := 260) (ci := 10) (av := [.int (nI t), .int (nI r)]) (rest := []) (d' := (d - 1)) (mc' := 0) (ms' := 0) d278_32 (cv10_553 278 rfl) rfl (by decide) rfl rfl (by omega) (Nat.le_of_ble_eq_true rfl) (Nat.le_of_ble_eq_true rfl) (lt_w1 rfl) sh260 (Nat.le_refl _) (Nat.le_refl _) ?_
  refine hA _  (fun J1 E2 h3 => ?_)
  show j_W 278 d 0 0 0 0 35 [some (.ref 260), some (.int (nI t)), some (.int (nI r)), some (.int (nI c)), some (.int s), some (.int b), some (.int (nI k))] [.int v] w1 (J1, E2, RR R) Q
  refine q_iconst (v := (-1)) (by decide) d278_35 ?_
  refine q_icmp_ne (tgt := 48) d278_36 rfl (fun h4t => ?_) (fun h4f => ?_)
  ·
    exact r_sub (L' := [some (.ref 260), some (.int (nI t)), some (.int (nI r)), some (.int (nI c)), some (.int s), some (.int b), some (.int (nI k))]) ⟨rfl, rfl, rfl, rfl, rfl, rfl, rfl, trivial⟩ (v1 J1 E2 h3 h4t)
  ·
    refine q_iload d278_39 rfl ?_
    refine q_iconst (v := 1) (by decide) d278_41 ?_
    refine q_iload d278_42 rfl ?_
    refine q_ishl d278_44 ?_
    refine q_ior d278_45 ?_
    refine q_istore (L' := [some (.ref 260), some (.int (nI t)), some (.int (nI r)), some (.int (nI c)), some (.int s), some (.int (b ||| (1 <<< ((nI k) &&& 31)))), some (.int (nI k))]) d278_46 (Nat.le_of_ble_eq_true rfl) rfl ?_
    exact r_sub (L' := [some (.ref 260), some (.int (nI t)), some (.int (nI r)), some (.int (nI c)), some (.int s), some (.int (b ||| (1 <<< ((nI k) &&& 31)))), some (.int (nI k))]) ⟨rfl, rfl, rfl, rfl, rfl, rfl, rfl, trivial⟩ (v2 J1 E2 h3 h4f)

set_option maxRecDepth 10000 in
set_option maxHeartbeats 4000000 in
theorem u278i {d : Nat} {I : Nat → Nat → Int32} {D : Nat → Nat → UInt64} {R : Nat → Nat → Option Nat} {Q : j_Po} {t : Nat} {r : Nat} {c : Nat} {s : Int32} {b : Int32} {k : Nat}  (hk : k < 6) (hd : 1 ≤ d)
    (v1 : j_W 278 d 0 0 0 0 14 [some (.ref 260), some (.int (nI t)), some (.int (nI r)), some (.int (nI c)), some (.int s), some (.int b), some (.int (nI (k + 1)))] [] w1 (I, D, RR R) Q) : j_W 278 d 0 0 0 0 48 [some (.ref 260), some (.int (nI t)), some (.int (nI r)), some (.int (nI c)), some (.int s), some (.int b), some (.int (nI k))] [] w1 (I, D, RR R) Q := by
  refine q_iinc (L' := [some (.ref 260), some (.int (nI t)), some (.int (nI r)), some (.int (nI c)), some (.int s), some (.int b), some (.int (nI (k + 1)))]) (v := (nI (k + 1))) d278_48 rfl (nI_inc _) rfl ?_
  refine q_goto (tgt := 14) d278_51 rfl ?_
  exact r_sub (L' := [some (.ref 260), some (.int (nI t)), some (.int (nI r)), some (.int (nI c)), some (.int s), some (.int b), some (.int (nI (k + 1)))]) ⟨rfl, rfl, rfl, rfl, rfl, rfl, rfl, trivial⟩ v1

