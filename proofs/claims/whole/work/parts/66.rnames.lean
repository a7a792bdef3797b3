/-! the reference: who reaches whom, what some come to -/
set_option maxRecDepth 10000 in
set_option maxHeartbeats 4000000 in
theorem s182e {d : Nat} {I : Nat → Nat → Int32} {D : Nat → Nat → UInt64} {R : Nat → Nat → Option Nat} {Q : j_Po} {c : Nat}  (hc : c < 24) (hd : 1 ≤ d)
    (v1 : j_W 182 d 0 0 0 0 6 [some (.ref 260), none, some (.int (1 <<< ((nI c) &&& 31))), some (.int 0), none] [] w1 (I, D, RR R) Q) : j_Call d 182 [.ref 260, .int (nI c)] w1 (I, D, RR R) 0 0 Q := by
  refine q_enter (L := [some (.ref 260), some (.int (nI c)), none, none, none]) j_m182 (Nat.le_of_ble_eq_true rfl) rfl ?_
  refine q_iconst (v := 1) (by decide) d182_0 ?_
  refine q_iload_n d182_1 rfl ?_
  refine q_ishl d182_2 ?_
  refine q_istore_n (L' := [some (.ref 260), some (.int (nI c)), some (.int (1 <<< ((nI c) &&& 31))), none, none]) d182_3 (Nat.le_of_ble_eq_true rfl) rfl ?_
  refine q_iconst (v := 0) (by decide) d182_4 ?_
  refine q_istore_n (L' := [some (.ref 260), some (.int (nI c)), some (.int (1 <<< ((nI c) &&& 31))), some (.int 0), none]) d182_5 (Nat.le_of_ble_eq_true rfl) rfl ?_
  exact r_sub (L' := [some (.ref 260), none, some (.int (1 <<< ((nI c) &&& 31))), some (.int 0), none]) ⟨rfl, rfl, rfl, trivial⟩ v1

set_option maxRecDepth 10000 in
set_option maxHeartbeats 4000000 in
theorem s182o {d : Nat} {I : Nat → Nat → Int32} {D : Nat → Nat → UInt64} {R : Nat → Nat → Option Nat} {Q : j_Po} {x : Int32} {y : Int32}   (hd : 1 ≤ d)
    (v1 : (x = y) → Q (some (.int x)) w1 (I, D, RR R))
    (v2 : (¬ x = y) → j_W 182 d 0 0 0 0 16 [some (.ref 260), none, some (.int x), some (.int x), some (.int 0)] [] w1 (I, D, RR R) Q) : j_W 182 d 0 0 0 0 6 [some (.ref 260), none, some (.int x), some (.int y), none] [] w1 (I, D, RR R) Q := by
  refine q_iload_n d182_6 rfl ?_
  refine q_iload_n d182_7 rfl ?_
  refine q_icmp_eq (tgt := 51) d182_8 rfl (fun h1t => ?_) (fun h1f => ?_)
  ·
    refine q_iload_n d182_51 rfl ?_
    exact q_iret d182_52 rfl (Nat.le_refl _) (Nat.le_refl _) (v1 h1t)
  ·
    refine q_iload_n d182_11 rfl ?_
    refine q_istore_n (L' := [some (.ref 260), none, some (.int x), some (.int x), none]) d182_12 (Nat.le_of_ble_eq_true rfl) rfl ?_
    refine q_iconst (v := 0) (by decide) d182_13 ?_
    refine q_istore (L' := [some (.ref 260), none, some (.int x), some (.int x), some (.int 0)]) d182_14 (Nat.le_of_ble_eq_true rfl) rfl ?_
    exact r_sub (L' := [some (.ref 260), none, some (.int x), some (.int x), some (.int 0)]) ⟨rfl, rfl, rfl, rfl, trivial⟩ (v2 h1f)

set_option maxRecDepth 10000 in
set_option maxHeartbeats 4000000 in
theorem s182i {d : Nat} {I : Nat → Nat → Int32} {D : Nat → Nat → UInt64} {R : Nat → Nat → Option Nat} {Q : j_Po} {x : Int32} {y : Int32} {k : Nat}  (hk : k ≤ 24) (hd : 1 ≤ d)
    (v1 : (24 ≤ k) → j_W 182 d 0 0 0 0 6 [some (.ref 260), none, some (.int x), some (.int y), none] [] w1 (I, D, RR R) Q)
    (v2 : (¬ 24 ≤ k) → (¬ ((y >>> ((nI k) &&& 31)) &&& 1) = 1) → j_W 182 d 0 0 0 0 16 [some (.ref 260), none, some (.int x), some (.int y), some (.int (nI (k + 1)))] [] w1 (I, D, RR R) Q)
    (v3 : (¬ 24 ≤ k) → (((y >>> ((nI k) &&& 31)) &&& 1) = 1) → j_W 182 d 0 0 0 0 16 [some (.ref 260), none, some (.int (x ||| (I 333 k))), some (.int y), some (.int (nI (k + 1)))] [] w1 (I, D, RR R) Q) : j_W 182 d 0 0 0 0 16 [some (.ref 260), none, some (.int x), some (.int y), some (.int (nI k))] [] w1 (I, D, RR R) Q := by
  refine q_iload d182_16 rfl ?_
  refine q_bipush (v := 24) (by decide) d182_18 ?_
  refine q_icmp_ge (tgt := 48) d182_20 rfl (fun h1t => ?_) (fun h1f => ?_)
  ·
    have h1tc : 24 ≤ k := (nI_leI (by omega) (by omega)).mp h1t
    refine q_goto (tgt := 6) d182_48 rfl ?_
    exact r_sub (L' := [some (.ref 260), none, some (.int x), some (.int y), none]) ⟨rfl, rfl, rfl, trivial⟩ (v1 h1tc)
  ·
    have h1fc : ¬ 24 ≤ k := mt (nI_leI (by omega) (by omega)).mpr h1f
    refine q_iload_n d182_23 rfl ?_
    refine q_iload d182_24 rfl ?_
    refine q_ishr d182_26 ?_
    refine q_iconst (v := 1) (by decide) d182_27 ?_
    refine q_iand d182_28 ?_
    refine q_iconst (v := 1) (by decide) d182_29 ?_
    refine q_icmp_ne (tgt := 42) d182_30 rfl (fun h2t => ?_) (fun h2f => ?_)
    ·
      refine q_iinc (L' := [some (.ref 260), none, some (.int x), some (.int y), some (.int (nI (k + 1)))]) (v := (nI (k + 1))) d182_42 rfl (nI_inc _) rfl ?_
      refine q_goto (tgt := 16) d182_45 rfl ?_
      exact r_sub (L' := [some (.ref 260), none, some (.int x), some (.int y), some (.int (nI (k + 1)))]) ⟨rfl, rfl, rfl, rfl, trivial⟩ (v2 h1fc h2t)
    ·
      refine q_iload_n d182_33 rfl ?_
      refine q_aload_n d182_34 rfl ?_
      refine q_iload d182_35 rfl ?_
      refine q_invV (o := 260) (ci := 10) (av := [.int (nI k)]) (rest := [.int x]) (d' := 0) (mc' := 0) (ms' := 0) d182_37 (cv10_196 182 rfl) rfl (by decide) rfl rfl (by omega) (Nat.le_of_ble_eq_true rfl) (Nat.le_of_ble_eq_true rfl) (lt_w1 rfl) sh260 (Nat.le_refl _) (Nat.le_refl _) ?_
      refine s179 (k := k) (by first | omega | decide) (Nat.le_refl _) ?_
      show j_W 182 d 0 0 0 0 40 [some (.ref 260), none, some (.int x), some (.int y), some (.int (nI k))] [.int (I 333 k), .int x] w1 (I, D, RR R) Q
      refine q_ior d182_40 ?_
      refine q_istore_n (L' := [some (.ref 260), none, some (.int (x ||| (I 333 k))), some (.int y), some (.int (nI k))]) d182_41 (Nat.le_of_ble_eq_true rfl) rfl ?_
      refine q_iinc (L' := [some (.ref 260), none, some (.int (x ||| (I 333 k))), some (.int y), some (.int (nI (k + 1)))]) (v := (nI (k + 1))) d182_42 rfl (nI_inc _) rfl ?_
      refine q_goto (tgt := 16) d182_45 rfl ?_
      exact r_sub (L' := [some (.ref 260), none, some (.int (x ||| (I 333 k))), some (.int y), some (.int (nI (k + 1)))]) ⟨rfl, rfl, rfl, rfl, trivial⟩ (v3 h1fc h2f)

set_option maxRecDepth 10000 in
set_option maxHeartbeats 4000000 in
theorem s246e {d : Nat} {I : Nat → Nat → Int32} {D : Nat → Nat → UInt64} {R : Nat → Nat → Option Nat} {Q : j_Po} {a : Int32}   (hd : 1 ≤ d)
    (v1 : j_W 246 d 0 0 0 0 4 [some (.ref 260), none, some (.int a), some (.int 0), none, none] [] w1 (I, D, RR R) Q) : j_Call d 246 [.ref 260, .int a] w1 (I, D, RR R) 0 0 Q := by
  refine q_enter (L := [some (.ref 260), some (.int a), none, none, none, none]) j_m246 (Nat.le_of_ble_eq_true rfl) rfl ?_
  refine q_iload_n d246_0 rfl ?_
  refine q_istore_n (L' := [some (.ref 260), some (.int a), some (.int a), none, none, none]) d246_1 (Nat.le_of_ble_eq_true rfl) rfl ?_
  refine q_iconst (v := 0) (by decide) d246_2 ?_
  refine q_istore_n (L' := [some (.ref 260), some (.int a), some (.int a), some (.int 0), none, none]) d246_3 (Nat.le_of_ble_eq_true rfl) rfl ?_
  exact r_sub (L' := [some (.ref 260), none, some (.int a), some (.int 0), none, none]) ⟨rfl, rfl, rfl, trivial⟩ v1

set_option maxRecDepth 10000 in
set_option maxHeartbeats 4000000 in
theorem s246o {d : Nat} {I : Nat → Nat → Int32} {D : Nat → Nat → UInt64} {R : Nat → Nat → Option Nat} {Q : j_Po} {x : Int32} {y : Int32}   (hd : 1 ≤ d)
    (v1 : (x = y) → Q (some (.int x)) w1 (I, D, RR R))
    (v2 : (¬ x = y) → j_W 246 d 0 0 0 0 14 [some (.ref 260), none, some (.int x), some (.int x), some (.int 0), none] [] w1 (I, D, RR R) Q) : j_W 246 d 0 0 0 0 4 [some (.ref 260), none, some (.int x), some (.int y), none, none] [] w1 (I, D, RR R) Q := by
  refine q_iload_n d246_4 rfl ?_
  refine q_iload_n d246_5 rfl ?_
  refine q_icmp_eq (tgt := 139) d246_6 rfl (fun h1t => ?_) (fun h1f => ?_)
  ·
    refine q_iload_n d246_139 rfl ?_
    exact q_iret d246_140 rfl (Nat.le_refl _) (Nat.le_refl _) (v1 h1t)
  ·
    refine q_iload_n d246_9 rfl ?_
    refine q_istore_n (L' := [some (.ref 260), none, some (.int x), some (.int x), none, none]) d246_10 (Nat.le_of_ble_eq_true rfl) rfl ?_
    refine q_iconst (v := 0) (by decide) d246_11 ?_
    refine q_istore (L' := [some (.ref 260), none, some (.int x), some (.int x), some (.int 0), none]) d246_12 (Nat.le_of_ble_eq_true rfl) rfl ?_
    exact r_sub (L' := [some (.ref 260), none, some (.int x), some (.int x), some (.int 0), none]) ⟨rfl, rfl, rfl, rfl, trivial⟩ (v2 h1f)

set_option maxRecDepth 10000 in
set_option maxHeartbeats 4000000 in
theorem s246i {d : Nat} {I : Nat → Nat → Int32} {D : Nat → Nat → UInt64} {R : Nat → Nat → Option Nat} {Q : j_Po} {x : Int32} {y : Int32} {k : Nat}  (hk : k ≤ 24) (hd : 1 ≤ d)
    (v1 : (24 ≤ k) → j_W 246 d 0 0 0 0 88 [some (.ref 260), none, some (.int x), some (.int y), some (.int 0), none] [] w1 (I, D, RR R) Q)
    (v2 : (¬ 24 ≤ k) → (¬ ((y >>> ((nI k) &&& 31)) &&& 1) = 0) → j_W 246 d 0 0 0 0 45 [some (.ref 260), none, some (.int (x ||| (I 333 k))), some (.int y), some (.int (nI k)), some (.int 0)] [] w1 (I, D, RR R) Q)
    (v3 : (¬ 24 ≤ k) → (((y >>> ((nI k) &&& 31)) &&& 1) = 0) → j_W 246 d 0 0 0 0 14 [some (.ref 260), none, some (.int x), some (.int y), some (.int (nI (k + 1))), none] [] w1 (I, D, RR R) Q) : j_W 246 d 0 0 0 0 14 [some (.ref 260), none, some (.int x), some (.int y), some (.int (nI k)), none] [] w1 (I, D, RR R) Q := by
  refine q_iload d246_14 rfl ?_
  refine q_bipush (v := 24) (by decide) d246_16 ?_
  refine q_icmp_ge (tgt := 85) d246_18 rfl (fun h1t => ?_) (fun h1f => ?_)
  ·
    have h1tc : 24 ≤ k := (nI_leI (by omega) (by omega)).mp h1t
    refine q_iconst (v := 0) (by decide) d246_85 ?_
    refine q_istore (L' := [some (.ref 260), none, some (.int x), some (.int y), some (.int 0), none]) d246_86 (Nat.le_of_ble_eq_true rfl) rfl ?_
    exact r_sub (L' := [some (.ref 260), none, some (.int x), some (.int y), some (.int 0), none]) ⟨rfl, rfl, rfl, rfl, trivial⟩ (v1 h1tc)
  ·
    have h1fc : ¬ 24 ≤ k := mt (nI_leI (by omega) (by omega)).mpr h1f
    refine q_iload_n d246_21 rfl ?_
    refine q_iload d246_22 rfl ?_
    refine q_ishr d246_24 ?_
    refine q_iconst (v := 1) (by decide) d246_25 ?_
    refine q_iand d246_26 ?_
    refine q_if_ne (tgt := 33) d246_27 rfl (fun h2t => ?_) (fun h2f => ?_)
    ·
      refine q_iload_n d246_33 rfl ?_
      refine q_aload_n d246_34 rfl ?_
      refine q_iload d246_35 rfl ?_
      refine q_invV (o := 260) (ci := 10) (av := [.int (nI k)]) (rest := [.int x]) (d' := 0) (mc' := 0) (ms' := 0) d246_37 (cv10_196 246 rfl) rfl (by decide) rfl rfl (by omega) (Nat.le_of_ble_eq_true rfl) (Nat.le_of_ble_eq_true rfl) (lt_w1 rfl) sh260 (Nat.le_refl _) (Nat.le_refl _) ?_
      refine s179 (k := k) (by first | omega | decide) (Nat.le_refl _) ?_
      show j_W 246 d 0 0 0 0 40 [some (.ref 260), none, some (.int x), some (.int y), some (.int (nI k)), none] [.int (I 333 k), .int x] w1 (I, D, RR R) Q
      refine q_ior d246_40 ?_
      refine q_istore_n (L' := [some (.ref 260), none, some (.int (x ||| (I 333 k))), some (.int y), some (.int (nI k)), none]) d246_41 (Nat.le_of_ble_eq_true rfl) rfl ?_
      refine q_iconst (v := 0) (by decide) d246_42 ?_
      refine q_istore (L' := [some (.ref 260), none, some (.int (x ||| (I 333 k))), some (.int y), some (.int (nI k)), some (.int 0)]) d246_43 (Nat.le_of_ble_eq_true rfl) rfl ?_
      exact r_sub (L' := [some (.ref 260), none, some (.int (x ||| (I 333 k))), some (.int y), some (.int (nI k)), some (.int 0)]) ⟨rfl, rfl, rfl, rfl, rfl, trivial⟩ (v2 h1fc h2t)
    ·
      refine q_goto (tgt := 79) d246_30 rfl ?_
      refine q_iinc (L' := [some (.ref 260), none, some (.int x), some (.int y), some (.int (nI (k + 1))), none]) (v := (nI (k + 1))) d246_79 rfl (nI_inc _) rfl ?_
      refine q_goto (tgt := 14) d246_82 rfl ?_
      exact r_sub (L' := [some (.ref 260), none, some (.int x), some (.int y), some (.int (nI (k + 1))), none]) ⟨rfl, rfl, rfl, rfl, trivial⟩ (v3 h1fc h2f)

set_option maxRecDepth 10000 in
set_option maxHeartbeats 4000000 in
theorem s246t {d : Nat} {I : Nat → Nat → Int32} {D : Nat → Nat → UInt64} {R : Nat → Nat → Option Nat} {Q : j_Po} {x : Int32} {y : Int32} {k : Nat} {t : Nat}  (hk : k < 24) (ht : t ≤ 6) (hd : 1 ≤ d)
    (v1 : (6 ≤ t) → j_W 246 d 0 0 0 0 14 [some (.ref 260), none, some (.int x), some (.int y), some (.int (nI (k + 1))), none] [] w1 (I, D, RR R) Q)
    (v2 : (¬ 6 ≤ t) → ((I (335 + k) t) ≤ 0) → j_W 246 d 0 0 0 0 45 [some (.ref 260), none, some (.int x), some (.int y), some (.int (nI k)), some (.int (nI (t + 1)))] [] w1 (I, D, RR R) Q)
    (v3 : (¬ 6 ≤ t) → (¬ (I (335 + k) t) ≤ 0) → j_W 246 d 0 0 0 0 45 [some (.ref 260), none, some (.int (x ||| (1 <<< ((nI (24 + t)) &&& 31)))), some (.int y), some (.int (nI k)), some (.int (nI (t + 1)))] [] w1 (I, D, RR R) Q) : j_W 246 d 0 0 0 0 45 [some (.ref 260), none, some (.int x), some (.int y), some (.int (nI k)), some (.int (nI t))] [] w1 (I, D, RR R) Q := by
  refine q_iload d246_45 rfl ?_
  refine q_bipush (v := 6) (by decide) d246_47 ?_
  refine q_icmp_ge (tgt := 79) d246_49 rfl (fun h1t => ?_) (fun h1f => ?_)
  ·
    have h1tc : 6 ≤ t := (nI_leI (by omega) (by omega)).mp h1t
    refine q_iinc (L' := [some (.ref 260), none, some (.int x), some (.int y), some (.int (nI (k + 1))), some (.int (nI t))]) (v := (nI (k + 1))) d246_79 rfl (nI_inc _) rfl ?_
    refine q_goto (tgt := 14) d246_82 rfl ?_
    exact r_sub (L' := [some (.ref 260), none, some (.int x), some (.int y), some (.int (nI (k + 1))), none]) ⟨rfl, rfl, rfl, rfl, trivial⟩ (v1 h1tc)
  ·
    have h1fc : ¬ 6 ≤ t := mt (nI_leI (by omega) (by omega)).mpr h1f
    refine q_aload_n d246_52 rfl ?_
    refine q_iload d246_53 rfl ?_
    refine q_iload d246_55 rfl ?_
    refine q_invV (o := 260) (ci := 10) (av := [.int (nI k), .int (nI t)]) (rest := []) (d' := 0) (mc' := 0) (ms' := 0) d246_57 (cv10_200 246 rfl) rfl (by decide) rfl rfl (by omega) (Nat.le_of_ble_eq_true rfl) (Nat.le_of_ble_eq_true rfl) (lt_w1 rfl) sh260 (Nat.le_refl _) (Nat.le_refl _) ?_
    refine s180 (k := k) (t := t) (by first | omega | decide) (by first | omega | decide) (Nat.le_refl _) ?_
    show j_W 246 d 0 0 0 0 60 [some (.ref 260), none, some (.int x), some (.int y), some (.int (nI k)), some (.int (nI t))] [.int (I (335 + k) t)] w1 (I, D, RR R) Q
    refine q_if_le (tgt := 73) d246_60 rfl (fun h2t => ?_) (fun h2f => ?_)
    ·
      refine q_iinc (L' := [some (.ref 260), none, some (.int x), some (.int y), some (.int (nI k)), some (.int (nI (t + 1)))]) (v := (nI (t + 1))) d246_73 rfl (nI_inc _) rfl ?_
      refine q_goto (tgt := 45) d246_76 rfl ?_
      exact r_sub (L' := [some (.ref 260), none, some (.int x), some (.int y), some (.int (nI k)), some (.int (nI (t + 1)))]) ⟨rfl, rfl, rfl, rfl, rfl, trivial⟩ (v2 h1fc h2t)
    ·
      refine q_iload_n d246_63 rfl ?_
      refine q_iconst (v := 1) (by decide) d246_64 ?_
      refine q_bipush (v := 24) (by decide) d246_65 ?_
      refine q_iload d246_67 rfl ?_
      refine q_iadd d246_69 ?_
      refine r_int (y := (nI (24 + t))) (nI_add 24 t) ?_
      refine q_ishl d246_70 ?_
      refine q_ior d246_71 ?_
      refine q_istore_n (L' := [some (.ref 260), none, some (.int (x ||| (1 <<< ((nI (24 + t)) &&& 31)))), some (.int y), some (.int (nI k)), some (.int (nI t))]) d246_72 (Nat.le_of_ble_eq_true rfl) rfl ?_
      refine q_iinc (L' := [some (.ref 260), none, some (.int (x ||| (1 <<< ((nI (24 + t)) &&& 31)))), some (.int y), some (.int (nI k)), some (.int (nI (t + 1)))]) (v := (nI (t + 1))) d246_73 rfl (nI_inc _) rfl ?_
      refine q_goto (tgt := 45) d246_76 rfl ?_
      exact r_sub (L' := [some (.ref 260), none, some (.int (x ||| (1 <<< ((nI (24 + t)) &&& 31)))), some (.int y), some (.int (nI k)), some (.int (nI (t + 1)))]) ⟨rfl, rfl, rfl, rfl, rfl, trivial⟩ (v3 h1fc h2f)

set_option maxRecDepth 10000 in
set_option maxHeartbeats 4000000 in
theorem s246u {d : Nat} {I : Nat → Nat → Int32} {D : Nat → Nat → UInt64} {R : Nat → Nat → Option Nat} {Q : j_Po} {x : Int32} {y : Int32} {t : Nat}  (ht : t ≤ 6) (hd : 1 ≤ d)
    (v1 : (6 ≤ t) → j_W 246 d 0 0 0 0 4 [some (.ref 260), none, some (.int x), some (.int y), none, none] [] w1 (I, D, RR R) Q)
    (v2 : (¬ 6 ≤ t) → (¬ ((y >>> ((nI (24 + t)) &&& 31)) &&& 1) = 1) → j_W 246 d 0 0 0 0 88 [some (.ref 260), none, some (.int x), some (.int y), some (.int (nI (t + 1))), none] [] w1 (I, D, RR R) Q)
    (v3 : (¬ 6 ≤ t) → (((y >>> ((nI (24 + t)) &&& 31)) &&& 1) = 1) → ((I 315 t) = 0) → j_W 246 d 0 0 0 0 88 [some (.ref 260), none, some (.int x), some (.int y), some (.int (nI (t + 1))), none] [] w1 (I, D, RR R) Q)
    (v4 : (¬ 6 ≤ t) → (((y >>> ((nI (24 + t)) &&& 31)) &&& 1) = 1) → (¬ (I 315 t) = 0) → j_W 246 d 0 0 0 0 88 [some (.ref 260), none, some (.int (x ||| (1 <<< ((I 316 t) &&& 31)))), some (.int y), some (.int (nI (t + 1))), none] [] w1 (I, D, RR R) Q) : j_W 246 d 0 0 0 0 88 [some (.ref 260), none, some (.int x), some (.int y), some (.int (nI t)), none] [] w1 (I, D, RR R) Q := by
  refine q_iload d246_88 rfl ?_
  refine q_bipush (v := 6) (by decide) d246_90 ?_
  refine q_icmp_ge (tgt := 136) d246_92 rfl (fun h1t => ?_) (fun h1f => ?_)
  ·
    have h1tc : 6 ≤ t := (nI_leI (by omega) (by omega)).mp h1t
    refine q_goto (tgt := 4) d246_136 rfl ?_
    exact r_sub (L' := [some (.ref 260), none, some (.int x), some (.int y), none, none]) ⟨rfl, rfl, rfl, trivial⟩ (v1 h1tc)
  ·
    have h1fc : ¬ 6 ≤ t := mt (nI_leI (by omega) (by omega)).mpr h1f
    refine q_iload_n d246_95 rfl ?_
    refine q_bipush (v := 24) (by decide) d246_96 ?_
    refine q_iload d246_98 rfl ?_
    refine q_iadd d246_100 ?_
    refine r_int (y := (nI (24 + t))) (nI_add 24 t) ?_
    refine q_ishr d246_101 ?_
    refine q_iconst (v := 1) (by decide) d246_102 ?_
    refine q_iand d246_103 ?_
    refine q_iconst (v := 1) (by decide) d246_104 ?_
    refine q_icmp_ne (tgt := 130) d246_105 rfl (fun h2t => ?_) (fun h2f => ?_)
    ·
      refine q_iinc (L' := [some (.ref 260), none, some (.int x), some (.int y), some (.int (nI (t + 1))), none]) (v := (nI (t + 1))) d246_130 rfl (nI_inc _) rfl ?_
      refine q_goto (tgt := 88) d246_133 rfl ?_
      exact r_sub (L' := [some (.ref 260), none, some (.int x), some (.int y), some (.int (nI (t + 1))), none]) ⟨rfl, rfl, rfl, rfl, trivial⟩ (v2 h1fc h2t)
    ·
      refine q_aload_n d246_108 rfl ?_
      refine q_getR (x := 315) d246_109 (fs10_34 246 rfl) rfl (lt_w1 rfl) sh260 (rs260_6 R) (by decide) ?_
      refine q_iload d246_112 rfl ?_
      refine q_zaload (a := t) d246_114 (lt_w1 rfl) sh315 rfl (by omega) ?_
      refine q_if_eq (tgt := 130) d246_115 rfl (fun h3t => ?_) (fun h3f => ?_)
      ·
        refine q_iinc (L' := [some (.ref 260), none, some (.int x), some (.int y), some (.int (nI (t + 1))), none]) (v := (nI (t + 1))) d246_130 rfl (nI_inc _) rfl ?_
        refine q_goto (tgt := 88) d246_133 rfl ?_
        exact r_sub (L' := [some (.ref 260), none, some (.int x), some (.int y), some (.int (nI (t + 1))), none]) ⟨rfl, rfl, rfl, rfl, trivial⟩ (v3 h1fc h2f h3t)
      ·
        refine q_iload_n d246_118 rfl ?_
        refine q_iconst (v := 1) (by decide) d246_119 ?_
        refine q_aload_n d246_120 rfl ?_
        refine q_getR (x := 316) d246_121 (fs10_37 246 rfl) rfl (lt_w1 rfl) sh260 (rs260_7 R) (by decide) ?_
        refine q_iload d246_124 rfl ?_
        refine q_iaload (a := t) d246_126 (lt_w1 rfl) sh316 rfl (by omega) ?_
        refine q_ishl d246_127 ?_
        refine q_ior d246_128 ?_
        refine q_istore_n (L' := [some (.ref 260), none, some (.int (x ||| (1 <<< ((I 316 t) &&& 31)))), some (.int y), some (.int (nI t)), none]) d246_129 (Nat.le_of_ble_eq_true rfl) rfl ?_
        refine q_iinc (L' := [some (.ref 260), none, some (.int (x ||| (1 <<< ((I 316 t) &&& 31)))), some (.int y), some (.int (nI (t + 1))), none]) (v := (nI (t + 1))) d246_130 rfl (nI_inc _) rfl ?_
        refine q_goto (tgt := 88) d246_133 rfl ?_
        exact r_sub (L' := [some (.ref 260), none, some (.int (x ||| (1 <<< ((I 316 t) &&& 31)))), some (.int y), some (.int (nI (t + 1))), none]) ⟨rfl, rfl, rfl, rfl, trivial⟩ (v4 h1fc h2f h3f)

/-- what the reference has of who names whom -/
def RBN (β : Bd) (I : Nat → Nat → Int32) : Prop :=
  (∀ c, c < 24 → I 264 c = nI (bZ β c) ∧ (∀ v, v < 32 → bt (I 333 c) v = (decide (v < 24) && nmB (bZ β c) (bS β c) v)) ∧ ∀ t, t < 6 → I (335 + c) t = nI (tmB β c t)) ∧
  ∀ t, t < 6 → I 315 t = bi (bL β t) ∧ (bL β t = true → I 316 t = nI (bO β t) ∧ I 317 t = nI (b1 β t) ∧ I 318 t = oI (b2 β t) ∧ I 319 (2 * t) = nI (bm β t) ∧ I 319 (2 * t + 1) = nI (bn β t))
theorem RB.n {β : Bd} {I : Nat → Nat → Int32} {D : Nat → Nat → UInt64} (h : RB β I D) (h2 : RN β I) : RBN β I :=
  ⟨fun c hc => ⟨(h.1 c hc).2.2.2.2.1, (h2 c hc).1, (h2 c hc).2⟩, fun t ht => ⟨(h.2 t ht).1, fun hl => by obtain ⟨a1, a2, a3, a4, a5, -⟩ := (h.2 t ht).2 hl; exact ⟨a1, a2, a3, a4, a5⟩⟩⟩
theorem RBN.cg {β : Bd} {I I' : Nat → Nat → Int32} (h : RBN β I) (h1 : I' 264 = I 264) (h2 : ∀ o, 315 ≤ o → o < 320 → I' o = I o) (h3 : I' 333 = I 333) (h4 : ∀ c, c < 24 → I' (335 + c) = I (335 + c)) : RBN β I' := by
  refine ⟨fun c hc => ?_, fun t ht => ?_⟩
  · rw [h1, h3, h4 c hc]; exact h.1 c hc
  · rw [h2 315 (by omega) (by omega), h2 316 (by omega) (by omega), h2 317 (by omega) (by omega), h2 318 (by omega) (by omega), h2 319 (by omega) (by omega)]; exact h.2 t ht
theorem RBN.lay {β : Bd} {I : Nat → Nat → Int32} (h : RBN β I) {t : Nat} (ht : t < 6) : (I 315 t = 0 ↔ bL β t = false) := by
  rw [(h.2 t ht).1]; cases bL β t <;> decide
theorem n1_f {x : Int32} {k : Nat} (hk : k < 32) (h : ¬ ((x >>> (nI k &&& 31)) &&& 1) = 1) : bt x k = false := by
  cases hb : bt x k with
  | false => rfl
  | true => exact absurd ((hn_1 hk).mpr hb) h
theorem n0_t {x : Int32} {k : Nat} (hk : k < 32) (h : ¬ ((x >>> (nI k &&& 31)) &&& 1) = 0) : bt x k = true := (hn_t hk).mp h
section RE
variable {d : Nat} {I : Nat → Nat → Int32} {D : Nat → Nat → UInt64} {R : Nat → Nat → Option Nat} {Q : j_Po} {β : Bd}
/-- X tells who reaches whom -/
def RcE (β : Bd) (X : Nat → Nat → Bool) : Prop := ∀ c, c < 24 → ∀ v, v < 32 → X c v = (decide (v = c) || anyB 24 fun k => nmB (bZ β c) (bS β c) k && X k v)
theorem NM.rc {I : Nat → Nat → Int32} (h : NM β I) : RcE β fun c v => bt (I 206 c) v := fun c hc v hv => (h.1 c hc).1 v hv
theorem RcE.cl {X : Nat → Nat → Bool} (hX : RcE β X) (hA : acyc β) {T : Nat → Prop} (hT : ∀ u v, u < 24 → v < 24 → T u → nmB (bZ β u) (bS β u) v = true → T v) : ∀ c, c < 24 → T c → ∀ v, v < 32 → X c v = true → T v := by
  obtain ⟨ρ, hρ⟩ := hA
  have key : ∀ n c, ρ c < n → c < 24 → T c → ∀ v, v < 32 → X c v = true → T v := by
    intro n
    induction n with
    | zero => intro c h; omega
    | succ n ih =>
      intro c hn hc h v hv hx
      rw [hX c hc v hv, Bool.or_eq_true, decide_eq_true_eq] at hx
      rcases hx with hx | hx
      · rw [hx]; exact h
      · obtain ⟨k, hk, h9⟩ := anyB_iff.mp hx
        rw [Bool.and_eq_true] at h9
        exact ih k (by have := hρ c k (by omega) (by omega) (by rw [ed_nm hc]; exact h9.1); omega) hk (hT c k hc hk h h9.1) v hv h9.2
  exact fun c hc => key (ρ c + 1) c (by omega) hc
theorem RcE.tr {X : Nat → Nat → Bool} (hX : RcE β X) {u k v : Nat} (hu : u < 24) (hk : k < 24) (hv : v < 32) (h : nmB (bZ β u) (bS β u) k = true) (h2 : X k v = true) : X u v = true := by
  rw [hX u hu v hv, anyB_iff.mpr ⟨k, hk, by rw [h, h2]; rfl⟩, Bool.or_true]
theorem RcE.tr2 {X : Nat → Nat → Bool} (hX : RcE β X) (hA : acyc β) {c u v : Nat} (hc : c < 24) (hu : u < 32) (hv : v < 24) (h : X c u = true) (hu2 : u < 24) (h2 : nmB (bZ β u) (bS β u) v = true) : X c v = true := by
  obtain ⟨ρ, hρ⟩ := hA
  have key : ∀ n c, ρ c < n → c < 24 → X c u = true → X c v = true := by
    intro n
    induction n with
    | zero => intro c h; omega
    | succ n ih =>
      intro c hn hc h
      have h0 := h
      rw [hX c hc u hu, Bool.or_eq_true, decide_eq_true_eq] at h
      rcases h with h | h
      · subst h
        refine hX.tr hc hv (by omega) h2 ?_
        rw [hX v hv v (by omega), decide_eq_true rfl, Bool.true_or]
      · obtain ⟨k, hk, h9⟩ := anyB_iff.mp h
        rw [Bool.and_eq_true] at h9
        exact hX.tr hc hk (by omega) h9.1 (ih k (by have := hρ c k (by omega) (by omega) (by rw [ed_nm hc]; exact h9.1); omega) hk h9.2)
  exact key (ρ c + 1) c (by omega) hc h
theorem RcE.lt {X : Nat → Nat → Bool} (hX : RcE β X) (hA : acyc β) {c v : Nat} (hc : c < 24) (hv : v < 32) (h : X c v = true) : v < 24 :=
  hX.cl hA (T := fun v => v < 24) (fun _ v _ hv _ _ => hv) c hc hc v hv h
theorem l182i (hd : 1 ≤ d) (hN : RBN β I) {X : Nat → Nat → Bool} (hX : RcE β X) (hA : acyc β) {c : Nat} (hc : c < 24) {y : Int32} (hy : ∀ v, v < 32 → bt y v = true → X c v = true)
    (K : ∀ x, (∀ v, v < 32 → bt y v = true → bt x v = true) → (∀ u, u < 24 → bt y u = true → ∀ v, v < 24 → nmB (bZ β u) (bS β u) v = true → bt x v = true) → (∀ v, v < 32 → bt x v = true → X c v = true) → j_W 182 d 0 0 0 0 6 [some (.ref 260), none, some (.int x), some (.int y), none] [] w1 (I, D, RR R) Q) :
    ∀ (n k : Nat) (x : Int32), n + k = 24 → (∀ v, v < 32 → bt y v = true → bt x v = true) → (∀ u, u < k → bt y u = true → ∀ v, v < 24 → nmB (bZ β u) (bS β u) v = true → bt x v = true) → (∀ v, v < 32 → bt x v = true → X c v = true) →
    j_W 182 d 0 0 0 0 16 [some (.ref 260), none, some (.int x), some (.int y), some (.int (nI k))] [] w1 (I, D, RR R) Q := by
  intro n
  induction n with
  | zero =>
    intro k x hk h1 h2 h3
    have : k = 24 := by omega
    subst this
    exact s182i (by omega) hd (fun _ => K x h1 h2 h3) (fun h => absurd (by omega) h) (fun h => absurd (by omega) h)
  | succ n ih =>
    intro k x hk h1 h2 h3
    refine s182i (by omega) hd (fun h => absurd h (by omega)) (fun _ g => ?_) (fun _ g => ?_)
    · have gb := n1_f (by omega) g
      refine ih (k + 1) x (by omega) h1 (fun u hu hb v hv hn => ?_) h3
      rcases Nat.lt_or_ge u k with h | h
      · exact h2 u h hb v hv hn
      · rw [show u = k by omega, gb] at hb; cases hb
    · have gb := (hn_1 (by omega)).mp g
      have hb := (hN.1 k (by omega)).2.1
      refine ih (k + 1) _ (by omega) (fun v hv hv2 => by rw [b_or, h1 v hv hv2, Bool.true_or]) (fun u hu hb2 v hv hn => ?_) (fun v hv hx => ?_)
      · rw [b_or]
        rcases Nat.lt_or_ge u k with h | h
        · rw [h2 u h hb2 v hv hn, Bool.true_or]
        · have : u = k := by omega
          subst this
          rw [hb v (by omega), hn, decide_eq_true hv, Bool.true_and, Bool.or_true]
      · rw [b_or, Bool.or_eq_true, hb v hv, Bool.and_eq_true, decide_eq_true_eq] at hx
        rcases hx with hx | ⟨hx, hx2⟩
        · exact h3 v hv hx
        · exact hX.tr2 hA hc (by omega) hx (hy k (by omega) gb) (by omega) hx2
theorem l182o (hd : 1 ≤ d) (hN : RBN β I) {X : Nat → Nat → Bool} (hX : RcE β X) (hA : acyc β) {c : Nat} (hc : c < 24) (hq : ∀ x, (∀ v, v < 32 → bt x v = X c v) → Q (some (.int x)) w1 (I, D, RR R)) :
    ∀ (n : Nat) (x y : Int32), (x = y ∨ 24 < n + cntP (bt x) 24) → (∀ v, v < 32 → bt y v = true → bt x v = true) → (∀ u, u < 24 → bt y u = true → ∀ v, v < 24 → nmB (bZ β u) (bS β u) v = true → bt x v = true) → (∀ v, v < 32 → bt x v = true → X c v = true) → bt x c = true →
    j_W 182 d 0 0 0 0 6 [some (.ref 260), none, some (.int x), some (.int y), none] [] w1 (I, D, RR R) Q := by
  have fin : ∀ x, (∀ u, u < 24 → bt x u = true → ∀ v, v < 24 → nmB (bZ β u) (bS β u) v = true → bt x v = true) → (∀ v, v < 32 → bt x v = true → X c v = true) → bt x c = true → Q (some (.int x)) w1 (I, D, RR R) := fun x h2 h3 h4 => hq x fun v hv => by
    cases hb : X c v with
    | true => exact hX.cl hA (T := fun v => bt x v = true) (fun u v hu hv h hn => h2 u hu h v hv hn) c hc h4 v hv hb
    | false => cases hx : bt x v with
      | false => rfl
      | true => rw [h3 v hv hx] at hb; cases hb
  intro n
  induction n with
  | zero =>
    intro x y h0 h1 h2 h3 h4
    refine s182o hd (fun e => ?_) (fun e => ?_)
    · subst e; exact fin x h2 h3 h4
    · exfalso
      rcases h0 with h0 | h0
      · exact e h0
      · have := cntP_le (bt x) 24; omega
  | succ n ih =>
    intro x y h0 h1 h2 h3 h4
    refine s182o hd (fun e => ?_) (fun e => ?_)
    · subst e; exact fin x h2 h3 h4
    · refine l182i hd hN hX hA hc h3 (fun x' k1 k2 k3 => ih x' x ?_ k1 k2 k3 (k1 c (by omega) h4)) 24 0 x rfl (fun v hv h => h) (fun u hu => absurd hu (Nat.not_lt_zero u)) h3
      by_cases e2 : x' = x
      · exact Or.inl e2
      · right
        obtain ⟨i, hi, hb⟩ := bt_ne e2
        have h6 : bt x i = false ∧ bt x' i = true := by
          cases hx : bt x i with
          | true => rw [hx, k1 i hi hx] at hb; exact absurd rfl hb
          | false => cases hx2 : bt x' i with
            | true => exact ⟨rfl, rfl⟩
            | false => rw [hx, hx2] at hb; exact absurd rfl hb
        have := cntP_lt (p := bt x) (q := bt x') (n := 24) (fun k hk h => k1 k (by omega) h) ⟨i, hX.lt hA hc hi (k3 i hi h6.2), h6⟩
        rcases h0 with h0 | h0
        · exact absurd h0 e
        · omega
theorem c182 (hd : 1 ≤ d) (hN : RBN β I) {X : Nat → Nat → Bool} (hX : RcE β X) (hA : acyc β) {c : Nat} (hc : c < 24) (hq : ∀ x, (∀ v, v < 32 → bt x v = X c v) → Q (some (.int x)) w1 (I, D, RR R)) : j_Call d 182 [.ref 260, .int (nI c)] w1 (I, D, RR R) 0 0 Q := by
  refine s182e hc hd (l182o hd hN hX hA hc hq 25 _ 0 (Or.inr (by omega)) (fun v hv h => by rw [b_0] at h; cases h) (fun u hu h => by rw [b_0] at h; cases h) (fun v hv h => ?_) (by rw [bt_one (by omega) (by omega), decide_eq_true rfl]))
  rw [bt_one (by omega) hv, decide_eq_true_eq] at h
  rw [hX c hc v hv, decide_eq_true h, Bool.true_or]
/-! comeTo -/
def CtI (β : Bd) (S : Nat → Bool) (x y : Int32) : Prop := (∀ v, v < 32 → bt y v = true → bt x v = true) ∧ ∀ T : Nat → Prop, (∀ v, v < 32 → S v = true → T v) → (∀ u v, u < 30 → v < 32 → T u → ed β u v = true → T v) → ∀ v, v < 32 → bt x v = true → T v
theorem CtI.or {S : Nat → Bool} {x y z : Int32} (h : CtI β S x y) {k : Nat} (hk : k < 30) (hy : bt y k = true) (hz : ∀ v, v < 32 → bt z v = true → ed β k v = true) : CtI β S (x ||| z) y := by
  refine ⟨fun v hv hb => by rw [b_or, h.1 v hv hb, Bool.true_or], fun T t1 t2 v hv hb => ?_⟩
  rw [b_or, Bool.or_eq_true] at hb
  rcases hb with hb | hb
  · exact h.2 T t1 t2 v hv hb
  · exact t2 k v hk hv (h.2 T t1 t2 k (by omega) (h.1 k (by omega) hy)) (hz v hv hb)
def dn (β : Bd) (x : Int32) (u : Nat) : Prop := ∀ v, v < 32 → ed β u v = true → bt x v = true
theorem dn.or {x z : Int32} {u : Nat} (h : dn β x u) : dn β (x ||| z) u := fun v hv he => by rw [b_or, h v hv he, Bool.true_or]
theorem l246u (hd : 1 ≤ d) (hV : BV β) (hN : RBN β I) {S : Nat → Bool} {y : Int32} (K : ∀ x, CtI β S x y → (∀ u, u < 30 → bt y u = true → dn β x u) → j_W 246 d 0 0 0 0 4 [some (.ref 260), none, some (.int x), some (.int y), none, none] [] w1 (I, D, RR R) Q) :
    ∀ (n t : Nat) (x : Int32), n + t = 6 → CtI β S x y → (∀ u, u < 24 + t → bt y u = true → dn β x u) → j_W 246 d 0 0 0 0 88 [some (.ref 260), none, some (.int x), some (.int y), some (.int (nI t)), none] [] w1 (I, D, RR R) Q := by
  intro n
  induction n with
  | zero =>
    intro t x ht h1 h2
    have : t = 6 := by omega
    subst this
    exact s246u (by omega) hd (fun _ => K x h1 h2) (fun h => absurd (by omega) h) (fun h => absurd (by omega) h) (fun h => absurd (by omega) h)
  | succ n ih =>
    intro t x ht h1 h2
    have ht6 : t < 6 := by omega
    refine s246u (by omega) hd (fun h => absurd h (by omega)) (fun _ g => ?_) (fun _ g g2 => ?_) (fun _ g g2 => ?_)
    · have gb := n1_f (by omega) g
      refine ih (t + 1) x (by omega) h1 (fun u hu hb => ?_)
      rcases Nat.lt_or_ge u (24 + t) with h | h
      · exact h2 u h hb
      · rw [show u = 24 + t by omega, gb] at hb; cases hb
    · refine ih (t + 1) x (by omega) h1 (fun u hu hb => ?_)
      rcases Nat.lt_or_ge u (24 + t) with h | h
      · exact h2 u h hb
      · have : u = 24 + t := by omega
        subst this
        intro v hv he
        unfold ed at he
        rw [if_neg (by omega), show 24 + t - 24 = t by omega, (hN.lay ht6).mp g2] at he
        cases he
    · have gb := (hn_1 (by omega)).mp g
      have hl : bL β t = true := by
        cases hl : bL β t with
        | true => rfl
        | false => exact absurd ((hN.lay ht6).mpr hl) g2
      obtain ⟨e1, -⟩ := (hN.2 t ht6).2 hl
      have ho := (hV.2.1 t ht6 hl).1
      have hed : ∀ v, ed β (24 + t) v = decide (v = bO β t) := fun v => by
        unfold ed
        rw [if_neg (by omega), show 24 + t - 24 = t by omega, hl, Bool.true_and]
      rw [e1]
      refine ih (t + 1) _ (by omega) (h1.or (k := 24 + t) (by omega) gb (fun v hv hb => by rw [bt_one (by omega) hv] at hb; rw [hed]; exact hb)) (fun u hu hb => ?_)
      rcases Nat.lt_or_ge u (24 + t) with h | h
      · exact (h2 u h hb).or
      · have : u = 24 + t := by omega
        subst this
        intro v hv he
        rw [b_or, bt_one (by omega) hv, ← hed, he, Bool.or_true]
theorem l246t (hd : 1 ≤ d) (hV : BV β) (hN : RBN β I) {S : Nat → Bool} {y : Int32} {k : Nat} (hk : k < 24) (hy : bt y k = true)
    (K : ∀ x, CtI β S x y → (∀ u, u < k + 1 → bt y u = true → dn β x u) → j_W 246 d 0 0 0 0 14 [some (.ref 260), none, some (.int x), some (.int y), some (.int (nI (k + 1))), none] [] w1 (I, D, RR R) Q) :
    ∀ (n t : Nat) (x : Int32), n + t = 6 → CtI β S x y → (∀ u, u < k → bt y u = true → dn β x u) → (∀ v, v < 24 → ed β k v = true → bt x v = true) → (∀ t', t' < t → ed β k (24 + t') = true → bt x (24 + t') = true) →
    j_W 246 d 0 0 0 0 45 [some (.ref 260), none, some (.int x), some (.int y), some (.int (nI k)), some (.int (nI t))] [] w1 (I, D, RR R) Q := by
  have tm : ∀ t, t < 6 → (I (335 + k) t ≤ 0 ↔ ed β k (24 + t) = false) := fun t ht => by
    rw [(hN.1 k hk).2.2 t ht, ed_nm hk, tm_nm (fun j hj => ((hV.1 k hk).2.2.2.2.1 j hj).1)]
    have hle : tmB β k t ≤ 96 := Nat.le_trans (tmN_le _) (hV.1 k hk).2.1
    rcases Nat.eq_zero_or_pos (tmB β k t) with h | h
    · have h' : tmN (bZ β k) (bS β k) t = 0 := h; rw [h, h']; exact ⟨fun _ => rfl, fun _ => by decide⟩
    · rw [decide_eq_true h]
      exact ⟨fun h2 => absurd h2 (nI_nle h (by omega)), fun h2 => by cases h2⟩
  intro n
  induction n with
  | zero =>
    intro t x ht h1 h2 h3 h4
    have : t = 6 := by omega
    subst this
    refine s246t hk (by omega) hd (fun _ => K x h1 fun u hu hb => ?_) (fun h => absurd (by omega) h) (fun h => absurd (by omega) h)
    rcases Nat.lt_or_ge u k with h | h
    · exact h2 u h hb
    · have : u = k := by omega
      subst this
      intro v hv he
      rcases Nat.lt_or_ge v 24 with h5 | h5
      · exact h3 v h5 he
      · have := ed_lt hV (by omega) he
        have e : 24 + (v - 24) = v := by omega
        have := h4 (v - 24) (by omega) (by rw [e]; exact he)
        rw [e] at this; exact this
  | succ n ih =>
    intro t x ht h1 h2 h3 h4
    have ht6 : t < 6 := by omega
    refine s246t hk (by omega) hd (fun h => absurd h (by omega)) (fun _ g => ?_) (fun _ g => ?_)
    · refine ih (t + 1) x (by omega) h1 h2 h3 (fun t' ht' he => ?_)
      rcases Nat.lt_or_ge t' t with h | h
      · exact h4 t' h he
      · rw [show t' = t by omega, (tm t ht6).mp g] at he; cases he
    · have he : ed β k (24 + t) = true := by
        cases h : ed β k (24 + t) with
        | true => rfl
        | false => exact absurd ((tm t ht6).mpr h) g
      refine ih (t + 1) _ (by omega) (h1.or (by omega) hy (fun v hv hb => by rw [bt_one (by omega) hv, decide_eq_true_eq] at hb; rw [hb]; exact he)) (fun u hu hb => (h2 u hu hb).or) (fun v hv he2 => by rw [b_or, h3 v hv he2, Bool.true_or]) (fun t' ht' he2 => ?_)
      rw [b_or]
      rcases Nat.lt_or_ge t' t with h | h
      · rw [h4 t' h he2, Bool.true_or]
      · rw [show t' = t by omega, bt_one (by omega) (by omega), decide_eq_true rfl, Bool.or_true]
theorem l246i (hd : 1 ≤ d) (hV : BV β) (hN : RBN β I) {S : Nat → Bool} {y : Int32} (K : ∀ x, CtI β S x y → (∀ u, u < 30 → bt y u = true → dn β x u) → j_W 246 d 0 0 0 0 4 [some (.ref 260), none, some (.int x), some (.int y), none, none] [] w1 (I, D, RR R) Q) :
    ∀ (n k : Nat) (x : Int32), n + k = 24 → CtI β S x y → (∀ u, u < k → bt y u = true → dn β x u) → j_W 246 d 0 0 0 0 14 [some (.ref 260), none, some (.int x), some (.int y), some (.int (nI k)), none] [] w1 (I, D, RR R) Q := by
  intro n
  induction n with
  | zero =>
    intro k x hk h1 h2
    have : k = 24 := by omega
    subst this
    exact s246i (by omega) hd (fun _ => l246u hd hV hN K 6 0 x rfl h1 h2) (fun h => absurd (by omega) h) (fun h => absurd (by omega) h)
  | succ n ih =>
    intro k x hk h1 h2
    have hk24 : k < 24 := by omega
    refine s246i (by omega) hd (fun h => absurd h (by omega)) (fun _ g => ?_) (fun _ g => ?_)
    · have gb := n0_t (by omega) g
      have hb := (hN.1 k hk24).2.1
      refine l246t hd hV hN hk24 gb (fun x k1 k2 => ih (k + 1) x (by omega) k1 k2) 6 0 _ rfl (h1.or (by omega) gb (fun v hv hb2 => ?_)) (fun u hu hb => (h2 u hu hb).or) (fun v hv he => ?_) (fun t' ht' => absurd ht' (Nat.not_lt_zero t'))
      · rw [hb v hv, Bool.and_eq_true] at hb2
        rw [ed_nm hk24]; exact hb2.2
      · rw [b_or, hb v (by omega), ← ed_nm hk24, he, decide_eq_true hv, Bool.true_and, Bool.or_true]
    · have gb := (hn_0 (by omega)).mp g
      refine ih (k + 1) x (by omega) h1 (fun u hu hb => ?_)
      rcases Nat.lt_or_ge u k with h | h
      · exact h2 u h hb
      · rw [show u = k by omega, gb] at hb; cases hb
theorem l246o (hd : 1 ≤ d) (hV : BV β) (hN : RBN β I) {S : Nat → Bool} (hSb : ∀ v, v < 32 → S v = true → v < 30) (hq : ∀ x, Clo (ed β) S x → Q (some (.int x)) w1 (I, D, RR R)) :
    ∀ (n : Nat) (x y : Int32), (x = y ∨ 30 < n + cntP (bt x) 30) → CtI β S x y → (∀ u, u < 30 → bt y u = true → dn β x u) → (∀ v, v < 32 → S v = true → bt x v = true) →
    j_W 246 d 0 0 0 0 4 [some (.ref 260), none, some (.int x), some (.int y), none, none] [] w1 (I, D, RR R) Q := by
  intro n
  induction n with
  | zero =>
    intro x y h0 h1 h2 h3
    refine s246o hd (fun e => ?_) (fun e => ?_)
    · subst e; exact hq x ⟨h3, h2, h1.2⟩
    · exfalso
      rcases h0 with h0 | h0
      · exact e h0
      · have := cntP_le (bt x) 30; omega
  | succ n ih =>
    intro x y h0 h1 h2 h3
    refine s246o hd (fun e => ?_) (fun e => ?_)
    · subst e; exact hq x ⟨h3, h2, h1.2⟩
    · refine l246i hd hV hN (S := S) (fun x' k1 k2 => ih x' x ?_ k1 k2 (fun v hv h => k1.1 v hv (h3 v hv h))) 24 0 x rfl ⟨fun v hv h => h, h1.2⟩ (fun u hu => absurd hu (Nat.not_lt_zero u))
      by_cases e2 : x' = x
      · exact Or.inl e2
      · right
        obtain ⟨i, hi, hb⟩ := bt_ne e2
        have h6 : bt x i = false ∧ bt x' i = true := by
          cases hx : bt x i with
          | true => rw [hx, k1.1 i hi hx] at hb; exact absurd rfl hb
          | false => cases hx2 : bt x' i with
            | true => exact ⟨rfl, rfl⟩
            | false => rw [hx, hx2] at hb; exact absurd rfl hb
        have hi30 : i < 30 := k1.2 (fun v => v < 30) hSb (fun u v hu hv _ he => ed_lt hV hu he) i hi h6.2
        have := cntP_lt (p := bt x) (q := bt x') (n := 30) (fun k hk h => k1.1 k (by omega) h) ⟨i, hi30, h6⟩
        rcases h0 with h0 | h0
        · exact absurd h0 e
        · omega
theorem c246 (hd : 1 ≤ d) (hV : BV β) (hN : RBN β I) {S : Nat → Bool} {a : Int32} (hS : ∀ v, v < 32 → bt a v = S v) (hSb : ∀ v, v < 32 → S v = true → v < 30) (hq : ∀ x, Clo (ed β) S x → Q (some (.int x)) w1 (I, D, RR R)) : j_Call d 246 [.ref 260, .int a] w1 (I, D, RR R) 0 0 Q :=
  s246e hd (l246o hd hV hN hSb hq 31 a 0 (Or.inr (by omega)) ⟨fun v hv h => (by rw [b_0] at h; cases h), fun T t1 t2 v hv h => t1 v hv (by rw [← hS v hv]; exact h)⟩ (fun u hu h => by rw [b_0] at h; cases h) (fun v hv h => by rw [hS v hv]; exact h))
end RE
