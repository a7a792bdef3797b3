/-! tells: numbers, walks -/
set_option maxRecDepth 10000 in
set_option maxHeartbeats 4000000 in
theorem u151a {d : Nat} {I : Nat → Nat → Int32} {D : Nat → Nat → UInt64} {R : Nat → Nat → Option Nat} {Q : j_Po} {t : Nat} {c : Nat} {b : Nat} {r : Nat} {AP : (Nat → Nat → Int32) → (Nat → Nat → UInt64) → Prop} (hr : r < 4) (hA : ∀ (Q : j_Po), (∀ J E, AP J E → Q none w1 (J, E, RR R)) → j_Call (d - 1) 34 [.ref 107] w1 (I, D, RR R) 0 0 Q) (hd : 1 ≤ d)
    (v1 : ∀ J1 : Nat → Nat → Int32, ∀ E2 : Nat → Nat → UInt64, (AP J1 E2) → j_W 151 d 0 0 0 0 10 [some (.ref 0), some (.int (nI t)), some (.ref (248 + 3 * r)), some (.int (nI c)), some (.int (nI b)), some (.int 0), none] [] w1 (J1, E2, RR R) Q) : j_Call d 151 [.ref 0, .int (nI t), .ref (248 + 3 * r), .int (nI c), .int (nI b)] w1 (I, D, RR R) 0 0 Q := by
  refine q_enter (L := [some (.ref 0), some (.int (nI t)), some (.ref (248 + 3 * r)), some (.int (nI c)), some (.int (nI b)), none, none]) j_m151 (Nat.le_of_ble_eq_true rfl) rfl ?_
  refine q_iconst (v := 0) (by decide) d151_0 ?_
  refine q_istore (L' := [some (.ref 0), some (.int (nI t)), some (.ref (248 + 3 * r)), some (.int (nI c)), some (.int (nI b)), some (.int 0), none]) d151_1 (Nat.le_of_ble_eq_true rfl) rfl ?_
  refine q_aload_n d151_3 rfl ?_
  refine q_getR (x := 107) d151_4 (fs9_46 151 rfl) rfl (lt_w1 rfl) sh0 (rs0_0 R) (by decide) ?_
  refine q_invV (o := 107) (ci := 8) (av := []) (rest := []) (d' := (d - 1)) (mc' := 0) (ms' := 0) d151_7 (cv9_138 151 rfl) rfl (by decide) rfl rfl (by omega) (Nat.le_of_ble_eq_true rfl) (Nat.le_of_ble_eq_true rfl) (lt_w1 rfl) sh107 (Nat.le_refl _) (Nat.le_refl _) ?_
  refine hA _  (fun J1 E2 h3 => ?_)
  show j_W 151 d 0 0 0 0 10 [some (.ref 0), some (.int (nI t)), some (.ref (248 + 3 * r)), some (.int (nI c)), some (.int (nI b)), some (.int 0), none] [] w1 (J1, E2, RR R) Q
  exact r_sub (L' := [some (.ref 0), some (.int (nI t)), some (.ref (248 + 3 * r)), some (.int (nI c)), some (.int (nI b)), some (.int 0), none]) ⟨rfl, rfl, rfl, rfl, rfl, rfl, trivial⟩ (v1 J1 E2 h3)

set_option maxRecDepth 10000 in
set_option maxHeartbeats 4000000 in
theorem u151b {d : Nat} {I : Nat → Nat → Int32} {D : Nat → Nat → UInt64} {R : Nat → Nat → Option Nat} {Q : j_Po} {t : Nat} {c : Nat} {b : Nat} {r : Nat} (hr : r < 4) (hd : 1 ≤ d)
    (v1 : j_W 151 d 0 0 0 0 14 [some (.ref 0), some (.int (nI t)), some (.ref (248 + 3 * r)), some (.int (nI c)), some (.int (nI b)), some (.int 0), some (.int (-20))] [] w1 (I, D, RR R) Q) : j_W 151 d 0 0 0 0 10 [some (.ref 0), some (.int (nI t)), some (.ref (248 + 3 * r)), some (.int (nI c)), some (.int (nI b)), some (.int 0), none] [] w1 (I, D, RR R) Q := by
  refine q_bipush (v := (-20)) (by decide) d151_10 ?_
  refine q_istore (L' := [some (.ref 0), some (.int (nI t)), some (.ref (248 + 3 * r)), some (.int (nI c)), some (.int (nI b)), some (.int 0), some (.int (-20))]) d151_12 (Nat.le_of_ble_eq_true rfl) rfl ?_
  exact r_sub (L' := [some (.ref 0), some (.int (nI t)), some (.ref (248 + 3 * r)), some (.int (nI c)), some (.int (nI b)), some (.int 0), some (.int (-20))]) ⟨rfl, rfl, rfl, rfl, rfl, rfl, rfl, trivial⟩ v1

set_option maxRecDepth 10000 in
set_option maxHeartbeats 4000000 in
theorem u151h {d : Nat} {I : Nat → Nat → Int32} {D : Nat → Nat → UInt64} {R : Nat → Nat → Option Nat} {Q : j_Po} {t : Nat} {c : Nat} {b : Nat} {h : Nat} {z : Int32} {r : Nat} {β : Bd} {η : VEnv} (hr : r < 4) (hC : CB β I D R) (hd : 3 ≤ d)
    (v1 : (20 < z) → j_W 151 d 0 0 0 0 82 [some (.ref 0), none, none, none, some (.int (nI b)), some (.int (nI h)), none] [] w1 (I, D, RR R) Q)
    (v2 : (¬ 20 < z) → c < 24)
    (v3 : (¬ 20 < z) → Sm (FP.i2d z))
    (v4 : (¬ 20 < z) → 2 ≤ 2)
    (v5 : (¬ 20 < z) → LE β I D 0 η)
    (v6 : (¬ 20 < z) → ∀ J2 : Nat → Nat → Int32, ∀ E3 : Nat → Nat → UInt64, (FL 0 I D J2 E3) → (LE β J2 E3 0 (fu η c (0, kp (nI (bK β c)) (FP.i2d z)))) → j_W 151 d 0 0 0 0 32 [some (.ref 0), some (.int (nI t)), some (.ref (248 + 3 * r)), some (.int (nI c)), some (.int (nI b)), some (.int (nI h)), some (.int z)] [] w1 (J2, E3, RR R) Q) : j_W 151 d 0 0 0 0 14 [some (.ref 0), some (.int (nI t)), some (.ref (248 + 3 * r)), some (.int (nI c)), some (.int (nI b)), some (.int (nI h)), some (.int z)] [] w1 (I, D, RR R) Q := by
  refine q_iload d151_14 rfl ?_
  refine q_bipush (v := 20) (by decide) d151_16 ?_
  refine q_icmp_gt (tgt := 82) d151_18 rfl (fun h1t => ?_) (fun h1f => ?_)
  ·
    exact r_sub (L' := [some (.ref 0), none, none, none, some (.int (nI b)), some (.int (nI h)), none]) ⟨rfl, rfl, rfl, trivial⟩ (v1 h1t)
  ·
    refine q_aload_n d151_21 rfl ?_
    refine q_getR (x := 107) d151_22 (fs9_46 151 rfl) rfl (lt_w1 rfl) sh0 (rs0_0 R) (by decide) ?_
    refine q_iload_n d151_25 rfl ?_
    refine q_iload d151_26 rfl ?_
    refine q_i2d d151_28 ?_
    refine q_invV (o := 107) (ci := 8) (av := [.int (nI c), .double (FP.i2d z)]) (rest := []) (d' := 2) (mc' := 0) (ms' := 0) d151_29 (cv9_453 151 rfl) rfl (by decide) rfl rfl (by omega) (Nat.le_of_ble_eq_true rfl) (Nat.le_of_ble_eq_true rfl) (lt_w1 rfl) sh107 (Nat.le_refl _) (Nat.le_refl _) ?_
    refine c60 (η := η) hC (v2 h1f) (v3 h1f) (v4 h1f) (v5 h1f) (fun J2 E3 h4 h5 => ?_)
    show j_W 151 d 0 0 0 0 32 [some (.ref 0), some (.int (nI t)), some (.ref (248 + 3 * r)), some (.int (nI c)), some (.int (nI b)), some (.int (nI h)), some (.int z)] [] w1 (J2, E3, RR R) Q
    exact r_sub (L' := [some (.ref 0), some (.int (nI t)), some (.ref (248 + 3 * r)), some (.int (nI c)), some (.int (nI b)), some (.int (nI h)), some (.int z)]) ⟨rfl, rfl, rfl, rfl, rfl, rfl, rfl, trivial⟩ (v6 h1f J2 E3 h4 h5)

set_option maxRecDepth 10000 in
set_option maxHeartbeats 4000000 in
theorem u151c {d : Nat} {I : Nat → Nat → Int32} {D : Nat → Nat → UInt64} {R : Nat → Nat → Option Nat} {Q : j_Po} {t : Nat} {c : Nat} {b : Nat} {h : Nat} {z : Int32} {r : Nat} {AP : (Nat → Nat → Int32) → (Nat → Nat → UInt64) → Prop} (hr : r < 4) (hA : ∀ (Q : j_Po), (∀ J E, AP J E → Q none w1 (J, E, RR R)) → j_Call (d - 1) 41 [.ref 107, .int 0, .int (nI t)] w1 (I, D, RR R) 0 0 Q) (hd : 1 ≤ d)
    (v1 : ∀ J1 : Nat → Nat → Int32, ∀ E2 : Nat → Nat → UInt64, (AP J1 E2) → j_W 151 d 0 0 0 0 41 [some (.ref 0), some (.int (nI t)), some (.ref (248 + 3 * r)), some (.int (nI c)), some (.int (nI b)), some (.int (nI h)), some (.int z)] [] w1 (J1, E2, RR R) Q) : j_W 151 d 0 0 0 0 32 [some (.ref 0), some (.int (nI t)), some (.ref (248 + 3 * r)), some (.int (nI c)), some (.int (nI b)), some (.int (nI h)), some (.int z)] [] w1 (I, D, RR R) Q := by
  refine q_aload_n d151_32 rfl ?_
  refine q_getR (x := 107) d151_33 (fs9_46 151 rfl) rfl (lt_w1 rfl) sh0 (rs0_0 R) (by decide) ?_
  refine q_iconst (v := 0) (by decide) d151_36 ?_
  refine q_iload_n d151_37 rfl ?_
  refine q_invVN (o := 107) (ci := 8) (av := [.int 0, .int (nI t)]) (rest := []) (d' := (d - 1)) (mc' := 0) (ms' := 0) d151_38 (nv9_389 151 rfl) rfl (by decide) rfl rfl (by omega) (Nat.le_of_ble_eq_true rfl) (Nat.le_of_ble_eq_true rfl) (lt_w1 rfl) sh107 (Nat.le_refl _) (Nat.le_refl _) ?_
  refine hA _  (fun J1 E2 h3 => ?_)
  show j_W 151 d 0 0 0 0 41 [some (.ref 0), some (.int (nI t)), some (.ref (248 + 3 * r)), some (.int (nI c)), some (.int (nI b)), some (.int (nI h)), some (.int z)] [] w1 (J1, E2, RR R) Q
  exact r_sub (L' := [some (.ref 0), some (.int (nI t)), some (.ref (248 + 3 * r)), some (.int (nI c)), some (.int (nI b)), some (.int (nI h)), some (.int z)]) ⟨rfl, rfl, rfl, rfl, rfl, rfl, rfl, trivial⟩ (v1 J1 E2 h3)

set_option maxRecDepth 10000 in
set_option maxHeartbeats 4000000 in
theorem u151d {d : Nat} {I : Nat → Nat → Int32} {D : Nat → Nat → UInt64} {R : Nat → Nat → Option Nat} {Q : j_Po} {t : Nat} {c : Nat} {b : Nat} {h : Nat} {z : Int32} {r : Nat} {v : Int32} (hr : r < 4) (ht : t < 6) (hh : h < 64) (hA : ∀ (Q : j_Po), Q (some (.int v)) w1 (I, D, RR R) → j_Call (d - 1) 149 [.ref (248 + 3 * r), .ref (230 + 3 * t)] w1 (I, D, RR R) 0 0 Q) (hd : 1 ≤ d)
    (v1 : (v = (-1)) → ((nI b) = 0) → j_W 151 d 0 0 0 0 14 [some (.ref 0), some (.int (nI t)), some (.ref (248 + 3 * r)), some (.int (nI c)), some (.int (nI b)), some (.int (nI (h + 1))), some (.int (z + 1))] [] w1 (I, D, RR R) Q)
    (v2 : (v = (-1)) → (¬ (nI b) = 0) → Q (some (.int (1000 + z))) w1 (I, D, RR R))
    (v3 : (¬ v = (-1)) → j_W 151 d 0 0 0 0 14 [some (.ref 0), some (.int (nI t)), some (.ref (248 + 3 * r)), some (.int (nI c)), some (.int (nI b)), some (.int (nI h)), some (.int (z + 1))] [] w1 (I, D, RR R) Q) : j_W 151 d 0 0 0 0 41 [some (.ref 0), some (.int (nI t)), some (.ref (248 + 3 * r)), some (.int (nI c)), some (.int (nI b)), some (.int (nI h)), some (.int z)] [] w1 (I, D, RR R) Q := by
  refine q_aload_n d151_41 rfl ?_
  refine q_aload_n d151_42 rfl ?_
  refine q_getR (x := 107) d151_43 (fs9_46 151 rfl) rfl (lt_w1 rfl) sh0 (rs0_0 R) (by decide) ?_
  refine q_getR (x := 211) d151_46 (fs9_392 151 rfl) rfl (lt_w1 rfl) sh107 (rs107_2 R) (by decide) ?_
  refine q_iload_n d151_49 rfl ?_
  refine q_aaload (c := 9) (a := t) (x := (230 + 3 * t)) d151_50 (lt_w1 rfl) sh211 (by decide) rfl (by omega) (rl211 R (by omega)) (lt1000 (isTl_lt (isTl_k _ (by omega)))) ?_
  refine q_invV (o := (248 + 3 * r)) (ci := 6) (av := [.ref (230 + 3 * t)]) (rest := []) (d' := (d - 1)) (mc' := 0) (ms' := 0) d151_51 (cv9_336 151 rfl) rfl (by decide) rfl rfl (by omega) (Nat.le_of_ble_eq_true rfl) (Nat.le_of_ble_eq_true rfl) (isRw_lt (isRw_k r hr)) (isRw_sh (isRw_k r hr)) (Nat.le_refl _) (Nat.le_refl _) ?_
  refine hA _  ?_
  show j_W 151 d 0 0 0 0 54 [some (.ref 0), some (.int (nI t)), some (.ref (248 + 3 * r)), some (.int (nI c)), some (.int (nI b)), some (.int (nI h)), some (.int z)] [.int v] w1 (I, D, RR R) Q
  refine q_iconst (v := (-1)) (by decide) d151_54 ?_
  refine q_icmp_eq (tgt := 61) d151_55 rfl (fun h1t => ?_) (fun h1f => ?_)
  ·
    refine q_iload d151_61 rfl ?_
    refine q_if_eq (tgt := 73) d151_63 rfl (fun h2t => ?_) (fun h2f => ?_)
    ·
      refine q_iinc (L' := [some (.ref 0), some (.int (nI t)), some (.ref (248 + 3 * r)), some (.int (nI c)), some (.int (nI b)), some (.int (nI (h + 1))), some (.int z)]) (v := (nI (h + 1))) d151_73 rfl (nI_inc _) rfl ?_
      refine q_iinc (L' := [some (.ref 0), some (.int (nI t)), some (.ref (248 + 3 * r)), some (.int (nI c)), some (.int (nI b)), some (.int (nI (h + 1))), some (.int (z + 1))]) (v := (z + 1)) d151_76 rfl rfl rfl ?_
      refine q_goto (tgt := 14) d151_79 rfl ?_
      exact r_sub (L' := [some (.ref 0), some (.int (nI t)), some (.ref (248 + 3 * r)), some (.int (nI c)), some (.int (nI b)), some (.int (nI (h + 1))), some (.int (z + 1))]) ⟨rfl, rfl, rfl, rfl, rfl, rfl, rfl, trivial⟩ (v1 h1t h2t)
    ·
      refine q_sipush (v := 1000) (by decide) d151_66 ?_
      refine q_iload d151_69 rfl ?_
      refine q_iadd d151_71 ?_
      exact q_iret d151_72 rfl (Nat.le_refl _) (Nat.le_refl _) (v2 h1t h2f)
  ·
    refine q_goto (tgt := 76) d151_58 rfl ?_
    refine q_iinc (L' := [some (.ref 0), some (.int (nI t)), some (.ref (248 + 3 * r)), some (.int (nI c)), some (.int (nI b)), some (.int (nI h)), some (.int (z + 1))]) (v := (z + 1)) d151_76 rfl rfl rfl ?_
    refine q_goto (tgt := 14) d151_79 rfl ?_
    exact r_sub (L' := [some (.ref 0), some (.int (nI t)), some (.ref (248 + 3 * r)), some (.int (nI c)), some (.int (nI b)), some (.int (nI h)), some (.int (z + 1))]) ⟨rfl, rfl, rfl, rfl, rfl, rfl, rfl, trivial⟩ (v3 h1f)

set_option maxRecDepth 10000 in
set_option maxHeartbeats 4000000 in
theorem u151z {d : Nat} {I : Nat → Nat → Int32} {D : Nat → Nat → UInt64} {R : Nat → Nat → Option Nat} {Q : j_Po} {b : Nat} {h : Nat}   (hd : 1 ≤ d)
    (v1 : ((nI b) = 0) → Q (some (.int (nI h))) w1 (I, D, RR R))
    (v2 : (¬ (nI b) = 0) → Q (some (.int (-1))) w1 (I, D, RR R)) : j_W 151 d 0 0 0 0 82 [some (.ref 0), none, none, none, some (.int (nI b)), some (.int (nI h)), none] [] w1 (I, D, RR R) Q := by
  refine q_iload d151_82 rfl ?_
  refine q_if_eq (tgt := 91) d151_84 rfl (fun h1t => ?_) (fun h1f => ?_)
  ·
    refine q_iload d151_91 rfl ?_
    exact q_iret d151_93 rfl (Nat.le_refl _) (Nat.le_refl _) (v1 h1t)
  ·
    refine q_iconst (v := (-1)) (by decide) d151_87 ?_
    refine q_goto (tgt := 93) d151_88 rfl ?_
    exact q_iret d151_93 rfl (Nat.le_refl _) (Nat.le_refl _) (v2 h1f)

set_option maxRecDepth 10000 in
set_option maxHeartbeats 4000000 in
theorem u279e {d : Nat} {I : Nat → Nat → Int32} {D : Nat → Nat → UInt64} {R : Nat → Nat → Option Nat} {Q : j_Po} {t : Nat} {r : Nat} {c : Nat} {b : Nat}  (hc : c < 24) (hd : 1 ≤ d)
    (v1 : j_W 279 d 0 0 0 0 33 [some (.ref 260), some (.int (nI t)), some (.int (nI r)), some (.int (nI c)), some (.int (nI b)), some (.double (D 263 c)), none, some (.int (I 262 c)), some (.int 0), some (.int (-1)), some (.int (-20))] [] w1 ((j_u I 262 c 1), D, RR R) Q) : j_Call d 279 [.ref 260, .int (nI t), .int (nI r), .int (nI c), .int (nI b)] w1 (I, D, RR R) 0 0 Q := by
  refine q_enter (L := [some (.ref 260), some (.int (nI t)), some (.int (nI r)), some (.int (nI c)), some (.int (nI b)), none, none, none, none, none, none]) j_m279 (Nat.le_of_ble_eq_true rfl) rfl ?_
  refine q_aload_n d279_0 rfl ?_
  refine q_getR (x := 263) d279_1 (fs10_17 279 rfl) rfl (lt_w1 rfl) sh260 (rs260_2 R) (by decide) ?_
  refine q_iload_n d279_4 rfl ?_
  refine q_daload (a := c) d279_5 (lt_w1 rfl) sh263 rfl (by omega) ?_
  refine q_dstore (L' := [some (.ref 260), some (.int (nI t)), some (.int (nI r)), some (.int (nI c)), some (.int (nI b)), some (.double (D 263 c)), none, none, none, none, none]) d279_6 (Nat.le_of_ble_eq_true rfl) rfl ?_
  refine q_aload_n d279_8 rfl ?_
  refine q_getR (x := 262) d279_9 (fs10_13 279 rfl) rfl (lt_w1 rfl) sh260 (rs260_1 R) (by decide) ?_
  refine q_iload_n d279_12 rfl ?_
  refine q_zaload (a := c) d279_13 (lt_w1 rfl) sh262 rfl (by omega) ?_
  refine q_istore (L' := [some (.ref 260), some (.int (nI t)), some (.int (nI r)), some (.int (nI c)), some (.int (nI b)), some (.double (D 263 c)), none, some (.int (I 262 c)), none, none, none]) d279_14 (Nat.le_of_ble_eq_true rfl) rfl ?_
  refine q_aload_n d279_16 rfl ?_
  refine q_getR (x := 262) d279_17 (fs10_13 279 rfl) rfl (lt_w1 rfl) sh260 (rs260_1 R) (by decide) ?_
  refine q_iload_n d279_20 rfl ?_
  refine q_iconst (v := 1) (by decide) d279_21 ?_
  refine q_zastore (a := c) d279_22 (Or.inr rfl) (lt_w1 rfl) sh262 rfl (by omega) ?_
  refine q_iconst (v := 0) (by decide) d279_23 ?_
  refine q_istore (L' := [some (.ref 260), some (.int (nI t)), some (.int (nI r)), some (.int (nI c)), some (.int (nI b)), some (.double (D 263 c)), none, some (.int (I 262 c)), some (.int 0), none, none]) d279_24 (Nat.le_of_ble_eq_true rfl) rfl ?_
  refine q_iconst (v := (-1)) (by decide) d279_26 ?_
  refine q_istore (L' := [some (.ref 260), some (.int (nI t)), some (.int (nI r)), some (.int (nI c)), some (.int (nI b)), some (.double (D 263 c)), none, some (.int (I 262 c)), some (.int 0), some (.int (-1)), none]) d279_27 (Nat.le_of_ble_eq_true rfl) rfl ?_
  refine q_bipush (v := (-20)) (by decide) d279_29 ?_
  refine q_istore (L' := [some (.ref 260), some (.int (nI t)), some (.int (nI r)), some (.int (nI c)), some (.int (nI b)), some (.double (D 263 c)), none, some (.int (I 262 c)), some (.int 0), some (.int (-1)), some (.int (-20))]) d279_31 (Nat.le_of_ble_eq_true rfl) rfl ?_
  exact r_sub (L' := [some (.ref 260), some (.int (nI t)), some (.int (nI r)), some (.int (nI c)), some (.int (nI b)), some (.double (D 263 c)), none, some (.int (I 262 c)), some (.int 0), some (.int (-1)), some (.int (-20))]) ⟨rfl, rfl, rfl, rfl, rfl, rfl, rfl, rfl, rfl, rfl, trivial⟩ v1

set_option maxRecDepth 10000 in
set_option maxHeartbeats 4000000 in
theorem u279h {d : Nat} {I : Nat → Nat → Int32} {D : Nat → Nat → UInt64} {R : Nat → Nat → Option Nat} {Q : j_Po} {t : Nat} {r : Nat} {c : Nat} {b : Nat} {y : UInt64} {g : Int32} {h : Nat} {f : Int32} {z : Int32}  (hc : c < 24) (hd : 1 ≤ d)
    (v1 : (20 < z) → j_W 279 d 0 0 0 0 89 [some (.ref 260), none, none, some (.int (nI c)), some (.int (nI b)), some (.double y), none, some (.int g), some (.int (nI h)), some (.int f), none] [] w1 (I, D, RR R) Q)
    (v2 : (¬ 20 < z) → j_W 279 d 0 0 0 0 49 [some (.ref 260), some (.int (nI t)), some (.int (nI r)), some (.int (nI c)), some (.int (nI b)), some (.double y), none, some (.int g), some (.int (nI h)), some (.int f), some (.int z)] [] w1 (I, (j_u D 263 c (FP.i2d z)), RR R) Q) : j_W 279 d 0 0 0 0 33 [some (.ref 260), some (.int (nI t)), some (.int (nI r)), some (.int (nI c)), some (.int (nI b)), some (.double y), none, some (.int g), some (.int (nI h)), some (.int f), some (.int z)] [] w1 (I, D, RR R) Q := by
  refine q_iload d279_33 rfl ?_
  refine q_bipush (v := 20) (by decide) d279_35 ?_
  refine q_icmp_gt (tgt := 89) d279_37 rfl (fun h1t => ?_) (fun h1f => ?_)
  ·
    exact r_sub (L' := [some (.ref 260), none, none, some (.int (nI c)), some (.int (nI b)), some (.double y), none, some (.int g), some (.int (nI h)), some (.int f), none]) ⟨rfl, rfl, rfl, rfl, rfl, rfl, rfl, trivial⟩ (v1 h1t)
  ·
    refine q_aload_n d279_40 rfl ?_
    refine q_getR (x := 263) d279_41 (fs10_17 279 rfl) rfl (lt_w1 rfl) sh260 (rs260_2 R) (by decide) ?_
    refine q_iload_n d279_44 rfl ?_
    refine q_iload d279_45 rfl ?_
    refine q_i2d d279_47 ?_
    refine q_dastore (a := c) d279_48 (lt_w1 rfl) sh263 rfl (by omega) ?_
    exact r_sub (L' := [some (.ref 260), some (.int (nI t)), some (.int (nI r)), some (.int (nI c)), some (.int (nI b)), some (.double y), none, some (.int g), some (.int (nI h)), some (.int f), some (.int z)]) ⟨rfl, rfl, rfl, rfl, rfl, rfl, rfl, rfl, rfl, rfl, trivial⟩ (v2 h1f)

set_option maxRecDepth 10000 in
set_option maxHeartbeats 4000000 in
theorem u279c {d : Nat} {I : Nat → Nat → Int32} {D : Nat → Nat → UInt64} {R : Nat → Nat → Option Nat} {Q : j_Po} {t : Nat} {r : Nat} {c : Nat} {b : Nat} {y : UInt64} {g : Int32} {h : Nat} {f : Int32} {z : Int32} {v : Int32} {AP : (Nat → Nat → Int32) → (Nat → Nat → UInt64) → Prop} (hh : h < 64) (hA : ∀ (Q : j_Po), (∀ J E, AP J E → Q (some (.int v)) w1 (J, E, RR R)) → j_Call (d - 1) 277 [.ref 260, .int (nI t), .int (nI r)] w1 (I, D, RR R) 0 0 Q) (hd : 1 ≤ d)
    (v1 : ∀ J1 : Nat → Nat → Int32, ∀ E2 : Nat → Nat → UInt64, (AP J1 E2) → (v = (-1)) → (¬ (nI h) = 0) → j_W 279 d 0 0 0 0 33 [some (.ref 260), some (.int (nI t)), some (.int (nI r)), some (.int (nI c)), some (.int (nI b)), some (.double y), none, some (.int g), some (.int (nI (h + 1))), some (.int f), some (.int (z + 1))] [] w1 (J1, E2, RR R) Q)
    (v2 : ∀ J1 : Nat → Nat → Int32, ∀ E2 : Nat → Nat → UInt64, (AP J1 E2) → (v = (-1)) → ((nI h) = 0) → j_W 279 d 0 0 0 0 33 [some (.ref 260), some (.int (nI t)), some (.int (nI r)), some (.int (nI c)), some (.int (nI b)), some (.double y), none, some (.int g), some (.int (nI (h + 1))), some (.int (1000 + z)), some (.int (z + 1))] [] w1 (J1, E2, RR R) Q)
    (v3 : ∀ J1 : Nat → Nat → Int32, ∀ E2 : Nat → Nat → UInt64, (AP J1 E2) → (¬ v = (-1)) → j_W 279 d 0 0 0 0 33 [some (.ref 260), some (.int (nI t)), some (.int (nI r)), some (.int (nI c)), some (.int (nI b)), some (.double y), none, some (.int g), some (.int (nI h)), some (.int f), some (.int (z + 1))] [] w1 (J1, E2, RR R) Q) : j_W 279 d 0 0 0 0 49 [some (.ref 260), some (.int (nI t)), some (.int (nI r)), some (.int (nI c)), some (.int (nI b)), some (.double y), none, some (.int g), some (.int (nI h)), some (.int f), some (.int z)] [] w1 (I, D, RR R) Q := by
  refine q_aload_n d279_49 rfl ?_
  refine q_iload_n d279_50 rfl ?_
  refine q_iload_n d279_51 rfl ?_
  refine q_invV (o := 260) (ci := 10) (av := [.int (nI t), .int (nI r)]) (rest := []) (d' := (d - 1)) (mc' := 0) (ms' := 0) d279_52 (cv10_553 279 rfl) rfl (by decide) rfl rfl (by omega) (Nat.le_of_ble_eq_true rfl) (Nat.le_of_ble_eq_true rfl) (lt_w1 rfl) sh260 (Nat.le_refl _) (Nat.le_refl _) ?_
  refine hA _  (fun J1 E2 h3 => ?_)
  show j_W 279 d 0 0 0 0 55 [some (.ref 260), some (.int (nI t)), some (.int (nI r)), some (.int (nI c)), some (.int (nI b)), some (.double y), none, some (.int g), some (.int (nI h)), some (.int f), some (.int z)] [.int v] w1 (J1, E2, RR R) Q
  refine q_iconst (v := (-1)) (by decide) d279_55 ?_
  refine q_icmp_eq (tgt := 62) d279_56 rfl (fun h4t => ?_) (fun h4f => ?_)
  ·
    refine q_iload d279_62 rfl ?_
    refine q_if_ne (tgt := 76) d279_64 rfl (fun h5t => ?_) (fun h5f => ?_)
    ·
      refine q_iload d279_76 rfl ?_
      refine q_istore (L' := [some (.ref 260), some (.int (nI t)), some (.int (nI r)), some (.int (nI c)), some (.int (nI b)), some (.double y), none, some (.int g), some (.int (nI h)), some (.int f), some (.int z)]) d279_78 (Nat.le_of_ble_eq_true rfl) rfl ?_
      refine q_iinc (L' := [some (.ref 260), some (.int (nI t)), some (.int (nI r)), some (.int (nI c)), some (.int (nI b)), some (.double y), none, some (.int g), some (.int (nI (h + 1))), some (.int f), some (.int z)]) (v := (nI (h + 1))) d279_80 rfl (nI_inc _) rfl ?_
      refine q_iinc (L' := [some (.ref 260), some (.int (nI t)), some (.int (nI r)), some (.int (nI c)), some (.int (nI b)), some (.double y), none, some (.int g), some (.int (nI (h + 1))), some (.int f), some (.int (z + 1))]) (v := (z + 1)) d279_83 rfl rfl rfl ?_
      refine q_goto (tgt := 33) d279_86 rfl ?_
      exact r_sub (L' := [some (.ref 260), some (.int (nI t)), some (.int (nI r)), some (.int (nI c)), some (.int (nI b)), some (.double y), none, some (.int g), some (.int (nI (h + 1))), some (.int f), some (.int (z + 1))]) ⟨rfl, rfl, rfl, rfl, rfl, rfl, rfl, rfl, rfl, rfl, trivial⟩ (v1 J1 E2 h3 h4t h5t)
    ·
      refine q_sipush (v := 1000) (by decide) d279_67 ?_
      refine q_iload d279_70 rfl ?_
      refine q_iadd d279_72 ?_
      refine q_goto (tgt := 78) d279_73 rfl ?_
      refine q_istore (L' := [some (.ref 260), some (.int (nI t)), some (.int (nI r)), some (.int (nI c)), some (.int (nI b)), some (.double y), none, some (.int g), some (.int (nI h)), some (.int (1000 + z)), some (.int z)]) d279_78 (Nat.le_of_ble_eq_true rfl) rfl ?_
      refine q_iinc (L' := [some (.ref 260), some (.int (nI t)), some (.int (nI r)), some (.int (nI c)), some (.int (nI b)), some (.double y), none, some (.int g), some (.int (nI (h + 1))), some (.int (1000 + z)), some (.int z)]) (v := (nI (h + 1))) d279_80 rfl (nI_inc _) rfl ?_
      refine q_iinc (L' := [some (.ref 260), some (.int (nI t)), some (.int (nI r)), some (.int (nI c)), some (.int (nI b)), some (.double y), none, some (.int g), some (.int (nI (h + 1))), some (.int (1000 + z)), some (.int (z + 1))]) (v := (z + 1)) d279_83 rfl rfl rfl ?_
      refine q_goto (tgt := 33) d279_86 rfl ?_
      exact r_sub (L' := [some (.ref 260), some (.int (nI t)), some (.int (nI r)), some (.int (nI c)), some (.int (nI b)), some (.double y), none, some (.int g), some (.int (nI (h + 1))), some (.int (1000 + z)), some (.int (z + 1))]) ⟨rfl, rfl, rfl, rfl, rfl, rfl, rfl, rfl, rfl, rfl, trivial⟩ (v2 J1 E2 h3 h4t h5f)
  ·
    refine q_goto (tgt := 83) d279_59 rfl ?_
    refine q_iinc (L' := [some (.ref 260), some (.int (nI t)), some (.int (nI r)), some (.int (nI c)), some (.int (nI b)), some (.double y), none, some (.int g), some (.int (nI h)), some (.int f), some (.int (z + 1))]) (v := (z + 1)) d279_83 rfl rfl rfl ?_
    refine q_goto (tgt := 33) d279_86 rfl ?_
    exact r_sub (L' := [some (.ref 260), some (.int (nI t)), some (.int (nI r)), some (.int (nI c)), some (.int (nI b)), some (.double y), none, some (.int g), some (.int (nI h)), some (.int f), some (.int (z + 1))]) ⟨rfl, rfl, rfl, rfl, rfl, rfl, rfl, rfl, rfl, rfl, trivial⟩ (v3 J1 E2 h3 h4f)

set_option maxRecDepth 10000 in
set_option maxHeartbeats 4000000 in
theorem u279z {d : Nat} {I : Nat → Nat → Int32} {D : Nat → Nat → UInt64} {R : Nat → Nat → Option Nat} {Q : j_Po} {c : Nat} {b : Nat} {y : UInt64} {g : Int32} {h : Nat} {f : Int32}  (hc : c < 24) (hd : 1 ≤ d)
    (v1 : g = 0 ∨ g = 1)
    (v2 : ((nI b) = 0) → Q (some (.int (nI h))) w1 ((j_u I 262 c g), (j_u D 263 c y), RR R))
    (v3 : (¬ (nI b) = 0) → Q (some (.int f)) w1 ((j_u I 262 c g), (j_u D 263 c y), RR R)) : j_W 279 d 0 0 0 0 89 [some (.ref 260), none, none, some (.int (nI c)), some (.int (nI b)), some (.double y), none, some (.int g), some (.int (nI h)), some (.int f), none] [] w1 (I, D, RR R) Q := by
  refine q_aload_n d279_89 rfl ?_
  refine q_getR (x := 263) d279_90 (fs10_17 279 rfl) rfl (lt_w1 rfl) sh260 (rs260_2 R) (by decide) ?_
  refine q_iload_n d279_93 rfl ?_
  refine q_dload d279_94 rfl ?_
  refine q_dastore (a := c) d279_96 (lt_w1 rfl) sh263 rfl (by omega) ?_
  refine q_aload_n d279_97 rfl ?_
  refine q_getR (x := 262) d279_98 (fs10_13 279 rfl) rfl (lt_w1 rfl) sh260 (rs260_1 R) (by decide) ?_
  refine q_iload_n d279_101 rfl ?_
  refine q_iload d279_102 rfl ?_
  refine q_zastore (a := c) d279_104 v1 (lt_w1 rfl) sh262 rfl (by omega) ?_
  refine q_iload d279_105 rfl ?_
  refine q_if_eq (tgt := 115) d279_107 rfl (fun h1t => ?_) (fun h1f => ?_)
  ·
    refine q_iload d279_115 rfl ?_
    exact q_iret d279_117 rfl (Nat.le_refl _) (Nat.le_refl _) (v2 h1t)
  ·
    refine q_iload d279_110 rfl ?_
    refine q_goto (tgt := 117) d279_112 rfl ?_
    exact q_iret d279_117 rfl (Nat.le_refl _) (Nat.le_refl _) (v3 h1f)

