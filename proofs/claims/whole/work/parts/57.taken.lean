/-! taken -/
theorem r31m {d : Nat} {I : Nat → Nat → Int32} {D : Nat → Nat → UInt64} {R : Nat → Nat → Option Nat} {Q : j_Po} (hq : Q (some (.int 0)) w1 (I, D, RR R)) : j_Call d 31 [.int (-1)] w1 (I, D, RR R) 0 0 Q :=
  r31 (fun k hk e => absurd e ((by decide : ∀ k : Nat, k < 6 → ¬ (-1 : Int32) = nI k) k hk)) (fun _ => hq)
set_option maxRecDepth 10000 in
set_option maxHeartbeats 4000000 in
theorem s61e {d : Nat} {I : Nat → Nat → Int32} {D : Nat → Nat → UInt64} {R : Nat → Nat → Option Nat} {Q : j_Po} {c : Nat} {k : Nat}  (hR : WFR R) (hc : c < 24) (hk : k < 6) (hd : 1 ≤ d)
    (v1 : j_W 61 d 0 0 0 0 27 [none, none, some (.int (nI k)), some (.int (I 109 c)), none, none] [] w1 (I, D, RR R) Q) : j_Call d 61 [.ref 0, .int (nI c), .int (nI k)] w1 (I, D, RR R) 0 0 Q := by
  refine q_enter (L := [some (.ref 0), some (.int (nI c)), some (.int (nI k)), none, none, none]) j_m61 (Nat.le_of_ble_eq_true rfl) rfl ?_
  refine q_iload_n d61_0 rfl ?_
  refine q_invS (av := [.int (nI c)]) (rest := []) (d' := 0) (mc' := 0) (ms' := 0) d61_1 (cv9_60 61 rfl) rfl rfl (by omega) (Nat.le_of_ble_eq_true rfl) (Nat.le_of_ble_eq_true rfl) (Nat.le_refl _) (Nat.le_refl _) ?_
  refine r12t (by first | omega | decide)  ?_
  show j_W 61 d 0 0 0 0 4 [some (.ref 0), some (.int (nI c)), some (.int (nI k)), none, none, none] [.int 1] w1 (I, D, RR R) Q
  refine q_if_eq (tgt := 14) d61_4 rfl (fun h => absurd h (by decide)) (fun _ => ?_)
  refine q_iload_n d61_7 rfl ?_
  refine q_invS (av := [.int (nI k)]) (rest := []) (d' := 0) (mc' := 0) (ms' := 0) d61_8 (cv9_105 61 rfl) rfl rfl (by omega) (Nat.le_of_ble_eq_true rfl) (Nat.le_of_ble_eq_true rfl) (Nat.le_refl _) (Nat.le_refl _) ?_
  refine r31t (by first | omega | decide)  ?_
  show j_W 61 d 0 0 0 0 11 [some (.ref 0), some (.int (nI c)), some (.int (nI k)), none, none, none] [.int 1] w1 (I, D, RR R) Q
  refine q_if_ne (tgt := 17) d61_11 rfl (fun _ => ?_) (fun h => absurd h (by decide))
  refine q_aload_n d61_17 rfl ?_
  refine q_getR (x := 108) d61_18 (fs9_53 61 rfl) rfl (lt_w1 rfl) sh0 (rs0_1 R) (by decide) ?_
  refine q_getR (x := 109) d61_21 (fs9_76 61 rfl) rfl (lt_w1 rfl) sh108 (rs108_0 R) (by decide) ?_
  refine q_iload_n d61_24 rfl ?_
  refine q_iaload (a := c) d61_25 (lt_w1 rfl) sh109 rfl (by omega) ?_
  refine q_istore_n (L' := [some (.ref 0), some (.int (nI c)), some (.int (nI k)), some (.int (I 109 c)), none, none]) d61_26 (Nat.le_of_ble_eq_true rfl) rfl ?_
  exact r_sub (L' := [none, none, some (.int (nI k)), some (.int (I 109 c)), none, none]) ⟨rfl, rfl, trivial⟩ v1

set_option maxRecDepth 10000 in
set_option maxHeartbeats 4000000 in
theorem s61k0 {d : Nat} {I : Nat → Nat → Int32} {D : Nat → Nat → UInt64} {R : Nat → Nat → Option Nat} {Q : j_Po} {k : Nat}  (hR : WFR R) (hk : k < 6) (hd : 1 ≤ d)
    (v1 : (¬ 0 = k) → Q (some (.int (-13))) w1 (I, D, RR R))
    (v2 : (0 = k) → Q (some (.int 0)) w1 (I, D, RR R)) : j_W 61 d 0 0 0 0 27 [none, none, some (.int (nI k)), some (.int 0), none, none] [] w1 (I, D, RR R) Q := by
  refine q_iload_n d61_27 rfl ?_
  refine q_istore (L' := [none, none, some (.int (nI k)), some (.int 0), some (.int 0), none]) d61_28 (Nat.le_of_ble_eq_true rfl) rfl ?_
  refine q_iconst (v := 0) (by decide) d61_30 ?_
  refine q_istore (L' := [none, none, some (.int (nI k)), some (.int 0), some (.int 0), some (.int 0)]) d61_31 (Nat.le_of_ble_eq_true rfl) rfl ?_
  refine q_iload d61_33 rfl ?_
  refine q_bipush (v := 6) (by decide) d61_35 ?_
  refine q_icmp_ge (tgt := 70) d61_37 rfl (fun h => absurd h (by decide)) (fun _ => ?_)
  refine q_iload d61_40 rfl ?_
  refine q_invS (av := [.int 0]) (rest := []) (d' := 0) (mc' := 0) (ms' := 0) d61_42 (cv9_105 61 rfl) rfl rfl (by omega) (Nat.le_of_ble_eq_true rfl) (Nat.le_of_ble_eq_true rfl) (Nat.le_refl _) (Nat.le_refl _) ?_
  refine r31t (by first | omega | decide)  ?_
  show j_W 61 d 0 0 0 0 45 [none, none, some (.int (nI k)), some (.int 0), some (.int 0), some (.int 0)] [.int 1] w1 (I, D, RR R) Q
  refine q_if_eq (tgt := 70) d61_45 rfl (fun h => absurd h (by decide)) (fun _ => ?_)
  refine q_iload d61_48 rfl ?_
  refine q_iload_n d61_50 rfl ?_
  refine q_icmp_ne (tgt := 56) d61_51 rfl (fun h1t => ?_) (fun h1f => ?_)
  ·
    have h1tc : ¬ 0 = k := mt (nI_eqN (by omega) (by omega)).mpr h1t
    refine q_under d61_56 (j_i3 134 rfl) ?_
    refine q_iload d61_59 rfl ?_
    refine q_underload (a := 0) d61_61 rfl (by decide) ?_
    refine r_int (y := (-1)) (by decide) ?_
    refine q_istore (L' := [none, none, some (.int (nI k)), some (.int 0), some (.int (-1)), some (.int 0)]) d61_62 (Nat.le_of_ble_eq_true rfl) rfl ?_
    refine q_iinc (L' := [none, none, some (.int (nI k)), some (.int 0), some (.int (-1)), some (.int 1)]) (v := 1) d61_64 rfl (by decide) rfl ?_
    refine q_goto (tgt := 33) d61_67 rfl ?_
    refine q_iload d61_33 rfl ?_
    refine q_bipush (v := 6) (by decide) d61_35 ?_
    refine q_icmp_ge (tgt := 70) d61_37 rfl (fun h => absurd h (by decide)) (fun _ => ?_)
    refine q_iload d61_40 rfl ?_
    refine q_invS (av := [.int (-1)]) (rest := []) (d' := 0) (mc' := 0) (ms' := 0) d61_42 (cv9_105 61 rfl) rfl rfl (by omega) (Nat.le_of_ble_eq_true rfl) (Nat.le_of_ble_eq_true rfl) (Nat.le_refl _) (Nat.le_refl _) ?_
    refine r31m  ?_
    show j_W 61 d 0 0 0 0 45 [none, none, some (.int (nI k)), some (.int 0), some (.int (-1)), some (.int 1)] [.int 0] w1 (I, D, RR R) Q
    refine q_if_eq (tgt := 70) d61_45 rfl (fun _ => ?_) (fun h => absurd h (by decide))
    refine q_bipush (v := (-13)) (by decide) d61_70 ?_
    exact q_iret d61_72 rfl (Nat.le_refl _) (Nat.le_refl _) (v1 h1tc)
  ·
    have h1fc : 0 = k := (nI_eqN (by omega) (by omega)).mp h1f
    refine q_iload_n d61_54 rfl ?_
    exact q_iret d61_55 rfl (Nat.le_refl _) (Nat.le_refl _) (v2 h1fc)

set_option maxRecDepth 10000 in
set_option maxHeartbeats 4000000 in
theorem s61k1 {d : Nat} {I : Nat → Nat → Int32} {D : Nat → Nat → UInt64} {R : Nat → Nat → Option Nat} {Q : j_Po} {k : Nat}  (hR : WFR R) (hk : k < 6) (hd : 1 ≤ d)
    (v1 : (¬ 1 = k) → (¬ 0 = k) → Q (some (.int (-13))) w1 (I, D, RR R))
    (v2 : (¬ 1 = k) → (0 = k) → Q (some (.int 1)) w1 (I, D, RR R))
    (v3 : (1 = k) → Q (some (.int 1)) w1 (I, D, RR R)) : j_W 61 d 0 0 0 0 27 [none, none, some (.int (nI k)), some (.int 1), none, none] [] w1 (I, D, RR R) Q := by
  refine q_iload_n d61_27 rfl ?_
  refine q_istore (L' := [none, none, some (.int (nI k)), some (.int 1), some (.int 1), none]) d61_28 (Nat.le_of_ble_eq_true rfl) rfl ?_
  refine q_iconst (v := 0) (by decide) d61_30 ?_
  refine q_istore (L' := [none, none, some (.int (nI k)), some (.int 1), some (.int 1), some (.int 0)]) d61_31 (Nat.le_of_ble_eq_true rfl) rfl ?_
  refine q_iload d61_33 rfl ?_
  refine q_bipush (v := 6) (by decide) d61_35 ?_
  refine q_icmp_ge (tgt := 70) d61_37 rfl (fun h => absurd h (by decide)) (fun _ => ?_)
  refine q_iload d61_40 rfl ?_
  refine q_invS (av := [.int 1]) (rest := []) (d' := 0) (mc' := 0) (ms' := 0) d61_42 (cv9_105 61 rfl) rfl rfl (by omega) (Nat.le_of_ble_eq_true rfl) (Nat.le_of_ble_eq_true rfl) (Nat.le_refl _) (Nat.le_refl _) ?_
  refine r31t (by first | omega | decide)  ?_
  show j_W 61 d 0 0 0 0 45 [none, none, some (.int (nI k)), some (.int 1), some (.int 1), some (.int 0)] [.int 1] w1 (I, D, RR R) Q
  refine q_if_eq (tgt := 70) d61_45 rfl (fun h => absurd h (by decide)) (fun _ => ?_)
  refine q_iload d61_48 rfl ?_
  refine q_iload_n d61_50 rfl ?_
  refine q_icmp_ne (tgt := 56) d61_51 rfl (fun h1t => ?_) (fun h1f => ?_)
  ·
    have h1tc : ¬ 1 = k := mt (nI_eqN (by omega) (by omega)).mpr h1t
    refine q_under d61_56 (j_i3 134 rfl) ?_
    refine q_iload d61_59 rfl ?_
    refine q_underload (a := 1) d61_61 rfl (by decide) ?_
    refine r_int (y := 0) (by decide) ?_
    refine q_istore (L' := [none, none, some (.int (nI k)), some (.int 1), some (.int 0), some (.int 0)]) d61_62 (Nat.le_of_ble_eq_true rfl) rfl ?_
    refine q_iinc (L' := [none, none, some (.int (nI k)), some (.int 1), some (.int 0), some (.int 1)]) (v := 1) d61_64 rfl (by decide) rfl ?_
    refine q_goto (tgt := 33) d61_67 rfl ?_
    refine q_iload d61_33 rfl ?_
    refine q_bipush (v := 6) (by decide) d61_35 ?_
    refine q_icmp_ge (tgt := 70) d61_37 rfl (fun h => absurd h (by decide)) (fun _ => ?_)
    refine q_iload d61_40 rfl ?_
    refine q_invS (av := [.int 0]) (rest := []) (d' := 0) (mc' := 0) (ms' := 0) d61_42 (cv9_105 61 rfl) rfl rfl (by omega) (Nat.le_of_ble_eq_true rfl) (Nat.le_of_ble_eq_true rfl) (Nat.le_refl _) (Nat.le_refl _) ?_
    refine r31t (by first | omega | decide)  ?_
    show j_W 61 d 0 0 0 0 45 [none, none, some (.int (nI k)), some (.int 1), some (.int 0), some (.int 1)] [.int 1] w1 (I, D, RR R) Q
    refine q_if_eq (tgt := 70) d61_45 rfl (fun h => absurd h (by decide)) (fun _ => ?_)
    refine q_iload d61_48 rfl ?_
    refine q_iload_n d61_50 rfl ?_
    refine q_icmp_ne (tgt := 56) d61_51 rfl (fun h2t => ?_) (fun h2f => ?_)
    ·
      have h2tc : ¬ 0 = k := mt (nI_eqN (by omega) (by omega)).mpr h2t
      refine q_under d61_56 (j_i3 134 rfl) ?_
      refine q_iload d61_59 rfl ?_
      refine q_underload (a := 0) d61_61 rfl (by decide) ?_
      refine r_int (y := (-1)) (by decide) ?_
      refine q_istore (L' := [none, none, some (.int (nI k)), some (.int 1), some (.int (-1)), some (.int 1)]) d61_62 (Nat.le_of_ble_eq_true rfl) rfl ?_
      refine q_iinc (L' := [none, none, some (.int (nI k)), some (.int 1), some (.int (-1)), some (.int 2)]) (v := 2) d61_64 rfl (by decide) rfl ?_
      refine q_goto (tgt := 33) d61_67 rfl ?_
      refine q_iload d61_33 rfl ?_
      refine q_bipush (v := 6) (by decide) d61_35 ?_
      refine q_icmp_ge (tgt := 70) d61_37 rfl (fun h => absurd h (by decide)) (fun _ => ?_)
      refine q_iload d61_40 rfl ?_
      refine q_invS (av := [.int (-1)]) (rest := []) (d' := 0) (mc' := 0) (ms' := 0) d61_42 (cv9_105 61 rfl) rfl rfl (by omega) (Nat.le_of_ble_eq_true rfl) (Nat.le_of_ble_eq_true rfl) (Nat.le_refl _) (Nat.le_refl _) ?_
      refine r31m  ?_
      show j_W 61 d 0 0 0 0 45 [none, none, some (.int (nI k)), some (.int 1), some (.int (-1)), some (.int 2)] [.int 0] w1 (I, D, RR R) Q
      refine q_if_eq (tgt := 70) d61_45 rfl (fun _ => ?_) (fun h => absurd h (by decide))
      refine q_bipush (v := (-13)) (by decide) d61_70 ?_
      exact q_iret d61_72 rfl (Nat.le_refl _) (Nat.le_refl _) (v1 h1tc h2tc)
    ·
      have h2fc : 0 = k := (nI_eqN (by omega) (by omega)).mp h2f
      refine q_iload_n d61_54 rfl ?_
      exact q_iret d61_55 rfl (Nat.le_refl _) (Nat.le_refl _) (v2 h1tc h2fc)
  ·
    have h1fc : 1 = k := (nI_eqN (by omega) (by omega)).mp h1f
    refine q_iload_n d61_54 rfl ?_
    exact q_iret d61_55 rfl (Nat.le_refl _) (Nat.le_refl _) (v3 h1fc)

set_option maxRecDepth 10000 in
set_option maxHeartbeats 4000000 in
theorem s61k2 {d : Nat} {I : Nat → Nat → Int32} {D : Nat → Nat → UInt64} {R : Nat → Nat → Option Nat} {Q : j_Po} {k : Nat}  (hR : WFR R) (hk : k < 6) (hd : 1 ≤ d)
    (v1 : (¬ 2 = k) → (¬ 0 = k) → Q (some (.int (-13))) w1 (I, D, RR R))
    (v2 : (¬ 2 = k) → (0 = k) → Q (some (.int 2)) w1 (I, D, RR R))
    (v3 : (2 = k) → Q (some (.int 2)) w1 (I, D, RR R)) : j_W 61 d 0 0 0 0 27 [none, none, some (.int (nI k)), some (.int 2), none, none] [] w1 (I, D, RR R) Q := by
  refine q_iload_n d61_27 rfl ?_
  refine q_istore (L' := [none, none, some (.int (nI k)), some (.int 2), some (.int 2), none]) d61_28 (Nat.le_of_ble_eq_true rfl) rfl ?_
  refine q_iconst (v := 0) (by decide) d61_30 ?_
  refine q_istore (L' := [none, none, some (.int (nI k)), some (.int 2), some (.int 2), some (.int 0)]) d61_31 (Nat.le_of_ble_eq_true rfl) rfl ?_
  refine q_iload d61_33 rfl ?_
  refine q_bipush (v := 6) (by decide) d61_35 ?_
  refine q_icmp_ge (tgt := 70) d61_37 rfl (fun h => absurd h (by decide)) (fun _ => ?_)
  refine q_iload d61_40 rfl ?_
  refine q_invS (av := [.int 2]) (rest := []) (d' := 0) (mc' := 0) (ms' := 0) d61_42 (cv9_105 61 rfl) rfl rfl (by omega) (Nat.le_of_ble_eq_true rfl) (Nat.le_of_ble_eq_true rfl) (Nat.le_refl _) (Nat.le_refl _) ?_
  refine r31t (by first | omega | decide)  ?_
  show j_W 61 d 0 0 0 0 45 [none, none, some (.int (nI k)), some (.int 2), some (.int 2), some (.int 0)] [.int 1] w1 (I, D, RR R) Q
  refine q_if_eq (tgt := 70) d61_45 rfl (fun h => absurd h (by decide)) (fun _ => ?_)
  refine q_iload d61_48 rfl ?_
  refine q_iload_n d61_50 rfl ?_
  refine q_icmp_ne (tgt := 56) d61_51 rfl (fun h1t => ?_) (fun h1f => ?_)
  ·
    have h1tc : ¬ 2 = k := mt (nI_eqN (by omega) (by omega)).mpr h1t
    refine q_under d61_56 (j_i3 134 rfl) ?_
    refine q_iload d61_59 rfl ?_
    refine q_underload (a := 2) d61_61 rfl (by decide) ?_
    refine r_int (y := 0) (by decide) ?_
    refine q_istore (L' := [none, none, some (.int (nI k)), some (.int 2), some (.int 0), some (.int 0)]) d61_62 (Nat.le_of_ble_eq_true rfl) rfl ?_
    refine q_iinc (L' := [none, none, some (.int (nI k)), some (.int 2), some (.int 0), some (.int 1)]) (v := 1) d61_64 rfl (by decide) rfl ?_
    refine q_goto (tgt := 33) d61_67 rfl ?_
    refine q_iload d61_33 rfl ?_
    refine q_bipush (v := 6) (by decide) d61_35 ?_
    refine q_icmp_ge (tgt := 70) d61_37 rfl (fun h => absurd h (by decide)) (fun _ => ?_)
    refine q_iload d61_40 rfl ?_
    refine q_invS (av := [.int 0]) (rest := []) (d' := 0) (mc' := 0) (ms' := 0) d61_42 (cv9_105 61 rfl) rfl rfl (by omega) (Nat.le_of_ble_eq_true rfl) (Nat.le_of_ble_eq_true rfl) (Nat.le_refl _) (Nat.le_refl _) ?_
    refine r31t (by first | omega | decide)  ?_
    show j_W 61 d 0 0 0 0 45 [none, none, some (.int (nI k)), some (.int 2), some (.int 0), some (.int 1)] [.int 1] w1 (I, D, RR R) Q
    refine q_if_eq (tgt := 70) d61_45 rfl (fun h => absurd h (by decide)) (fun _ => ?_)
    refine q_iload d61_48 rfl ?_
    refine q_iload_n d61_50 rfl ?_
    refine q_icmp_ne (tgt := 56) d61_51 rfl (fun h2t => ?_) (fun h2f => ?_)
    ·
      have h2tc : ¬ 0 = k := mt (nI_eqN (by omega) (by omega)).mpr h2t
      refine q_under d61_56 (j_i3 134 rfl) ?_
      refine q_iload d61_59 rfl ?_
      refine q_underload (a := 0) d61_61 rfl (by decide) ?_
      refine r_int (y := (-1)) (by decide) ?_
      refine q_istore (L' := [none, none, some (.int (nI k)), some (.int 2), some (.int (-1)), some (.int 1)]) d61_62 (Nat.le_of_ble_eq_true rfl) rfl ?_
      refine q_iinc (L' := [none, none, some (.int (nI k)), some (.int 2), some (.int (-1)), some (.int 2)]) (v := 2) d61_64 rfl (by decide) rfl ?_
      refine q_goto (tgt := 33) d61_67 rfl ?_
      refine q_iload d61_33 rfl ?_
      refine q_bipush (v := 6) (by decide) d61_35 ?_
      refine q_icmp_ge (tgt := 70) d61_37 rfl (fun h => absurd h (by decide)) (fun _ => ?_)
      refine q_iload d61_40 rfl ?_
      refine q_invS (av := [.int (-1)]) (rest := []) (d' := 0) (mc' := 0) (ms' := 0) d61_42 (cv9_105 61 rfl) rfl rfl (by omega) (Nat.le_of_ble_eq_true rfl) (Nat.le_of_ble_eq_true rfl) (Nat.le_refl _) (Nat.le_refl _) ?_
      refine r31m  ?_
      show j_W 61 d 0 0 0 0 45 [none, none, some (.int (nI k)), some (.int 2), some (.int (-1)), some (.int 2)] [.int 0] w1 (I, D, RR R) Q
      refine q_if_eq (tgt := 70) d61_45 rfl (fun _ => ?_) (fun h => absurd h (by decide))
      refine q_bipush (v := (-13)) (by decide) d61_70 ?_
      exact q_iret d61_72 rfl (Nat.le_refl _) (Nat.le_refl _) (v1 h1tc h2tc)
    ·
      have h2fc : 0 = k := (nI_eqN (by omega) (by omega)).mp h2f
      refine q_iload_n d61_54 rfl ?_
      exact q_iret d61_55 rfl (Nat.le_refl _) (Nat.le_refl _) (v2 h1tc h2fc)
  ·
    have h1fc : 2 = k := (nI_eqN (by omega) (by omega)).mp h1f
    refine q_iload_n d61_54 rfl ?_
    exact q_iret d61_55 rfl (Nat.le_refl _) (Nat.le_refl _) (v3 h1fc)

set_option maxRecDepth 10000 in
set_option maxHeartbeats 4000000 in
theorem s61k3 {d : Nat} {I : Nat → Nat → Int32} {D : Nat → Nat → UInt64} {R : Nat → Nat → Option Nat} {Q : j_Po} {k : Nat}  (hR : WFR R) (hk : k < 6) (hd : 1 ≤ d)
    (v1 : (¬ 3 = k) → (¬ 1 = k) → (¬ 0 = k) → Q (some (.int (-13))) w1 (I, D, RR R))
    (v2 : (¬ 3 = k) → (¬ 1 = k) → (0 = k) → Q (some (.int 3)) w1 (I, D, RR R))
    (v3 : (¬ 3 = k) → (1 = k) → Q (some (.int 3)) w1 (I, D, RR R))
    (v4 : (3 = k) → Q (some (.int 3)) w1 (I, D, RR R)) : j_W 61 d 0 0 0 0 27 [none, none, some (.int (nI k)), some (.int 3), none, none] [] w1 (I, D, RR R) Q := by
  refine q_iload_n d61_27 rfl ?_
  refine q_istore (L' := [none, none, some (.int (nI k)), some (.int 3), some (.int 3), none]) d61_28 (Nat.le_of_ble_eq_true rfl) rfl ?_
  refine q_iconst (v := 0) (by decide) d61_30 ?_
  refine q_istore (L' := [none, none, some (.int (nI k)), some (.int 3), some (.int 3), some (.int 0)]) d61_31 (Nat.le_of_ble_eq_true rfl) rfl ?_
  refine q_iload d61_33 rfl ?_
  refine q_bipush (v := 6) (by decide) d61_35 ?_
  refine q_icmp_ge (tgt := 70) d61_37 rfl (fun h => absurd h (by decide)) (fun _ => ?_)
  refine q_iload d61_40 rfl ?_
  refine q_invS (av := [.int 3]) (rest := []) (d' := 0) (mc' := 0) (ms' := 0) d61_42 (cv9_105 61 rfl) rfl rfl (by omega) (Nat.le_of_ble_eq_true rfl) (Nat.le_of_ble_eq_true rfl) (Nat.le_refl _) (Nat.le_refl _) ?_
  refine r31t (by first | omega | decide)  ?_
  show j_W 61 d 0 0 0 0 45 [none, none, some (.int (nI k)), some (.int 3), some (.int 3), some (.int 0)] [.int 1] w1 (I, D, RR R) Q
  refine q_if_eq (tgt := 70) d61_45 rfl (fun h => absurd h (by decide)) (fun _ => ?_)
  refine q_iload d61_48 rfl ?_
  refine q_iload_n d61_50 rfl ?_
  refine q_icmp_ne (tgt := 56) d61_51 rfl (fun h1t => ?_) (fun h1f => ?_)
  ·
    have h1tc : ¬ 3 = k := mt (nI_eqN (by omega) (by omega)).mpr h1t
    refine q_under d61_56 (j_i3 134 rfl) ?_
    refine q_iload d61_59 rfl ?_
    refine q_underload (a := 3) d61_61 rfl (by decide) ?_
    refine r_int (y := 1) (by decide) ?_
    refine q_istore (L' := [none, none, some (.int (nI k)), some (.int 3), some (.int 1), some (.int 0)]) d61_62 (Nat.le_of_ble_eq_true rfl) rfl ?_
    refine q_iinc (L' := [none, none, some (.int (nI k)), some (.int 3), some (.int 1), some (.int 1)]) (v := 1) d61_64 rfl (by decide) rfl ?_
    refine q_goto (tgt := 33) d61_67 rfl ?_
    refine q_iload d61_33 rfl ?_
    refine q_bipush (v := 6) (by decide) d61_35 ?_
    refine q_icmp_ge (tgt := 70) d61_37 rfl (fun h => absurd h (by decide)) (fun _ => ?_)
    refine q_iload d61_40 rfl ?_
    refine q_invS (av := [.int 1]) (rest := []) (d' := 0) (mc' := 0) (ms' := 0) d61_42 (cv9_105 61 rfl) rfl rfl (by omega) (Nat.le_of_ble_eq_true rfl) (Nat.le_of_ble_eq_true rfl) (Nat.le_refl _) (Nat.le_refl _) ?_
    refine r31t (by first | omega | decide)  ?_
    show j_W 61 d 0 0 0 0 45 [none, none, some (.int (nI k)), some (.int 3), some (.int 1), some (.int 1)] [.int 1] w1 (I, D, RR R) Q
    refine q_if_eq (tgt := 70) d61_45 rfl (fun h => absurd h (by decide)) (fun _ => ?_)
    refine q_iload d61_48 rfl ?_
    refine q_iload_n d61_50 rfl ?_
    refine q_icmp_ne (tgt := 56) d61_51 rfl (fun h2t => ?_) (fun h2f => ?_)
    ·
      have h2tc : ¬ 1 = k := mt (nI_eqN (by omega) (by omega)).mpr h2t
      refine q_under d61_56 (j_i3 134 rfl) ?_
      refine q_iload d61_59 rfl ?_
      refine q_underload (a := 1) d61_61 rfl (by decide) ?_
      refine r_int (y := 0) (by decide) ?_
      refine q_istore (L' := [none, none, some (.int (nI k)), some (.int 3), some (.int 0), some (.int 1)]) d61_62 (Nat.le_of_ble_eq_true rfl) rfl ?_
      refine q_iinc (L' := [none, none, some (.int (nI k)), some (.int 3), some (.int 0), some (.int 2)]) (v := 2) d61_64 rfl (by decide) rfl ?_
      refine q_goto (tgt := 33) d61_67 rfl ?_
      refine q_iload d61_33 rfl ?_
      refine q_bipush (v := 6) (by decide) d61_35 ?_
      refine q_icmp_ge (tgt := 70) d61_37 rfl (fun h => absurd h (by decide)) (fun _ => ?_)
      refine q_iload d61_40 rfl ?_
      refine q_invS (av := [.int 0]) (rest := []) (d' := 0) (mc' := 0) (ms' := 0) d61_42 (cv9_105 61 rfl) rfl rfl (by omega) (Nat.le_of_ble_eq_true rfl) (Nat.le_of_ble_eq_true rfl) (Nat.le_refl _) (Nat.le_refl _) ?_
      refine r31t (by first | omega | decide)  ?_
      show j_W 61 d 0 0 0 0 45 [none, none, some (.int (nI k)), some (.int 3), some (.int 0), some (.int 2)] [.int 1] w1 (I, D, RR R) Q
      refine q_if_eq (tgt := 70) d61_45 rfl (fun h => absurd h (by decide)) (fun _ => ?_)
      refine q_iload d61_48 rfl ?_
      refine q_iload_n d61_50 rfl ?_
      refine q_icmp_ne (tgt := 56) d61_51 rfl (fun h3t => ?_) (fun h3f => ?_)
      ·
        have h3tc : ¬ 0 = k := mt (nI_eqN (by omega) (by omega)).mpr h3t
        refine q_under d61_56 (j_i3 134 rfl) ?_
        refine q_iload d61_59 rfl ?_
        refine q_underload (a := 0) d61_61 rfl (by decide) ?_
        refine r_int (y := (-1)) (by decide) ?_
        refine q_istore (L' := [none, none, some (.int (nI k)), some (.int 3), some (.int (-1)), some (.int 2)]) d61_62 (Nat.le_of_ble_eq_true rfl) rfl ?_
        refine q_iinc (L' := [none, none, some (.int (nI k)), some (.int 3), some (.int (-1)), some (.int 3)]) (v := 3) d61_64 rfl (by decide) rfl ?_
        refine q_goto (tgt := 33) d61_67 rfl ?_
        refine q_iload d61_33 rfl ?_
        refine q_bipush (v := 6) (by decide) d61_35 ?_
        refine q_icmp_ge (tgt := 70) d61_37 rfl (fun h => absurd h (by decide)) (fun _ => ?_)
        refine q_iload d61_40 rfl ?_
        refine q_invS (av := [.int (-1)]) (rest := []) (d' := 0) (mc' := 0) (ms' := 0) d61_42 (cv9_105 61 rfl) rfl rfl (by omega) (Nat.le_of_ble_eq_true rfl) (Nat.le_of_ble_eq_true rfl) (Nat.le_refl _) (Nat.le_refl _) ?_
        refine r31m  ?_
        show j_W 61 d 0 0 0 0 45 [none, none, some (.int (nI k)), some (.int 3), some (.int (-1)), some (.int 3)] [.int 0] w1 (I, D, RR R) Q
        refine q_if_eq (tgt := 70) d61_45 rfl (fun _ => ?_) (fun h => absurd h (by decide))
        refine q_bipush (v := (-13)) (by decide) d61_70 ?_
        exact q_iret d61_72 rfl (Nat.le_refl _) (Nat.le_refl _) (v1 h1tc h2tc h3tc)
      ·
        have h3fc : 0 = k := (nI_eqN (by omega) (by omega)).mp h3f
        refine q_iload_n d61_54 rfl ?_
        exact q_iret d61_55 rfl (Nat.le_refl _) (Nat.le_refl _) (v2 h1tc h2tc h3fc)
    ·
      have h2fc : 1 = k := (nI_eqN (by omega) (by omega)).mp h2f
      refine q_iload_n d61_54 rfl ?_
      exact q_iret d61_55 rfl (Nat.le_refl _) (Nat.le_refl _) (v3 h1tc h2fc)
  ·
    have h1fc : 3 = k := (nI_eqN (by omega) (by omega)).mp h1f
    refine q_iload_n d61_54 rfl ?_
    exact q_iret d61_55 rfl (Nat.le_refl _) (Nat.le_refl _) (v4 h1fc)

set_option maxRecDepth 10000 in
set_option maxHeartbeats 4000000 in
theorem s61k4 {d : Nat} {I : Nat → Nat → Int32} {D : Nat → Nat → UInt64} {R : Nat → Nat → Option Nat} {Q : j_Po} {k : Nat}  (hR : WFR R) (hk : k < 6) (hd : 1 ≤ d)
    (v1 : (¬ 4 = k) → (¬ 2 = k) → (¬ 0 = k) → Q (some (.int (-13))) w1 (I, D, RR R))
    (v2 : (¬ 4 = k) → (¬ 2 = k) → (0 = k) → Q (some (.int 4)) w1 (I, D, RR R))
    (v3 : (¬ 4 = k) → (2 = k) → Q (some (.int 4)) w1 (I, D, RR R))
    (v4 : (4 = k) → Q (some (.int 4)) w1 (I, D, RR R)) : j_W 61 d 0 0 0 0 27 [none, none, some (.int (nI k)), some (.int 4), none, none] [] w1 (I, D, RR R) Q := by
  refine q_iload_n d61_27 rfl ?_
  refine q_istore (L' := [none, none, some (.int (nI k)), some (.int 4), some (.int 4), none]) d61_28 (Nat.le_of_ble_eq_true rfl) rfl ?_
  refine q_iconst (v := 0) (by decide) d61_30 ?_
  refine q_istore (L' := [none, none, some (.int (nI k)), some (.int 4), some (.int 4), some (.int 0)]) d61_31 (Nat.le_of_ble_eq_true rfl) rfl ?_
  refine q_iload d61_33 rfl ?_
  refine q_bipush (v := 6) (by decide) d61_35 ?_
  refine q_icmp_ge (tgt := 70) d61_37 rfl (fun h => absurd h (by decide)) (fun _ => ?_)
  refine q_iload d61_40 rfl ?_
  refine q_invS (av := [.int 4]) (rest := []) (d' := 0) (mc' := 0) (ms' := 0) d61_42 (cv9_105 61 rfl) rfl rfl (by omega) (Nat.le_of_ble_eq_true rfl) (Nat.le_of_ble_eq_true rfl) (Nat.le_refl _) (Nat.le_refl _) ?_
  refine r31t (by first | omega | decide)  ?_
  show j_W 61 d 0 0 0 0 45 [none, none, some (.int (nI k)), some (.int 4), some (.int 4), some (.int 0)] [.int 1] w1 (I, D, RR R) Q
  refine q_if_eq (tgt := 70) d61_45 rfl (fun h => absurd h (by decide)) (fun _ => ?_)
  refine q_iload d61_48 rfl ?_
  refine q_iload_n d61_50 rfl ?_
  refine q_icmp_ne (tgt := 56) d61_51 rfl (fun h1t => ?_) (fun h1f => ?_)
  ·
    have h1tc : ¬ 4 = k := mt (nI_eqN (by omega) (by omega)).mpr h1t
    refine q_under d61_56 (j_i3 134 rfl) ?_
    refine q_iload d61_59 rfl ?_
    refine q_underload (a := 4) d61_61 rfl (by decide) ?_
    refine r_int (y := 2) (by decide) ?_
    refine q_istore (L' := [none, none, some (.int (nI k)), some (.int 4), some (.int 2), some (.int 0)]) d61_62 (Nat.le_of_ble_eq_true rfl) rfl ?_
    refine q_iinc (L' := [none, none, some (.int (nI k)), some (.int 4), some (.int 2), some (.int 1)]) (v := 1) d61_64 rfl (by decide) rfl ?_
    refine q_goto (tgt := 33) d61_67 rfl ?_
    refine q_iload d61_33 rfl ?_
    refine q_bipush (v := 6) (by decide) d61_35 ?_
    refine q_icmp_ge (tgt := 70) d61_37 rfl (fun h => absurd h (by decide)) (fun _ => ?_)
    refine q_iload d61_40 rfl ?_
    refine q_invS (av := [.int 2]) (rest := []) (d' := 0) (mc' := 0) (ms' := 0) d61_42 (cv9_105 61 rfl) rfl rfl (by omega) (Nat.le_of_ble_eq_true rfl) (Nat.le_of_ble_eq_true rfl) (Nat.le_refl _) (Nat.le_refl _) ?_
    refine r31t (by first | omega | decide)  ?_
    show j_W 61 d 0 0 0 0 45 [none, none, some (.int (nI k)), some (.int 4), some (.int 2), some (.int 1)] [.int 1] w1 (I, D, RR R) Q
    refine q_if_eq (tgt := 70) d61_45 rfl (fun h => absurd h (by decide)) (fun _ => ?_)
    refine q_iload d61_48 rfl ?_
    refine q_iload_n d61_50 rfl ?_
    refine q_icmp_ne (tgt := 56) d61_51 rfl (fun h2t => ?_) (fun h2f => ?_)
    ·
      have h2tc : ¬ 2 = k := mt (nI_eqN (by omega) (by omega)).mpr h2t
      refine q_under d61_56 (j_i3 134 rfl) ?_
      refine q_iload d61_59 rfl ?_
      refine q_underload (a := 2) d61_61 rfl (by decide) ?_
      refine r_int (y := 0) (by decide) ?_
      refine q_istore (L' := [none, none, some (.int (nI k)), some (.int 4), some (.int 0), some (.int 1)]) d61_62 (Nat.le_of_ble_eq_true rfl) rfl ?_
      refine q_iinc (L' := [none, none, some (.int (nI k)), some (.int 4), some (.int 0), some (.int 2)]) (v := 2) d61_64 rfl (by decide) rfl ?_
      refine q_goto (tgt := 33) d61_67 rfl ?_
      refine q_iload d61_33 rfl ?_
      refine q_bipush (v := 6) (by decide) d61_35 ?_
      refine q_icmp_ge (tgt := 70) d61_37 rfl (fun h => absurd h (by decide)) (fun _ => ?_)
      refine q_iload d61_40 rfl ?_
      refine q_invS (av := [.int 0]) (rest := []) (d' := 0) (mc' := 0) (ms' := 0) d61_42 (cv9_105 61 rfl) rfl rfl (by omega) (Nat.le_of_ble_eq_true rfl) (Nat.le_of_ble_eq_true rfl) (Nat.le_refl _) (Nat.le_refl _) ?_
      refine r31t (by first | omega | decide)  ?_
      show j_W 61 d 0 0 0 0 45 [none, none, some (.int (nI k)), some (.int 4), some (.int 0), some (.int 2)] [.int 1] w1 (I, D, RR R) Q
      refine q_if_eq (tgt := 70) d61_45 rfl (fun h => absurd h (by decide)) (fun _ => ?_)
      refine q_iload d61_48 rfl ?_
      refine q_iload_n d61_50 rfl ?_
      refine q_icmp_ne (tgt := 56) d61_51 rfl (fun h3t => ?_) (fun h3f => ?_)
      ·
        have h3tc : ¬ 0 = k := mt (nI_eqN (by omega) (by omega)).mpr h3t
        refine q_under d61_56 (j_i3 134 rfl) ?_
        refine q_iload d61_59 rfl ?_
        refine q_underload (a := 0) d61_61 rfl (by decide) ?_
        refine r_int (y := (-1)) (by decide) ?_
        refine q_istore (L' := [none, none, some (.int (nI k)), some (.int 4), some (.int (-1)), some (.int 2)]) d61_62 (Nat.le_of_ble_eq_true rfl) rfl ?_
        refine q_iinc (L' := [none, none, some (.int (nI k)), some (.int 4), some (.int (-1)), some (.int 3)]) (v := 3) d61_64 rfl (by decide) rfl ?_
        refine q_goto (tgt := 33) d61_67 rfl ?_
        refine q_iload d61_33 rfl ?_
        refine q_bipush (v := 6) (by decide) d61_35 ?_
        refine q_icmp_ge (tgt := 70) d61_37 rfl (fun h => absurd h (by decide)) (fun _ => ?_)
        refine q_iload d61_40 rfl ?_
        refine q_invS (av := [.int (-1)]) (rest := []) (d' := 0) (mc' := 0) (ms' := 0) d61_42 (cv9_105 61 rfl) rfl rfl (by omega) (Nat.le_of_ble_eq_true rfl) (Nat.le_of_ble_eq_true rfl) (Nat.le_refl _) (Nat.le_refl _) ?_
        refine r31m  ?_
        show j_W 61 d 0 0 0 0 45 [none, none, some (.int (nI k)), some (.int 4), some (.int (-1)), some (.int 3)] [.int 0] w1 (I, D, RR R) Q
        refine q_if_eq (tgt := 70) d61_45 rfl (fun _ => ?_) (fun h => absurd h (by decide))
        refine q_bipush (v := (-13)) (by decide) d61_70 ?_
        exact q_iret d61_72 rfl (Nat.le_refl _) (Nat.le_refl _) (v1 h1tc h2tc h3tc)
      ·
        have h3fc : 0 = k := (nI_eqN (by omega) (by omega)).mp h3f
        refine q_iload_n d61_54 rfl ?_
        exact q_iret d61_55 rfl (Nat.le_refl _) (Nat.le_refl _) (v2 h1tc h2tc h3fc)
    ·
      have h2fc : 2 = k := (nI_eqN (by omega) (by omega)).mp h2f
      refine q_iload_n d61_54 rfl ?_
      exact q_iret d61_55 rfl (Nat.le_refl _) (Nat.le_refl _) (v3 h1tc h2fc)
  ·
    have h1fc : 4 = k := (nI_eqN (by omega) (by omega)).mp h1f
    refine q_iload_n d61_54 rfl ?_
    exact q_iret d61_55 rfl (Nat.le_refl _) (Nat.le_refl _) (v4 h1fc)

set_option maxRecDepth 10000 in
set_option maxHeartbeats 4000000 in
theorem s61k5 {d : Nat} {I : Nat → Nat → Int32} {D : Nat → Nat → UInt64} {R : Nat → Nat → Option Nat} {Q : j_Po} {k : Nat}  (hR : WFR R) (hk : k < 6) (hd : 1 ≤ d)
    (v1 : (¬ 5 = k) → (¬ 0 = k) → Q (some (.int (-13))) w1 (I, D, RR R))
    (v2 : (¬ 5 = k) → (0 = k) → Q (some (.int 5)) w1 (I, D, RR R))
    (v3 : (5 = k) → Q (some (.int 5)) w1 (I, D, RR R)) : j_W 61 d 0 0 0 0 27 [none, none, some (.int (nI k)), some (.int 5), none, none] [] w1 (I, D, RR R) Q := by
  refine q_iload_n d61_27 rfl ?_
  refine q_istore (L' := [none, none, some (.int (nI k)), some (.int 5), some (.int 5), none]) d61_28 (Nat.le_of_ble_eq_true rfl) rfl ?_
  refine q_iconst (v := 0) (by decide) d61_30 ?_
  refine q_istore (L' := [none, none, some (.int (nI k)), some (.int 5), some (.int 5), some (.int 0)]) d61_31 (Nat.le_of_ble_eq_true rfl) rfl ?_
  refine q_iload d61_33 rfl ?_
  refine q_bipush (v := 6) (by decide) d61_35 ?_
  refine q_icmp_ge (tgt := 70) d61_37 rfl (fun h => absurd h (by decide)) (fun _ => ?_)
  refine q_iload d61_40 rfl ?_
  refine q_invS (av := [.int 5]) (rest := []) (d' := 0) (mc' := 0) (ms' := 0) d61_42 (cv9_105 61 rfl) rfl rfl (by omega) (Nat.le_of_ble_eq_true rfl) (Nat.le_of_ble_eq_true rfl) (Nat.le_refl _) (Nat.le_refl _) ?_
  refine r31t (by first | omega | decide)  ?_
  show j_W 61 d 0 0 0 0 45 [none, none, some (.int (nI k)), some (.int 5), some (.int 5), some (.int 0)] [.int 1] w1 (I, D, RR R) Q
  refine q_if_eq (tgt := 70) d61_45 rfl (fun h => absurd h (by decide)) (fun _ => ?_)
  refine q_iload d61_48 rfl ?_
  refine q_iload_n d61_50 rfl ?_
  refine q_icmp_ne (tgt := 56) d61_51 rfl (fun h1t => ?_) (fun h1f => ?_)
  ·
    have h1tc : ¬ 5 = k := mt (nI_eqN (by omega) (by omega)).mpr h1t
    refine q_under d61_56 (j_i3 134 rfl) ?_
    refine q_iload d61_59 rfl ?_
    refine q_underload (a := 5) d61_61 rfl (by decide) ?_
    refine r_int (y := 0) (by decide) ?_
    refine q_istore (L' := [none, none, some (.int (nI k)), some (.int 5), some (.int 0), some (.int 0)]) d61_62 (Nat.le_of_ble_eq_true rfl) rfl ?_
    refine q_iinc (L' := [none, none, some (.int (nI k)), some (.int 5), some (.int 0), some (.int 1)]) (v := 1) d61_64 rfl (by decide) rfl ?_
    refine q_goto (tgt := 33) d61_67 rfl ?_
    refine q_iload d61_33 rfl ?_
    refine q_bipush (v := 6) (by decide) d61_35 ?_
    refine q_icmp_ge (tgt := 70) d61_37 rfl (fun h => absurd h (by decide)) (fun _ => ?_)
    refine q_iload d61_40 rfl ?_
    refine q_invS (av := [.int 0]) (rest := []) (d' := 0) (mc' := 0) (ms' := 0) d61_42 (cv9_105 61 rfl) rfl rfl (by omega) (Nat.le_of_ble_eq_true rfl) (Nat.le_of_ble_eq_true rfl) (Nat.le_refl _) (Nat.le_refl _) ?_
    refine r31t (by first | omega | decide)  ?_
    show j_W 61 d 0 0 0 0 45 [none, none, some (.int (nI k)), some (.int 5), some (.int 0), some (.int 1)] [.int 1] w1 (I, D, RR R) Q
    refine q_if_eq (tgt := 70) d61_45 rfl (fun h => absurd h (by decide)) (fun _ => ?_)
    refine q_iload d61_48 rfl ?_
    refine q_iload_n d61_50 rfl ?_
    refine q_icmp_ne (tgt := 56) d61_51 rfl (fun h2t => ?_) (fun h2f => ?_)
    ·
      have h2tc : ¬ 0 = k := mt (nI_eqN (by omega) (by omega)).mpr h2t
      refine q_under d61_56 (j_i3 134 rfl) ?_
      refine q_iload d61_59 rfl ?_
      refine q_underload (a := 0) d61_61 rfl (by decide) ?_
      refine r_int (y := (-1)) (by decide) ?_
      refine q_istore (L' := [none, none, some (.int (nI k)), some (.int 5), some (.int (-1)), some (.int 1)]) d61_62 (Nat.le_of_ble_eq_true rfl) rfl ?_
      refine q_iinc (L' := [none, none, some (.int (nI k)), some (.int 5), some (.int (-1)), some (.int 2)]) (v := 2) d61_64 rfl (by decide) rfl ?_
      refine q_goto (tgt := 33) d61_67 rfl ?_
      refine q_iload d61_33 rfl ?_
      refine q_bipush (v := 6) (by decide) d61_35 ?_
      refine q_icmp_ge (tgt := 70) d61_37 rfl (fun h => absurd h (by decide)) (fun _ => ?_)
      refine q_iload d61_40 rfl ?_
      refine q_invS (av := [.int (-1)]) (rest := []) (d' := 0) (mc' := 0) (ms' := 0) d61_42 (cv9_105 61 rfl) rfl rfl (by omega) (Nat.le_of_ble_eq_true rfl) (Nat.le_of_ble_eq_true rfl) (Nat.le_refl _) (Nat.le_refl _) ?_
      refine r31m  ?_
      show j_W 61 d 0 0 0 0 45 [none, none, some (.int (nI k)), some (.int 5), some (.int (-1)), some (.int 2)] [.int 0] w1 (I, D, RR R) Q
      refine q_if_eq (tgt := 70) d61_45 rfl (fun _ => ?_) (fun h => absurd h (by decide))
      refine q_bipush (v := (-13)) (by decide) d61_70 ?_
      exact q_iret d61_72 rfl (Nat.le_refl _) (Nat.le_refl _) (v1 h1tc h2tc)
    ·
      have h2fc : 0 = k := (nI_eqN (by omega) (by omega)).mp h2f
      refine q_iload_n d61_54 rfl ?_
      exact q_iret d61_55 rfl (Nat.le_refl _) (Nat.le_refl _) (v2 h1tc h2fc)
  ·
    have h1fc : 5 = k := (nI_eqN (by omega) (by omega)).mp h1f
    refine q_iload_n d61_54 rfl ?_
    exact q_iret d61_55 rfl (Nat.le_refl _) (Nat.le_refl _) (v3 h1fc)

set_option maxRecDepth 10000 in
set_option maxHeartbeats 4000000 in
theorem s207n {d : Nat} {I : Nat → Nat → Int32} {D : Nat → Nat → UInt64} {R : Nat → Nat → Option Nat} {Q : j_Po} {c : Nat} {k : Nat}  (hc : c < 24) (hk : k < 6) (hd : 2 ≤ d)
    (v1 : ((¬ (nI k) < (0 : Int32) ∧ ¬ (5 : Int32) < (nI k))) → ((nI k) = 0) → Q (some (.int (I 261 c))) w1 (I, D, RR R))
    (v2 : ((¬ (nI k) < (0 : Int32) ∧ ¬ (5 : Int32) < (nI k))) → (¬ (nI k) = 0) → ((nI k) = (I 261 c)) → Q (some (.int (I 261 c))) w1 (I, D, RR R))
    (v3 : ((¬ (nI k) < (0 : Int32) ∧ ¬ (5 : Int32) < (nI k))) → (¬ (nI k) = 0) → (¬ (nI k) = (I 261 c)) → (¬ k = 1) → (¬ k = 2) → Q (some (.int (-13))) w1 (I, D, RR R))
    (v4 : ((¬ (nI k) < (0 : Int32) ∧ ¬ (5 : Int32) < (nI k))) → (¬ (nI k) = 0) → (¬ (nI k) = (I 261 c)) → (¬ k = 1) → (k = 2) → (¬ (I 261 c) = 4) → Q (some (.int (-13))) w1 (I, D, RR R))
    (v5 : ((¬ (nI k) < (0 : Int32) ∧ ¬ (5 : Int32) < (nI k))) → (¬ (nI k) = 0) → (¬ (nI k) = (I 261 c)) → (¬ k = 1) → (k = 2) → ((I 261 c) = 4) → Q (some (.int (I 261 c))) w1 (I, D, RR R))
    (v6 : ((¬ (nI k) < (0 : Int32) ∧ ¬ (5 : Int32) < (nI k))) → (¬ (nI k) = 0) → (¬ (nI k) = (I 261 c)) → (k = 1) → ((I 261 c) = 3) → Q (some (.int (I 261 c))) w1 (I, D, RR R))
    (v7 : ((¬ (nI k) < (0 : Int32) ∧ ¬ (5 : Int32) < (nI k))) → (¬ (nI k) = 0) → (¬ (nI k) = (I 261 c)) → (k = 1) → (¬ (I 261 c) = 3) → Q (some (.int (-13))) w1 (I, D, RR R))
    (v8 : (¬ ((¬ (nI k) < (0 : Int32) ∧ ¬ (5 : Int32) < (nI k)))) → Q (some (.int (-2))) w1 (I, D, RR R)) : j_Call d 207 [.ref 260, .int (nI c), .int (nI k)] w1 (I, D, RR R) 0 0 Q := by
  refine q_enter (L := [some (.ref 260), some (.int (nI c)), some (.int (nI k)), none, none]) j_m207 (Nat.le_of_ble_eq_true rfl) rfl ?_
  refine q_iload_n d207_0 rfl ?_
  refine q_invS (av := [.int (nI c)]) (rest := []) (d' := 1) (mc' := 0) (ms' := 0) d207_1 (cv10_312 207 rfl) rfl rfl (by omega) (Nat.le_of_ble_eq_true rfl) (Nat.le_of_ble_eq_true rfl) (Nat.le_refl _) (Nat.le_refl _) ?_
  refine r167t (by first | omega | decide) (Nat.le_refl _)  ?_
  show j_W 207 d 0 0 0 0 4 [some (.ref 260), some (.int (nI c)), some (.int (nI k)), none, none] [.int 1] w1 (I, D, RR R) Q
  refine q_if_eq (tgt := 16) d207_4 rfl (fun h => absurd h (by decide)) (fun _ => ?_)
  refine q_iload_n d207_7 rfl ?_
  refine q_iconst (v := 0) (by decide) d207_8 ?_
  refine q_iconst (v := 5) (by decide) d207_9 ?_
  refine q_invS (av := [.int (nI k), .int 0, .int 5]) (rest := []) (d' := 0) (mc' := 0) (ms' := 0) d207_10 (cv10_183 207 rfl) rfl rfl (by omega) (Nat.le_of_ble_eq_true rfl) (Nat.le_of_ble_eq_true rfl) (Nat.le_refl _) (Nat.le_refl _) ?_
  refine p168  (fun h1 => ?_) (fun h1 => ?_)
  ·
    show j_W 207 d 0 0 0 0 13 [some (.ref 260), some (.int (nI c)), some (.int (nI k)), none, none] [.int 1] w1 (I, D, RR R) Q
    refine q_if_ne (tgt := 19) d207_13 rfl (fun _ => ?_) (fun h => absurd h (by decide))
    refine q_aload_n d207_19 rfl ?_
    refine q_getR (x := 261) d207_20 (fs10_9 207 rfl) rfl (lt_w1 rfl) sh260 (rs260_0 R) (by decide) ?_
    refine q_iload_n d207_23 rfl ?_
    refine q_iaload (a := c) d207_24 (lt_w1 rfl) sh261 rfl (by omega) ?_
    refine q_istore_n (L' := [some (.ref 260), some (.int (nI c)), some (.int (nI k)), some (.int (I 261 c)), none]) d207_25 (Nat.le_of_ble_eq_true rfl) rfl ?_
    refine q_iload_n d207_26 rfl ?_
    refine q_if_eq (tgt := 55) d207_27 rfl (fun h2t => ?_) (fun h2f => ?_)
    ·
      refine q_iconst (v := 1) (by decide) d207_55 ?_
      refine q_goto (tgt := 60) d207_56 rfl ?_
      refine q_istore (L' := [some (.ref 260), some (.int (nI c)), some (.int (nI k)), some (.int (I 261 c)), some (.int 1)]) d207_60 (Nat.le_of_ble_eq_true rfl) rfl ?_
      refine q_iload d207_62 rfl ?_
      refine q_if_eq (tgt := 71) d207_64 rfl (fun h => absurd h (by decide)) (fun _ => ?_)
      refine q_iload_n d207_67 rfl ?_
      refine q_goto (tgt := 73) d207_68 rfl ?_
      exact q_iret d207_73 rfl (Nat.le_refl _) (Nat.le_refl _) (v1 h1 h2t)
    ·
      refine q_iload_n d207_30 rfl ?_
      refine q_iload_n d207_31 rfl ?_
      refine q_icmp_eq (tgt := 55) d207_32 rfl (fun h3t => ?_) (fun h3f => ?_)
      ·
        refine q_iconst (v := 1) (by decide) d207_55 ?_
        refine q_goto (tgt := 60) d207_56 rfl ?_
        refine q_istore (L' := [some (.ref 260), some (.int (nI c)), some (.int (nI k)), some (.int (I 261 c)), some (.int 1)]) d207_60 (Nat.le_of_ble_eq_true rfl) rfl ?_
        refine q_iload d207_62 rfl ?_
        refine q_if_eq (tgt := 71) d207_64 rfl (fun h => absurd h (by decide)) (fun _ => ?_)
        refine q_iload_n d207_67 rfl ?_
        refine q_goto (tgt := 73) d207_68 rfl ?_
        exact q_iret d207_73 rfl (Nat.le_refl _) (Nat.le_refl _) (v2 h1 h2f h3t)
      ·
        refine q_iload_n d207_35 rfl ?_
        refine q_iconst (v := 1) (by decide) d207_36 ?_
        refine q_icmp_ne (tgt := 45) d207_37 rfl (fun h4t => ?_) (fun h4f => ?_)
        ·
          have h4tc : ¬ k = 1 := mt (nI_eqN (by omega) (by omega)).mpr h4t
          refine q_iload_n d207_45 rfl ?_
          refine q_iconst (v := 2) (by decide) d207_46 ?_
          refine q_icmp_ne (tgt := 59) d207_47 rfl (fun h5t => ?_) (fun h5f => ?_)
          ·
            have h5tc : ¬ k = 2 := mt (nI_eqN (by omega) (by omega)).mpr h5t
            refine q_iconst (v := 0) (by decide) d207_59 ?_
            refine q_istore (L' := [some (.ref 260), some (.int (nI c)), some (.int (nI k)), some (.int (I 261 c)), some (.int 0)]) d207_60 (Nat.le_of_ble_eq_true rfl) rfl ?_
            refine q_iload d207_62 rfl ?_
            refine q_if_eq (tgt := 71) d207_64 rfl (fun _ => ?_) (fun h => absurd h (by decide))
            refine q_bipush (v := (-13)) (by decide) d207_71 ?_
            exact q_iret d207_73 rfl (Nat.le_refl _) (Nat.le_refl _) (v3 h1 h2f h3f h4tc h5tc)
          ·
            have h5fc : k = 2 := (nI_eqN (by omega) (by omega)).mp h5f
            refine q_iload_n d207_50 rfl ?_
            refine q_iconst (v := 4) (by decide) d207_51 ?_
            refine q_icmp_ne (tgt := 59) d207_52 rfl (fun h6t => ?_) (fun h6f => ?_)
            ·
              refine q_iconst (v := 0) (by decide) d207_59 ?_
              refine q_istore (L' := [some (.ref 260), some (.int (nI c)), some (.int (nI k)), some (.int (I 261 c)), some (.int 0)]) d207_60 (Nat.le_of_ble_eq_true rfl) rfl ?_
              refine q_iload d207_62 rfl ?_
              refine q_if_eq (tgt := 71) d207_64 rfl (fun _ => ?_) (fun h => absurd h (by decide))
              refine q_bipush (v := (-13)) (by decide) d207_71 ?_
              exact q_iret d207_73 rfl (Nat.le_refl _) (Nat.le_refl _) (v4 h1 h2f h3f h4tc h5fc h6t)
            ·
              refine q_iconst (v := 1) (by decide) d207_55 ?_
              refine q_goto (tgt := 60) d207_56 rfl ?_
              refine q_istore (L' := [some (.ref 260), some (.int (nI c)), some (.int (nI k)), some (.int (I 261 c)), some (.int 1)]) d207_60 (Nat.le_of_ble_eq_true rfl) rfl ?_
              refine q_iload d207_62 rfl ?_
              refine q_if_eq (tgt := 71) d207_64 rfl (fun h => absurd h (by decide)) (fun _ => ?_)
              refine q_iload_n d207_67 rfl ?_
              refine q_goto (tgt := 73) d207_68 rfl ?_
              exact q_iret d207_73 rfl (Nat.le_refl _) (Nat.le_refl _) (v5 h1 h2f h3f h4tc h5fc h6f)
        ·
          have h4fc : k = 1 := (nI_eqN (by omega) (by omega)).mp h4f
          refine q_iload_n d207_40 rfl ?_
          refine q_iconst (v := 3) (by decide) d207_41 ?_
          refine q_icmp_eq (tgt := 55) d207_42 rfl (fun h7t => ?_) (fun h7f => ?_)
          ·
            refine q_iconst (v := 1) (by decide) d207_55 ?_
            refine q_goto (tgt := 60) d207_56 rfl ?_
            refine q_istore (L' := [some (.ref 260), some (.int (nI c)), some (.int (nI k)), some (.int (I 261 c)), some (.int 1)]) d207_60 (Nat.le_of_ble_eq_true rfl) rfl ?_
            refine q_iload d207_62 rfl ?_
            refine q_if_eq (tgt := 71) d207_64 rfl (fun h => absurd h (by decide)) (fun _ => ?_)
            refine q_iload_n d207_67 rfl ?_
            refine q_goto (tgt := 73) d207_68 rfl ?_
            exact q_iret d207_73 rfl (Nat.le_refl _) (Nat.le_refl _) (v6 h1 h2f h3f h4fc h7t)
          ·
            refine q_iload_n d207_45 rfl ?_
            refine q_iconst (v := 2) (by decide) d207_46 ?_
            refine q_icmp_ne (tgt := 59) d207_47 rfl (fun h8t => ?_) (fun h8f => ?_)
            ·
              have h8tc : ¬ k = 2 := mt (nI_eqN (by omega) (by omega)).mpr h8t
              refine q_iconst (v := 0) (by decide) d207_59 ?_
              refine q_istore (L' := [some (.ref 260), some (.int (nI c)), some (.int (nI k)), some (.int (I 261 c)), some (.int 0)]) d207_60 (Nat.le_of_ble_eq_true rfl) rfl ?_
              refine q_iload d207_62 rfl ?_
              refine q_if_eq (tgt := 71) d207_64 rfl (fun _ => ?_) (fun h => absurd h (by decide))
              refine q_bipush (v := (-13)) (by decide) d207_71 ?_
              exact q_iret d207_73 rfl (Nat.le_refl _) (Nat.le_refl _) (v7 h1 h2f h3f h4fc h7f)
            ·
              have h8fc : k = 2 := (nI_eqN (by omega) (by omega)).mp h8f
              exact False.elim (by exact absurd (h4fc.symm.trans h8fc) (by decide))
  ·
    show j_W 207 d 0 0 0 0 13 [some (.ref 260), some (.int (nI c)), some (.int (nI k)), none, none] [.int 0] w1 (I, D, RR R) Q
    refine q_if_ne (tgt := 19) d207_13 rfl (fun h => absurd h (by decide)) (fun _ => ?_)
    refine q_bipush (v := (-2)) (by decide) d207_16 ?_
    exact q_iret d207_18 rfl (Nat.le_refl _) (Nat.le_refl _) (v8 h1)

set_option maxRecDepth 10000 in
set_option maxHeartbeats 4000000 in
theorem s61g {d : Nat} {I : Nat → Nat → Int32} {D : Nat → Nat → UInt64} {R : Nat → Nat → Option Nat} {Q : j_Po} {a : Int32} {b : Int32}  (hR : WFR R) (hd : 1 ≤ d)
    (v1 : ∀ k1 : Nat, (k1 < 24) → (a = nI k1) → ∀ k2 : Nat, (k2 < 6) → (b = nI k2) → j_W 61 d 0 0 0 0 27 [none, none, none, none, none, none] [] w1 (I, D, RR R) Q)
    (v2 : ∀ k1 : Nat, (k1 < 24) → (a = nI k1) → (¬ (∃ k : Nat, k < 6 ∧ b = nI k)) → Q (some (.int (-2))) w1 (I, D, RR R))
    (v3 : (¬ (∃ k : Nat, k < 24 ∧ a = nI k)) → Q (some (.int (-2))) w1 (I, D, RR R)) : j_Call d 61 [.ref 0, .int a, .int b] w1 (I, D, RR R) 0 0 Q := by
  refine q_enter (L := [some (.ref 0), some (.int a), some (.int b), none, none, none]) j_m61 (Nat.le_of_ble_eq_true rfl) rfl ?_
  refine q_iload_n d61_0 rfl ?_
  refine q_invS (av := [.int a]) (rest := []) (d' := 0) (mc' := 0) (ms' := 0) d61_1 (cv9_60 61 rfl) rfl rfl (by omega) (Nat.le_of_ble_eq_true rfl) (Nat.le_of_ble_eq_true rfl) (Nat.le_refl _) (Nat.le_refl _) ?_
  refine r12  (fun k1 h1 h1e => ?_) (fun h1 => ?_)
  ·
    subst h1e
    show j_W 61 d 0 0 0 0 4 [some (.ref 0), some (.int (nI k1)), some (.int b), none, none, none] [.int 1] w1 (I, D, RR R) Q
    refine q_if_eq (tgt := 14) d61_4 rfl (fun h => absurd h (by decide)) (fun _ => ?_)
    refine q_iload_n d61_7 rfl ?_
    refine q_invS (av := [.int b]) (rest := []) (d' := 0) (mc' := 0) (ms' := 0) d61_8 (cv9_105 61 rfl) rfl rfl (by omega) (Nat.le_of_ble_eq_true rfl) (Nat.le_of_ble_eq_true rfl) (Nat.le_refl _) (Nat.le_refl _) ?_
    refine r31  (fun k2 h2 h2e => ?_) (fun h2 => ?_)
    ·
      subst h2e
      show j_W 61 d 0 0 0 0 11 [some (.ref 0), some (.int (nI k1)), some (.int (nI k2)), none, none, none] [.int 1] w1 (I, D, RR R) Q
      refine q_if_ne (tgt := 17) d61_11 rfl (fun _ => ?_) (fun h => absurd h (by decide))
      refine q_aload_n d61_17 rfl ?_
      refine q_getR (x := 108) d61_18 (fs9_53 61 rfl) rfl (lt_w1 rfl) sh0 (rs0_1 R) (by decide) ?_
      refine q_getR (x := 109) d61_21 (fs9_76 61 rfl) rfl (lt_w1 rfl) sh108 (rs108_0 R) (by decide) ?_
      refine q_iload_n d61_24 rfl ?_
      refine q_iaload (a := k1) d61_25 (lt_w1 rfl) sh109 rfl (by omega) ?_
      refine q_istore_n (L' := [some (.ref 0), some (.int (nI k1)), some (.int (nI k2)), some (.int (I 109 k1)), none, none]) d61_26 (Nat.le_of_ble_eq_true rfl) rfl ?_
      exact r_sub (L' := [none, none, none, none, none, none]) trivial (v1 k1 h1 rfl k2 h2 rfl)
    ·
      show j_W 61 d 0 0 0 0 11 [some (.ref 0), some (.int (nI k1)), some (.int b), none, none, none] [.int 0] w1 (I, D, RR R) Q
      refine q_if_ne (tgt := 17) d61_11 rfl (fun h => absurd h (by decide)) (fun _ => ?_)
      refine q_bipush (v := (-2)) (by decide) d61_14 ?_
      exact q_iret d61_16 rfl (Nat.le_refl _) (Nat.le_refl _) (v2 k1 h1 rfl h2)
  ·
    show j_W 61 d 0 0 0 0 4 [some (.ref 0), some (.int a), some (.int b), none, none, none] [.int 0] w1 (I, D, RR R) Q
    refine q_if_eq (tgt := 14) d61_4 rfl (fun _ => ?_) (fun h => absurd h (by decide))
    refine q_bipush (v := (-2)) (by decide) d61_14 ?_
    exact q_iret d61_16 rfl (Nat.le_refl _) (Nat.le_refl _) (v3 h1)

set_option maxRecDepth 10000 in
set_option maxHeartbeats 4000000 in
theorem s207g {d : Nat} {I : Nat → Nat → Int32} {D : Nat → Nat → UInt64} {R : Nat → Nat → Option Nat} {Q : j_Po} {a : Int32} {b : Int32}   (hd : 2 ≤ d)
    (v1 : ∀ k1 : Nat, (k1 < 24) → (a = nI k1) → ((¬ b < (0 : Int32) ∧ ¬ (5 : Int32) < b)) → (b = 0) → Q (some (.int (I 261 k1))) w1 (I, D, RR R))
    (v2 : ∀ k1 : Nat, (k1 < 24) → (a = nI k1) → ((¬ b < (0 : Int32) ∧ ¬ (5 : Int32) < b)) → (¬ b = 0) → (b = (I 261 k1)) → Q (some (.int (I 261 k1))) w1 (I, D, RR R))
    (v3 : ∀ k1 : Nat, (k1 < 24) → (a = nI k1) → ((¬ b < (0 : Int32) ∧ ¬ (5 : Int32) < b)) → (¬ b = 0) → (¬ b = (I 261 k1)) → (¬ b = 1) → (¬ b = 2) → Q (some (.int (-13))) w1 (I, D, RR R))
    (v4 : ∀ k1 : Nat, (k1 < 24) → (a = nI k1) → ((¬ b < (0 : Int32) ∧ ¬ (5 : Int32) < b)) → (¬ b = 0) → (¬ b = (I 261 k1)) → (¬ b = 1) → (b = 2) → (¬ (I 261 k1) = 4) → Q (some (.int (-13))) w1 (I, D, RR R))
    (v5 : ∀ k1 : Nat, (k1 < 24) → (a = nI k1) → ((¬ b < (0 : Int32) ∧ ¬ (5 : Int32) < b)) → (¬ b = 0) → (¬ b = (I 261 k1)) → (¬ b = 1) → (b = 2) → ((I 261 k1) = 4) → Q (some (.int (I 261 k1))) w1 (I, D, RR R))
    (v6 : ∀ k1 : Nat, (k1 < 24) → (a = nI k1) → ((¬ b < (0 : Int32) ∧ ¬ (5 : Int32) < b)) → (¬ b = 0) → (¬ b = (I 261 k1)) → (b = 1) → ((I 261 k1) = 3) → Q (some (.int (I 261 k1))) w1 (I, D, RR R))
    (v7 : ∀ k1 : Nat, (k1 < 24) → (a = nI k1) → ((¬ b < (0 : Int32) ∧ ¬ (5 : Int32) < b)) → (¬ b = 0) → (¬ b = (I 261 k1)) → (b = 1) → (¬ (I 261 k1) = 3) → Q (some (.int (-13))) w1 (I, D, RR R))
    (v8 : ∀ k1 : Nat, (k1 < 24) → (a = nI k1) → (¬ ((¬ b < (0 : Int32) ∧ ¬ (5 : Int32) < b))) → Q (some (.int (-2))) w1 (I, D, RR R))
    (v9 : (¬ (∃ k : Nat, k < 24 ∧ a = nI k)) → Q (some (.int (-2))) w1 (I, D, RR R)) : j_Call d 207 [.ref 260, .int a, .int b] w1 (I, D, RR R) 0 0 Q := by
  refine q_enter (L := [some (.ref 260), some (.int a), some (.int b), none, none]) j_m207 (Nat.le_of_ble_eq_true rfl) rfl ?_
  refine q_iload_n d207_0 rfl ?_
  refine q_invS (av := [.int a]) (rest := []) (d' := 1) (mc' := 0) (ms' := 0) d207_1 (cv10_312 207 rfl) rfl rfl (by omega) (Nat.le_of_ble_eq_true rfl) (Nat.le_of_ble_eq_true rfl) (Nat.le_refl _) (Nat.le_refl _) ?_
  refine r167 (Nat.le_refl _)  (fun k1 h1 h1e => ?_) (fun h1 => ?_)
  ·
    subst h1e
    show j_W 207 d 0 0 0 0 4 [some (.ref 260), some (.int (nI k1)), some (.int b), none, none] [.int 1] w1 (I, D, RR R) Q
    refine q_if_eq (tgt := 16) d207_4 rfl (fun h => absurd h (by decide)) (fun _ => ?_)
    refine q_iload_n d207_7 rfl ?_
    refine q_iconst (v := 0) (by decide) d207_8 ?_
    refine q_iconst (v := 5) (by decide) d207_9 ?_
    refine q_invS (av := [.int b, .int 0, .int 5]) (rest := []) (d' := 0) (mc' := 0) (ms' := 0) d207_10 (cv10_183 207 rfl) rfl rfl (by omega) (Nat.le_of_ble_eq_true rfl) (Nat.le_of_ble_eq_true rfl) (Nat.le_refl _) (Nat.le_refl _) ?_
    refine p168  (fun h2 => ?_) (fun h2 => ?_)
    ·
      show j_W 207 d 0 0 0 0 13 [some (.ref 260), some (.int (nI k1)), some (.int b), none, none] [.int 1] w1 (I, D, RR R) Q
      refine q_if_ne (tgt := 19) d207_13 rfl (fun _ => ?_) (fun h => absurd h (by decide))
      refine q_aload_n d207_19 rfl ?_
      refine q_getR (x := 261) d207_20 (fs10_9 207 rfl) rfl (lt_w1 rfl) sh260 (rs260_0 R) (by decide) ?_
      refine q_iload_n d207_23 rfl ?_
      refine q_iaload (a := k1) d207_24 (lt_w1 rfl) sh261 rfl (by omega) ?_
      refine q_istore_n (L' := [some (.ref 260), some (.int (nI k1)), some (.int b), some (.int (I 261 k1)), none]) d207_25 (Nat.le_of_ble_eq_true rfl) rfl ?_
      refine q_iload_n d207_26 rfl ?_
      refine q_if_eq (tgt := 55) d207_27 rfl (fun h3t => ?_) (fun h3f => ?_)
      ·
        refine q_iconst (v := 1) (by decide) d207_55 ?_
        refine q_goto (tgt := 60) d207_56 rfl ?_
        refine q_istore (L' := [some (.ref 260), some (.int (nI k1)), some (.int b), some (.int (I 261 k1)), some (.int 1)]) d207_60 (Nat.le_of_ble_eq_true rfl) rfl ?_
        refine q_iload d207_62 rfl ?_
        refine q_if_eq (tgt := 71) d207_64 rfl (fun h => absurd h (by decide)) (fun _ => ?_)
        refine q_iload_n d207_67 rfl ?_
        refine q_goto (tgt := 73) d207_68 rfl ?_
        exact q_iret d207_73 rfl (Nat.le_refl _) (Nat.le_refl _) (v1 k1 h1 rfl h2 h3t)
      ·
        refine q_iload_n d207_30 rfl ?_
        refine q_iload_n d207_31 rfl ?_
        refine q_icmp_eq (tgt := 55) d207_32 rfl (fun h4t => ?_) (fun h4f => ?_)
        ·
          refine q_iconst (v := 1) (by decide) d207_55 ?_
          refine q_goto (tgt := 60) d207_56 rfl ?_
          refine q_istore (L' := [some (.ref 260), some (.int (nI k1)), some (.int b), some (.int (I 261 k1)), some (.int 1)]) d207_60 (Nat.le_of_ble_eq_true rfl) rfl ?_
          refine q_iload d207_62 rfl ?_
          refine q_if_eq (tgt := 71) d207_64 rfl (fun h => absurd h (by decide)) (fun _ => ?_)
          refine q_iload_n d207_67 rfl ?_
          refine q_goto (tgt := 73) d207_68 rfl ?_
          exact q_iret d207_73 rfl (Nat.le_refl _) (Nat.le_refl _) (v2 k1 h1 rfl h2 h3f h4t)
        ·
          refine q_iload_n d207_35 rfl ?_
          refine q_iconst (v := 1) (by decide) d207_36 ?_
          refine q_icmp_ne (tgt := 45) d207_37 rfl (fun h5t => ?_) (fun h5f => ?_)
          ·
            refine q_iload_n d207_45 rfl ?_
            refine q_iconst (v := 2) (by decide) d207_46 ?_
            refine q_icmp_ne (tgt := 59) d207_47 rfl (fun h6t => ?_) (fun h6f => ?_)
            ·
              refine q_iconst (v := 0) (by decide) d207_59 ?_
              refine q_istore (L' := [some (.ref 260), some (.int (nI k1)), some (.int b), some (.int (I 261 k1)), some (.int 0)]) d207_60 (Nat.le_of_ble_eq_true rfl) rfl ?_
              refine q_iload d207_62 rfl ?_
              refine q_if_eq (tgt := 71) d207_64 rfl (fun _ => ?_) (fun h => absurd h (by decide))
              refine q_bipush (v := (-13)) (by decide) d207_71 ?_
              exact q_iret d207_73 rfl (Nat.le_refl _) (Nat.le_refl _) (v3 k1 h1 rfl h2 h3f h4f h5t h6t)
            ·
              refine q_iload_n d207_50 rfl ?_
              refine q_iconst (v := 4) (by decide) d207_51 ?_
              refine q_icmp_ne (tgt := 59) d207_52 rfl (fun h7t => ?_) (fun h7f => ?_)
              ·
                refine q_iconst (v := 0) (by decide) d207_59 ?_
                refine q_istore (L' := [some (.ref 260), some (.int (nI k1)), some (.int b), some (.int (I 261 k1)), some (.int 0)]) d207_60 (Nat.le_of_ble_eq_true rfl) rfl ?_
                refine q_iload d207_62 rfl ?_
                refine q_if_eq (tgt := 71) d207_64 rfl (fun _ => ?_) (fun h => absurd h (by decide))
                refine q_bipush (v := (-13)) (by decide) d207_71 ?_
                exact q_iret d207_73 rfl (Nat.le_refl _) (Nat.le_refl _) (v4 k1 h1 rfl h2 h3f h4f h5t h6f h7t)
              ·
                refine q_iconst (v := 1) (by decide) d207_55 ?_
                refine q_goto (tgt := 60) d207_56 rfl ?_
                refine q_istore (L' := [some (.ref 260), some (.int (nI k1)), some (.int b), some (.int (I 261 k1)), some (.int 1)]) d207_60 (Nat.le_of_ble_eq_true rfl) rfl ?_
                refine q_iload d207_62 rfl ?_
                refine q_if_eq (tgt := 71) d207_64 rfl (fun h => absurd h (by decide)) (fun _ => ?_)
                refine q_iload_n d207_67 rfl ?_
                refine q_goto (tgt := 73) d207_68 rfl ?_
                exact q_iret d207_73 rfl (Nat.le_refl _) (Nat.le_refl _) (v5 k1 h1 rfl h2 h3f h4f h5t h6f h7f)
          ·
            refine q_iload_n d207_40 rfl ?_
            refine q_iconst (v := 3) (by decide) d207_41 ?_
            refine q_icmp_eq (tgt := 55) d207_42 rfl (fun h8t => ?_) (fun h8f => ?_)
            ·
              refine q_iconst (v := 1) (by decide) d207_55 ?_
              refine q_goto (tgt := 60) d207_56 rfl ?_
              refine q_istore (L' := [some (.ref 260), some (.int (nI k1)), some (.int b), some (.int (I 261 k1)), some (.int 1)]) d207_60 (Nat.le_of_ble_eq_true rfl) rfl ?_
              refine q_iload d207_62 rfl ?_
              refine q_if_eq (tgt := 71) d207_64 rfl (fun h => absurd h (by decide)) (fun _ => ?_)
              refine q_iload_n d207_67 rfl ?_
              refine q_goto (tgt := 73) d207_68 rfl ?_
              exact q_iret d207_73 rfl (Nat.le_refl _) (Nat.le_refl _) (v6 k1 h1 rfl h2 h3f h4f h5f h8t)
            ·
              refine q_iload_n d207_45 rfl ?_
              refine q_iconst (v := 2) (by decide) d207_46 ?_
              refine q_icmp_ne (tgt := 59) d207_47 rfl (fun h9t => ?_) (fun h9f => ?_)
              ·
                refine q_iconst (v := 0) (by decide) d207_59 ?_
                refine q_istore (L' := [some (.ref 260), some (.int (nI k1)), some (.int b), some (.int (I 261 k1)), some (.int 0)]) d207_60 (Nat.le_of_ble_eq_true rfl) rfl ?_
                refine q_iload d207_62 rfl ?_
                refine q_if_eq (tgt := 71) d207_64 rfl (fun _ => ?_) (fun h => absurd h (by decide))
                refine q_bipush (v := (-13)) (by decide) d207_71 ?_
                exact q_iret d207_73 rfl (Nat.le_refl _) (Nat.le_refl _) (v7 k1 h1 rfl h2 h3f h4f h5f h8f)
              ·
                exact False.elim (by exact absurd (h5f.symm.trans h9f) (by decide))
    ·
      show j_W 207 d 0 0 0 0 13 [some (.ref 260), some (.int (nI k1)), some (.int b), none, none] [.int 0] w1 (I, D, RR R) Q
      refine q_if_ne (tgt := 19) d207_13 rfl (fun h => absurd h (by decide)) (fun _ => ?_)
      refine q_bipush (v := (-2)) (by decide) d207_16 ?_
      exact q_iret d207_18 rfl (Nat.le_refl _) (Nat.le_refl _) (v8 k1 h1 rfl h2)
  ·
    show j_W 207 d 0 0 0 0 4 [some (.ref 260), some (.int a), some (.int b), none, none] [.int 0] w1 (I, D, RR R) Q
    refine q_if_eq (tgt := 16) d207_4 rfl (fun _ => ?_) (fun h => absurd h (by decide))
    refine q_bipush (v := (-2)) (by decide) d207_16 ?_
    exact q_iret d207_18 rfl (Nat.le_refl _) (Nat.le_refl _) (v9 h1)

def kindsR (σ : j_I3) : Prop := ∀ c, c < 24 → σ.1 109 c = σ.1 261 c ∧ ∃ k : Nat, k < 6 ∧ σ.1 261 c = nI k
theorem i_kind {b : Int32} : (¬ b < 0 ∧ ¬ 5 < b) ↔ ∃ k : Nat, k < 6 ∧ b = nI k := by
  constructor
  · intro h
    obtain ⟨k, hk, e⟩ := nI_rng (z := 5) (Int32.not_lt.mp h.1) (Int32.not_lt.mp h.2) (by decide)
    exact ⟨k, by omega, e⟩
  · rintro ⟨k, hk, rfl⟩
    refine ⟨fun h => ?_, fun h => ?_⟩
    · exact absurd ((nI_ltI (b := 0) (by omega) (by omega)).mp h) (by omega)
    · exact absurd ((nI_ltI (a := 5) (by omega) (by omega)).mp h) (by omega)
theorem pair_taken {σ : j_I3} {a b : Int32} {T : j_I3 → Prop} (h : kindsR σ) (hR : WFR σ.2.2) (hT : T σ) : Pair 61 207 [.int a, .int b] σ T := by
  show j_Call lD 61 [.ref 0, .int a, .int b] w1 (σ.1, σ.2.1, RR σ.2.2) 0 0 (PEnd 207 [.int a, .int b] _)
  by_cases ha : ∃ k : Nat, k < 24 ∧ a = nI k
  case neg => exact s61g hR lD1 (fun k1 h2 h3 k2 h5 h6 => absurd ⟨k1, h2, h3⟩ ha) (fun k1 h2 h3 h4 => absurd ⟨k1, h2, h3⟩ ha) (fun h1 => pend_same hT (s207g lD2 (fun k1 h2 h3 h4 h5 => absurd ⟨k1, h2, h3⟩ ha) (fun k1 h2 h3 h4 h5 h6 => absurd ⟨k1, h2, h3⟩ ha) (fun k1 h2 h3 h4 h5 h6 h7 h8 => absurd ⟨k1, h2, h3⟩ ha) (fun k1 h2 h3 h4 h5 h6 h7 h8 h9 => absurd ⟨k1, h2, h3⟩ ha) (fun k1 h2 h3 h4 h5 h6 h7 h8 h9 => absurd ⟨k1, h2, h3⟩ ha) (fun k1 h2 h3 h4 h5 h6 h7 h8 => absurd ⟨k1, h2, h3⟩ ha) (fun k1 h2 h3 h4 h5 h6 h7 h8 => absurd ⟨k1, h2, h3⟩ ha) (fun k1 h2 h3 h4 => absurd ⟨k1, h2, h3⟩ ha) (fun h1 => ⟨rfl, rfl, rfl⟩)))
  by_cases hb : ∃ k : Nat, k < 6 ∧ b = nI k
  case neg =>
    have hb2 : ¬ (¬ b < (0 : Int32) ∧ ¬ (5 : Int32) < b) := mt i_kind.mp hb
    exact s61g hR lD1 (fun k1 h2 h3 k2 h5 h6 => absurd ⟨k2, h5, h6⟩ hb) (fun k1 h2 h3 h4 => pend_same hT (s207g lD2 (fun k1 h2 h3 h4 h5 => False.elim (by first | exact absurd h4 hb2 | exact absurd hb2 h4 | exact (Int32.not_lt.mpr h4) hb2 | exact (Int32.not_lt.mpr hb2) h4 | exact h4 (Int32.not_le.mp hb2) | exact hb2 (Int32.not_le.mp h4) | omega)) (fun k1 h2 h3 h4 h5 h6 => False.elim (by first | exact absurd h4 hb2 | exact absurd hb2 h4 | exact (Int32.not_lt.mpr h4) hb2 | exact (Int32.not_lt.mpr hb2) h4 | exact h4 (Int32.not_le.mp hb2) | exact hb2 (Int32.not_le.mp h4) | omega)) (fun k1 h2 h3 h4 h5 h6 h7 h8 => False.elim (by first | exact absurd h4 hb2 | exact absurd hb2 h4 | exact (Int32.not_lt.mpr h4) hb2 | exact (Int32.not_lt.mpr hb2) h4 | exact h4 (Int32.not_le.mp hb2) | exact hb2 (Int32.not_le.mp h4) | omega)) (fun k1 h2 h3 h4 h5 h6 h7 h8 h9 => False.elim (by first | exact absurd h4 hb2 | exact absurd hb2 h4 | exact (Int32.not_lt.mpr h4) hb2 | exact (Int32.not_lt.mpr hb2) h4 | exact h4 (Int32.not_le.mp hb2) | exact hb2 (Int32.not_le.mp h4) | omega)) (fun k1 h2 h3 h4 h5 h6 h7 h8 h9 => False.elim (by first | exact absurd h4 hb2 | exact absurd hb2 h4 | exact (Int32.not_lt.mpr h4) hb2 | exact (Int32.not_lt.mpr hb2) h4 | exact h4 (Int32.not_le.mp hb2) | exact hb2 (Int32.not_le.mp h4) | omega)) (fun k1 h2 h3 h4 h5 h6 h7 h8 => False.elim (by first | exact absurd h4 hb2 | exact absurd hb2 h4 | exact (Int32.not_lt.mpr h4) hb2 | exact (Int32.not_lt.mpr hb2) h4 | exact h4 (Int32.not_le.mp hb2) | exact hb2 (Int32.not_le.mp h4) | omega)) (fun k1 h2 h3 h4 h5 h6 h7 h8 => False.elim (by first | exact absurd h4 hb2 | exact absurd hb2 h4 | exact (Int32.not_lt.mpr h4) hb2 | exact (Int32.not_lt.mpr hb2) h4 | exact h4 (Int32.not_le.mp hb2) | exact hb2 (Int32.not_le.mp h4) | omega)) (fun k1 h2 h3 h4 => ⟨rfl, rfl, rfl⟩) (fun h1 => absurd ha h1))) (fun h1 => absurd ha h1)
  obtain ⟨c, hc, rfl⟩ := ha
  obtain ⟨k, hk, rfl⟩ := hb
  obtain ⟨w1', kd, hkd, w2'⟩ := h c hc
  have w3' := w1'.trans w2'
  have hrg : (¬ nI k < (0 : Int32) ∧ ¬ (5 : Int32) < nI k) := i_kind.mpr ⟨k, hk, rfl⟩
  have e0 : (nI k = 0) ↔ k = 0 := nI_eqN (b := 0) (by omega) (by omega)
  have ref : ∀ v : Int32, (v = if k = 0 ∨ k = kd ∨ (k = 1 ∧ kd = 3) ∨ (k = 2 ∧ kd = 4) then nI kd else -13) → PEnd 207 [.int (nI c), .int (nI k)] T (some (.int v)) w1 (σ.1, σ.2.1, RR σ.2.2) := by
    intro v hv
    subst hv
    have e1 : (nI k = nI kd) ↔ k = kd := nI_eqN (by omega) (by omega)
    have e3 : (nI kd = 3) ↔ kd = 3 := nI_eqN (b := 3) (by omega) (by omega)
    have e4 : (nI kd = 4) ↔ kd = 4 := nI_eqN (b := 4) (by omega) (by omega)
    refine pend_same hT (s207n hc hk lD2 (fun h1 h2 => ?_) (fun h1 h2 h3 => ?_) (fun h1 h2 h3 h4 h5 => ?_) (fun h1 h2 h3 h4 h5 h6 => ?_) (fun h1 h2 h3 h4 h5 h6 => ?_) (fun h1 h2 h3 h4 h5 => ?_) (fun h1 h2 h3 h4 h5 => ?_) (fun h1 => False.elim (by first | exact absurd h1 hrg | exact absurd hrg h1 | exact (Int32.not_lt.mpr h1) hrg | exact (Int32.not_lt.mpr hrg) h1 | exact h1 (Int32.not_le.mp hrg) | exact hrg (Int32.not_le.mp h1) | omega)))
    all_goals (refine ⟨congrArg (fun x => some (Value.int x)) ?_, rfl, rfl⟩)
    all_goals (simp only [w2', e0, e1, e3, e4] at *)
    all_goals (first | (rw [if_pos (by omega)]; done) | (rw [if_neg (by omega)]; done) | (exfalso; omega) | skip)
  refine s61e hR hc hk lD1 ?_
  show j_W 61 lD 0 0 0 0 27 [none, none, some (.int (nI k)), some (.int (σ.1 109 c)), none, none] [] w1 (σ.1, σ.2.1, RR σ.2.2) _
  rw [w3']
  rcases (show kd = 0 ∨ kd = 1 ∨ kd = 2 ∨ kd = 3 ∨ kd = 4 ∨ kd = 5 by omega) with rfl | rfl | rfl | rfl | rfl | rfl
  · exact s61k0 hR hk lD1 (fun h1 => ref _ (by first | (rw [if_pos (by omega)]; rfl) | (rw [if_neg (by omega)]))) (fun h1 => ref _ (by first | (rw [if_pos (by omega)]; rfl) | (rw [if_neg (by omega)])))
  · exact s61k1 hR hk lD1 (fun h1 h2 => ref _ (by first | (rw [if_pos (by omega)]; rfl) | (rw [if_neg (by omega)]))) (fun h1 h2 => ref _ (by first | (rw [if_pos (by omega)]; rfl) | (rw [if_neg (by omega)]))) (fun h1 => ref _ (by first | (rw [if_pos (by omega)]; rfl) | (rw [if_neg (by omega)])))
  · exact s61k2 hR hk lD1 (fun h1 h2 => ref _ (by first | (rw [if_pos (by omega)]; rfl) | (rw [if_neg (by omega)]))) (fun h1 h2 => ref _ (by first | (rw [if_pos (by omega)]; rfl) | (rw [if_neg (by omega)]))) (fun h1 => ref _ (by first | (rw [if_pos (by omega)]; rfl) | (rw [if_neg (by omega)])))
  · exact s61k3 hR hk lD1 (fun h1 h2 h3 => ref _ (by first | (rw [if_pos (by omega)]; rfl) | (rw [if_neg (by omega)]))) (fun h1 h2 h3 => ref _ (by first | (rw [if_pos (by omega)]; rfl) | (rw [if_neg (by omega)]))) (fun h1 h2 => ref _ (by first | (rw [if_pos (by omega)]; rfl) | (rw [if_neg (by omega)]))) (fun h1 => ref _ (by first | (rw [if_pos (by omega)]; rfl) | (rw [if_neg (by omega)])))
  · exact s61k4 hR hk lD1 (fun h1 h2 h3 => ref _ (by first | (rw [if_pos (by omega)]; rfl) | (rw [if_neg (by omega)]))) (fun h1 h2 h3 => ref _ (by first | (rw [if_pos (by omega)]; rfl) | (rw [if_neg (by omega)]))) (fun h1 h2 => ref _ (by first | (rw [if_pos (by omega)]; rfl) | (rw [if_neg (by omega)]))) (fun h1 => ref _ (by first | (rw [if_pos (by omega)]; rfl) | (rw [if_neg (by omega)])))
  · exact s61k5 hR hk lD1 (fun h1 h2 => ref _ (by first | (rw [if_pos (by omega)]; rfl) | (rw [if_neg (by omega)]))) (fun h1 h2 => ref _ (by first | (rw [if_pos (by omega)]; rfl) | (rw [if_neg (by omega)]))) (fun h1 => ref _ (by first | (rw [if_pos (by omega)]; rfl) | (rw [if_neg (by omega)])))
