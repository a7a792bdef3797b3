/-! seek: walks -/
set_option maxRecDepth 10000 in
set_option maxHeartbeats 4000000 in
theorem u131 {d : Nat} {I : Nat → Nat → Int32} {D : Nat → Nat → UInt64} {R : Nat → Nat → Option Nat} {Q : j_Po} {x : UInt64} {y : UInt64} {z : UInt64}   (hd : 0 ≤ d)
    (v1 : Q none w1 ((j_u (j_u I 106 5 0) 106 6 0), (j_u (j_u (j_u D 106 0 x) 106 1 y) 106 2 z), RR R)) : j_Call d 131 [.ref 106, .double x, .double y, .double z] w1 (I, D, RR R) 0 0 Q := by
  refine q_enter (L := [some (.ref 106), some (.double x), none, some (.double y), none, some (.double z), none]) j_m131 (Nat.le_of_ble_eq_true rfl) rfl ?_
  refine q_aload_n d131_0 rfl ?_
  refine q_dload_n d131_1 rfl ?_
  refine q_putD d131_2 (fs1_7 131 rfl) (Or.inl rfl) rfl (lt_w1 rfl) sh106 ?_
  refine q_aload_n d131_5 rfl ?_
  refine q_dload_n d131_6 rfl ?_
  refine q_putD d131_7 (fs1_13 131 rfl) (Or.inl rfl) rfl (lt_w1 rfl) sh106 ?_
  refine q_aload_n d131_10 rfl ?_
  refine q_dload d131_11 rfl ?_
  refine q_putD d131_13 (fs1_16 131 rfl) (Or.inl rfl) rfl (lt_w1 rfl) sh106 ?_
  refine q_aload_n d131_16 rfl ?_
  refine q_iconst (v := 0) (by decide) d131_17 ?_
  refine q_putI d131_18 (fs1_19 131 rfl) (Or.inl rfl) rfl (lt_w1 rfl) sh106 ?_
  refine q_aload_n d131_21 rfl ?_
  refine q_iconst (v := 0) (by decide) d131_22 ?_
  refine q_putZ d131_23 (fs1_23 131 rfl) (Or.inl rfl) rfl (Or.inl rfl) (lt_w1 rfl) sh106 ?_
  exact q_ret d131_26 rfl (Nat.le_refl _) (Nat.le_refl _) v1

set_option maxRecDepth 10000 in
set_option maxHeartbeats 4000000 in
theorem u134 {d : Nat} {I : Nat → Nat → Int32} {D : Nat → Nat → UInt64} {R : Nat → Nat → Option Nat} {Q : j_Po} {x : UInt64} {y : UInt64}   (hd : 0 ≤ d)
    (v1 : Q none w1 ((j_u I 106 6 1), (j_u (j_u D 106 7 x) 106 8 y), RR R)) : j_Call d 134 [.ref 106, .double x, .double y] w1 (I, D, RR R) 0 0 Q := by
  refine q_enter (L := [some (.ref 106), some (.double x), none, some (.double y), none]) j_m134 (Nat.le_of_ble_eq_true rfl) rfl ?_
  refine q_aload_n d134_0 rfl ?_
  refine q_iconst (v := 1) (by decide) d134_1 ?_
  refine q_putZ d134_2 (fs1_23 134 rfl) (Or.inl rfl) rfl (Or.inr rfl) (lt_w1 rfl) sh106 ?_
  refine q_aload_n d134_5 rfl ?_
  refine q_dload_n d134_6 rfl ?_
  refine q_putD d134_7 (fs1_27 134 rfl) (Or.inl rfl) rfl (lt_w1 rfl) sh106 ?_
  refine q_aload_n d134_10 rfl ?_
  refine q_dload_n d134_11 rfl ?_
  refine q_putD d134_12 (fs1_30 134 rfl) (Or.inl rfl) rfl (lt_w1 rfl) sh106 ?_
  exact q_ret d134_15 rfl (Nat.le_refl _) (Nat.le_refl _) v1

set_option maxRecDepth 10000 in
set_option maxHeartbeats 4000000 in
theorem u133 {d : Nat} {I : Nat → Nat → Int32} {D : Nat → Nat → UInt64} {R : Nat → Nat → Option Nat} {Q : j_Po}    (hd : 1 ≤ d)
    (v1 : (deq (D 106 3) (D 106 2) = false) → (deq (D 106 4) (D 106 2) = false) → Q (some (.int (I 106 6))) w1 (I, D, RR R))
    (v2 : (deq (D 106 3) (D 106 2) = false) → (deq (D 106 4) (D 106 2) = false) → (I 106 6) = 0 ∨ (I 106 6) = 1)
    (v3 : (deq (D 106 3) (D 106 2) = false) → (deq (D 106 4) (D 106 2) = true) → Q (some (.int 1)) w1 ((j_u I 106 6 1), (j_u (j_u D 106 7 (D 106 1)) 106 8 (D 106 4)), RR R))
    (v4 : (deq (D 106 3) (D 106 2) = true) → Q (some (.int 1)) w1 ((j_u I 106 6 1), (j_u (j_u D 106 7 (D 106 0)) 106 8 (D 106 3)), RR R)) : j_Call d 133 [.ref 106] w1 (I, D, RR R) 0 0 Q := by
  refine q_enter (L := [some (.ref 106)]) j_m133 (Nat.le_of_ble_eq_true rfl) rfl ?_
  refine q_aload_n d133_0 rfl ?_
  refine q_getD d133_1 (fs1_33 133 rfl) rfl (lt_w1 rfl) sh106 ?_
  refine q_aload_n d133_4 rfl ?_
  refine q_getD d133_5 (fs1_16 133 rfl) rfl (lt_w1 rfl) sh106 ?_
  refine q_dcmp d133_8 ?_
  refine q_if_ne (tgt := 27) d133_9 rfl (fun h1t => ?_) (fun h1f => ?_)
  ·
    have h1tc : deq (D 106 3) (D 106 2) = false := dc_l_ne_t h1t
    refine q_aload_n d133_27 rfl ?_
    refine q_getD d133_28 (fs1_40 133 rfl) rfl (lt_w1 rfl) sh106 ?_
    refine q_aload_n d133_31 rfl ?_
    refine q_getD d133_32 (fs1_16 133 rfl) rfl (lt_w1 rfl) sh106 ?_
    refine q_dcmp d133_35 ?_
    refine q_if_ne (tgt := 51) d133_36 rfl (fun h2t => ?_) (fun h2f => ?_)
    ·
      have h2tc : deq (D 106 4) (D 106 2) = false := dc_l_ne_t h2t
      refine q_aload_n d133_51 rfl ?_
      refine q_getI d133_52 (fs1_23 133 rfl) rfl (lt_w1 rfl) sh106 ?_
      exact q_zret d133_55 rfl (v2 h1tc h2tc) (Nat.le_refl _) (Nat.le_refl _) (v1 h1tc h2tc)
    ·
      have h2fc : deq (D 106 4) (D 106 2) = true := dc_l_ne_f h2f
      refine q_aload_n d133_39 rfl ?_
      refine q_aload_n d133_40 rfl ?_
      refine q_getD d133_41 (fs1_13 133 rfl) rfl (lt_w1 rfl) sh106 ?_
      refine q_aload_n d133_44 rfl ?_
      refine q_getD d133_45 (fs1_40 133 rfl) rfl (lt_w1 rfl) sh106 ?_
      refine q_invV (o := 106) (ci := 1) (av := [.double (D 106 1), .double (D 106 4)]) (rest := []) (d' := 0) (mc' := 0) (ms' := 0) d133_48 (cv1_36 133 rfl) rfl (by decide) rfl rfl (by omega) (Nat.le_of_ble_eq_true rfl) (Nat.le_of_ble_eq_true rfl) (lt_w1 rfl) sh106 (Nat.le_refl _) (Nat.le_refl _) ?_
      refine u134   (Nat.le_refl _) ?_
      show j_W 133 d 0 0 0 0 51 [some (.ref 106)] [] w1 ((j_u I 106 6 1), (j_u (j_u D 106 7 (D 106 1)) 106 8 (D 106 4)), RR R) Q
      refine q_aload_n d133_51 rfl ?_
      refine q_getI d133_52 (fs1_23 133 rfl) rfl (lt_w1 rfl) sh106 ?_
      refine r_int (y := 1) (show (j_u I 106 6 1) 106 6 = 1 from (j_u_same _ _ _ _)) ?_
      exact q_zret d133_55 rfl (Or.inr rfl) (Nat.le_refl _) (Nat.le_refl _) (v3 h1tc h2fc)
  ·
    have h1fc : deq (D 106 3) (D 106 2) = true := dc_l_ne_f h1f
    refine q_aload_n d133_12 rfl ?_
    refine q_aload_n d133_13 rfl ?_
    refine q_getD d133_14 (fs1_7 133 rfl) rfl (lt_w1 rfl) sh106 ?_
    refine q_aload_n d133_17 rfl ?_
    refine q_getD d133_18 (fs1_33 133 rfl) rfl (lt_w1 rfl) sh106 ?_
    refine q_invV (o := 106) (ci := 1) (av := [.double (D 106 0), .double (D 106 3)]) (rest := []) (d' := 0) (mc' := 0) (ms' := 0) d133_21 (cv1_36 133 rfl) rfl (by decide) rfl rfl (by omega) (Nat.le_of_ble_eq_true rfl) (Nat.le_of_ble_eq_true rfl) (lt_w1 rfl) sh106 (Nat.le_refl _) (Nat.le_refl _) ?_
    refine u134   (Nat.le_refl _) ?_
    show j_W 133 d 0 0 0 0 24 [some (.ref 106)] [] w1 ((j_u I 106 6 1), (j_u (j_u D 106 7 (D 106 0)) 106 8 (D 106 3)), RR R) Q
    refine q_goto (tgt := 51) d133_24 rfl ?_
    refine q_aload_n d133_51 rfl ?_
    refine q_getI d133_52 (fs1_23 133 rfl) rfl (lt_w1 rfl) sh106 ?_
    refine r_int (y := 1) (show (j_u I 106 6 1) 106 6 = 1 from (j_u_same _ _ _ _)) ?_
    exact q_zret d133_55 rfl (Or.inr rfl) (Nat.le_refl _) (Nat.le_refl _) (v4 h1fc)

set_option maxRecDepth 10000 in
set_option maxHeartbeats 4000000 in
theorem u135 {d : Nat} {I : Nat → Nat → Int32} {D : Nat → Nat → UInt64} {R : Nat → Nat → Option Nat} {Q : j_Po}    (hd : 0 ≤ d)
    (v1 : (dlt (D 106 3) (D 106 2) = false) → (dlt (D 106 4) (D 106 2) = false) → Q (some (.int 0)) w1 (I, D, RR R))
    (v2 : (dlt (D 106 3) (D 106 2) = false) → (dlt (D 106 4) (D 106 2) = true) → (dlt (D 106 2) (D 106 3) = false) → Q (some (.int 0)) w1 (I, D, RR R))
    (v3 : (dlt (D 106 3) (D 106 2) = false) → (dlt (D 106 4) (D 106 2) = true) → (dlt (D 106 2) (D 106 3) = true) → Q (some (.int 1)) w1 (I, D, RR R))
    (v4 : (dlt (D 106 3) (D 106 2) = true) → (dlt (D 106 2) (D 106 4) = true) → Q (some (.int 1)) w1 (I, D, RR R))
    (v5 : (dlt (D 106 3) (D 106 2) = true) → (dlt (D 106 2) (D 106 4) = false) → (dlt (D 106 4) (D 106 2) = false) → Q (some (.int 0)) w1 (I, D, RR R))
    (v6 : (dlt (D 106 3) (D 106 2) = true) → (dlt (D 106 2) (D 106 4) = false) → (dlt (D 106 4) (D 106 2) = true) → (dlt (D 106 2) (D 106 3) = false) → Q (some (.int 0)) w1 (I, D, RR R))
    (v7 : (dlt (D 106 3) (D 106 2) = true) → (dlt (D 106 2) (D 106 4) = false) → (dlt (D 106 4) (D 106 2) = true) → (dlt (D 106 2) (D 106 3) = true) → Q (some (.int 1)) w1 (I, D, RR R)) : j_Call d 135 [.ref 106] w1 (I, D, RR R) 0 0 Q := by
  refine q_enter (L := [some (.ref 106)]) j_m135 (Nat.le_of_ble_eq_true rfl) rfl ?_
  refine q_aload_n d135_0 rfl ?_
  refine q_getD d135_1 (fs1_33 135 rfl) rfl (lt_w1 rfl) sh106 ?_
  refine q_aload_n d135_4 rfl ?_
  refine q_getD d135_5 (fs1_16 135 rfl) rfl (lt_w1 rfl) sh106 ?_
  refine q_dcmp d135_8 ?_
  refine q_if_ge (tgt := 24) d135_9 rfl (fun h1t => ?_) (fun h1f => ?_)
  ·
    have h1tc : dlt (D 106 3) (D 106 2) = false := dc_g_ge_t h1t
    refine q_aload_n d135_24 rfl ?_
    refine q_getD d135_25 (fs1_40 135 rfl) rfl (lt_w1 rfl) sh106 ?_
    refine q_aload_n d135_28 rfl ?_
    refine q_getD d135_29 (fs1_16 135 rfl) rfl (lt_w1 rfl) sh106 ?_
    refine q_dcmp d135_32 ?_
    refine q_if_ge (tgt := 52) d135_33 rfl (fun h2t => ?_) (fun h2f => ?_)
    ·
      have h2tc : dlt (D 106 4) (D 106 2) = false := dc_g_ge_t h2t
      refine q_iconst (v := 0) (by decide) d135_52 ?_
      exact q_zret d135_53 rfl (Or.inl rfl) (Nat.le_refl _) (Nat.le_refl _) (v1 h1tc h2tc)
    ·
      have h2fc : dlt (D 106 4) (D 106 2) = true := dc_g_ge_f h2f
      refine q_aload_n d135_36 rfl ?_
      refine q_getD d135_37 (fs1_16 135 rfl) rfl (lt_w1 rfl) sh106 ?_
      refine q_aload_n d135_40 rfl ?_
      refine q_getD d135_41 (fs1_33 135 rfl) rfl (lt_w1 rfl) sh106 ?_
      refine q_dcmp d135_44 ?_
      refine q_if_ge (tgt := 52) d135_45 rfl (fun h3t => ?_) (fun h3f => ?_)
      ·
        have h3tc : dlt (D 106 2) (D 106 3) = false := dc_g_ge_t h3t
        refine q_iconst (v := 0) (by decide) d135_52 ?_
        exact q_zret d135_53 rfl (Or.inl rfl) (Nat.le_refl _) (Nat.le_refl _) (v2 h1tc h2fc h3tc)
      ·
        have h3fc : dlt (D 106 2) (D 106 3) = true := dc_g_ge_f h3f
        refine q_iconst (v := 1) (by decide) d135_48 ?_
        refine q_goto (tgt := 53) d135_49 rfl ?_
        exact q_zret d135_53 rfl (Or.inr rfl) (Nat.le_refl _) (Nat.le_refl _) (v3 h1tc h2fc h3fc)
  ·
    have h1fc : dlt (D 106 3) (D 106 2) = true := dc_g_ge_f h1f
    refine q_aload_n d135_12 rfl ?_
    refine q_getD d135_13 (fs1_16 135 rfl) rfl (lt_w1 rfl) sh106 ?_
    refine q_aload_n d135_16 rfl ?_
    refine q_getD d135_17 (fs1_40 135 rfl) rfl (lt_w1 rfl) sh106 ?_
    refine q_dcmp d135_20 ?_
    refine q_if_lt (tgt := 48) d135_21 rfl (fun h4t => ?_) (fun h4f => ?_)
    ·
      have h4tc : dlt (D 106 2) (D 106 4) = true := dc_g_lt_t h4t
      refine q_iconst (v := 1) (by decide) d135_48 ?_
      refine q_goto (tgt := 53) d135_49 rfl ?_
      exact q_zret d135_53 rfl (Or.inr rfl) (Nat.le_refl _) (Nat.le_refl _) (v4 h1fc h4tc)
    ·
      have h4fc : dlt (D 106 2) (D 106 4) = false := dc_g_lt_f h4f
      refine q_aload_n d135_24 rfl ?_
      refine q_getD d135_25 (fs1_40 135 rfl) rfl (lt_w1 rfl) sh106 ?_
      refine q_aload_n d135_28 rfl ?_
      refine q_getD d135_29 (fs1_16 135 rfl) rfl (lt_w1 rfl) sh106 ?_
      refine q_dcmp d135_32 ?_
      refine q_if_ge (tgt := 52) d135_33 rfl (fun h5t => ?_) (fun h5f => ?_)
      ·
        have h5tc : dlt (D 106 4) (D 106 2) = false := dc_g_ge_t h5t
        refine q_iconst (v := 0) (by decide) d135_52 ?_
        exact q_zret d135_53 rfl (Or.inl rfl) (Nat.le_refl _) (Nat.le_refl _) (v5 h1fc h4fc h5tc)
      ·
        have h5fc : dlt (D 106 4) (D 106 2) = true := dc_g_ge_f h5f
        refine q_aload_n d135_36 rfl ?_
        refine q_getD d135_37 (fs1_16 135 rfl) rfl (lt_w1 rfl) sh106 ?_
        refine q_aload_n d135_40 rfl ?_
        refine q_getD d135_41 (fs1_33 135 rfl) rfl (lt_w1 rfl) sh106 ?_
        refine q_dcmp d135_44 ?_
        refine q_if_ge (tgt := 52) d135_45 rfl (fun h6t => ?_) (fun h6f => ?_)
        ·
          have h6tc : dlt (D 106 2) (D 106 3) = false := dc_g_ge_t h6t
          refine q_iconst (v := 0) (by decide) d135_52 ?_
          exact q_zret d135_53 rfl (Or.inl rfl) (Nat.le_refl _) (Nat.le_refl _) (v6 h1fc h4fc h5fc h6tc)
        ·
          have h6fc : dlt (D 106 2) (D 106 3) = true := dc_g_ge_f h6f
          refine q_iconst (v := 1) (by decide) d135_48 ?_
          refine q_goto (tgt := 53) d135_49 rfl ?_
          exact q_zret d135_53 rfl (Or.inr rfl) (Nat.le_refl _) (Nat.le_refl _) (v7 h1fc h4fc h5fc h6fc)

set_option maxRecDepth 10000 in
set_option maxHeartbeats 4000000 in
theorem u137 {d : Nat} {I : Nat → Nat → Int32} {D : Nat → Nat → UInt64} {R : Nat → Nat → Option Nat} {Q : j_Po} {x : UInt64}   (hd : 0 ≤ d)
    (v1 : (dgt x (D 106 0) = false) → Q (some (.int 0)) w1 (I, D, RR R))
    (v2 : (dgt x (D 106 0) = true) → (dlt x (D 106 1) = false) → Q (some (.int 0)) w1 (I, D, RR R))
    (v3 : (dgt x (D 106 0) = true) → (dlt x (D 106 1) = true) → Q (some (.int 1)) w1 (I, D, RR R)) : j_Call d 137 [.ref 106, .double x] w1 (I, D, RR R) 0 0 Q := by
  refine q_enter (L := [some (.ref 106), some (.double x), none]) j_m137 (Nat.le_of_ble_eq_true rfl) rfl ?_
  refine q_dload_n d137_0 rfl ?_
  refine q_aload_n d137_1 rfl ?_
  refine q_getD d137_2 (fs1_7 137 rfl) rfl (lt_w1 rfl) sh106 ?_
  refine q_dcmp d137_5 ?_
  refine q_if_le (tgt := 22) d137_6 rfl (fun h1t => ?_) (fun h1f => ?_)
  ·
    have h1tc : dgt x (D 106 0) = false := dc_l_le_t h1t
    refine q_iconst (v := 0) (by decide) d137_22 ?_
    exact q_zret d137_23 rfl (Or.inl rfl) (Nat.le_refl _) (Nat.le_refl _) (v1 h1tc)
  ·
    have h1fc : dgt x (D 106 0) = true := dc_l_le_f h1f
    refine q_dload_n d137_9 rfl ?_
    refine q_aload_n d137_10 rfl ?_
    refine q_getD d137_11 (fs1_13 137 rfl) rfl (lt_w1 rfl) sh106 ?_
    refine q_dcmp d137_14 ?_
    refine q_if_ge (tgt := 22) d137_15 rfl (fun h2t => ?_) (fun h2f => ?_)
    ·
      have h2tc : dlt x (D 106 1) = false := dc_g_ge_t h2t
      refine q_iconst (v := 0) (by decide) d137_22 ?_
      exact q_zret d137_23 rfl (Or.inl rfl) (Nat.le_refl _) (Nat.le_refl _) (v2 h1fc h2tc)
    ·
      have h2fc : dlt x (D 106 1) = true := dc_g_ge_f h2f
      refine q_iconst (v := 1) (by decide) d137_18 ?_
      refine q_goto (tgt := 23) d137_19 rfl ?_
      exact q_zret d137_23 rfl (Or.inr rfl) (Nat.le_refl _) (Nat.le_refl _) (v3 h1fc h2fc)

set_option maxRecDepth 10000 in
set_option maxHeartbeats 4000000 in
theorem u138 {d : Nat} {I : Nat → Nat → Int32} {D : Nat → Nat → UInt64} {R : Nat → Nat → Option Nat} {Q : j_Po} {x : UInt64} {y : UInt64}   (hd : 0 ≤ d)
    (v1 : vf_n64 (FP.dsub (D 106 1) (D 106 0)))
    (v2 : (dlt y (D 106 2) = false) → (dlt (D 106 3) (D 106 2) = false) → vf_n64 (FP.dsub (D 106 1) x))
    (v3 : (dlt y (D 106 2) = false) → (dlt (D 106 3) (D 106 2) = false) → vf_n64 (FP.ddiv (FP.dsub (D 106 1) (D 106 0)) 4611686018427387904))
    (v4 : (dlt y (D 106 2) = false) → (dlt (D 106 3) (D 106 2) = false) → (dle (FP.dsub (D 106 1) x) (FP.ddiv (FP.dsub (D 106 1) (D 106 0)) 4611686018427387904) = false) → Q (some (.int 0)) w1 (I, (j_u (j_u D 106 0 x) 106 3 y), RR R))
    (v5 : (dlt y (D 106 2) = false) → (dlt (D 106 3) (D 106 2) = false) → (dle (FP.dsub (D 106 1) x) (FP.ddiv (FP.dsub (D 106 1) (D 106 0)) 4611686018427387904) = true) → Q (some (.int 1)) w1 (I, (j_u (j_u D 106 0 x) 106 3 y), RR R))
    (v6 : (dlt y (D 106 2) = false) → (dlt (D 106 3) (D 106 2) = true) → vf_n64 (FP.dsub x (D 106 0)))
    (v7 : (dlt y (D 106 2) = false) → (dlt (D 106 3) (D 106 2) = true) → vf_n64 (FP.ddiv (FP.dsub (D 106 1) (D 106 0)) 4611686018427387904))
    (v8 : (dlt y (D 106 2) = false) → (dlt (D 106 3) (D 106 2) = true) → (dle (FP.dsub x (D 106 0)) (FP.ddiv (FP.dsub (D 106 1) (D 106 0)) 4611686018427387904) = false) → Q (some (.int 0)) w1 (I, (j_u (j_u D 106 1 x) 106 4 y), RR R))
    (v9 : (dlt y (D 106 2) = false) → (dlt (D 106 3) (D 106 2) = true) → (dle (FP.dsub x (D 106 0)) (FP.ddiv (FP.dsub (D 106 1) (D 106 0)) 4611686018427387904) = true) → Q (some (.int 1)) w1 (I, (j_u (j_u D 106 1 x) 106 4 y), RR R))
    (v10 : (dlt y (D 106 2) = true) → (dlt (D 106 3) (D 106 2) = false) → vf_n64 (FP.dsub x (D 106 0)))
    (v11 : (dlt y (D 106 2) = true) → (dlt (D 106 3) (D 106 2) = false) → vf_n64 (FP.ddiv (FP.dsub (D 106 1) (D 106 0)) 4611686018427387904))
    (v12 : (dlt y (D 106 2) = true) → (dlt (D 106 3) (D 106 2) = false) → (dle (FP.dsub x (D 106 0)) (FP.ddiv (FP.dsub (D 106 1) (D 106 0)) 4611686018427387904) = false) → Q (some (.int 0)) w1 (I, (j_u (j_u D 106 1 x) 106 4 y), RR R))
    (v13 : (dlt y (D 106 2) = true) → (dlt (D 106 3) (D 106 2) = false) → (dle (FP.dsub x (D 106 0)) (FP.ddiv (FP.dsub (D 106 1) (D 106 0)) 4611686018427387904) = true) → Q (some (.int 1)) w1 (I, (j_u (j_u D 106 1 x) 106 4 y), RR R))
    (v14 : (dlt y (D 106 2) = true) → (dlt (D 106 3) (D 106 2) = true) → vf_n64 (FP.dsub (D 106 1) x))
    (v15 : (dlt y (D 106 2) = true) → (dlt (D 106 3) (D 106 2) = true) → vf_n64 (FP.ddiv (FP.dsub (D 106 1) (D 106 0)) 4611686018427387904))
    (v16 : (dlt y (D 106 2) = true) → (dlt (D 106 3) (D 106 2) = true) → (dle (FP.dsub (D 106 1) x) (FP.ddiv (FP.dsub (D 106 1) (D 106 0)) 4611686018427387904) = false) → Q (some (.int 0)) w1 (I, (j_u (j_u D 106 0 x) 106 3 y), RR R))
    (v17 : (dlt y (D 106 2) = true) → (dlt (D 106 3) (D 106 2) = true) → (dle (FP.dsub (D 106 1) x) (FP.ddiv (FP.dsub (D 106 1) (D 106 0)) 4611686018427387904) = true) → Q (some (.int 1)) w1 (I, (j_u (j_u D 106 0 x) 106 3 y), RR R)) : j_Call d 138 [.ref 106, .double x, .double y] w1 (I, D, RR R) 0 0 Q := by
  refine q_enter (L := [some (.ref 106), some (.double x), none, some (.double y), none, none, none]) j_m138 (Nat.le_of_ble_eq_true rfl) rfl ?_
  refine q_aload_n d138_0 rfl ?_
  refine q_getD d138_1 (fs1_13 138 rfl) rfl (lt_w1 rfl) sh106 ?_
  refine q_aload_n d138_4 rfl ?_
  refine q_getD d138_5 (fs1_7 138 rfl) rfl (lt_w1 rfl) sh106 ?_
  refine q_dsub v1 d138_8 ?_
  refine q_dstore (L' := [some (.ref 106), some (.double x), none, some (.double y), none, some (.double (FP.dsub (D 106 1) (D 106 0))), none]) d138_9 (Nat.le_of_ble_eq_true rfl) rfl ?_
  refine q_dload_n d138_11 rfl ?_
  refine q_aload_n d138_12 rfl ?_
  refine q_getD d138_13 (fs1_16 138 rfl) rfl (lt_w1 rfl) sh106 ?_
  refine q_dcmp d138_16 ?_
  refine q_if_ge (tgt := 24) d138_17 rfl (fun h1t => ?_) (fun h1f => ?_)
  ·
    have h1tc : dlt y (D 106 2) = false := dc_g_ge_t h1t
    refine q_iconst (v := 0) (by decide) d138_24 ?_
    refine q_aload_n d138_25 rfl ?_
    refine q_getD d138_26 (fs1_33 138 rfl) rfl (lt_w1 rfl) sh106 ?_
    refine q_aload_n d138_29 rfl ?_
    refine q_getD d138_30 (fs1_16 138 rfl) rfl (lt_w1 rfl) sh106 ?_
    refine q_dcmp d138_33 ?_
    refine q_if_ge (tgt := 41) d138_34 rfl (fun h2t => ?_) (fun h2f => ?_)
    ·
      have h2tc : dlt (D 106 3) (D 106 2) = false := dc_g_ge_t h2t
      refine q_iconst (v := 0) (by decide) d138_41 ?_
      refine q_icmp_ne (tgt := 58) d138_42 rfl (fun h => absurd h (by decide)) (fun _ => ?_)
      refine q_aload_n d138_45 rfl ?_
      refine q_dload_n d138_46 rfl ?_
      refine q_putD d138_47 (fs1_7 138 rfl) (Or.inl rfl) rfl (lt_w1 rfl) sh106 ?_
      refine q_aload_n d138_50 rfl ?_
      refine q_dload_n d138_51 rfl ?_
      refine q_putD d138_52 (fs1_33 138 rfl) (Or.inl rfl) rfl (lt_w1 rfl) sh106 ?_
      refine q_goto (tgt := 68) d138_55 rfl ?_
      refine q_aload_n d138_68 rfl ?_
      refine q_getD d138_69 (fs1_13 138 rfl) rfl (lt_w1 rfl) sh106 ?_
      refine r_dbl (y := (D 106 1)) (show (j_u (j_u D 106 0 x) 106 3 y) 106 1 = (D 106 1) from ((j_u_k _ _ (by decide)).trans (j_u_k _ _ (by decide)))) ?_
      refine q_aload_n d138_72 rfl ?_
      refine q_getD d138_73 (fs1_7 138 rfl) rfl (lt_w1 rfl) sh106 ?_
      refine r_dbl (y := x) (show (j_u (j_u D 106 0 x) 106 3 y) 106 0 = x from ((j_u_k _ _ (by decide)).trans (j_u_same _ _ _ _))) ?_
      refine q_dsub (v2 h1tc h2tc) d138_76 ?_
      refine q_dload d138_77 rfl ?_
      refine q_ldcD (v := 4611686018427387904) d138_79 (kc1_43 138 rfl) ?_
      refine q_ddiv (v3 h1tc h2tc) d138_82 ?_
      refine q_dcmp d138_83 ?_
      refine q_if_gt (tgt := 91) d138_84 rfl (fun h3t => ?_) (fun h3f => ?_)
      ·
        have h3tc : dle (FP.dsub (D 106 1) x) (FP.ddiv (FP.dsub (D 106 1) (D 106 0)) 4611686018427387904) = false := dc_g_gt_t h3t
        refine q_iconst (v := 0) (by decide) d138_91 ?_
        exact q_zret d138_92 rfl (Or.inl rfl) (Nat.le_refl _) (Nat.le_refl _) (v4 h1tc h2tc h3tc)
      ·
        have h3fc : dle (FP.dsub (D 106 1) x) (FP.ddiv (FP.dsub (D 106 1) (D 106 0)) 4611686018427387904) = true := dc_g_gt_f h3f
        refine q_iconst (v := 1) (by decide) d138_87 ?_
        refine q_goto (tgt := 92) d138_88 rfl ?_
        exact q_zret d138_92 rfl (Or.inr rfl) (Nat.le_refl _) (Nat.le_refl _) (v5 h1tc h2tc h3fc)
    ·
      have h2fc : dlt (D 106 3) (D 106 2) = true := dc_g_ge_f h2f
      refine q_iconst (v := 1) (by decide) d138_37 ?_
      refine q_goto (tgt := 42) d138_38 rfl ?_
      refine q_icmp_ne (tgt := 58) d138_42 rfl (fun _ => ?_) (fun h => absurd h (by decide))
      refine q_aload_n d138_58 rfl ?_
      refine q_dload_n d138_59 rfl ?_
      refine q_putD d138_60 (fs1_13 138 rfl) (Or.inl rfl) rfl (lt_w1 rfl) sh106 ?_
      refine q_aload_n d138_63 rfl ?_
      refine q_dload_n d138_64 rfl ?_
      refine q_putD d138_65 (fs1_40 138 rfl) (Or.inl rfl) rfl (lt_w1 rfl) sh106 ?_
      refine q_aload_n d138_68 rfl ?_
      refine q_getD d138_69 (fs1_13 138 rfl) rfl (lt_w1 rfl) sh106 ?_
      refine r_dbl (y := x) (show (j_u (j_u D 106 1 x) 106 4 y) 106 1 = x from ((j_u_k _ _ (by decide)).trans (j_u_same _ _ _ _))) ?_
      refine q_aload_n d138_72 rfl ?_
      refine q_getD d138_73 (fs1_7 138 rfl) rfl (lt_w1 rfl) sh106 ?_
      refine r_dbl (y := (D 106 0)) (show (j_u (j_u D 106 1 x) 106 4 y) 106 0 = (D 106 0) from ((j_u_k _ _ (by decide)).trans (j_u_k _ _ (by decide)))) ?_
      refine q_dsub (v6 h1tc h2fc) d138_76 ?_
      refine q_dload d138_77 rfl ?_
      refine q_ldcD (v := 4611686018427387904) d138_79 (kc1_43 138 rfl) ?_
      refine q_ddiv (v7 h1tc h2fc) d138_82 ?_
      refine q_dcmp d138_83 ?_
      refine q_if_gt (tgt := 91) d138_84 rfl (fun h4t => ?_) (fun h4f => ?_)
      ·
        have h4tc : dle (FP.dsub x (D 106 0)) (FP.ddiv (FP.dsub (D 106 1) (D 106 0)) 4611686018427387904) = false := dc_g_gt_t h4t
        refine q_iconst (v := 0) (by decide) d138_91 ?_
        exact q_zret d138_92 rfl (Or.inl rfl) (Nat.le_refl _) (Nat.le_refl _) (v8 h1tc h2fc h4tc)
      ·
        have h4fc : dle (FP.dsub x (D 106 0)) (FP.ddiv (FP.dsub (D 106 1) (D 106 0)) 4611686018427387904) = true := dc_g_gt_f h4f
        refine q_iconst (v := 1) (by decide) d138_87 ?_
        refine q_goto (tgt := 92) d138_88 rfl ?_
        exact q_zret d138_92 rfl (Or.inr rfl) (Nat.le_refl _) (Nat.le_refl _) (v9 h1tc h2fc h4fc)
  ·
    have h1fc : dlt y (D 106 2) = true := dc_g_ge_f h1f
    refine q_iconst (v := 1) (by decide) d138_20 ?_
    refine q_goto (tgt := 25) d138_21 rfl ?_
    refine q_aload_n d138_25 rfl ?_
    refine q_getD d138_26 (fs1_33 138 rfl) rfl (lt_w1 rfl) sh106 ?_
    refine q_aload_n d138_29 rfl ?_
    refine q_getD d138_30 (fs1_16 138 rfl) rfl (lt_w1 rfl) sh106 ?_
    refine q_dcmp d138_33 ?_
    refine q_if_ge (tgt := 41) d138_34 rfl (fun h5t => ?_) (fun h5f => ?_)
    ·
      have h5tc : dlt (D 106 3) (D 106 2) = false := dc_g_ge_t h5t
      refine q_iconst (v := 0) (by decide) d138_41 ?_
      refine q_icmp_ne (tgt := 58) d138_42 rfl (fun _ => ?_) (fun h => absurd h (by decide))
      refine q_aload_n d138_58 rfl ?_
      refine q_dload_n d138_59 rfl ?_
      refine q_putD d138_60 (fs1_13 138 rfl) (Or.inl rfl) rfl (lt_w1 rfl) sh106 ?_
      refine q_aload_n d138_63 rfl ?_
      refine q_dload_n d138_64 rfl ?_
      refine q_putD d138_65 (fs1_40 138 rfl) (Or.inl rfl) rfl (lt_w1 rfl) sh106 ?_
      refine q_aload_n d138_68 rfl ?_
      refine q_getD d138_69 (fs1_13 138 rfl) rfl (lt_w1 rfl) sh106 ?_
      refine r_dbl (y := x) (show (j_u (j_u D 106 1 x) 106 4 y) 106 1 = x from ((j_u_k _ _ (by decide)).trans (j_u_same _ _ _ _))) ?_
      refine q_aload_n d138_72 rfl ?_
      refine q_getD d138_73 (fs1_7 138 rfl) rfl (lt_w1 rfl) sh106 ?_
      refine r_dbl (y := (D 106 0)) (show (j_u (j_u D 106 1 x) 106 4 y) 106 0 = (D 106 0) from ((j_u_k _ _ (by decide)).trans (j_u_k _ _ (by decide)))) ?_
      refine q_dsub (v10 h1fc h5tc) d138_76 ?_
      refine q_dload d138_77 rfl ?_
      refine q_ldcD (v := 4611686018427387904) d138_79 (kc1_43 138 rfl) ?_
      refine q_ddiv (v11 h1fc h5tc) d138_82 ?_
      refine q_dcmp d138_83 ?_
      refine q_if_gt (tgt := 91) d138_84 rfl (fun h6t => ?_) (fun h6f => ?_)
      ·
        have h6tc : dle (FP.dsub x (D 106 0)) (FP.ddiv (FP.dsub (D 106 1) (D 106 0)) 4611686018427387904) = false := dc_g_gt_t h6t
        refine q_iconst (v := 0) (by decide) d138_91 ?_
        exact q_zret d138_92 rfl (Or.inl rfl) (Nat.le_refl _) (Nat.le_refl _) (v12 h1fc h5tc h6tc)
      ·
        have h6fc : dle (FP.dsub x (D 106 0)) (FP.ddiv (FP.dsub (D 106 1) (D 106 0)) 4611686018427387904) = true := dc_g_gt_f h6f
        refine q_iconst (v := 1) (by decide) d138_87 ?_
        refine q_goto (tgt := 92) d138_88 rfl ?_
        exact q_zret d138_92 rfl (Or.inr rfl) (Nat.le_refl _) (Nat.le_refl _) (v13 h1fc h5tc h6fc)
    ·
      have h5fc : dlt (D 106 3) (D 106 2) = true := dc_g_ge_f h5f
      refine q_iconst (v := 1) (by decide) d138_37 ?_
      refine q_goto (tgt := 42) d138_38 rfl ?_
      refine q_icmp_ne (tgt := 58) d138_42 rfl (fun h => absurd h (by decide)) (fun _ => ?_)
      refine q_aload_n d138_45 rfl ?_
      refine q_dload_n d138_46 rfl ?_
      refine q_putD d138_47 (fs1_7 138 rfl) (Or.inl rfl) rfl (lt_w1 rfl) sh106 ?_
      refine q_aload_n d138_50 rfl ?_
      refine q_dload_n d138_51 rfl ?_
      refine q_putD d138_52 (fs1_33 138 rfl) (Or.inl rfl) rfl (lt_w1 rfl) sh106 ?_
      refine q_goto (tgt := 68) d138_55 rfl ?_
      refine q_aload_n d138_68 rfl ?_
      refine q_getD d138_69 (fs1_13 138 rfl) rfl (lt_w1 rfl) sh106 ?_
      refine r_dbl (y := (D 106 1)) (show (j_u (j_u D 106 0 x) 106 3 y) 106 1 = (D 106 1) from ((j_u_k _ _ (by decide)).trans (j_u_k _ _ (by decide)))) ?_
      refine q_aload_n d138_72 rfl ?_
      refine q_getD d138_73 (fs1_7 138 rfl) rfl (lt_w1 rfl) sh106 ?_
      refine r_dbl (y := x) (show (j_u (j_u D 106 0 x) 106 3 y) 106 0 = x from ((j_u_k _ _ (by decide)).trans (j_u_same _ _ _ _))) ?_
      refine q_dsub (v14 h1fc h5fc) d138_76 ?_
      refine q_dload d138_77 rfl ?_
      refine q_ldcD (v := 4611686018427387904) d138_79 (kc1_43 138 rfl) ?_
      refine q_ddiv (v15 h1fc h5fc) d138_82 ?_
      refine q_dcmp d138_83 ?_
      refine q_if_gt (tgt := 91) d138_84 rfl (fun h7t => ?_) (fun h7f => ?_)
      ·
        have h7tc : dle (FP.dsub (D 106 1) x) (FP.ddiv (FP.dsub (D 106 1) (D 106 0)) 4611686018427387904) = false := dc_g_gt_t h7t
        refine q_iconst (v := 0) (by decide) d138_91 ?_
        exact q_zret d138_92 rfl (Or.inl rfl) (Nat.le_refl _) (Nat.le_refl _) (v16 h1fc h5fc h7tc)
      ·
        have h7fc : dle (FP.dsub (D 106 1) x) (FP.ddiv (FP.dsub (D 106 1) (D 106 0)) 4611686018427387904) = true := dc_g_gt_f h7f
        refine q_iconst (v := 1) (by decide) d138_87 ?_
        refine q_goto (tgt := 92) d138_88 rfl ?_
        exact q_zret d138_92 rfl (Or.inr rfl) (Nat.le_refl _) (Nat.le_refl _) (v17 h1fc h5fc h7fc)

set_option maxRecDepth 10000 in
set_option maxHeartbeats 4000000 in
theorem u139 {d : Nat} {I : Nat → Nat → Int32} {D : Nat → Nat → UInt64} {R : Nat → Nat → Option Nat} {Q : j_Po}    (hd : 1 ≤ d)
    (v1 : (dlt (D 106 3) (D 106 2) = false) → vf_n64 (FP.dsub (D 106 3) (D 106 2)))
    (v2 : (dlt (D 106 3) (D 106 2) = false) → (dlt (D 106 4) (D 106 2) = false) → vf_n64 (FP.dsub (D 106 4) (D 106 2)))
    (v3 : (dlt (D 106 3) (D 106 2) = false) → (dlt (D 106 4) (D 106 2) = false) → (dlt (FP.dsub (D 106 4) (D 106 2)) (FP.dsub (D 106 3) (D 106 2)) = false) → Q none w1 ((j_u I 106 6 1), (j_u (j_u D 106 7 (D 106 0)) 106 8 (D 106 3)), RR R))
    (v4 : (dlt (D 106 3) (D 106 2) = false) → (dlt (D 106 4) (D 106 2) = false) → (dlt (FP.dsub (D 106 4) (D 106 2)) (FP.dsub (D 106 3) (D 106 2)) = true) → Q none w1 ((j_u I 106 6 1), (j_u (j_u D 106 7 (D 106 1)) 106 8 (D 106 4)), RR R))
    (v5 : (dlt (D 106 3) (D 106 2) = false) → (dlt (D 106 4) (D 106 2) = true) → vf_n64 (FP.dsub (D 106 2) (D 106 4)))
    (v6 : (dlt (D 106 3) (D 106 2) = false) → (dlt (D 106 4) (D 106 2) = true) → (dlt (FP.dsub (D 106 2) (D 106 4)) (FP.dsub (D 106 3) (D 106 2)) = false) → Q none w1 ((j_u I 106 6 1), (j_u (j_u D 106 7 (D 106 0)) 106 8 (D 106 3)), RR R))
    (v7 : (dlt (D 106 3) (D 106 2) = false) → (dlt (D 106 4) (D 106 2) = true) → (dlt (FP.dsub (D 106 2) (D 106 4)) (FP.dsub (D 106 3) (D 106 2)) = true) → Q none w1 ((j_u I 106 6 1), (j_u (j_u D 106 7 (D 106 1)) 106 8 (D 106 4)), RR R))
    (v8 : (dlt (D 106 3) (D 106 2) = true) → vf_n64 (FP.dsub (D 106 2) (D 106 3)))
    (v9 : (dlt (D 106 3) (D 106 2) = true) → (dlt (D 106 4) (D 106 2) = false) → vf_n64 (FP.dsub (D 106 4) (D 106 2)))
    (v10 : (dlt (D 106 3) (D 106 2) = true) → (dlt (D 106 4) (D 106 2) = false) → (dlt (FP.dsub (D 106 4) (D 106 2)) (FP.dsub (D 106 2) (D 106 3)) = false) → Q none w1 ((j_u I 106 6 1), (j_u (j_u D 106 7 (D 106 0)) 106 8 (D 106 3)), RR R))
    (v11 : (dlt (D 106 3) (D 106 2) = true) → (dlt (D 106 4) (D 106 2) = false) → (dlt (FP.dsub (D 106 4) (D 106 2)) (FP.dsub (D 106 2) (D 106 3)) = true) → Q none w1 ((j_u I 106 6 1), (j_u (j_u D 106 7 (D 106 1)) 106 8 (D 106 4)), RR R))
    (v12 : (dlt (D 106 3) (D 106 2) = true) → (dlt (D 106 4) (D 106 2) = true) → vf_n64 (FP.dsub (D 106 2) (D 106 4)))
    (v13 : (dlt (D 106 3) (D 106 2) = true) → (dlt (D 106 4) (D 106 2) = true) → (dlt (FP.dsub (D 106 2) (D 106 4)) (FP.dsub (D 106 2) (D 106 3)) = false) → Q none w1 ((j_u I 106 6 1), (j_u (j_u D 106 7 (D 106 0)) 106 8 (D 106 3)), RR R))
    (v14 : (dlt (D 106 3) (D 106 2) = true) → (dlt (D 106 4) (D 106 2) = true) → (dlt (FP.dsub (D 106 2) (D 106 4)) (FP.dsub (D 106 2) (D 106 3)) = true) → Q none w1 ((j_u I 106 6 1), (j_u (j_u D 106 7 (D 106 1)) 106 8 (D 106 4)), RR R)) : j_Call d 139 [.ref 106] w1 (I, D, RR R) 0 0 Q := by
  refine q_enter (L := [some (.ref 106), none, none, none, none]) j_m139 (Nat.le_of_ble_eq_true rfl) rfl ?_
  refine q_aload_n d139_0 rfl ?_
  refine q_getD d139_1 (fs1_33 139 rfl) rfl (lt_w1 rfl) sh106 ?_
  refine q_aload_n d139_4 rfl ?_
  refine q_getD d139_5 (fs1_16 139 rfl) rfl (lt_w1 rfl) sh106 ?_
  refine q_dcmp d139_8 ?_
  refine q_if_ge (tgt := 24) d139_9 rfl (fun h1t => ?_) (fun h1f => ?_)
  ·
    have h1tc : dlt (D 106 3) (D 106 2) = false := dc_g_ge_t h1t
    refine q_aload_n d139_24 rfl ?_
    refine q_getD d139_25 (fs1_33 139 rfl) rfl (lt_w1 rfl) sh106 ?_
    refine q_aload_n d139_28 rfl ?_
    refine q_getD d139_29 (fs1_16 139 rfl) rfl (lt_w1 rfl) sh106 ?_
    refine q_dsub (v1 h1tc) d139_32 ?_
    refine q_dstore_n (L' := [some (.ref 106), some (.double (FP.dsub (D 106 3) (D 106 2))), none, none, none]) d139_33 (Nat.le_of_ble_eq_true rfl) rfl ?_
    refine q_aload_n d139_34 rfl ?_
    refine q_getD d139_35 (fs1_40 139 rfl) rfl (lt_w1 rfl) sh106 ?_
    refine q_aload_n d139_38 rfl ?_
    refine q_getD d139_39 (fs1_16 139 rfl) rfl (lt_w1 rfl) sh106 ?_
    refine q_dcmp d139_42 ?_
    refine q_if_ge (tgt := 58) d139_43 rfl (fun h2t => ?_) (fun h2f => ?_)
    ·
      have h2tc : dlt (D 106 4) (D 106 2) = false := dc_g_ge_t h2t
      refine q_aload_n d139_58 rfl ?_
      refine q_getD d139_59 (fs1_40 139 rfl) rfl (lt_w1 rfl) sh106 ?_
      refine q_aload_n d139_62 rfl ?_
      refine q_getD d139_63 (fs1_16 139 rfl) rfl (lt_w1 rfl) sh106 ?_
      refine q_dsub (v2 h1tc h2tc) d139_66 ?_
      refine q_dstore_n (L' := [some (.ref 106), some (.double (FP.dsub (D 106 3) (D 106 2))), none, some (.double (FP.dsub (D 106 4) (D 106 2))), none]) d139_67 (Nat.le_of_ble_eq_true rfl) rfl ?_
      refine q_dload_n d139_68 rfl ?_
      refine q_dload_n d139_69 rfl ?_
      refine q_dcmp d139_70 ?_
      refine q_if_ge (tgt := 89) d139_71 rfl (fun h3t => ?_) (fun h3f => ?_)
      ·
        have h3tc : dlt (FP.dsub (D 106 4) (D 106 2)) (FP.dsub (D 106 3) (D 106 2)) = false := dc_g_ge_t h3t
        refine q_aload_n d139_89 rfl ?_
        refine q_aload_n d139_90 rfl ?_
        refine q_getD d139_91 (fs1_7 139 rfl) rfl (lt_w1 rfl) sh106 ?_
        refine q_aload_n d139_94 rfl ?_
        refine q_getD d139_95 (fs1_33 139 rfl) rfl (lt_w1 rfl) sh106 ?_
        refine q_invV (o := 106) (ci := 1) (av := [.double (D 106 0), .double (D 106 3)]) (rest := []) (d' := 0) (mc' := 0) (ms' := 0) d139_98 (cv1_36 139 rfl) rfl (by decide) rfl rfl (by omega) (Nat.le_of_ble_eq_true rfl) (Nat.le_of_ble_eq_true rfl) (lt_w1 rfl) sh106 (Nat.le_refl _) (Nat.le_refl _) ?_
        refine u134   (Nat.le_refl _) ?_
        show j_W 139 d 0 0 0 0 101 [some (.ref 106), some (.double (FP.dsub (D 106 3) (D 106 2))), none, some (.double (FP.dsub (D 106 4) (D 106 2))), none] [] w1 ((j_u I 106 6 1), (j_u (j_u D 106 7 (D 106 0)) 106 8 (D 106 3)), RR R) Q
        exact q_ret d139_101 rfl (Nat.le_refl _) (Nat.le_refl _) (v3 h1tc h2tc h3tc)
      ·
        have h3fc : dlt (FP.dsub (D 106 4) (D 106 2)) (FP.dsub (D 106 3) (D 106 2)) = true := dc_g_ge_f h3f
        refine q_aload_n d139_74 rfl ?_
        refine q_aload_n d139_75 rfl ?_
        refine q_getD d139_76 (fs1_13 139 rfl) rfl (lt_w1 rfl) sh106 ?_
        refine q_aload_n d139_79 rfl ?_
        refine q_getD d139_80 (fs1_40 139 rfl) rfl (lt_w1 rfl) sh106 ?_
        refine q_invV (o := 106) (ci := 1) (av := [.double (D 106 1), .double (D 106 4)]) (rest := []) (d' := 0) (mc' := 0) (ms' := 0) d139_83 (cv1_36 139 rfl) rfl (by decide) rfl rfl (by omega) (Nat.le_of_ble_eq_true rfl) (Nat.le_of_ble_eq_true rfl) (lt_w1 rfl) sh106 (Nat.le_refl _) (Nat.le_refl _) ?_
        refine u134   (Nat.le_refl _) ?_
        show j_W 139 d 0 0 0 0 86 [some (.ref 106), some (.double (FP.dsub (D 106 3) (D 106 2))), none, some (.double (FP.dsub (D 106 4) (D 106 2))), none] [] w1 ((j_u I 106 6 1), (j_u (j_u D 106 7 (D 106 1)) 106 8 (D 106 4)), RR R) Q
        refine q_goto (tgt := 101) d139_86 rfl ?_
        exact q_ret d139_101 rfl (Nat.le_refl _) (Nat.le_refl _) (v4 h1tc h2tc h3fc)
    ·
      have h2fc : dlt (D 106 4) (D 106 2) = true := dc_g_ge_f h2f
      refine q_aload_n d139_46 rfl ?_
      refine q_getD d139_47 (fs1_16 139 rfl) rfl (lt_w1 rfl) sh106 ?_
      refine q_aload_n d139_50 rfl ?_
      refine q_getD d139_51 (fs1_40 139 rfl) rfl (lt_w1 rfl) sh106 ?_
      refine q_dsub (v5 h1tc h2fc) d139_54 ?_
      refine q_goto (tgt := 67) d139_55 rfl ?_
      refine q_dstore_n (L' := [some (.ref 106), some (.double (FP.dsub (D 106 3) (D 106 2))), none, some (.double (FP.dsub (D 106 2) (D 106 4))), none]) d139_67 (Nat.le_of_ble_eq_true rfl) rfl ?_
      refine q_dload_n d139_68 rfl ?_
      refine q_dload_n d139_69 rfl ?_
      refine q_dcmp d139_70 ?_
      refine q_if_ge (tgt := 89) d139_71 rfl (fun h4t => ?_) (fun h4f => ?_)
      ·
        have h4tc : dlt (FP.dsub (D 106 2) (D 106 4)) (FP.dsub (D 106 3) (D 106 2)) = false := dc_g_ge_t h4t
        refine q_aload_n d139_89 rfl ?_
        refine q_aload_n d139_90 rfl ?_
        refine q_getD d139_91 (fs1_7 139 rfl) rfl (lt_w1 rfl) sh106 ?_
        refine q_aload_n d139_94 rfl ?_
        refine q_getD d139_95 (fs1_33 139 rfl) rfl (lt_w1 rfl) sh106 ?_
        refine q_invV (o := 106) (ci := 1) (av := [.double (D 106 0), .double (D 106 3)]) (rest := []) (d' := 0) (mc' := 0) (ms' := 0) d139_98 (cv1_36 139 rfl) rfl (by decide) rfl rfl (by omega) (Nat.le_of_ble_eq_true rfl) (Nat.le_of_ble_eq_true rfl) (lt_w1 rfl) sh106 (Nat.le_refl _) (Nat.le_refl _) ?_
        refine u134   (Nat.le_refl _) ?_
        show j_W 139 d 0 0 0 0 101 [some (.ref 106), some (.double (FP.dsub (D 106 3) (D 106 2))), none, some (.double (FP.dsub (D 106 2) (D 106 4))), none] [] w1 ((j_u I 106 6 1), (j_u (j_u D 106 7 (D 106 0)) 106 8 (D 106 3)), RR R) Q
        exact q_ret d139_101 rfl (Nat.le_refl _) (Nat.le_refl _) (v6 h1tc h2fc h4tc)
      ·
        have h4fc : dlt (FP.dsub (D 106 2) (D 106 4)) (FP.dsub (D 106 3) (D 106 2)) = true := dc_g_ge_f h4f
        refine q_aload_n d139_74 rfl ?_
        refine q_aload_n d139_75 rfl ?_
        refine q_getD d139_76 (fs1_13 139 rfl) rfl (lt_w1 rfl) sh106 ?_
        refine q_aload_n d139_79 rfl ?_
        refine q_getD d139_80 (fs1_40 139 rfl) rfl (lt_w1 rfl) sh106 ?_
        refine q_invV (o := 106) (ci := 1) (av := [.double (D 106 1), .double (D 106 4)]) (rest := []) (d' := 0) (mc' := 0) (ms' := 0) d139_83 (cv1_36 139 rfl) rfl (by decide) rfl rfl (by omega) (Nat.le_of_ble_eq_true rfl) (Nat.le_of_ble_eq_true rfl) (lt_w1 rfl) sh106 (Nat.le_refl _) (Nat.le_refl _) ?_
        refine u134   (Nat.le_refl _) ?_
        show j_W 139 d 0 0 0 0 86 [some (.ref 106), some (.double (FP.dsub (D 106 3) (D 106 2))), none, some (.double (FP.dsub (D 106 2) (D 106 4))), none] [] w1 ((j_u I 106 6 1), (j_u (j_u D 106 7 (D 106 1)) 106 8 (D 106 4)), RR R) Q
        refine q_goto (tgt := 101) d139_86 rfl ?_
        exact q_ret d139_101 rfl (Nat.le_refl _) (Nat.le_refl _) (v7 h1tc h2fc h4fc)
  ·
    have h1fc : dlt (D 106 3) (D 106 2) = true := dc_g_ge_f h1f
    refine q_aload_n d139_12 rfl ?_
    refine q_getD d139_13 (fs1_16 139 rfl) rfl (lt_w1 rfl) sh106 ?_
    refine q_aload_n d139_16 rfl ?_
    refine q_getD d139_17 (fs1_33 139 rfl) rfl (lt_w1 rfl) sh106 ?_
    refine q_dsub (v8 h1fc) d139_20 ?_
    refine q_goto (tgt := 33) d139_21 rfl ?_
    refine q_dstore_n (L' := [some (.ref 106), some (.double (FP.dsub (D 106 2) (D 106 3))), none, none, none]) d139_33 (Nat.le_of_ble_eq_true rfl) rfl ?_
    refine q_aload_n d139_34 rfl ?_
    refine q_getD d139_35 (fs1_40 139 rfl) rfl (lt_w1 rfl) sh106 ?_
    refine q_aload_n d139_38 rfl ?_
    refine q_getD d139_39 (fs1_16 139 rfl) rfl (lt_w1 rfl) sh106 ?_
    refine q_dcmp d139_42 ?_
    refine q_if_ge (tgt := 58) d139_43 rfl (fun h5t => ?_) (fun h5f => ?_)
    ·
      have h5tc : dlt (D 106 4) (D 106 2) = false := dc_g_ge_t h5t
      refine q_aload_n d139_58 rfl ?_
      refine q_getD d139_59 (fs1_40 139 rfl) rfl (lt_w1 rfl) sh106 ?_
      refine q_aload_n d139_62 rfl ?_
      refine q_getD d139_63 (fs1_16 139 rfl) rfl (lt_w1 rfl) sh106 ?_
      refine q_dsub (v9 h1fc h5tc) d139_66 ?_
      refine q_dstore_n (L' := [some (.ref 106), some (.double (FP.dsub (D 106 2) (D 106 3))), none, some (.double (FP.dsub (D 106 4) (D 106 2))), none]) d139_67 (Nat.le_of_ble_eq_true rfl) rfl ?_
      refine q_dload_n d139_68 rfl ?_
      refine q_dload_n d139_69 rfl ?_
      refine q_dcmp d139_70 ?_
      refine q_if_ge (tgt := 89) d139_71 rfl (fun h6t => ?_) (fun h6f => ?_)
      ·
        have h6tc : dlt (FP.dsub (D 106 4) (D 106 2)) (FP.dsub (D 106 2) (D 106 3)) = false := dc_g_ge_t h6t
        refine q_aload_n d139_89 rfl ?_
        refine q_aload_n d139_90 rfl ?_
        refine q_getD d139_91 (fs1_7 139 rfl) rfl (lt_w1 rfl) sh106 ?_
        refine q_aload_n d139_94 rfl ?_
        refine q_getD d139_95 (fs1_33 139 rfl) rfl (lt_w1 rfl) sh106 ?_
        refine q_invV (o := 106) (ci := 1) (av := [.double (D 106 0), .double (D 106 3)]) (rest := []) (d' := 0) (mc' := 0) (ms' := 0) d139_98 (cv1_36 139 rfl) rfl (by decide) rfl rfl (by omega) (Nat.le_of_ble_eq_true rfl) (Nat.le_of_ble_eq_true rfl) (lt_w1 rfl) sh106 (Nat.le_refl _) (Nat.le_refl _) ?_
        refine u134   (Nat.le_refl _) ?_
        show j_W 139 d 0 0 0 0 101 [some (.ref 106), some (.double (FP.dsub (D 106 2) (D 106 3))), none, some (.double (FP.dsub (D 106 4) (D 106 2))), none] [] w1 ((j_u I 106 6 1), (j_u (j_u D 106 7 (D 106 0)) 106 8 (D 106 3)), RR R) Q
        exact q_ret d139_101 rfl (Nat.le_refl _) (Nat.le_refl _) (v10 h1fc h5tc h6tc)
      ·
        have h6fc : dlt (FP.dsub (D 106 4) (D 106 2)) (FP.dsub (D 106 2) (D 106 3)) = true := dc_g_ge_f h6f
        refine q_aload_n d139_74 rfl ?_
        refine q_aload_n d139_75 rfl ?_
        refine q_getD d139_76 (fs1_13 139 rfl) rfl (lt_w1 rfl) sh106 ?_
        refine q_aload_n d139_79 rfl ?_
        refine q_getD d139_80 (fs1_40 139 rfl) rfl (lt_w1 rfl) sh106 ?_
        refine q_invV (o := 106) (ci := 1) (av := [.double (D 106 1), .double (D 106 4)]) (rest := []) (d' := 0) (mc' := 0) (ms' := 0) d139_83 (cv1_36 139 rfl) rfl (by decide) rfl rfl (by omega) (Nat.le_of_ble_eq_true rfl) (Nat.le_of_ble_eq_true rfl) (lt_w1 rfl) sh106 (Nat.le_refl _) (Nat.le_refl _) ?_
        refine u134   (Nat.le_refl _) ?_
        show j_W 139 d 0 0 0 0 86 [some (.ref 106), some (.double (FP.dsub (D 106 2) (D 106 3))), none, some (.double (FP.dsub (D 106 4) (D 106 2))), none] [] w1 ((j_u I 106 6 1), (j_u (j_u D 106 7 (D 106 1)) 106 8 (D 106 4)), RR R) Q
        refine q_goto (tgt := 101) d139_86 rfl ?_
        exact q_ret d139_101 rfl (Nat.le_refl _) (Nat.le_refl _) (v11 h1fc h5tc h6fc)
    ·
      have h5fc : dlt (D 106 4) (D 106 2) = true := dc_g_ge_f h5f
      refine q_aload_n d139_46 rfl ?_
      refine q_getD d139_47 (fs1_16 139 rfl) rfl (lt_w1 rfl) sh106 ?_
      refine q_aload_n d139_50 rfl ?_
      refine q_getD d139_51 (fs1_40 139 rfl) rfl (lt_w1 rfl) sh106 ?_
      refine q_dsub (v12 h1fc h5fc) d139_54 ?_
      refine q_goto (tgt := 67) d139_55 rfl ?_
      refine q_dstore_n (L' := [some (.ref 106), some (.double (FP.dsub (D 106 2) (D 106 3))), none, some (.double (FP.dsub (D 106 2) (D 106 4))), none]) d139_67 (Nat.le_of_ble_eq_true rfl) rfl ?_
      refine q_dload_n d139_68 rfl ?_
      refine q_dload_n d139_69 rfl ?_
      refine q_dcmp d139_70 ?_
      refine q_if_ge (tgt := 89) d139_71 rfl (fun h7t => ?_) (fun h7f => ?_)
      ·
        have h7tc : dlt (FP.dsub (D 106 2) (D 106 4)) (FP.dsub (D 106 2) (D 106 3)) = false := dc_g_ge_t h7t
        refine q_aload_n d139_89 rfl ?_
        refine q_aload_n d139_90 rfl ?_
        refine q_getD d139_91 (fs1_7 139 rfl) rfl (lt_w1 rfl) sh106 ?_
        refine q_aload_n d139_94 rfl ?_
        refine q_getD d139_95 (fs1_33 139 rfl) rfl (lt_w1 rfl) sh106 ?_
        refine q_invV (o := 106) (ci := 1) (av := [.double (D 106 0), .double (D 106 3)]) (rest := []) (d' := 0) (mc' := 0) (ms' := 0) d139_98 (cv1_36 139 rfl) rfl (by decide) rfl rfl (by omega) (Nat.le_of_ble_eq_true rfl) (Nat.le_of_ble_eq_true rfl) (lt_w1 rfl) sh106 (Nat.le_refl _) (Nat.le_refl _) ?_
        refine u134   (Nat.le_refl _) ?_
        show j_W 139 d 0 0 0 0 101 [some (.ref 106), some (.double (FP.dsub (D 106 2) (D 106 3))), none, some (.double (FP.dsub (D 106 2) (D 106 4))), none] [] w1 ((j_u I 106 6 1), (j_u (j_u D 106 7 (D 106 0)) 106 8 (D 106 3)), RR R) Q
        exact q_ret d139_101 rfl (Nat.le_refl _) (Nat.le_refl _) (v13 h1fc h5fc h7tc)
      ·
        have h7fc : dlt (FP.dsub (D 106 2) (D 106 4)) (FP.dsub (D 106 2) (D 106 3)) = true := dc_g_ge_f h7f
        refine q_aload_n d139_74 rfl ?_
        refine q_aload_n d139_75 rfl ?_
        refine q_getD d139_76 (fs1_13 139 rfl) rfl (lt_w1 rfl) sh106 ?_
        refine q_aload_n d139_79 rfl ?_
        refine q_getD d139_80 (fs1_40 139 rfl) rfl (lt_w1 rfl) sh106 ?_
        refine q_invV (o := 106) (ci := 1) (av := [.double (D 106 1), .double (D 106 4)]) (rest := []) (d' := 0) (mc' := 0) (ms' := 0) d139_83 (cv1_36 139 rfl) rfl (by decide) rfl rfl (by omega) (Nat.le_of_ble_eq_true rfl) (Nat.le_of_ble_eq_true rfl) (lt_w1 rfl) sh106 (Nat.le_refl _) (Nat.le_refl _) ?_
        refine u134   (Nat.le_refl _) ?_
        show j_W 139 d 0 0 0 0 86 [some (.ref 106), some (.double (FP.dsub (D 106 2) (D 106 3))), none, some (.double (FP.dsub (D 106 2) (D 106 4))), none] [] w1 ((j_u I 106 6 1), (j_u (j_u D 106 7 (D 106 1)) 106 8 (D 106 4)), RR R) Q
        refine q_goto (tgt := 101) d139_86 rfl ?_
        exact q_ret d139_101 rfl (Nat.le_refl _) (Nat.le_refl _) (v14 h1fc h5fc h7fc)

/-! seek: the bracket, as pure functions -/
def skN (x : UInt64) : Prop := Sm x ∧ x ≠ 0x8000000000000000
def skI (l h fl fh w : UInt64) : Prop := (skN l ∧ vm l ≤ 2 ^ 1094) ∧ (skN h ∧ vm h ≤ 2 ^ 1094) ∧ skN fl ∧ skN fh ∧ skN w ∧ vz l < vz h ∧ ((vz fl < vz w ∧ vz w < vz fh) ∨ (vz fh < vz w ∧ vz w < vz fl))
def mid (l h fl fh w : UInt64) (b : Bool) : UInt64 := if b = true then (if dgt (FP.dadd l (FP.ddiv (FP.dmul (FP.dsub w fl) (FP.dsub h l)) (FP.dsub fh fl))) l = true ∧ dlt (FP.dadd l (FP.ddiv (FP.dmul (FP.dsub w fl) (FP.dsub h l)) (FP.dsub fh fl))) h = true then FP.dadd l (FP.ddiv (FP.dmul (FP.dsub w fl) (FP.dsub h l)) (FP.dsub fh fl)) else FP.dadd l (FP.ddiv (FP.dsub h l) 4611686018427387904)) else FP.dadd l (FP.ddiv (FP.dsub h l) 4611686018427387904)
def near (l h fl fh w : UInt64) : UInt64 × UInt64 := if dle (absV fl w) (absV fh w) = true then (l, fl) else (h, fh)
def skF (F : UInt64 → Vl) (w : UInt64) : Nat → UInt64 → UInt64 → UInt64 → UInt64 → Bool → Nat → Nat × Option (UInt64 × UInt64)
  | 0, l, h, fl, fh, _, n => (n, some (near l h fl fh w))
  | k + 1, l, h, fl, fh, b, n =>
    if dgt (mid l h fl fh w b) l = true ∧ dlt (mid l h fl fh w b) h = true then
      if (F (mid l h fl fh w b)).1 = 0 then
        if deq (F (mid l h fl fh w b)).2 w = true then (n + 1, some (mid l h fl fh w b, (F (mid l h fl fh w b)).2))
        else if dlt (F (mid l h fl fh w b)).2 w = dlt fl w then skF F w k (mid l h fl fh w b) h (F (mid l h fl fh w b)).2 fh (dle (FP.dsub h (mid l h fl fh w b)) (FP.ddiv (FP.dsub h l) 4611686018427387904)) (n + 1)
        else skF F w k l (mid l h fl fh w b) fl (F (mid l h fl fh w b)).2 (dle (FP.dsub (mid l h fl fh w b) l) (FP.ddiv (FP.dsub h l) 4611686018427387904)) (n + 1)
      else (n + 1, none)
    else (n, some (near l h fl fh w))
def skT (F : UInt64 → Vl) (l h w : UInt64) : Nat × Option (UInt64 × UInt64) :=
  if (F l).1 = 0 then (if (F h).1 = 0 then (if deq (F l).2 w = true then (2, some (l, (F l).2)) else if deq (F h).2 w = true then (2, some (h, (F h).2)) else if dlt (F l).2 w = dlt (F h).2 w then (2, none) else skF F w 40 l h (F l).2 (F h).2 false 2) else (2, none)) else (1, none)
theorem two_fn : Jvm.Free.Fl.Fin64 4611686018427387904 ∧ Jvm.Free.Fl.Nz64 4611686018427387904 := by unfold Jvm.Free.Fl.Fin64 Jvm.Free.Fl.Nz64; decide
theorem nz_vz {x : UInt64} (h : vz x ≠ 0) : Jvm.Free.Fl.Nz64 x := Jvm.Free.Fl.nz64_core.mpr (fun hz => by
  obtain ⟨-, -, e⟩ := Jvm.FP.Core.dcmp_eq.mp (Jvm.FP.Core.zero_iff.mpr hz)
  rw [Jvm.FP.Core.zval64_zero] at e
  exact h e)
theorem dgt_z {x y : UInt64} (h : dgt x y = true) : Jvm.FP.Core.val64 x ≠ .nan ∧ vz y < vz x := by
  cases hc : FP.dcmp x y with
  | none => unfold dgt at h; rw [hc] at h; cases h
  | some o =>
    cases o with
    | gt => obtain ⟨a, -, b⟩ := Jvm.FP.Core.dcmp_gt.mp (show Jvm.FP.Core.dcmp x y = some .gt from hc); exact ⟨a, b⟩
    | lt => unfold dgt at h; rw [hc] at h; cases h
    | eq => unfold dgt at h; rw [hc] at h; cases h
theorem dlt_z {x y : UInt64} (h : dlt x y = true) : vz x < vz y := by
  cases hc : FP.dcmp x y with
  | none => unfold dlt at h; rw [hc] at h; cases h
  | some o =>
    cases o with
    | lt => obtain ⟨-, -, b⟩ := Jvm.FP.Core.dcmp_lt.mp (show Jvm.FP.Core.dcmp x y = some .lt from hc); exact b
    | gt => unfold dlt at h; rw [hc] at h; cases h
    | eq => unfold dlt at h; rw [hc] at h; cases h
section SKP
variable {l h fl fh w : UInt64}
theorem skI.wide (H : skI l h fl fh w) : Fi (FP.dsub h l) ∧ vf_n64 (FP.ddiv (FP.dsub h l) 4611686018427387904) ∧ vf_n64 (FP.dadd l (FP.ddiv (FP.dsub h l) 4611686018427387904)) := by
  obtain ⟨⟨⟨a1, a2⟩, a3⟩, ⟨⟨b1, b2⟩, b3⟩, -⟩ := H
  have f1 := dsub_fi b1 a1
  have f2 := Jvm.Free.Fl.ddiv_out (fi_nn f1) two_fn.1 two_fn.2
  exact ⟨f1, f2, Jvm.Free.Fl.dadd_out' (fi_lib.mpr a1.1) f2⟩
theorem skI.rise (H : skI l h fl fh w) : Fi (FP.dsub fh fl) ∧ vz (FP.dsub fh fl) ≠ 0 := by
  obtain ⟨-, -, ⟨c1, c2⟩, ⟨d1, d2⟩, ⟨e1, e2⟩, -, hb⟩ := H
  refine ⟨dsub_fi d1 c1, ?_⟩
  rcases hb with ⟨p, q⟩ | ⟨p, q⟩
  · have := dsub_pos d1.1 c1.1 (by omega); omega
  · have := dsub_neg d1.1 c1.1 (by omega); omega
theorem skI.cut (H : skI l h fl fh w) : vf_n64 (FP.dsub w fl) ∧ vf_n64 (FP.dmul (FP.dsub w fl) (FP.dsub h l)) ∧ vf_n64 (FP.ddiv (FP.dmul (FP.dsub w fl) (FP.dsub h l)) (FP.dsub fh fl)) ∧ vf_n64 (FP.dadd l (FP.ddiv (FP.dmul (FP.dsub w fl) (FP.dsub h l)) (FP.dsub fh fl))) := by
  obtain ⟨g1, -, -⟩ := H.wide
  obtain ⟨r1, r2⟩ := H.rise
  obtain ⟨⟨⟨a1, a2⟩, a3⟩, -, ⟨c1, c2⟩, ⟨d1, d2⟩, ⟨e1, e2⟩, -, hb⟩ := H
  have f1 := dsub_fi e1 c1
  have f2 := Jvm.Free.Fl.dmul_out (fi_lib.mpr f1) (fi_lib.mpr g1)
  have f3 := Jvm.Free.Fl.ddiv_out f2 (fi_lib.mpr r1) (nz_vz r2)
  exact ⟨fi_nn f1, f2, f3, Jvm.Free.Fl.dadd_out' (fi_lib.mpr a1.1) f3⟩
theorem mid_add (l h fl fh w : UInt64) (b : Bool) : ∃ y, mid l h fl fh w b = FP.dadd l y := by
  unfold mid
  split
  · split
    · exact ⟨_, rfl⟩
    · exact ⟨_, rfl⟩
  · exact ⟨_, rfl⟩
theorem skI.mid (H : skI l h fl fh w) {b : Bool} (h1 : dgt (mid l h fl fh w b) l = true) (h2 : dlt (mid l h fl fh w b) h = true) : (skN (mid l h fl fh w b) ∧ vm (mid l h fl fh w b) ≤ 2 ^ 1094) ∧ vz l < vz (mid l h fl fh w b) ∧ vz (mid l h fl fh w b) < vz h := by
  obtain ⟨⟨⟨a1, a2⟩, a3⟩, ⟨⟨b1, b2⟩, b3⟩, -⟩ := H
  obtain ⟨n1, n2⟩ := dgt_z h1
  have n3 := dlt_z h2
  obtain ⟨y, hy⟩ := mid_add l h fl fh w b
  rw [hy] at n1 n2 n3 ⊢
  obtain ⟨p1, p2⟩ := vz_of_m a3
  obtain ⟨q1, q2⟩ := vz_of_m b3
  have hm : vm (FP.dadd l y) ≤ 2 ^ 1094 := vm_of_z (by omega) (by omega)
  have hf := fi_of_vz n1 (Nat.le_trans hm (Nat.pow_le_pow_right (by decide) (by decide)))
  exact ⟨⟨⟨⟨hf, Nat.le_trans hm (Nat.pow_le_pow_right (by decide) (by decide))⟩, dadd_ne1 a1.1 a2 hf⟩, hm⟩, n2, n3⟩
/-- the nearer end -/
theorem near_ok (H : skI l h fl fh w) : (skN (near l h fl fh w).1) ∧ skN (near l h fl fh w).2 := by
  obtain ⟨⟨a, -⟩, ⟨b, -⟩, c, d, -⟩ := H
  unfold near
  split
  · exact ⟨a, c⟩
  · exact ⟨b, d⟩
/-- one end comes closer -/
theorem skI.low (H : skI l h fl fh w) {m fm : UInt64} (hm : skN m ∧ vm m ≤ 2 ^ 1094) (h2 : vz m < vz h) (hf : skN fm) (hne : deq fm w = false) (hs : dlt fm w = dlt fl w) : skI m h fm fh w := by
  obtain ⟨a, b, c, d, e, -, hb⟩ := H
  refine ⟨hm, b, hf, d, e, h2, ?_⟩
  have hn : vz fm ≠ vz w := fun q => by rw [(deq_iff hf.1.1 e.1.1).mpr q] at hne; cases hne
  have i1 := dlt_iff hf.1.1 e.1.1
  have i2 := dlt_iff c.1.1 e.1.1
  rw [hs] at i1
  rcases hb with ⟨p, q⟩ | ⟨p, q⟩
  · exact Or.inl ⟨i1.mp (i2.mpr p), q⟩
  · have : ¬ vz fm < vz w := fun g => by have := i2.mp (i1.mpr g); omega
    exact Or.inr ⟨p, by omega⟩
theorem skI.high (H : skI l h fl fh w) {m fm : UInt64} (hm : skN m ∧ vm m ≤ 2 ^ 1094) (h2 : vz l < vz m) (hf : skN fm) (hne : deq fm w = false) (hs : ¬ dlt fm w = dlt fl w) : skI l m fl fm w := by
  obtain ⟨a, b, c, d, e, -, hb⟩ := H
  refine ⟨a, hm, c, hf, e, h2, ?_⟩
  have hn : vz fm ≠ vz w := fun q => by rw [(deq_iff hf.1.1 e.1.1).mpr q] at hne; cases hne
  have i1 := dlt_iff hf.1.1 e.1.1
  have i2 := dlt_iff c.1.1 e.1.1
  rcases hb with ⟨p, q⟩ | ⟨p, q⟩
  · have t := i2.mpr p
    have : ¬ vz fm < vz w := fun g => hs (by rw [t, i1.mpr g])
    exact Or.inl ⟨p, by omega⟩
  · have t : dlt fl w = false := by
      cases g : dlt fl w with
      | false => rfl
      | true => have := i2.mp g; omega
    have : vz fm < vz w := by
      cases g : dlt fm w with
      | true => exact i1.mp g
      | false => exact absurd (by rw [g, t]) hs
    exact Or.inr ⟨this, q⟩
end SKP
section BC
variable {d : Nat} {I : Nat → Nat → Int32} {D : Nat → Nat → UInt64} {R : Nat → Nat → Option Nat} {Q : j_Po} {x y : UInt64}
theorem c137 (h1 : dgt x (D 106 0) = true ∧ dlt x (D 106 1) = true → Q (some (.int 1)) w1 (I, D, RR R)) (h0 : ¬ (dgt x (D 106 0) = true ∧ dlt x (D 106 1) = true) → Q (some (.int 0)) w1 (I, D, RR R)) : j_Call d 137 [.ref 106, .double x] w1 (I, D, RR R) 0 0 Q :=
  u137 (Nat.zero_le _) (fun a => h0 (fun q => by rw [q.1] at a; cases a)) (fun _ a => h0 (fun q => by rw [q.2] at a; cases a)) (fun a b => h1 ⟨a, b⟩)
set_option maxRecDepth 10000 in
set_option maxHeartbeats 4000000 in
theorem u136 {d : Nat} {I : Nat → Nat → Int32} {D : Nat → Nat → UInt64} {R : Nat → Nat → Option Nat} {Q : j_Po} {b : Bool}  (hd : 1 ≤ d)
    (v1 : vf_n64 (FP.dsub (D 106 1) (D 106 0)))
    (v2 : vf_n64 (FP.ddiv (FP.dsub (D 106 1) (D 106 0)) 4611686018427387904))
    (v3 : vf_n64 (FP.dadd (D 106 0) (FP.ddiv (FP.dsub (D 106 1) (D 106 0)) 4611686018427387904)))
    (v4 : vf_n64 (FP.dsub (D 106 4) (D 106 3)))
    (v5 : (b = false) → Q (some (.double (FP.dadd (D 106 0) (FP.ddiv (FP.dsub (D 106 1) (D 106 0)) 4611686018427387904)))) w1 (I, D, RR R))
    (v6 : (b = true) → (deq (FP.dsub (D 106 4) (D 106 3)) FP.dconst0 = false) → vf_n64 (FP.dsub (D 106 2) (D 106 3)))
    (v7 : (b = true) → (deq (FP.dsub (D 106 4) (D 106 3)) FP.dconst0 = false) → vf_n64 (FP.dmul (FP.dsub (D 106 2) (D 106 3)) (FP.dsub (D 106 1) (D 106 0))))
    (v8 : (b = true) → (deq (FP.dsub (D 106 4) (D 106 3)) FP.dconst0 = false) → vf_n64 (FP.ddiv (FP.dmul (FP.dsub (D 106 2) (D 106 3)) (FP.dsub (D 106 1) (D 106 0))) (FP.dsub (D 106 4) (D 106 3))))
    (v9 : (b = true) → (deq (FP.dsub (D 106 4) (D 106 3)) FP.dconst0 = false) → vf_n64 (FP.dadd (D 106 0) (FP.ddiv (FP.dmul (FP.dsub (D 106 2) (D 106 3)) (FP.dsub (D 106 1) (D 106 0))) (FP.dsub (D 106 4) (D 106 3)))))
    (v10 : (b = true) → (deq (FP.dsub (D 106 4) (D 106 3)) FP.dconst0 = false) → ((dgt (FP.dadd (D 106 0) (FP.ddiv (FP.dmul (FP.dsub (D 106 2) (D 106 3)) (FP.dsub (D 106 1) (D 106 0))) (FP.dsub (D 106 4) (D 106 3)))) (D 106 0) = true ∧ dlt (FP.dadd (D 106 0) (FP.ddiv (FP.dmul (FP.dsub (D 106 2) (D 106 3)) (FP.dsub (D 106 1) (D 106 0))) (FP.dsub (D 106 4) (D 106 3)))) (D 106 1) = true)) → Q (some (.double (FP.dadd (D 106 0) (FP.ddiv (FP.dmul (FP.dsub (D 106 2) (D 106 3)) (FP.dsub (D 106 1) (D 106 0))) (FP.dsub (D 106 4) (D 106 3)))))) w1 (I, D, RR R))
    (v11 : (b = true) → (deq (FP.dsub (D 106 4) (D 106 3)) FP.dconst0 = false) → (¬ (dgt (FP.dadd (D 106 0) (FP.ddiv (FP.dmul (FP.dsub (D 106 2) (D 106 3)) (FP.dsub (D 106 1) (D 106 0))) (FP.dsub (D 106 4) (D 106 3)))) (D 106 0) = true ∧ dlt (FP.dadd (D 106 0) (FP.ddiv (FP.dmul (FP.dsub (D 106 2) (D 106 3)) (FP.dsub (D 106 1) (D 106 0))) (FP.dsub (D 106 4) (D 106 3)))) (D 106 1) = true)) → Q (some (.double (FP.dadd (D 106 0) (FP.ddiv (FP.dsub (D 106 1) (D 106 0)) 4611686018427387904)))) w1 (I, D, RR R))
    (v12 : (b = true) → (deq (FP.dsub (D 106 4) (D 106 3)) FP.dconst0 = true) → Q (some (.double (FP.dadd (D 106 0) (FP.ddiv (FP.dsub (D 106 1) (D 106 0)) 4611686018427387904)))) w1 (I, D, RR R)) : j_Call d 136 [.ref 106, .int (bi b)] w1 (I, D, RR R) 0 0 Q := by
  refine q_enter (L := [some (.ref 106), some (.int (bi b)), none, none, none, none, none, none]) j_m136 (Nat.le_of_ble_eq_true rfl) rfl ?_
  refine q_aload_n d136_0 rfl ?_
  refine q_getD d136_1 (fs1_7 136 rfl) rfl (lt_w1 rfl) sh106 ?_
  refine q_aload_n d136_4 rfl ?_
  refine q_getD d136_5 (fs1_13 136 rfl) rfl (lt_w1 rfl) sh106 ?_
  refine q_aload_n d136_8 rfl ?_
  refine q_getD d136_9 (fs1_7 136 rfl) rfl (lt_w1 rfl) sh106 ?_
  refine q_dsub v1 d136_12 ?_
  refine q_ldcD (v := 4611686018427387904) d136_13 (kc1_43 136 rfl) ?_
  refine q_ddiv v2 d136_16 ?_
  refine q_dadd v3 d136_17 ?_
  refine q_dstore_n (L' := [some (.ref 106), some (.int (bi b)), some (.double (FP.dadd (D 106 0) (FP.ddiv (FP.dsub (D 106 1) (D 106 0)) 4611686018427387904))), none, none, none, none, none]) d136_18 (Nat.le_of_ble_eq_true rfl) rfl ?_
  refine q_aload_n d136_19 rfl ?_
  refine q_getD d136_20 (fs1_40 136 rfl) rfl (lt_w1 rfl) sh106 ?_
  refine q_aload_n d136_23 rfl ?_
  refine q_getD d136_24 (fs1_33 136 rfl) rfl (lt_w1 rfl) sh106 ?_
  refine q_dsub v4 d136_27 ?_
  refine q_dstore (L' := [some (.ref 106), some (.int (bi b)), some (.double (FP.dadd (D 106 0) (FP.ddiv (FP.dsub (D 106 1) (D 106 0)) 4611686018427387904))), none, some (.double (FP.dsub (D 106 4) (D 106 3))), none, none, none]) d136_28 (Nat.le_of_ble_eq_true rfl) rfl ?_
  refine q_iload_n d136_30 rfl ?_
  refine q_if_eq (tgt := 41) d136_31 rfl (fun h1t => ?_) (fun h1f => ?_)
  ·
    have h1tc : b = false := bi_0 h1t
    refine q_dload_n d136_41 rfl ?_
    exact q_dret d136_42 rfl (Nat.le_refl _) (Nat.le_refl _) (v5 h1tc)
  ·
    have h1fc : b = true := bi_1 h1f
    refine q_dload d136_34 rfl ?_
    refine q_dconst0 d136_36 ?_
    refine q_dcmp d136_37 ?_
    refine q_if_ne (tgt := 43) d136_38 rfl (fun h2t => ?_) (fun h2f => ?_)
    ·
      have h2tc : deq (FP.dsub (D 106 4) (D 106 3)) FP.dconst0 = false := dc_l_ne_t h2t
      refine q_aload_n d136_43 rfl ?_
      refine q_getD d136_44 (fs1_7 136 rfl) rfl (lt_w1 rfl) sh106 ?_
      refine q_aload_n d136_47 rfl ?_
      refine q_getD d136_48 (fs1_16 136 rfl) rfl (lt_w1 rfl) sh106 ?_
      refine q_aload_n d136_51 rfl ?_
      refine q_getD d136_52 (fs1_33 136 rfl) rfl (lt_w1 rfl) sh106 ?_
      refine q_dsub (v6 h1fc h2tc) d136_55 ?_
      refine q_aload_n d136_56 rfl ?_
      refine q_getD d136_57 (fs1_13 136 rfl) rfl (lt_w1 rfl) sh106 ?_
      refine q_aload_n d136_60 rfl ?_
      refine q_getD d136_61 (fs1_7 136 rfl) rfl (lt_w1 rfl) sh106 ?_
      refine q_dsub v1 d136_64 ?_
      refine q_dmul (v7 h1fc h2tc) d136_65 ?_
      refine q_dload d136_66 rfl ?_
      refine q_ddiv (v8 h1fc h2tc) d136_68 ?_
      refine q_dadd (v9 h1fc h2tc) d136_69 ?_
      refine q_dstore (L' := [some (.ref 106), some (.int (bi b)), some (.double (FP.dadd (D 106 0) (FP.ddiv (FP.dsub (D 106 1) (D 106 0)) 4611686018427387904))), none, some (.double (FP.dsub (D 106 4) (D 106 3))), none, some (.double (FP.dadd (D 106 0) (FP.ddiv (FP.dmul (FP.dsub (D 106 2) (D 106 3)) (FP.dsub (D 106 1) (D 106 0))) (FP.dsub (D 106 4) (D 106 3))))), none]) d136_70 (Nat.le_of_ble_eq_true rfl) rfl ?_
      refine q_aload_n d136_72 rfl ?_
      refine q_dload d136_73 rfl ?_
      refine q_invV (o := 106) (ci := 1) (av := [.double (FP.dadd (D 106 0) (FP.ddiv (FP.dmul (FP.dsub (D 106 2) (D 106 3)) (FP.dsub (D 106 1) (D 106 0))) (FP.dsub (D 106 4) (D 106 3))))]) (rest := []) (d' := 0) (mc' := 0) (ms' := 0) d136_75 (cv1_45 136 rfl) rfl (by decide) rfl rfl (by omega) (Nat.le_of_ble_eq_true rfl) (Nat.le_of_ble_eq_true rfl) (lt_w1 rfl) sh106 (Nat.le_refl _) (Nat.le_refl _) ?_
      refine c137  (fun h3 => ?_) (fun h3 => ?_)
      ·
        show j_W 136 d 0 0 0 0 78 [some (.ref 106), some (.int (bi b)), some (.double (FP.dadd (D 106 0) (FP.ddiv (FP.dsub (D 106 1) (D 106 0)) 4611686018427387904))), none, some (.double (FP.dsub (D 106 4) (D 106 3))), none, some (.double (FP.dadd (D 106 0) (FP.ddiv (FP.dmul (FP.dsub (D 106 2) (D 106 3)) (FP.dsub (D 106 1) (D 106 0))) (FP.dsub (D 106 4) (D 106 3))))), none] [.int 1] w1 (I, D, RR R) Q
        refine q_if_eq (tgt := 86) d136_78 rfl (fun h => absurd h (by decide)) (fun _ => ?_)
        refine q_dload d136_81 rfl ?_
        refine q_goto (tgt := 87) d136_83 rfl ?_
        exact q_dret d136_87 rfl (Nat.le_refl _) (Nat.le_refl _) (v10 h1fc h2tc h3)
      ·
        show j_W 136 d 0 0 0 0 78 [some (.ref 106), some (.int (bi b)), some (.double (FP.dadd (D 106 0) (FP.ddiv (FP.dsub (D 106 1) (D 106 0)) 4611686018427387904))), none, some (.double (FP.dsub (D 106 4) (D 106 3))), none, some (.double (FP.dadd (D 106 0) (FP.ddiv (FP.dmul (FP.dsub (D 106 2) (D 106 3)) (FP.dsub (D 106 1) (D 106 0))) (FP.dsub (D 106 4) (D 106 3))))), none] [.int 0] w1 (I, D, RR R) Q
        refine q_if_eq (tgt := 86) d136_78 rfl (fun _ => ?_) (fun h => absurd h (by decide))
        refine q_dload_n d136_86 rfl ?_
        exact q_dret d136_87 rfl (Nat.le_refl _) (Nat.le_refl _) (v11 h1fc h2tc h3)
    ·
      have h2fc : deq (FP.dsub (D 106 4) (D 106 3)) FP.dconst0 = true := dc_l_ne_f h2f
      refine q_dload_n d136_41 rfl ?_
      exact q_dret d136_42 rfl (Nat.le_refl _) (Nat.le_refl _) (v12 h1fc h2fc)

theorem c136 {b : Bool} (hd : 1 ≤ d) (H : skI (D 106 0) (D 106 1) (D 106 3) (D 106 4) (D 106 2)) (hq : Q (some (.double (mid (D 106 0) (D 106 1) (D 106 3) (D 106 4) (D 106 2) b))) w1 (I, D, RR R)) : j_Call d 136 [.ref 106, .int (bi b)] w1 (I, D, RR R) 0 0 Q := by
  obtain ⟨g1, g2, g3⟩ := H.wide
  obtain ⟨r1, r2⟩ := H.rise
  obtain ⟨k1, k2, k3, k4⟩ := H.cut
  unfold mid at hq
  refine u136 hd (fi_nn g1) g2 g3 (fi_nn r1) (fun hb => ?_) (fun _ _ => k1) (fun _ _ => k2) (fun _ _ => k3) (fun _ _ => k4) (fun hb _ hi => ?_) (fun hb _ hi => ?_) (fun _ hz => ?_)
  · rw [hb, if_neg (by simp)] at hq; exact hq
  · rw [if_pos hb, if_pos hi] at hq; exact hq
  · rw [if_pos hb, if_neg hi] at hq; exact hq
  · have := (deq_iff r1 fi_0).mp hz
    rw [vz_0] at this; exact absurd this r2
theorem c138 (H : skI (D 106 0) (D 106 1) (D 106 3) (D 106 4) (D 106 2)) (hx : Sm x) (h1 : dlt y (D 106 2) = dlt (D 106 3) (D 106 2) → Q (some (.int (bi (dle (FP.dsub (D 106 1) x) (FP.ddiv (FP.dsub (D 106 1) (D 106 0)) 4611686018427387904))))) w1 (I, (j_u (j_u D 106 0 x) 106 3 y), RR R)) (h2 : ¬ dlt y (D 106 2) = dlt (D 106 3) (D 106 2) → Q (some (.int (bi (dle (FP.dsub x (D 106 0)) (FP.ddiv (FP.dsub (D 106 1) (D 106 0)) 4611686018427387904))))) w1 (I, (j_u (j_u D 106 1 x) 106 4 y), RR R)) : j_Call d 138 [.ref 106, .double x, .double y] w1 (I, D, RR R) 0 0 Q := by
  obtain ⟨g1, g2, -⟩ := H.wide
  have a1 := H.1.1.1
  have b1 := H.2.1.1.1
  have v1 : vf_n64 (FP.dsub (D 106 1) x) := fi_nn (dsub_fi b1 hx)
  have v2 : vf_n64 (FP.dsub x (D 106 0)) := fi_nn (dsub_fi hx a1)
  have L : dlt y (D 106 2) = dlt (D 106 3) (D 106 2) → ∀ b, dle (FP.dsub (D 106 1) x) (FP.ddiv (FP.dsub (D 106 1) (D 106 0)) 4611686018427387904) = b → Q (some (.int (bi b))) w1 (I, (j_u (j_u D 106 0 x) 106 3 y), RR R) := fun e b hb => by rw [← hb]; exact h1 e
  have H2 : ¬ dlt y (D 106 2) = dlt (D 106 3) (D 106 2) → ∀ b, dle (FP.dsub x (D 106 0)) (FP.ddiv (FP.dsub (D 106 1) (D 106 0)) 4611686018427387904) = b → Q (some (.int (bi b))) w1 (I, (j_u (j_u D 106 1 x) 106 4 y), RR R) := fun e b hb => by rw [← hb]; exact h2 e
  exact u138 (Nat.zero_le _) (fi_nn g1) (fun _ _ => v1) (fun _ _ => g2) (fun a b c => L (by rw [a, b]) false c) (fun a b c => L (by rw [a, b]) true c) (fun _ _ => v2) (fun _ _ => g2) (fun a b c => H2 (by rw [a, b]; simp) false c) (fun a b c => H2 (by rw [a, b]; simp) true c) (fun _ _ => v2) (fun _ _ => g2) (fun a b c => H2 (by rw [a, b]; simp) false c) (fun a b c => H2 (by rw [a, b]; simp) true c) (fun _ _ => v1) (fun _ _ => g2) (fun a b c => L (by rw [a, b]) false c) (fun a b c => L (by rw [a, b]) true c)
theorem c139 (hd : 1 ≤ d) (H : skI (D 106 0) (D 106 1) (D 106 3) (D 106 4) (D 106 2)) (hq : Q none w1 ((j_u I 106 6 1), (j_u (j_u D 106 7 (near (D 106 0) (D 106 1) (D 106 3) (D 106 4) (D 106 2)).1) 106 8 (near (D 106 0) (D 106 1) (D 106 3) (D 106 4) (D 106 2)).2), RR R)) : j_Call d 139 [.ref 106] w1 (I, D, RR R) 0 0 Q := by
  obtain ⟨-, -, ⟨c1, c2⟩, ⟨d1, d2⟩, ⟨e1, e2⟩, -, -⟩ := H
  have eL := absV_eq c1 e1 c2 e2
  have eH := absV_eq d1 e1 d2 e2
  have fL := (absV_fi c1 e1 c2 e2).1
  have fH := (absV_fi d1 e1 d2 e2).1
  have w1' : vf_n64 (FP.dsub (D 106 3) (D 106 2)) := fi_nn (dsub_fi c1 e1)
  have w2 : vf_n64 (FP.dsub (D 106 2) (D 106 3)) := fi_nn (dsub_fi e1 c1)
  have w3 : vf_n64 (FP.dsub (D 106 4) (D 106 2)) := fi_nn (dsub_fi d1 e1)
  have w4 : vf_n64 (FP.dsub (D 106 2) (D 106 4)) := fi_nn (dsub_fi e1 d1)
  have lo : ∀ a b : UInt64, absV (D 106 3) (D 106 2) = a → absV (D 106 4) (D 106 2) = b → dlt b a = false → Q none w1 ((j_u I 106 6 1), (j_u (j_u D 106 7 (D 106 0)) 106 8 (D 106 3)), RR R) := fun a b ha hb h => by
    have : dle (absV (D 106 3) (D 106 2)) (absV (D 106 4) (D 106 2)) = true := by
      rw [dle_iff fL fH]
      refine Int.not_lt.mp (fun g => ?_)
      have := (dlt_iff fH fL).mpr g
      rw [ha, hb, h] at this; cases this
    unfold near at hq
    rw [if_pos this] at hq; exact hq
  have hi : ∀ a b : UInt64, absV (D 106 3) (D 106 2) = a → absV (D 106 4) (D 106 2) = b → dlt b a = true → Q none w1 ((j_u I 106 6 1), (j_u (j_u D 106 7 (D 106 1)) 106 8 (D 106 4)), RR R) := fun a b ha hb h => by
    have : ¬ dle (absV (D 106 3) (D 106 2)) (absV (D 106 4) (D 106 2)) = true := fun g => by
      have g1 := (dle_iff fL fH).mp g
      rw [← ha, ← hb] at h
      have := (dlt_iff fH fL).mp h
      omega
    unfold near at hq
    rw [if_neg this] at hq; exact hq
  have n0 : ∀ {a : Bool}, a = false → ¬ a = true := fun h => by rw [h]; simp
  exact u139 hd (fun _ => w1') (fun _ _ => w3) (fun a b c => lo _ _ (by rw [eL, if_neg (n0 a)]) (by rw [eH, if_neg (n0 b)]) c) (fun a b c => hi _ _ (by rw [eL, if_neg (n0 a)]) (by rw [eH, if_neg (n0 b)]) c) (fun _ _ => w4) (fun a b c => lo _ _ (by rw [eL, if_neg (n0 a)]) (by rw [eH, if_pos b]) c) (fun a b c => hi _ _ (by rw [eL, if_neg (n0 a)]) (by rw [eH, if_pos b]) c) (fun _ => w2) (fun _ _ => w3) (fun a b c => lo _ _ (by rw [eL, if_pos a]) (by rw [eH, if_neg (n0 b)]) c) (fun a b c => hi _ _ (by rw [eL, if_pos a]) (by rw [eH, if_neg (n0 b)]) c) (fun _ _ => w4) (fun a b c => lo _ _ (by rw [eL, if_pos a]) (by rw [eH, if_pos b]) c) (fun a b c => hi _ _ (by rw [eL, if_pos a]) (by rw [eH, if_pos b]) c)
end BC
