/-! leaves of the class, a theorem a method: its hypotheses are the ends of its paths -/
set_option maxRecDepth 10000 in
set_option maxHeartbeats 4000000 in
theorem s35 {d : Nat} {I : Nat → Nat → Int32} {D : Nat → Nat → UInt64} {R : Nat → Nat → Option Nat} {Q : j_Po} {a : Int32} {b : Int32}   (hd : 0 ≤ d)
    (v1 : Q (some (.int ((a * 32) + b))) w1 (I, D, RR R)) : j_Call d 35 [.int a, .int b] w1 (I, D, RR R) 0 0 Q := by
  refine q_enter (L := [some (.int a), some (.int b)]) j_m35 (Nat.le_of_ble_eq_true rfl) rfl ?_
  refine q_iload_n d35_0 rfl ?_
  refine q_bipush (v := 32) (by decide) d35_1 ?_
  refine q_imul d35_3 ?_
  refine q_iload_n d35_4 rfl ?_
  refine q_iadd d35_5 ?_
  exact q_iret d35_6 rfl (Nat.le_refl _) (Nat.le_refl _) v1

set_option maxRecDepth 10000 in
set_option maxHeartbeats 4000000 in
theorem s53 {d : Nat} {I : Nat → Nat → Int32} {D : Nat → Nat → UInt64} {R : Nat → Nat → Option Nat} {Q : j_Po} {a : Int32}   (hd : 0 ≤ d)
    (v1 : Q (some (.int (a / 32))) w1 (I, D, RR R)) : j_Call d 53 [.int a] w1 (I, D, RR R) 0 0 Q := by
  refine q_enter (L := [some (.int a)]) j_m53 (Nat.le_of_ble_eq_true rfl) rfl ?_
  refine q_iload_n d53_0 rfl ?_
  refine q_bipush (v := 32) (by decide) d53_1 ?_
  refine q_idiv (by decide) d53_3 ?_
  exact q_iret d53_4 rfl (Nat.le_refl _) (Nat.le_refl _) v1

set_option maxRecDepth 10000 in
set_option maxHeartbeats 4000000 in
theorem s54 {d : Nat} {I : Nat → Nat → Int32} {D : Nat → Nat → UInt64} {R : Nat → Nat → Option Nat} {Q : j_Po} {a : Int32}   (hd : 0 ≤ d)
    (v1 : (¬ a = 0) → Q (some (.int (a - a / 32 * 32))) w1 (I, D, RR R))
    (v2 : (a = 0) → Q (some (.int (-1))) w1 (I, D, RR R)) : j_Call d 54 [.int a] w1 (I, D, RR R) 0 0 Q := by
  refine q_enter (L := [some (.int a)]) j_m54 (Nat.le_of_ble_eq_true rfl) rfl ?_
  refine q_iload_n d54_0 rfl ?_
  refine q_if_ne (tgt := 8) d54_1 rfl (fun h1t => ?_) (fun h1f => ?_)
  ·
    refine q_iload_n d54_8 rfl ?_
    refine q_bipush (v := 32) (by decide) d54_9 ?_
    refine q_irem (by decide) d54_11 ?_
    exact q_iret d54_12 rfl (Nat.le_refl _) (Nat.le_refl _) (v1 h1t)
  ·
    refine q_iconst (v := (-1)) (by decide) d54_4 ?_
    refine q_goto (tgt := 12) d54_5 rfl ?_
    exact q_iret d54_12 rfl (Nat.le_refl _) (Nat.le_refl _) (v2 h1f)

set_option maxRecDepth 10000 in
set_option maxHeartbeats 4000000 in
theorem s26 {d : Nat} {I : Nat → Nat → Int32} {D : Nat → Nat → UInt64} {R : Nat → Nat → Option Nat} {Q : j_Po} {a : Int64}   (hd : 0 ≤ d)
    (v1 : ((lg_cmp a 2000) ≤ 0) → Q (some (.int ((a : Int64).toInt32))) w1 (I, D, RR R))
    (v2 : (¬ (lg_cmp a 2000) ≤ 0) → Q (some (.int 2001)) w1 (I, D, RR R)) : j_Call d 26 [.long a] w1 (I, D, RR R) 0 0 Q := by
  refine q_enter (L := [some (.long a), none]) j_m26 (Nat.le_of_ble_eq_true rfl) rfl ?_
  refine q_lload_n d26_0 rfl ?_
  refine q_ldcL (v := 2000) d26_1 (kc4_96 26 rfl) ?_
  refine q_lcmp d26_4 ?_
  refine q_if_le (tgt := 14) d26_5 rfl (fun h1t => ?_) (fun h1f => ?_)
  ·
    refine q_lload_n d26_14 rfl ?_
    refine q_l2i d26_15 ?_
    exact q_iret d26_16 rfl (Nat.le_refl _) (Nat.le_refl _) (v1 h1t)
  ·
    refine q_sipush (v := 2001) (by decide) d26_8 ?_
    refine q_goto (tgt := 16) d26_11 rfl ?_
    exact q_iret d26_16 rfl (Nat.le_refl _) (Nat.le_refl _) (v2 h1f)

set_option maxRecDepth 10000 in
set_option maxHeartbeats 4000000 in
theorem s25 {d : Nat} {I : Nat → Nat → Int32} {D : Nat → Nat → UInt64} {R : Nat → Nat → Option Nat} {Q : j_Po} {g : Nat}  (hg : isG g) (hd : 0 ≤ d)
    (v1 : ((I g 5) ≤ 0) → Q (some (.int 1)) w1 (I, D, RR R))
    (v2 : (¬ (I g 5) ≤ 0) → Q (some (.int (I g 5))) w1 (I, D, RR R)) : j_Call d 25 [.ref g] w1 (I, D, RR R) 0 0 Q := by
  refine q_enter (L := [some (.ref g)]) j_m25 (Nat.le_of_ble_eq_true rfl) rfl ?_
  refine q_aload_n d25_0 rfl ?_
  refine q_getI d25_1 (fs3_35 25 rfl) rfl (isG_lt hg) (isG_sh hg) ?_
  refine q_if_le (tgt := 14) d25_4 rfl (fun h1t => ?_) (fun h1f => ?_)
  ·
    refine q_iconst (v := 1) (by decide) d25_14 ?_
    exact q_iret d25_15 rfl (Nat.le_refl _) (Nat.le_refl _) (v1 h1t)
  ·
    refine q_aload_n d25_7 rfl ?_
    refine q_getI d25_8 (fs3_35 25 rfl) rfl (isG_lt hg) (isG_sh hg) ?_
    refine q_goto (tgt := 15) d25_11 rfl ?_
    exact q_iret d25_15 rfl (Nat.le_refl _) (Nat.le_refl _) (v2 h1f)

set_option maxRecDepth 10000 in
set_option maxHeartbeats 4000000 in
theorem s24 {d : Nat} {I : Nat → Nat → Int32} {D : Nat → Nat → UInt64} {R : Nat → Nat → Option Nat} {Q : j_Po} {g : Nat}  (hg : isG g) (hd : 1 ≤ d)
    (v1 : ((I g 5) ≤ 0) → Q (some (.int ((I g 4) * 1))) w1 (I, D, RR R))
    (v2 : (¬ (I g 5) ≤ 0) → Q (some (.int ((I g 4) * (I g 5)))) w1 (I, D, RR R)) : j_Call d 24 [.ref g] w1 (I, D, RR R) 0 0 Q := by
  refine q_enter (L := [some (.ref g)]) j_m24 (Nat.le_of_ble_eq_true rfl) rfl ?_
  refine q_aload_n d24_0 rfl ?_
  refine q_getI d24_1 (fs3_32 24 rfl) rfl (isG_lt hg) (isG_sh hg) ?_
  refine q_aload_n d24_4 rfl ?_
  refine q_invV (o := g) (ci := 3) (av := []) (rest := [.int (I g 4)]) (d' := 0) (mc' := 0) (ms' := 0) d24_5 (cv3_44 24 rfl) rfl (by decide) rfl rfl (by omega) (Nat.le_of_ble_eq_true rfl) (Nat.le_of_ble_eq_true rfl) (isG_lt hg) (isG_sh hg) (Nat.le_refl _) (Nat.le_refl _) ?_
  refine s25 (g := g) hg (Nat.le_refl _) (fun c1 => ?_) (fun c2 => ?_)
  ·
    show j_W 24 d 0 0 0 0 8 [some (.ref g)] [.int 1, .int (I g 4)] w1 (I, D, RR R) Q
    refine q_imul d24_8 ?_
    exact q_iret d24_9 rfl (Nat.le_refl _) (Nat.le_refl _) (v1 c1)
  ·
    show j_W 24 d 0 0 0 0 8 [some (.ref g)] [.int (I g 5), .int (I g 4)] w1 (I, D, RR R) Q
    refine q_imul d24_8 ?_
    exact q_iret d24_9 rfl (Nat.le_refl _) (Nat.le_refl _) (v2 c2)

set_option maxRecDepth 10000 in
set_option maxHeartbeats 4000000 in
theorem s28 {d : Nat} {I : Nat → Nat → Int32} {D : Nat → Nat → UInt64} {R : Nat → Nat → Option Nat} {Q : j_Po} {g : Nat}  (hg : isG g) (hd : 0 ≤ d)
    (v1 : (¬ (I g 3) = (-1)) → Q (some (.int ((1 <<< ((I g 2) &&& 31)) ||| (1 <<< ((I g 3) &&& 31))))) w1 (I, D, RR R))
    (v2 : ((I g 3) = (-1)) → Q (some (.int (1 <<< ((I g 2) &&& 31)))) w1 (I, D, RR R)) : j_Call d 28 [.ref g] w1 (I, D, RR R) 0 0 Q := by
  refine q_enter (L := [some (.ref g)]) j_m28 (Nat.le_of_ble_eq_true rfl) rfl ?_
  refine q_aload_n d28_0 rfl ?_
  refine q_getI d28_1 (fs3_29 28 rfl) rfl (isG_lt hg) (isG_sh hg) ?_
  refine q_iconst (v := (-1)) (by decide) d28_4 ?_
  refine q_icmp_ne (tgt := 17) d28_5 rfl (fun h1t => ?_) (fun h1f => ?_)
  ·
    refine q_iconst (v := 1) (by decide) d28_17 ?_
    refine q_aload_n d28_18 rfl ?_
    refine q_getI d28_19 (fs3_26 28 rfl) rfl (isG_lt hg) (isG_sh hg) ?_
    refine q_ishl d28_22 ?_
    refine q_iconst (v := 1) (by decide) d28_23 ?_
    refine q_aload_n d28_24 rfl ?_
    refine q_getI d28_25 (fs3_29 28 rfl) rfl (isG_lt hg) (isG_sh hg) ?_
    refine q_ishl d28_28 ?_
    refine q_ior d28_29 ?_
    exact q_iret d28_30 rfl (Nat.le_refl _) (Nat.le_refl _) (v1 h1t)
  ·
    refine q_iconst (v := 1) (by decide) d28_8 ?_
    refine q_aload_n d28_9 rfl ?_
    refine q_getI d28_10 (fs3_26 28 rfl) rfl (isG_lt hg) (isG_sh hg) ?_
    refine q_ishl d28_13 ?_
    refine q_goto (tgt := 30) d28_14 rfl ?_
    exact q_iret d28_30 rfl (Nat.le_refl _) (Nat.le_refl _) (v2 h1f)

set_option maxRecDepth 10000 in
set_option maxHeartbeats 4000000 in
theorem s100 {d : Nat} {I : Nat → Nat → Int32} {D : Nat → Nat → UInt64} {R : Nat → Nat → Option Nat} {Q : j_Po} {g : Nat} {c : Int32}  (hg : isG g) (hd : 0 ≤ d)
    (v1 : ((I g 0) = 0) → Q (some (.int 0)) w1 (I, D, RR R))
    (v2 : (¬ (I g 0) = 0) → ((I g 2) = c) → Q (some (.int 1)) w1 (I, D, RR R))
    (v3 : (¬ (I g 0) = 0) → (¬ (I g 2) = c) → (¬ (I g 3) = c) → Q (some (.int 0)) w1 (I, D, RR R))
    (v4 : (¬ (I g 0) = 0) → (¬ (I g 2) = c) → ((I g 3) = c) → Q (some (.int 1)) w1 (I, D, RR R)) : j_Call d 100 [.ref g, .int c] w1 (I, D, RR R) 0 0 Q := by
  refine q_enter (L := [some (.ref g), some (.int c)]) j_m100 (Nat.le_of_ble_eq_true rfl) rfl ?_
  refine q_aload_n d100_0 rfl ?_
  refine q_getI d100_1 (fs3_18 100 rfl) rfl (isG_lt hg) (isG_sh hg) ?_
  refine q_if_eq (tgt := 27) d100_4 rfl (fun h1t => ?_) (fun h1f => ?_)
  ·
    refine q_iconst (v := 0) (by decide) d100_27 ?_
    exact q_zret d100_28 rfl (Or.inl rfl) (Nat.le_refl _) (Nat.le_refl _) (v1 h1t)
  ·
    refine q_aload_n d100_7 rfl ?_
    refine q_getI d100_8 (fs3_26 100 rfl) rfl (isG_lt hg) (isG_sh hg) ?_
    refine q_iload_n d100_11 rfl ?_
    refine q_icmp_eq (tgt := 23) d100_12 rfl (fun h2t => ?_) (fun h2f => ?_)
    ·
      refine q_iconst (v := 1) (by decide) d100_23 ?_
      refine q_goto (tgt := 28) d100_24 rfl ?_
      exact q_zret d100_28 rfl (Or.inr rfl) (Nat.le_refl _) (Nat.le_refl _) (v2 h1f h2t)
    ·
      refine q_aload_n d100_15 rfl ?_
      refine q_getI d100_16 (fs3_29 100 rfl) rfl (isG_lt hg) (isG_sh hg) ?_
      refine q_iload_n d100_19 rfl ?_
      refine q_icmp_ne (tgt := 27) d100_20 rfl (fun h3t => ?_) (fun h3f => ?_)
      ·
        refine q_iconst (v := 0) (by decide) d100_27 ?_
        exact q_zret d100_28 rfl (Or.inl rfl) (Nat.le_refl _) (Nat.le_refl _) (v3 h1f h2f h3t)
      ·
        refine q_iconst (v := 1) (by decide) d100_23 ?_
        refine q_goto (tgt := 28) d100_24 rfl ?_
        exact q_zret d100_28 rfl (Or.inr rfl) (Nat.le_refl _) (Nat.le_refl _) (v4 h1f h2f h3f)

set_option maxRecDepth 10000 in
set_option maxHeartbeats 4000000 in
theorem s111 {d : Nat} {I : Nat → Nat → Int32} {D : Nat → Nat → UInt64} {R : Nat → Nat → Option Nat} {Q : j_Po} {g : Nat} {a : Int32} {b : Int32}  (hg : isG g) (hd : 0 ≤ d)
    (v1 : (¬ a = 0) → Q none w1 ((j_u I g 5 b), D, RR R))
    (v2 : (a = 0) → Q none w1 ((j_u I g 4 b), D, RR R)) : j_Call d 111 [.ref g, .int a, .int b] w1 (I, D, RR R) 0 0 Q := by
  refine q_enter (L := [some (.ref g), some (.int a), some (.int b)]) j_m111 (Nat.le_of_ble_eq_true rfl) rfl ?_
  refine q_iload_n d111_0 rfl ?_
  refine q_if_ne (tgt := 12) d111_1 rfl (fun h1t => ?_) (fun h1f => ?_)
  ·
    refine q_aload_n d111_12 rfl ?_
    refine q_iload_n d111_13 rfl ?_
    refine q_putI d111_14 (fs3_35 111 rfl) (Or.inl rfl) rfl (isG_lt hg) (isG_sh hg) ?_
    exact q_ret d111_17 rfl (Nat.le_refl _) (Nat.le_refl _) (v1 h1t)
  ·
    refine q_aload_n d111_4 rfl ?_
    refine q_iload_n d111_5 rfl ?_
    refine q_putI d111_6 (fs3_32 111 rfl) (Or.inl rfl) rfl (isG_lt hg) (isG_sh hg) ?_
    refine q_goto (tgt := 17) d111_9 rfl ?_
    exact q_ret d111_17 rfl (Nat.le_refl _) (Nat.le_refl _) (v2 h1f)

set_option maxRecDepth 10000 in
set_option maxHeartbeats 4000000 in
theorem s105 {d : Nat} {I : Nat → Nat → Int32} {D : Nat → Nat → UInt64} {R : Nat → Nat → Option Nat} {Q : j_Po} {g : Nat} {a : Int32} {b : Int32} {c : Int32}  (hg : isG g) (hd : 0 ≤ d)
    (v1 : (¬ c = (-1)) → Q none w1 ((j_u (j_u (j_u (j_u (j_u (j_u I g 0 1) g 1 a) g 2 b) g 3 c) g 4 1) g 5 1), (j_u (j_u D (g + 1) 0 FP.dconst0) (g + 2) 0 FP.dconst0), RR R))
    (v2 : (c = (-1)) → Q none w1 ((j_u (j_u (j_u (j_u (j_u (j_u I g 0 1) g 1 a) g 2 b) g 3 c) g 4 1) g 5 0), (j_u (j_u D (g + 1) 0 FP.dconst0) (g + 2) 0 FP.dconst0), RR R)) : j_Call d 105 [.ref g, .int a, .int b, .int c] w1 (I, D, RR R) 0 0 Q := by
  refine q_enter (L := [some (.ref g), some (.int a), some (.int b), some (.int c)]) j_m105 (Nat.le_of_ble_eq_true rfl) rfl ?_
  refine q_aload_n d105_0 rfl ?_
  refine q_iconst (v := 1) (by decide) d105_1 ?_
  refine q_putZ d105_2 (fs3_18 105 rfl) (Or.inl rfl) rfl (Or.inr rfl) (isG_lt hg) (isG_sh hg) ?_
  refine q_aload_n d105_5 rfl ?_
  refine q_iload_n d105_6 rfl ?_
  refine q_putI d105_7 (fs3_22 105 rfl) (Or.inl rfl) rfl (isG_lt hg) (isG_sh hg) ?_
  refine q_aload_n d105_10 rfl ?_
  refine q_iload_n d105_11 rfl ?_
  refine q_putI d105_12 (fs3_26 105 rfl) (Or.inl rfl) rfl (isG_lt hg) (isG_sh hg) ?_
  refine q_aload_n d105_15 rfl ?_
  refine q_iload_n d105_16 rfl ?_
  refine q_putI d105_17 (fs3_29 105 rfl) (Or.inl rfl) rfl (isG_lt hg) (isG_sh hg) ?_
  refine q_aload_n d105_20 rfl ?_
  refine q_iconst (v := 1) (by decide) d105_21 ?_
  refine q_putI d105_22 (fs3_32 105 rfl) (Or.inl rfl) rfl (isG_lt hg) (isG_sh hg) ?_
  refine q_aload_n d105_25 rfl ?_
  refine q_iload_n d105_26 rfl ?_
  refine q_iconst (v := (-1)) (by decide) d105_27 ?_
  refine q_icmp_ne (tgt := 35) d105_28 rfl (fun h1t => ?_) (fun h1f => ?_)
  ·
    refine q_iconst (v := 1) (by decide) d105_35 ?_
    refine q_putI d105_36 (fs3_35 105 rfl) (Or.inl rfl) rfl (isG_lt hg) (isG_sh hg) ?_
    refine q_aload_n d105_39 rfl ?_
    refine q_getR (x := (g + 1)) d105_40 (fs3_9 105 rfl) rfl (isG_lt hg) (isG_sh hg) (isG_r1 R hg) (lt1000 (isG_lt1 hg)) ?_
    refine q_iconst (v := 0) (by decide) d105_43 ?_
    refine q_dconst0 d105_44 ?_
    refine q_dastore (a := 0) d105_45 (isG_lt1 hg) (isG_sh1 hg) rfl (by decide) ?_
    refine q_aload_n d105_46 rfl ?_
    refine q_getR (x := (g + 2)) d105_47 (fs3_15 105 rfl) rfl (isG_lt hg) (isG_sh hg) (isG_r2 R hg) (lt1000 (isG_lt2 hg)) ?_
    refine q_iconst (v := 0) (by decide) d105_50 ?_
    refine q_dconst0 d105_51 ?_
    refine q_dastore (a := 0) d105_52 (isG_lt2 hg) (isG_sh2 hg) rfl (by decide) ?_
    exact q_ret d105_53 rfl (Nat.le_refl _) (Nat.le_refl _) (v1 h1t)
  ·
    refine q_iconst (v := 0) (by decide) d105_31 ?_
    refine q_goto (tgt := 36) d105_32 rfl ?_
    refine q_putI d105_36 (fs3_35 105 rfl) (Or.inl rfl) rfl (isG_lt hg) (isG_sh hg) ?_
    refine q_aload_n d105_39 rfl ?_
    refine q_getR (x := (g + 1)) d105_40 (fs3_9 105 rfl) rfl (isG_lt hg) (isG_sh hg) (isG_r1 R hg) (lt1000 (isG_lt1 hg)) ?_
    refine q_iconst (v := 0) (by decide) d105_43 ?_
    refine q_dconst0 d105_44 ?_
    refine q_dastore (a := 0) d105_45 (isG_lt1 hg) (isG_sh1 hg) rfl (by decide) ?_
    refine q_aload_n d105_46 rfl ?_
    refine q_getR (x := (g + 2)) d105_47 (fs3_15 105 rfl) rfl (isG_lt hg) (isG_sh hg) (isG_r2 R hg) (lt1000 (isG_lt2 hg)) ?_
    refine q_iconst (v := 0) (by decide) d105_50 ?_
    refine q_dconst0 d105_51 ?_
    refine q_dastore (a := 0) d105_52 (isG_lt2 hg) (isG_sh2 hg) rfl (by decide) ?_
    exact q_ret d105_53 rfl (Nat.le_refl _) (Nat.le_refl _) (v2 h1f)

set_option maxRecDepth 10000 in
set_option maxHeartbeats 4000000 in
theorem s110 {d : Nat} {I : Nat → Nat → Int32} {D : Nat → Nat → UInt64} {R : Nat → Nat → Option Nat} {Q : j_Po} {g : Nat} {a : Int32} {b : Int32} {x : UInt64}  (hg : isG g) (hd : 0 ≤ d)
    (v1 : (b < 0) → Q none w1 (I, D, RR R))
    (v2 : (¬ b < 0) → (b < 8) → (¬ a = 0) → vp_in b 8)
    (v3 : (¬ b < 0) → (b < 8) → (¬ a = 0) → Q none w1 (I, (j_u D (g + 2) b.toNatClampNeg x), RR R))
    (v4 : (¬ b < 0) → (b < 8) → (a = 0) → vp_in b 8)
    (v5 : (¬ b < 0) → (b < 8) → (a = 0) → Q none w1 (I, (j_u D (g + 1) b.toNatClampNeg x), RR R))
    (v6 : (¬ b < 0) → (¬ b < 8) → Q none w1 (I, D, RR R)) : j_Call d 110 [.ref g, .int a, .int b, .double x] w1 (I, D, RR R) 0 0 Q := by
  refine q_enter (L := [some (.ref g), some (.int a), some (.int b), some (.double x), none]) j_m110 (Nat.le_of_ble_eq_true rfl) rfl ?_
  refine q_iload_n d110_0 rfl ?_
  refine q_if_lt (tgt := 10) d110_1 rfl (fun h1t => ?_) (fun h1f => ?_)
  ·
    exact q_ret d110_10 rfl (Nat.le_refl _) (Nat.le_refl _) (v1 h1t)
  ·
    refine q_iload_n d110_4 rfl ?_
    refine q_bipush (v := 8) (by decide) d110_5 ?_
    refine q_icmp_lt (tgt := 11) d110_7 rfl (fun h2t => ?_) (fun h2f => ?_)
    ·
      refine q_iload_n d110_11 rfl ?_
      refine q_if_ne (tgt := 25) d110_12 rfl (fun h3t => ?_) (fun h3f => ?_)
      ·
        refine q_aload_n d110_25 rfl ?_
        refine q_getR (x := (g + 2)) d110_26 (fs3_15 110 rfl) rfl (isG_lt hg) (isG_sh hg) (isG_r2 R hg) (lt1000 (isG_lt2 hg)) ?_
        refine q_iload_n d110_29 rfl ?_
        refine q_dload_n d110_30 rfl ?_
        have g4 := ix_of (v2 h1f h2t h3t) (by decide)
        refine q_dastore (a := b.toNatClampNeg) d110_31 (isG_lt2 hg) (isG_sh2 hg) g4.1 g4.2 ?_
        exact q_ret d110_32 rfl (Nat.le_refl _) (Nat.le_refl _) (v3 h1f h2t h3t)
      ·
        refine q_aload_n d110_15 rfl ?_
        refine q_getR (x := (g + 1)) d110_16 (fs3_9 110 rfl) rfl (isG_lt hg) (isG_sh hg) (isG_r1 R hg) (lt1000 (isG_lt1 hg)) ?_
        refine q_iload_n d110_19 rfl ?_
        refine q_dload_n d110_20 rfl ?_
        have g5 := ix_of (v4 h1f h2t h3f) (by decide)
        refine q_dastore (a := b.toNatClampNeg) d110_21 (isG_lt1 hg) (isG_sh1 hg) g5.1 g5.2 ?_
        refine q_goto (tgt := 32) d110_22 rfl ?_
        exact q_ret d110_32 rfl (Nat.le_refl _) (Nat.le_refl _) (v5 h1f h2t h3f)
    ·
      exact q_ret d110_10 rfl (Nat.le_refl _) (Nat.le_refl _) (v6 h1f h2f)

set_option maxRecDepth 10000 in
set_option maxHeartbeats 4000000 in
theorem s124 {d : Nat} {I : Nat → Nat → Int32} {D : Nat → Nat → UInt64} {R : Nat → Nat → Option Nat} {Q : j_Po} {g : Nat} {a : Int32}  (hg : isG g) (hd : 1 ≤ d)
    (v1 : ((I g 5) ≤ 0) → (a = (-1)) → Q (some (.int (-1))) w1 (I, D, RR R))
    (v2 : ((I g 5) ≤ 0) → (¬ a = (-1)) → Q (some (.int (((a / 1) * 10) + (a - a / 1 * 1)))) w1 (I, D, RR R))
    (v3 : (¬ (I g 5) ≤ 0) → (a = (-1)) → Q (some (.int (-1))) w1 (I, D, RR R))
    (v4 : (¬ (I g 5) ≤ 0) → (¬ a = (-1)) → (1 ≤ (I g 5)) → ¬ (I g 5) = 0)
    (v5 : (¬ (I g 5) ≤ 0) → (¬ a = (-1)) → (1 ≤ (I g 5)) → Q (some (.int (((a / (I g 5)) * 10) + (a - a / (I g 5) * (I g 5))))) w1 (I, D, RR R))
    (v6 : (¬ (I g 5) ≤ 0) → (¬ a = (-1)) → (¬ 1 ≤ (I g 5)) → Q (some (.int (-1))) w1 (I, D, RR R)) : j_Call d 124 [.ref g, .int a] w1 (I, D, RR R) 0 0 Q := by
  refine q_enter (L := [some (.ref g), some (.int a), none]) j_m124 (Nat.le_of_ble_eq_true rfl) rfl ?_
  refine q_aload_n d124_0 rfl ?_
  refine q_invV (o := g) (ci := 3) (av := []) (rest := []) (d' := 0) (mc' := 0) (ms' := 0) d124_1 (cv3_44 124 rfl) rfl (by decide) rfl rfl (by omega) (Nat.le_of_ble_eq_true rfl) (Nat.le_of_ble_eq_true rfl) (isG_lt hg) (isG_sh hg) (Nat.le_refl _) (Nat.le_refl _) ?_
  refine s25 (g := g) hg (Nat.le_refl _) (fun c1 => ?_) (fun c2 => ?_)
  ·
    show j_W 124 d 0 0 0 0 4 [some (.ref g), some (.int a), none] [.int 1] w1 (I, D, RR R) Q
    refine q_istore_n (L' := [some (.ref g), some (.int a), some (.int 1)]) d124_4 (Nat.le_of_ble_eq_true rfl) rfl ?_
    refine q_iload_n d124_5 rfl ?_
    refine q_iconst (v := (-1)) (by decide) d124_6 ?_
    refine q_icmp_eq (tgt := 15) d124_7 rfl (fun h3t => ?_) (fun h3f => ?_)
    ·
      refine q_iconst (v := (-1)) (by decide) d124_15 ?_
      refine q_goto (tgt := 29) d124_16 rfl ?_
      exact q_iret d124_29 rfl (Nat.le_refl _) (Nat.le_refl _) (v1 c1 h3t)
    ·
      refine q_iload_n d124_10 rfl ?_
      refine q_iconst (v := 1) (by decide) d124_11 ?_
      refine q_icmp_ge (tgt := 19) d124_12 rfl (fun _ => ?_) (fun h => absurd h (by decide))
      refine q_iload_n d124_19 rfl ?_
      refine q_iload_n d124_20 rfl ?_
      refine q_idiv (by decide) d124_21 ?_
      refine q_bipush (v := 10) (by decide) d124_22 ?_
      refine q_imul d124_24 ?_
      refine q_iload_n d124_25 rfl ?_
      refine q_iload_n d124_26 rfl ?_
      refine q_irem (by decide) d124_27 ?_
      refine q_iadd d124_28 ?_
      exact q_iret d124_29 rfl (Nat.le_refl _) (Nat.le_refl _) (v2 c1 h3f)
  ·
    show j_W 124 d 0 0 0 0 4 [some (.ref g), some (.int a), none] [.int (I g 5)] w1 (I, D, RR R) Q
    refine q_istore_n (L' := [some (.ref g), some (.int a), some (.int (I g 5))]) d124_4 (Nat.le_of_ble_eq_true rfl) rfl ?_
    refine q_iload_n d124_5 rfl ?_
    refine q_iconst (v := (-1)) (by decide) d124_6 ?_
    refine q_icmp_eq (tgt := 15) d124_7 rfl (fun h4t => ?_) (fun h4f => ?_)
    ·
      refine q_iconst (v := (-1)) (by decide) d124_15 ?_
      refine q_goto (tgt := 29) d124_16 rfl ?_
      exact q_iret d124_29 rfl (Nat.le_refl _) (Nat.le_refl _) (v3 c2 h4t)
    ·
      refine q_iload_n d124_10 rfl ?_
      refine q_iconst (v := 1) (by decide) d124_11 ?_
      refine q_icmp_ge (tgt := 19) d124_12 rfl (fun h5t => ?_) (fun h5f => ?_)
      ·
        refine q_iload_n d124_19 rfl ?_
        refine q_iload_n d124_20 rfl ?_
        refine q_idiv (v4 c2 h4f h5t) d124_21 ?_
        refine q_bipush (v := 10) (by decide) d124_22 ?_
        refine q_imul d124_24 ?_
        refine q_iload_n d124_25 rfl ?_
        refine q_iload_n d124_26 rfl ?_
        refine q_irem (v4 c2 h4f h5t) d124_27 ?_
        refine q_iadd d124_28 ?_
        exact q_iret d124_29 rfl (Nat.le_refl _) (Nat.le_refl _) (v5 c2 h4f h5t)
      ·
        refine q_iconst (v := (-1)) (by decide) d124_15 ?_
        refine q_goto (tgt := 29) d124_16 rfl ?_
        exact q_iret d124_29 rfl (Nat.le_refl _) (Nat.le_refl _) (v6 c2 h4f h5f)

set_option maxRecDepth 10000 in
set_option maxHeartbeats 4000000 in
theorem s109 {d : Nat} {I : Nat → Nat → Int32} {D : Nat → Nat → UInt64} {R : Nat → Nat → Option Nat} {Q : j_Po} {g : Nat} {g2 : Nat}  (hg : isG g) (hg2 : isG g2) (hd : 1 ≤ d)
    (v1 : (I g2 0) = 0 ∨ (I g2 0) = 1)
    (v2 : Q none w1 ((j_u (j_u (j_u (j_u (j_u (j_u I g 0 (I g2 0)) g 1 ((j_u I g 0 (I g2 0)) g2 1)) g 2 ((j_u (j_u I g 0 (I g2 0)) g 1 ((j_u I g 0 (I g2 0)) g2 1)) g2 2)) g 3 ((j_u (j_u (j_u I g 0 (I g2 0)) g 1 ((j_u I g 0 (I g2 0)) g2 1)) g 2 ((j_u (j_u I g 0 (I g2 0)) g 1 ((j_u I g 0 (I g2 0)) g2 1)) g2 2)) g2 3)) g 4 ((j_u (j_u (j_u (j_u I g 0 (I g2 0)) g 1 ((j_u I g 0 (I g2 0)) g2 1)) g 2 ((j_u (j_u I g 0 (I g2 0)) g 1 ((j_u I g 0 (I g2 0)) g2 1)) g2 2)) g 3 ((j_u (j_u (j_u I g 0 (I g2 0)) g 1 ((j_u I g 0 (I g2 0)) g2 1)) g 2 ((j_u (j_u I g 0 (I g2 0)) g 1 ((j_u I g 0 (I g2 0)) g2 1)) g2 2)) g2 3)) g2 4)) g 5 ((j_u (j_u (j_u (j_u (j_u I g 0 (I g2 0)) g 1 ((j_u I g 0 (I g2 0)) g2 1)) g 2 ((j_u (j_u I g 0 (I g2 0)) g 1 ((j_u I g 0 (I g2 0)) g2 1)) g2 2)) g 3 ((j_u (j_u (j_u I g 0 (I g2 0)) g 1 ((j_u I g 0 (I g2 0)) g2 1)) g 2 ((j_u (j_u I g 0 (I g2 0)) g 1 ((j_u I g 0 (I g2 0)) g2 1)) g2 2)) g2 3)) g 4 ((j_u (j_u (j_u (j_u I g 0 (I g2 0)) g 1 ((j_u I g 0 (I g2 0)) g2 1)) g 2 ((j_u (j_u I g 0 (I g2 0)) g 1 ((j_u I g 0 (I g2 0)) g2 1)) g2 2)) g 3 ((j_u (j_u (j_u I g 0 (I g2 0)) g 1 ((j_u I g 0 (I g2 0)) g2 1)) g 2 ((j_u (j_u I g 0 (I g2 0)) g 1 ((j_u I g 0 (I g2 0)) g2 1)) g2 2)) g2 3)) g2 4)) g2 5)), (j_uo (j_uo D (g + 1) (va_cpy (D (g2 + 1)) (D (g + 1)) 0 0 8)) (g + 2) (va_cpy ((j_uo D (g + 1) (va_cpy (D (g2 + 1)) (D (g + 1)) 0 0 8)) (g2 + 2)) ((j_uo D (g + 1) (va_cpy (D (g2 + 1)) (D (g + 1)) 0 0 8)) (g + 2)) 0 0 8)), RR R)) : j_Call d 109 [.ref g, .ref g2] w1 (I, D, RR R) 0 0 Q := by
  refine q_enter (L := [some (.ref g), some (.ref g2)]) j_m109 (Nat.le_of_ble_eq_true rfl) rfl ?_
  refine q_aload_n d109_0 rfl ?_
  refine q_aload_n d109_1 rfl ?_
  refine q_getI d109_2 (fs3_18 109 rfl) rfl (isG_lt hg2) (isG_sh hg2) ?_
  refine q_putZ d109_5 (fs3_18 109 rfl) (Or.inl rfl) rfl v1 (isG_lt hg) (isG_sh hg) ?_
  refine q_aload_n d109_8 rfl ?_
  refine q_aload_n d109_9 rfl ?_
  refine q_getI d109_10 (fs3_22 109 rfl) rfl (isG_lt hg2) (isG_sh hg2) ?_
  refine q_putI d109_13 (fs3_22 109 rfl) (Or.inl rfl) rfl (isG_lt hg) (isG_sh hg) ?_
  refine q_aload_n d109_16 rfl ?_
  refine q_aload_n d109_17 rfl ?_
  refine q_getI d109_18 (fs3_26 109 rfl) rfl (isG_lt hg2) (isG_sh hg2) ?_
  refine q_putI d109_21 (fs3_26 109 rfl) (Or.inl rfl) rfl (isG_lt hg) (isG_sh hg) ?_
  refine q_aload_n d109_24 rfl ?_
  refine q_aload_n d109_25 rfl ?_
  refine q_getI d109_26 (fs3_29 109 rfl) rfl (isG_lt hg2) (isG_sh hg2) ?_
  refine q_putI d109_29 (fs3_29 109 rfl) (Or.inl rfl) rfl (isG_lt hg) (isG_sh hg) ?_
  refine q_aload_n d109_32 rfl ?_
  refine q_aload_n d109_33 rfl ?_
  refine q_getI d109_34 (fs3_32 109 rfl) rfl (isG_lt hg2) (isG_sh hg2) ?_
  refine q_putI d109_37 (fs3_32 109 rfl) (Or.inl rfl) rfl (isG_lt hg) (isG_sh hg) ?_
  refine q_aload_n d109_40 rfl ?_
  refine q_aload_n d109_41 rfl ?_
  refine q_getI d109_42 (fs3_35 109 rfl) rfl (isG_lt hg2) (isG_sh hg2) ?_
  refine q_putI d109_45 (fs3_35 109 rfl) (Or.inl rfl) rfl (isG_lt hg) (isG_sh hg) ?_
  refine q_aload_n d109_48 rfl ?_
  refine q_getR (x := (g2 + 1)) d109_49 (fs3_9 109 rfl) rfl (isG_lt hg2) (isG_sh hg2) (isG_r1 R hg2) (lt1000 (isG_lt1 hg2)) ?_
  refine q_iconst (v := 0) (by decide) d109_52 ?_
  refine q_aload_n d109_53 rfl ?_
  refine q_getR (x := (g + 1)) d109_54 (fs3_9 109 rfl) rfl (isG_lt hg) (isG_sh hg) (isG_r1 R hg) (lt1000 (isG_lt1 hg)) ?_
  refine q_iconst (v := 0) (by decide) d109_57 ?_
  refine q_bipush (v := 8) (by decide) d109_58 ?_
  refine r_copyD (a := 0) (b := 0) (m0 := 8) d109_60 (by exact j_i4 100 rfl) (isG_lt1 hg2) (isG_sh1 hg2) (isG_lt1 hg) (isG_sh1 hg) rfl rfl rfl (by omega) (by omega) (by omega) (Nat.le_of_ble_eq_true rfl) ?_
  refine q_aload_n d109_63 rfl ?_
  refine q_getR (x := (g2 + 2)) d109_64 (fs3_15 109 rfl) rfl (isG_lt hg2) (isG_sh hg2) (isG_r2 R hg2) (lt1000 (isG_lt2 hg2)) ?_
  refine q_iconst (v := 0) (by decide) d109_67 ?_
  refine q_aload_n d109_68 rfl ?_
  refine q_getR (x := (g + 2)) d109_69 (fs3_15 109 rfl) rfl (isG_lt hg) (isG_sh hg) (isG_r2 R hg) (lt1000 (isG_lt2 hg)) ?_
  refine q_iconst (v := 0) (by decide) d109_72 ?_
  refine q_bipush (v := 8) (by decide) d109_73 ?_
  refine r_copyD (a := 0) (b := 0) (m0 := 8) d109_75 (by exact j_i4 100 rfl) (isG_lt2 hg2) (isG_sh2 hg2) (isG_lt2 hg) (isG_sh2 hg) rfl rfl rfl (by omega) (by omega) (by omega) (Nat.le_of_ble_eq_true rfl) ?_
  exact q_ret d109_78 rfl (Nat.le_refl _) (Nat.le_refl _) v2

set_option maxRecDepth 10000 in
set_option maxHeartbeats 4000000 in
theorem s90 {d : Nat} {I : Nat → Nat → Int32} {D : Nat → Nat → UInt64} {R : Nat → Nat → Option Nat} {Q : j_Po} {o : Nat} {a : Int32} {b : Int32}  (ho : isF o) (hd : 0 ≤ d)
    (v1 : (96 ≤ (I o 1)) → Q none w1 (I, D, RR R))
    (v2 : (¬ 96 ≤ (I o 1)) → vp_in (I o 1) 96)
    (v3 : (¬ 96 ≤ (I o 1)) → Q none w1 ((j_u (j_u I o 1 ((I o 1) + 1)) (o + 1) ((I o 1).toNatClampNeg) ((a <<< (24 &&& 31)) ||| b)), D, RR R)) : j_Call d 90 [.ref o, .int a, .int b] w1 (I, D, RR R) 0 0 Q := by
  refine q_enter (L := [some (.ref o), some (.int a), some (.int b)]) j_m90 (Nat.le_of_ble_eq_true rfl) rfl ?_
  refine q_aload_n d90_0 rfl ?_
  refine q_getI d90_1 (fs2_18 90 rfl) rfl (isF_lt ho) (isF_sh ho) ?_
  refine q_bipush (v := 96) (by decide) d90_4 ?_
  refine q_icmp_ge (tgt := 31) d90_6 rfl (fun h1t => ?_) (fun h1f => ?_)
  ·
    exact q_ret d90_31 rfl (Nat.le_refl _) (Nat.le_refl _) (v1 h1t)
  ·
    refine q_aload_n d90_9 rfl ?_
    refine q_getR (x := (o + 1)) d90_10 (fs2_9 90 rfl) rfl (isF_lt ho) (isF_sh ho) (isF_r1 R ho) (lt1000 (isF_lt1 ho)) ?_
    refine q_aload_n d90_13 rfl ?_
    refine q_dup rfl d90_14 ?_
    refine q_getI d90_15 (fs2_18 90 rfl) rfl (isF_lt ho) (isF_sh ho) ?_
    refine q_dup_x1 rfl rfl d90_18 ?_
    refine q_iconst (v := 1) (by decide) d90_19 ?_
    refine q_iadd d90_20 ?_
    refine q_putI d90_21 (fs2_18 90 rfl) (Or.inl rfl) rfl (isF_lt ho) (isF_sh ho) ?_
    refine q_iload_n d90_24 rfl ?_
    refine q_bipush (v := 24) (by decide) d90_25 ?_
    refine q_ishl d90_27 ?_
    refine q_iload_n d90_28 rfl ?_
    refine q_ior d90_29 ?_
    have g2 := ix_of (v2 h1f) (by decide)
    refine q_iastore (a := (I o 1).toNatClampNeg) d90_30 (isF_lt1 ho) (isF_sh1 ho) g2.1 g2.2 ?_
    exact q_ret d90_31 rfl (Nat.le_refl _) (Nat.le_refl _) (v3 h1f)

set_option maxRecDepth 10000 in
set_option maxHeartbeats 4000000 in
theorem s91 {d : Nat} {I : Nat → Nat → Int32} {D : Nat → Nat → UInt64} {R : Nat → Nat → Option Nat} {Q : j_Po} {o : Nat} {a : Int32}  (ho : isF o) (hd : 0 ≤ d)
    (v1 : Q none w1 ((j_u I o 2 ((I o 2) ||| (1 <<< (a &&& 31)))), D, RR R)) : j_Call d 91 [.ref o, .int a] w1 (I, D, RR R) 0 0 Q := by
  refine q_enter (L := [some (.ref o), some (.int a)]) j_m91 (Nat.le_of_ble_eq_true rfl) rfl ?_
  refine q_aload_n d91_0 rfl ?_
  refine q_dup rfl d91_1 ?_
  refine q_getI d91_2 (fs2_22 91 rfl) rfl (isF_lt ho) (isF_sh ho) ?_
  refine q_iconst (v := 1) (by decide) d91_5 ?_
  refine q_iload_n d91_6 rfl ?_
  refine q_ishl d91_7 ?_
  refine q_ior d91_8 ?_
  refine q_putI d91_9 (fs2_22 91 rfl) (Or.inl rfl) rfl (isF_lt ho) (isF_sh ho) ?_
  exact q_ret d91_12 rfl (Nat.le_refl _) (Nat.le_refl _) v1

set_option maxRecDepth 10000 in
set_option maxHeartbeats 4000000 in
theorem s96 {d : Nat} {I : Nat → Nat → Int32} {D : Nat → Nat → UInt64} {R : Nat → Nat → Option Nat} {Q : j_Po} {o : Nat} {k : Nat}  (ho : isF o) (hk : k < 6) (hd : 0 ≤ d)
    (v1 : Q none w1 ((j_u (j_u I o 2 ((I o 2) ||| (1 <<< ((nI (24 + k)) &&& 31)))) (o + 2) k (((j_u I o 2 ((I o 2) ||| (1 <<< ((nI (24 + k)) &&& 31)))) (o + 2) k) + 1)), D, RR R)) : j_Call d 96 [.ref o, .int (nI k)] w1 (I, D, RR R) 0 0 Q := by
  refine q_enter (L := [some (.ref o), some (.int (nI k))]) j_m96 (Nat.le_of_ble_eq_true rfl) rfl ?_
  refine q_aload_n d96_0 rfl ?_
  refine q_dup rfl d96_1 ?_
  refine q_getI d96_2 (fs2_22 96 rfl) rfl (isF_lt ho) (isF_sh ho) ?_
  refine q_iconst (v := 1) (by decide) d96_5 ?_
  refine q_bipush (v := 24) (by decide) d96_6 ?_
  refine q_iload_n d96_8 rfl ?_
  refine q_iadd d96_9 ?_
  refine r_int (y := (nI (24 + k))) (nI_add 24 k) ?_
  refine q_ishl d96_10 ?_
  refine q_ior d96_11 ?_
  refine q_putI d96_12 (fs2_22 96 rfl) (Or.inl rfl) rfl (isF_lt ho) (isF_sh ho) ?_
  refine q_aload_n d96_15 rfl ?_
  refine q_getR (x := (o + 2)) d96_16 (fs2_15 96 rfl) rfl (isF_lt ho) (isF_sh ho) (isF_r2 R ho) (lt1000 (isF_lt2 ho)) ?_
  refine q_iload_n d96_19 rfl ?_
  refine q_dup2_11 rfl rfl d96_20 ?_
  refine q_iaload (a := k) d96_21 (isF_lt2 ho) (isF_sh2 ho) rfl (by omega) ?_
  refine q_iconst (v := 1) (by decide) d96_22 ?_
  refine q_iadd d96_23 ?_
  refine q_iastore (a := k) d96_24 (isF_lt2 ho) (isF_sh2 ho) rfl (by omega) ?_
  exact q_ret d96_25 rfl (Nat.le_refl _) (Nat.le_refl _) v1

set_option maxRecDepth 10000 in
set_option maxHeartbeats 4000000 in
theorem s42 {d : Nat} {I : Nat → Nat → Int32} {D : Nat → Nat → UInt64} {R : Nat → Nat → Option Nat} {Q : j_Po} {t : Nat}  (ht : isTl t) (hd : 0 ≤ d)
    (v1 : Q none w1 ((j_u (j_u (j_u (j_u (j_u I t 0 0) t 3 0) t 5 0) t 8 (-1)) t 9 (-1)), (j_u (j_u (j_u D t 4 FP.dconst0) t 6 FP.dconst0) t 7 FP.dconst0), RR R)) : j_Call d 42 [.ref t] w1 (I, D, RR R) 0 0 Q := by
  refine q_enter (L := [some (.ref t)]) j_m42 (Nat.le_of_ble_eq_true rfl) rfl ?_
  refine q_aload_n d42_0 rfl ?_
  refine q_iconst (v := 0) (by decide) d42_1 ?_
  refine q_putI d42_2 (fs7_19 42 rfl) (Or.inl rfl) rfl (isTl_lt ht) (isTl_sh ht) ?_
  refine q_aload_n d42_5 rfl ?_
  refine q_iconst (v := 0) (by decide) d42_6 ?_
  refine q_putI d42_7 (fs7_23 42 rfl) (Or.inl rfl) rfl (isTl_lt ht) (isTl_sh ht) ?_
  refine q_aload_n d42_10 rfl ?_
  refine q_dconst0 d42_11 ?_
  refine q_putD d42_12 (fs7_26 42 rfl) (Or.inl rfl) rfl (isTl_lt ht) (isTl_sh ht) ?_
  refine q_aload_n d42_15 rfl ?_
  refine q_iconst (v := 0) (by decide) d42_16 ?_
  refine q_putZ d42_17 (fs7_30 42 rfl) (Or.inl rfl) rfl (Or.inl rfl) (isTl_lt ht) (isTl_sh ht) ?_
  refine q_aload_n d42_20 rfl ?_
  refine q_dconst0 d42_21 ?_
  refine q_putD d42_22 (fs7_34 42 rfl) (Or.inl rfl) rfl (isTl_lt ht) (isTl_sh ht) ?_
  refine q_aload_n d42_25 rfl ?_
  refine q_dconst0 d42_26 ?_
  refine q_putD d42_27 (fs7_37 42 rfl) (Or.inl rfl) rfl (isTl_lt ht) (isTl_sh ht) ?_
  refine q_aload_n d42_30 rfl ?_
  refine q_iconst (v := (-1)) (by decide) d42_31 ?_
  refine q_putI d42_32 (fs7_40 42 rfl) (Or.inl rfl) rfl (isTl_lt ht) (isTl_sh ht) ?_
  refine q_aload_n d42_35 rfl ?_
  refine q_iconst (v := (-1)) (by decide) d42_36 ?_
  refine q_putI d42_37 (fs7_43 42 rfl) (Or.inl rfl) rfl (isTl_lt ht) (isTl_sh ht) ?_
  exact q_ret d42_40 rfl (Nat.le_refl _) (Nat.le_refl _) v1

set_option maxRecDepth 10000 in
set_option maxHeartbeats 4000000 in
theorem s47 {d : Nat} {I : Nat → Nat → Int32} {D : Nat → Nat → UInt64} {R : Nat → Nat → Option Nat} {Q : j_Po} {t : Nat} {x : UInt64}  (ht : isTl t) (hd : 0 ≤ d)
    (v1 : (¬ (I t 5) = 0) → (dgt (D t 4) 4786511204640096256 = true) → ((I t 8) = (-1)) → ((I t 9) = (-1)) → Q none w1 ((j_u (j_u (j_u I t 5 1) t 8 (I t 0)) t 9 (I t 0)), (j_u (j_u D t 6 x) t 7 x), RR R))
    (v2 : (¬ (I t 5) = 0) → (dgt (D t 4) 4786511204640096256 = true) → ((I t 8) = (-1)) → (¬ (I t 9) = (-1)) → (dgt x (D t 7) = false) → Q none w1 ((j_u (j_u I t 5 1) t 8 (I t 0)), (j_u D t 6 x), RR R))
    (v3 : (¬ (I t 5) = 0) → (dgt (D t 4) 4786511204640096256 = true) → ((I t 8) = (-1)) → (¬ (I t 9) = (-1)) → (dgt x (D t 7) = true) → Q none w1 ((j_u (j_u (j_u I t 5 1) t 8 (I t 0)) t 9 (I t 0)), (j_u (j_u D t 6 x) t 7 x), RR R))
    (v4 : (¬ (I t 5) = 0) → (dgt (D t 4) 4786511204640096256 = true) → (¬ (I t 8) = (-1)) → (dlt x (D t 6) = false) → ((I t 9) = (-1)) → Q none w1 ((j_u (j_u I t 5 1) t 9 (I t 0)), (j_u D t 7 x), RR R))
    (v5 : (¬ (I t 5) = 0) → (dgt (D t 4) 4786511204640096256 = true) → (¬ (I t 8) = (-1)) → (dlt x (D t 6) = false) → (¬ (I t 9) = (-1)) → (dgt x (D t 7) = false) → Q none w1 ((j_u I t 5 1), D, RR R))
    (v6 : (¬ (I t 5) = 0) → (dgt (D t 4) 4786511204640096256 = true) → (¬ (I t 8) = (-1)) → (dlt x (D t 6) = false) → (¬ (I t 9) = (-1)) → (dgt x (D t 7) = true) → Q none w1 ((j_u (j_u I t 5 1) t 9 (I t 0)), (j_u D t 7 x), RR R))
    (v7 : (¬ (I t 5) = 0) → (dgt (D t 4) 4786511204640096256 = true) → (¬ (I t 8) = (-1)) → (dlt x (D t 6) = true) → ((I t 9) = (-1)) → Q none w1 ((j_u (j_u (j_u I t 5 1) t 8 (I t 0)) t 9 (I t 0)), (j_u (j_u D t 6 x) t 7 x), RR R))
    (v8 : (¬ (I t 5) = 0) → (dgt (D t 4) 4786511204640096256 = true) → (¬ (I t 8) = (-1)) → (dlt x (D t 6) = true) → (¬ (I t 9) = (-1)) → (dgt x (D t 7) = false) → Q none w1 ((j_u (j_u I t 5 1) t 8 (I t 0)), (j_u D t 6 x), RR R))
    (v9 : (¬ (I t 5) = 0) → (dgt (D t 4) 4786511204640096256 = true) → (¬ (I t 8) = (-1)) → (dlt x (D t 6) = true) → (¬ (I t 9) = (-1)) → (dgt x (D t 7) = true) → Q none w1 ((j_u (j_u (j_u I t 5 1) t 8 (I t 0)) t 9 (I t 0)), (j_u (j_u D t 6 x) t 7 x), RR R))
    (v10 : (¬ (I t 5) = 0) → (dgt (D t 4) 4786511204640096256 = false) → (dlt (D t 4) 14009883241494872064 = false) → ((I t 8) = (-1)) → ((I t 9) = (-1)) → Q none w1 ((j_u (j_u I t 8 (I t 0)) t 9 (I t 0)), (j_u (j_u D t 6 x) t 7 x), RR R))
    (v11 : (¬ (I t 5) = 0) → (dgt (D t 4) 4786511204640096256 = false) → (dlt (D t 4) 14009883241494872064 = false) → ((I t 8) = (-1)) → (¬ (I t 9) = (-1)) → (dgt x (D t 7) = false) → Q none w1 ((j_u I t 8 (I t 0)), (j_u D t 6 x), RR R))
    (v12 : (¬ (I t 5) = 0) → (dgt (D t 4) 4786511204640096256 = false) → (dlt (D t 4) 14009883241494872064 = false) → ((I t 8) = (-1)) → (¬ (I t 9) = (-1)) → (dgt x (D t 7) = true) → Q none w1 ((j_u (j_u I t 8 (I t 0)) t 9 (I t 0)), (j_u (j_u D t 6 x) t 7 x), RR R))
    (v13 : (¬ (I t 5) = 0) → (dgt (D t 4) 4786511204640096256 = false) → (dlt (D t 4) 14009883241494872064 = false) → (¬ (I t 8) = (-1)) → (dlt x (D t 6) = false) → ((I t 9) = (-1)) → Q none w1 ((j_u I t 9 (I t 0)), (j_u D t 7 x), RR R))
    (v14 : (¬ (I t 5) = 0) → (dgt (D t 4) 4786511204640096256 = false) → (dlt (D t 4) 14009883241494872064 = false) → (¬ (I t 8) = (-1)) → (dlt x (D t 6) = false) → (¬ (I t 9) = (-1)) → (dgt x (D t 7) = false) → Q none w1 (I, D, RR R))
    (v15 : (¬ (I t 5) = 0) → (dgt (D t 4) 4786511204640096256 = false) → (dlt (D t 4) 14009883241494872064 = false) → (¬ (I t 8) = (-1)) → (dlt x (D t 6) = false) → (¬ (I t 9) = (-1)) → (dgt x (D t 7) = true) → Q none w1 ((j_u I t 9 (I t 0)), (j_u D t 7 x), RR R))
    (v16 : (¬ (I t 5) = 0) → (dgt (D t 4) 4786511204640096256 = false) → (dlt (D t 4) 14009883241494872064 = false) → (¬ (I t 8) = (-1)) → (dlt x (D t 6) = true) → ((I t 9) = (-1)) → Q none w1 ((j_u (j_u I t 8 (I t 0)) t 9 (I t 0)), (j_u (j_u D t 6 x) t 7 x), RR R))
    (v17 : (¬ (I t 5) = 0) → (dgt (D t 4) 4786511204640096256 = false) → (dlt (D t 4) 14009883241494872064 = false) → (¬ (I t 8) = (-1)) → (dlt x (D t 6) = true) → (¬ (I t 9) = (-1)) → (dgt x (D t 7) = false) → Q none w1 ((j_u I t 8 (I t 0)), (j_u D t 6 x), RR R))
    (v18 : (¬ (I t 5) = 0) → (dgt (D t 4) 4786511204640096256 = false) → (dlt (D t 4) 14009883241494872064 = false) → (¬ (I t 8) = (-1)) → (dlt x (D t 6) = true) → (¬ (I t 9) = (-1)) → (dgt x (D t 7) = true) → Q none w1 ((j_u (j_u I t 8 (I t 0)) t 9 (I t 0)), (j_u (j_u D t 6 x) t 7 x), RR R))
    (v19 : (¬ (I t 5) = 0) → (dgt (D t 4) 4786511204640096256 = false) → (dlt (D t 4) 14009883241494872064 = true) → ((I t 8) = (-1)) → ((I t 9) = (-1)) → Q none w1 ((j_u (j_u (j_u I t 5 1) t 8 (I t 0)) t 9 (I t 0)), (j_u (j_u D t 6 x) t 7 x), RR R))
    (v20 : (¬ (I t 5) = 0) → (dgt (D t 4) 4786511204640096256 = false) → (dlt (D t 4) 14009883241494872064 = true) → ((I t 8) = (-1)) → (¬ (I t 9) = (-1)) → (dgt x (D t 7) = false) → Q none w1 ((j_u (j_u I t 5 1) t 8 (I t 0)), (j_u D t 6 x), RR R))
    (v21 : (¬ (I t 5) = 0) → (dgt (D t 4) 4786511204640096256 = false) → (dlt (D t 4) 14009883241494872064 = true) → ((I t 8) = (-1)) → (¬ (I t 9) = (-1)) → (dgt x (D t 7) = true) → Q none w1 ((j_u (j_u (j_u I t 5 1) t 8 (I t 0)) t 9 (I t 0)), (j_u (j_u D t 6 x) t 7 x), RR R))
    (v22 : (¬ (I t 5) = 0) → (dgt (D t 4) 4786511204640096256 = false) → (dlt (D t 4) 14009883241494872064 = true) → (¬ (I t 8) = (-1)) → (dlt x (D t 6) = false) → ((I t 9) = (-1)) → Q none w1 ((j_u (j_u I t 5 1) t 9 (I t 0)), (j_u D t 7 x), RR R))
    (v23 : (¬ (I t 5) = 0) → (dgt (D t 4) 4786511204640096256 = false) → (dlt (D t 4) 14009883241494872064 = true) → (¬ (I t 8) = (-1)) → (dlt x (D t 6) = false) → (¬ (I t 9) = (-1)) → (dgt x (D t 7) = false) → Q none w1 ((j_u I t 5 1), D, RR R))
    (v24 : (¬ (I t 5) = 0) → (dgt (D t 4) 4786511204640096256 = false) → (dlt (D t 4) 14009883241494872064 = true) → (¬ (I t 8) = (-1)) → (dlt x (D t 6) = false) → (¬ (I t 9) = (-1)) → (dgt x (D t 7) = true) → Q none w1 ((j_u (j_u I t 5 1) t 9 (I t 0)), (j_u D t 7 x), RR R))
    (v25 : (¬ (I t 5) = 0) → (dgt (D t 4) 4786511204640096256 = false) → (dlt (D t 4) 14009883241494872064 = true) → (¬ (I t 8) = (-1)) → (dlt x (D t 6) = true) → ((I t 9) = (-1)) → Q none w1 ((j_u (j_u (j_u I t 5 1) t 8 (I t 0)) t 9 (I t 0)), (j_u (j_u D t 6 x) t 7 x), RR R))
    (v26 : (¬ (I t 5) = 0) → (dgt (D t 4) 4786511204640096256 = false) → (dlt (D t 4) 14009883241494872064 = true) → (¬ (I t 8) = (-1)) → (dlt x (D t 6) = true) → (¬ (I t 9) = (-1)) → (dgt x (D t 7) = false) → Q none w1 ((j_u (j_u I t 5 1) t 8 (I t 0)), (j_u D t 6 x), RR R))
    (v27 : (¬ (I t 5) = 0) → (dgt (D t 4) 4786511204640096256 = false) → (dlt (D t 4) 14009883241494872064 = true) → (¬ (I t 8) = (-1)) → (dlt x (D t 6) = true) → (¬ (I t 9) = (-1)) → (dgt x (D t 7) = true) → Q none w1 ((j_u (j_u (j_u I t 5 1) t 8 (I t 0)) t 9 (I t 0)), (j_u (j_u D t 6 x) t 7 x), RR R))
    (v28 : ((I t 5) = 0) → vf_n64 (FP.dadd (D t 4) x))
    (v29 : ((I t 5) = 0) → (dgt (FP.dadd (D t 4) x) 4786511204640096256 = true) → ((I t 8) = (-1)) → ((I t 9) = (-1)) → Q none w1 ((j_u (j_u (j_u I t 5 1) t 8 (I t 0)) t 9 (I t 0)), (j_u (j_u (j_u D t 4 (FP.dadd (D t 4) x)) t 6 x) t 7 x), RR R))
    (v30 : ((I t 5) = 0) → (dgt (FP.dadd (D t 4) x) 4786511204640096256 = true) → ((I t 8) = (-1)) → (¬ (I t 9) = (-1)) → (dgt x (D t 7) = false) → Q none w1 ((j_u (j_u I t 5 1) t 8 (I t 0)), (j_u (j_u D t 4 (FP.dadd (D t 4) x)) t 6 x), RR R))
    (v31 : ((I t 5) = 0) → (dgt (FP.dadd (D t 4) x) 4786511204640096256 = true) → ((I t 8) = (-1)) → (¬ (I t 9) = (-1)) → (dgt x (D t 7) = true) → Q none w1 ((j_u (j_u (j_u I t 5 1) t 8 (I t 0)) t 9 (I t 0)), (j_u (j_u (j_u D t 4 (FP.dadd (D t 4) x)) t 6 x) t 7 x), RR R))
    (v32 : ((I t 5) = 0) → (dgt (FP.dadd (D t 4) x) 4786511204640096256 = true) → (¬ (I t 8) = (-1)) → (dlt x (D t 6) = false) → ((I t 9) = (-1)) → Q none w1 ((j_u (j_u I t 5 1) t 9 (I t 0)), (j_u (j_u D t 4 (FP.dadd (D t 4) x)) t 7 x), RR R))
    (v33 : ((I t 5) = 0) → (dgt (FP.dadd (D t 4) x) 4786511204640096256 = true) → (¬ (I t 8) = (-1)) → (dlt x (D t 6) = false) → (¬ (I t 9) = (-1)) → (dgt x (D t 7) = false) → Q none w1 ((j_u I t 5 1), (j_u D t 4 (FP.dadd (D t 4) x)), RR R))
    (v34 : ((I t 5) = 0) → (dgt (FP.dadd (D t 4) x) 4786511204640096256 = true) → (¬ (I t 8) = (-1)) → (dlt x (D t 6) = false) → (¬ (I t 9) = (-1)) → (dgt x (D t 7) = true) → Q none w1 ((j_u (j_u I t 5 1) t 9 (I t 0)), (j_u (j_u D t 4 (FP.dadd (D t 4) x)) t 7 x), RR R))
    (v35 : ((I t 5) = 0) → (dgt (FP.dadd (D t 4) x) 4786511204640096256 = true) → (¬ (I t 8) = (-1)) → (dlt x (D t 6) = true) → ((I t 9) = (-1)) → Q none w1 ((j_u (j_u (j_u I t 5 1) t 8 (I t 0)) t 9 (I t 0)), (j_u (j_u (j_u D t 4 (FP.dadd (D t 4) x)) t 6 x) t 7 x), RR R))
    (v36 : ((I t 5) = 0) → (dgt (FP.dadd (D t 4) x) 4786511204640096256 = true) → (¬ (I t 8) = (-1)) → (dlt x (D t 6) = true) → (¬ (I t 9) = (-1)) → (dgt x (D t 7) = false) → Q none w1 ((j_u (j_u I t 5 1) t 8 (I t 0)), (j_u (j_u D t 4 (FP.dadd (D t 4) x)) t 6 x), RR R))
    (v37 : ((I t 5) = 0) → (dgt (FP.dadd (D t 4) x) 4786511204640096256 = true) → (¬ (I t 8) = (-1)) → (dlt x (D t 6) = true) → (¬ (I t 9) = (-1)) → (dgt x (D t 7) = true) → Q none w1 ((j_u (j_u (j_u I t 5 1) t 8 (I t 0)) t 9 (I t 0)), (j_u (j_u (j_u D t 4 (FP.dadd (D t 4) x)) t 6 x) t 7 x), RR R))
    (v38 : ((I t 5) = 0) → (dgt (FP.dadd (D t 4) x) 4786511204640096256 = false) → (dlt (FP.dadd (D t 4) x) 14009883241494872064 = false) → ((I t 8) = (-1)) → ((I t 9) = (-1)) → Q none w1 ((j_u (j_u I t 8 (I t 0)) t 9 (I t 0)), (j_u (j_u (j_u D t 4 (FP.dadd (D t 4) x)) t 6 x) t 7 x), RR R))
    (v39 : ((I t 5) = 0) → (dgt (FP.dadd (D t 4) x) 4786511204640096256 = false) → (dlt (FP.dadd (D t 4) x) 14009883241494872064 = false) → ((I t 8) = (-1)) → (¬ (I t 9) = (-1)) → (dgt x (D t 7) = false) → Q none w1 ((j_u I t 8 (I t 0)), (j_u (j_u D t 4 (FP.dadd (D t 4) x)) t 6 x), RR R))
    (v40 : ((I t 5) = 0) → (dgt (FP.dadd (D t 4) x) 4786511204640096256 = false) → (dlt (FP.dadd (D t 4) x) 14009883241494872064 = false) → ((I t 8) = (-1)) → (¬ (I t 9) = (-1)) → (dgt x (D t 7) = true) → Q none w1 ((j_u (j_u I t 8 (I t 0)) t 9 (I t 0)), (j_u (j_u (j_u D t 4 (FP.dadd (D t 4) x)) t 6 x) t 7 x), RR R))
    (v41 : ((I t 5) = 0) → (dgt (FP.dadd (D t 4) x) 4786511204640096256 = false) → (dlt (FP.dadd (D t 4) x) 14009883241494872064 = false) → (¬ (I t 8) = (-1)) → (dlt x (D t 6) = false) → ((I t 9) = (-1)) → Q none w1 ((j_u I t 9 (I t 0)), (j_u (j_u D t 4 (FP.dadd (D t 4) x)) t 7 x), RR R))
    (v42 : ((I t 5) = 0) → (dgt (FP.dadd (D t 4) x) 4786511204640096256 = false) → (dlt (FP.dadd (D t 4) x) 14009883241494872064 = false) → (¬ (I t 8) = (-1)) → (dlt x (D t 6) = false) → (¬ (I t 9) = (-1)) → (dgt x (D t 7) = false) → Q none w1 (I, (j_u D t 4 (FP.dadd (D t 4) x)), RR R))
    (v43 : ((I t 5) = 0) → (dgt (FP.dadd (D t 4) x) 4786511204640096256 = false) → (dlt (FP.dadd (D t 4) x) 14009883241494872064 = false) → (¬ (I t 8) = (-1)) → (dlt x (D t 6) = false) → (¬ (I t 9) = (-1)) → (dgt x (D t 7) = true) → Q none w1 ((j_u I t 9 (I t 0)), (j_u (j_u D t 4 (FP.dadd (D t 4) x)) t 7 x), RR R))
    (v44 : ((I t 5) = 0) → (dgt (FP.dadd (D t 4) x) 4786511204640096256 = false) → (dlt (FP.dadd (D t 4) x) 14009883241494872064 = false) → (¬ (I t 8) = (-1)) → (dlt x (D t 6) = true) → ((I t 9) = (-1)) → Q none w1 ((j_u (j_u I t 8 (I t 0)) t 9 (I t 0)), (j_u (j_u (j_u D t 4 (FP.dadd (D t 4) x)) t 6 x) t 7 x), RR R))
    (v45 : ((I t 5) = 0) → (dgt (FP.dadd (D t 4) x) 4786511204640096256 = false) → (dlt (FP.dadd (D t 4) x) 14009883241494872064 = false) → (¬ (I t 8) = (-1)) → (dlt x (D t 6) = true) → (¬ (I t 9) = (-1)) → (dgt x (D t 7) = false) → Q none w1 ((j_u I t 8 (I t 0)), (j_u (j_u D t 4 (FP.dadd (D t 4) x)) t 6 x), RR R))
    (v46 : ((I t 5) = 0) → (dgt (FP.dadd (D t 4) x) 4786511204640096256 = false) → (dlt (FP.dadd (D t 4) x) 14009883241494872064 = false) → (¬ (I t 8) = (-1)) → (dlt x (D t 6) = true) → (¬ (I t 9) = (-1)) → (dgt x (D t 7) = true) → Q none w1 ((j_u (j_u I t 8 (I t 0)) t 9 (I t 0)), (j_u (j_u (j_u D t 4 (FP.dadd (D t 4) x)) t 6 x) t 7 x), RR R))
    (v47 : ((I t 5) = 0) → (dgt (FP.dadd (D t 4) x) 4786511204640096256 = false) → (dlt (FP.dadd (D t 4) x) 14009883241494872064 = true) → ((I t 8) = (-1)) → ((I t 9) = (-1)) → Q none w1 ((j_u (j_u (j_u I t 5 1) t 8 (I t 0)) t 9 (I t 0)), (j_u (j_u (j_u D t 4 (FP.dadd (D t 4) x)) t 6 x) t 7 x), RR R))
    (v48 : ((I t 5) = 0) → (dgt (FP.dadd (D t 4) x) 4786511204640096256 = false) → (dlt (FP.dadd (D t 4) x) 14009883241494872064 = true) → ((I t 8) = (-1)) → (¬ (I t 9) = (-1)) → (dgt x (D t 7) = false) → Q none w1 ((j_u (j_u I t 5 1) t 8 (I t 0)), (j_u (j_u D t 4 (FP.dadd (D t 4) x)) t 6 x), RR R))
    (v49 : ((I t 5) = 0) → (dgt (FP.dadd (D t 4) x) 4786511204640096256 = false) → (dlt (FP.dadd (D t 4) x) 14009883241494872064 = true) → ((I t 8) = (-1)) → (¬ (I t 9) = (-1)) → (dgt x (D t 7) = true) → Q none w1 ((j_u (j_u (j_u I t 5 1) t 8 (I t 0)) t 9 (I t 0)), (j_u (j_u (j_u D t 4 (FP.dadd (D t 4) x)) t 6 x) t 7 x), RR R))
    (v50 : ((I t 5) = 0) → (dgt (FP.dadd (D t 4) x) 4786511204640096256 = false) → (dlt (FP.dadd (D t 4) x) 14009883241494872064 = true) → (¬ (I t 8) = (-1)) → (dlt x (D t 6) = false) → ((I t 9) = (-1)) → Q none w1 ((j_u (j_u I t 5 1) t 9 (I t 0)), (j_u (j_u D t 4 (FP.dadd (D t 4) x)) t 7 x), RR R))
    (v51 : ((I t 5) = 0) → (dgt (FP.dadd (D t 4) x) 4786511204640096256 = false) → (dlt (FP.dadd (D t 4) x) 14009883241494872064 = true) → (¬ (I t 8) = (-1)) → (dlt x (D t 6) = false) → (¬ (I t 9) = (-1)) → (dgt x (D t 7) = false) → Q none w1 ((j_u I t 5 1), (j_u D t 4 (FP.dadd (D t 4) x)), RR R))
    (v52 : ((I t 5) = 0) → (dgt (FP.dadd (D t 4) x) 4786511204640096256 = false) → (dlt (FP.dadd (D t 4) x) 14009883241494872064 = true) → (¬ (I t 8) = (-1)) → (dlt x (D t 6) = false) → (¬ (I t 9) = (-1)) → (dgt x (D t 7) = true) → Q none w1 ((j_u (j_u I t 5 1) t 9 (I t 0)), (j_u (j_u D t 4 (FP.dadd (D t 4) x)) t 7 x), RR R))
    (v53 : ((I t 5) = 0) → (dgt (FP.dadd (D t 4) x) 4786511204640096256 = false) → (dlt (FP.dadd (D t 4) x) 14009883241494872064 = true) → (¬ (I t 8) = (-1)) → (dlt x (D t 6) = true) → ((I t 9) = (-1)) → Q none w1 ((j_u (j_u (j_u I t 5 1) t 8 (I t 0)) t 9 (I t 0)), (j_u (j_u (j_u D t 4 (FP.dadd (D t 4) x)) t 6 x) t 7 x), RR R))
    (v54 : ((I t 5) = 0) → (dgt (FP.dadd (D t 4) x) 4786511204640096256 = false) → (dlt (FP.dadd (D t 4) x) 14009883241494872064 = true) → (¬ (I t 8) = (-1)) → (dlt x (D t 6) = true) → (¬ (I t 9) = (-1)) → (dgt x (D t 7) = false) → Q none w1 ((j_u (j_u I t 5 1) t 8 (I t 0)), (j_u (j_u D t 4 (FP.dadd (D t 4) x)) t 6 x), RR R))
    (v55 : ((I t 5) = 0) → (dgt (FP.dadd (D t 4) x) 4786511204640096256 = false) → (dlt (FP.dadd (D t 4) x) 14009883241494872064 = true) → (¬ (I t 8) = (-1)) → (dlt x (D t 6) = true) → (¬ (I t 9) = (-1)) → (dgt x (D t 7) = true) → Q none w1 ((j_u (j_u (j_u I t 5 1) t 8 (I t 0)) t 9 (I t 0)), (j_u (j_u (j_u D t 4 (FP.dadd (D t 4) x)) t 6 x) t 7 x), RR R)) : j_Call d 47 [.ref t, .double x] w1 (I, D, RR R) 0 0 Q := by
  refine q_enter (L := [some (.ref t), some (.double x), none]) j_m47 (Nat.le_of_ble_eq_true rfl) rfl ?_
  refine q_aload_n d47_0 rfl ?_
  refine q_getI d47_1 (fs7_30 47 rfl) rfl (isTl_lt ht) (isTl_sh ht) ?_
  refine q_if_ne (tgt := 17) d47_4 rfl (fun h1t => ?_) (fun h1f => ?_)
  ·
    refine q_aload_n d47_17 rfl ?_
    refine q_getD d47_18 (fs7_26 47 rfl) rfl (isTl_lt ht) (isTl_sh ht) ?_
    refine q_ldcD (v := 4786511204640096256) d47_21 (kc7_50 47 rfl) ?_
    refine q_dcmp d47_24 ?_
    refine q_if_gt (tgt := 39) d47_25 rfl (fun h2t => ?_) (fun h2f => ?_)
    ·
      have h2tc : dgt (D t 4) 4786511204640096256 = true := dc_l_gt_t h2t
      refine q_aload_n d47_39 rfl ?_
      refine q_iconst (v := 1) (by decide) d47_40 ?_
      refine q_putZ d47_41 (fs7_30 47 rfl) (Or.inl rfl) rfl (Or.inr rfl) (isTl_lt ht) (isTl_sh ht) ?_
      refine q_aload_n d47_44 rfl ?_
      refine q_getI d47_45 (fs7_40 47 rfl) rfl (isTl_lt ht) (isTl_sh ht) ?_
      refine r_int (y := (I t 8)) (show (j_u I t 5 1) t 8 = (I t 8) from (j_u_k _ _ (by decide))) ?_
      refine q_iconst (v := (-1)) (by decide) d47_48 ?_
      refine q_icmp_eq (tgt := 61) d47_49 rfl (fun h3t => ?_) (fun h3f => ?_)
      ·
        refine q_aload_n d47_61 rfl ?_
        refine q_dload_n d47_62 rfl ?_
        refine q_putD d47_63 (fs7_34 47 rfl) (Or.inl rfl) rfl (isTl_lt ht) (isTl_sh ht) ?_
        refine q_aload_n d47_66 rfl ?_
        refine q_aload_n d47_67 rfl ?_
        refine q_getI d47_68 (fs7_19 47 rfl) rfl (isTl_lt ht) (isTl_sh ht) ?_
        refine r_int (y := (I t 0)) (show (j_u I t 5 1) t 0 = (I t 0) from (j_u_k _ _ (by decide))) ?_
        refine q_putI d47_71 (fs7_40 47 rfl) (Or.inl rfl) rfl (isTl_lt ht) (isTl_sh ht) ?_
        refine q_aload_n d47_74 rfl ?_
        refine q_getI d47_75 (fs7_43 47 rfl) rfl (isTl_lt ht) (isTl_sh ht) ?_
        refine r_int (y := (I t 9)) (show (j_u (j_u I t 5 1) t 8 (I t 0)) t 9 = (I t 9) from ((j_u_k _ _ (by decide)).trans (j_u_k _ _ (by decide)))) ?_
        refine q_iconst (v := (-1)) (by decide) d47_78 ?_
        refine q_icmp_eq (tgt := 91) d47_79 rfl (fun h4t => ?_) (fun h4f => ?_)
        ·
          refine q_aload_n d47_91 rfl ?_
          refine q_dload_n d47_92 rfl ?_
          refine q_putD d47_93 (fs7_37 47 rfl) (Or.inl rfl) rfl (isTl_lt ht) (isTl_sh ht) ?_
          refine q_aload_n d47_96 rfl ?_
          refine q_aload_n d47_97 rfl ?_
          refine q_getI d47_98 (fs7_19 47 rfl) rfl (isTl_lt ht) (isTl_sh ht) ?_
          refine r_int (y := (I t 0)) (show (j_u (j_u I t 5 1) t 8 (I t 0)) t 0 = (I t 0) from ((j_u_k _ _ (by decide)).trans (j_u_k _ _ (by decide)))) ?_
          refine q_putI d47_101 (fs7_43 47 rfl) (Or.inl rfl) rfl (isTl_lt ht) (isTl_sh ht) ?_
          exact q_ret d47_104 rfl (Nat.le_refl _) (Nat.le_refl _) (v1 h1t h2tc h3t h4t)
        ·
          refine q_dload_n d47_82 rfl ?_
          refine q_aload_n d47_83 rfl ?_
          refine q_getD d47_84 (fs7_37 47 rfl) rfl (isTl_lt ht) (isTl_sh ht) ?_
          refine r_dbl (y := (D t 7)) (show (j_u D t 6 x) t 7 = (D t 7) from (j_u_k _ _ (by decide))) ?_
          refine q_dcmp d47_87 ?_
          refine q_if_le (tgt := 104) d47_88 rfl (fun h5t => ?_) (fun h5f => ?_)
          ·
            have h5tc : dgt x (D t 7) = false := dc_l_le_t h5t
            exact q_ret d47_104 rfl (Nat.le_refl _) (Nat.le_refl _) (v2 h1t h2tc h3t h4f h5tc)
          ·
            have h5fc : dgt x (D t 7) = true := dc_l_le_f h5f
            refine q_aload_n d47_91 rfl ?_
            refine q_dload_n d47_92 rfl ?_
            refine q_putD d47_93 (fs7_37 47 rfl) (Or.inl rfl) rfl (isTl_lt ht) (isTl_sh ht) ?_
            refine q_aload_n d47_96 rfl ?_
            refine q_aload_n d47_97 rfl ?_
            refine q_getI d47_98 (fs7_19 47 rfl) rfl (isTl_lt ht) (isTl_sh ht) ?_
            refine r_int (y := (I t 0)) (show (j_u (j_u I t 5 1) t 8 (I t 0)) t 0 = (I t 0) from ((j_u_k _ _ (by decide)).trans (j_u_k _ _ (by decide)))) ?_
            refine q_putI d47_101 (fs7_43 47 rfl) (Or.inl rfl) rfl (isTl_lt ht) (isTl_sh ht) ?_
            exact q_ret d47_104 rfl (Nat.le_refl _) (Nat.le_refl _) (v3 h1t h2tc h3t h4f h5fc)
      ·
        refine q_dload_n d47_52 rfl ?_
        refine q_aload_n d47_53 rfl ?_
        refine q_getD d47_54 (fs7_34 47 rfl) rfl (isTl_lt ht) (isTl_sh ht) ?_
        refine q_dcmp d47_57 ?_
        refine q_if_ge (tgt := 74) d47_58 rfl (fun h6t => ?_) (fun h6f => ?_)
        ·
          have h6tc : dlt x (D t 6) = false := dc_g_ge_t h6t
          refine q_aload_n d47_74 rfl ?_
          refine q_getI d47_75 (fs7_43 47 rfl) rfl (isTl_lt ht) (isTl_sh ht) ?_
          refine r_int (y := (I t 9)) (show (j_u I t 5 1) t 9 = (I t 9) from (j_u_k _ _ (by decide))) ?_
          refine q_iconst (v := (-1)) (by decide) d47_78 ?_
          refine q_icmp_eq (tgt := 91) d47_79 rfl (fun h7t => ?_) (fun h7f => ?_)
          ·
            refine q_aload_n d47_91 rfl ?_
            refine q_dload_n d47_92 rfl ?_
            refine q_putD d47_93 (fs7_37 47 rfl) (Or.inl rfl) rfl (isTl_lt ht) (isTl_sh ht) ?_
            refine q_aload_n d47_96 rfl ?_
            refine q_aload_n d47_97 rfl ?_
            refine q_getI d47_98 (fs7_19 47 rfl) rfl (isTl_lt ht) (isTl_sh ht) ?_
            refine r_int (y := (I t 0)) (show (j_u I t 5 1) t 0 = (I t 0) from (j_u_k _ _ (by decide))) ?_
            refine q_putI d47_101 (fs7_43 47 rfl) (Or.inl rfl) rfl (isTl_lt ht) (isTl_sh ht) ?_
            exact q_ret d47_104 rfl (Nat.le_refl _) (Nat.le_refl _) (v4 h1t h2tc h3f h6tc h7t)
          ·
            refine q_dload_n d47_82 rfl ?_
            refine q_aload_n d47_83 rfl ?_
            refine q_getD d47_84 (fs7_37 47 rfl) rfl (isTl_lt ht) (isTl_sh ht) ?_
            refine q_dcmp d47_87 ?_
            refine q_if_le (tgt := 104) d47_88 rfl (fun h8t => ?_) (fun h8f => ?_)
            ·
              have h8tc : dgt x (D t 7) = false := dc_l_le_t h8t
              exact q_ret d47_104 rfl (Nat.le_refl _) (Nat.le_refl _) (v5 h1t h2tc h3f h6tc h7f h8tc)
            ·
              have h8fc : dgt x (D t 7) = true := dc_l_le_f h8f
              refine q_aload_n d47_91 rfl ?_
              refine q_dload_n d47_92 rfl ?_
              refine q_putD d47_93 (fs7_37 47 rfl) (Or.inl rfl) rfl (isTl_lt ht) (isTl_sh ht) ?_
              refine q_aload_n d47_96 rfl ?_
              refine q_aload_n d47_97 rfl ?_
              refine q_getI d47_98 (fs7_19 47 rfl) rfl (isTl_lt ht) (isTl_sh ht) ?_
              refine r_int (y := (I t 0)) (show (j_u I t 5 1) t 0 = (I t 0) from (j_u_k _ _ (by decide))) ?_
              refine q_putI d47_101 (fs7_43 47 rfl) (Or.inl rfl) rfl (isTl_lt ht) (isTl_sh ht) ?_
              exact q_ret d47_104 rfl (Nat.le_refl _) (Nat.le_refl _) (v6 h1t h2tc h3f h6tc h7f h8fc)
        ·
          have h6fc : dlt x (D t 6) = true := dc_g_ge_f h6f
          refine q_aload_n d47_61 rfl ?_
          refine q_dload_n d47_62 rfl ?_
          refine q_putD d47_63 (fs7_34 47 rfl) (Or.inl rfl) rfl (isTl_lt ht) (isTl_sh ht) ?_
          refine q_aload_n d47_66 rfl ?_
          refine q_aload_n d47_67 rfl ?_
          refine q_getI d47_68 (fs7_19 47 rfl) rfl (isTl_lt ht) (isTl_sh ht) ?_
          refine r_int (y := (I t 0)) (show (j_u I t 5 1) t 0 = (I t 0) from (j_u_k _ _ (by decide))) ?_
          refine q_putI d47_71 (fs7_40 47 rfl) (Or.inl rfl) rfl (isTl_lt ht) (isTl_sh ht) ?_
          refine q_aload_n d47_74 rfl ?_
          refine q_getI d47_75 (fs7_43 47 rfl) rfl (isTl_lt ht) (isTl_sh ht) ?_
          refine r_int (y := (I t 9)) (show (j_u (j_u I t 5 1) t 8 (I t 0)) t 9 = (I t 9) from ((j_u_k _ _ (by decide)).trans (j_u_k _ _ (by decide)))) ?_
          refine q_iconst (v := (-1)) (by decide) d47_78 ?_
          refine q_icmp_eq (tgt := 91) d47_79 rfl (fun h9t => ?_) (fun h9f => ?_)
          ·
            refine q_aload_n d47_91 rfl ?_
            refine q_dload_n d47_92 rfl ?_
            refine q_putD d47_93 (fs7_37 47 rfl) (Or.inl rfl) rfl (isTl_lt ht) (isTl_sh ht) ?_
            refine q_aload_n d47_96 rfl ?_
            refine q_aload_n d47_97 rfl ?_
            refine q_getI d47_98 (fs7_19 47 rfl) rfl (isTl_lt ht) (isTl_sh ht) ?_
            refine r_int (y := (I t 0)) (show (j_u (j_u I t 5 1) t 8 (I t 0)) t 0 = (I t 0) from ((j_u_k _ _ (by decide)).trans (j_u_k _ _ (by decide)))) ?_
            refine q_putI d47_101 (fs7_43 47 rfl) (Or.inl rfl) rfl (isTl_lt ht) (isTl_sh ht) ?_
            exact q_ret d47_104 rfl (Nat.le_refl _) (Nat.le_refl _) (v7 h1t h2tc h3f h6fc h9t)
          ·
            refine q_dload_n d47_82 rfl ?_
            refine q_aload_n d47_83 rfl ?_
            refine q_getD d47_84 (fs7_37 47 rfl) rfl (isTl_lt ht) (isTl_sh ht) ?_
            refine r_dbl (y := (D t 7)) (show (j_u D t 6 x) t 7 = (D t 7) from (j_u_k _ _ (by decide))) ?_
            refine q_dcmp d47_87 ?_
            refine q_if_le (tgt := 104) d47_88 rfl (fun h10t => ?_) (fun h10f => ?_)
            ·
              have h10tc : dgt x (D t 7) = false := dc_l_le_t h10t
              exact q_ret d47_104 rfl (Nat.le_refl _) (Nat.le_refl _) (v8 h1t h2tc h3f h6fc h9f h10tc)
            ·
              have h10fc : dgt x (D t 7) = true := dc_l_le_f h10f
              refine q_aload_n d47_91 rfl ?_
              refine q_dload_n d47_92 rfl ?_
              refine q_putD d47_93 (fs7_37 47 rfl) (Or.inl rfl) rfl (isTl_lt ht) (isTl_sh ht) ?_
              refine q_aload_n d47_96 rfl ?_
              refine q_aload_n d47_97 rfl ?_
              refine q_getI d47_98 (fs7_19 47 rfl) rfl (isTl_lt ht) (isTl_sh ht) ?_
              refine r_int (y := (I t 0)) (show (j_u (j_u I t 5 1) t 8 (I t 0)) t 0 = (I t 0) from ((j_u_k _ _ (by decide)).trans (j_u_k _ _ (by decide)))) ?_
              refine q_putI d47_101 (fs7_43 47 rfl) (Or.inl rfl) rfl (isTl_lt ht) (isTl_sh ht) ?_
              exact q_ret d47_104 rfl (Nat.le_refl _) (Nat.le_refl _) (v9 h1t h2tc h3f h6fc h9f h10fc)
    ·
      have h2fc : dgt (D t 4) 4786511204640096256 = false := dc_l_gt_f h2f
      refine q_aload_n d47_28 rfl ?_
      refine q_getD d47_29 (fs7_26 47 rfl) rfl (isTl_lt ht) (isTl_sh ht) ?_
      refine q_ldcD (v := 14009883241494872064) d47_32 (kc7_52 47 rfl) ?_
      refine q_dcmp d47_35 ?_
      refine q_if_ge (tgt := 44) d47_36 rfl (fun h11t => ?_) (fun h11f => ?_)
      ·
        have h11tc : dlt (D t 4) 14009883241494872064 = false := dc_g_ge_t h11t
        refine q_aload_n d47_44 rfl ?_
        refine q_getI d47_45 (fs7_40 47 rfl) rfl (isTl_lt ht) (isTl_sh ht) ?_
        refine q_iconst (v := (-1)) (by decide) d47_48 ?_
        refine q_icmp_eq (tgt := 61) d47_49 rfl (fun h12t => ?_) (fun h12f => ?_)
        ·
          refine q_aload_n d47_61 rfl ?_
          refine q_dload_n d47_62 rfl ?_
          refine q_putD d47_63 (fs7_34 47 rfl) (Or.inl rfl) rfl (isTl_lt ht) (isTl_sh ht) ?_
          refine q_aload_n d47_66 rfl ?_
          refine q_aload_n d47_67 rfl ?_
          refine q_getI d47_68 (fs7_19 47 rfl) rfl (isTl_lt ht) (isTl_sh ht) ?_
          refine q_putI d47_71 (fs7_40 47 rfl) (Or.inl rfl) rfl (isTl_lt ht) (isTl_sh ht) ?_
          refine q_aload_n d47_74 rfl ?_
          refine q_getI d47_75 (fs7_43 47 rfl) rfl (isTl_lt ht) (isTl_sh ht) ?_
          refine r_int (y := (I t 9)) (show (j_u I t 8 (I t 0)) t 9 = (I t 9) from (j_u_k _ _ (by decide))) ?_
          refine q_iconst (v := (-1)) (by decide) d47_78 ?_
          refine q_icmp_eq (tgt := 91) d47_79 rfl (fun h13t => ?_) (fun h13f => ?_)
          ·
            refine q_aload_n d47_91 rfl ?_
            refine q_dload_n d47_92 rfl ?_
            refine q_putD d47_93 (fs7_37 47 rfl) (Or.inl rfl) rfl (isTl_lt ht) (isTl_sh ht) ?_
            refine q_aload_n d47_96 rfl ?_
            refine q_aload_n d47_97 rfl ?_
            refine q_getI d47_98 (fs7_19 47 rfl) rfl (isTl_lt ht) (isTl_sh ht) ?_
            refine r_int (y := (I t 0)) (show (j_u I t 8 (I t 0)) t 0 = (I t 0) from (j_u_k _ _ (by decide))) ?_
            refine q_putI d47_101 (fs7_43 47 rfl) (Or.inl rfl) rfl (isTl_lt ht) (isTl_sh ht) ?_
            exact q_ret d47_104 rfl (Nat.le_refl _) (Nat.le_refl _) (v10 h1t h2fc h11tc h12t h13t)
          ·
            refine q_dload_n d47_82 rfl ?_
            refine q_aload_n d47_83 rfl ?_
            refine q_getD d47_84 (fs7_37 47 rfl) rfl (isTl_lt ht) (isTl_sh ht) ?_
            refine r_dbl (y := (D t 7)) (show (j_u D t 6 x) t 7 = (D t 7) from (j_u_k _ _ (by decide))) ?_
            refine q_dcmp d47_87 ?_
            refine q_if_le (tgt := 104) d47_88 rfl (fun h14t => ?_) (fun h14f => ?_)
            ·
              have h14tc : dgt x (D t 7) = false := dc_l_le_t h14t
              exact q_ret d47_104 rfl (Nat.le_refl _) (Nat.le_refl _) (v11 h1t h2fc h11tc h12t h13f h14tc)
            ·
              have h14fc : dgt x (D t 7) = true := dc_l_le_f h14f
              refine q_aload_n d47_91 rfl ?_
              refine q_dload_n d47_92 rfl ?_
              refine q_putD d47_93 (fs7_37 47 rfl) (Or.inl rfl) rfl (isTl_lt ht) (isTl_sh ht) ?_
              refine q_aload_n d47_96 rfl ?_
              refine q_aload_n d47_97 rfl ?_
              refine q_getI d47_98 (fs7_19 47 rfl) rfl (isTl_lt ht) (isTl_sh ht) ?_
              refine r_int (y := (I t 0)) (show (j_u I t 8 (I t 0)) t 0 = (I t 0) from (j_u_k _ _ (by decide))) ?_
              refine q_putI d47_101 (fs7_43 47 rfl) (Or.inl rfl) rfl (isTl_lt ht) (isTl_sh ht) ?_
              exact q_ret d47_104 rfl (Nat.le_refl _) (Nat.le_refl _) (v12 h1t h2fc h11tc h12t h13f h14fc)
        ·
          refine q_dload_n d47_52 rfl ?_
          refine q_aload_n d47_53 rfl ?_
          refine q_getD d47_54 (fs7_34 47 rfl) rfl (isTl_lt ht) (isTl_sh ht) ?_
          refine q_dcmp d47_57 ?_
          refine q_if_ge (tgt := 74) d47_58 rfl (fun h15t => ?_) (fun h15f => ?_)
          ·
            have h15tc : dlt x (D t 6) = false := dc_g_ge_t h15t
            refine q_aload_n d47_74 rfl ?_
            refine q_getI d47_75 (fs7_43 47 rfl) rfl (isTl_lt ht) (isTl_sh ht) ?_
            refine q_iconst (v := (-1)) (by decide) d47_78 ?_
            refine q_icmp_eq (tgt := 91) d47_79 rfl (fun h16t => ?_) (fun h16f => ?_)
            ·
              refine q_aload_n d47_91 rfl ?_
              refine q_dload_n d47_92 rfl ?_
              refine q_putD d47_93 (fs7_37 47 rfl) (Or.inl rfl) rfl (isTl_lt ht) (isTl_sh ht) ?_
              refine q_aload_n d47_96 rfl ?_
              refine q_aload_n d47_97 rfl ?_
              refine q_getI d47_98 (fs7_19 47 rfl) rfl (isTl_lt ht) (isTl_sh ht) ?_
              refine q_putI d47_101 (fs7_43 47 rfl) (Or.inl rfl) rfl (isTl_lt ht) (isTl_sh ht) ?_
              exact q_ret d47_104 rfl (Nat.le_refl _) (Nat.le_refl _) (v13 h1t h2fc h11tc h12f h15tc h16t)
            ·
              refine q_dload_n d47_82 rfl ?_
              refine q_aload_n d47_83 rfl ?_
              refine q_getD d47_84 (fs7_37 47 rfl) rfl (isTl_lt ht) (isTl_sh ht) ?_
              refine q_dcmp d47_87 ?_
              refine q_if_le (tgt := 104) d47_88 rfl (fun h17t => ?_) (fun h17f => ?_)
              ·
                have h17tc : dgt x (D t 7) = false := dc_l_le_t h17t
                exact q_ret d47_104 rfl (Nat.le_refl _) (Nat.le_refl _) (v14 h1t h2fc h11tc h12f h15tc h16f h17tc)
              ·
                have h17fc : dgt x (D t 7) = true := dc_l_le_f h17f
                refine q_aload_n d47_91 rfl ?_
                refine q_dload_n d47_92 rfl ?_
                refine q_putD d47_93 (fs7_37 47 rfl) (Or.inl rfl) rfl (isTl_lt ht) (isTl_sh ht) ?_
                refine q_aload_n d47_96 rfl ?_
                refine q_aload_n d47_97 rfl ?_
                refine q_getI d47_98 (fs7_19 47 rfl) rfl (isTl_lt ht) (isTl_sh ht) ?_
                refine q_putI d47_101 (fs7_43 47 rfl) (Or.inl rfl) rfl (isTl_lt ht) (isTl_sh ht) ?_
                exact q_ret d47_104 rfl (Nat.le_refl _) (Nat.le_refl _) (v15 h1t h2fc h11tc h12f h15tc h16f h17fc)
          ·
            have h15fc : dlt x (D t 6) = true := dc_g_ge_f h15f
            refine q_aload_n d47_61 rfl ?_
            refine q_dload_n d47_62 rfl ?_
            refine q_putD d47_63 (fs7_34 47 rfl) (Or.inl rfl) rfl (isTl_lt ht) (isTl_sh ht) ?_
            refine q_aload_n d47_66 rfl ?_
            refine q_aload_n d47_67 rfl ?_
            refine q_getI d47_68 (fs7_19 47 rfl) rfl (isTl_lt ht) (isTl_sh ht) ?_
            refine q_putI d47_71 (fs7_40 47 rfl) (Or.inl rfl) rfl (isTl_lt ht) (isTl_sh ht) ?_
            refine q_aload_n d47_74 rfl ?_
            refine q_getI d47_75 (fs7_43 47 rfl) rfl (isTl_lt ht) (isTl_sh ht) ?_
            refine r_int (y := (I t 9)) (show (j_u I t 8 (I t 0)) t 9 = (I t 9) from (j_u_k _ _ (by decide))) ?_
            refine q_iconst (v := (-1)) (by decide) d47_78 ?_
            refine q_icmp_eq (tgt := 91) d47_79 rfl (fun h18t => ?_) (fun h18f => ?_)
            ·
              refine q_aload_n d47_91 rfl ?_
              refine q_dload_n d47_92 rfl ?_
              refine q_putD d47_93 (fs7_37 47 rfl) (Or.inl rfl) rfl (isTl_lt ht) (isTl_sh ht) ?_
              refine q_aload_n d47_96 rfl ?_
              refine q_aload_n d47_97 rfl ?_
              refine q_getI d47_98 (fs7_19 47 rfl) rfl (isTl_lt ht) (isTl_sh ht) ?_
              refine r_int (y := (I t 0)) (show (j_u I t 8 (I t 0)) t 0 = (I t 0) from (j_u_k _ _ (by decide))) ?_
              refine q_putI d47_101 (fs7_43 47 rfl) (Or.inl rfl) rfl (isTl_lt ht) (isTl_sh ht) ?_
              exact q_ret d47_104 rfl (Nat.le_refl _) (Nat.le_refl _) (v16 h1t h2fc h11tc h12f h15fc h18t)
            ·
              refine q_dload_n d47_82 rfl ?_
              refine q_aload_n d47_83 rfl ?_
              refine q_getD d47_84 (fs7_37 47 rfl) rfl (isTl_lt ht) (isTl_sh ht) ?_
              refine r_dbl (y := (D t 7)) (show (j_u D t 6 x) t 7 = (D t 7) from (j_u_k _ _ (by decide))) ?_
              refine q_dcmp d47_87 ?_
              refine q_if_le (tgt := 104) d47_88 rfl (fun h19t => ?_) (fun h19f => ?_)
              ·
                have h19tc : dgt x (D t 7) = false := dc_l_le_t h19t
                exact q_ret d47_104 rfl (Nat.le_refl _) (Nat.le_refl _) (v17 h1t h2fc h11tc h12f h15fc h18f h19tc)
              ·
                have h19fc : dgt x (D t 7) = true := dc_l_le_f h19f
                refine q_aload_n d47_91 rfl ?_
                refine q_dload_n d47_92 rfl ?_
                refine q_putD d47_93 (fs7_37 47 rfl) (Or.inl rfl) rfl (isTl_lt ht) (isTl_sh ht) ?_
                refine q_aload_n d47_96 rfl ?_
                refine q_aload_n d47_97 rfl ?_
                refine q_getI d47_98 (fs7_19 47 rfl) rfl (isTl_lt ht) (isTl_sh ht) ?_
                refine r_int (y := (I t 0)) (show (j_u I t 8 (I t 0)) t 0 = (I t 0) from (j_u_k _ _ (by decide))) ?_
                refine q_putI d47_101 (fs7_43 47 rfl) (Or.inl rfl) rfl (isTl_lt ht) (isTl_sh ht) ?_
                exact q_ret d47_104 rfl (Nat.le_refl _) (Nat.le_refl _) (v18 h1t h2fc h11tc h12f h15fc h18f h19fc)
      ·
        have h11fc : dlt (D t 4) 14009883241494872064 = true := dc_g_ge_f h11f
        refine q_aload_n d47_39 rfl ?_
        refine q_iconst (v := 1) (by decide) d47_40 ?_
        refine q_putZ d47_41 (fs7_30 47 rfl) (Or.inl rfl) rfl (Or.inr rfl) (isTl_lt ht) (isTl_sh ht) ?_
        refine q_aload_n d47_44 rfl ?_
        refine q_getI d47_45 (fs7_40 47 rfl) rfl (isTl_lt ht) (isTl_sh ht) ?_
        refine r_int (y := (I t 8)) (show (j_u I t 5 1) t 8 = (I t 8) from (j_u_k _ _ (by decide))) ?_
        refine q_iconst (v := (-1)) (by decide) d47_48 ?_
        refine q_icmp_eq (tgt := 61) d47_49 rfl (fun h20t => ?_) (fun h20f => ?_)
        ·
          refine q_aload_n d47_61 rfl ?_
          refine q_dload_n d47_62 rfl ?_
          refine q_putD d47_63 (fs7_34 47 rfl) (Or.inl rfl) rfl (isTl_lt ht) (isTl_sh ht) ?_
          refine q_aload_n d47_66 rfl ?_
          refine q_aload_n d47_67 rfl ?_
          refine q_getI d47_68 (fs7_19 47 rfl) rfl (isTl_lt ht) (isTl_sh ht) ?_
          refine r_int (y := (I t 0)) (show (j_u I t 5 1) t 0 = (I t 0) from (j_u_k _ _ (by decide))) ?_
          refine q_putI d47_71 (fs7_40 47 rfl) (Or.inl rfl) rfl (isTl_lt ht) (isTl_sh ht) ?_
          refine q_aload_n d47_74 rfl ?_
          refine q_getI d47_75 (fs7_43 47 rfl) rfl (isTl_lt ht) (isTl_sh ht) ?_
          refine r_int (y := (I t 9)) (show (j_u (j_u I t 5 1) t 8 (I t 0)) t 9 = (I t 9) from ((j_u_k _ _ (by decide)).trans (j_u_k _ _ (by decide)))) ?_
          refine q_iconst (v := (-1)) (by decide) d47_78 ?_
          refine q_icmp_eq (tgt := 91) d47_79 rfl (fun h21t => ?_) (fun h21f => ?_)
          ·
            refine q_aload_n d47_91 rfl ?_
            refine q_dload_n d47_92 rfl ?_
            refine q_putD d47_93 (fs7_37 47 rfl) (Or.inl rfl) rfl (isTl_lt ht) (isTl_sh ht) ?_
            refine q_aload_n d47_96 rfl ?_
            refine q_aload_n d47_97 rfl ?_
            refine q_getI d47_98 (fs7_19 47 rfl) rfl (isTl_lt ht) (isTl_sh ht) ?_
            refine r_int (y := (I t 0)) (show (j_u (j_u I t 5 1) t 8 (I t 0)) t 0 = (I t 0) from ((j_u_k _ _ (by decide)).trans (j_u_k _ _ (by decide)))) ?_
            refine q_putI d47_101 (fs7_43 47 rfl) (Or.inl rfl) rfl (isTl_lt ht) (isTl_sh ht) ?_
            exact q_ret d47_104 rfl (Nat.le_refl _) (Nat.le_refl _) (v19 h1t h2fc h11fc h20t h21t)
          ·
            refine q_dload_n d47_82 rfl ?_
            refine q_aload_n d47_83 rfl ?_
            refine q_getD d47_84 (fs7_37 47 rfl) rfl (isTl_lt ht) (isTl_sh ht) ?_
            refine r_dbl (y := (D t 7)) (show (j_u D t 6 x) t 7 = (D t 7) from (j_u_k _ _ (by decide))) ?_
            refine q_dcmp d47_87 ?_
            refine q_if_le (tgt := 104) d47_88 rfl (fun h22t => ?_) (fun h22f => ?_)
            ·
              have h22tc : dgt x (D t 7) = false := dc_l_le_t h22t
              exact q_ret d47_104 rfl (Nat.le_refl _) (Nat.le_refl _) (v20 h1t h2fc h11fc h20t h21f h22tc)
            ·
              have h22fc : dgt x (D t 7) = true := dc_l_le_f h22f
              refine q_aload_n d47_91 rfl ?_
              refine q_dload_n d47_92 rfl ?_
              refine q_putD d47_93 (fs7_37 47 rfl) (Or.inl rfl) rfl (isTl_lt ht) (isTl_sh ht) ?_
              refine q_aload_n d47_96 rfl ?_
              refine q_aload_n d47_97 rfl ?_
              refine q_getI d47_98 (fs7_19 47 rfl) rfl (isTl_lt ht) (isTl_sh ht) ?_
              refine r_int (y := (I t 0)) (show (j_u (j_u I t 5 1) t 8 (I t 0)) t 0 = (I t 0) from ((j_u_k _ _ (by decide)).trans (j_u_k _ _ (by decide)))) ?_
              refine q_putI d47_101 (fs7_43 47 rfl) (Or.inl rfl) rfl (isTl_lt ht) (isTl_sh ht) ?_
              exact q_ret d47_104 rfl (Nat.le_refl _) (Nat.le_refl _) (v21 h1t h2fc h11fc h20t h21f h22fc)
        ·
          refine q_dload_n d47_52 rfl ?_
          refine q_aload_n d47_53 rfl ?_
          refine q_getD d47_54 (fs7_34 47 rfl) rfl (isTl_lt ht) (isTl_sh ht) ?_
          refine q_dcmp d47_57 ?_
          refine q_if_ge (tgt := 74) d47_58 rfl (fun h23t => ?_) (fun h23f => ?_)
          ·
            have h23tc : dlt x (D t 6) = false := dc_g_ge_t h23t
            refine q_aload_n d47_74 rfl ?_
            refine q_getI d47_75 (fs7_43 47 rfl) rfl (isTl_lt ht) (isTl_sh ht) ?_
            refine r_int (y := (I t 9)) (show (j_u I t 5 1) t 9 = (I t 9) from (j_u_k _ _ (by decide))) ?_
            refine q_iconst (v := (-1)) (by decide) d47_78 ?_
            refine q_icmp_eq (tgt := 91) d47_79 rfl (fun h24t => ?_) (fun h24f => ?_)
            ·
              refine q_aload_n d47_91 rfl ?_
              refine q_dload_n d47_92 rfl ?_
              refine q_putD d47_93 (fs7_37 47 rfl) (Or.inl rfl) rfl (isTl_lt ht) (isTl_sh ht) ?_
              refine q_aload_n d47_96 rfl ?_
              refine q_aload_n d47_97 rfl ?_
              refine q_getI d47_98 (fs7_19 47 rfl) rfl (isTl_lt ht) (isTl_sh ht) ?_
              refine r_int (y := (I t 0)) (show (j_u I t 5 1) t 0 = (I t 0) from (j_u_k _ _ (by decide))) ?_
              refine q_putI d47_101 (fs7_43 47 rfl) (Or.inl rfl) rfl (isTl_lt ht) (isTl_sh ht) ?_
              exact q_ret d47_104 rfl (Nat.le_refl _) (Nat.le_refl _) (v22 h1t h2fc h11fc h20f h23tc h24t)
            ·
              refine q_dload_n d47_82 rfl ?_
              refine q_aload_n d47_83 rfl ?_
              refine q_getD d47_84 (fs7_37 47 rfl) rfl (isTl_lt ht) (isTl_sh ht) ?_
              refine q_dcmp d47_87 ?_
              refine q_if_le (tgt := 104) d47_88 rfl (fun h25t => ?_) (fun h25f => ?_)
              ·
                have h25tc : dgt x (D t 7) = false := dc_l_le_t h25t
                exact q_ret d47_104 rfl (Nat.le_refl _) (Nat.le_refl _) (v23 h1t h2fc h11fc h20f h23tc h24f h25tc)
              ·
                have h25fc : dgt x (D t 7) = true := dc_l_le_f h25f
                refine q_aload_n d47_91 rfl ?_
                refine q_dload_n d47_92 rfl ?_
                refine q_putD d47_93 (fs7_37 47 rfl) (Or.inl rfl) rfl (isTl_lt ht) (isTl_sh ht) ?_
                refine q_aload_n d47_96 rfl ?_
                refine q_aload_n d47_97 rfl ?_
                refine q_getI d47_98 (fs7_19 47 rfl) rfl (isTl_lt ht) (isTl_sh ht) ?_
                refine r_int (y := (I t 0)) (show (j_u I t 5 1) t 0 = (I t 0) from (j_u_k _ _ (by decide))) ?_
                refine q_putI d47_101 (fs7_43 47 rfl) (Or.inl rfl) rfl (isTl_lt ht) (isTl_sh ht) ?_
                exact q_ret d47_104 rfl (Nat.le_refl _) (Nat.le_refl _) (v24 h1t h2fc h11fc h20f h23tc h24f h25fc)
          ·
            have h23fc : dlt x (D t 6) = true := dc_g_ge_f h23f
            refine q_aload_n d47_61 rfl ?_
            refine q_dload_n d47_62 rfl ?_
            refine q_putD d47_63 (fs7_34 47 rfl) (Or.inl rfl) rfl (isTl_lt ht) (isTl_sh ht) ?_
            refine q_aload_n d47_66 rfl ?_
            refine q_aload_n d47_67 rfl ?_
            refine q_getI d47_68 (fs7_19 47 rfl) rfl (isTl_lt ht) (isTl_sh ht) ?_
            refine r_int (y := (I t 0)) (show (j_u I t 5 1) t 0 = (I t 0) from (j_u_k _ _ (by decide))) ?_
            refine q_putI d47_71 (fs7_40 47 rfl) (Or.inl rfl) rfl (isTl_lt ht) (isTl_sh ht) ?_
            refine q_aload_n d47_74 rfl ?_
            refine q_getI d47_75 (fs7_43 47 rfl) rfl (isTl_lt ht) (isTl_sh ht) ?_
            refine r_int (y := (I t 9)) (show (j_u (j_u I t 5 1) t 8 (I t 0)) t 9 = (I t 9) from ((j_u_k _ _ (by decide)).trans (j_u_k _ _ (by decide)))) ?_
            refine q_iconst (v := (-1)) (by decide) d47_78 ?_
            refine q_icmp_eq (tgt := 91) d47_79 rfl (fun h26t => ?_) (fun h26f => ?_)
            ·
              refine q_aload_n d47_91 rfl ?_
              refine q_dload_n d47_92 rfl ?_
              refine q_putD d47_93 (fs7_37 47 rfl) (Or.inl rfl) rfl (isTl_lt ht) (isTl_sh ht) ?_
              refine q_aload_n d47_96 rfl ?_
              refine q_aload_n d47_97 rfl ?_
              refine q_getI d47_98 (fs7_19 47 rfl) rfl (isTl_lt ht) (isTl_sh ht) ?_
              refine r_int (y := (I t 0)) (show (j_u (j_u I t 5 1) t 8 (I t 0)) t 0 = (I t 0) from ((j_u_k _ _ (by decide)).trans (j_u_k _ _ (by decide)))) ?_
              refine q_putI d47_101 (fs7_43 47 rfl) (Or.inl rfl) rfl (isTl_lt ht) (isTl_sh ht) ?_
              exact q_ret d47_104 rfl (Nat.le_refl _) (Nat.le_refl _) (v25 h1t h2fc h11fc h20f h23fc h26t)
            ·
              refine q_dload_n d47_82 rfl ?_
              refine q_aload_n d47_83 rfl ?_
              refine q_getD d47_84 (fs7_37 47 rfl) rfl (isTl_lt ht) (isTl_sh ht) ?_
              refine r_dbl (y := (D t 7)) (show (j_u D t 6 x) t 7 = (D t 7) from (j_u_k _ _ (by decide))) ?_
              refine q_dcmp d47_87 ?_
              refine q_if_le (tgt := 104) d47_88 rfl (fun h27t => ?_) (fun h27f => ?_)
              ·
                have h27tc : dgt x (D t 7) = false := dc_l_le_t h27t
                exact q_ret d47_104 rfl (Nat.le_refl _) (Nat.le_refl _) (v26 h1t h2fc h11fc h20f h23fc h26f h27tc)
              ·
                have h27fc : dgt x (D t 7) = true := dc_l_le_f h27f
                refine q_aload_n d47_91 rfl ?_
                refine q_dload_n d47_92 rfl ?_
                refine q_putD d47_93 (fs7_37 47 rfl) (Or.inl rfl) rfl (isTl_lt ht) (isTl_sh ht) ?_
                refine q_aload_n d47_96 rfl ?_
                refine q_aload_n d47_97 rfl ?_
                refine q_getI d47_98 (fs7_19 47 rfl) rfl (isTl_lt ht) (isTl_sh ht) ?_
                refine r_int (y := (I t 0)) (show (j_u (j_u I t 5 1) t 8 (I t 0)) t 0 = (I t 0) from ((j_u_k _ _ (by decide)).trans (j_u_k _ _ (by decide)))) ?_
                refine q_putI d47_101 (fs7_43 47 rfl) (Or.inl rfl) rfl (isTl_lt ht) (isTl_sh ht) ?_
                exact q_ret d47_104 rfl (Nat.le_refl _) (Nat.le_refl _) (v27 h1t h2fc h11fc h20f h23fc h26f h27fc)
  ·
    refine q_aload_n d47_7 rfl ?_
    refine q_aload_n d47_8 rfl ?_
    refine q_getD d47_9 (fs7_26 47 rfl) rfl (isTl_lt ht) (isTl_sh ht) ?_
    refine q_dload_n d47_12 rfl ?_
    refine q_dadd (v28 h1f) d47_13 ?_
    refine q_putD d47_14 (fs7_26 47 rfl) (Or.inl rfl) rfl (isTl_lt ht) (isTl_sh ht) ?_
    refine q_aload_n d47_17 rfl ?_
    refine q_getD d47_18 (fs7_26 47 rfl) rfl (isTl_lt ht) (isTl_sh ht) ?_
    refine r_dbl (y := (FP.dadd (D t 4) x)) (show (j_u D t 4 (FP.dadd (D t 4) x)) t 4 = (FP.dadd (D t 4) x) from (j_u_same _ _ _ _)) ?_
    refine q_ldcD (v := 4786511204640096256) d47_21 (kc7_50 47 rfl) ?_
    refine q_dcmp d47_24 ?_
    refine q_if_gt (tgt := 39) d47_25 rfl (fun h28t => ?_) (fun h28f => ?_)
    ·
      have h28tc : dgt (FP.dadd (D t 4) x) 4786511204640096256 = true := dc_l_gt_t h28t
      refine q_aload_n d47_39 rfl ?_
      refine q_iconst (v := 1) (by decide) d47_40 ?_
      refine q_putZ d47_41 (fs7_30 47 rfl) (Or.inl rfl) rfl (Or.inr rfl) (isTl_lt ht) (isTl_sh ht) ?_
      refine q_aload_n d47_44 rfl ?_
      refine q_getI d47_45 (fs7_40 47 rfl) rfl (isTl_lt ht) (isTl_sh ht) ?_
      refine r_int (y := (I t 8)) (show (j_u I t 5 1) t 8 = (I t 8) from (j_u_k _ _ (by decide))) ?_
      refine q_iconst (v := (-1)) (by decide) d47_48 ?_
      refine q_icmp_eq (tgt := 61) d47_49 rfl (fun h29t => ?_) (fun h29f => ?_)
      ·
        refine q_aload_n d47_61 rfl ?_
        refine q_dload_n d47_62 rfl ?_
        refine q_putD d47_63 (fs7_34 47 rfl) (Or.inl rfl) rfl (isTl_lt ht) (isTl_sh ht) ?_
        refine q_aload_n d47_66 rfl ?_
        refine q_aload_n d47_67 rfl ?_
        refine q_getI d47_68 (fs7_19 47 rfl) rfl (isTl_lt ht) (isTl_sh ht) ?_
        refine r_int (y := (I t 0)) (show (j_u I t 5 1) t 0 = (I t 0) from (j_u_k _ _ (by decide))) ?_
        refine q_putI d47_71 (fs7_40 47 rfl) (Or.inl rfl) rfl (isTl_lt ht) (isTl_sh ht) ?_
        refine q_aload_n d47_74 rfl ?_
        refine q_getI d47_75 (fs7_43 47 rfl) rfl (isTl_lt ht) (isTl_sh ht) ?_
        refine r_int (y := (I t 9)) (show (j_u (j_u I t 5 1) t 8 (I t 0)) t 9 = (I t 9) from ((j_u_k _ _ (by decide)).trans (j_u_k _ _ (by decide)))) ?_
        refine q_iconst (v := (-1)) (by decide) d47_78 ?_
        refine q_icmp_eq (tgt := 91) d47_79 rfl (fun h30t => ?_) (fun h30f => ?_)
        ·
          refine q_aload_n d47_91 rfl ?_
          refine q_dload_n d47_92 rfl ?_
          refine q_putD d47_93 (fs7_37 47 rfl) (Or.inl rfl) rfl (isTl_lt ht) (isTl_sh ht) ?_
          refine q_aload_n d47_96 rfl ?_
          refine q_aload_n d47_97 rfl ?_
          refine q_getI d47_98 (fs7_19 47 rfl) rfl (isTl_lt ht) (isTl_sh ht) ?_
          refine r_int (y := (I t 0)) (show (j_u (j_u I t 5 1) t 8 (I t 0)) t 0 = (I t 0) from ((j_u_k _ _ (by decide)).trans (j_u_k _ _ (by decide)))) ?_
          refine q_putI d47_101 (fs7_43 47 rfl) (Or.inl rfl) rfl (isTl_lt ht) (isTl_sh ht) ?_
          exact q_ret d47_104 rfl (Nat.le_refl _) (Nat.le_refl _) (v29 h1f h28tc h29t h30t)
        ·
          refine q_dload_n d47_82 rfl ?_
          refine q_aload_n d47_83 rfl ?_
          refine q_getD d47_84 (fs7_37 47 rfl) rfl (isTl_lt ht) (isTl_sh ht) ?_
          refine r_dbl (y := (D t 7)) (show (j_u (j_u D t 4 (FP.dadd (D t 4) x)) t 6 x) t 7 = (D t 7) from ((j_u_k _ _ (by decide)).trans (j_u_k _ _ (by decide)))) ?_
          refine q_dcmp d47_87 ?_
          refine q_if_le (tgt := 104) d47_88 rfl (fun h31t => ?_) (fun h31f => ?_)
          ·
            have h31tc : dgt x (D t 7) = false := dc_l_le_t h31t
            exact q_ret d47_104 rfl (Nat.le_refl _) (Nat.le_refl _) (v30 h1f h28tc h29t h30f h31tc)
          ·
            have h31fc : dgt x (D t 7) = true := dc_l_le_f h31f
            refine q_aload_n d47_91 rfl ?_
            refine q_dload_n d47_92 rfl ?_
            refine q_putD d47_93 (fs7_37 47 rfl) (Or.inl rfl) rfl (isTl_lt ht) (isTl_sh ht) ?_
            refine q_aload_n d47_96 rfl ?_
            refine q_aload_n d47_97 rfl ?_
            refine q_getI d47_98 (fs7_19 47 rfl) rfl (isTl_lt ht) (isTl_sh ht) ?_
            refine r_int (y := (I t 0)) (show (j_u (j_u I t 5 1) t 8 (I t 0)) t 0 = (I t 0) from ((j_u_k _ _ (by decide)).trans (j_u_k _ _ (by decide)))) ?_
            refine q_putI d47_101 (fs7_43 47 rfl) (Or.inl rfl) rfl (isTl_lt ht) (isTl_sh ht) ?_
            exact q_ret d47_104 rfl (Nat.le_refl _) (Nat.le_refl _) (v31 h1f h28tc h29t h30f h31fc)
      ·
        refine q_dload_n d47_52 rfl ?_
        refine q_aload_n d47_53 rfl ?_
        refine q_getD d47_54 (fs7_34 47 rfl) rfl (isTl_lt ht) (isTl_sh ht) ?_
        refine r_dbl (y := (D t 6)) (show (j_u D t 4 (FP.dadd (D t 4) x)) t 6 = (D t 6) from (j_u_k _ _ (by decide))) ?_
        refine q_dcmp d47_57 ?_
        refine q_if_ge (tgt := 74) d47_58 rfl (fun h32t => ?_) (fun h32f => ?_)
        ·
          have h32tc : dlt x (D t 6) = false := dc_g_ge_t h32t
          refine q_aload_n d47_74 rfl ?_
          refine q_getI d47_75 (fs7_43 47 rfl) rfl (isTl_lt ht) (isTl_sh ht) ?_
          refine r_int (y := (I t 9)) (show (j_u I t 5 1) t 9 = (I t 9) from (j_u_k _ _ (by decide))) ?_
          refine q_iconst (v := (-1)) (by decide) d47_78 ?_
          refine q_icmp_eq (tgt := 91) d47_79 rfl (fun h33t => ?_) (fun h33f => ?_)
          ·
            refine q_aload_n d47_91 rfl ?_
            refine q_dload_n d47_92 rfl ?_
            refine q_putD d47_93 (fs7_37 47 rfl) (Or.inl rfl) rfl (isTl_lt ht) (isTl_sh ht) ?_
            refine q_aload_n d47_96 rfl ?_
            refine q_aload_n d47_97 rfl ?_
            refine q_getI d47_98 (fs7_19 47 rfl) rfl (isTl_lt ht) (isTl_sh ht) ?_
            refine r_int (y := (I t 0)) (show (j_u I t 5 1) t 0 = (I t 0) from (j_u_k _ _ (by decide))) ?_
            refine q_putI d47_101 (fs7_43 47 rfl) (Or.inl rfl) rfl (isTl_lt ht) (isTl_sh ht) ?_
            exact q_ret d47_104 rfl (Nat.le_refl _) (Nat.le_refl _) (v32 h1f h28tc h29f h32tc h33t)
          ·
            refine q_dload_n d47_82 rfl ?_
            refine q_aload_n d47_83 rfl ?_
            refine q_getD d47_84 (fs7_37 47 rfl) rfl (isTl_lt ht) (isTl_sh ht) ?_
            refine r_dbl (y := (D t 7)) (show (j_u D t 4 (FP.dadd (D t 4) x)) t 7 = (D t 7) from (j_u_k _ _ (by decide))) ?_
            refine q_dcmp d47_87 ?_
            refine q_if_le (tgt := 104) d47_88 rfl (fun h34t => ?_) (fun h34f => ?_)
            ·
              have h34tc : dgt x (D t 7) = false := dc_l_le_t h34t
              exact q_ret d47_104 rfl (Nat.le_refl _) (Nat.le_refl _) (v33 h1f h28tc h29f h32tc h33f h34tc)
            ·
              have h34fc : dgt x (D t 7) = true := dc_l_le_f h34f
              refine q_aload_n d47_91 rfl ?_
              refine q_dload_n d47_92 rfl ?_
              refine q_putD d47_93 (fs7_37 47 rfl) (Or.inl rfl) rfl (isTl_lt ht) (isTl_sh ht) ?_
              refine q_aload_n d47_96 rfl ?_
              refine q_aload_n d47_97 rfl ?_
              refine q_getI d47_98 (fs7_19 47 rfl) rfl (isTl_lt ht) (isTl_sh ht) ?_
              refine r_int (y := (I t 0)) (show (j_u I t 5 1) t 0 = (I t 0) from (j_u_k _ _ (by decide))) ?_
              refine q_putI d47_101 (fs7_43 47 rfl) (Or.inl rfl) rfl (isTl_lt ht) (isTl_sh ht) ?_
              exact q_ret d47_104 rfl (Nat.le_refl _) (Nat.le_refl _) (v34 h1f h28tc h29f h32tc h33f h34fc)
        ·
          have h32fc : dlt x (D t 6) = true := dc_g_ge_f h32f
          refine q_aload_n d47_61 rfl ?_
          refine q_dload_n d47_62 rfl ?_
          refine q_putD d47_63 (fs7_34 47 rfl) (Or.inl rfl) rfl (isTl_lt ht) (isTl_sh ht) ?_
          refine q_aload_n d47_66 rfl ?_
          refine q_aload_n d47_67 rfl ?_
          refine q_getI d47_68 (fs7_19 47 rfl) rfl (isTl_lt ht) (isTl_sh ht) ?_
          refine r_int (y := (I t 0)) (show (j_u I t 5 1) t 0 = (I t 0) from (j_u_k _ _ (by decide))) ?_
          refine q_putI d47_71 (fs7_40 47 rfl) (Or.inl rfl) rfl (isTl_lt ht) (isTl_sh ht) ?_
          refine q_aload_n d47_74 rfl ?_
          refine q_getI d47_75 (fs7_43 47 rfl) rfl (isTl_lt ht) (isTl_sh ht) ?_
          refine r_int (y := (I t 9)) (show (j_u (j_u I t 5 1) t 8 (I t 0)) t 9 = (I t 9) from ((j_u_k _ _ (by decide)).trans (j_u_k _ _ (by decide)))) ?_
          refine q_iconst (v := (-1)) (by decide) d47_78 ?_
          refine q_icmp_eq (tgt := 91) d47_79 rfl (fun h35t => ?_) (fun h35f => ?_)
          ·
            refine q_aload_n d47_91 rfl ?_
            refine q_dload_n d47_92 rfl ?_
            refine q_putD d47_93 (fs7_37 47 rfl) (Or.inl rfl) rfl (isTl_lt ht) (isTl_sh ht) ?_
            refine q_aload_n d47_96 rfl ?_
            refine q_aload_n d47_97 rfl ?_
            refine q_getI d47_98 (fs7_19 47 rfl) rfl (isTl_lt ht) (isTl_sh ht) ?_
            refine r_int (y := (I t 0)) (show (j_u (j_u I t 5 1) t 8 (I t 0)) t 0 = (I t 0) from ((j_u_k _ _ (by decide)).trans (j_u_k _ _ (by decide)))) ?_
            refine q_putI d47_101 (fs7_43 47 rfl) (Or.inl rfl) rfl (isTl_lt ht) (isTl_sh ht) ?_
            exact q_ret d47_104 rfl (Nat.le_refl _) (Nat.le_refl _) (v35 h1f h28tc h29f h32fc h35t)
          ·
            refine q_dload_n d47_82 rfl ?_
            refine q_aload_n d47_83 rfl ?_
            refine q_getD d47_84 (fs7_37 47 rfl) rfl (isTl_lt ht) (isTl_sh ht) ?_
            refine r_dbl (y := (D t 7)) (show (j_u (j_u D t 4 (FP.dadd (D t 4) x)) t 6 x) t 7 = (D t 7) from ((j_u_k _ _ (by decide)).trans (j_u_k _ _ (by decide)))) ?_
            refine q_dcmp d47_87 ?_
            refine q_if_le (tgt := 104) d47_88 rfl (fun h36t => ?_) (fun h36f => ?_)
            ·
              have h36tc : dgt x (D t 7) = false := dc_l_le_t h36t
              exact q_ret d47_104 rfl (Nat.le_refl _) (Nat.le_refl _) (v36 h1f h28tc h29f h32fc h35f h36tc)
            ·
              have h36fc : dgt x (D t 7) = true := dc_l_le_f h36f
              refine q_aload_n d47_91 rfl ?_
              refine q_dload_n d47_92 rfl ?_
              refine q_putD d47_93 (fs7_37 47 rfl) (Or.inl rfl) rfl (isTl_lt ht) (isTl_sh ht) ?_
              refine q_aload_n d47_96 rfl ?_
              refine q_aload_n d47_97 rfl ?_
              refine q_getI d47_98 (fs7_19 47 rfl) rfl (isTl_lt ht) (isTl_sh ht) ?_
              refine r_int (y := (I t 0)) (show (j_u (j_u I t 5 1) t 8 (I t 0)) t 0 = (I t 0) from ((j_u_k _ _ (by decide)).trans (j_u_k _ _ (by decide)))) ?_
              refine q_putI d47_101 (fs7_43 47 rfl) (Or.inl rfl) rfl (isTl_lt ht) (isTl_sh ht) ?_
              exact q_ret d47_104 rfl (Nat.le_refl _) (Nat.le_refl _) (v37 h1f h28tc h29f h32fc h35f h36fc)
    ·
      have h28fc : dgt (FP.dadd (D t 4) x) 4786511204640096256 = false := dc_l_gt_f h28f
      refine q_aload_n d47_28 rfl ?_
      refine q_getD d47_29 (fs7_26 47 rfl) rfl (isTl_lt ht) (isTl_sh ht) ?_
      refine r_dbl (y := (FP.dadd (D t 4) x)) (show (j_u D t 4 (FP.dadd (D t 4) x)) t 4 = (FP.dadd (D t 4) x) from (j_u_same _ _ _ _)) ?_
      refine q_ldcD (v := 14009883241494872064) d47_32 (kc7_52 47 rfl) ?_
      refine q_dcmp d47_35 ?_
      refine q_if_ge (tgt := 44) d47_36 rfl (fun h37t => ?_) (fun h37f => ?_)
      ·
        have h37tc : dlt (FP.dadd (D t 4) x) 14009883241494872064 = false := dc_g_ge_t h37t
        refine q_aload_n d47_44 rfl ?_
        refine q_getI d47_45 (fs7_40 47 rfl) rfl (isTl_lt ht) (isTl_sh ht) ?_
        refine q_iconst (v := (-1)) (by decide) d47_48 ?_
        refine q_icmp_eq (tgt := 61) d47_49 rfl (fun h38t => ?_) (fun h38f => ?_)
        ·
          refine q_aload_n d47_61 rfl ?_
          refine q_dload_n d47_62 rfl ?_
          refine q_putD d47_63 (fs7_34 47 rfl) (Or.inl rfl) rfl (isTl_lt ht) (isTl_sh ht) ?_
          refine q_aload_n d47_66 rfl ?_
          refine q_aload_n d47_67 rfl ?_
          refine q_getI d47_68 (fs7_19 47 rfl) rfl (isTl_lt ht) (isTl_sh ht) ?_
          refine q_putI d47_71 (fs7_40 47 rfl) (Or.inl rfl) rfl (isTl_lt ht) (isTl_sh ht) ?_
          refine q_aload_n d47_74 rfl ?_
          refine q_getI d47_75 (fs7_43 47 rfl) rfl (isTl_lt ht) (isTl_sh ht) ?_
          refine r_int (y := (I t 9)) (show (j_u I t 8 (I t 0)) t 9 = (I t 9) from (j_u_k _ _ (by decide))) ?_
          refine q_iconst (v := (-1)) (by decide) d47_78 ?_
          refine q_icmp_eq (tgt := 91) d47_79 rfl (fun h39t => ?_) (fun h39f => ?_)
          ·
            refine q_aload_n d47_91 rfl ?_
            refine q_dload_n d47_92 rfl ?_
            refine q_putD d47_93 (fs7_37 47 rfl) (Or.inl rfl) rfl (isTl_lt ht) (isTl_sh ht) ?_
            refine q_aload_n d47_96 rfl ?_
            refine q_aload_n d47_97 rfl ?_
            refine q_getI d47_98 (fs7_19 47 rfl) rfl (isTl_lt ht) (isTl_sh ht) ?_
            refine r_int (y := (I t 0)) (show (j_u I t 8 (I t 0)) t 0 = (I t 0) from (j_u_k _ _ (by decide))) ?_
            refine q_putI d47_101 (fs7_43 47 rfl) (Or.inl rfl) rfl (isTl_lt ht) (isTl_sh ht) ?_
            exact q_ret d47_104 rfl (Nat.le_refl _) (Nat.le_refl _) (v38 h1f h28fc h37tc h38t h39t)
          ·
            refine q_dload_n d47_82 rfl ?_
            refine q_aload_n d47_83 rfl ?_
            refine q_getD d47_84 (fs7_37 47 rfl) rfl (isTl_lt ht) (isTl_sh ht) ?_
            refine r_dbl (y := (D t 7)) (show (j_u (j_u D t 4 (FP.dadd (D t 4) x)) t 6 x) t 7 = (D t 7) from ((j_u_k _ _ (by decide)).trans (j_u_k _ _ (by decide)))) ?_
            refine q_dcmp d47_87 ?_
            refine q_if_le (tgt := 104) d47_88 rfl (fun h40t => ?_) (fun h40f => ?_)
            ·
              have h40tc : dgt x (D t 7) = false := dc_l_le_t h40t
              exact q_ret d47_104 rfl (Nat.le_refl _) (Nat.le_refl _) (v39 h1f h28fc h37tc h38t h39f h40tc)
            ·
              have h40fc : dgt x (D t 7) = true := dc_l_le_f h40f
              refine q_aload_n d47_91 rfl ?_
              refine q_dload_n d47_92 rfl ?_
              refine q_putD d47_93 (fs7_37 47 rfl) (Or.inl rfl) rfl (isTl_lt ht) (isTl_sh ht) ?_
              refine q_aload_n d47_96 rfl ?_
              refine q_aload_n d47_97 rfl ?_
              refine q_getI d47_98 (fs7_19 47 rfl) rfl (isTl_lt ht) (isTl_sh ht) ?_
              refine r_int (y := (I t 0)) (show (j_u I t 8 (I t 0)) t 0 = (I t 0) from (j_u_k _ _ (by decide))) ?_
              refine q_putI d47_101 (fs7_43 47 rfl) (Or.inl rfl) rfl (isTl_lt ht) (isTl_sh ht) ?_
              exact q_ret d47_104 rfl (Nat.le_refl _) (Nat.le_refl _) (v40 h1f h28fc h37tc h38t h39f h40fc)
        ·
          refine q_dload_n d47_52 rfl ?_
          refine q_aload_n d47_53 rfl ?_
          refine q_getD d47_54 (fs7_34 47 rfl) rfl (isTl_lt ht) (isTl_sh ht) ?_
          refine r_dbl (y := (D t 6)) (show (j_u D t 4 (FP.dadd (D t 4) x)) t 6 = (D t 6) from (j_u_k _ _ (by decide))) ?_
          refine q_dcmp d47_57 ?_
          refine q_if_ge (tgt := 74) d47_58 rfl (fun h41t => ?_) (fun h41f => ?_)
          ·
            have h41tc : dlt x (D t 6) = false := dc_g_ge_t h41t
            refine q_aload_n d47_74 rfl ?_
            refine q_getI d47_75 (fs7_43 47 rfl) rfl (isTl_lt ht) (isTl_sh ht) ?_
            refine q_iconst (v := (-1)) (by decide) d47_78 ?_
            refine q_icmp_eq (tgt := 91) d47_79 rfl (fun h42t => ?_) (fun h42f => ?_)
            ·
              refine q_aload_n d47_91 rfl ?_
              refine q_dload_n d47_92 rfl ?_
              refine q_putD d47_93 (fs7_37 47 rfl) (Or.inl rfl) rfl (isTl_lt ht) (isTl_sh ht) ?_
              refine q_aload_n d47_96 rfl ?_
              refine q_aload_n d47_97 rfl ?_
              refine q_getI d47_98 (fs7_19 47 rfl) rfl (isTl_lt ht) (isTl_sh ht) ?_
              refine q_putI d47_101 (fs7_43 47 rfl) (Or.inl rfl) rfl (isTl_lt ht) (isTl_sh ht) ?_
              exact q_ret d47_104 rfl (Nat.le_refl _) (Nat.le_refl _) (v41 h1f h28fc h37tc h38f h41tc h42t)
            ·
              refine q_dload_n d47_82 rfl ?_
              refine q_aload_n d47_83 rfl ?_
              refine q_getD d47_84 (fs7_37 47 rfl) rfl (isTl_lt ht) (isTl_sh ht) ?_
              refine r_dbl (y := (D t 7)) (show (j_u D t 4 (FP.dadd (D t 4) x)) t 7 = (D t 7) from (j_u_k _ _ (by decide))) ?_
              refine q_dcmp d47_87 ?_
              refine q_if_le (tgt := 104) d47_88 rfl (fun h43t => ?_) (fun h43f => ?_)
              ·
                have h43tc : dgt x (D t 7) = false := dc_l_le_t h43t
                exact q_ret d47_104 rfl (Nat.le_refl _) (Nat.le_refl _) (v42 h1f h28fc h37tc h38f h41tc h42f h43tc)
              ·
                have h43fc : dgt x (D t 7) = true := dc_l_le_f h43f
                refine q_aload_n d47_91 rfl ?_
                refine q_dload_n d47_92 rfl ?_
                refine q_putD d47_93 (fs7_37 47 rfl) (Or.inl rfl) rfl (isTl_lt ht) (isTl_sh ht) ?_
                refine q_aload_n d47_96 rfl ?_
                refine q_aload_n d47_97 rfl ?_
                refine q_getI d47_98 (fs7_19 47 rfl) rfl (isTl_lt ht) (isTl_sh ht) ?_
                refine q_putI d47_101 (fs7_43 47 rfl) (Or.inl rfl) rfl (isTl_lt ht) (isTl_sh ht) ?_
                exact q_ret d47_104 rfl (Nat.le_refl _) (Nat.le_refl _) (v43 h1f h28fc h37tc h38f h41tc h42f h43fc)
          ·
            have h41fc : dlt x (D t 6) = true := dc_g_ge_f h41f
            refine q_aload_n d47_61 rfl ?_
            refine q_dload_n d47_62 rfl ?_
            refine q_putD d47_63 (fs7_34 47 rfl) (Or.inl rfl) rfl (isTl_lt ht) (isTl_sh ht) ?_
            refine q_aload_n d47_66 rfl ?_
            refine q_aload_n d47_67 rfl ?_
            refine q_getI d47_68 (fs7_19 47 rfl) rfl (isTl_lt ht) (isTl_sh ht) ?_
            refine q_putI d47_71 (fs7_40 47 rfl) (Or.inl rfl) rfl (isTl_lt ht) (isTl_sh ht) ?_
            refine q_aload_n d47_74 rfl ?_
            refine q_getI d47_75 (fs7_43 47 rfl) rfl (isTl_lt ht) (isTl_sh ht) ?_
            refine r_int (y := (I t 9)) (show (j_u I t 8 (I t 0)) t 9 = (I t 9) from (j_u_k _ _ (by decide))) ?_
            refine q_iconst (v := (-1)) (by decide) d47_78 ?_
            refine q_icmp_eq (tgt := 91) d47_79 rfl (fun h44t => ?_) (fun h44f => ?_)
            ·
              refine q_aload_n d47_91 rfl ?_
              refine q_dload_n d47_92 rfl ?_
              refine q_putD d47_93 (fs7_37 47 rfl) (Or.inl rfl) rfl (isTl_lt ht) (isTl_sh ht) ?_
              refine q_aload_n d47_96 rfl ?_
              refine q_aload_n d47_97 rfl ?_
              refine q_getI d47_98 (fs7_19 47 rfl) rfl (isTl_lt ht) (isTl_sh ht) ?_
              refine r_int (y := (I t 0)) (show (j_u I t 8 (I t 0)) t 0 = (I t 0) from (j_u_k _ _ (by decide))) ?_
              refine q_putI d47_101 (fs7_43 47 rfl) (Or.inl rfl) rfl (isTl_lt ht) (isTl_sh ht) ?_
              exact q_ret d47_104 rfl (Nat.le_refl _) (Nat.le_refl _) (v44 h1f h28fc h37tc h38f h41fc h44t)
            ·
              refine q_dload_n d47_82 rfl ?_
              refine q_aload_n d47_83 rfl ?_
              refine q_getD d47_84 (fs7_37 47 rfl) rfl (isTl_lt ht) (isTl_sh ht) ?_
              refine r_dbl (y := (D t 7)) (show (j_u (j_u D t 4 (FP.dadd (D t 4) x)) t 6 x) t 7 = (D t 7) from ((j_u_k _ _ (by decide)).trans (j_u_k _ _ (by decide)))) ?_
              refine q_dcmp d47_87 ?_
              refine q_if_le (tgt := 104) d47_88 rfl (fun h45t => ?_) (fun h45f => ?_)
              ·
                have h45tc : dgt x (D t 7) = false := dc_l_le_t h45t
                exact q_ret d47_104 rfl (Nat.le_refl _) (Nat.le_refl _) (v45 h1f h28fc h37tc h38f h41fc h44f h45tc)
              ·
                have h45fc : dgt x (D t 7) = true := dc_l_le_f h45f
                refine q_aload_n d47_91 rfl ?_
                refine q_dload_n d47_92 rfl ?_
                refine q_putD d47_93 (fs7_37 47 rfl) (Or.inl rfl) rfl (isTl_lt ht) (isTl_sh ht) ?_
                refine q_aload_n d47_96 rfl ?_
                refine q_aload_n d47_97 rfl ?_
                refine q_getI d47_98 (fs7_19 47 rfl) rfl (isTl_lt ht) (isTl_sh ht) ?_
                refine r_int (y := (I t 0)) (show (j_u I t 8 (I t 0)) t 0 = (I t 0) from (j_u_k _ _ (by decide))) ?_
                refine q_putI d47_101 (fs7_43 47 rfl) (Or.inl rfl) rfl (isTl_lt ht) (isTl_sh ht) ?_
                exact q_ret d47_104 rfl (Nat.le_refl _) (Nat.le_refl _) (v46 h1f h28fc h37tc h38f h41fc h44f h45fc)
      ·
        have h37fc : dlt (FP.dadd (D t 4) x) 14009883241494872064 = true := dc_g_ge_f h37f
        refine q_aload_n d47_39 rfl ?_
        refine q_iconst (v := 1) (by decide) d47_40 ?_
        refine q_putZ d47_41 (fs7_30 47 rfl) (Or.inl rfl) rfl (Or.inr rfl) (isTl_lt ht) (isTl_sh ht) ?_
        refine q_aload_n d47_44 rfl ?_
        refine q_getI d47_45 (fs7_40 47 rfl) rfl (isTl_lt ht) (isTl_sh ht) ?_
        refine r_int (y := (I t 8)) (show (j_u I t 5 1) t 8 = (I t 8) from (j_u_k _ _ (by decide))) ?_
        refine q_iconst (v := (-1)) (by decide) d47_48 ?_
        refine q_icmp_eq (tgt := 61) d47_49 rfl (fun h46t => ?_) (fun h46f => ?_)
        ·
          refine q_aload_n d47_61 rfl ?_
          refine q_dload_n d47_62 rfl ?_
          refine q_putD d47_63 (fs7_34 47 rfl) (Or.inl rfl) rfl (isTl_lt ht) (isTl_sh ht) ?_
          refine q_aload_n d47_66 rfl ?_
          refine q_aload_n d47_67 rfl ?_
          refine q_getI d47_68 (fs7_19 47 rfl) rfl (isTl_lt ht) (isTl_sh ht) ?_
          refine r_int (y := (I t 0)) (show (j_u I t 5 1) t 0 = (I t 0) from (j_u_k _ _ (by decide))) ?_
          refine q_putI d47_71 (fs7_40 47 rfl) (Or.inl rfl) rfl (isTl_lt ht) (isTl_sh ht) ?_
          refine q_aload_n d47_74 rfl ?_
          refine q_getI d47_75 (fs7_43 47 rfl) rfl (isTl_lt ht) (isTl_sh ht) ?_
          refine r_int (y := (I t 9)) (show (j_u (j_u I t 5 1) t 8 (I t 0)) t 9 = (I t 9) from ((j_u_k _ _ (by decide)).trans (j_u_k _ _ (by decide)))) ?_
          refine q_iconst (v := (-1)) (by decide) d47_78 ?_
          refine q_icmp_eq (tgt := 91) d47_79 rfl (fun h47t => ?_) (fun h47f => ?_)
          ·
            refine q_aload_n d47_91 rfl ?_
            refine q_dload_n d47_92 rfl ?_
            refine q_putD d47_93 (fs7_37 47 rfl) (Or.inl rfl) rfl (isTl_lt ht) (isTl_sh ht) ?_
            refine q_aload_n d47_96 rfl ?_
            refine q_aload_n d47_97 rfl ?_
            refine q_getI d47_98 (fs7_19 47 rfl) rfl (isTl_lt ht) (isTl_sh ht) ?_
            refine r_int (y := (I t 0)) (show (j_u (j_u I t 5 1) t 8 (I t 0)) t 0 = (I t 0) from ((j_u_k _ _ (by decide)).trans (j_u_k _ _ (by decide)))) ?_
            refine q_putI d47_101 (fs7_43 47 rfl) (Or.inl rfl) rfl (isTl_lt ht) (isTl_sh ht) ?_
            exact q_ret d47_104 rfl (Nat.le_refl _) (Nat.le_refl _) (v47 h1f h28fc h37fc h46t h47t)
          ·
            refine q_dload_n d47_82 rfl ?_
            refine q_aload_n d47_83 rfl ?_
            refine q_getD d47_84 (fs7_37 47 rfl) rfl (isTl_lt ht) (isTl_sh ht) ?_
            refine r_dbl (y := (D t 7)) (show (j_u (j_u D t 4 (FP.dadd (D t 4) x)) t 6 x) t 7 = (D t 7) from ((j_u_k _ _ (by decide)).trans (j_u_k _ _ (by decide)))) ?_
            refine q_dcmp d47_87 ?_
            refine q_if_le (tgt := 104) d47_88 rfl (fun h48t => ?_) (fun h48f => ?_)
            ·
              have h48tc : dgt x (D t 7) = false := dc_l_le_t h48t
              exact q_ret d47_104 rfl (Nat.le_refl _) (Nat.le_refl _) (v48 h1f h28fc h37fc h46t h47f h48tc)
            ·
              have h48fc : dgt x (D t 7) = true := dc_l_le_f h48f
              refine q_aload_n d47_91 rfl ?_
              refine q_dload_n d47_92 rfl ?_
              refine q_putD d47_93 (fs7_37 47 rfl) (Or.inl rfl) rfl (isTl_lt ht) (isTl_sh ht) ?_
              refine q_aload_n d47_96 rfl ?_
              refine q_aload_n d47_97 rfl ?_
              refine q_getI d47_98 (fs7_19 47 rfl) rfl (isTl_lt ht) (isTl_sh ht) ?_
              refine r_int (y := (I t 0)) (show (j_u (j_u I t 5 1) t 8 (I t 0)) t 0 = (I t 0) from ((j_u_k _ _ (by decide)).trans (j_u_k _ _ (by decide)))) ?_
              refine q_putI d47_101 (fs7_43 47 rfl) (Or.inl rfl) rfl (isTl_lt ht) (isTl_sh ht) ?_
              exact q_ret d47_104 rfl (Nat.le_refl _) (Nat.le_refl _) (v49 h1f h28fc h37fc h46t h47f h48fc)
        ·
          refine q_dload_n d47_52 rfl ?_
          refine q_aload_n d47_53 rfl ?_
          refine q_getD d47_54 (fs7_34 47 rfl) rfl (isTl_lt ht) (isTl_sh ht) ?_
          refine r_dbl (y := (D t 6)) (show (j_u D t 4 (FP.dadd (D t 4) x)) t 6 = (D t 6) from (j_u_k _ _ (by decide))) ?_
          refine q_dcmp d47_57 ?_
          refine q_if_ge (tgt := 74) d47_58 rfl (fun h49t => ?_) (fun h49f => ?_)
          ·
            have h49tc : dlt x (D t 6) = false := dc_g_ge_t h49t
            refine q_aload_n d47_74 rfl ?_
            refine q_getI d47_75 (fs7_43 47 rfl) rfl (isTl_lt ht) (isTl_sh ht) ?_
            refine r_int (y := (I t 9)) (show (j_u I t 5 1) t 9 = (I t 9) from (j_u_k _ _ (by decide))) ?_
            refine q_iconst (v := (-1)) (by decide) d47_78 ?_
            refine q_icmp_eq (tgt := 91) d47_79 rfl (fun h50t => ?_) (fun h50f => ?_)
            ·
              refine q_aload_n d47_91 rfl ?_
              refine q_dload_n d47_92 rfl ?_
              refine q_putD d47_93 (fs7_37 47 rfl) (Or.inl rfl) rfl (isTl_lt ht) (isTl_sh ht) ?_
              refine q_aload_n d47_96 rfl ?_
              refine q_aload_n d47_97 rfl ?_
              refine q_getI d47_98 (fs7_19 47 rfl) rfl (isTl_lt ht) (isTl_sh ht) ?_
              refine r_int (y := (I t 0)) (show (j_u I t 5 1) t 0 = (I t 0) from (j_u_k _ _ (by decide))) ?_
              refine q_putI d47_101 (fs7_43 47 rfl) (Or.inl rfl) rfl (isTl_lt ht) (isTl_sh ht) ?_
              exact q_ret d47_104 rfl (Nat.le_refl _) (Nat.le_refl _) (v50 h1f h28fc h37fc h46f h49tc h50t)
            ·
              refine q_dload_n d47_82 rfl ?_
              refine q_aload_n d47_83 rfl ?_
              refine q_getD d47_84 (fs7_37 47 rfl) rfl (isTl_lt ht) (isTl_sh ht) ?_
              refine r_dbl (y := (D t 7)) (show (j_u D t 4 (FP.dadd (D t 4) x)) t 7 = (D t 7) from (j_u_k _ _ (by decide))) ?_
              refine q_dcmp d47_87 ?_
              refine q_if_le (tgt := 104) d47_88 rfl (fun h51t => ?_) (fun h51f => ?_)
              ·
                have h51tc : dgt x (D t 7) = false := dc_l_le_t h51t
                exact q_ret d47_104 rfl (Nat.le_refl _) (Nat.le_refl _) (v51 h1f h28fc h37fc h46f h49tc h50f h51tc)
              ·
                have h51fc : dgt x (D t 7) = true := dc_l_le_f h51f
                refine q_aload_n d47_91 rfl ?_
                refine q_dload_n d47_92 rfl ?_
                refine q_putD d47_93 (fs7_37 47 rfl) (Or.inl rfl) rfl (isTl_lt ht) (isTl_sh ht) ?_
                refine q_aload_n d47_96 rfl ?_
                refine q_aload_n d47_97 rfl ?_
                refine q_getI d47_98 (fs7_19 47 rfl) rfl (isTl_lt ht) (isTl_sh ht) ?_
                refine r_int (y := (I t 0)) (show (j_u I t 5 1) t 0 = (I t 0) from (j_u_k _ _ (by decide))) ?_
                refine q_putI d47_101 (fs7_43 47 rfl) (Or.inl rfl) rfl (isTl_lt ht) (isTl_sh ht) ?_
                exact q_ret d47_104 rfl (Nat.le_refl _) (Nat.le_refl _) (v52 h1f h28fc h37fc h46f h49tc h50f h51fc)
          ·
            have h49fc : dlt x (D t 6) = true := dc_g_ge_f h49f
            refine q_aload_n d47_61 rfl ?_
            refine q_dload_n d47_62 rfl ?_
            refine q_putD d47_63 (fs7_34 47 rfl) (Or.inl rfl) rfl (isTl_lt ht) (isTl_sh ht) ?_
            refine q_aload_n d47_66 rfl ?_
            refine q_aload_n d47_67 rfl ?_
            refine q_getI d47_68 (fs7_19 47 rfl) rfl (isTl_lt ht) (isTl_sh ht) ?_
            refine r_int (y := (I t 0)) (show (j_u I t 5 1) t 0 = (I t 0) from (j_u_k _ _ (by decide))) ?_
            refine q_putI d47_71 (fs7_40 47 rfl) (Or.inl rfl) rfl (isTl_lt ht) (isTl_sh ht) ?_
            refine q_aload_n d47_74 rfl ?_
            refine q_getI d47_75 (fs7_43 47 rfl) rfl (isTl_lt ht) (isTl_sh ht) ?_
            refine r_int (y := (I t 9)) (show (j_u (j_u I t 5 1) t 8 (I t 0)) t 9 = (I t 9) from ((j_u_k _ _ (by decide)).trans (j_u_k _ _ (by decide)))) ?_
            refine q_iconst (v := (-1)) (by decide) d47_78 ?_
            refine q_icmp_eq (tgt := 91) d47_79 rfl (fun h52t => ?_) (fun h52f => ?_)
            ·
              refine q_aload_n d47_91 rfl ?_
              refine q_dload_n d47_92 rfl ?_
              refine q_putD d47_93 (fs7_37 47 rfl) (Or.inl rfl) rfl (isTl_lt ht) (isTl_sh ht) ?_
              refine q_aload_n d47_96 rfl ?_
              refine q_aload_n d47_97 rfl ?_
              refine q_getI d47_98 (fs7_19 47 rfl) rfl (isTl_lt ht) (isTl_sh ht) ?_
              refine r_int (y := (I t 0)) (show (j_u (j_u I t 5 1) t 8 (I t 0)) t 0 = (I t 0) from ((j_u_k _ _ (by decide)).trans (j_u_k _ _ (by decide)))) ?_
              refine q_putI d47_101 (fs7_43 47 rfl) (Or.inl rfl) rfl (isTl_lt ht) (isTl_sh ht) ?_
              exact q_ret d47_104 rfl (Nat.le_refl _) (Nat.le_refl _) (v53 h1f h28fc h37fc h46f h49fc h52t)
            ·
              refine q_dload_n d47_82 rfl ?_
              refine q_aload_n d47_83 rfl ?_
              refine q_getD d47_84 (fs7_37 47 rfl) rfl (isTl_lt ht) (isTl_sh ht) ?_
              refine r_dbl (y := (D t 7)) (show (j_u (j_u D t 4 (FP.dadd (D t 4) x)) t 6 x) t 7 = (D t 7) from ((j_u_k _ _ (by decide)).trans (j_u_k _ _ (by decide)))) ?_
              refine q_dcmp d47_87 ?_
              refine q_if_le (tgt := 104) d47_88 rfl (fun h53t => ?_) (fun h53f => ?_)
              ·
                have h53tc : dgt x (D t 7) = false := dc_l_le_t h53t
                exact q_ret d47_104 rfl (Nat.le_refl _) (Nat.le_refl _) (v54 h1f h28fc h37fc h46f h49fc h52f h53tc)
              ·
                have h53fc : dgt x (D t 7) = true := dc_l_le_f h53f
                refine q_aload_n d47_91 rfl ?_
                refine q_dload_n d47_92 rfl ?_
                refine q_putD d47_93 (fs7_37 47 rfl) (Or.inl rfl) rfl (isTl_lt ht) (isTl_sh ht) ?_
                refine q_aload_n d47_96 rfl ?_
                refine q_aload_n d47_97 rfl ?_
                refine q_getI d47_98 (fs7_19 47 rfl) rfl (isTl_lt ht) (isTl_sh ht) ?_
                refine r_int (y := (I t 0)) (show (j_u (j_u I t 5 1) t 8 (I t 0)) t 0 = (I t 0) from ((j_u_k _ _ (by decide)).trans (j_u_k _ _ (by decide)))) ?_
                refine q_putI d47_101 (fs7_43 47 rfl) (Or.inl rfl) rfl (isTl_lt ht) (isTl_sh ht) ?_
                exact q_ret d47_104 rfl (Nat.le_refl _) (Nat.le_refl _) (v55 h1f h28fc h37fc h46f h49fc h52f h53fc)

set_option maxRecDepth 10000 in
set_option maxHeartbeats 4000000 in
theorem s46 {d : Nat} {I : Nat → Nat → Int32} {D : Nat → Nat → UInt64} {R : Nat → Nat → Option Nat} {Q : j_Po} {t : Nat} {x : UInt64} {a : Int32}  (ht : isTl t) (hd : 1 ≤ d)
    (v1 : ((I t 0) < 64) → vp_in (I t 0) 64)
    (v2 : ((I t 0) < 64) → (¬ a = 0) → Q none w1 ((j_u (j_u (j_u I (t + 2) ((I t 0).toNatClampNeg) a) t 3 (((j_u I (t + 2) ((I t 0).toNatClampNeg) a) t 3) + 1)) t 0 (((j_u I (t + 2) ((I t 0).toNatClampNeg) a) t 0) + 1)), (j_u D (t + 1) ((I t 0).toNatClampNeg) x), RR R))
    (v3 : ((I t 0) < 64) → (a = 0) → (((j_u I (t + 2) ((I t 0).toNatClampNeg) a) t 5) = 0) → vf_n64 (FP.dadd ((j_u D (t + 1) ((I t 0).toNatClampNeg) x) t 4) x))
    (v4 : ((I t 0) < 64) → (a = 0) → (¬ ((j_u I (t + 2) ((I t 0).toNatClampNeg) a) t 5) = 0) → (dgt ((j_u D (t + 1) ((I t 0).toNatClampNeg) x) t 4) 4786511204640096256 = true) → (((j_u I (t + 2) ((I t 0).toNatClampNeg) a) t 8) = (-1)) → (((j_u I (t + 2) ((I t 0).toNatClampNeg) a) t 9) = (-1)) → Q none w1 ((j_u (j_u (j_u (j_u (j_u I (t + 2) ((I t 0).toNatClampNeg) a) t 5 1) t 8 ((j_u I (t + 2) ((I t 0).toNatClampNeg) a) t 0)) t 9 ((j_u I (t + 2) ((I t 0).toNatClampNeg) a) t 0)) t 0 (((j_u I (t + 2) ((I t 0).toNatClampNeg) a) t 0) + 1)), (j_u (j_u (j_u D (t + 1) ((I t 0).toNatClampNeg) x) t 6 x) t 7 x), RR R))
    (v5 : ((I t 0) < 64) → (a = 0) → (¬ ((j_u I (t + 2) ((I t 0).toNatClampNeg) a) t 5) = 0) → (dgt ((j_u D (t + 1) ((I t 0).toNatClampNeg) x) t 4) 4786511204640096256 = true) → (((j_u I (t + 2) ((I t 0).toNatClampNeg) a) t 8) = (-1)) → (¬ ((j_u I (t + 2) ((I t 0).toNatClampNeg) a) t 9) = (-1)) → (dgt x ((j_u D (t + 1) ((I t 0).toNatClampNeg) x) t 7) = false) → Q none w1 ((j_u (j_u (j_u (j_u I (t + 2) ((I t 0).toNatClampNeg) a) t 5 1) t 8 ((j_u I (t + 2) ((I t 0).toNatClampNeg) a) t 0)) t 0 (((j_u I (t + 2) ((I t 0).toNatClampNeg) a) t 0) + 1)), (j_u (j_u D (t + 1) ((I t 0).toNatClampNeg) x) t 6 x), RR R))
    (v6 : ((I t 0) < 64) → (a = 0) → (¬ ((j_u I (t + 2) ((I t 0).toNatClampNeg) a) t 5) = 0) → (dgt ((j_u D (t + 1) ((I t 0).toNatClampNeg) x) t 4) 4786511204640096256 = true) → (((j_u I (t + 2) ((I t 0).toNatClampNeg) a) t 8) = (-1)) → (¬ ((j_u I (t + 2) ((I t 0).toNatClampNeg) a) t 9) = (-1)) → (dgt x ((j_u D (t + 1) ((I t 0).toNatClampNeg) x) t 7) = true) → Q none w1 ((j_u (j_u (j_u (j_u (j_u I (t + 2) ((I t 0).toNatClampNeg) a) t 5 1) t 8 ((j_u I (t + 2) ((I t 0).toNatClampNeg) a) t 0)) t 9 ((j_u I (t + 2) ((I t 0).toNatClampNeg) a) t 0)) t 0 (((j_u I (t + 2) ((I t 0).toNatClampNeg) a) t 0) + 1)), (j_u (j_u (j_u D (t + 1) ((I t 0).toNatClampNeg) x) t 6 x) t 7 x), RR R))
    (v7 : ((I t 0) < 64) → (a = 0) → (¬ ((j_u I (t + 2) ((I t 0).toNatClampNeg) a) t 5) = 0) → (dgt ((j_u D (t + 1) ((I t 0).toNatClampNeg) x) t 4) 4786511204640096256 = true) → (¬ ((j_u I (t + 2) ((I t 0).toNatClampNeg) a) t 8) = (-1)) → (dlt x ((j_u D (t + 1) ((I t 0).toNatClampNeg) x) t 6) = false) → (((j_u I (t + 2) ((I t 0).toNatClampNeg) a) t 9) = (-1)) → Q none w1 ((j_u (j_u (j_u (j_u I (t + 2) ((I t 0).toNatClampNeg) a) t 5 1) t 9 ((j_u I (t + 2) ((I t 0).toNatClampNeg) a) t 0)) t 0 (((j_u I (t + 2) ((I t 0).toNatClampNeg) a) t 0) + 1)), (j_u (j_u D (t + 1) ((I t 0).toNatClampNeg) x) t 7 x), RR R))
    (v8 : ((I t 0) < 64) → (a = 0) → (¬ ((j_u I (t + 2) ((I t 0).toNatClampNeg) a) t 5) = 0) → (dgt ((j_u D (t + 1) ((I t 0).toNatClampNeg) x) t 4) 4786511204640096256 = true) → (¬ ((j_u I (t + 2) ((I t 0).toNatClampNeg) a) t 8) = (-1)) → (dlt x ((j_u D (t + 1) ((I t 0).toNatClampNeg) x) t 6) = false) → (¬ ((j_u I (t + 2) ((I t 0).toNatClampNeg) a) t 9) = (-1)) → (dgt x ((j_u D (t + 1) ((I t 0).toNatClampNeg) x) t 7) = false) → Q none w1 ((j_u (j_u (j_u I (t + 2) ((I t 0).toNatClampNeg) a) t 5 1) t 0 (((j_u I (t + 2) ((I t 0).toNatClampNeg) a) t 0) + 1)), (j_u D (t + 1) ((I t 0).toNatClampNeg) x), RR R))
    (v9 : ((I t 0) < 64) → (a = 0) → (¬ ((j_u I (t + 2) ((I t 0).toNatClampNeg) a) t 5) = 0) → (dgt ((j_u D (t + 1) ((I t 0).toNatClampNeg) x) t 4) 4786511204640096256 = true) → (¬ ((j_u I (t + 2) ((I t 0).toNatClampNeg) a) t 8) = (-1)) → (dlt x ((j_u D (t + 1) ((I t 0).toNatClampNeg) x) t 6) = false) → (¬ ((j_u I (t + 2) ((I t 0).toNatClampNeg) a) t 9) = (-1)) → (dgt x ((j_u D (t + 1) ((I t 0).toNatClampNeg) x) t 7) = true) → Q none w1 ((j_u (j_u (j_u (j_u I (t + 2) ((I t 0).toNatClampNeg) a) t 5 1) t 9 ((j_u I (t + 2) ((I t 0).toNatClampNeg) a) t 0)) t 0 (((j_u I (t + 2) ((I t 0).toNatClampNeg) a) t 0) + 1)), (j_u (j_u D (t + 1) ((I t 0).toNatClampNeg) x) t 7 x), RR R))
    (v10 : ((I t 0) < 64) → (a = 0) → (¬ ((j_u I (t + 2) ((I t 0).toNatClampNeg) a) t 5) = 0) → (dgt ((j_u D (t + 1) ((I t 0).toNatClampNeg) x) t 4) 4786511204640096256 = true) → (¬ ((j_u I (t + 2) ((I t 0).toNatClampNeg) a) t 8) = (-1)) → (dlt x ((j_u D (t + 1) ((I t 0).toNatClampNeg) x) t 6) = true) → (((j_u I (t + 2) ((I t 0).toNatClampNeg) a) t 9) = (-1)) → Q none w1 ((j_u (j_u (j_u (j_u (j_u I (t + 2) ((I t 0).toNatClampNeg) a) t 5 1) t 8 ((j_u I (t + 2) ((I t 0).toNatClampNeg) a) t 0)) t 9 ((j_u I (t + 2) ((I t 0).toNatClampNeg) a) t 0)) t 0 (((j_u I (t + 2) ((I t 0).toNatClampNeg) a) t 0) + 1)), (j_u (j_u (j_u D (t + 1) ((I t 0).toNatClampNeg) x) t 6 x) t 7 x), RR R))
    (v11 : ((I t 0) < 64) → (a = 0) → (¬ ((j_u I (t + 2) ((I t 0).toNatClampNeg) a) t 5) = 0) → (dgt ((j_u D (t + 1) ((I t 0).toNatClampNeg) x) t 4) 4786511204640096256 = true) → (¬ ((j_u I (t + 2) ((I t 0).toNatClampNeg) a) t 8) = (-1)) → (dlt x ((j_u D (t + 1) ((I t 0).toNatClampNeg) x) t 6) = true) → (¬ ((j_u I (t + 2) ((I t 0).toNatClampNeg) a) t 9) = (-1)) → (dgt x ((j_u D (t + 1) ((I t 0).toNatClampNeg) x) t 7) = false) → Q none w1 ((j_u (j_u (j_u (j_u I (t + 2) ((I t 0).toNatClampNeg) a) t 5 1) t 8 ((j_u I (t + 2) ((I t 0).toNatClampNeg) a) t 0)) t 0 (((j_u I (t + 2) ((I t 0).toNatClampNeg) a) t 0) + 1)), (j_u (j_u D (t + 1) ((I t 0).toNatClampNeg) x) t 6 x), RR R))
    (v12 : ((I t 0) < 64) → (a = 0) → (¬ ((j_u I (t + 2) ((I t 0).toNatClampNeg) a) t 5) = 0) → (dgt ((j_u D (t + 1) ((I t 0).toNatClampNeg) x) t 4) 4786511204640096256 = true) → (¬ ((j_u I (t + 2) ((I t 0).toNatClampNeg) a) t 8) = (-1)) → (dlt x ((j_u D (t + 1) ((I t 0).toNatClampNeg) x) t 6) = true) → (¬ ((j_u I (t + 2) ((I t 0).toNatClampNeg) a) t 9) = (-1)) → (dgt x ((j_u D (t + 1) ((I t 0).toNatClampNeg) x) t 7) = true) → Q none w1 ((j_u (j_u (j_u (j_u (j_u I (t + 2) ((I t 0).toNatClampNeg) a) t 5 1) t 8 ((j_u I (t + 2) ((I t 0).toNatClampNeg) a) t 0)) t 9 ((j_u I (t + 2) ((I t 0).toNatClampNeg) a) t 0)) t 0 (((j_u I (t + 2) ((I t 0).toNatClampNeg) a) t 0) + 1)), (j_u (j_u (j_u D (t + 1) ((I t 0).toNatClampNeg) x) t 6 x) t 7 x), RR R))
    (v13 : ((I t 0) < 64) → (a = 0) → (¬ ((j_u I (t + 2) ((I t 0).toNatClampNeg) a) t 5) = 0) → (dgt ((j_u D (t + 1) ((I t 0).toNatClampNeg) x) t 4) 4786511204640096256 = false) → (dlt ((j_u D (t + 1) ((I t 0).toNatClampNeg) x) t 4) 14009883241494872064 = false) → (((j_u I (t + 2) ((I t 0).toNatClampNeg) a) t 8) = (-1)) → (((j_u I (t + 2) ((I t 0).toNatClampNeg) a) t 9) = (-1)) → Q none w1 ((j_u (j_u (j_u (j_u I (t + 2) ((I t 0).toNatClampNeg) a) t 8 ((j_u I (t + 2) ((I t 0).toNatClampNeg) a) t 0)) t 9 ((j_u I (t + 2) ((I t 0).toNatClampNeg) a) t 0)) t 0 (((j_u I (t + 2) ((I t 0).toNatClampNeg) a) t 0) + 1)), (j_u (j_u (j_u D (t + 1) ((I t 0).toNatClampNeg) x) t 6 x) t 7 x), RR R))
    (v14 : ((I t 0) < 64) → (a = 0) → (¬ ((j_u I (t + 2) ((I t 0).toNatClampNeg) a) t 5) = 0) → (dgt ((j_u D (t + 1) ((I t 0).toNatClampNeg) x) t 4) 4786511204640096256 = false) → (dlt ((j_u D (t + 1) ((I t 0).toNatClampNeg) x) t 4) 14009883241494872064 = false) → (((j_u I (t + 2) ((I t 0).toNatClampNeg) a) t 8) = (-1)) → (¬ ((j_u I (t + 2) ((I t 0).toNatClampNeg) a) t 9) = (-1)) → (dgt x ((j_u D (t + 1) ((I t 0).toNatClampNeg) x) t 7) = false) → Q none w1 ((j_u (j_u (j_u I (t + 2) ((I t 0).toNatClampNeg) a) t 8 ((j_u I (t + 2) ((I t 0).toNatClampNeg) a) t 0)) t 0 (((j_u I (t + 2) ((I t 0).toNatClampNeg) a) t 0) + 1)), (j_u (j_u D (t + 1) ((I t 0).toNatClampNeg) x) t 6 x), RR R))
    (v15 : ((I t 0) < 64) → (a = 0) → (¬ ((j_u I (t + 2) ((I t 0).toNatClampNeg) a) t 5) = 0) → (dgt ((j_u D (t + 1) ((I t 0).toNatClampNeg) x) t 4) 4786511204640096256 = false) → (dlt ((j_u D (t + 1) ((I t 0).toNatClampNeg) x) t 4) 14009883241494872064 = false) → (((j_u I (t + 2) ((I t 0).toNatClampNeg) a) t 8) = (-1)) → (¬ ((j_u I (t + 2) ((I t 0).toNatClampNeg) a) t 9) = (-1)) → (dgt x ((j_u D (t + 1) ((I t 0).toNatClampNeg) x) t 7) = true) → Q none w1 ((j_u (j_u (j_u (j_u I (t + 2) ((I t 0).toNatClampNeg) a) t 8 ((j_u I (t + 2) ((I t 0).toNatClampNeg) a) t 0)) t 9 ((j_u I (t + 2) ((I t 0).toNatClampNeg) a) t 0)) t 0 (((j_u I (t + 2) ((I t 0).toNatClampNeg) a) t 0) + 1)), (j_u (j_u (j_u D (t + 1) ((I t 0).toNatClampNeg) x) t 6 x) t 7 x), RR R))
    (v16 : ((I t 0) < 64) → (a = 0) → (¬ ((j_u I (t + 2) ((I t 0).toNatClampNeg) a) t 5) = 0) → (dgt ((j_u D (t + 1) ((I t 0).toNatClampNeg) x) t 4) 4786511204640096256 = false) → (dlt ((j_u D (t + 1) ((I t 0).toNatClampNeg) x) t 4) 14009883241494872064 = false) → (¬ ((j_u I (t + 2) ((I t 0).toNatClampNeg) a) t 8) = (-1)) → (dlt x ((j_u D (t + 1) ((I t 0).toNatClampNeg) x) t 6) = false) → (((j_u I (t + 2) ((I t 0).toNatClampNeg) a) t 9) = (-1)) → Q none w1 ((j_u (j_u (j_u I (t + 2) ((I t 0).toNatClampNeg) a) t 9 ((j_u I (t + 2) ((I t 0).toNatClampNeg) a) t 0)) t 0 (((j_u I (t + 2) ((I t 0).toNatClampNeg) a) t 0) + 1)), (j_u (j_u D (t + 1) ((I t 0).toNatClampNeg) x) t 7 x), RR R))
    (v17 : ((I t 0) < 64) → (a = 0) → (¬ ((j_u I (t + 2) ((I t 0).toNatClampNeg) a) t 5) = 0) → (dgt ((j_u D (t + 1) ((I t 0).toNatClampNeg) x) t 4) 4786511204640096256 = false) → (dlt ((j_u D (t + 1) ((I t 0).toNatClampNeg) x) t 4) 14009883241494872064 = false) → (¬ ((j_u I (t + 2) ((I t 0).toNatClampNeg) a) t 8) = (-1)) → (dlt x ((j_u D (t + 1) ((I t 0).toNatClampNeg) x) t 6) = false) → (¬ ((j_u I (t + 2) ((I t 0).toNatClampNeg) a) t 9) = (-1)) → (dgt x ((j_u D (t + 1) ((I t 0).toNatClampNeg) x) t 7) = false) → Q none w1 ((j_u (j_u I (t + 2) ((I t 0).toNatClampNeg) a) t 0 (((j_u I (t + 2) ((I t 0).toNatClampNeg) a) t 0) + 1)), (j_u D (t + 1) ((I t 0).toNatClampNeg) x), RR R))
    (v18 : ((I t 0) < 64) → (a = 0) → (¬ ((j_u I (t + 2) ((I t 0).toNatClampNeg) a) t 5) = 0) → (dgt ((j_u D (t + 1) ((I t 0).toNatClampNeg) x) t 4) 4786511204640096256 = false) → (dlt ((j_u D (t + 1) ((I t 0).toNatClampNeg) x) t 4) 14009883241494872064 = false) → (¬ ((j_u I (t + 2) ((I t 0).toNatClampNeg) a) t 8) = (-1)) → (dlt x ((j_u D (t + 1) ((I t 0).toNatClampNeg) x) t 6) = false) → (¬ ((j_u I (t + 2) ((I t 0).toNatClampNeg) a) t 9) = (-1)) → (dgt x ((j_u D (t + 1) ((I t 0).toNatClampNeg) x) t 7) = true) → Q none w1 ((j_u (j_u (j_u I (t + 2) ((I t 0).toNatClampNeg) a) t 9 ((j_u I (t + 2) ((I t 0).toNatClampNeg) a) t 0)) t 0 (((j_u I (t + 2) ((I t 0).toNatClampNeg) a) t 0) + 1)), (j_u (j_u D (t + 1) ((I t 0).toNatClampNeg) x) t 7 x), RR R))
    (v19 : ((I t 0) < 64) → (a = 0) → (¬ ((j_u I (t + 2) ((I t 0).toNatClampNeg) a) t 5) = 0) → (dgt ((j_u D (t + 1) ((I t 0).toNatClampNeg) x) t 4) 4786511204640096256 = false) → (dlt ((j_u D (t + 1) ((I t 0).toNatClampNeg) x) t 4) 14009883241494872064 = false) → (¬ ((j_u I (t + 2) ((I t 0).toNatClampNeg) a) t 8) = (-1)) → (dlt x ((j_u D (t + 1) ((I t 0).toNatClampNeg) x) t 6) = true) → (((j_u I (t + 2) ((I t 0).toNatClampNeg) a) t 9) = (-1)) → Q none w1 ((j_u (j_u (j_u (j_u I (t + 2) ((I t 0).toNatClampNeg) a) t 8 ((j_u I (t + 2) ((I t 0).toNatClampNeg) a) t 0)) t 9 ((j_u I (t + 2) ((I t 0).toNatClampNeg) a) t 0)) t 0 (((j_u I (t + 2) ((I t 0).toNatClampNeg) a) t 0) + 1)), (j_u (j_u (j_u D (t + 1) ((I t 0).toNatClampNeg) x) t 6 x) t 7 x), RR R))
    (v20 : ((I t 0) < 64) → (a = 0) → (¬ ((j_u I (t + 2) ((I t 0).toNatClampNeg) a) t 5) = 0) → (dgt ((j_u D (t + 1) ((I t 0).toNatClampNeg) x) t 4) 4786511204640096256 = false) → (dlt ((j_u D (t + 1) ((I t 0).toNatClampNeg) x) t 4) 14009883241494872064 = false) → (¬ ((j_u I (t + 2) ((I t 0).toNatClampNeg) a) t 8) = (-1)) → (dlt x ((j_u D (t + 1) ((I t 0).toNatClampNeg) x) t 6) = true) → (¬ ((j_u I (t + 2) ((I t 0).toNatClampNeg) a) t 9) = (-1)) → (dgt x ((j_u D (t + 1) ((I t 0).toNatClampNeg) x) t 7) = false) → Q none w1 ((j_u (j_u (j_u I (t + 2) ((I t 0).toNatClampNeg) a) t 8 ((j_u I (t + 2) ((I t 0).toNatClampNeg) a) t 0)) t 0 (((j_u I (t + 2) ((I t 0).toNatClampNeg) a) t 0) + 1)), (j_u (j_u D (t + 1) ((I t 0).toNatClampNeg) x) t 6 x), RR R))
    (v21 : ((I t 0) < 64) → (a = 0) → (¬ ((j_u I (t + 2) ((I t 0).toNatClampNeg) a) t 5) = 0) → (dgt ((j_u D (t + 1) ((I t 0).toNatClampNeg) x) t 4) 4786511204640096256 = false) → (dlt ((j_u D (t + 1) ((I t 0).toNatClampNeg) x) t 4) 14009883241494872064 = false) → (¬ ((j_u I (t + 2) ((I t 0).toNatClampNeg) a) t 8) = (-1)) → (dlt x ((j_u D (t + 1) ((I t 0).toNatClampNeg) x) t 6) = true) → (¬ ((j_u I (t + 2) ((I t 0).toNatClampNeg) a) t 9) = (-1)) → (dgt x ((j_u D (t + 1) ((I t 0).toNatClampNeg) x) t 7) = true) → Q none w1 ((j_u (j_u (j_u (j_u I (t + 2) ((I t 0).toNatClampNeg) a) t 8 ((j_u I (t + 2) ((I t 0).toNatClampNeg) a) t 0)) t 9 ((j_u I (t + 2) ((I t 0).toNatClampNeg) a) t 0)) t 0 (((j_u I (t + 2) ((I t 0).toNatClampNeg) a) t 0) + 1)), (j_u (j_u (j_u D (t + 1) ((I t 0).toNatClampNeg) x) t 6 x) t 7 x), RR R))
    (v22 : ((I t 0) < 64) → (a = 0) → (¬ ((j_u I (t + 2) ((I t 0).toNatClampNeg) a) t 5) = 0) → (dgt ((j_u D (t + 1) ((I t 0).toNatClampNeg) x) t 4) 4786511204640096256 = false) → (dlt ((j_u D (t + 1) ((I t 0).toNatClampNeg) x) t 4) 14009883241494872064 = true) → (((j_u I (t + 2) ((I t 0).toNatClampNeg) a) t 8) = (-1)) → (((j_u I (t + 2) ((I t 0).toNatClampNeg) a) t 9) = (-1)) → Q none w1 ((j_u (j_u (j_u (j_u (j_u I (t + 2) ((I t 0).toNatClampNeg) a) t 5 1) t 8 ((j_u I (t + 2) ((I t 0).toNatClampNeg) a) t 0)) t 9 ((j_u I (t + 2) ((I t 0).toNatClampNeg) a) t 0)) t 0 (((j_u I (t + 2) ((I t 0).toNatClampNeg) a) t 0) + 1)), (j_u (j_u (j_u D (t + 1) ((I t 0).toNatClampNeg) x) t 6 x) t 7 x), RR R))
    (v23 : ((I t 0) < 64) → (a = 0) → (¬ ((j_u I (t + 2) ((I t 0).toNatClampNeg) a) t 5) = 0) → (dgt ((j_u D (t + 1) ((I t 0).toNatClampNeg) x) t 4) 4786511204640096256 = false) → (dlt ((j_u D (t + 1) ((I t 0).toNatClampNeg) x) t 4) 14009883241494872064 = true) → (((j_u I (t + 2) ((I t 0).toNatClampNeg) a) t 8) = (-1)) → (¬ ((j_u I (t + 2) ((I t 0).toNatClampNeg) a) t 9) = (-1)) → (dgt x ((j_u D (t + 1) ((I t 0).toNatClampNeg) x) t 7) = false) → Q none w1 ((j_u (j_u (j_u (j_u I (t + 2) ((I t 0).toNatClampNeg) a) t 5 1) t 8 ((j_u I (t + 2) ((I t 0).toNatClampNeg) a) t 0)) t 0 (((j_u I (t + 2) ((I t 0).toNatClampNeg) a) t 0) + 1)), (j_u (j_u D (t + 1) ((I t 0).toNatClampNeg) x) t 6 x), RR R))
    (v24 : ((I t 0) < 64) → (a = 0) → (¬ ((j_u I (t + 2) ((I t 0).toNatClampNeg) a) t 5) = 0) → (dgt ((j_u D (t + 1) ((I t 0).toNatClampNeg) x) t 4) 4786511204640096256 = false) → (dlt ((j_u D (t + 1) ((I t 0).toNatClampNeg) x) t 4) 14009883241494872064 = true) → (((j_u I (t + 2) ((I t 0).toNatClampNeg) a) t 8) = (-1)) → (¬ ((j_u I (t + 2) ((I t 0).toNatClampNeg) a) t 9) = (-1)) → (dgt x ((j_u D (t + 1) ((I t 0).toNatClampNeg) x) t 7) = true) → Q none w1 ((j_u (j_u (j_u (j_u (j_u I (t + 2) ((I t 0).toNatClampNeg) a) t 5 1) t 8 ((j_u I (t + 2) ((I t 0).toNatClampNeg) a) t 0)) t 9 ((j_u I (t + 2) ((I t 0).toNatClampNeg) a) t 0)) t 0 (((j_u I (t + 2) ((I t 0).toNatClampNeg) a) t 0) + 1)), (j_u (j_u (j_u D (t + 1) ((I t 0).toNatClampNeg) x) t 6 x) t 7 x), RR R))
    (v25 : ((I t 0) < 64) → (a = 0) → (¬ ((j_u I (t + 2) ((I t 0).toNatClampNeg) a) t 5) = 0) → (dgt ((j_u D (t + 1) ((I t 0).toNatClampNeg) x) t 4) 4786511204640096256 = false) → (dlt ((j_u D (t + 1) ((I t 0).toNatClampNeg) x) t 4) 14009883241494872064 = true) → (¬ ((j_u I (t + 2) ((I t 0).toNatClampNeg) a) t 8) = (-1)) → (dlt x ((j_u D (t + 1) ((I t 0).toNatClampNeg) x) t 6) = false) → (((j_u I (t + 2) ((I t 0).toNatClampNeg) a) t 9) = (-1)) → Q none w1 ((j_u (j_u (j_u (j_u I (t + 2) ((I t 0).toNatClampNeg) a) t 5 1) t 9 ((j_u I (t + 2) ((I t 0).toNatClampNeg) a) t 0)) t 0 (((j_u I (t + 2) ((I t 0).toNatClampNeg) a) t 0) + 1)), (j_u (j_u D (t + 1) ((I t 0).toNatClampNeg) x) t 7 x), RR R))
    (v26 : ((I t 0) < 64) → (a = 0) → (¬ ((j_u I (t + 2) ((I t 0).toNatClampNeg) a) t 5) = 0) → (dgt ((j_u D (t + 1) ((I t 0).toNatClampNeg) x) t 4) 4786511204640096256 = false) → (dlt ((j_u D (t + 1) ((I t 0).toNatClampNeg) x) t 4) 14009883241494872064 = true) → (¬ ((j_u I (t + 2) ((I t 0).toNatClampNeg) a) t 8) = (-1)) → (dlt x ((j_u D (t + 1) ((I t 0).toNatClampNeg) x) t 6) = false) → (¬ ((j_u I (t + 2) ((I t 0).toNatClampNeg) a) t 9) = (-1)) → (dgt x ((j_u D (t + 1) ((I t 0).toNatClampNeg) x) t 7) = false) → Q none w1 ((j_u (j_u (j_u I (t + 2) ((I t 0).toNatClampNeg) a) t 5 1) t 0 (((j_u I (t + 2) ((I t 0).toNatClampNeg) a) t 0) + 1)), (j_u D (t + 1) ((I t 0).toNatClampNeg) x), RR R))
    (v27 : ((I t 0) < 64) → (a = 0) → (¬ ((j_u I (t + 2) ((I t 0).toNatClampNeg) a) t 5) = 0) → (dgt ((j_u D (t + 1) ((I t 0).toNatClampNeg) x) t 4) 4786511204640096256 = false) → (dlt ((j_u D (t + 1) ((I t 0).toNatClampNeg) x) t 4) 14009883241494872064 = true) → (¬ ((j_u I (t + 2) ((I t 0).toNatClampNeg) a) t 8) = (-1)) → (dlt x ((j_u D (t + 1) ((I t 0).toNatClampNeg) x) t 6) = false) → (¬ ((j_u I (t + 2) ((I t 0).toNatClampNeg) a) t 9) = (-1)) → (dgt x ((j_u D (t + 1) ((I t 0).toNatClampNeg) x) t 7) = true) → Q none w1 ((j_u (j_u (j_u (j_u I (t + 2) ((I t 0).toNatClampNeg) a) t 5 1) t 9 ((j_u I (t + 2) ((I t 0).toNatClampNeg) a) t 0)) t 0 (((j_u I (t + 2) ((I t 0).toNatClampNeg) a) t 0) + 1)), (j_u (j_u D (t + 1) ((I t 0).toNatClampNeg) x) t 7 x), RR R))
    (v28 : ((I t 0) < 64) → (a = 0) → (¬ ((j_u I (t + 2) ((I t 0).toNatClampNeg) a) t 5) = 0) → (dgt ((j_u D (t + 1) ((I t 0).toNatClampNeg) x) t 4) 4786511204640096256 = false) → (dlt ((j_u D (t + 1) ((I t 0).toNatClampNeg) x) t 4) 14009883241494872064 = true) → (¬ ((j_u I (t + 2) ((I t 0).toNatClampNeg) a) t 8) = (-1)) → (dlt x ((j_u D (t + 1) ((I t 0).toNatClampNeg) x) t 6) = true) → (((j_u I (t + 2) ((I t 0).toNatClampNeg) a) t 9) = (-1)) → Q none w1 ((j_u (j_u (j_u (j_u (j_u I (t + 2) ((I t 0).toNatClampNeg) a) t 5 1) t 8 ((j_u I (t + 2) ((I t 0).toNatClampNeg) a) t 0)) t 9 ((j_u I (t + 2) ((I t 0).toNatClampNeg) a) t 0)) t 0 (((j_u I (t + 2) ((I t 0).toNatClampNeg) a) t 0) + 1)), (j_u (j_u (j_u D (t + 1) ((I t 0).toNatClampNeg) x) t 6 x) t 7 x), RR R))
    (v29 : ((I t 0) < 64) → (a = 0) → (¬ ((j_u I (t + 2) ((I t 0).toNatClampNeg) a) t 5) = 0) → (dgt ((j_u D (t + 1) ((I t 0).toNatClampNeg) x) t 4) 4786511204640096256 = false) → (dlt ((j_u D (t + 1) ((I t 0).toNatClampNeg) x) t 4) 14009883241494872064 = true) → (¬ ((j_u I (t + 2) ((I t 0).toNatClampNeg) a) t 8) = (-1)) → (dlt x ((j_u D (t + 1) ((I t 0).toNatClampNeg) x) t 6) = true) → (¬ ((j_u I (t + 2) ((I t 0).toNatClampNeg) a) t 9) = (-1)) → (dgt x ((j_u D (t + 1) ((I t 0).toNatClampNeg) x) t 7) = false) → Q none w1 ((j_u (j_u (j_u (j_u I (t + 2) ((I t 0).toNatClampNeg) a) t 5 1) t 8 ((j_u I (t + 2) ((I t 0).toNatClampNeg) a) t 0)) t 0 (((j_u I (t + 2) ((I t 0).toNatClampNeg) a) t 0) + 1)), (j_u (j_u D (t + 1) ((I t 0).toNatClampNeg) x) t 6 x), RR R))
    (v30 : ((I t 0) < 64) → (a = 0) → (¬ ((j_u I (t + 2) ((I t 0).toNatClampNeg) a) t 5) = 0) → (dgt ((j_u D (t + 1) ((I t 0).toNatClampNeg) x) t 4) 4786511204640096256 = false) → (dlt ((j_u D (t + 1) ((I t 0).toNatClampNeg) x) t 4) 14009883241494872064 = true) → (¬ ((j_u I (t + 2) ((I t 0).toNatClampNeg) a) t 8) = (-1)) → (dlt x ((j_u D (t + 1) ((I t 0).toNatClampNeg) x) t 6) = true) → (¬ ((j_u I (t + 2) ((I t 0).toNatClampNeg) a) t 9) = (-1)) → (dgt x ((j_u D (t + 1) ((I t 0).toNatClampNeg) x) t 7) = true) → Q none w1 ((j_u (j_u (j_u (j_u (j_u I (t + 2) ((I t 0).toNatClampNeg) a) t 5 1) t 8 ((j_u I (t + 2) ((I t 0).toNatClampNeg) a) t 0)) t 9 ((j_u I (t + 2) ((I t 0).toNatClampNeg) a) t 0)) t 0 (((j_u I (t + 2) ((I t 0).toNatClampNeg) a) t 0) + 1)), (j_u (j_u (j_u D (t + 1) ((I t 0).toNatClampNeg) x) t 6 x) t 7 x), RR R))
    (v31 : ((I t 0) < 64) → (a = 0) → (((j_u I (t + 2) ((I t 0).toNatClampNeg) a) t 5) = 0) → (dgt (FP.dadd ((j_u D (t + 1) ((I t 0).toNatClampNeg) x) t 4) x) 4786511204640096256 = true) → (((j_u I (t + 2) ((I t 0).toNatClampNeg) a) t 8) = (-1)) → (((j_u I (t + 2) ((I t 0).toNatClampNeg) a) t 9) = (-1)) → Q none w1 ((j_u (j_u (j_u (j_u (j_u I (t + 2) ((I t 0).toNatClampNeg) a) t 5 1) t 8 ((j_u I (t + 2) ((I t 0).toNatClampNeg) a) t 0)) t 9 ((j_u I (t + 2) ((I t 0).toNatClampNeg) a) t 0)) t 0 (((j_u I (t + 2) ((I t 0).toNatClampNeg) a) t 0) + 1)), (j_u (j_u (j_u (j_u D (t + 1) ((I t 0).toNatClampNeg) x) t 4 (FP.dadd ((j_u D (t + 1) ((I t 0).toNatClampNeg) x) t 4) x)) t 6 x) t 7 x), RR R))
    (v32 : ((I t 0) < 64) → (a = 0) → (((j_u I (t + 2) ((I t 0).toNatClampNeg) a) t 5) = 0) → (dgt (FP.dadd ((j_u D (t + 1) ((I t 0).toNatClampNeg) x) t 4) x) 4786511204640096256 = true) → (((j_u I (t + 2) ((I t 0).toNatClampNeg) a) t 8) = (-1)) → (¬ ((j_u I (t + 2) ((I t 0).toNatClampNeg) a) t 9) = (-1)) → (dgt x ((j_u D (t + 1) ((I t 0).toNatClampNeg) x) t 7) = false) → Q none w1 ((j_u (j_u (j_u (j_u I (t + 2) ((I t 0).toNatClampNeg) a) t 5 1) t 8 ((j_u I (t + 2) ((I t 0).toNatClampNeg) a) t 0)) t 0 (((j_u I (t + 2) ((I t 0).toNatClampNeg) a) t 0) + 1)), (j_u (j_u (j_u D (t + 1) ((I t 0).toNatClampNeg) x) t 4 (FP.dadd ((j_u D (t + 1) ((I t 0).toNatClampNeg) x) t 4) x)) t 6 x), RR R))
    (v33 : ((I t 0) < 64) → (a = 0) → (((j_u I (t + 2) ((I t 0).toNatClampNeg) a) t 5) = 0) → (dgt (FP.dadd ((j_u D (t + 1) ((I t 0).toNatClampNeg) x) t 4) x) 4786511204640096256 = true) → (((j_u I (t + 2) ((I t 0).toNatClampNeg) a) t 8) = (-1)) → (¬ ((j_u I (t + 2) ((I t 0).toNatClampNeg) a) t 9) = (-1)) → (dgt x ((j_u D (t + 1) ((I t 0).toNatClampNeg) x) t 7) = true) → Q none w1 ((j_u (j_u (j_u (j_u (j_u I (t + 2) ((I t 0).toNatClampNeg) a) t 5 1) t 8 ((j_u I (t + 2) ((I t 0).toNatClampNeg) a) t 0)) t 9 ((j_u I (t + 2) ((I t 0).toNatClampNeg) a) t 0)) t 0 (((j_u I (t + 2) ((I t 0).toNatClampNeg) a) t 0) + 1)), (j_u (j_u (j_u (j_u D (t + 1) ((I t 0).toNatClampNeg) x) t 4 (FP.dadd ((j_u D (t + 1) ((I t 0).toNatClampNeg) x) t 4) x)) t 6 x) t 7 x), RR R))
    (v34 : ((I t 0) < 64) → (a = 0) → (((j_u I (t + 2) ((I t 0).toNatClampNeg) a) t 5) = 0) → (dgt (FP.dadd ((j_u D (t + 1) ((I t 0).toNatClampNeg) x) t 4) x) 4786511204640096256 = true) → (¬ ((j_u I (t + 2) ((I t 0).toNatClampNeg) a) t 8) = (-1)) → (dlt x ((j_u D (t + 1) ((I t 0).toNatClampNeg) x) t 6) = false) → (((j_u I (t + 2) ((I t 0).toNatClampNeg) a) t 9) = (-1)) → Q none w1 ((j_u (j_u (j_u (j_u I (t + 2) ((I t 0).toNatClampNeg) a) t 5 1) t 9 ((j_u I (t + 2) ((I t 0).toNatClampNeg) a) t 0)) t 0 (((j_u I (t + 2) ((I t 0).toNatClampNeg) a) t 0) + 1)), (j_u (j_u (j_u D (t + 1) ((I t 0).toNatClampNeg) x) t 4 (FP.dadd ((j_u D (t + 1) ((I t 0).toNatClampNeg) x) t 4) x)) t 7 x), RR R))
    (v35 : ((I t 0) < 64) → (a = 0) → (((j_u I (t + 2) ((I t 0).toNatClampNeg) a) t 5) = 0) → (dgt (FP.dadd ((j_u D (t + 1) ((I t 0).toNatClampNeg) x) t 4) x) 4786511204640096256 = true) → (¬ ((j_u I (t + 2) ((I t 0).toNatClampNeg) a) t 8) = (-1)) → (dlt x ((j_u D (t + 1) ((I t 0).toNatClampNeg) x) t 6) = false) → (¬ ((j_u I (t + 2) ((I t 0).toNatClampNeg) a) t 9) = (-1)) → (dgt x ((j_u D (t + 1) ((I t 0).toNatClampNeg) x) t 7) = false) → Q none w1 ((j_u (j_u (j_u I (t + 2) ((I t 0).toNatClampNeg) a) t 5 1) t 0 (((j_u I (t + 2) ((I t 0).toNatClampNeg) a) t 0) + 1)), (j_u (j_u D (t + 1) ((I t 0).toNatClampNeg) x) t 4 (FP.dadd ((j_u D (t + 1) ((I t 0).toNatClampNeg) x) t 4) x)), RR R))
    (v36 : ((I t 0) < 64) → (a = 0) → (((j_u I (t + 2) ((I t 0).toNatClampNeg) a) t 5) = 0) → (dgt (FP.dadd ((j_u D (t + 1) ((I t 0).toNatClampNeg) x) t 4) x) 4786511204640096256 = true) → (¬ ((j_u I (t + 2) ((I t 0).toNatClampNeg) a) t 8) = (-1)) → (dlt x ((j_u D (t + 1) ((I t 0).toNatClampNeg) x) t 6) = false) → (¬ ((j_u I (t + 2) ((I t 0).toNatClampNeg) a) t 9) = (-1)) → (dgt x ((j_u D (t + 1) ((I t 0).toNatClampNeg) x) t 7) = true) → Q none w1 ((j_u (j_u (j_u (j_u I (t + 2) ((I t 0).toNatClampNeg) a) t 5 1) t 9 ((j_u I (t + 2) ((I t 0).toNatClampNeg) a) t 0)) t 0 (((j_u I (t + 2) ((I t 0).toNatClampNeg) a) t 0) + 1)), (j_u (j_u (j_u D (t + 1) ((I t 0).toNatClampNeg) x) t 4 (FP.dadd ((j_u D (t + 1) ((I t 0).toNatClampNeg) x) t 4) x)) t 7 x), RR R))
    (v37 : ((I t 0) < 64) → (a = 0) → (((j_u I (t + 2) ((I t 0).toNatClampNeg) a) t 5) = 0) → (dgt (FP.dadd ((j_u D (t + 1) ((I t 0).toNatClampNeg) x) t 4) x) 4786511204640096256 = true) → (¬ ((j_u I (t + 2) ((I t 0).toNatClampNeg) a) t 8) = (-1)) → (dlt x ((j_u D (t + 1) ((I t 0).toNatClampNeg) x) t 6) = true) → (((j_u I (t + 2) ((I t 0).toNatClampNeg) a) t 9) = (-1)) → Q none w1 ((j_u (j_u (j_u (j_u (j_u I (t + 2) ((I t 0).toNatClampNeg) a) t 5 1) t 8 ((j_u I (t + 2) ((I t 0).toNatClampNeg) a) t 0)) t 9 ((j_u I (t + 2) ((I t 0).toNatClampNeg) a) t 0)) t 0 (((j_u I (t + 2) ((I t 0).toNatClampNeg) a) t 0) + 1)), (j_u (j_u (j_u (j_u D (t + 1) ((I t 0).toNatClampNeg) x) t 4 (FP.dadd ((j_u D (t + 1) ((I t 0).toNatClampNeg) x) t 4) x)) t 6 x) t 7 x), RR R))
    (v38 : ((I t 0) < 64) → (a = 0) → (((j_u I (t + 2) ((I t 0).toNatClampNeg) a) t 5) = 0) → (dgt (FP.dadd ((j_u D (t + 1) ((I t 0).toNatClampNeg) x) t 4) x) 4786511204640096256 = true) → (¬ ((j_u I (t + 2) ((I t 0).toNatClampNeg) a) t 8) = (-1)) → (dlt x ((j_u D (t + 1) ((I t 0).toNatClampNeg) x) t 6) = true) → (¬ ((j_u I (t + 2) ((I t 0).toNatClampNeg) a) t 9) = (-1)) → (dgt x ((j_u D (t + 1) ((I t 0).toNatClampNeg) x) t 7) = false) → Q none w1 ((j_u (j_u (j_u (j_u I (t + 2) ((I t 0).toNatClampNeg) a) t 5 1) t 8 ((j_u I (t + 2) ((I t 0).toNatClampNeg) a) t 0)) t 0 (((j_u I (t + 2) ((I t 0).toNatClampNeg) a) t 0) + 1)), (j_u (j_u (j_u D (t + 1) ((I t 0).toNatClampNeg) x) t 4 (FP.dadd ((j_u D (t + 1) ((I t 0).toNatClampNeg) x) t 4) x)) t 6 x), RR R))
    (v39 : ((I t 0) < 64) → (a = 0) → (((j_u I (t + 2) ((I t 0).toNatClampNeg) a) t 5) = 0) → (dgt (FP.dadd ((j_u D (t + 1) ((I t 0).toNatClampNeg) x) t 4) x) 4786511204640096256 = true) → (¬ ((j_u I (t + 2) ((I t 0).toNatClampNeg) a) t 8) = (-1)) → (dlt x ((j_u D (t + 1) ((I t 0).toNatClampNeg) x) t 6) = true) → (¬ ((j_u I (t + 2) ((I t 0).toNatClampNeg) a) t 9) = (-1)) → (dgt x ((j_u D (t + 1) ((I t 0).toNatClampNeg) x) t 7) = true) → Q none w1 ((j_u (j_u (j_u (j_u (j_u I (t + 2) ((I t 0).toNatClampNeg) a) t 5 1) t 8 ((j_u I (t + 2) ((I t 0).toNatClampNeg) a) t 0)) t 9 ((j_u I (t + 2) ((I t 0).toNatClampNeg) a) t 0)) t 0 (((j_u I (t + 2) ((I t 0).toNatClampNeg) a) t 0) + 1)), (j_u (j_u (j_u (j_u D (t + 1) ((I t 0).toNatClampNeg) x) t 4 (FP.dadd ((j_u D (t + 1) ((I t 0).toNatClampNeg) x) t 4) x)) t 6 x) t 7 x), RR R))
    (v40 : ((I t 0) < 64) → (a = 0) → (((j_u I (t + 2) ((I t 0).toNatClampNeg) a) t 5) = 0) → (dgt (FP.dadd ((j_u D (t + 1) ((I t 0).toNatClampNeg) x) t 4) x) 4786511204640096256 = false) → (dlt (FP.dadd ((j_u D (t + 1) ((I t 0).toNatClampNeg) x) t 4) x) 14009883241494872064 = false) → (((j_u I (t + 2) ((I t 0).toNatClampNeg) a) t 8) = (-1)) → (((j_u I (t + 2) ((I t 0).toNatClampNeg) a) t 9) = (-1)) → Q none w1 ((j_u (j_u (j_u (j_u I (t + 2) ((I t 0).toNatClampNeg) a) t 8 ((j_u I (t + 2) ((I t 0).toNatClampNeg) a) t 0)) t 9 ((j_u I (t + 2) ((I t 0).toNatClampNeg) a) t 0)) t 0 (((j_u I (t + 2) ((I t 0).toNatClampNeg) a) t 0) + 1)), (j_u (j_u (j_u (j_u D (t + 1) ((I t 0).toNatClampNeg) x) t 4 (FP.dadd ((j_u D (t + 1) ((I t 0).toNatClampNeg) x) t 4) x)) t 6 x) t 7 x), RR R))
    (v41 : ((I t 0) < 64) → (a = 0) → (((j_u I (t + 2) ((I t 0).toNatClampNeg) a) t 5) = 0) → (dgt (FP.dadd ((j_u D (t + 1) ((I t 0).toNatClampNeg) x) t 4) x) 4786511204640096256 = false) → (dlt (FP.dadd ((j_u D (t + 1) ((I t 0).toNatClampNeg) x) t 4) x) 14009883241494872064 = false) → (((j_u I (t + 2) ((I t 0).toNatClampNeg) a) t 8) = (-1)) → (¬ ((j_u I (t + 2) ((I t 0).toNatClampNeg) a) t 9) = (-1)) → (dgt x ((j_u D (t + 1) ((I t 0).toNatClampNeg) x) t 7) = false) → Q none w1 ((j_u (j_u (j_u I (t + 2) ((I t 0).toNatClampNeg) a) t 8 ((j_u I (t + 2) ((I t 0).toNatClampNeg) a) t 0)) t 0 (((j_u I (t + 2) ((I t 0).toNatClampNeg) a) t 0) + 1)), (j_u (j_u (j_u D (t + 1) ((I t 0).toNatClampNeg) x) t 4 (FP.dadd ((j_u D (t + 1) ((I t 0).toNatClampNeg) x) t 4) x)) t 6 x), RR R))
    (v42 : ((I t 0) < 64) → (a = 0) → (((j_u I (t + 2) ((I t 0).toNatClampNeg) a) t 5) = 0) → (dgt (FP.dadd ((j_u D (t + 1) ((I t 0).toNatClampNeg) x) t 4) x) 4786511204640096256 = false) → (dlt (FP.dadd ((j_u D (t + 1) ((I t 0).toNatClampNeg) x) t 4) x) 14009883241494872064 = false) → (((j_u I (t + 2) ((I t 0).toNatClampNeg) a) t 8) = (-1)) → (¬ ((j_u I (t + 2) ((I t 0).toNatClampNeg) a) t 9) = (-1)) → (dgt x ((j_u D (t + 1) ((I t 0).toNatClampNeg) x) t 7) = true) → Q none w1 ((j_u (j_u (j_u (j_u I (t + 2) ((I t 0).toNatClampNeg) a) t 8 ((j_u I (t + 2) ((I t 0).toNatClampNeg) a) t 0)) t 9 ((j_u I (t + 2) ((I t 0).toNatClampNeg) a) t 0)) t 0 (((j_u I (t + 2) ((I t 0).toNatClampNeg) a) t 0) + 1)), (j_u (j_u (j_u (j_u D (t + 1) ((I t 0).toNatClampNeg) x) t 4 (FP.dadd ((j_u D (t + 1) ((I t 0).toNatClampNeg) x) t 4) x)) t 6 x) t 7 x), RR R))
    (v43 : ((I t 0) < 64) → (a = 0) → (((j_u I (t + 2) ((I t 0).toNatClampNeg) a) t 5) = 0) → (dgt (FP.dadd ((j_u D (t + 1) ((I t 0).toNatClampNeg) x) t 4) x) 4786511204640096256 = false) → (dlt (FP.dadd ((j_u D (t + 1) ((I t 0).toNatClampNeg) x) t 4) x) 14009883241494872064 = false) → (¬ ((j_u I (t + 2) ((I t 0).toNatClampNeg) a) t 8) = (-1)) → (dlt x ((j_u D (t + 1) ((I t 0).toNatClampNeg) x) t 6) = false) → (((j_u I (t + 2) ((I t 0).toNatClampNeg) a) t 9) = (-1)) → Q none w1 ((j_u (j_u (j_u I (t + 2) ((I t 0).toNatClampNeg) a) t 9 ((j_u I (t + 2) ((I t 0).toNatClampNeg) a) t 0)) t 0 (((j_u I (t + 2) ((I t 0).toNatClampNeg) a) t 0) + 1)), (j_u (j_u (j_u D (t + 1) ((I t 0).toNatClampNeg) x) t 4 (FP.dadd ((j_u D (t + 1) ((I t 0).toNatClampNeg) x) t 4) x)) t 7 x), RR R))
    (v44 : ((I t 0) < 64) → (a = 0) → (((j_u I (t + 2) ((I t 0).toNatClampNeg) a) t 5) = 0) → (dgt (FP.dadd ((j_u D (t + 1) ((I t 0).toNatClampNeg) x) t 4) x) 4786511204640096256 = false) → (dlt (FP.dadd ((j_u D (t + 1) ((I t 0).toNatClampNeg) x) t 4) x) 14009883241494872064 = false) → (¬ ((j_u I (t + 2) ((I t 0).toNatClampNeg) a) t 8) = (-1)) → (dlt x ((j_u D (t + 1) ((I t 0).toNatClampNeg) x) t 6) = false) → (¬ ((j_u I (t + 2) ((I t 0).toNatClampNeg) a) t 9) = (-1)) → (dgt x ((j_u D (t + 1) ((I t 0).toNatClampNeg) x) t 7) = false) → Q none w1 ((j_u (j_u I (t + 2) ((I t 0).toNatClampNeg) a) t 0 (((j_u I (t + 2) ((I t 0).toNatClampNeg) a) t 0) + 1)), (j_u (j_u D (t + 1) ((I t 0).toNatClampNeg) x) t 4 (FP.dadd ((j_u D (t + 1) ((I t 0).toNatClampNeg) x) t 4) x)), RR R))
    (v45 : ((I t 0) < 64) → (a = 0) → (((j_u I (t + 2) ((I t 0).toNatClampNeg) a) t 5) = 0) → (dgt (FP.dadd ((j_u D (t + 1) ((I t 0).toNatClampNeg) x) t 4) x) 4786511204640096256 = false) → (dlt (FP.dadd ((j_u D (t + 1) ((I t 0).toNatClampNeg) x) t 4) x) 14009883241494872064 = false) → (¬ ((j_u I (t + 2) ((I t 0).toNatClampNeg) a) t 8) = (-1)) → (dlt x ((j_u D (t + 1) ((I t 0).toNatClampNeg) x) t 6) = false) → (¬ ((j_u I (t + 2) ((I t 0).toNatClampNeg) a) t 9) = (-1)) → (dgt x ((j_u D (t + 1) ((I t 0).toNatClampNeg) x) t 7) = true) → Q none w1 ((j_u (j_u (j_u I (t + 2) ((I t 0).toNatClampNeg) a) t 9 ((j_u I (t + 2) ((I t 0).toNatClampNeg) a) t 0)) t 0 (((j_u I (t + 2) ((I t 0).toNatClampNeg) a) t 0) + 1)), (j_u (j_u (j_u D (t + 1) ((I t 0).toNatClampNeg) x) t 4 (FP.dadd ((j_u D (t + 1) ((I t 0).toNatClampNeg) x) t 4) x)) t 7 x), RR R))
    (v46 : ((I t 0) < 64) → (a = 0) → (((j_u I (t + 2) ((I t 0).toNatClampNeg) a) t 5) = 0) → (dgt (FP.dadd ((j_u D (t + 1) ((I t 0).toNatClampNeg) x) t 4) x) 4786511204640096256 = false) → (dlt (FP.dadd ((j_u D (t + 1) ((I t 0).toNatClampNeg) x) t 4) x) 14009883241494872064 = false) → (¬ ((j_u I (t + 2) ((I t 0).toNatClampNeg) a) t 8) = (-1)) → (dlt x ((j_u D (t + 1) ((I t 0).toNatClampNeg) x) t 6) = true) → (((j_u I (t + 2) ((I t 0).toNatClampNeg) a) t 9) = (-1)) → Q none w1 ((j_u (j_u (j_u (j_u I (t + 2) ((I t 0).toNatClampNeg) a) t 8 ((j_u I (t + 2) ((I t 0).toNatClampNeg) a) t 0)) t 9 ((j_u I (t + 2) ((I t 0).toNatClampNeg) a) t 0)) t 0 (((j_u I (t + 2) ((I t 0).toNatClampNeg) a) t 0) + 1)), (j_u (j_u (j_u (j_u D (t + 1) ((I t 0).toNatClampNeg) x) t 4 (FP.dadd ((j_u D (t + 1) ((I t 0).toNatClampNeg) x) t 4) x)) t 6 x) t 7 x), RR R))
    (v47 : ((I t 0) < 64) → (a = 0) → (((j_u I (t + 2) ((I t 0).toNatClampNeg) a) t 5) = 0) → (dgt (FP.dadd ((j_u D (t + 1) ((I t 0).toNatClampNeg) x) t 4) x) 4786511204640096256 = false) → (dlt (FP.dadd ((j_u D (t + 1) ((I t 0).toNatClampNeg) x) t 4) x) 14009883241494872064 = false) → (¬ ((j_u I (t + 2) ((I t 0).toNatClampNeg) a) t 8) = (-1)) → (dlt x ((j_u D (t + 1) ((I t 0).toNatClampNeg) x) t 6) = true) → (¬ ((j_u I (t + 2) ((I t 0).toNatClampNeg) a) t 9) = (-1)) → (dgt x ((j_u D (t + 1) ((I t 0).toNatClampNeg) x) t 7) = false) → Q none w1 ((j_u (j_u (j_u I (t + 2) ((I t 0).toNatClampNeg) a) t 8 ((j_u I (t + 2) ((I t 0).toNatClampNeg) a) t 0)) t 0 (((j_u I (t + 2) ((I t 0).toNatClampNeg) a) t 0) + 1)), (j_u (j_u (j_u D (t + 1) ((I t 0).toNatClampNeg) x) t 4 (FP.dadd ((j_u D (t + 1) ((I t 0).toNatClampNeg) x) t 4) x)) t 6 x), RR R))
    (v48 : ((I t 0) < 64) → (a = 0) → (((j_u I (t + 2) ((I t 0).toNatClampNeg) a) t 5) = 0) → (dgt (FP.dadd ((j_u D (t + 1) ((I t 0).toNatClampNeg) x) t 4) x) 4786511204640096256 = false) → (dlt (FP.dadd ((j_u D (t + 1) ((I t 0).toNatClampNeg) x) t 4) x) 14009883241494872064 = false) → (¬ ((j_u I (t + 2) ((I t 0).toNatClampNeg) a) t 8) = (-1)) → (dlt x ((j_u D (t + 1) ((I t 0).toNatClampNeg) x) t 6) = true) → (¬ ((j_u I (t + 2) ((I t 0).toNatClampNeg) a) t 9) = (-1)) → (dgt x ((j_u D (t + 1) ((I t 0).toNatClampNeg) x) t 7) = true) → Q none w1 ((j_u (j_u (j_u (j_u I (t + 2) ((I t 0).toNatClampNeg) a) t 8 ((j_u I (t + 2) ((I t 0).toNatClampNeg) a) t 0)) t 9 ((j_u I (t + 2) ((I t 0).toNatClampNeg) a) t 0)) t 0 (((j_u I (t + 2) ((I t 0).toNatClampNeg) a) t 0) + 1)), (j_u (j_u (j_u (j_u D (t + 1) ((I t 0).toNatClampNeg) x) t 4 (FP.dadd ((j_u D (t + 1) ((I t 0).toNatClampNeg) x) t 4) x)) t 6 x) t 7 x), RR R))
    (v49 : ((I t 0) < 64) → (a = 0) → (((j_u I (t + 2) ((I t 0).toNatClampNeg) a) t 5) = 0) → (dgt (FP.dadd ((j_u D (t + 1) ((I t 0).toNatClampNeg) x) t 4) x) 4786511204640096256 = false) → (dlt (FP.dadd ((j_u D (t + 1) ((I t 0).toNatClampNeg) x) t 4) x) 14009883241494872064 = true) → (((j_u I (t + 2) ((I t 0).toNatClampNeg) a) t 8) = (-1)) → (((j_u I (t + 2) ((I t 0).toNatClampNeg) a) t 9) = (-1)) → Q none w1 ((j_u (j_u (j_u (j_u (j_u I (t + 2) ((I t 0).toNatClampNeg) a) t 5 1) t 8 ((j_u I (t + 2) ((I t 0).toNatClampNeg) a) t 0)) t 9 ((j_u I (t + 2) ((I t 0).toNatClampNeg) a) t 0)) t 0 (((j_u I (t + 2) ((I t 0).toNatClampNeg) a) t 0) + 1)), (j_u (j_u (j_u (j_u D (t + 1) ((I t 0).toNatClampNeg) x) t 4 (FP.dadd ((j_u D (t + 1) ((I t 0).toNatClampNeg) x) t 4) x)) t 6 x) t 7 x), RR R))
    (v50 : ((I t 0) < 64) → (a = 0) → (((j_u I (t + 2) ((I t 0).toNatClampNeg) a) t 5) = 0) → (dgt (FP.dadd ((j_u D (t + 1) ((I t 0).toNatClampNeg) x) t 4) x) 4786511204640096256 = false) → (dlt (FP.dadd ((j_u D (t + 1) ((I t 0).toNatClampNeg) x) t 4) x) 14009883241494872064 = true) → (((j_u I (t + 2) ((I t 0).toNatClampNeg) a) t 8) = (-1)) → (¬ ((j_u I (t + 2) ((I t 0).toNatClampNeg) a) t 9) = (-1)) → (dgt x ((j_u D (t + 1) ((I t 0).toNatClampNeg) x) t 7) = false) → Q none w1 ((j_u (j_u (j_u (j_u I (t + 2) ((I t 0).toNatClampNeg) a) t 5 1) t 8 ((j_u I (t + 2) ((I t 0).toNatClampNeg) a) t 0)) t 0 (((j_u I (t + 2) ((I t 0).toNatClampNeg) a) t 0) + 1)), (j_u (j_u (j_u D (t + 1) ((I t 0).toNatClampNeg) x) t 4 (FP.dadd ((j_u D (t + 1) ((I t 0).toNatClampNeg) x) t 4) x)) t 6 x), RR R))
    (v51 : ((I t 0) < 64) → (a = 0) → (((j_u I (t + 2) ((I t 0).toNatClampNeg) a) t 5) = 0) → (dgt (FP.dadd ((j_u D (t + 1) ((I t 0).toNatClampNeg) x) t 4) x) 4786511204640096256 = false) → (dlt (FP.dadd ((j_u D (t + 1) ((I t 0).toNatClampNeg) x) t 4) x) 14009883241494872064 = true) → (((j_u I (t + 2) ((I t 0).toNatClampNeg) a) t 8) = (-1)) → (¬ ((j_u I (t + 2) ((I t 0).toNatClampNeg) a) t 9) = (-1)) → (dgt x ((j_u D (t + 1) ((I t 0).toNatClampNeg) x) t 7) = true) → Q none w1 ((j_u (j_u (j_u (j_u (j_u I (t + 2) ((I t 0).toNatClampNeg) a) t 5 1) t 8 ((j_u I (t + 2) ((I t 0).toNatClampNeg) a) t 0)) t 9 ((j_u I (t + 2) ((I t 0).toNatClampNeg) a) t 0)) t 0 (((j_u I (t + 2) ((I t 0).toNatClampNeg) a) t 0) + 1)), (j_u (j_u (j_u (j_u D (t + 1) ((I t 0).toNatClampNeg) x) t 4 (FP.dadd ((j_u D (t + 1) ((I t 0).toNatClampNeg) x) t 4) x)) t 6 x) t 7 x), RR R))
    (v52 : ((I t 0) < 64) → (a = 0) → (((j_u I (t + 2) ((I t 0).toNatClampNeg) a) t 5) = 0) → (dgt (FP.dadd ((j_u D (t + 1) ((I t 0).toNatClampNeg) x) t 4) x) 4786511204640096256 = false) → (dlt (FP.dadd ((j_u D (t + 1) ((I t 0).toNatClampNeg) x) t 4) x) 14009883241494872064 = true) → (¬ ((j_u I (t + 2) ((I t 0).toNatClampNeg) a) t 8) = (-1)) → (dlt x ((j_u D (t + 1) ((I t 0).toNatClampNeg) x) t 6) = false) → (((j_u I (t + 2) ((I t 0).toNatClampNeg) a) t 9) = (-1)) → Q none w1 ((j_u (j_u (j_u (j_u I (t + 2) ((I t 0).toNatClampNeg) a) t 5 1) t 9 ((j_u I (t + 2) ((I t 0).toNatClampNeg) a) t 0)) t 0 (((j_u I (t + 2) ((I t 0).toNatClampNeg) a) t 0) + 1)), (j_u (j_u (j_u D (t + 1) ((I t 0).toNatClampNeg) x) t 4 (FP.dadd ((j_u D (t + 1) ((I t 0).toNatClampNeg) x) t 4) x)) t 7 x), RR R))
    (v53 : ((I t 0) < 64) → (a = 0) → (((j_u I (t + 2) ((I t 0).toNatClampNeg) a) t 5) = 0) → (dgt (FP.dadd ((j_u D (t + 1) ((I t 0).toNatClampNeg) x) t 4) x) 4786511204640096256 = false) → (dlt (FP.dadd ((j_u D (t + 1) ((I t 0).toNatClampNeg) x) t 4) x) 14009883241494872064 = true) → (¬ ((j_u I (t + 2) ((I t 0).toNatClampNeg) a) t 8) = (-1)) → (dlt x ((j_u D (t + 1) ((I t 0).toNatClampNeg) x) t 6) = false) → (¬ ((j_u I (t + 2) ((I t 0).toNatClampNeg) a) t 9) = (-1)) → (dgt x ((j_u D (t + 1) ((I t 0).toNatClampNeg) x) t 7) = false) → Q none w1 ((j_u (j_u (j_u I (t + 2) ((I t 0).toNatClampNeg) a) t 5 1) t 0 (((j_u I (t + 2) ((I t 0).toNatClampNeg) a) t 0) + 1)), (j_u (j_u D (t + 1) ((I t 0).toNatClampNeg) x) t 4 (FP.dadd ((j_u D (t + 1) ((I t 0).toNatClampNeg) x) t 4) x)), RR R))
    (v54 : ((I t 0) < 64) → (a = 0) → (((j_u I (t + 2) ((I t 0).toNatClampNeg) a) t 5) = 0) → (dgt (FP.dadd ((j_u D (t + 1) ((I t 0).toNatClampNeg) x) t 4) x) 4786511204640096256 = false) → (dlt (FP.dadd ((j_u D (t + 1) ((I t 0).toNatClampNeg) x) t 4) x) 14009883241494872064 = true) → (¬ ((j_u I (t + 2) ((I t 0).toNatClampNeg) a) t 8) = (-1)) → (dlt x ((j_u D (t + 1) ((I t 0).toNatClampNeg) x) t 6) = false) → (¬ ((j_u I (t + 2) ((I t 0).toNatClampNeg) a) t 9) = (-1)) → (dgt x ((j_u D (t + 1) ((I t 0).toNatClampNeg) x) t 7) = true) → Q none w1 ((j_u (j_u (j_u (j_u I (t + 2) ((I t 0).toNatClampNeg) a) t 5 1) t 9 ((j_u I (t + 2) ((I t 0).toNatClampNeg) a) t 0)) t 0 (((j_u I (t + 2) ((I t 0).toNatClampNeg) a) t 0) + 1)), (j_u (j_u (j_u D (t + 1) ((I t 0).toNatClampNeg) x) t 4 (FP.dadd ((j_u D (t + 1) ((I t 0).toNatClampNeg) x) t 4) x)) t 7 x), RR R))
    (v55 : ((I t 0) < 64) → (a = 0) → (((j_u I (t + 2) ((I t 0).toNatClampNeg) a) t 5) = 0) → (dgt (FP.dadd ((j_u D (t + 1) ((I t 0).toNatClampNeg) x) t 4) x) 4786511204640096256 = false) → (dlt (FP.dadd ((j_u D (t + 1) ((I t 0).toNatClampNeg) x) t 4) x) 14009883241494872064 = true) → (¬ ((j_u I (t + 2) ((I t 0).toNatClampNeg) a) t 8) = (-1)) → (dlt x ((j_u D (t + 1) ((I t 0).toNatClampNeg) x) t 6) = true) → (((j_u I (t + 2) ((I t 0).toNatClampNeg) a) t 9) = (-1)) → Q none w1 ((j_u (j_u (j_u (j_u (j_u I (t + 2) ((I t 0).toNatClampNeg) a) t 5 1) t 8 ((j_u I (t + 2) ((I t 0).toNatClampNeg) a) t 0)) t 9 ((j_u I (t + 2) ((I t 0).toNatClampNeg) a) t 0)) t 0 (((j_u I (t + 2) ((I t 0).toNatClampNeg) a) t 0) + 1)), (j_u (j_u (j_u (j_u D (t + 1) ((I t 0).toNatClampNeg) x) t 4 (FP.dadd ((j_u D (t + 1) ((I t 0).toNatClampNeg) x) t 4) x)) t 6 x) t 7 x), RR R))
    (v56 : ((I t 0) < 64) → (a = 0) → (((j_u I (t + 2) ((I t 0).toNatClampNeg) a) t 5) = 0) → (dgt (FP.dadd ((j_u D (t + 1) ((I t 0).toNatClampNeg) x) t 4) x) 4786511204640096256 = false) → (dlt (FP.dadd ((j_u D (t + 1) ((I t 0).toNatClampNeg) x) t 4) x) 14009883241494872064 = true) → (¬ ((j_u I (t + 2) ((I t 0).toNatClampNeg) a) t 8) = (-1)) → (dlt x ((j_u D (t + 1) ((I t 0).toNatClampNeg) x) t 6) = true) → (¬ ((j_u I (t + 2) ((I t 0).toNatClampNeg) a) t 9) = (-1)) → (dgt x ((j_u D (t + 1) ((I t 0).toNatClampNeg) x) t 7) = false) → Q none w1 ((j_u (j_u (j_u (j_u I (t + 2) ((I t 0).toNatClampNeg) a) t 5 1) t 8 ((j_u I (t + 2) ((I t 0).toNatClampNeg) a) t 0)) t 0 (((j_u I (t + 2) ((I t 0).toNatClampNeg) a) t 0) + 1)), (j_u (j_u (j_u D (t + 1) ((I t 0).toNatClampNeg) x) t 4 (FP.dadd ((j_u D (t + 1) ((I t 0).toNatClampNeg) x) t 4) x)) t 6 x), RR R))
    (v57 : ((I t 0) < 64) → (a = 0) → (((j_u I (t + 2) ((I t 0).toNatClampNeg) a) t 5) = 0) → (dgt (FP.dadd ((j_u D (t + 1) ((I t 0).toNatClampNeg) x) t 4) x) 4786511204640096256 = false) → (dlt (FP.dadd ((j_u D (t + 1) ((I t 0).toNatClampNeg) x) t 4) x) 14009883241494872064 = true) → (¬ ((j_u I (t + 2) ((I t 0).toNatClampNeg) a) t 8) = (-1)) → (dlt x ((j_u D (t + 1) ((I t 0).toNatClampNeg) x) t 6) = true) → (¬ ((j_u I (t + 2) ((I t 0).toNatClampNeg) a) t 9) = (-1)) → (dgt x ((j_u D (t + 1) ((I t 0).toNatClampNeg) x) t 7) = true) → Q none w1 ((j_u (j_u (j_u (j_u (j_u I (t + 2) ((I t 0).toNatClampNeg) a) t 5 1) t 8 ((j_u I (t + 2) ((I t 0).toNatClampNeg) a) t 0)) t 9 ((j_u I (t + 2) ((I t 0).toNatClampNeg) a) t 0)) t 0 (((j_u I (t + 2) ((I t 0).toNatClampNeg) a) t 0) + 1)), (j_u (j_u (j_u (j_u D (t + 1) ((I t 0).toNatClampNeg) x) t 4 (FP.dadd ((j_u D (t + 1) ((I t 0).toNatClampNeg) x) t 4) x)) t 6 x) t 7 x), RR R))
    (v58 : (¬ (I t 0) < 64) → Q none w1 (I, D, RR R)) : j_Call d 46 [.ref t, .double x, .int a] w1 (I, D, RR R) 0 0 Q := by
  refine q_enter (L := [some (.ref t), some (.double x), none, some (.int a)]) j_m46 (Nat.le_of_ble_eq_true rfl) rfl ?_
  refine q_aload_n d46_0 rfl ?_
  refine q_getI d46_1 (fs7_19 46 rfl) rfl (isTl_lt ht) (isTl_sh ht) ?_
  refine q_bipush (v := 64) (by decide) d46_4 ?_
  refine q_icmp_lt (tgt := 10) d46_6 rfl (fun h1t => ?_) (fun h1f => ?_)
  ·
    refine q_aload_n d46_10 rfl ?_
    refine q_getR (x := (t + 1)) d46_11 (fs7_9 46 rfl) rfl (isTl_lt ht) (isTl_sh ht) (isTl_r1 R ht) (lt1000 (isTl_lt1 ht)) ?_
    refine q_aload_n d46_14 rfl ?_
    refine q_getI d46_15 (fs7_19 46 rfl) rfl (isTl_lt ht) (isTl_sh ht) ?_
    refine q_dload_n d46_18 rfl ?_
    have g2 := ix_of (v1 h1t) (by decide)
    refine q_dastore (a := (I t 0).toNatClampNeg) d46_19 (isTl_lt1 ht) (isTl_sh1 ht) g2.1 g2.2 ?_
    refine q_aload_n d46_20 rfl ?_
    refine q_getR (x := (t + 2)) d46_21 (fs7_15 46 rfl) rfl (isTl_lt ht) (isTl_sh ht) (isTl_r2 R ht) (lt1000 (isTl_lt2 ht)) ?_
    refine q_aload_n d46_24 rfl ?_
    refine q_getI d46_25 (fs7_19 46 rfl) rfl (isTl_lt ht) (isTl_sh ht) ?_
    refine q_iload_n d46_28 rfl ?_
    have g3 := ix_of (v1 h1t) (by decide)
    refine q_iastore (a := (I t 0).toNatClampNeg) d46_29 (isTl_lt2 ht) (isTl_sh2 ht) g3.1 g3.2 ?_
    refine q_iload_n d46_30 rfl ?_
    refine q_if_ne (tgt := 42) d46_31 rfl (fun h4t => ?_) (fun h4f => ?_)
    ·
      refine q_aload_n d46_42 rfl ?_
      refine q_dup rfl d46_43 ?_
      refine q_getI d46_44 (fs7_23 46 rfl) rfl (isTl_lt ht) (isTl_sh ht) ?_
      refine q_iconst (v := 1) (by decide) d46_47 ?_
      refine q_iadd d46_48 ?_
      refine q_putI d46_49 (fs7_23 46 rfl) (Or.inl rfl) rfl (isTl_lt ht) (isTl_sh ht) ?_
      refine q_aload_n d46_52 rfl ?_
      refine q_dup rfl d46_53 ?_
      refine q_getI d46_54 (fs7_19 46 rfl) rfl (isTl_lt ht) (isTl_sh ht) ?_
      refine r_int (y := ((j_u I (t + 2) ((I t 0).toNatClampNeg) a) t 0)) (show (j_u (j_u I (t + 2) ((I t 0).toNatClampNeg) a) t 3 (((j_u I (t + 2) ((I t 0).toNatClampNeg) a) t 3) + 1)) t 0 = ((j_u I (t + 2) ((I t 0).toNatClampNeg) a) t 0) from (j_u_k _ _ (by decide))) ?_
      refine q_iconst (v := 1) (by decide) d46_57 ?_
      refine q_iadd d46_58 ?_
      refine q_putI d46_59 (fs7_19 46 rfl) (Or.inl rfl) rfl (isTl_lt ht) (isTl_sh ht) ?_
      exact q_ret d46_62 rfl (Nat.le_refl _) (Nat.le_refl _) (v2 h1t h4t)
    ·
      refine q_aload_n d46_34 rfl ?_
      refine q_dload_n d46_35 rfl ?_
      refine q_invV (o := t) (ci := 7) (av := [.double x]) (rest := []) (d' := 0) (mc' := 0) (ms' := 0) d46_36 (cv7_46 46 rfl) rfl (by decide) rfl rfl (by omega) (Nat.le_of_ble_eq_true rfl) (Nat.le_of_ble_eq_true rfl) (isTl_lt ht) (isTl_sh ht) (Nat.le_refl _) (Nat.le_refl _) ?_
      refine s47 (t := t) ht (Nat.le_refl _) (fun c5 c6 c7 c8 => ?_) (fun c9 c10 c11 c12 c13 => ?_) (fun c14 c15 c16 c17 c18 => ?_) (fun c19 c20 c21 c22 c23 => ?_) (fun c24 c25 c26 c27 c28 c29 => ?_) (fun c30 c31 c32 c33 c34 c35 => ?_) (fun c36 c37 c38 c39 c40 => ?_) (fun c41 c42 c43 c44 c45 c46 => ?_) (fun c47 c48 c49 c50 c51 c52 => ?_) (fun c53 c54 c55 c56 c57 => ?_) (fun c58 c59 c60 c61 c62 c63 => ?_) (fun c64 c65 c66 c67 c68 c69 => ?_) (fun c70 c71 c72 c73 c74 c75 => ?_) (fun c76 c77 c78 c79 c80 c81 c82 => ?_) (fun c83 c84 c85 c86 c87 c88 c89 => ?_) (fun c90 c91 c92 c93 c94 c95 => ?_) (fun c96 c97 c98 c99 c100 c101 c102 => ?_) (fun c103 c104 c105 c106 c107 c108 c109 => ?_) (fun c110 c111 c112 c113 c114 => ?_) (fun c115 c116 c117 c118 c119 c120 => ?_) (fun c121 c122 c123 c124 c125 c126 => ?_) (fun c127 c128 c129 c130 c131 c132 => ?_) (fun c133 c134 c135 c136 c137 c138 c139 => ?_) (fun c140 c141 c142 c143 c144 c145 c146 => ?_) (fun c147 c148 c149 c150 c151 c152 => ?_) (fun c153 c154 c155 c156 c157 c158 c159 => ?_) (fun c160 c161 c162 c163 c164 c165 c166 => ?_) (v3 h1t h4f) (fun c168 c169 c170 c171 => ?_) (fun c172 c173 c174 c175 c176 => ?_) (fun c177 c178 c179 c180 c181 => ?_) (fun c182 c183 c184 c185 c186 => ?_) (fun c187 c188 c189 c190 c191 c192 => ?_) (fun c193 c194 c195 c196 c197 c198 => ?_) (fun c199 c200 c201 c202 c203 => ?_) (fun c204 c205 c206 c207 c208 c209 => ?_) (fun c210 c211 c212 c213 c214 c215 => ?_) (fun c216 c217 c218 c219 c220 => ?_) (fun c221 c222 c223 c224 c225 c226 => ?_) (fun c227 c228 c229 c230 c231 c232 => ?_) (fun c233 c234 c235 c236 c237 c238 => ?_) (fun c239 c240 c241 c242 c243 c244 c245 => ?_) (fun c246 c247 c248 c249 c250 c251 c252 => ?_) (fun c253 c254 c255 c256 c257 c258 => ?_) (fun c259 c260 c261 c262 c263 c264 c265 => ?_) (fun c266 c267 c268 c269 c270 c271 c272 => ?_) (fun c273 c274 c275 c276 c277 => ?_) (fun c278 c279 c280 c281 c282 c283 => ?_) (fun c284 c285 c286 c287 c288 c289 => ?_) (fun c290 c291 c292 c293 c294 c295 => ?_) (fun c296 c297 c298 c299 c300 c301 c302 => ?_) (fun c303 c304 c305 c306 c307 c308 c309 => ?_) (fun c310 c311 c312 c313 c314 c315 => ?_) (fun c316 c317 c318 c319 c320 c321 c322 => ?_) (fun c323 c324 c325 c326 c327 c328 c329 => ?_)
      ·
        show j_W 46 d 0 0 0 0 39 [some (.ref t), some (.double x), none, some (.int a)] [] w1 ((j_u (j_u (j_u (j_u I (t + 2) ((I t 0).toNatClampNeg) a) t 5 1) t 8 ((j_u I (t + 2) ((I t 0).toNatClampNeg) a) t 0)) t 9 ((j_u I (t + 2) ((I t 0).toNatClampNeg) a) t 0)), (j_u (j_u (j_u D (t + 1) ((I t 0).toNatClampNeg) x) t 6 x) t 7 x), RR R) Q
        refine q_goto (tgt := 52) d46_39 rfl ?_
        refine q_aload_n d46_52 rfl ?_
        refine q_dup rfl d46_53 ?_
        refine q_getI d46_54 (fs7_19 46 rfl) rfl (isTl_lt ht) (isTl_sh ht) ?_
        refine r_int (y := ((j_u I (t + 2) ((I t 0).toNatClampNeg) a) t 0)) (show (j_u (j_u (j_u (j_u I (t + 2) ((I t 0).toNatClampNeg) a) t 5 1) t 8 ((j_u I (t + 2) ((I t 0).toNatClampNeg) a) t 0)) t 9 ((j_u I (t + 2) ((I t 0).toNatClampNeg) a) t 0)) t 0 = ((j_u I (t + 2) ((I t 0).toNatClampNeg) a) t 0) from ((j_u_k _ _ (by decide)).trans ((j_u_k _ _ (by decide)).trans (j_u_k _ _ (by decide))))) ?_
        refine q_iconst (v := 1) (by decide) d46_57 ?_
        refine q_iadd d46_58 ?_
        refine q_putI d46_59 (fs7_19 46 rfl) (Or.inl rfl) rfl (isTl_lt ht) (isTl_sh ht) ?_
        exact q_ret d46_62 rfl (Nat.le_refl _) (Nat.le_refl _) (v4 h1t h4f c5 c6 c7 c8)
      ·
        show j_W 46 d 0 0 0 0 39 [some (.ref t), some (.double x), none, some (.int a)] [] w1 ((j_u (j_u (j_u I (t + 2) ((I t 0).toNatClampNeg) a) t 5 1) t 8 ((j_u I (t + 2) ((I t 0).toNatClampNeg) a) t 0)), (j_u (j_u D (t + 1) ((I t 0).toNatClampNeg) x) t 6 x), RR R) Q
        refine q_goto (tgt := 52) d46_39 rfl ?_
        refine q_aload_n d46_52 rfl ?_
        refine q_dup rfl d46_53 ?_
        refine q_getI d46_54 (fs7_19 46 rfl) rfl (isTl_lt ht) (isTl_sh ht) ?_
        refine r_int (y := ((j_u I (t + 2) ((I t 0).toNatClampNeg) a) t 0)) (show (j_u (j_u (j_u I (t + 2) ((I t 0).toNatClampNeg) a) t 5 1) t 8 ((j_u I (t + 2) ((I t 0).toNatClampNeg) a) t 0)) t 0 = ((j_u I (t + 2) ((I t 0).toNatClampNeg) a) t 0) from ((j_u_k _ _ (by decide)).trans (j_u_k _ _ (by decide)))) ?_
        refine q_iconst (v := 1) (by decide) d46_57 ?_
        refine q_iadd d46_58 ?_
        refine q_putI d46_59 (fs7_19 46 rfl) (Or.inl rfl) rfl (isTl_lt ht) (isTl_sh ht) ?_
        exact q_ret d46_62 rfl (Nat.le_refl _) (Nat.le_refl _) (v5 h1t h4f c9 c10 c11 c12 c13)
      ·
        show j_W 46 d 0 0 0 0 39 [some (.ref t), some (.double x), none, some (.int a)] [] w1 ((j_u (j_u (j_u (j_u I (t + 2) ((I t 0).toNatClampNeg) a) t 5 1) t 8 ((j_u I (t + 2) ((I t 0).toNatClampNeg) a) t 0)) t 9 ((j_u I (t + 2) ((I t 0).toNatClampNeg) a) t 0)), (j_u (j_u (j_u D (t + 1) ((I t 0).toNatClampNeg) x) t 6 x) t 7 x), RR R) Q
        refine q_goto (tgt := 52) d46_39 rfl ?_
        refine q_aload_n d46_52 rfl ?_
        refine q_dup rfl d46_53 ?_
        refine q_getI d46_54 (fs7_19 46 rfl) rfl (isTl_lt ht) (isTl_sh ht) ?_
        refine r_int (y := ((j_u I (t + 2) ((I t 0).toNatClampNeg) a) t 0)) (show (j_u (j_u (j_u (j_u I (t + 2) ((I t 0).toNatClampNeg) a) t 5 1) t 8 ((j_u I (t + 2) ((I t 0).toNatClampNeg) a) t 0)) t 9 ((j_u I (t + 2) ((I t 0).toNatClampNeg) a) t 0)) t 0 = ((j_u I (t + 2) ((I t 0).toNatClampNeg) a) t 0) from ((j_u_k _ _ (by decide)).trans ((j_u_k _ _ (by decide)).trans (j_u_k _ _ (by decide))))) ?_
        refine q_iconst (v := 1) (by decide) d46_57 ?_
        refine q_iadd d46_58 ?_
        refine q_putI d46_59 (fs7_19 46 rfl) (Or.inl rfl) rfl (isTl_lt ht) (isTl_sh ht) ?_
        exact q_ret d46_62 rfl (Nat.le_refl _) (Nat.le_refl _) (v6 h1t h4f c14 c15 c16 c17 c18)
      ·
        show j_W 46 d 0 0 0 0 39 [some (.ref t), some (.double x), none, some (.int a)] [] w1 ((j_u (j_u (j_u I (t + 2) ((I t 0).toNatClampNeg) a) t 5 1) t 9 ((j_u I (t + 2) ((I t 0).toNatClampNeg) a) t 0)), (j_u (j_u D (t + 1) ((I t 0).toNatClampNeg) x) t 7 x), RR R) Q
        refine q_goto (tgt := 52) d46_39 rfl ?_
        refine q_aload_n d46_52 rfl ?_
        refine q_dup rfl d46_53 ?_
        refine q_getI d46_54 (fs7_19 46 rfl) rfl (isTl_lt ht) (isTl_sh ht) ?_
        refine r_int (y := ((j_u I (t + 2) ((I t 0).toNatClampNeg) a) t 0)) (show (j_u (j_u (j_u I (t + 2) ((I t 0).toNatClampNeg) a) t 5 1) t 9 ((j_u I (t + 2) ((I t 0).toNatClampNeg) a) t 0)) t 0 = ((j_u I (t + 2) ((I t 0).toNatClampNeg) a) t 0) from ((j_u_k _ _ (by decide)).trans (j_u_k _ _ (by decide)))) ?_
        refine q_iconst (v := 1) (by decide) d46_57 ?_
        refine q_iadd d46_58 ?_
        refine q_putI d46_59 (fs7_19 46 rfl) (Or.inl rfl) rfl (isTl_lt ht) (isTl_sh ht) ?_
        exact q_ret d46_62 rfl (Nat.le_refl _) (Nat.le_refl _) (v7 h1t h4f c19 c20 c21 c22 c23)
      ·
        show j_W 46 d 0 0 0 0 39 [some (.ref t), some (.double x), none, some (.int a)] [] w1 ((j_u (j_u I (t + 2) ((I t 0).toNatClampNeg) a) t 5 1), (j_u D (t + 1) ((I t 0).toNatClampNeg) x), RR R) Q
        refine q_goto (tgt := 52) d46_39 rfl ?_
        refine q_aload_n d46_52 rfl ?_
        refine q_dup rfl d46_53 ?_
        refine q_getI d46_54 (fs7_19 46 rfl) rfl (isTl_lt ht) (isTl_sh ht) ?_
        refine r_int (y := ((j_u I (t + 2) ((I t 0).toNatClampNeg) a) t 0)) (show (j_u (j_u I (t + 2) ((I t 0).toNatClampNeg) a) t 5 1) t 0 = ((j_u I (t + 2) ((I t 0).toNatClampNeg) a) t 0) from (j_u_k _ _ (by decide))) ?_
        refine q_iconst (v := 1) (by decide) d46_57 ?_
        refine q_iadd d46_58 ?_
        refine q_putI d46_59 (fs7_19 46 rfl) (Or.inl rfl) rfl (isTl_lt ht) (isTl_sh ht) ?_
        exact q_ret d46_62 rfl (Nat.le_refl _) (Nat.le_refl _) (v8 h1t h4f c24 c25 c26 c27 c28 c29)
      ·
        show j_W 46 d 0 0 0 0 39 [some (.ref t), some (.double x), none, some (.int a)] [] w1 ((j_u (j_u (j_u I (t + 2) ((I t 0).toNatClampNeg) a) t 5 1) t 9 ((j_u I (t + 2) ((I t 0).toNatClampNeg) a) t 0)), (j_u (j_u D (t + 1) ((I t 0).toNatClampNeg) x) t 7 x), RR R) Q
        refine q_goto (tgt := 52) d46_39 rfl ?_
        refine q_aload_n d46_52 rfl ?_
        refine q_dup rfl d46_53 ?_
        refine q_getI d46_54 (fs7_19 46 rfl) rfl (isTl_lt ht) (isTl_sh ht) ?_
        refine r_int (y := ((j_u I (t + 2) ((I t 0).toNatClampNeg) a) t 0)) (show (j_u (j_u (j_u I (t + 2) ((I t 0).toNatClampNeg) a) t 5 1) t 9 ((j_u I (t + 2) ((I t 0).toNatClampNeg) a) t 0)) t 0 = ((j_u I (t + 2) ((I t 0).toNatClampNeg) a) t 0) from ((j_u_k _ _ (by decide)).trans (j_u_k _ _ (by decide)))) ?_
        refine q_iconst (v := 1) (by decide) d46_57 ?_
        refine q_iadd d46_58 ?_
        refine q_putI d46_59 (fs7_19 46 rfl) (Or.inl rfl) rfl (isTl_lt ht) (isTl_sh ht) ?_
        exact q_ret d46_62 rfl (Nat.le_refl _) (Nat.le_refl _) (v9 h1t h4f c30 c31 c32 c33 c34 c35)
      ·
        show j_W 46 d 0 0 0 0 39 [some (.ref t), some (.double x), none, some (.int a)] [] w1 ((j_u (j_u (j_u (j_u I (t + 2) ((I t 0).toNatClampNeg) a) t 5 1) t 8 ((j_u I (t + 2) ((I t 0).toNatClampNeg) a) t 0)) t 9 ((j_u I (t + 2) ((I t 0).toNatClampNeg) a) t 0)), (j_u (j_u (j_u D (t + 1) ((I t 0).toNatClampNeg) x) t 6 x) t 7 x), RR R) Q
        refine q_goto (tgt := 52) d46_39 rfl ?_
        refine q_aload_n d46_52 rfl ?_
        refine q_dup rfl d46_53 ?_
        refine q_getI d46_54 (fs7_19 46 rfl) rfl (isTl_lt ht) (isTl_sh ht) ?_
        refine r_int (y := ((j_u I (t + 2) ((I t 0).toNatClampNeg) a) t 0)) (show (j_u (j_u (j_u (j_u I (t + 2) ((I t 0).toNatClampNeg) a) t 5 1) t 8 ((j_u I (t + 2) ((I t 0).toNatClampNeg) a) t 0)) t 9 ((j_u I (t + 2) ((I t 0).toNatClampNeg) a) t 0)) t 0 = ((j_u I (t + 2) ((I t 0).toNatClampNeg) a) t 0) from ((j_u_k _ _ (by decide)).trans ((j_u_k _ _ (by decide)).trans (j_u_k _ _ (by decide))))) ?_
        refine q_iconst (v := 1) (by decide) d46_57 ?_
        refine q_iadd d46_58 ?_
        refine q_putI d46_59 (fs7_19 46 rfl) (Or.inl rfl) rfl (isTl_lt ht) (isTl_sh ht) ?_
        exact q_ret d46_62 rfl (Nat.le_refl _) (Nat.le_refl _) (v10 h1t h4f c36 c37 c38 c39 c40)
      ·
        show j_W 46 d 0 0 0 0 39 [some (.ref t), some (.double x), none, some (.int a)] [] w1 ((j_u (j_u (j_u I (t + 2) ((I t 0).toNatClampNeg) a) t 5 1) t 8 ((j_u I (t + 2) ((I t 0).toNatClampNeg) a) t 0)), (j_u (j_u D (t + 1) ((I t 0).toNatClampNeg) x) t 6 x), RR R) Q
        refine q_goto (tgt := 52) d46_39 rfl ?_
        refine q_aload_n d46_52 rfl ?_
        refine q_dup rfl d46_53 ?_
        refine q_getI d46_54 (fs7_19 46 rfl) rfl (isTl_lt ht) (isTl_sh ht) ?_
        refine r_int (y := ((j_u I (t + 2) ((I t 0).toNatClampNeg) a) t 0)) (show (j_u (j_u (j_u I (t + 2) ((I t 0).toNatClampNeg) a) t 5 1) t 8 ((j_u I (t + 2) ((I t 0).toNatClampNeg) a) t 0)) t 0 = ((j_u I (t + 2) ((I t 0).toNatClampNeg) a) t 0) from ((j_u_k _ _ (by decide)).trans (j_u_k _ _ (by decide)))) ?_
        refine q_iconst (v := 1) (by decide) d46_57 ?_
        refine q_iadd d46_58 ?_
        refine q_putI d46_59 (fs7_19 46 rfl) (Or.inl rfl) rfl (isTl_lt ht) (isTl_sh ht) ?_
        exact q_ret d46_62 rfl (Nat.le_refl _) (Nat.le_refl _) (v11 h1t h4f c41 c42 c43 c44 c45 c46)
      ·
        show j_W 46 d 0 0 0 0 39 [some (.ref t), some (.double x), none, some (.int a)] [] w1 ((j_u (j_u (j_u (j_u I (t + 2) ((I t 0).toNatClampNeg) a) t 5 1) t 8 ((j_u I (t + 2) ((I t 0).toNatClampNeg) a) t 0)) t 9 ((j_u I (t + 2) ((I t 0).toNatClampNeg) a) t 0)), (j_u (j_u (j_u D (t + 1) ((I t 0).toNatClampNeg) x) t 6 x) t 7 x), RR R) Q
        refine q_goto (tgt := 52) d46_39 rfl ?_
        refine q_aload_n d46_52 rfl ?_
        refine q_dup rfl d46_53 ?_
        refine q_getI d46_54 (fs7_19 46 rfl) rfl (isTl_lt ht) (isTl_sh ht) ?_
        refine r_int (y := ((j_u I (t + 2) ((I t 0).toNatClampNeg) a) t 0)) (show (j_u (j_u (j_u (j_u I (t + 2) ((I t 0).toNatClampNeg) a) t 5 1) t 8 ((j_u I (t + 2) ((I t 0).toNatClampNeg) a) t 0)) t 9 ((j_u I (t + 2) ((I t 0).toNatClampNeg) a) t 0)) t 0 = ((j_u I (t + 2) ((I t 0).toNatClampNeg) a) t 0) from ((j_u_k _ _ (by decide)).trans ((j_u_k _ _ (by decide)).trans (j_u_k _ _ (by decide))))) ?_
        refine q_iconst (v := 1) (by decide) d46_57 ?_
        refine q_iadd d46_58 ?_
        refine q_putI d46_59 (fs7_19 46 rfl) (Or.inl rfl) rfl (isTl_lt ht) (isTl_sh ht) ?_
        exact q_ret d46_62 rfl (Nat.le_refl _) (Nat.le_refl _) (v12 h1t h4f c47 c48 c49 c50 c51 c52)
      ·
        show j_W 46 d 0 0 0 0 39 [some (.ref t), some (.double x), none, some (.int a)] [] w1 ((j_u (j_u (j_u I (t + 2) ((I t 0).toNatClampNeg) a) t 8 ((j_u I (t + 2) ((I t 0).toNatClampNeg) a) t 0)) t 9 ((j_u I (t + 2) ((I t 0).toNatClampNeg) a) t 0)), (j_u (j_u (j_u D (t + 1) ((I t 0).toNatClampNeg) x) t 6 x) t 7 x), RR R) Q
        refine q_goto (tgt := 52) d46_39 rfl ?_
        refine q_aload_n d46_52 rfl ?_
        refine q_dup rfl d46_53 ?_
        refine q_getI d46_54 (fs7_19 46 rfl) rfl (isTl_lt ht) (isTl_sh ht) ?_
        refine r_int (y := ((j_u I (t + 2) ((I t 0).toNatClampNeg) a) t 0)) (show (j_u (j_u (j_u I (t + 2) ((I t 0).toNatClampNeg) a) t 8 ((j_u I (t + 2) ((I t 0).toNatClampNeg) a) t 0)) t 9 ((j_u I (t + 2) ((I t 0).toNatClampNeg) a) t 0)) t 0 = ((j_u I (t + 2) ((I t 0).toNatClampNeg) a) t 0) from ((j_u_k _ _ (by decide)).trans (j_u_k _ _ (by decide)))) ?_
        refine q_iconst (v := 1) (by decide) d46_57 ?_
        refine q_iadd d46_58 ?_
        refine q_putI d46_59 (fs7_19 46 rfl) (Or.inl rfl) rfl (isTl_lt ht) (isTl_sh ht) ?_
        exact q_ret d46_62 rfl (Nat.le_refl _) (Nat.le_refl _) (v13 h1t h4f c53 c54 c55 c56 c57)
      ·
        show j_W 46 d 0 0 0 0 39 [some (.ref t), some (.double x), none, some (.int a)] [] w1 ((j_u (j_u I (t + 2) ((I t 0).toNatClampNeg) a) t 8 ((j_u I (t + 2) ((I t 0).toNatClampNeg) a) t 0)), (j_u (j_u D (t + 1) ((I t 0).toNatClampNeg) x) t 6 x), RR R) Q
        refine q_goto (tgt := 52) d46_39 rfl ?_
        refine q_aload_n d46_52 rfl ?_
        refine q_dup rfl d46_53 ?_
        refine q_getI d46_54 (fs7_19 46 rfl) rfl (isTl_lt ht) (isTl_sh ht) ?_
        refine r_int (y := ((j_u I (t + 2) ((I t 0).toNatClampNeg) a) t 0)) (show (j_u (j_u I (t + 2) ((I t 0).toNatClampNeg) a) t 8 ((j_u I (t + 2) ((I t 0).toNatClampNeg) a) t 0)) t 0 = ((j_u I (t + 2) ((I t 0).toNatClampNeg) a) t 0) from (j_u_k _ _ (by decide))) ?_
        refine q_iconst (v := 1) (by decide) d46_57 ?_
        refine q_iadd d46_58 ?_
        refine q_putI d46_59 (fs7_19 46 rfl) (Or.inl rfl) rfl (isTl_lt ht) (isTl_sh ht) ?_
        exact q_ret d46_62 rfl (Nat.le_refl _) (Nat.le_refl _) (v14 h1t h4f c58 c59 c60 c61 c62 c63)
      ·
        show j_W 46 d 0 0 0 0 39 [some (.ref t), some (.double x), none, some (.int a)] [] w1 ((j_u (j_u (j_u I (t + 2) ((I t 0).toNatClampNeg) a) t 8 ((j_u I (t + 2) ((I t 0).toNatClampNeg) a) t 0)) t 9 ((j_u I (t + 2) ((I t 0).toNatClampNeg) a) t 0)), (j_u (j_u (j_u D (t + 1) ((I t 0).toNatClampNeg) x) t 6 x) t 7 x), RR R) Q
        refine q_goto (tgt := 52) d46_39 rfl ?_
        refine q_aload_n d46_52 rfl ?_
        refine q_dup rfl d46_53 ?_
        refine q_getI d46_54 (fs7_19 46 rfl) rfl (isTl_lt ht) (isTl_sh ht) ?_
        refine r_int (y := ((j_u I (t + 2) ((I t 0).toNatClampNeg) a) t 0)) (show (j_u (j_u (j_u I (t + 2) ((I t 0).toNatClampNeg) a) t 8 ((j_u I (t + 2) ((I t 0).toNatClampNeg) a) t 0)) t 9 ((j_u I (t + 2) ((I t 0).toNatClampNeg) a) t 0)) t 0 = ((j_u I (t + 2) ((I t 0).toNatClampNeg) a) t 0) from ((j_u_k _ _ (by decide)).trans (j_u_k _ _ (by decide)))) ?_
        refine q_iconst (v := 1) (by decide) d46_57 ?_
        refine q_iadd d46_58 ?_
        refine q_putI d46_59 (fs7_19 46 rfl) (Or.inl rfl) rfl (isTl_lt ht) (isTl_sh ht) ?_
        exact q_ret d46_62 rfl (Nat.le_refl _) (Nat.le_refl _) (v15 h1t h4f c64 c65 c66 c67 c68 c69)
      ·
        show j_W 46 d 0 0 0 0 39 [some (.ref t), some (.double x), none, some (.int a)] [] w1 ((j_u (j_u I (t + 2) ((I t 0).toNatClampNeg) a) t 9 ((j_u I (t + 2) ((I t 0).toNatClampNeg) a) t 0)), (j_u (j_u D (t + 1) ((I t 0).toNatClampNeg) x) t 7 x), RR R) Q
        refine q_goto (tgt := 52) d46_39 rfl ?_
        refine q_aload_n d46_52 rfl ?_
        refine q_dup rfl d46_53 ?_
        refine q_getI d46_54 (fs7_19 46 rfl) rfl (isTl_lt ht) (isTl_sh ht) ?_
        refine r_int (y := ((j_u I (t + 2) ((I t 0).toNatClampNeg) a) t 0)) (show (j_u (j_u I (t + 2) ((I t 0).toNatClampNeg) a) t 9 ((j_u I (t + 2) ((I t 0).toNatClampNeg) a) t 0)) t 0 = ((j_u I (t + 2) ((I t 0).toNatClampNeg) a) t 0) from (j_u_k _ _ (by decide))) ?_
        refine q_iconst (v := 1) (by decide) d46_57 ?_
        refine q_iadd d46_58 ?_
        refine q_putI d46_59 (fs7_19 46 rfl) (Or.inl rfl) rfl (isTl_lt ht) (isTl_sh ht) ?_
        exact q_ret d46_62 rfl (Nat.le_refl _) (Nat.le_refl _) (v16 h1t h4f c70 c71 c72 c73 c74 c75)
      ·
        show j_W 46 d 0 0 0 0 39 [some (.ref t), some (.double x), none, some (.int a)] [] w1 ((j_u I (t + 2) ((I t 0).toNatClampNeg) a), (j_u D (t + 1) ((I t 0).toNatClampNeg) x), RR R) Q
        refine q_goto (tgt := 52) d46_39 rfl ?_
        refine q_aload_n d46_52 rfl ?_
        refine q_dup rfl d46_53 ?_
        refine q_getI d46_54 (fs7_19 46 rfl) rfl (isTl_lt ht) (isTl_sh ht) ?_
        refine q_iconst (v := 1) (by decide) d46_57 ?_
        refine q_iadd d46_58 ?_
        refine q_putI d46_59 (fs7_19 46 rfl) (Or.inl rfl) rfl (isTl_lt ht) (isTl_sh ht) ?_
        exact q_ret d46_62 rfl (Nat.le_refl _) (Nat.le_refl _) (v17 h1t h4f c76 c77 c78 c79 c80 c81 c82)
      ·
        show j_W 46 d 0 0 0 0 39 [some (.ref t), some (.double x), none, some (.int a)] [] w1 ((j_u (j_u I (t + 2) ((I t 0).toNatClampNeg) a) t 9 ((j_u I (t + 2) ((I t 0).toNatClampNeg) a) t 0)), (j_u (j_u D (t + 1) ((I t 0).toNatClampNeg) x) t 7 x), RR R) Q
        refine q_goto (tgt := 52) d46_39 rfl ?_
        refine q_aload_n d46_52 rfl ?_
        refine q_dup rfl d46_53 ?_
        refine q_getI d46_54 (fs7_19 46 rfl) rfl (isTl_lt ht) (isTl_sh ht) ?_
        refine r_int (y := ((j_u I (t + 2) ((I t 0).toNatClampNeg) a) t 0)) (show (j_u (j_u I (t + 2) ((I t 0).toNatClampNeg) a) t 9 ((j_u I (t + 2) ((I t 0).toNatClampNeg) a) t 0)) t 0 = ((j_u I (t + 2) ((I t 0).toNatClampNeg) a) t 0) from (j_u_k _ _ (by decide))) ?_
        refine q_iconst (v := 1) (by decide) d46_57 ?_
        refine q_iadd d46_58 ?_
        refine q_putI d46_59 (fs7_19 46 rfl) (Or.inl rfl) rfl (isTl_lt ht) (isTl_sh ht) ?_
        exact q_ret d46_62 rfl (Nat.le_refl _) (Nat.le_refl _) (v18 h1t h4f c83 c84 c85 c86 c87 c88 c89)
      ·
        show j_W 46 d 0 0 0 0 39 [some (.ref t), some (.double x), none, some (.int a)] [] w1 ((j_u (j_u (j_u I (t + 2) ((I t 0).toNatClampNeg) a) t 8 ((j_u I (t + 2) ((I t 0).toNatClampNeg) a) t 0)) t 9 ((j_u I (t + 2) ((I t 0).toNatClampNeg) a) t 0)), (j_u (j_u (j_u D (t + 1) ((I t 0).toNatClampNeg) x) t 6 x) t 7 x), RR R) Q
        refine q_goto (tgt := 52) d46_39 rfl ?_
        refine q_aload_n d46_52 rfl ?_
        refine q_dup rfl d46_53 ?_
        refine q_getI d46_54 (fs7_19 46 rfl) rfl (isTl_lt ht) (isTl_sh ht) ?_
        refine r_int (y := ((j_u I (t + 2) ((I t 0).toNatClampNeg) a) t 0)) (show (j_u (j_u (j_u I (t + 2) ((I t 0).toNatClampNeg) a) t 8 ((j_u I (t + 2) ((I t 0).toNatClampNeg) a) t 0)) t 9 ((j_u I (t + 2) ((I t 0).toNatClampNeg) a) t 0)) t 0 = ((j_u I (t + 2) ((I t 0).toNatClampNeg) a) t 0) from ((j_u_k _ _ (by decide)).trans (j_u_k _ _ (by decide)))) ?_
        refine q_iconst (v := 1) (by decide) d46_57 ?_
        refine q_iadd d46_58 ?_
        refine q_putI d46_59 (fs7_19 46 rfl) (Or.inl rfl) rfl (isTl_lt ht) (isTl_sh ht) ?_
        exact q_ret d46_62 rfl (Nat.le_refl _) (Nat.le_refl _) (v19 h1t h4f c90 c91 c92 c93 c94 c95)
      ·
        show j_W 46 d 0 0 0 0 39 [some (.ref t), some (.double x), none, some (.int a)] [] w1 ((j_u (j_u I (t + 2) ((I t 0).toNatClampNeg) a) t 8 ((j_u I (t + 2) ((I t 0).toNatClampNeg) a) t 0)), (j_u (j_u D (t + 1) ((I t 0).toNatClampNeg) x) t 6 x), RR R) Q
        refine q_goto (tgt := 52) d46_39 rfl ?_
        refine q_aload_n d46_52 rfl ?_
        refine q_dup rfl d46_53 ?_
        refine q_getI d46_54 (fs7_19 46 rfl) rfl (isTl_lt ht) (isTl_sh ht) ?_
        refine r_int (y := ((j_u I (t + 2) ((I t 0).toNatClampNeg) a) t 0)) (show (j_u (j_u I (t + 2) ((I t 0).toNatClampNeg) a) t 8 ((j_u I (t + 2) ((I t 0).toNatClampNeg) a) t 0)) t 0 = ((j_u I (t + 2) ((I t 0).toNatClampNeg) a) t 0) from (j_u_k _ _ (by decide))) ?_
        refine q_iconst (v := 1) (by decide) d46_57 ?_
        refine q_iadd d46_58 ?_
        refine q_putI d46_59 (fs7_19 46 rfl) (Or.inl rfl) rfl (isTl_lt ht) (isTl_sh ht) ?_
        exact q_ret d46_62 rfl (Nat.le_refl _) (Nat.le_refl _) (v20 h1t h4f c96 c97 c98 c99 c100 c101 c102)
      ·
        show j_W 46 d 0 0 0 0 39 [some (.ref t), some (.double x), none, some (.int a)] [] w1 ((j_u (j_u (j_u I (t + 2) ((I t 0).toNatClampNeg) a) t 8 ((j_u I (t + 2) ((I t 0).toNatClampNeg) a) t 0)) t 9 ((j_u I (t + 2) ((I t 0).toNatClampNeg) a) t 0)), (j_u (j_u (j_u D (t + 1) ((I t 0).toNatClampNeg) x) t 6 x) t 7 x), RR R) Q
        refine q_goto (tgt := 52) d46_39 rfl ?_
        refine q_aload_n d46_52 rfl ?_
        refine q_dup rfl d46_53 ?_
        refine q_getI d46_54 (fs7_19 46 rfl) rfl (isTl_lt ht) (isTl_sh ht) ?_
        refine r_int (y := ((j_u I (t + 2) ((I t 0).toNatClampNeg) a) t 0)) (show (j_u (j_u (j_u I (t + 2) ((I t 0).toNatClampNeg) a) t 8 ((j_u I (t + 2) ((I t 0).toNatClampNeg) a) t 0)) t 9 ((j_u I (t + 2) ((I t 0).toNatClampNeg) a) t 0)) t 0 = ((j_u I (t + 2) ((I t 0).toNatClampNeg) a) t 0) from ((j_u_k _ _ (by decide)).trans (j_u_k _ _ (by decide)))) ?_
        refine q_iconst (v := 1) (by decide) d46_57 ?_
        refine q_iadd d46_58 ?_
        refine q_putI d46_59 (fs7_19 46 rfl) (Or.inl rfl) rfl (isTl_lt ht) (isTl_sh ht) ?_
        exact q_ret d46_62 rfl (Nat.le_refl _) (Nat.le_refl _) (v21 h1t h4f c103 c104 c105 c106 c107 c108 c109)
      ·
        show j_W 46 d 0 0 0 0 39 [some (.ref t), some (.double x), none, some (.int a)] [] w1 ((j_u (j_u (j_u (j_u I (t + 2) ((I t 0).toNatClampNeg) a) t 5 1) t 8 ((j_u I (t + 2) ((I t 0).toNatClampNeg) a) t 0)) t 9 ((j_u I (t + 2) ((I t 0).toNatClampNeg) a) t 0)), (j_u (j_u (j_u D (t + 1) ((I t 0).toNatClampNeg) x) t 6 x) t 7 x), RR R) Q
        refine q_goto (tgt := 52) d46_39 rfl ?_
        refine q_aload_n d46_52 rfl ?_
        refine q_dup rfl d46_53 ?_
        refine q_getI d46_54 (fs7_19 46 rfl) rfl (isTl_lt ht) (isTl_sh ht) ?_
        refine r_int (y := ((j_u I (t + 2) ((I t 0).toNatClampNeg) a) t 0)) (show (j_u (j_u (j_u (j_u I (t + 2) ((I t 0).toNatClampNeg) a) t 5 1) t 8 ((j_u I (t + 2) ((I t 0).toNatClampNeg) a) t 0)) t 9 ((j_u I (t + 2) ((I t 0).toNatClampNeg) a) t 0)) t 0 = ((j_u I (t + 2) ((I t 0).toNatClampNeg) a) t 0) from ((j_u_k _ _ (by decide)).trans ((j_u_k _ _ (by decide)).trans (j_u_k _ _ (by decide))))) ?_
        refine q_iconst (v := 1) (by decide) d46_57 ?_
        refine q_iadd d46_58 ?_
        refine q_putI d46_59 (fs7_19 46 rfl) (Or.inl rfl) rfl (isTl_lt ht) (isTl_sh ht) ?_
        exact q_ret d46_62 rfl (Nat.le_refl _) (Nat.le_refl _) (v22 h1t h4f c110 c111 c112 c113 c114)
      ·
        show j_W 46 d 0 0 0 0 39 [some (.ref t), some (.double x), none, some (.int a)] [] w1 ((j_u (j_u (j_u I (t + 2) ((I t 0).toNatClampNeg) a) t 5 1) t 8 ((j_u I (t + 2) ((I t 0).toNatClampNeg) a) t 0)), (j_u (j_u D (t + 1) ((I t 0).toNatClampNeg) x) t 6 x), RR R) Q
        refine q_goto (tgt := 52) d46_39 rfl ?_
        refine q_aload_n d46_52 rfl ?_
        refine q_dup rfl d46_53 ?_
        refine q_getI d46_54 (fs7_19 46 rfl) rfl (isTl_lt ht) (isTl_sh ht) ?_
        refine r_int (y := ((j_u I (t + 2) ((I t 0).toNatClampNeg) a) t 0)) (show (j_u (j_u (j_u I (t + 2) ((I t 0).toNatClampNeg) a) t 5 1) t 8 ((j_u I (t + 2) ((I t 0).toNatClampNeg) a) t 0)) t 0 = ((j_u I (t + 2) ((I t 0).toNatClampNeg) a) t 0) from ((j_u_k _ _ (by decide)).trans (j_u_k _ _ (by decide)))) ?_
        refine q_iconst (v := 1) (by decide) d46_57 ?_
        refine q_iadd d46_58 ?_
        refine q_putI d46_59 (fs7_19 46 rfl) (Or.inl rfl) rfl (isTl_lt ht) (isTl_sh ht) ?_
        exact q_ret d46_62 rfl (Nat.le_refl _) (Nat.le_refl _) (v23 h1t h4f c115 c116 c117 c118 c119 c120)
      ·
        show j_W 46 d 0 0 0 0 39 [some (.ref t), some (.double x), none, some (.int a)] [] w1 ((j_u (j_u (j_u (j_u I (t + 2) ((I t 0).toNatClampNeg) a) t 5 1) t 8 ((j_u I (t + 2) ((I t 0).toNatClampNeg) a) t 0)) t 9 ((j_u I (t + 2) ((I t 0).toNatClampNeg) a) t 0)), (j_u (j_u (j_u D (t + 1) ((I t 0).toNatClampNeg) x) t 6 x) t 7 x), RR R) Q
        refine q_goto (tgt := 52) d46_39 rfl ?_
        refine q_aload_n d46_52 rfl ?_
        refine q_dup rfl d46_53 ?_
        refine q_getI d46_54 (fs7_19 46 rfl) rfl (isTl_lt ht) (isTl_sh ht) ?_
        refine r_int (y := ((j_u I (t + 2) ((I t 0).toNatClampNeg) a) t 0)) (show (j_u (j_u (j_u (j_u I (t + 2) ((I t 0).toNatClampNeg) a) t 5 1) t 8 ((j_u I (t + 2) ((I t 0).toNatClampNeg) a) t 0)) t 9 ((j_u I (t + 2) ((I t 0).toNatClampNeg) a) t 0)) t 0 = ((j_u I (t + 2) ((I t 0).toNatClampNeg) a) t 0) from ((j_u_k _ _ (by decide)).trans ((j_u_k _ _ (by decide)).trans (j_u_k _ _ (by decide))))) ?_
        refine q_iconst (v := 1) (by decide) d46_57 ?_
        refine q_iadd d46_58 ?_
        refine q_putI d46_59 (fs7_19 46 rfl) (Or.inl rfl) rfl (isTl_lt ht) (isTl_sh ht) ?_
        exact q_ret d46_62 rfl (Nat.le_refl _) (Nat.le_refl _) (v24 h1t h4f c121 c122 c123 c124 c125 c126)
      ·
        show j_W 46 d 0 0 0 0 39 [some (.ref t), some (.double x), none, some (.int a)] [] w1 ((j_u (j_u (j_u I (t + 2) ((I t 0).toNatClampNeg) a) t 5 1) t 9 ((j_u I (t + 2) ((I t 0).toNatClampNeg) a) t 0)), (j_u (j_u D (t + 1) ((I t 0).toNatClampNeg) x) t 7 x), RR R) Q
        refine q_goto (tgt := 52) d46_39 rfl ?_
        refine q_aload_n d46_52 rfl ?_
        refine q_dup rfl d46_53 ?_
        refine q_getI d46_54 (fs7_19 46 rfl) rfl (isTl_lt ht) (isTl_sh ht) ?_
        refine r_int (y := ((j_u I (t + 2) ((I t 0).toNatClampNeg) a) t 0)) (show (j_u (j_u (j_u I (t + 2) ((I t 0).toNatClampNeg) a) t 5 1) t 9 ((j_u I (t + 2) ((I t 0).toNatClampNeg) a) t 0)) t 0 = ((j_u I (t + 2) ((I t 0).toNatClampNeg) a) t 0) from ((j_u_k _ _ (by decide)).trans (j_u_k _ _ (by decide)))) ?_
        refine q_iconst (v := 1) (by decide) d46_57 ?_
        refine q_iadd d46_58 ?_
        refine q_putI d46_59 (fs7_19 46 rfl) (Or.inl rfl) rfl (isTl_lt ht) (isTl_sh ht) ?_
        exact q_ret d46_62 rfl (Nat.le_refl _) (Nat.le_refl _) (v25 h1t h4f c127 c128 c129 c130 c131 c132)
      ·
        show j_W 46 d 0 0 0 0 39 [some (.ref t), some (.double x), none, some (.int a)] [] w1 ((j_u (j_u I (t + 2) ((I t 0).toNatClampNeg) a) t 5 1), (j_u D (t + 1) ((I t 0).toNatClampNeg) x), RR R) Q
        refine q_goto (tgt := 52) d46_39 rfl ?_
        refine q_aload_n d46_52 rfl ?_
        refine q_dup rfl d46_53 ?_
        refine q_getI d46_54 (fs7_19 46 rfl) rfl (isTl_lt ht) (isTl_sh ht) ?_
        refine r_int (y := ((j_u I (t + 2) ((I t 0).toNatClampNeg) a) t 0)) (show (j_u (j_u I (t + 2) ((I t 0).toNatClampNeg) a) t 5 1) t 0 = ((j_u I (t + 2) ((I t 0).toNatClampNeg) a) t 0) from (j_u_k _ _ (by decide))) ?_
        refine q_iconst (v := 1) (by decide) d46_57 ?_
        refine q_iadd d46_58 ?_
        refine q_putI d46_59 (fs7_19 46 rfl) (Or.inl rfl) rfl (isTl_lt ht) (isTl_sh ht) ?_
        exact q_ret d46_62 rfl (Nat.le_refl _) (Nat.le_refl _) (v26 h1t h4f c133 c134 c135 c136 c137 c138 c139)
      ·
        show j_W 46 d 0 0 0 0 39 [some (.ref t), some (.double x), none, some (.int a)] [] w1 ((j_u (j_u (j_u I (t + 2) ((I t 0).toNatClampNeg) a) t 5 1) t 9 ((j_u I (t + 2) ((I t 0).toNatClampNeg) a) t 0)), (j_u (j_u D (t + 1) ((I t 0).toNatClampNeg) x) t 7 x), RR R) Q
        refine q_goto (tgt := 52) d46_39 rfl ?_
        refine q_aload_n d46_52 rfl ?_
        refine q_dup rfl d46_53 ?_
        refine q_getI d46_54 (fs7_19 46 rfl) rfl (isTl_lt ht) (isTl_sh ht) ?_
        refine r_int (y := ((j_u I (t + 2) ((I t 0).toNatClampNeg) a) t 0)) (show (j_u (j_u (j_u I (t + 2) ((I t 0).toNatClampNeg) a) t 5 1) t 9 ((j_u I (t + 2) ((I t 0).toNatClampNeg) a) t 0)) t 0 = ((j_u I (t + 2) ((I t 0).toNatClampNeg) a) t 0) from ((j_u_k _ _ (by decide)).trans (j_u_k _ _ (by decide)))) ?_
        refine q_iconst (v := 1) (by decide) d46_57 ?_
        refine q_iadd d46_58 ?_
        refine q_putI d46_59 (fs7_19 46 rfl) (Or.inl rfl) rfl (isTl_lt ht) (isTl_sh ht) ?_
        exact q_ret d46_62 rfl (Nat.le_refl _) (Nat.le_refl _) (v27 h1t h4f c140 c141 c142 c143 c144 c145 c146)
      ·
        show j_W 46 d 0 0 0 0 39 [some (.ref t), some (.double x), none, some (.int a)] [] w1 ((j_u (j_u (j_u (j_u I (t + 2) ((I t 0).toNatClampNeg) a) t 5 1) t 8 ((j_u I (t + 2) ((I t 0).toNatClampNeg) a) t 0)) t 9 ((j_u I (t + 2) ((I t 0).toNatClampNeg) a) t 0)), (j_u (j_u (j_u D (t + 1) ((I t 0).toNatClampNeg) x) t 6 x) t 7 x), RR R) Q
        refine q_goto (tgt := 52) d46_39 rfl ?_
        refine q_aload_n d46_52 rfl ?_
        refine q_dup rfl d46_53 ?_
        refine q_getI d46_54 (fs7_19 46 rfl) rfl (isTl_lt ht) (isTl_sh ht) ?_
        refine r_int (y := ((j_u I (t + 2) ((I t 0).toNatClampNeg) a) t 0)) (show (j_u (j_u (j_u (j_u I (t + 2) ((I t 0).toNatClampNeg) a) t 5 1) t 8 ((j_u I (t + 2) ((I t 0).toNatClampNeg) a) t 0)) t 9 ((j_u I (t + 2) ((I t 0).toNatClampNeg) a) t 0)) t 0 = ((j_u I (t + 2) ((I t 0).toNatClampNeg) a) t 0) from ((j_u_k _ _ (by decide)).trans ((j_u_k _ _ (by decide)).trans (j_u_k _ _ (by decide))))) ?_
        refine q_iconst (v := 1) (by decide) d46_57 ?_
        refine q_iadd d46_58 ?_
        refine q_putI d46_59 (fs7_19 46 rfl) (Or.inl rfl) rfl (isTl_lt ht) (isTl_sh ht) ?_
        exact q_ret d46_62 rfl (Nat.le_refl _) (Nat.le_refl _) (v28 h1t h4f c147 c148 c149 c150 c151 c152)
      ·
        show j_W 46 d 0 0 0 0 39 [some (.ref t), some (.double x), none, some (.int a)] [] w1 ((j_u (j_u (j_u I (t + 2) ((I t 0).toNatClampNeg) a) t 5 1) t 8 ((j_u I (t + 2) ((I t 0).toNatClampNeg) a) t 0)), (j_u (j_u D (t + 1) ((I t 0).toNatClampNeg) x) t 6 x), RR R) Q
        refine q_goto (tgt := 52) d46_39 rfl ?_
        refine q_aload_n d46_52 rfl ?_
        refine q_dup rfl d46_53 ?_
        refine q_getI d46_54 (fs7_19 46 rfl) rfl (isTl_lt ht) (isTl_sh ht) ?_
        refine r_int (y := ((j_u I (t + 2) ((I t 0).toNatClampNeg) a) t 0)) (show (j_u (j_u (j_u I (t + 2) ((I t 0).toNatClampNeg) a) t 5 1) t 8 ((j_u I (t + 2) ((I t 0).toNatClampNeg) a) t 0)) t 0 = ((j_u I (t + 2) ((I t 0).toNatClampNeg) a) t 0) from ((j_u_k _ _ (by decide)).trans (j_u_k _ _ (by decide)))) ?_
        refine q_iconst (v := 1) (by decide) d46_57 ?_
        refine q_iadd d46_58 ?_
        refine q_putI d46_59 (fs7_19 46 rfl) (Or.inl rfl) rfl (isTl_lt ht) (isTl_sh ht) ?_
        exact q_ret d46_62 rfl (Nat.le_refl _) (Nat.le_refl _) (v29 h1t h4f c153 c154 c155 c156 c157 c158 c159)
      ·
        show j_W 46 d 0 0 0 0 39 [some (.ref t), some (.double x), none, some (.int a)] [] w1 ((j_u (j_u (j_u (j_u I (t + 2) ((I t 0).toNatClampNeg) a) t 5 1) t 8 ((j_u I (t + 2) ((I t 0).toNatClampNeg) a) t 0)) t 9 ((j_u I (t + 2) ((I t 0).toNatClampNeg) a) t 0)), (j_u (j_u (j_u D (t + 1) ((I t 0).toNatClampNeg) x) t 6 x) t 7 x), RR R) Q
        refine q_goto (tgt := 52) d46_39 rfl ?_
        refine q_aload_n d46_52 rfl ?_
        refine q_dup rfl d46_53 ?_
        refine q_getI d46_54 (fs7_19 46 rfl) rfl (isTl_lt ht) (isTl_sh ht) ?_
        refine r_int (y := ((j_u I (t + 2) ((I t 0).toNatClampNeg) a) t 0)) (show (j_u (j_u (j_u (j_u I (t + 2) ((I t 0).toNatClampNeg) a) t 5 1) t 8 ((j_u I (t + 2) ((I t 0).toNatClampNeg) a) t 0)) t 9 ((j_u I (t + 2) ((I t 0).toNatClampNeg) a) t 0)) t 0 = ((j_u I (t + 2) ((I t 0).toNatClampNeg) a) t 0) from ((j_u_k _ _ (by decide)).trans ((j_u_k _ _ (by decide)).trans (j_u_k _ _ (by decide))))) ?_
        refine q_iconst (v := 1) (by decide) d46_57 ?_
        refine q_iadd d46_58 ?_
        refine q_putI d46_59 (fs7_19 46 rfl) (Or.inl rfl) rfl (isTl_lt ht) (isTl_sh ht) ?_
        exact q_ret d46_62 rfl (Nat.le_refl _) (Nat.le_refl _) (v30 h1t h4f c160 c161 c162 c163 c164 c165 c166)
      ·
        show j_W 46 d 0 0 0 0 39 [some (.ref t), some (.double x), none, some (.int a)] [] w1 ((j_u (j_u (j_u (j_u I (t + 2) ((I t 0).toNatClampNeg) a) t 5 1) t 8 ((j_u I (t + 2) ((I t 0).toNatClampNeg) a) t 0)) t 9 ((j_u I (t + 2) ((I t 0).toNatClampNeg) a) t 0)), (j_u (j_u (j_u (j_u D (t + 1) ((I t 0).toNatClampNeg) x) t 4 (FP.dadd ((j_u D (t + 1) ((I t 0).toNatClampNeg) x) t 4) x)) t 6 x) t 7 x), RR R) Q
        refine q_goto (tgt := 52) d46_39 rfl ?_
        refine q_aload_n d46_52 rfl ?_
        refine q_dup rfl d46_53 ?_
        refine q_getI d46_54 (fs7_19 46 rfl) rfl (isTl_lt ht) (isTl_sh ht) ?_
        refine r_int (y := ((j_u I (t + 2) ((I t 0).toNatClampNeg) a) t 0)) (show (j_u (j_u (j_u (j_u I (t + 2) ((I t 0).toNatClampNeg) a) t 5 1) t 8 ((j_u I (t + 2) ((I t 0).toNatClampNeg) a) t 0)) t 9 ((j_u I (t + 2) ((I t 0).toNatClampNeg) a) t 0)) t 0 = ((j_u I (t + 2) ((I t 0).toNatClampNeg) a) t 0) from ((j_u_k _ _ (by decide)).trans ((j_u_k _ _ (by decide)).trans (j_u_k _ _ (by decide))))) ?_
        refine q_iconst (v := 1) (by decide) d46_57 ?_
        refine q_iadd d46_58 ?_
        refine q_putI d46_59 (fs7_19 46 rfl) (Or.inl rfl) rfl (isTl_lt ht) (isTl_sh ht) ?_
        exact q_ret d46_62 rfl (Nat.le_refl _) (Nat.le_refl _) (v31 h1t h4f c168 c169 c170 c171)
      ·
        show j_W 46 d 0 0 0 0 39 [some (.ref t), some (.double x), none, some (.int a)] [] w1 ((j_u (j_u (j_u I (t + 2) ((I t 0).toNatClampNeg) a) t 5 1) t 8 ((j_u I (t + 2) ((I t 0).toNatClampNeg) a) t 0)), (j_u (j_u (j_u D (t + 1) ((I t 0).toNatClampNeg) x) t 4 (FP.dadd ((j_u D (t + 1) ((I t 0).toNatClampNeg) x) t 4) x)) t 6 x), RR R) Q
        refine q_goto (tgt := 52) d46_39 rfl ?_
        refine q_aload_n d46_52 rfl ?_
        refine q_dup rfl d46_53 ?_
        refine q_getI d46_54 (fs7_19 46 rfl) rfl (isTl_lt ht) (isTl_sh ht) ?_
        refine r_int (y := ((j_u I (t + 2) ((I t 0).toNatClampNeg) a) t 0)) (show (j_u (j_u (j_u I (t + 2) ((I t 0).toNatClampNeg) a) t 5 1) t 8 ((j_u I (t + 2) ((I t 0).toNatClampNeg) a) t 0)) t 0 = ((j_u I (t + 2) ((I t 0).toNatClampNeg) a) t 0) from ((j_u_k _ _ (by decide)).trans (j_u_k _ _ (by decide)))) ?_
        refine q_iconst (v := 1) (by decide) d46_57 ?_
        refine q_iadd d46_58 ?_
        refine q_putI d46_59 (fs7_19 46 rfl) (Or.inl rfl) rfl (isTl_lt ht) (isTl_sh ht) ?_
        exact q_ret d46_62 rfl (Nat.le_refl _) (Nat.le_refl _) (v32 h1t h4f c172 c173 c174 c175 c176)
      ·
        show j_W 46 d 0 0 0 0 39 [some (.ref t), some (.double x), none, some (.int a)] [] w1 ((j_u (j_u (j_u (j_u I (t + 2) ((I t 0).toNatClampNeg) a) t 5 1) t 8 ((j_u I (t + 2) ((I t 0).toNatClampNeg) a) t 0)) t 9 ((j_u I (t + 2) ((I t 0).toNatClampNeg) a) t 0)), (j_u (j_u (j_u (j_u D (t + 1) ((I t 0).toNatClampNeg) x) t 4 (FP.dadd ((j_u D (t + 1) ((I t 0).toNatClampNeg) x) t 4) x)) t 6 x) t 7 x), RR R) Q
        refine q_goto (tgt := 52) d46_39 rfl ?_
        refine q_aload_n d46_52 rfl ?_
        refine q_dup rfl d46_53 ?_
        refine q_getI d46_54 (fs7_19 46 rfl) rfl (isTl_lt ht) (isTl_sh ht) ?_
        refine r_int (y := ((j_u I (t + 2) ((I t 0).toNatClampNeg) a) t 0)) (show (j_u (j_u (j_u (j_u I (t + 2) ((I t 0).toNatClampNeg) a) t 5 1) t 8 ((j_u I (t + 2) ((I t 0).toNatClampNeg) a) t 0)) t 9 ((j_u I (t + 2) ((I t 0).toNatClampNeg) a) t 0)) t 0 = ((j_u I (t + 2) ((I t 0).toNatClampNeg) a) t 0) from ((j_u_k _ _ (by decide)).trans ((j_u_k _ _ (by decide)).trans (j_u_k _ _ (by decide))))) ?_
        refine q_iconst (v := 1) (by decide) d46_57 ?_
        refine q_iadd d46_58 ?_
        refine q_putI d46_59 (fs7_19 46 rfl) (Or.inl rfl) rfl (isTl_lt ht) (isTl_sh ht) ?_
        exact q_ret d46_62 rfl (Nat.le_refl _) (Nat.le_refl _) (v33 h1t h4f c177 c178 c179 c180 c181)
      ·
        show j_W 46 d 0 0 0 0 39 [some (.ref t), some (.double x), none, some (.int a)] [] w1 ((j_u (j_u (j_u I (t + 2) ((I t 0).toNatClampNeg) a) t 5 1) t 9 ((j_u I (t + 2) ((I t 0).toNatClampNeg) a) t 0)), (j_u (j_u (j_u D (t + 1) ((I t 0).toNatClampNeg) x) t 4 (FP.dadd ((j_u D (t + 1) ((I t 0).toNatClampNeg) x) t 4) x)) t 7 x), RR R) Q
        refine q_goto (tgt := 52) d46_39 rfl ?_
        refine q_aload_n d46_52 rfl ?_
        refine q_dup rfl d46_53 ?_
        refine q_getI d46_54 (fs7_19 46 rfl) rfl (isTl_lt ht) (isTl_sh ht) ?_
        refine r_int (y := ((j_u I (t + 2) ((I t 0).toNatClampNeg) a) t 0)) (show (j_u (j_u (j_u I (t + 2) ((I t 0).toNatClampNeg) a) t 5 1) t 9 ((j_u I (t + 2) ((I t 0).toNatClampNeg) a) t 0)) t 0 = ((j_u I (t + 2) ((I t 0).toNatClampNeg) a) t 0) from ((j_u_k _ _ (by decide)).trans (j_u_k _ _ (by decide)))) ?_
        refine q_iconst (v := 1) (by decide) d46_57 ?_
        refine q_iadd d46_58 ?_
        refine q_putI d46_59 (fs7_19 46 rfl) (Or.inl rfl) rfl (isTl_lt ht) (isTl_sh ht) ?_
        exact q_ret d46_62 rfl (Nat.le_refl _) (Nat.le_refl _) (v34 h1t h4f c182 c183 c184 c185 c186)
      ·
        show j_W 46 d 0 0 0 0 39 [some (.ref t), some (.double x), none, some (.int a)] [] w1 ((j_u (j_u I (t + 2) ((I t 0).toNatClampNeg) a) t 5 1), (j_u (j_u D (t + 1) ((I t 0).toNatClampNeg) x) t 4 (FP.dadd ((j_u D (t + 1) ((I t 0).toNatClampNeg) x) t 4) x)), RR R) Q
        refine q_goto (tgt := 52) d46_39 rfl ?_
        refine q_aload_n d46_52 rfl ?_
        refine q_dup rfl d46_53 ?_
        refine q_getI d46_54 (fs7_19 46 rfl) rfl (isTl_lt ht) (isTl_sh ht) ?_
        refine r_int (y := ((j_u I (t + 2) ((I t 0).toNatClampNeg) a) t 0)) (show (j_u (j_u I (t + 2) ((I t 0).toNatClampNeg) a) t 5 1) t 0 = ((j_u I (t + 2) ((I t 0).toNatClampNeg) a) t 0) from (j_u_k _ _ (by decide))) ?_
        refine q_iconst (v := 1) (by decide) d46_57 ?_
        refine q_iadd d46_58 ?_
        refine q_putI d46_59 (fs7_19 46 rfl) (Or.inl rfl) rfl (isTl_lt ht) (isTl_sh ht) ?_
        exact q_ret d46_62 rfl (Nat.le_refl _) (Nat.le_refl _) (v35 h1t h4f c187 c188 c189 c190 c191 c192)
      ·
        show j_W 46 d 0 0 0 0 39 [some (.ref t), some (.double x), none, some (.int a)] [] w1 ((j_u (j_u (j_u I (t + 2) ((I t 0).toNatClampNeg) a) t 5 1) t 9 ((j_u I (t + 2) ((I t 0).toNatClampNeg) a) t 0)), (j_u (j_u (j_u D (t + 1) ((I t 0).toNatClampNeg) x) t 4 (FP.dadd ((j_u D (t + 1) ((I t 0).toNatClampNeg) x) t 4) x)) t 7 x), RR R) Q
        refine q_goto (tgt := 52) d46_39 rfl ?_
        refine q_aload_n d46_52 rfl ?_
        refine q_dup rfl d46_53 ?_
        refine q_getI d46_54 (fs7_19 46 rfl) rfl (isTl_lt ht) (isTl_sh ht) ?_
        refine r_int (y := ((j_u I (t + 2) ((I t 0).toNatClampNeg) a) t 0)) (show (j_u (j_u (j_u I (t + 2) ((I t 0).toNatClampNeg) a) t 5 1) t 9 ((j_u I (t + 2) ((I t 0).toNatClampNeg) a) t 0)) t 0 = ((j_u I (t + 2) ((I t 0).toNatClampNeg) a) t 0) from ((j_u_k _ _ (by decide)).trans (j_u_k _ _ (by decide)))) ?_
        refine q_iconst (v := 1) (by decide) d46_57 ?_
        refine q_iadd d46_58 ?_
        refine q_putI d46_59 (fs7_19 46 rfl) (Or.inl rfl) rfl (isTl_lt ht) (isTl_sh ht) ?_
        exact q_ret d46_62 rfl (Nat.le_refl _) (Nat.le_refl _) (v36 h1t h4f c193 c194 c195 c196 c197 c198)
      ·
        show j_W 46 d 0 0 0 0 39 [some (.ref t), some (.double x), none, some (.int a)] [] w1 ((j_u (j_u (j_u (j_u I (t + 2) ((I t 0).toNatClampNeg) a) t 5 1) t 8 ((j_u I (t + 2) ((I t 0).toNatClampNeg) a) t 0)) t 9 ((j_u I (t + 2) ((I t 0).toNatClampNeg) a) t 0)), (j_u (j_u (j_u (j_u D (t + 1) ((I t 0).toNatClampNeg) x) t 4 (FP.dadd ((j_u D (t + 1) ((I t 0).toNatClampNeg) x) t 4) x)) t 6 x) t 7 x), RR R) Q
        refine q_goto (tgt := 52) d46_39 rfl ?_
        refine q_aload_n d46_52 rfl ?_
        refine q_dup rfl d46_53 ?_
        refine q_getI d46_54 (fs7_19 46 rfl) rfl (isTl_lt ht) (isTl_sh ht) ?_
        refine r_int (y := ((j_u I (t + 2) ((I t 0).toNatClampNeg) a) t 0)) (show (j_u (j_u (j_u (j_u I (t + 2) ((I t 0).toNatClampNeg) a) t 5 1) t 8 ((j_u I (t + 2) ((I t 0).toNatClampNeg) a) t 0)) t 9 ((j_u I (t + 2) ((I t 0).toNatClampNeg) a) t 0)) t 0 = ((j_u I (t + 2) ((I t 0).toNatClampNeg) a) t 0) from ((j_u_k _ _ (by decide)).trans ((j_u_k _ _ (by decide)).trans (j_u_k _ _ (by decide))))) ?_
        refine q_iconst (v := 1) (by decide) d46_57 ?_
        refine q_iadd d46_58 ?_
        refine q_putI d46_59 (fs7_19 46 rfl) (Or.inl rfl) rfl (isTl_lt ht) (isTl_sh ht) ?_
        exact q_ret d46_62 rfl (Nat.le_refl _) (Nat.le_refl _) (v37 h1t h4f c199 c200 c201 c202 c203)
      ·
        show j_W 46 d 0 0 0 0 39 [some (.ref t), some (.double x), none, some (.int a)] [] w1 ((j_u (j_u (j_u I (t + 2) ((I t 0).toNatClampNeg) a) t 5 1) t 8 ((j_u I (t + 2) ((I t 0).toNatClampNeg) a) t 0)), (j_u (j_u (j_u D (t + 1) ((I t 0).toNatClampNeg) x) t 4 (FP.dadd ((j_u D (t + 1) ((I t 0).toNatClampNeg) x) t 4) x)) t 6 x), RR R) Q
        refine q_goto (tgt := 52) d46_39 rfl ?_
        refine q_aload_n d46_52 rfl ?_
        refine q_dup rfl d46_53 ?_
        refine q_getI d46_54 (fs7_19 46 rfl) rfl (isTl_lt ht) (isTl_sh ht) ?_
        refine r_int (y := ((j_u I (t + 2) ((I t 0).toNatClampNeg) a) t 0)) (show (j_u (j_u (j_u I (t + 2) ((I t 0).toNatClampNeg) a) t 5 1) t 8 ((j_u I (t + 2) ((I t 0).toNatClampNeg) a) t 0)) t 0 = ((j_u I (t + 2) ((I t 0).toNatClampNeg) a) t 0) from ((j_u_k _ _ (by decide)).trans (j_u_k _ _ (by decide)))) ?_
        refine q_iconst (v := 1) (by decide) d46_57 ?_
        refine q_iadd d46_58 ?_
        refine q_putI d46_59 (fs7_19 46 rfl) (Or.inl rfl) rfl (isTl_lt ht) (isTl_sh ht) ?_
        exact q_ret d46_62 rfl (Nat.le_refl _) (Nat.le_refl _) (v38 h1t h4f c204 c205 c206 c207 c208 c209)
      ·
        show j_W 46 d 0 0 0 0 39 [some (.ref t), some (.double x), none, some (.int a)] [] w1 ((j_u (j_u (j_u (j_u I (t + 2) ((I t 0).toNatClampNeg) a) t 5 1) t 8 ((j_u I (t + 2) ((I t 0).toNatClampNeg) a) t 0)) t 9 ((j_u I (t + 2) ((I t 0).toNatClampNeg) a) t 0)), (j_u (j_u (j_u (j_u D (t + 1) ((I t 0).toNatClampNeg) x) t 4 (FP.dadd ((j_u D (t + 1) ((I t 0).toNatClampNeg) x) t 4) x)) t 6 x) t 7 x), RR R) Q
        refine q_goto (tgt := 52) d46_39 rfl ?_
        refine q_aload_n d46_52 rfl ?_
        refine q_dup rfl d46_53 ?_
        refine q_getI d46_54 (fs7_19 46 rfl) rfl (isTl_lt ht) (isTl_sh ht) ?_
        refine r_int (y := ((j_u I (t + 2) ((I t 0).toNatClampNeg) a) t 0)) (show (j_u (j_u (j_u (j_u I (t + 2) ((I t 0).toNatClampNeg) a) t 5 1) t 8 ((j_u I (t + 2) ((I t 0).toNatClampNeg) a) t 0)) t 9 ((j_u I (t + 2) ((I t 0).toNatClampNeg) a) t 0)) t 0 = ((j_u I (t + 2) ((I t 0).toNatClampNeg) a) t 0) from ((j_u_k _ _ (by decide)).trans ((j_u_k _ _ (by decide)).trans (j_u_k _ _ (by decide))))) ?_
        refine q_iconst (v := 1) (by decide) d46_57 ?_
        refine q_iadd d46_58 ?_
        refine q_putI d46_59 (fs7_19 46 rfl) (Or.inl rfl) rfl (isTl_lt ht) (isTl_sh ht) ?_
        exact q_ret d46_62 rfl (Nat.le_refl _) (Nat.le_refl _) (v39 h1t h4f c210 c211 c212 c213 c214 c215)
      ·
        show j_W 46 d 0 0 0 0 39 [some (.ref t), some (.double x), none, some (.int a)] [] w1 ((j_u (j_u (j_u I (t + 2) ((I t 0).toNatClampNeg) a) t 8 ((j_u I (t + 2) ((I t 0).toNatClampNeg) a) t 0)) t 9 ((j_u I (t + 2) ((I t 0).toNatClampNeg) a) t 0)), (j_u (j_u (j_u (j_u D (t + 1) ((I t 0).toNatClampNeg) x) t 4 (FP.dadd ((j_u D (t + 1) ((I t 0).toNatClampNeg) x) t 4) x)) t 6 x) t 7 x), RR R) Q
        refine q_goto (tgt := 52) d46_39 rfl ?_
        refine q_aload_n d46_52 rfl ?_
        refine q_dup rfl d46_53 ?_
        refine q_getI d46_54 (fs7_19 46 rfl) rfl (isTl_lt ht) (isTl_sh ht) ?_
        refine r_int (y := ((j_u I (t + 2) ((I t 0).toNatClampNeg) a) t 0)) (show (j_u (j_u (j_u I (t + 2) ((I t 0).toNatClampNeg) a) t 8 ((j_u I (t + 2) ((I t 0).toNatClampNeg) a) t 0)) t 9 ((j_u I (t + 2) ((I t 0).toNatClampNeg) a) t 0)) t 0 = ((j_u I (t + 2) ((I t 0).toNatClampNeg) a) t 0) from ((j_u_k _ _ (by decide)).trans (j_u_k _ _ (by decide)))) ?_
        refine q_iconst (v := 1) (by decide) d46_57 ?_
        refine q_iadd d46_58 ?_
        refine q_putI d46_59 (fs7_19 46 rfl) (Or.inl rfl) rfl (isTl_lt ht) (isTl_sh ht) ?_
        exact q_ret d46_62 rfl (Nat.le_refl _) (Nat.le_refl _) (v40 h1t h4f c216 c217 c218 c219 c220)
      ·
        show j_W 46 d 0 0 0 0 39 [some (.ref t), some (.double x), none, some (.int a)] [] w1 ((j_u (j_u I (t + 2) ((I t 0).toNatClampNeg) a) t 8 ((j_u I (t + 2) ((I t 0).toNatClampNeg) a) t 0)), (j_u (j_u (j_u D (t + 1) ((I t 0).toNatClampNeg) x) t 4 (FP.dadd ((j_u D (t + 1) ((I t 0).toNatClampNeg) x) t 4) x)) t 6 x), RR R) Q
        refine q_goto (tgt := 52) d46_39 rfl ?_
        refine q_aload_n d46_52 rfl ?_
        refine q_dup rfl d46_53 ?_
        refine q_getI d46_54 (fs7_19 46 rfl) rfl (isTl_lt ht) (isTl_sh ht) ?_
        refine r_int (y := ((j_u I (t + 2) ((I t 0).toNatClampNeg) a) t 0)) (show (j_u (j_u I (t + 2) ((I t 0).toNatClampNeg) a) t 8 ((j_u I (t + 2) ((I t 0).toNatClampNeg) a) t 0)) t 0 = ((j_u I (t + 2) ((I t 0).toNatClampNeg) a) t 0) from (j_u_k _ _ (by decide))) ?_
        refine q_iconst (v := 1) (by decide) d46_57 ?_
        refine q_iadd d46_58 ?_
        refine q_putI d46_59 (fs7_19 46 rfl) (Or.inl rfl) rfl (isTl_lt ht) (isTl_sh ht) ?_
        exact q_ret d46_62 rfl (Nat.le_refl _) (Nat.le_refl _) (v41 h1t h4f c221 c222 c223 c224 c225 c226)
      ·
        show j_W 46 d 0 0 0 0 39 [some (.ref t), some (.double x), none, some (.int a)] [] w1 ((j_u (j_u (j_u I (t + 2) ((I t 0).toNatClampNeg) a) t 8 ((j_u I (t + 2) ((I t 0).toNatClampNeg) a) t 0)) t 9 ((j_u I (t + 2) ((I t 0).toNatClampNeg) a) t 0)), (j_u (j_u (j_u (j_u D (t + 1) ((I t 0).toNatClampNeg) x) t 4 (FP.dadd ((j_u D (t + 1) ((I t 0).toNatClampNeg) x) t 4) x)) t 6 x) t 7 x), RR R) Q
        refine q_goto (tgt := 52) d46_39 rfl ?_
        refine q_aload_n d46_52 rfl ?_
        refine q_dup rfl d46_53 ?_
        refine q_getI d46_54 (fs7_19 46 rfl) rfl (isTl_lt ht) (isTl_sh ht) ?_
        refine r_int (y := ((j_u I (t + 2) ((I t 0).toNatClampNeg) a) t 0)) (show (j_u (j_u (j_u I (t + 2) ((I t 0).toNatClampNeg) a) t 8 ((j_u I (t + 2) ((I t 0).toNatClampNeg) a) t 0)) t 9 ((j_u I (t + 2) ((I t 0).toNatClampNeg) a) t 0)) t 0 = ((j_u I (t + 2) ((I t 0).toNatClampNeg) a) t 0) from ((j_u_k _ _ (by decide)).trans (j_u_k _ _ (by decide)))) ?_
        refine q_iconst (v := 1) (by decide) d46_57 ?_
        refine q_iadd d46_58 ?_
        refine q_putI d46_59 (fs7_19 46 rfl) (Or.inl rfl) rfl (isTl_lt ht) (isTl_sh ht) ?_
        exact q_ret d46_62 rfl (Nat.le_refl _) (Nat.le_refl _) (v42 h1t h4f c227 c228 c229 c230 c231 c232)
      ·
        show j_W 46 d 0 0 0 0 39 [some (.ref t), some (.double x), none, some (.int a)] [] w1 ((j_u (j_u I (t + 2) ((I t 0).toNatClampNeg) a) t 9 ((j_u I (t + 2) ((I t 0).toNatClampNeg) a) t 0)), (j_u (j_u (j_u D (t + 1) ((I t 0).toNatClampNeg) x) t 4 (FP.dadd ((j_u D (t + 1) ((I t 0).toNatClampNeg) x) t 4) x)) t 7 x), RR R) Q
        refine q_goto (tgt := 52) d46_39 rfl ?_
        refine q_aload_n d46_52 rfl ?_
        refine q_dup rfl d46_53 ?_
        refine q_getI d46_54 (fs7_19 46 rfl) rfl (isTl_lt ht) (isTl_sh ht) ?_
        refine r_int (y := ((j_u I (t + 2) ((I t 0).toNatClampNeg) a) t 0)) (show (j_u (j_u I (t + 2) ((I t 0).toNatClampNeg) a) t 9 ((j_u I (t + 2) ((I t 0).toNatClampNeg) a) t 0)) t 0 = ((j_u I (t + 2) ((I t 0).toNatClampNeg) a) t 0) from (j_u_k _ _ (by decide))) ?_
        refine q_iconst (v := 1) (by decide) d46_57 ?_
        refine q_iadd d46_58 ?_
        refine q_putI d46_59 (fs7_19 46 rfl) (Or.inl rfl) rfl (isTl_lt ht) (isTl_sh ht) ?_
        exact q_ret d46_62 rfl (Nat.le_refl _) (Nat.le_refl _) (v43 h1t h4f c233 c234 c235 c236 c237 c238)
      ·
        show j_W 46 d 0 0 0 0 39 [some (.ref t), some (.double x), none, some (.int a)] [] w1 ((j_u I (t + 2) ((I t 0).toNatClampNeg) a), (j_u (j_u D (t + 1) ((I t 0).toNatClampNeg) x) t 4 (FP.dadd ((j_u D (t + 1) ((I t 0).toNatClampNeg) x) t 4) x)), RR R) Q
        refine q_goto (tgt := 52) d46_39 rfl ?_
        refine q_aload_n d46_52 rfl ?_
        refine q_dup rfl d46_53 ?_
        refine q_getI d46_54 (fs7_19 46 rfl) rfl (isTl_lt ht) (isTl_sh ht) ?_
        refine q_iconst (v := 1) (by decide) d46_57 ?_
        refine q_iadd d46_58 ?_
        refine q_putI d46_59 (fs7_19 46 rfl) (Or.inl rfl) rfl (isTl_lt ht) (isTl_sh ht) ?_
        exact q_ret d46_62 rfl (Nat.le_refl _) (Nat.le_refl _) (v44 h1t h4f c239 c240 c241 c242 c243 c244 c245)
      ·
        show j_W 46 d 0 0 0 0 39 [some (.ref t), some (.double x), none, some (.int a)] [] w1 ((j_u (j_u I (t + 2) ((I t 0).toNatClampNeg) a) t 9 ((j_u I (t + 2) ((I t 0).toNatClampNeg) a) t 0)), (j_u (j_u (j_u D (t + 1) ((I t 0).toNatClampNeg) x) t 4 (FP.dadd ((j_u D (t + 1) ((I t 0).toNatClampNeg) x) t 4) x)) t 7 x), RR R) Q
        refine q_goto (tgt := 52) d46_39 rfl ?_
        refine q_aload_n d46_52 rfl ?_
        refine q_dup rfl d46_53 ?_
        refine q_getI d46_54 (fs7_19 46 rfl) rfl (isTl_lt ht) (isTl_sh ht) ?_
        refine r_int (y := ((j_u I (t + 2) ((I t 0).toNatClampNeg) a) t 0)) (show (j_u (j_u I (t + 2) ((I t 0).toNatClampNeg) a) t 9 ((j_u I (t + 2) ((I t 0).toNatClampNeg) a) t 0)) t 0 = ((j_u I (t + 2) ((I t 0).toNatClampNeg) a) t 0) from (j_u_k _ _ (by decide))) ?_
        refine q_iconst (v := 1) (by decide) d46_57 ?_
        refine q_iadd d46_58 ?_
        refine q_putI d46_59 (fs7_19 46 rfl) (Or.inl rfl) rfl (isTl_lt ht) (isTl_sh ht) ?_
        exact q_ret d46_62 rfl (Nat.le_refl _) (Nat.le_refl _) (v45 h1t h4f c246 c247 c248 c249 c250 c251 c252)
      ·
        show j_W 46 d 0 0 0 0 39 [some (.ref t), some (.double x), none, some (.int a)] [] w1 ((j_u (j_u (j_u I (t + 2) ((I t 0).toNatClampNeg) a) t 8 ((j_u I (t + 2) ((I t 0).toNatClampNeg) a) t 0)) t 9 ((j_u I (t + 2) ((I t 0).toNatClampNeg) a) t 0)), (j_u (j_u (j_u (j_u D (t + 1) ((I t 0).toNatClampNeg) x) t 4 (FP.dadd ((j_u D (t + 1) ((I t 0).toNatClampNeg) x) t 4) x)) t 6 x) t 7 x), RR R) Q
        refine q_goto (tgt := 52) d46_39 rfl ?_
        refine q_aload_n d46_52 rfl ?_
        refine q_dup rfl d46_53 ?_
        refine q_getI d46_54 (fs7_19 46 rfl) rfl (isTl_lt ht) (isTl_sh ht) ?_
        refine r_int (y := ((j_u I (t + 2) ((I t 0).toNatClampNeg) a) t 0)) (show (j_u (j_u (j_u I (t + 2) ((I t 0).toNatClampNeg) a) t 8 ((j_u I (t + 2) ((I t 0).toNatClampNeg) a) t 0)) t 9 ((j_u I (t + 2) ((I t 0).toNatClampNeg) a) t 0)) t 0 = ((j_u I (t + 2) ((I t 0).toNatClampNeg) a) t 0) from ((j_u_k _ _ (by decide)).trans (j_u_k _ _ (by decide)))) ?_
        refine q_iconst (v := 1) (by decide) d46_57 ?_
        refine q_iadd d46_58 ?_
        refine q_putI d46_59 (fs7_19 46 rfl) (Or.inl rfl) rfl (isTl_lt ht) (isTl_sh ht) ?_
        exact q_ret d46_62 rfl (Nat.le_refl _) (Nat.le_refl _) (v46 h1t h4f c253 c254 c255 c256 c257 c258)
      ·
        show j_W 46 d 0 0 0 0 39 [some (.ref t), some (.double x), none, some (.int a)] [] w1 ((j_u (j_u I (t + 2) ((I t 0).toNatClampNeg) a) t 8 ((j_u I (t + 2) ((I t 0).toNatClampNeg) a) t 0)), (j_u (j_u (j_u D (t + 1) ((I t 0).toNatClampNeg) x) t 4 (FP.dadd ((j_u D (t + 1) ((I t 0).toNatClampNeg) x) t 4) x)) t 6 x), RR R) Q
        refine q_goto (tgt := 52) d46_39 rfl ?_
        refine q_aload_n d46_52 rfl ?_
        refine q_dup rfl d46_53 ?_
        refine q_getI d46_54 (fs7_19 46 rfl) rfl (isTl_lt ht) (isTl_sh ht) ?_
        refine r_int (y := ((j_u I (t + 2) ((I t 0).toNatClampNeg) a) t 0)) (show (j_u (j_u I (t + 2) ((I t 0).toNatClampNeg) a) t 8 ((j_u I (t + 2) ((I t 0).toNatClampNeg) a) t 0)) t 0 = ((j_u I (t + 2) ((I t 0).toNatClampNeg) a) t 0) from (j_u_k _ _ (by decide))) ?_
        refine q_iconst (v := 1) (by decide) d46_57 ?_
        refine q_iadd d46_58 ?_
        refine q_putI d46_59 (fs7_19 46 rfl) (Or.inl rfl) rfl (isTl_lt ht) (isTl_sh ht) ?_
        exact q_ret d46_62 rfl (Nat.le_refl _) (Nat.le_refl _) (v47 h1t h4f c259 c260 c261 c262 c263 c264 c265)
      ·
        show j_W 46 d 0 0 0 0 39 [some (.ref t), some (.double x), none, some (.int a)] [] w1 ((j_u (j_u (j_u I (t + 2) ((I t 0).toNatClampNeg) a) t 8 ((j_u I (t + 2) ((I t 0).toNatClampNeg) a) t 0)) t 9 ((j_u I (t + 2) ((I t 0).toNatClampNeg) a) t 0)), (j_u (j_u (j_u (j_u D (t + 1) ((I t 0).toNatClampNeg) x) t 4 (FP.dadd ((j_u D (t + 1) ((I t 0).toNatClampNeg) x) t 4) x)) t 6 x) t 7 x), RR R) Q
        refine q_goto (tgt := 52) d46_39 rfl ?_
        refine q_aload_n d46_52 rfl ?_
        refine q_dup rfl d46_53 ?_
        refine q_getI d46_54 (fs7_19 46 rfl) rfl (isTl_lt ht) (isTl_sh ht) ?_
        refine r_int (y := ((j_u I (t + 2) ((I t 0).toNatClampNeg) a) t 0)) (show (j_u (j_u (j_u I (t + 2) ((I t 0).toNatClampNeg) a) t 8 ((j_u I (t + 2) ((I t 0).toNatClampNeg) a) t 0)) t 9 ((j_u I (t + 2) ((I t 0).toNatClampNeg) a) t 0)) t 0 = ((j_u I (t + 2) ((I t 0).toNatClampNeg) a) t 0) from ((j_u_k _ _ (by decide)).trans (j_u_k _ _ (by decide)))) ?_
        refine q_iconst (v := 1) (by decide) d46_57 ?_
        refine q_iadd d46_58 ?_
        refine q_putI d46_59 (fs7_19 46 rfl) (Or.inl rfl) rfl (isTl_lt ht) (isTl_sh ht) ?_
        exact q_ret d46_62 rfl (Nat.le_refl _) (Nat.le_refl _) (v48 h1t h4f c266 c267 c268 c269 c270 c271 c272)
      ·
        show j_W 46 d 0 0 0 0 39 [some (.ref t), some (.double x), none, some (.int a)] [] w1 ((j_u (j_u (j_u (j_u I (t + 2) ((I t 0).toNatClampNeg) a) t 5 1) t 8 ((j_u I (t + 2) ((I t 0).toNatClampNeg) a) t 0)) t 9 ((j_u I (t + 2) ((I t 0).toNatClampNeg) a) t 0)), (j_u (j_u (j_u (j_u D (t + 1) ((I t 0).toNatClampNeg) x) t 4 (FP.dadd ((j_u D (t + 1) ((I t 0).toNatClampNeg) x) t 4) x)) t 6 x) t 7 x), RR R) Q
        refine q_goto (tgt := 52) d46_39 rfl ?_
        refine q_aload_n d46_52 rfl ?_
        refine q_dup rfl d46_53 ?_
        refine q_getI d46_54 (fs7_19 46 rfl) rfl (isTl_lt ht) (isTl_sh ht) ?_
        refine r_int (y := ((j_u I (t + 2) ((I t 0).toNatClampNeg) a) t 0)) (show (j_u (j_u (j_u (j_u I (t + 2) ((I t 0).toNatClampNeg) a) t 5 1) t 8 ((j_u I (t + 2) ((I t 0).toNatClampNeg) a) t 0)) t 9 ((j_u I (t + 2) ((I t 0).toNatClampNeg) a) t 0)) t 0 = ((j_u I (t + 2) ((I t 0).toNatClampNeg) a) t 0) from ((j_u_k _ _ (by decide)).trans ((j_u_k _ _ (by decide)).trans (j_u_k _ _ (by decide))))) ?_
        refine q_iconst (v := 1) (by decide) d46_57 ?_
        refine q_iadd d46_58 ?_
        refine q_putI d46_59 (fs7_19 46 rfl) (Or.inl rfl) rfl (isTl_lt ht) (isTl_sh ht) ?_
        exact q_ret d46_62 rfl (Nat.le_refl _) (Nat.le_refl _) (v49 h1t h4f c273 c274 c275 c276 c277)
      ·
        show j_W 46 d 0 0 0 0 39 [some (.ref t), some (.double x), none, some (.int a)] [] w1 ((j_u (j_u (j_u I (t + 2) ((I t 0).toNatClampNeg) a) t 5 1) t 8 ((j_u I (t + 2) ((I t 0).toNatClampNeg) a) t 0)), (j_u (j_u (j_u D (t + 1) ((I t 0).toNatClampNeg) x) t 4 (FP.dadd ((j_u D (t + 1) ((I t 0).toNatClampNeg) x) t 4) x)) t 6 x), RR R) Q
        refine q_goto (tgt := 52) d46_39 rfl ?_
        refine q_aload_n d46_52 rfl ?_
        refine q_dup rfl d46_53 ?_
        refine q_getI d46_54 (fs7_19 46 rfl) rfl (isTl_lt ht) (isTl_sh ht) ?_
        refine r_int (y := ((j_u I (t + 2) ((I t 0).toNatClampNeg) a) t 0)) (show (j_u (j_u (j_u I (t + 2) ((I t 0).toNatClampNeg) a) t 5 1) t 8 ((j_u I (t + 2) ((I t 0).toNatClampNeg) a) t 0)) t 0 = ((j_u I (t + 2) ((I t 0).toNatClampNeg) a) t 0) from ((j_u_k _ _ (by decide)).trans (j_u_k _ _ (by decide)))) ?_
        refine q_iconst (v := 1) (by decide) d46_57 ?_
        refine q_iadd d46_58 ?_
        refine q_putI d46_59 (fs7_19 46 rfl) (Or.inl rfl) rfl (isTl_lt ht) (isTl_sh ht) ?_
        exact q_ret d46_62 rfl (Nat.le_refl _) (Nat.le_refl _) (v50 h1t h4f c278 c279 c280 c281 c282 c283)
      ·
        show j_W 46 d 0 0 0 0 39 [some (.ref t), some (.double x), none, some (.int a)] [] w1 ((j_u (j_u (j_u (j_u I (t + 2) ((I t 0).toNatClampNeg) a) t 5 1) t 8 ((j_u I (t + 2) ((I t 0).toNatClampNeg) a) t 0)) t 9 ((j_u I (t + 2) ((I t 0).toNatClampNeg) a) t 0)), (j_u (j_u (j_u (j_u D (t + 1) ((I t 0).toNatClampNeg) x) t 4 (FP.dadd ((j_u D (t + 1) ((I t 0).toNatClampNeg) x) t 4) x)) t 6 x) t 7 x), RR R) Q
        refine q_goto (tgt := 52) d46_39 rfl ?_
        refine q_aload_n d46_52 rfl ?_
        refine q_dup rfl d46_53 ?_
        refine q_getI d46_54 (fs7_19 46 rfl) rfl (isTl_lt ht) (isTl_sh ht) ?_
        refine r_int (y := ((j_u I (t + 2) ((I t 0).toNatClampNeg) a) t 0)) (show (j_u (j_u (j_u (j_u I (t + 2) ((I t 0).toNatClampNeg) a) t 5 1) t 8 ((j_u I (t + 2) ((I t 0).toNatClampNeg) a) t 0)) t 9 ((j_u I (t + 2) ((I t 0).toNatClampNeg) a) t 0)) t 0 = ((j_u I (t + 2) ((I t 0).toNatClampNeg) a) t 0) from ((j_u_k _ _ (by decide)).trans ((j_u_k _ _ (by decide)).trans (j_u_k _ _ (by decide))))) ?_
        refine q_iconst (v := 1) (by decide) d46_57 ?_
        refine q_iadd d46_58 ?_
        refine q_putI d46_59 (fs7_19 46 rfl) (Or.inl rfl) rfl (isTl_lt ht) (isTl_sh ht) ?_
        exact q_ret d46_62 rfl (Nat.le_refl _) (Nat.le_refl _) (v51 h1t h4f c284 c285 c286 c287 c288 c289)
      ·
        show j_W 46 d 0 0 0 0 39 [some (.ref t), some (.double x), none, some (.int a)] [] w1 ((j_u (j_u (j_u I (t + 2) ((I t 0).toNatClampNeg) a) t 5 1) t 9 ((j_u I (t + 2) ((I t 0).toNatClampNeg) a) t 0)), (j_u (j_u (j_u D (t + 1) ((I t 0).toNatClampNeg) x) t 4 (FP.dadd ((j_u D (t + 1) ((I t 0).toNatClampNeg) x) t 4) x)) t 7 x), RR R) Q
        refine q_goto (tgt := 52) d46_39 rfl ?_
        refine q_aload_n d46_52 rfl ?_
        refine q_dup rfl d46_53 ?_
        refine q_getI d46_54 (fs7_19 46 rfl) rfl (isTl_lt ht) (isTl_sh ht) ?_
        refine r_int (y := ((j_u I (t + 2) ((I t 0).toNatClampNeg) a) t 0)) (show (j_u (j_u (j_u I (t + 2) ((I t 0).toNatClampNeg) a) t 5 1) t 9 ((j_u I (t + 2) ((I t 0).toNatClampNeg) a) t 0)) t 0 = ((j_u I (t + 2) ((I t 0).toNatClampNeg) a) t 0) from ((j_u_k _ _ (by decide)).trans (j_u_k _ _ (by decide)))) ?_
        refine q_iconst (v := 1) (by decide) d46_57 ?_
        refine q_iadd d46_58 ?_
        refine q_putI d46_59 (fs7_19 46 rfl) (Or.inl rfl) rfl (isTl_lt ht) (isTl_sh ht) ?_
        exact q_ret d46_62 rfl (Nat.le_refl _) (Nat.le_refl _) (v52 h1t h4f c290 c291 c292 c293 c294 c295)
      ·
        show j_W 46 d 0 0 0 0 39 [some (.ref t), some (.double x), none, some (.int a)] [] w1 ((j_u (j_u I (t + 2) ((I t 0).toNatClampNeg) a) t 5 1), (j_u (j_u D (t + 1) ((I t 0).toNatClampNeg) x) t 4 (FP.dadd ((j_u D (t + 1) ((I t 0).toNatClampNeg) x) t 4) x)), RR R) Q
        refine q_goto (tgt := 52) d46_39 rfl ?_
        refine q_aload_n d46_52 rfl ?_
        refine q_dup rfl d46_53 ?_
        refine q_getI d46_54 (fs7_19 46 rfl) rfl (isTl_lt ht) (isTl_sh ht) ?_
        refine r_int (y := ((j_u I (t + 2) ((I t 0).toNatClampNeg) a) t 0)) (show (j_u (j_u I (t + 2) ((I t 0).toNatClampNeg) a) t 5 1) t 0 = ((j_u I (t + 2) ((I t 0).toNatClampNeg) a) t 0) from (j_u_k _ _ (by decide))) ?_
        refine q_iconst (v := 1) (by decide) d46_57 ?_
        refine q_iadd d46_58 ?_
        refine q_putI d46_59 (fs7_19 46 rfl) (Or.inl rfl) rfl (isTl_lt ht) (isTl_sh ht) ?_
        exact q_ret d46_62 rfl (Nat.le_refl _) (Nat.le_refl _) (v53 h1t h4f c296 c297 c298 c299 c300 c301 c302)
      ·
        show j_W 46 d 0 0 0 0 39 [some (.ref t), some (.double x), none, some (.int a)] [] w1 ((j_u (j_u (j_u I (t + 2) ((I t 0).toNatClampNeg) a) t 5 1) t 9 ((j_u I (t + 2) ((I t 0).toNatClampNeg) a) t 0)), (j_u (j_u (j_u D (t + 1) ((I t 0).toNatClampNeg) x) t 4 (FP.dadd ((j_u D (t + 1) ((I t 0).toNatClampNeg) x) t 4) x)) t 7 x), RR R) Q
        refine q_goto (tgt := 52) d46_39 rfl ?_
        refine q_aload_n d46_52 rfl ?_
        refine q_dup rfl d46_53 ?_
        refine q_getI d46_54 (fs7_19 46 rfl) rfl (isTl_lt ht) (isTl_sh ht) ?_
        refine r_int (y := ((j_u I (t + 2) ((I t 0).toNatClampNeg) a) t 0)) (show (j_u (j_u (j_u I (t + 2) ((I t 0).toNatClampNeg) a) t 5 1) t 9 ((j_u I (t + 2) ((I t 0).toNatClampNeg) a) t 0)) t 0 = ((j_u I (t + 2) ((I t 0).toNatClampNeg) a) t 0) from ((j_u_k _ _ (by decide)).trans (j_u_k _ _ (by decide)))) ?_
        refine q_iconst (v := 1) (by decide) d46_57 ?_
        refine q_iadd d46_58 ?_
        refine q_putI d46_59 (fs7_19 46 rfl) (Or.inl rfl) rfl (isTl_lt ht) (isTl_sh ht) ?_
        exact q_ret d46_62 rfl (Nat.le_refl _) (Nat.le_refl _) (v54 h1t h4f c303 c304 c305 c306 c307 c308 c309)
      ·
        show j_W 46 d 0 0 0 0 39 [some (.ref t), some (.double x), none, some (.int a)] [] w1 ((j_u (j_u (j_u (j_u I (t + 2) ((I t 0).toNatClampNeg) a) t 5 1) t 8 ((j_u I (t + 2) ((I t 0).toNatClampNeg) a) t 0)) t 9 ((j_u I (t + 2) ((I t 0).toNatClampNeg) a) t 0)), (j_u (j_u (j_u (j_u D (t + 1) ((I t 0).toNatClampNeg) x) t 4 (FP.dadd ((j_u D (t + 1) ((I t 0).toNatClampNeg) x) t 4) x)) t 6 x) t 7 x), RR R) Q
        refine q_goto (tgt := 52) d46_39 rfl ?_
        refine q_aload_n d46_52 rfl ?_
        refine q_dup rfl d46_53 ?_
        refine q_getI d46_54 (fs7_19 46 rfl) rfl (isTl_lt ht) (isTl_sh ht) ?_
        refine r_int (y := ((j_u I (t + 2) ((I t 0).toNatClampNeg) a) t 0)) (show (j_u (j_u (j_u (j_u I (t + 2) ((I t 0).toNatClampNeg) a) t 5 1) t 8 ((j_u I (t + 2) ((I t 0).toNatClampNeg) a) t 0)) t 9 ((j_u I (t + 2) ((I t 0).toNatClampNeg) a) t 0)) t 0 = ((j_u I (t + 2) ((I t 0).toNatClampNeg) a) t 0) from ((j_u_k _ _ (by decide)).trans ((j_u_k _ _ (by decide)).trans (j_u_k _ _ (by decide))))) ?_
        refine q_iconst (v := 1) (by decide) d46_57 ?_
        refine q_iadd d46_58 ?_
        refine q_putI d46_59 (fs7_19 46 rfl) (Or.inl rfl) rfl (isTl_lt ht) (isTl_sh ht) ?_
        exact q_ret d46_62 rfl (Nat.le_refl _) (Nat.le_refl _) (v55 h1t h4f c310 c311 c312 c313 c314 c315)
      ·
        show j_W 46 d 0 0 0 0 39 [some (.ref t), some (.double x), none, some (.int a)] [] w1 ((j_u (j_u (j_u I (t + 2) ((I t 0).toNatClampNeg) a) t 5 1) t 8 ((j_u I (t + 2) ((I t 0).toNatClampNeg) a) t 0)), (j_u (j_u (j_u D (t + 1) ((I t 0).toNatClampNeg) x) t 4 (FP.dadd ((j_u D (t + 1) ((I t 0).toNatClampNeg) x) t 4) x)) t 6 x), RR R) Q
        refine q_goto (tgt := 52) d46_39 rfl ?_
        refine q_aload_n d46_52 rfl ?_
        refine q_dup rfl d46_53 ?_
        refine q_getI d46_54 (fs7_19 46 rfl) rfl (isTl_lt ht) (isTl_sh ht) ?_
        refine r_int (y := ((j_u I (t + 2) ((I t 0).toNatClampNeg) a) t 0)) (show (j_u (j_u (j_u I (t + 2) ((I t 0).toNatClampNeg) a) t 5 1) t 8 ((j_u I (t + 2) ((I t 0).toNatClampNeg) a) t 0)) t 0 = ((j_u I (t + 2) ((I t 0).toNatClampNeg) a) t 0) from ((j_u_k _ _ (by decide)).trans (j_u_k _ _ (by decide)))) ?_
        refine q_iconst (v := 1) (by decide) d46_57 ?_
        refine q_iadd d46_58 ?_
        refine q_putI d46_59 (fs7_19 46 rfl) (Or.inl rfl) rfl (isTl_lt ht) (isTl_sh ht) ?_
        exact q_ret d46_62 rfl (Nat.le_refl _) (Nat.le_refl _) (v56 h1t h4f c316 c317 c318 c319 c320 c321 c322)
      ·
        show j_W 46 d 0 0 0 0 39 [some (.ref t), some (.double x), none, some (.int a)] [] w1 ((j_u (j_u (j_u (j_u I (t + 2) ((I t 0).toNatClampNeg) a) t 5 1) t 8 ((j_u I (t + 2) ((I t 0).toNatClampNeg) a) t 0)) t 9 ((j_u I (t + 2) ((I t 0).toNatClampNeg) a) t 0)), (j_u (j_u (j_u (j_u D (t + 1) ((I t 0).toNatClampNeg) x) t 4 (FP.dadd ((j_u D (t + 1) ((I t 0).toNatClampNeg) x) t 4) x)) t 6 x) t 7 x), RR R) Q
        refine q_goto (tgt := 52) d46_39 rfl ?_
        refine q_aload_n d46_52 rfl ?_
        refine q_dup rfl d46_53 ?_
        refine q_getI d46_54 (fs7_19 46 rfl) rfl (isTl_lt ht) (isTl_sh ht) ?_
        refine r_int (y := ((j_u I (t + 2) ((I t 0).toNatClampNeg) a) t 0)) (show (j_u (j_u (j_u (j_u I (t + 2) ((I t 0).toNatClampNeg) a) t 5 1) t 8 ((j_u I (t + 2) ((I t 0).toNatClampNeg) a) t 0)) t 9 ((j_u I (t + 2) ((I t 0).toNatClampNeg) a) t 0)) t 0 = ((j_u I (t + 2) ((I t 0).toNatClampNeg) a) t 0) from ((j_u_k _ _ (by decide)).trans ((j_u_k _ _ (by decide)).trans (j_u_k _ _ (by decide))))) ?_
        refine q_iconst (v := 1) (by decide) d46_57 ?_
        refine q_iadd d46_58 ?_
        refine q_putI d46_59 (fs7_19 46 rfl) (Or.inl rfl) rfl (isTl_lt ht) (isTl_sh ht) ?_
        exact q_ret d46_62 rfl (Nat.le_refl _) (Nat.le_refl _) (v57 h1t h4f c323 c324 c325 c326 c327 c328 c329)
  ·
    exact q_ret d46_9 rfl (Nat.le_refl _) (Nat.le_refl _) (v58 h1f)

set_option maxRecDepth 10000 in
set_option maxHeartbeats 4000000 in
theorem s48 {d : Nat} {I : Nat → Nat → Int32} {D : Nat → Nat → UInt64} {R : Nat → Nat → Option Nat} {Q : j_Po} {t : Nat} {a : Int32}  (ht : isTl t) (hd : 0 ≤ d)
    (v1 : (a < 1) → (1 < a) → Q (some (.int 0)) w1 (I, D, RR R))
    (v2 : (a < 1) → (¬ 1 < a) → ((I t 5) = 0) → Q (some (.int 0)) w1 (I, D, RR R))
    (v3 : (a < 1) → (¬ 1 < a) → (¬ (I t 5) = 0) → Q (some (.int 3)) w1 (I, D, RR R))
    (v4 : (¬ a < 1) → (3 < a) → (1 < a) → Q (some (.int 0)) w1 (I, D, RR R))
    (v5 : (¬ a < 1) → (3 < a) → (¬ 1 < a) → ((I t 5) = 0) → Q (some (.int 0)) w1 (I, D, RR R))
    (v6 : (¬ a < 1) → (3 < a) → (¬ 1 < a) → (¬ (I t 5) = 0) → Q (some (.int 3)) w1 (I, D, RR R))
    (v7 : (¬ a < 1) → (¬ 3 < a) → (1 ≤ ((I t 0) - (I t 3))) → (1 < a) → Q (some (.int 0)) w1 (I, D, RR R))
    (v8 : (¬ a < 1) → (¬ 3 < a) → (1 ≤ ((I t 0) - (I t 3))) → (¬ 1 < a) → ((I t 5) = 0) → Q (some (.int 0)) w1 (I, D, RR R))
    (v9 : (¬ a < 1) → (¬ 3 < a) → (1 ≤ ((I t 0) - (I t 3))) → (¬ 1 < a) → (¬ (I t 5) = 0) → Q (some (.int 3)) w1 (I, D, RR R))
    (v10 : (¬ a < 1) → (¬ 3 < a) → (¬ 1 ≤ ((I t 0) - (I t 3))) → Q (some (.int 4)) w1 (I, D, RR R)) : j_Call d 48 [.ref t, .int a] w1 (I, D, RR R) 0 0 Q := by
  refine q_enter (L := [some (.ref t), some (.int a)]) j_m48 (Nat.le_of_ble_eq_true rfl) rfl ?_
  refine q_iload_n d48_0 rfl ?_
  refine q_iconst (v := 1) (by decide) d48_1 ?_
  refine q_icmp_lt (tgt := 25) d48_2 rfl (fun h1t => ?_) (fun h1f => ?_)
  ·
    refine q_iload_n d48_25 rfl ?_
    refine q_iconst (v := 1) (by decide) d48_26 ?_
    refine q_icmp_gt (tgt := 41) d48_27 rfl (fun h2t => ?_) (fun h2f => ?_)
    ·
      refine q_iconst (v := 0) (by decide) d48_41 ?_
      exact q_iret d48_42 rfl (Nat.le_refl _) (Nat.le_refl _) (v1 h1t h2t)
    ·
      refine q_aload_n d48_30 rfl ?_
      refine q_getI d48_31 (fs7_30 48 rfl) rfl (isTl_lt ht) (isTl_sh ht) ?_
      refine q_if_eq (tgt := 41) d48_34 rfl (fun h3t => ?_) (fun h3f => ?_)
      ·
        refine q_iconst (v := 0) (by decide) d48_41 ?_
        exact q_iret d48_42 rfl (Nat.le_refl _) (Nat.le_refl _) (v2 h1t h2f h3t)
      ·
        refine q_iconst (v := 3) (by decide) d48_37 ?_
        refine q_goto (tgt := 42) d48_38 rfl ?_
        exact q_iret d48_42 rfl (Nat.le_refl _) (Nat.le_refl _) (v3 h1t h2f h3f)
  ·
    refine q_iload_n d48_5 rfl ?_
    refine q_iconst (v := 3) (by decide) d48_6 ?_
    refine q_icmp_gt (tgt := 25) d48_7 rfl (fun h4t => ?_) (fun h4f => ?_)
    ·
      refine q_iload_n d48_25 rfl ?_
      refine q_iconst (v := 1) (by decide) d48_26 ?_
      refine q_icmp_gt (tgt := 41) d48_27 rfl (fun h5t => ?_) (fun h5f => ?_)
      ·
        refine q_iconst (v := 0) (by decide) d48_41 ?_
        exact q_iret d48_42 rfl (Nat.le_refl _) (Nat.le_refl _) (v4 h1f h4t h5t)
      ·
        refine q_aload_n d48_30 rfl ?_
        refine q_getI d48_31 (fs7_30 48 rfl) rfl (isTl_lt ht) (isTl_sh ht) ?_
        refine q_if_eq (tgt := 41) d48_34 rfl (fun h6t => ?_) (fun h6f => ?_)
        ·
          refine q_iconst (v := 0) (by decide) d48_41 ?_
          exact q_iret d48_42 rfl (Nat.le_refl _) (Nat.le_refl _) (v5 h1f h4t h5f h6t)
        ·
          refine q_iconst (v := 3) (by decide) d48_37 ?_
          refine q_goto (tgt := 42) d48_38 rfl ?_
          exact q_iret d48_42 rfl (Nat.le_refl _) (Nat.le_refl _) (v6 h1f h4t h5f h6f)
    ·
      refine q_aload_n d48_10 rfl ?_
      refine q_getI d48_11 (fs7_19 48 rfl) rfl (isTl_lt ht) (isTl_sh ht) ?_
      refine q_aload_n d48_14 rfl ?_
      refine q_getI d48_15 (fs7_23 48 rfl) rfl (isTl_lt ht) (isTl_sh ht) ?_
      refine q_isub d48_18 ?_
      refine q_iconst (v := 1) (by decide) d48_19 ?_
      refine q_icmp_ge (tgt := 25) d48_20 rfl (fun h7t => ?_) (fun h7f => ?_)
      ·
        refine q_iload_n d48_25 rfl ?_
        refine q_iconst (v := 1) (by decide) d48_26 ?_
        refine q_icmp_gt (tgt := 41) d48_27 rfl (fun h8t => ?_) (fun h8f => ?_)
        ·
          refine q_iconst (v := 0) (by decide) d48_41 ?_
          exact q_iret d48_42 rfl (Nat.le_refl _) (Nat.le_refl _) (v7 h1f h4f h7t h8t)
        ·
          refine q_aload_n d48_30 rfl ?_
          refine q_getI d48_31 (fs7_30 48 rfl) rfl (isTl_lt ht) (isTl_sh ht) ?_
          refine q_if_eq (tgt := 41) d48_34 rfl (fun h9t => ?_) (fun h9f => ?_)
          ·
            refine q_iconst (v := 0) (by decide) d48_41 ?_
            exact q_iret d48_42 rfl (Nat.le_refl _) (Nat.le_refl _) (v8 h1f h4f h7t h8f h9t)
          ·
            refine q_iconst (v := 3) (by decide) d48_37 ?_
            refine q_goto (tgt := 42) d48_38 rfl ?_
            exact q_iret d48_42 rfl (Nat.le_refl _) (Nat.le_refl _) (v9 h1f h4f h7t h8f h9f)
      ·
        refine q_iconst (v := 4) (by decide) d48_23 ?_
        exact q_iret d48_24 rfl (Nat.le_refl _) (Nat.le_refl _) (v10 h1f h4f h7f)

set_option maxRecDepth 10000 in
set_option maxHeartbeats 4000000 in
theorem s49 {d : Nat} {I : Nat → Nat → Int32} {D : Nat → Nat → UInt64} {R : Nat → Nat → Option Nat} {Q : j_Po} {t : Nat} {a : Int32}  (ht : isTl t) (hd : 0 ≤ d)
    (v1 : (a = 0) → Q (some (.double (D t 4))) w1 (I, D, RR R))
    (v2 : (¬ a = 0) → (a = 1) → (1 ≤ ((I t 0) - (I t 3))) → vf_n64 (FP.ddiv (D t 4) (FP.i2d ((I t 0) - (I t 3)))))
    (v3 : (¬ a = 0) → (a = 1) → (1 ≤ ((I t 0) - (I t 3))) → Q (some (.double (FP.ddiv (D t 4) (FP.i2d ((I t 0) - (I t 3)))))) w1 (I, D, RR R))
    (v4 : (¬ a = 0) → (a = 1) → (¬ 1 ≤ ((I t 0) - (I t 3))) → Q (some (.double FP.dconst0)) w1 (I, D, RR R))
    (v5 : (¬ a = 0) → (¬ a = 1) → (a = 2) → Q (some (.double (D t 6))) w1 (I, D, RR R))
    (v6 : (¬ a = 0) → (¬ a = 1) → (¬ a = 2) → (a = 3) → Q (some (.double (D t 7))) w1 (I, D, RR R))
    (v7 : (¬ a = 0) → (¬ a = 1) → (¬ a = 2) → (¬ a = 3) → Q (some (.double (FP.i2d (I t 3)))) w1 (I, D, RR R)) : j_Call d 49 [.ref t, .int a] w1 (I, D, RR R) 0 0 Q := by
  refine q_enter (L := [some (.ref t), some (.int a), none]) j_m49 (Nat.le_of_ble_eq_true rfl) rfl ?_
  refine q_aload_n d49_0 rfl ?_
  refine q_getI d49_1 (fs7_19 49 rfl) rfl (isTl_lt ht) (isTl_sh ht) ?_
  refine q_aload_n d49_4 rfl ?_
  refine q_getI d49_5 (fs7_23 49 rfl) rfl (isTl_lt ht) (isTl_sh ht) ?_
  refine q_isub d49_8 ?_
  refine q_istore_n (L' := [some (.ref t), some (.int a), some (.int ((I t 0) - (I t 3)))]) d49_9 (Nat.le_of_ble_eq_true rfl) rfl ?_
  refine q_iload_n d49_10 rfl ?_
  by_cases h1 : a = 0
  ·
    refine r_int (y := 0) h1 ?_
    refine q_tableIn (tgt := 40) d49_11 (by decide) (by decide) rfl rfl ?_
    refine q_aload_n d49_40 rfl ?_
    refine q_getD d49_41 (fs7_26 49 rfl) rfl (isTl_lt ht) (isTl_sh ht) ?_
    exact q_dret d49_44 rfl (Nat.le_refl _) (Nat.le_refl _) (v1 h1)
  by_cases h2 : a = 1
  ·
    refine r_int (y := 1) h2 ?_
    refine q_tableIn (tgt := 45) d49_11 (by decide) (by decide) rfl rfl ?_
    refine q_iload_n d49_45 rfl ?_
    refine q_iconst (v := 1) (by decide) d49_46 ?_
    refine q_icmp_ge (tgt := 54) d49_47 rfl (fun h3t => ?_) (fun h3f => ?_)
    ·
      refine q_aload_n d49_54 rfl ?_
      refine q_getD d49_55 (fs7_26 49 rfl) rfl (isTl_lt ht) (isTl_sh ht) ?_
      refine q_iload_n d49_58 rfl ?_
      refine q_i2d d49_59 ?_
      refine q_ddiv (v2 h1 h2 h3t) d49_60 ?_
      exact q_dret d49_61 rfl (Nat.le_refl _) (Nat.le_refl _) (v3 h1 h2 h3t)
    ·
      refine q_dconst0 d49_50 ?_
      refine q_goto (tgt := 61) d49_51 rfl ?_
      exact q_dret d49_61 rfl (Nat.le_refl _) (Nat.le_refl _) (v4 h1 h2 h3f)
  by_cases h4 : a = 2
  ·
    refine r_int (y := 2) h4 ?_
    refine q_tableIn (tgt := 62) d49_11 (by decide) (by decide) rfl rfl ?_
    refine q_aload_n d49_62 rfl ?_
    refine q_getD d49_63 (fs7_34 49 rfl) rfl (isTl_lt ht) (isTl_sh ht) ?_
    exact q_dret d49_66 rfl (Nat.le_refl _) (Nat.le_refl _) (v5 h1 h2 h4)
  by_cases h5 : a = 3
  ·
    refine r_int (y := 3) h5 ?_
    refine q_tableIn (tgt := 67) d49_11 (by decide) (by decide) rfl rfl ?_
    refine q_aload_n d49_67 rfl ?_
    refine q_getD d49_68 (fs7_37 49 rfl) rfl (isTl_lt ht) (isTl_sh ht) ?_
    exact q_dret d49_71 rfl (Nat.le_refl _) (Nat.le_refl _) (v6 h1 h2 h4 h5)
  have g6 : (a).toInt < 0 ∨ 3 < (a).toInt := tsw_out2 0 4 (by decide) (fun c hc => by
    have : c = 0 ∨ c = 1 ∨ c = 2 ∨ c = 3 := by omega
    rcases this with rfl | rfl | rfl | rfl
    · exact h1
    · exact h2
    · exact h4
    · exact h5)
  refine q_tableOut (tgt := 72) d49_11 g6 rfl ?_
  refine q_aload_n d49_72 rfl ?_
  refine q_getI d49_73 (fs7_23 49 rfl) rfl (isTl_lt ht) (isTl_sh ht) ?_
  refine q_i2d d49_76 ?_
  exact q_dret d49_77 rfl (Nat.le_refl _) (Nat.le_refl _) (v7 h1 h2 h4 h5)

set_option maxRecDepth 10000 in
set_option maxHeartbeats 4000000 in
theorem s114 {d : Nat} {I : Nat → Nat → Int32} {D : Nat → Nat → UInt64} {R : Nat → Nat → Option Nat} {Q : j_Po} {r : Nat} {a : Int32} {b : Int32}  (hr : isRw r) (hd : 0 ≤ d)
    (v1 : (b < 0) → Q (some (.int 0)) w1 (I, D, RR R))
    (v2 : (¬ b < 0) → ((I r 1) < b) → Q (some (.int 0)) w1 (I, D, RR R))
    (v3 : (¬ b < 0) → (¬ (I r 1) < b) → (a < 0) → Q (some (.int 0)) w1 (I, D, RR R))
    (v4 : (¬ b < 0) → (¬ (I r 1) < b) → (¬ a < 0) → (((I r 1) - b) < a) → Q (some (.int 0)) w1 (I, D, RR R))
    (v5 : (¬ b < 0) → (¬ (I r 1) < b) → (¬ a < 0) → (¬ ((I r 1) - b) < a) → Q (some (.int 1)) w1 (I, D, RR R)) : j_Call d 114 [.ref r, .int a, .int b] w1 (I, D, RR R) 0 0 Q := by
  refine q_enter (L := [some (.ref r), some (.int a), some (.int b)]) j_m114 (Nat.le_of_ble_eq_true rfl) rfl ?_
  refine q_iload_n d114_0 rfl ?_
  refine q_if_lt (tgt := 30) d114_1 rfl (fun h1t => ?_) (fun h1f => ?_)
  ·
    refine q_iconst (v := 0) (by decide) d114_30 ?_
    exact q_zret d114_31 rfl (Or.inl rfl) (Nat.le_refl _) (Nat.le_refl _) (v1 h1t)
  ·
    refine q_iload_n d114_4 rfl ?_
    refine q_aload_n d114_5 rfl ?_
    refine q_getI d114_6 (fs6_23 114 rfl) rfl (isRw_lt hr) (isRw_sh hr) ?_
    refine q_icmp_gt (tgt := 30) d114_9 rfl (fun h2t => ?_) (fun h2f => ?_)
    ·
      refine q_iconst (v := 0) (by decide) d114_30 ?_
      exact q_zret d114_31 rfl (Or.inl rfl) (Nat.le_refl _) (Nat.le_refl _) (v2 h1f h2t)
    ·
      refine q_iload_n d114_12 rfl ?_
      refine q_if_lt (tgt := 30) d114_13 rfl (fun h3t => ?_) (fun h3f => ?_)
      ·
        refine q_iconst (v := 0) (by decide) d114_30 ?_
        exact q_zret d114_31 rfl (Or.inl rfl) (Nat.le_refl _) (Nat.le_refl _) (v3 h1f h2f h3t)
      ·
        refine q_iload_n d114_16 rfl ?_
        refine q_aload_n d114_17 rfl ?_
        refine q_getI d114_18 (fs6_23 114 rfl) rfl (isRw_lt hr) (isRw_sh hr) ?_
        refine q_iload_n d114_21 rfl ?_
        refine q_isub d114_22 ?_
        refine q_icmp_gt (tgt := 30) d114_23 rfl (fun h4t => ?_) (fun h4f => ?_)
        ·
          refine q_iconst (v := 0) (by decide) d114_30 ?_
          exact q_zret d114_31 rfl (Or.inl rfl) (Nat.le_refl _) (Nat.le_refl _) (v4 h1f h2f h3f h4t)
        ·
          refine q_iconst (v := 1) (by decide) d114_26 ?_
          refine q_goto (tgt := 31) d114_27 rfl ?_
          exact q_zret d114_31 rfl (Or.inr rfl) (Nat.le_refl _) (Nat.le_refl _) (v5 h1f h2f h3f h4f)

set_option maxRecDepth 10000 in
set_option maxHeartbeats 4000000 in
theorem s131 {d : Nat} {I : Nat → Nat → Int32} {D : Nat → Nat → UInt64} {R : Nat → Nat → Option Nat} {Q : j_Po} {x : UInt64} {y : UInt64} {z : UInt64}   (hd : 0 ≤ d)
    (v1 : Q none w1 ((j_u (j_u I 106 5 0) 106 6 0), (j_u (j_u (j_u D 106 0 x) 106 1 y) 106 2 z), RR R)) : j_Call d 131 [.ref 106, .double x, .double y, .double z] w1 (I, D, RR R) 0 0 Q := by
  refine q_enter (L := [some (.ref 106), some (.double x), none, some (.double y), none, some (.double z), none]) j_m131 (Nat.le_of_ble_eq_true rfl) rfl ?_
  refine q_aload_n d131_0 rfl ?_
  refine q_dload_n d131_1 rfl ?_
  refine q_putD d131_2 (fs1_7 131 rfl) (Or.inl rfl) rfl (lt_w1 rfl) sh106 ?_
  refine q_aload_n d131_5 rfl ?_
  refine q_dload_n d131_6 rfl ?_
  refine q_putD d131_7 (fs1_13 131 rfl) (Or.inl rfl) rfl (lt_w1 rfl) sh106 ?_
  refine q_aload_n d131_10 rfl ?_
  refine q_dload d131_11 rfl ?_
  refine q_putD d131_13 (fs1_16 131 rfl) (Or.inl rfl) rfl (lt_w1 rfl) sh106 ?_
  refine q_aload_n d131_16 rfl ?_
  refine q_iconst (v := 0) (by decide) d131_17 ?_
  refine q_putI d131_18 (fs1_19 131 rfl) (Or.inl rfl) rfl (lt_w1 rfl) sh106 ?_
  refine q_aload_n d131_21 rfl ?_
  refine q_iconst (v := 0) (by decide) d131_22 ?_
  refine q_putZ d131_23 (fs1_23 131 rfl) (Or.inl rfl) rfl (Or.inl rfl) (lt_w1 rfl) sh106 ?_
  exact q_ret d131_26 rfl (Nat.le_refl _) (Nat.le_refl _) v1

set_option maxRecDepth 10000 in
set_option maxHeartbeats 4000000 in
theorem s134 {d : Nat} {I : Nat → Nat → Int32} {D : Nat → Nat → UInt64} {R : Nat → Nat → Option Nat} {Q : j_Po} {x : UInt64} {y : UInt64}   (hd : 0 ≤ d)
    (v1 : Q none w1 ((j_u I 106 6 1), (j_u (j_u D 106 7 x) 106 8 y), RR R)) : j_Call d 134 [.ref 106, .double x, .double y] w1 (I, D, RR R) 0 0 Q := by
  refine q_enter (L := [some (.ref 106), some (.double x), none, some (.double y), none]) j_m134 (Nat.le_of_ble_eq_true rfl) rfl ?_
  refine q_aload_n d134_0 rfl ?_
  refine q_iconst (v := 1) (by decide) d134_1 ?_
  refine q_putZ d134_2 (fs1_23 134 rfl) (Or.inl rfl) rfl (Or.inr rfl) (lt_w1 rfl) sh106 ?_
  refine q_aload_n d134_5 rfl ?_
  refine q_dload_n d134_6 rfl ?_
  refine q_putD d134_7 (fs1_27 134 rfl) (Or.inl rfl) rfl (lt_w1 rfl) sh106 ?_
  refine q_aload_n d134_10 rfl ?_
  refine q_dload_n d134_11 rfl ?_
  refine q_putD d134_12 (fs1_30 134 rfl) (Or.inl rfl) rfl (lt_w1 rfl) sh106 ?_
  exact q_ret d134_15 rfl (Nat.le_refl _) (Nat.le_refl _) v1

set_option maxRecDepth 10000 in
set_option maxHeartbeats 4000000 in
theorem s133 {d : Nat} {I : Nat → Nat → Int32} {D : Nat → Nat → UInt64} {R : Nat → Nat → Option Nat} {Q : j_Po}    (hd : 1 ≤ d)
    (v1 : (deq (D 106 3) (D 106 2) = false) → (deq (D 106 4) (D 106 2) = false) → Q (some (.int (I 106 6))) w1 (I, D, RR R))
    (v2 : (deq (D 106 3) (D 106 2) = false) → (deq (D 106 4) (D 106 2) = false) → (I 106 6) = 0 ∨ (I 106 6) = 1)
    (v3 : (deq (D 106 3) (D 106 2) = false) → (deq (D 106 4) (D 106 2) = true) → Q (some (.int 1)) w1 ((j_u I 106 6 1), (j_u (j_u D 106 7 (D 106 1)) 106 8 (D 106 4)), RR R))
    (v4 : (deq (D 106 3) (D 106 2) = true) → Q (some (.int 1)) w1 ((j_u I 106 6 1), (j_u (j_u D 106 7 (D 106 0)) 106 8 (D 106 3)), RR R)) : j_Call d 133 [.ref 106] w1 (I, D, RR R) 0 0 Q := by
  refine q_enter (L := [some (.ref 106)]) j_m133 (Nat.le_of_ble_eq_true rfl) rfl ?_
  refine q_aload_n d133_0 rfl ?_
  refine q_getD d133_1 (fs1_33 133 rfl) rfl (lt_w1 rfl) sh106 ?_
  refine q_aload_n d133_4 rfl ?_
  refine q_getD d133_5 (fs1_16 133 rfl) rfl (lt_w1 rfl) sh106 ?_
  refine q_dcmp d133_8 ?_
  refine q_if_ne (tgt := 27) d133_9 rfl (fun h1t => ?_) (fun h1f => ?_)
  ·
    have h1tc : deq (D 106 3) (D 106 2) = false := dc_l_ne_t h1t
    refine q_aload_n d133_27 rfl ?_
    refine q_getD d133_28 (fs1_40 133 rfl) rfl (lt_w1 rfl) sh106 ?_
    refine q_aload_n d133_31 rfl ?_
    refine q_getD d133_32 (fs1_16 133 rfl) rfl (lt_w1 rfl) sh106 ?_
    refine q_dcmp d133_35 ?_
    refine q_if_ne (tgt := 51) d133_36 rfl (fun h2t => ?_) (fun h2f => ?_)
    ·
      have h2tc : deq (D 106 4) (D 106 2) = false := dc_l_ne_t h2t
      refine q_aload_n d133_51 rfl ?_
      refine q_getI d133_52 (fs1_23 133 rfl) rfl (lt_w1 rfl) sh106 ?_
      exact q_zret d133_55 rfl (v2 h1tc h2tc) (Nat.le_refl _) (Nat.le_refl _) (v1 h1tc h2tc)
    ·
      have h2fc : deq (D 106 4) (D 106 2) = true := dc_l_ne_f h2f
      refine q_aload_n d133_39 rfl ?_
      refine q_aload_n d133_40 rfl ?_
      refine q_getD d133_41 (fs1_13 133 rfl) rfl (lt_w1 rfl) sh106 ?_
      refine q_aload_n d133_44 rfl ?_
      refine q_getD d133_45 (fs1_40 133 rfl) rfl (lt_w1 rfl) sh106 ?_
      refine q_invV (o := 106) (ci := 1) (av := [.double (D 106 1), .double (D 106 4)]) (rest := []) (d' := 0) (mc' := 0) (ms' := 0) d133_48 (cv1_36 133 rfl) rfl (by decide) rfl rfl (by omega) (Nat.le_of_ble_eq_true rfl) (Nat.le_of_ble_eq_true rfl) (lt_w1 rfl) sh106 (Nat.le_refl _) (Nat.le_refl _) ?_
      refine s134   (Nat.le_refl _) ?_
      show j_W 133 d 0 0 0 0 51 [some (.ref 106)] [] w1 ((j_u I 106 6 1), (j_u (j_u D 106 7 (D 106 1)) 106 8 (D 106 4)), RR R) Q
      refine q_aload_n d133_51 rfl ?_
      refine q_getI d133_52 (fs1_23 133 rfl) rfl (lt_w1 rfl) sh106 ?_
      refine r_int (y := 1) (show (j_u I 106 6 1) 106 6 = 1 from (j_u_same _ _ _ _)) ?_
      exact q_zret d133_55 rfl (Or.inr rfl) (Nat.le_refl _) (Nat.le_refl _) (v3 h1tc h2fc)
  ·
    have h1fc : deq (D 106 3) (D 106 2) = true := dc_l_ne_f h1f
    refine q_aload_n d133_12 rfl ?_
    refine q_aload_n d133_13 rfl ?_
    refine q_getD d133_14 (fs1_7 133 rfl) rfl (lt_w1 rfl) sh106 ?_
    refine q_aload_n d133_17 rfl ?_
    refine q_getD d133_18 (fs1_33 133 rfl) rfl (lt_w1 rfl) sh106 ?_
    refine q_invV (o := 106) (ci := 1) (av := [.double (D 106 0), .double (D 106 3)]) (rest := []) (d' := 0) (mc' := 0) (ms' := 0) d133_21 (cv1_36 133 rfl) rfl (by decide) rfl rfl (by omega) (Nat.le_of_ble_eq_true rfl) (Nat.le_of_ble_eq_true rfl) (lt_w1 rfl) sh106 (Nat.le_refl _) (Nat.le_refl _) ?_
    refine s134   (Nat.le_refl _) ?_
    show j_W 133 d 0 0 0 0 24 [some (.ref 106)] [] w1 ((j_u I 106 6 1), (j_u (j_u D 106 7 (D 106 0)) 106 8 (D 106 3)), RR R) Q
    refine q_goto (tgt := 51) d133_24 rfl ?_
    refine q_aload_n d133_51 rfl ?_
    refine q_getI d133_52 (fs1_23 133 rfl) rfl (lt_w1 rfl) sh106 ?_
    refine r_int (y := 1) (show (j_u I 106 6 1) 106 6 = 1 from (j_u_same _ _ _ _)) ?_
    exact q_zret d133_55 rfl (Or.inr rfl) (Nat.le_refl _) (Nat.le_refl _) (v4 h1fc)

set_option maxRecDepth 10000 in
set_option maxHeartbeats 4000000 in
theorem s135 {d : Nat} {I : Nat → Nat → Int32} {D : Nat → Nat → UInt64} {R : Nat → Nat → Option Nat} {Q : j_Po}    (hd : 0 ≤ d)
    (v1 : (dlt (D 106 3) (D 106 2) = false) → (dlt (D 106 4) (D 106 2) = false) → Q (some (.int 0)) w1 (I, D, RR R))
    (v2 : (dlt (D 106 3) (D 106 2) = false) → (dlt (D 106 4) (D 106 2) = true) → (dlt (D 106 2) (D 106 3) = false) → Q (some (.int 0)) w1 (I, D, RR R))
    (v3 : (dlt (D 106 3) (D 106 2) = false) → (dlt (D 106 4) (D 106 2) = true) → (dlt (D 106 2) (D 106 3) = true) → Q (some (.int 1)) w1 (I, D, RR R))
    (v4 : (dlt (D 106 3) (D 106 2) = true) → (dlt (D 106 2) (D 106 4) = true) → Q (some (.int 1)) w1 (I, D, RR R))
    (v5 : (dlt (D 106 3) (D 106 2) = true) → (dlt (D 106 2) (D 106 4) = false) → (dlt (D 106 4) (D 106 2) = false) → Q (some (.int 0)) w1 (I, D, RR R))
    (v6 : (dlt (D 106 3) (D 106 2) = true) → (dlt (D 106 2) (D 106 4) = false) → (dlt (D 106 4) (D 106 2) = true) → (dlt (D 106 2) (D 106 3) = false) → Q (some (.int 0)) w1 (I, D, RR R))
    (v7 : (dlt (D 106 3) (D 106 2) = true) → (dlt (D 106 2) (D 106 4) = false) → (dlt (D 106 4) (D 106 2) = true) → (dlt (D 106 2) (D 106 3) = true) → Q (some (.int 1)) w1 (I, D, RR R)) : j_Call d 135 [.ref 106] w1 (I, D, RR R) 0 0 Q := by
  refine q_enter (L := [some (.ref 106)]) j_m135 (Nat.le_of_ble_eq_true rfl) rfl ?_
  refine q_aload_n d135_0 rfl ?_
  refine q_getD d135_1 (fs1_33 135 rfl) rfl (lt_w1 rfl) sh106 ?_
  refine q_aload_n d135_4 rfl ?_
  refine q_getD d135_5 (fs1_16 135 rfl) rfl (lt_w1 rfl) sh106 ?_
  refine q_dcmp d135_8 ?_
  refine q_if_ge (tgt := 24) d135_9 rfl (fun h1t => ?_) (fun h1f => ?_)
  ·
    have h1tc : dlt (D 106 3) (D 106 2) = false := dc_g_ge_t h1t
    refine q_aload_n d135_24 rfl ?_
    refine q_getD d135_25 (fs1_40 135 rfl) rfl (lt_w1 rfl) sh106 ?_
    refine q_aload_n d135_28 rfl ?_
    refine q_getD d135_29 (fs1_16 135 rfl) rfl (lt_w1 rfl) sh106 ?_
    refine q_dcmp d135_32 ?_
    refine q_if_ge (tgt := 52) d135_33 rfl (fun h2t => ?_) (fun h2f => ?_)
    ·
      have h2tc : dlt (D 106 4) (D 106 2) = false := dc_g_ge_t h2t
      refine q_iconst (v := 0) (by decide) d135_52 ?_
      exact q_zret d135_53 rfl (Or.inl rfl) (Nat.le_refl _) (Nat.le_refl _) (v1 h1tc h2tc)
    ·
      have h2fc : dlt (D 106 4) (D 106 2) = true := dc_g_ge_f h2f
      refine q_aload_n d135_36 rfl ?_
      refine q_getD d135_37 (fs1_16 135 rfl) rfl (lt_w1 rfl) sh106 ?_
      refine q_aload_n d135_40 rfl ?_
      refine q_getD d135_41 (fs1_33 135 rfl) rfl (lt_w1 rfl) sh106 ?_
      refine q_dcmp d135_44 ?_
      refine q_if_ge (tgt := 52) d135_45 rfl (fun h3t => ?_) (fun h3f => ?_)
      ·
        have h3tc : dlt (D 106 2) (D 106 3) = false := dc_g_ge_t h3t
        refine q_iconst (v := 0) (by decide) d135_52 ?_
        exact q_zret d135_53 rfl (Or.inl rfl) (Nat.le_refl _) (Nat.le_refl _) (v2 h1tc h2fc h3tc)
      ·
        have h3fc : dlt (D 106 2) (D 106 3) = true := dc_g_ge_f h3f
        refine q_iconst (v := 1) (by decide) d135_48 ?_
        refine q_goto (tgt := 53) d135_49 rfl ?_
        exact q_zret d135_53 rfl (Or.inr rfl) (Nat.le_refl _) (Nat.le_refl _) (v3 h1tc h2fc h3fc)
  ·
    have h1fc : dlt (D 106 3) (D 106 2) = true := dc_g_ge_f h1f
    refine q_aload_n d135_12 rfl ?_
    refine q_getD d135_13 (fs1_16 135 rfl) rfl (lt_w1 rfl) sh106 ?_
    refine q_aload_n d135_16 rfl ?_
    refine q_getD d135_17 (fs1_40 135 rfl) rfl (lt_w1 rfl) sh106 ?_
    refine q_dcmp d135_20 ?_
    refine q_if_lt (tgt := 48) d135_21 rfl (fun h4t => ?_) (fun h4f => ?_)
    ·
      have h4tc : dlt (D 106 2) (D 106 4) = true := dc_g_lt_t h4t
      refine q_iconst (v := 1) (by decide) d135_48 ?_
      refine q_goto (tgt := 53) d135_49 rfl ?_
      exact q_zret d135_53 rfl (Or.inr rfl) (Nat.le_refl _) (Nat.le_refl _) (v4 h1fc h4tc)
    ·
      have h4fc : dlt (D 106 2) (D 106 4) = false := dc_g_lt_f h4f
      refine q_aload_n d135_24 rfl ?_
      refine q_getD d135_25 (fs1_40 135 rfl) rfl (lt_w1 rfl) sh106 ?_
      refine q_aload_n d135_28 rfl ?_
      refine q_getD d135_29 (fs1_16 135 rfl) rfl (lt_w1 rfl) sh106 ?_
      refine q_dcmp d135_32 ?_
      refine q_if_ge (tgt := 52) d135_33 rfl (fun h5t => ?_) (fun h5f => ?_)
      ·
        have h5tc : dlt (D 106 4) (D 106 2) = false := dc_g_ge_t h5t
        refine q_iconst (v := 0) (by decide) d135_52 ?_
        exact q_zret d135_53 rfl (Or.inl rfl) (Nat.le_refl _) (Nat.le_refl _) (v5 h1fc h4fc h5tc)
      ·
        have h5fc : dlt (D 106 4) (D 106 2) = true := dc_g_ge_f h5f
        refine q_aload_n d135_36 rfl ?_
        refine q_getD d135_37 (fs1_16 135 rfl) rfl (lt_w1 rfl) sh106 ?_
        refine q_aload_n d135_40 rfl ?_
        refine q_getD d135_41 (fs1_33 135 rfl) rfl (lt_w1 rfl) sh106 ?_
        refine q_dcmp d135_44 ?_
        refine q_if_ge (tgt := 52) d135_45 rfl (fun h6t => ?_) (fun h6f => ?_)
        ·
          have h6tc : dlt (D 106 2) (D 106 3) = false := dc_g_ge_t h6t
          refine q_iconst (v := 0) (by decide) d135_52 ?_
          exact q_zret d135_53 rfl (Or.inl rfl) (Nat.le_refl _) (Nat.le_refl _) (v6 h1fc h4fc h5fc h6tc)
        ·
          have h6fc : dlt (D 106 2) (D 106 3) = true := dc_g_ge_f h6f
          refine q_iconst (v := 1) (by decide) d135_48 ?_
          refine q_goto (tgt := 53) d135_49 rfl ?_
          exact q_zret d135_53 rfl (Or.inr rfl) (Nat.le_refl _) (Nat.le_refl _) (v7 h1fc h4fc h5fc h6fc)

set_option maxRecDepth 10000 in
set_option maxHeartbeats 4000000 in
theorem s137 {d : Nat} {I : Nat → Nat → Int32} {D : Nat → Nat → UInt64} {R : Nat → Nat → Option Nat} {Q : j_Po} {x : UInt64}   (hd : 0 ≤ d)
    (v1 : (dgt x (D 106 0) = false) → Q (some (.int 0)) w1 (I, D, RR R))
    (v2 : (dgt x (D 106 0) = true) → (dlt x (D 106 1) = false) → Q (some (.int 0)) w1 (I, D, RR R))
    (v3 : (dgt x (D 106 0) = true) → (dlt x (D 106 1) = true) → Q (some (.int 1)) w1 (I, D, RR R)) : j_Call d 137 [.ref 106, .double x] w1 (I, D, RR R) 0 0 Q := by
  refine q_enter (L := [some (.ref 106), some (.double x), none]) j_m137 (Nat.le_of_ble_eq_true rfl) rfl ?_
  refine q_dload_n d137_0 rfl ?_
  refine q_aload_n d137_1 rfl ?_
  refine q_getD d137_2 (fs1_7 137 rfl) rfl (lt_w1 rfl) sh106 ?_
  refine q_dcmp d137_5 ?_
  refine q_if_le (tgt := 22) d137_6 rfl (fun h1t => ?_) (fun h1f => ?_)
  ·
    have h1tc : dgt x (D 106 0) = false := dc_l_le_t h1t
    refine q_iconst (v := 0) (by decide) d137_22 ?_
    exact q_zret d137_23 rfl (Or.inl rfl) (Nat.le_refl _) (Nat.le_refl _) (v1 h1tc)
  ·
    have h1fc : dgt x (D 106 0) = true := dc_l_le_f h1f
    refine q_dload_n d137_9 rfl ?_
    refine q_aload_n d137_10 rfl ?_
    refine q_getD d137_11 (fs1_13 137 rfl) rfl (lt_w1 rfl) sh106 ?_
    refine q_dcmp d137_14 ?_
    refine q_if_ge (tgt := 22) d137_15 rfl (fun h2t => ?_) (fun h2f => ?_)
    ·
      have h2tc : dlt x (D 106 1) = false := dc_g_ge_t h2t
      refine q_iconst (v := 0) (by decide) d137_22 ?_
      exact q_zret d137_23 rfl (Or.inl rfl) (Nat.le_refl _) (Nat.le_refl _) (v2 h1fc h2tc)
    ·
      have h2fc : dlt x (D 106 1) = true := dc_g_ge_f h2f
      refine q_iconst (v := 1) (by decide) d137_18 ?_
      refine q_goto (tgt := 23) d137_19 rfl ?_
      exact q_zret d137_23 rfl (Or.inr rfl) (Nat.le_refl _) (Nat.le_refl _) (v3 h1fc h2fc)

set_option maxRecDepth 10000 in
set_option maxHeartbeats 4000000 in
theorem s136 {d : Nat} {I : Nat → Nat → Int32} {D : Nat → Nat → UInt64} {R : Nat → Nat → Option Nat} {Q : j_Po} {a : Int32}   (hd : 1 ≤ d)
    (v1 : vf_n64 (FP.dsub (D 106 1) (D 106 0)))
    (v2 : vf_n64 (FP.ddiv (FP.dsub (D 106 1) (D 106 0)) 4611686018427387904))
    (v3 : vf_n64 (FP.dadd (D 106 0) (FP.ddiv (FP.dsub (D 106 1) (D 106 0)) 4611686018427387904)))
    (v4 : vf_n64 (FP.dsub (D 106 4) (D 106 3)))
    (v5 : (a = 0) → Q (some (.double (FP.dadd (D 106 0) (FP.ddiv (FP.dsub (D 106 1) (D 106 0)) 4611686018427387904)))) w1 (I, D, RR R))
    (v6 : (¬ a = 0) → (deq (FP.dsub (D 106 4) (D 106 3)) FP.dconst0 = false) → vf_n64 (FP.dsub (D 106 2) (D 106 3)))
    (v7 : (¬ a = 0) → (deq (FP.dsub (D 106 4) (D 106 3)) FP.dconst0 = false) → vf_n64 (FP.dmul (FP.dsub (D 106 2) (D 106 3)) (FP.dsub (D 106 1) (D 106 0))))
    (v8 : (¬ a = 0) → (deq (FP.dsub (D 106 4) (D 106 3)) FP.dconst0 = false) → vf_n64 (FP.ddiv (FP.dmul (FP.dsub (D 106 2) (D 106 3)) (FP.dsub (D 106 1) (D 106 0))) (FP.dsub (D 106 4) (D 106 3))))
    (v9 : (¬ a = 0) → (deq (FP.dsub (D 106 4) (D 106 3)) FP.dconst0 = false) → vf_n64 (FP.dadd (D 106 0) (FP.ddiv (FP.dmul (FP.dsub (D 106 2) (D 106 3)) (FP.dsub (D 106 1) (D 106 0))) (FP.dsub (D 106 4) (D 106 3)))))
    (v10 : (¬ a = 0) → (deq (FP.dsub (D 106 4) (D 106 3)) FP.dconst0 = false) → (dgt (FP.dadd (D 106 0) (FP.ddiv (FP.dmul (FP.dsub (D 106 2) (D 106 3)) (FP.dsub (D 106 1) (D 106 0))) (FP.dsub (D 106 4) (D 106 3)))) (D 106 0) = false) → Q (some (.double (FP.dadd (D 106 0) (FP.ddiv (FP.dsub (D 106 1) (D 106 0)) 4611686018427387904)))) w1 (I, D, RR R))
    (v11 : (¬ a = 0) → (deq (FP.dsub (D 106 4) (D 106 3)) FP.dconst0 = false) → (dgt (FP.dadd (D 106 0) (FP.ddiv (FP.dmul (FP.dsub (D 106 2) (D 106 3)) (FP.dsub (D 106 1) (D 106 0))) (FP.dsub (D 106 4) (D 106 3)))) (D 106 0) = true) → (dlt (FP.dadd (D 106 0) (FP.ddiv (FP.dmul (FP.dsub (D 106 2) (D 106 3)) (FP.dsub (D 106 1) (D 106 0))) (FP.dsub (D 106 4) (D 106 3)))) (D 106 1) = false) → Q (some (.double (FP.dadd (D 106 0) (FP.ddiv (FP.dsub (D 106 1) (D 106 0)) 4611686018427387904)))) w1 (I, D, RR R))
    (v12 : (¬ a = 0) → (deq (FP.dsub (D 106 4) (D 106 3)) FP.dconst0 = false) → (dgt (FP.dadd (D 106 0) (FP.ddiv (FP.dmul (FP.dsub (D 106 2) (D 106 3)) (FP.dsub (D 106 1) (D 106 0))) (FP.dsub (D 106 4) (D 106 3)))) (D 106 0) = true) → (dlt (FP.dadd (D 106 0) (FP.ddiv (FP.dmul (FP.dsub (D 106 2) (D 106 3)) (FP.dsub (D 106 1) (D 106 0))) (FP.dsub (D 106 4) (D 106 3)))) (D 106 1) = true) → Q (some (.double (FP.dadd (D 106 0) (FP.ddiv (FP.dmul (FP.dsub (D 106 2) (D 106 3)) (FP.dsub (D 106 1) (D 106 0))) (FP.dsub (D 106 4) (D 106 3)))))) w1 (I, D, RR R))
    (v13 : (¬ a = 0) → (deq (FP.dsub (D 106 4) (D 106 3)) FP.dconst0 = true) → Q (some (.double (FP.dadd (D 106 0) (FP.ddiv (FP.dsub (D 106 1) (D 106 0)) 4611686018427387904)))) w1 (I, D, RR R)) : j_Call d 136 [.ref 106, .int a] w1 (I, D, RR R) 0 0 Q := by
  refine q_enter (L := [some (.ref 106), some (.int a), none, none, none, none, none, none]) j_m136 (Nat.le_of_ble_eq_true rfl) rfl ?_
  refine q_aload_n d136_0 rfl ?_
  refine q_getD d136_1 (fs1_7 136 rfl) rfl (lt_w1 rfl) sh106 ?_
  refine q_aload_n d136_4 rfl ?_
  refine q_getD d136_5 (fs1_13 136 rfl) rfl (lt_w1 rfl) sh106 ?_
  refine q_aload_n d136_8 rfl ?_
  refine q_getD d136_9 (fs1_7 136 rfl) rfl (lt_w1 rfl) sh106 ?_
  refine q_dsub v1 d136_12 ?_
  refine q_ldcD (v := 4611686018427387904) d136_13 (kc1_43 136 rfl) ?_
  refine q_ddiv v2 d136_16 ?_
  refine q_dadd v3 d136_17 ?_
  refine q_dstore_n (L' := [some (.ref 106), some (.int a), some (.double (FP.dadd (D 106 0) (FP.ddiv (FP.dsub (D 106 1) (D 106 0)) 4611686018427387904))), none, none, none, none, none]) d136_18 (Nat.le_of_ble_eq_true rfl) rfl ?_
  refine q_aload_n d136_19 rfl ?_
  refine q_getD d136_20 (fs1_40 136 rfl) rfl (lt_w1 rfl) sh106 ?_
  refine q_aload_n d136_23 rfl ?_
  refine q_getD d136_24 (fs1_33 136 rfl) rfl (lt_w1 rfl) sh106 ?_
  refine q_dsub v4 d136_27 ?_
  refine q_dstore (L' := [some (.ref 106), some (.int a), some (.double (FP.dadd (D 106 0) (FP.ddiv (FP.dsub (D 106 1) (D 106 0)) 4611686018427387904))), none, some (.double (FP.dsub (D 106 4) (D 106 3))), none, none, none]) d136_28 (Nat.le_of_ble_eq_true rfl) rfl ?_
  refine q_iload_n d136_30 rfl ?_
  refine q_if_eq (tgt := 41) d136_31 rfl (fun h1t => ?_) (fun h1f => ?_)
  ·
    refine q_dload_n d136_41 rfl ?_
    exact q_dret d136_42 rfl (Nat.le_refl _) (Nat.le_refl _) (v5 h1t)
  ·
    refine q_dload d136_34 rfl ?_
    refine q_dconst0 d136_36 ?_
    refine q_dcmp d136_37 ?_
    refine q_if_ne (tgt := 43) d136_38 rfl (fun h2t => ?_) (fun h2f => ?_)
    ·
      have h2tc : deq (FP.dsub (D 106 4) (D 106 3)) FP.dconst0 = false := dc_l_ne_t h2t
      refine q_aload_n d136_43 rfl ?_
      refine q_getD d136_44 (fs1_7 136 rfl) rfl (lt_w1 rfl) sh106 ?_
      refine q_aload_n d136_47 rfl ?_
      refine q_getD d136_48 (fs1_16 136 rfl) rfl (lt_w1 rfl) sh106 ?_
      refine q_aload_n d136_51 rfl ?_
      refine q_getD d136_52 (fs1_33 136 rfl) rfl (lt_w1 rfl) sh106 ?_
      refine q_dsub (v6 h1f h2tc) d136_55 ?_
      refine q_aload_n d136_56 rfl ?_
      refine q_getD d136_57 (fs1_13 136 rfl) rfl (lt_w1 rfl) sh106 ?_
      refine q_aload_n d136_60 rfl ?_
      refine q_getD d136_61 (fs1_7 136 rfl) rfl (lt_w1 rfl) sh106 ?_
      refine q_dsub v1 d136_64 ?_
      refine q_dmul (v7 h1f h2tc) d136_65 ?_
      refine q_dload d136_66 rfl ?_
      refine q_ddiv (v8 h1f h2tc) d136_68 ?_
      refine q_dadd (v9 h1f h2tc) d136_69 ?_
      refine q_dstore (L' := [some (.ref 106), some (.int a), some (.double (FP.dadd (D 106 0) (FP.ddiv (FP.dsub (D 106 1) (D 106 0)) 4611686018427387904))), none, some (.double (FP.dsub (D 106 4) (D 106 3))), none, some (.double (FP.dadd (D 106 0) (FP.ddiv (FP.dmul (FP.dsub (D 106 2) (D 106 3)) (FP.dsub (D 106 1) (D 106 0))) (FP.dsub (D 106 4) (D 106 3))))), none]) d136_70 (Nat.le_of_ble_eq_true rfl) rfl ?_
      refine q_aload_n d136_72 rfl ?_
      refine q_dload d136_73 rfl ?_
      refine q_invV (o := 106) (ci := 1) (av := [.double (FP.dadd (D 106 0) (FP.ddiv (FP.dmul (FP.dsub (D 106 2) (D 106 3)) (FP.dsub (D 106 1) (D 106 0))) (FP.dsub (D 106 4) (D 106 3))))]) (rest := []) (d' := 0) (mc' := 0) (ms' := 0) d136_75 (cv1_45 136 rfl) rfl (by decide) rfl rfl (by omega) (Nat.le_of_ble_eq_true rfl) (Nat.le_of_ble_eq_true rfl) (lt_w1 rfl) sh106 (Nat.le_refl _) (Nat.le_refl _) ?_
      refine s137   (Nat.le_refl _) (fun c3 => ?_) (fun c4 c5 => ?_) (fun c6 c7 => ?_)
      ·
        show j_W 136 d 0 0 0 0 78 [some (.ref 106), some (.int a), some (.double (FP.dadd (D 106 0) (FP.ddiv (FP.dsub (D 106 1) (D 106 0)) 4611686018427387904))), none, some (.double (FP.dsub (D 106 4) (D 106 3))), none, some (.double (FP.dadd (D 106 0) (FP.ddiv (FP.dmul (FP.dsub (D 106 2) (D 106 3)) (FP.dsub (D 106 1) (D 106 0))) (FP.dsub (D 106 4) (D 106 3))))), none] [.int 0] w1 (I, D, RR R) Q
        refine q_if_eq (tgt := 86) d136_78 rfl (fun _ => ?_) (fun h => absurd h (by decide))
        refine q_dload_n d136_86 rfl ?_
        exact q_dret d136_87 rfl (Nat.le_refl _) (Nat.le_refl _) (v10 h1f h2tc c3)
      ·
        show j_W 136 d 0 0 0 0 78 [some (.ref 106), some (.int a), some (.double (FP.dadd (D 106 0) (FP.ddiv (FP.dsub (D 106 1) (D 106 0)) 4611686018427387904))), none, some (.double (FP.dsub (D 106 4) (D 106 3))), none, some (.double (FP.dadd (D 106 0) (FP.ddiv (FP.dmul (FP.dsub (D 106 2) (D 106 3)) (FP.dsub (D 106 1) (D 106 0))) (FP.dsub (D 106 4) (D 106 3))))), none] [.int 0] w1 (I, D, RR R) Q
        refine q_if_eq (tgt := 86) d136_78 rfl (fun _ => ?_) (fun h => absurd h (by decide))
        refine q_dload_n d136_86 rfl ?_
        exact q_dret d136_87 rfl (Nat.le_refl _) (Nat.le_refl _) (v11 h1f h2tc c4 c5)
      ·
        show j_W 136 d 0 0 0 0 78 [some (.ref 106), some (.int a), some (.double (FP.dadd (D 106 0) (FP.ddiv (FP.dsub (D 106 1) (D 106 0)) 4611686018427387904))), none, some (.double (FP.dsub (D 106 4) (D 106 3))), none, some (.double (FP.dadd (D 106 0) (FP.ddiv (FP.dmul (FP.dsub (D 106 2) (D 106 3)) (FP.dsub (D 106 1) (D 106 0))) (FP.dsub (D 106 4) (D 106 3))))), none] [.int 1] w1 (I, D, RR R) Q
        refine q_if_eq (tgt := 86) d136_78 rfl (fun h => absurd h (by decide)) (fun _ => ?_)
        refine q_dload d136_81 rfl ?_
        refine q_goto (tgt := 87) d136_83 rfl ?_
        exact q_dret d136_87 rfl (Nat.le_refl _) (Nat.le_refl _) (v12 h1f h2tc c6 c7)
    ·
      have h2fc : deq (FP.dsub (D 106 4) (D 106 3)) FP.dconst0 = true := dc_l_ne_f h2f
      refine q_dload_n d136_41 rfl ?_
      exact q_dret d136_42 rfl (Nat.le_refl _) (Nat.le_refl _) (v13 h1f h2fc)

set_option maxRecDepth 10000 in
set_option maxHeartbeats 4000000 in
theorem s138 {d : Nat} {I : Nat → Nat → Int32} {D : Nat → Nat → UInt64} {R : Nat → Nat → Option Nat} {Q : j_Po} {x : UInt64} {y : UInt64}   (hd : 0 ≤ d)
    (v1 : vf_n64 (FP.dsub (D 106 1) (D 106 0)))
    (v2 : (dlt y (D 106 2) = false) → (dlt (D 106 3) (D 106 2) = false) → vf_n64 (FP.dsub (D 106 1) x))
    (v3 : (dlt y (D 106 2) = false) → (dlt (D 106 3) (D 106 2) = false) → vf_n64 (FP.ddiv (FP.dsub (D 106 1) (D 106 0)) 4611686018427387904))
    (v4 : (dlt y (D 106 2) = false) → (dlt (D 106 3) (D 106 2) = false) → (dle (FP.dsub (D 106 1) x) (FP.ddiv (FP.dsub (D 106 1) (D 106 0)) 4611686018427387904) = false) → Q (some (.int 0)) w1 (I, (j_u (j_u D 106 0 x) 106 3 y), RR R))
    (v5 : (dlt y (D 106 2) = false) → (dlt (D 106 3) (D 106 2) = false) → (dle (FP.dsub (D 106 1) x) (FP.ddiv (FP.dsub (D 106 1) (D 106 0)) 4611686018427387904) = true) → Q (some (.int 1)) w1 (I, (j_u (j_u D 106 0 x) 106 3 y), RR R))
    (v6 : (dlt y (D 106 2) = false) → (dlt (D 106 3) (D 106 2) = true) → vf_n64 (FP.dsub x (D 106 0)))
    (v7 : (dlt y (D 106 2) = false) → (dlt (D 106 3) (D 106 2) = true) → vf_n64 (FP.ddiv (FP.dsub (D 106 1) (D 106 0)) 4611686018427387904))
    (v8 : (dlt y (D 106 2) = false) → (dlt (D 106 3) (D 106 2) = true) → (dle (FP.dsub x (D 106 0)) (FP.ddiv (FP.dsub (D 106 1) (D 106 0)) 4611686018427387904) = false) → Q (some (.int 0)) w1 (I, (j_u (j_u D 106 1 x) 106 4 y), RR R))
    (v9 : (dlt y (D 106 2) = false) → (dlt (D 106 3) (D 106 2) = true) → (dle (FP.dsub x (D 106 0)) (FP.ddiv (FP.dsub (D 106 1) (D 106 0)) 4611686018427387904) = true) → Q (some (.int 1)) w1 (I, (j_u (j_u D 106 1 x) 106 4 y), RR R))
    (v10 : (dlt y (D 106 2) = true) → (dlt (D 106 3) (D 106 2) = false) → vf_n64 (FP.dsub x (D 106 0)))
    (v11 : (dlt y (D 106 2) = true) → (dlt (D 106 3) (D 106 2) = false) → vf_n64 (FP.ddiv (FP.dsub (D 106 1) (D 106 0)) 4611686018427387904))
    (v12 : (dlt y (D 106 2) = true) → (dlt (D 106 3) (D 106 2) = false) → (dle (FP.dsub x (D 106 0)) (FP.ddiv (FP.dsub (D 106 1) (D 106 0)) 4611686018427387904) = false) → Q (some (.int 0)) w1 (I, (j_u (j_u D 106 1 x) 106 4 y), RR R))
    (v13 : (dlt y (D 106 2) = true) → (dlt (D 106 3) (D 106 2) = false) → (dle (FP.dsub x (D 106 0)) (FP.ddiv (FP.dsub (D 106 1) (D 106 0)) 4611686018427387904) = true) → Q (some (.int 1)) w1 (I, (j_u (j_u D 106 1 x) 106 4 y), RR R))
    (v14 : (dlt y (D 106 2) = true) → (dlt (D 106 3) (D 106 2) = true) → vf_n64 (FP.dsub (D 106 1) x))
    (v15 : (dlt y (D 106 2) = true) → (dlt (D 106 3) (D 106 2) = true) → vf_n64 (FP.ddiv (FP.dsub (D 106 1) (D 106 0)) 4611686018427387904))
    (v16 : (dlt y (D 106 2) = true) → (dlt (D 106 3) (D 106 2) = true) → (dle (FP.dsub (D 106 1) x) (FP.ddiv (FP.dsub (D 106 1) (D 106 0)) 4611686018427387904) = false) → Q (some (.int 0)) w1 (I, (j_u (j_u D 106 0 x) 106 3 y), RR R))
    (v17 : (dlt y (D 106 2) = true) → (dlt (D 106 3) (D 106 2) = true) → (dle (FP.dsub (D 106 1) x) (FP.ddiv (FP.dsub (D 106 1) (D 106 0)) 4611686018427387904) = true) → Q (some (.int 1)) w1 (I, (j_u (j_u D 106 0 x) 106 3 y), RR R)) : j_Call d 138 [.ref 106, .double x, .double y] w1 (I, D, RR R) 0 0 Q := by
  refine q_enter (L := [some (.ref 106), some (.double x), none, some (.double y), none, none, none]) j_m138 (Nat.le_of_ble_eq_true rfl) rfl ?_
  refine q_aload_n d138_0 rfl ?_
  refine q_getD d138_1 (fs1_13 138 rfl) rfl (lt_w1 rfl) sh106 ?_
  refine q_aload_n d138_4 rfl ?_
  refine q_getD d138_5 (fs1_7 138 rfl) rfl (lt_w1 rfl) sh106 ?_
  refine q_dsub v1 d138_8 ?_
  refine q_dstore (L' := [some (.ref 106), some (.double x), none, some (.double y), none, some (.double (FP.dsub (D 106 1) (D 106 0))), none]) d138_9 (Nat.le_of_ble_eq_true rfl) rfl ?_
  refine q_dload_n d138_11 rfl ?_
  refine q_aload_n d138_12 rfl ?_
  refine q_getD d138_13 (fs1_16 138 rfl) rfl (lt_w1 rfl) sh106 ?_
  refine q_dcmp d138_16 ?_
  refine q_if_ge (tgt := 24) d138_17 rfl (fun h1t => ?_) (fun h1f => ?_)
  ·
    have h1tc : dlt y (D 106 2) = false := dc_g_ge_t h1t
    refine q_iconst (v := 0) (by decide) d138_24 ?_
    refine q_aload_n d138_25 rfl ?_
    refine q_getD d138_26 (fs1_33 138 rfl) rfl (lt_w1 rfl) sh106 ?_
    refine q_aload_n d138_29 rfl ?_
    refine q_getD d138_30 (fs1_16 138 rfl) rfl (lt_w1 rfl) sh106 ?_
    refine q_dcmp d138_33 ?_
    refine q_if_ge (tgt := 41) d138_34 rfl (fun h2t => ?_) (fun h2f => ?_)
    ·
      have h2tc : dlt (D 106 3) (D 106 2) = false := dc_g_ge_t h2t
      refine q_iconst (v := 0) (by decide) d138_41 ?_
      refine q_icmp_ne (tgt := 58) d138_42 rfl (fun h => absurd h (by decide)) (fun _ => ?_)
      refine q_aload_n d138_45 rfl ?_
      refine q_dload_n d138_46 rfl ?_
      refine q_putD d138_47 (fs1_7 138 rfl) (Or.inl rfl) rfl (lt_w1 rfl) sh106 ?_
      refine q_aload_n d138_50 rfl ?_
      refine q_dload_n d138_51 rfl ?_
      refine q_putD d138_52 (fs1_33 138 rfl) (Or.inl rfl) rfl (lt_w1 rfl) sh106 ?_
      refine q_goto (tgt := 68) d138_55 rfl ?_
      refine q_aload_n d138_68 rfl ?_
      refine q_getD d138_69 (fs1_13 138 rfl) rfl (lt_w1 rfl) sh106 ?_
      refine r_dbl (y := (D 106 1)) (show (j_u (j_u D 106 0 x) 106 3 y) 106 1 = (D 106 1) from ((j_u_k _ _ (by decide)).trans (j_u_k _ _ (by decide)))) ?_
      refine q_aload_n d138_72 rfl ?_
      refine q_getD d138_73 (fs1_7 138 rfl) rfl (lt_w1 rfl) sh106 ?_
      refine r_dbl (y := x) (show (j_u (j_u D 106 0 x) 106 3 y) 106 0 = x from ((j_u_k _ _ (by decide)).trans (j_u_same _ _ _ _))) ?_
      refine q_dsub (v2 h1tc h2tc) d138_76 ?_
      refine q_dload d138_77 rfl ?_
      refine q_ldcD (v := 4611686018427387904) d138_79 (kc1_43 138 rfl) ?_
      refine q_ddiv (v3 h1tc h2tc) d138_82 ?_
      refine q_dcmp d138_83 ?_
      refine q_if_gt (tgt := 91) d138_84 rfl (fun h3t => ?_) (fun h3f => ?_)
      ·
        have h3tc : dle (FP.dsub (D 106 1) x) (FP.ddiv (FP.dsub (D 106 1) (D 106 0)) 4611686018427387904) = false := dc_g_gt_t h3t
        refine q_iconst (v := 0) (by decide) d138_91 ?_
        exact q_zret d138_92 rfl (Or.inl rfl) (Nat.le_refl _) (Nat.le_refl _) (v4 h1tc h2tc h3tc)
      ·
        have h3fc : dle (FP.dsub (D 106 1) x) (FP.ddiv (FP.dsub (D 106 1) (D 106 0)) 4611686018427387904) = true := dc_g_gt_f h3f
        refine q_iconst (v := 1) (by decide) d138_87 ?_
        refine q_goto (tgt := 92) d138_88 rfl ?_
        exact q_zret d138_92 rfl (Or.inr rfl) (Nat.le_refl _) (Nat.le_refl _) (v5 h1tc h2tc h3fc)
    ·
      have h2fc : dlt (D 106 3) (D 106 2) = true := dc_g_ge_f h2f
      refine q_iconst (v := 1) (by decide) d138_37 ?_
      refine q_goto (tgt := 42) d138_38 rfl ?_
      refine q_icmp_ne (tgt := 58) d138_42 rfl (fun _ => ?_) (fun h => absurd h (by decide))
      refine q_aload_n d138_58 rfl ?_
      refine q_dload_n d138_59 rfl ?_
      refine q_putD d138_60 (fs1_13 138 rfl) (Or.inl rfl) rfl (lt_w1 rfl) sh106 ?_
      refine q_aload_n d138_63 rfl ?_
      refine q_dload_n d138_64 rfl ?_
      refine q_putD d138_65 (fs1_40 138 rfl) (Or.inl rfl) rfl (lt_w1 rfl) sh106 ?_
      refine q_aload_n d138_68 rfl ?_
      refine q_getD d138_69 (fs1_13 138 rfl) rfl (lt_w1 rfl) sh106 ?_
      refine r_dbl (y := x) (show (j_u (j_u D 106 1 x) 106 4 y) 106 1 = x from ((j_u_k _ _ (by decide)).trans (j_u_same _ _ _ _))) ?_
      refine q_aload_n d138_72 rfl ?_
      refine q_getD d138_73 (fs1_7 138 rfl) rfl (lt_w1 rfl) sh106 ?_
      refine r_dbl (y := (D 106 0)) (show (j_u (j_u D 106 1 x) 106 4 y) 106 0 = (D 106 0) from ((j_u_k _ _ (by decide)).trans (j_u_k _ _ (by decide)))) ?_
      refine q_dsub (v6 h1tc h2fc) d138_76 ?_
      refine q_dload d138_77 rfl ?_
      refine q_ldcD (v := 4611686018427387904) d138_79 (kc1_43 138 rfl) ?_
      refine q_ddiv (v7 h1tc h2fc) d138_82 ?_
      refine q_dcmp d138_83 ?_
      refine q_if_gt (tgt := 91) d138_84 rfl (fun h4t => ?_) (fun h4f => ?_)
      ·
        have h4tc : dle (FP.dsub x (D 106 0)) (FP.ddiv (FP.dsub (D 106 1) (D 106 0)) 4611686018427387904) = false := dc_g_gt_t h4t
        refine q_iconst (v := 0) (by decide) d138_91 ?_
        exact q_zret d138_92 rfl (Or.inl rfl) (Nat.le_refl _) (Nat.le_refl _) (v8 h1tc h2fc h4tc)
      ·
        have h4fc : dle (FP.dsub x (D 106 0)) (FP.ddiv (FP.dsub (D 106 1) (D 106 0)) 4611686018427387904) = true := dc_g_gt_f h4f
        refine q_iconst (v := 1) (by decide) d138_87 ?_
        refine q_goto (tgt := 92) d138_88 rfl ?_
        exact q_zret d138_92 rfl (Or.inr rfl) (Nat.le_refl _) (Nat.le_refl _) (v9 h1tc h2fc h4fc)
  ·
    have h1fc : dlt y (D 106 2) = true := dc_g_ge_f h1f
    refine q_iconst (v := 1) (by decide) d138_20 ?_
    refine q_goto (tgt := 25) d138_21 rfl ?_
    refine q_aload_n d138_25 rfl ?_
    refine q_getD d138_26 (fs1_33 138 rfl) rfl (lt_w1 rfl) sh106 ?_
    refine q_aload_n d138_29 rfl ?_
    refine q_getD d138_30 (fs1_16 138 rfl) rfl (lt_w1 rfl) sh106 ?_
    refine q_dcmp d138_33 ?_
    refine q_if_ge (tgt := 41) d138_34 rfl (fun h5t => ?_) (fun h5f => ?_)
    ·
      have h5tc : dlt (D 106 3) (D 106 2) = false := dc_g_ge_t h5t
      refine q_iconst (v := 0) (by decide) d138_41 ?_
      refine q_icmp_ne (tgt := 58) d138_42 rfl (fun _ => ?_) (fun h => absurd h (by decide))
      refine q_aload_n d138_58 rfl ?_
      refine q_dload_n d138_59 rfl ?_
      refine q_putD d138_60 (fs1_13 138 rfl) (Or.inl rfl) rfl (lt_w1 rfl) sh106 ?_
      refine q_aload_n d138_63 rfl ?_
      refine q_dload_n d138_64 rfl ?_
      refine q_putD d138_65 (fs1_40 138 rfl) (Or.inl rfl) rfl (lt_w1 rfl) sh106 ?_
      refine q_aload_n d138_68 rfl ?_
      refine q_getD d138_69 (fs1_13 138 rfl) rfl (lt_w1 rfl) sh106 ?_
      refine r_dbl (y := x) (show (j_u (j_u D 106 1 x) 106 4 y) 106 1 = x from ((j_u_k _ _ (by decide)).trans (j_u_same _ _ _ _))) ?_
      refine q_aload_n d138_72 rfl ?_
      refine q_getD d138_73 (fs1_7 138 rfl) rfl (lt_w1 rfl) sh106 ?_
      refine r_dbl (y := (D 106 0)) (show (j_u (j_u D 106 1 x) 106 4 y) 106 0 = (D 106 0) from ((j_u_k _ _ (by decide)).trans (j_u_k _ _ (by decide)))) ?_
      refine q_dsub (v10 h1fc h5tc) d138_76 ?_
      refine q_dload d138_77 rfl ?_
      refine q_ldcD (v := 4611686018427387904) d138_79 (kc1_43 138 rfl) ?_
      refine q_ddiv (v11 h1fc h5tc) d138_82 ?_
      refine q_dcmp d138_83 ?_
      refine q_if_gt (tgt := 91) d138_84 rfl (fun h6t => ?_) (fun h6f => ?_)
      ·
        have h6tc : dle (FP.dsub x (D 106 0)) (FP.ddiv (FP.dsub (D 106 1) (D 106 0)) 4611686018427387904) = false := dc_g_gt_t h6t
        refine q_iconst (v := 0) (by decide) d138_91 ?_
        exact q_zret d138_92 rfl (Or.inl rfl) (Nat.le_refl _) (Nat.le_refl _) (v12 h1fc h5tc h6tc)
      ·
        have h6fc : dle (FP.dsub x (D 106 0)) (FP.ddiv (FP.dsub (D 106 1) (D 106 0)) 4611686018427387904) = true := dc_g_gt_f h6f
        refine q_iconst (v := 1) (by decide) d138_87 ?_
        refine q_goto (tgt := 92) d138_88 rfl ?_
        exact q_zret d138_92 rfl (Or.inr rfl) (Nat.le_refl _) (Nat.le_refl _) (v13 h1fc h5tc h6fc)
    ·
      have h5fc : dlt (D 106 3) (D 106 2) = true := dc_g_ge_f h5f
      refine q_iconst (v := 1) (by decide) d138_37 ?_
      refine q_goto (tgt := 42) d138_38 rfl ?_
      refine q_icmp_ne (tgt := 58) d138_42 rfl (fun h => absurd h (by decide)) (fun _ => ?_)
      refine q_aload_n d138_45 rfl ?_
      refine q_dload_n d138_46 rfl ?_
      refine q_putD d138_47 (fs1_7 138 rfl) (Or.inl rfl) rfl (lt_w1 rfl) sh106 ?_
      refine q_aload_n d138_50 rfl ?_
      refine q_dload_n d138_51 rfl ?_
      refine q_putD d138_52 (fs1_33 138 rfl) (Or.inl rfl) rfl (lt_w1 rfl) sh106 ?_
      refine q_goto (tgt := 68) d138_55 rfl ?_
      refine q_aload_n d138_68 rfl ?_
      refine q_getD d138_69 (fs1_13 138 rfl) rfl (lt_w1 rfl) sh106 ?_
      refine r_dbl (y := (D 106 1)) (show (j_u (j_u D 106 0 x) 106 3 y) 106 1 = (D 106 1) from ((j_u_k _ _ (by decide)).trans (j_u_k _ _ (by decide)))) ?_
      refine q_aload_n d138_72 rfl ?_
      refine q_getD d138_73 (fs1_7 138 rfl) rfl (lt_w1 rfl) sh106 ?_
      refine r_dbl (y := x) (show (j_u (j_u D 106 0 x) 106 3 y) 106 0 = x from ((j_u_k _ _ (by decide)).trans (j_u_same _ _ _ _))) ?_
      refine q_dsub (v14 h1fc h5fc) d138_76 ?_
      refine q_dload d138_77 rfl ?_
      refine q_ldcD (v := 4611686018427387904) d138_79 (kc1_43 138 rfl) ?_
      refine q_ddiv (v15 h1fc h5fc) d138_82 ?_
      refine q_dcmp d138_83 ?_
      refine q_if_gt (tgt := 91) d138_84 rfl (fun h7t => ?_) (fun h7f => ?_)
      ·
        have h7tc : dle (FP.dsub (D 106 1) x) (FP.ddiv (FP.dsub (D 106 1) (D 106 0)) 4611686018427387904) = false := dc_g_gt_t h7t
        refine q_iconst (v := 0) (by decide) d138_91 ?_
        exact q_zret d138_92 rfl (Or.inl rfl) (Nat.le_refl _) (Nat.le_refl _) (v16 h1fc h5fc h7tc)
      ·
        have h7fc : dle (FP.dsub (D 106 1) x) (FP.ddiv (FP.dsub (D 106 1) (D 106 0)) 4611686018427387904) = true := dc_g_gt_f h7f
        refine q_iconst (v := 1) (by decide) d138_87 ?_
        refine q_goto (tgt := 92) d138_88 rfl ?_
        exact q_zret d138_92 rfl (Or.inr rfl) (Nat.le_refl _) (Nat.le_refl _) (v17 h1fc h5fc h7fc)

set_option maxRecDepth 10000 in
set_option maxHeartbeats 4000000 in
theorem s139 {d : Nat} {I : Nat → Nat → Int32} {D : Nat → Nat → UInt64} {R : Nat → Nat → Option Nat} {Q : j_Po}    (hd : 1 ≤ d)
    (v1 : (dlt (D 106 3) (D 106 2) = false) → vf_n64 (FP.dsub (D 106 3) (D 106 2)))
    (v2 : (dlt (D 106 3) (D 106 2) = false) → (dlt (D 106 4) (D 106 2) = false) → vf_n64 (FP.dsub (D 106 4) (D 106 2)))
    (v3 : (dlt (D 106 3) (D 106 2) = false) → (dlt (D 106 4) (D 106 2) = false) → (dlt (FP.dsub (D 106 4) (D 106 2)) (FP.dsub (D 106 3) (D 106 2)) = false) → Q none w1 ((j_u I 106 6 1), (j_u (j_u D 106 7 (D 106 0)) 106 8 (D 106 3)), RR R))
    (v4 : (dlt (D 106 3) (D 106 2) = false) → (dlt (D 106 4) (D 106 2) = false) → (dlt (FP.dsub (D 106 4) (D 106 2)) (FP.dsub (D 106 3) (D 106 2)) = true) → Q none w1 ((j_u I 106 6 1), (j_u (j_u D 106 7 (D 106 1)) 106 8 (D 106 4)), RR R))
    (v5 : (dlt (D 106 3) (D 106 2) = false) → (dlt (D 106 4) (D 106 2) = true) → vf_n64 (FP.dsub (D 106 2) (D 106 4)))
    (v6 : (dlt (D 106 3) (D 106 2) = false) → (dlt (D 106 4) (D 106 2) = true) → (dlt (FP.dsub (D 106 2) (D 106 4)) (FP.dsub (D 106 3) (D 106 2)) = false) → Q none w1 ((j_u I 106 6 1), (j_u (j_u D 106 7 (D 106 0)) 106 8 (D 106 3)), RR R))
    (v7 : (dlt (D 106 3) (D 106 2) = false) → (dlt (D 106 4) (D 106 2) = true) → (dlt (FP.dsub (D 106 2) (D 106 4)) (FP.dsub (D 106 3) (D 106 2)) = true) → Q none w1 ((j_u I 106 6 1), (j_u (j_u D 106 7 (D 106 1)) 106 8 (D 106 4)), RR R))
    (v8 : (dlt (D 106 3) (D 106 2) = true) → vf_n64 (FP.dsub (D 106 2) (D 106 3)))
    (v9 : (dlt (D 106 3) (D 106 2) = true) → (dlt (D 106 4) (D 106 2) = false) → vf_n64 (FP.dsub (D 106 4) (D 106 2)))
    (v10 : (dlt (D 106 3) (D 106 2) = true) → (dlt (D 106 4) (D 106 2) = false) → (dlt (FP.dsub (D 106 4) (D 106 2)) (FP.dsub (D 106 2) (D 106 3)) = false) → Q none w1 ((j_u I 106 6 1), (j_u (j_u D 106 7 (D 106 0)) 106 8 (D 106 3)), RR R))
    (v11 : (dlt (D 106 3) (D 106 2) = true) → (dlt (D 106 4) (D 106 2) = false) → (dlt (FP.dsub (D 106 4) (D 106 2)) (FP.dsub (D 106 2) (D 106 3)) = true) → Q none w1 ((j_u I 106 6 1), (j_u (j_u D 106 7 (D 106 1)) 106 8 (D 106 4)), RR R))
    (v12 : (dlt (D 106 3) (D 106 2) = true) → (dlt (D 106 4) (D 106 2) = true) → vf_n64 (FP.dsub (D 106 2) (D 106 4)))
    (v13 : (dlt (D 106 3) (D 106 2) = true) → (dlt (D 106 4) (D 106 2) = true) → (dlt (FP.dsub (D 106 2) (D 106 4)) (FP.dsub (D 106 2) (D 106 3)) = false) → Q none w1 ((j_u I 106 6 1), (j_u (j_u D 106 7 (D 106 0)) 106 8 (D 106 3)), RR R))
    (v14 : (dlt (D 106 3) (D 106 2) = true) → (dlt (D 106 4) (D 106 2) = true) → (dlt (FP.dsub (D 106 2) (D 106 4)) (FP.dsub (D 106 2) (D 106 3)) = true) → Q none w1 ((j_u I 106 6 1), (j_u (j_u D 106 7 (D 106 1)) 106 8 (D 106 4)), RR R)) : j_Call d 139 [.ref 106] w1 (I, D, RR R) 0 0 Q := by
  refine q_enter (L := [some (.ref 106), none, none, none, none]) j_m139 (Nat.le_of_ble_eq_true rfl) rfl ?_
  refine q_aload_n d139_0 rfl ?_
  refine q_getD d139_1 (fs1_33 139 rfl) rfl (lt_w1 rfl) sh106 ?_
  refine q_aload_n d139_4 rfl ?_
  refine q_getD d139_5 (fs1_16 139 rfl) rfl (lt_w1 rfl) sh106 ?_
  refine q_dcmp d139_8 ?_
  refine q_if_ge (tgt := 24) d139_9 rfl (fun h1t => ?_) (fun h1f => ?_)
  ·
    have h1tc : dlt (D 106 3) (D 106 2) = false := dc_g_ge_t h1t
    refine q_aload_n d139_24 rfl ?_
    refine q_getD d139_25 (fs1_33 139 rfl) rfl (lt_w1 rfl) sh106 ?_
    refine q_aload_n d139_28 rfl ?_
    refine q_getD d139_29 (fs1_16 139 rfl) rfl (lt_w1 rfl) sh106 ?_
    refine q_dsub (v1 h1tc) d139_32 ?_
    refine q_dstore_n (L' := [some (.ref 106), some (.double (FP.dsub (D 106 3) (D 106 2))), none, none, none]) d139_33 (Nat.le_of_ble_eq_true rfl) rfl ?_
    refine q_aload_n d139_34 rfl ?_
    refine q_getD d139_35 (fs1_40 139 rfl) rfl (lt_w1 rfl) sh106 ?_
    refine q_aload_n d139_38 rfl ?_
    refine q_getD d139_39 (fs1_16 139 rfl) rfl (lt_w1 rfl) sh106 ?_
    refine q_dcmp d139_42 ?_
    refine q_if_ge (tgt := 58) d139_43 rfl (fun h2t => ?_) (fun h2f => ?_)
    ·
      have h2tc : dlt (D 106 4) (D 106 2) = false := dc_g_ge_t h2t
      refine q_aload_n d139_58 rfl ?_
      refine q_getD d139_59 (fs1_40 139 rfl) rfl (lt_w1 rfl) sh106 ?_
      refine q_aload_n d139_62 rfl ?_
      refine q_getD d139_63 (fs1_16 139 rfl) rfl (lt_w1 rfl) sh106 ?_
      refine q_dsub (v2 h1tc h2tc) d139_66 ?_
      refine q_dstore_n (L' := [some (.ref 106), some (.double (FP.dsub (D 106 3) (D 106 2))), none, some (.double (FP.dsub (D 106 4) (D 106 2))), none]) d139_67 (Nat.le_of_ble_eq_true rfl) rfl ?_
      refine q_dload_n d139_68 rfl ?_
      refine q_dload_n d139_69 rfl ?_
      refine q_dcmp d139_70 ?_
      refine q_if_ge (tgt := 89) d139_71 rfl (fun h3t => ?_) (fun h3f => ?_)
      ·
        have h3tc : dlt (FP.dsub (D 106 4) (D 106 2)) (FP.dsub (D 106 3) (D 106 2)) = false := dc_g_ge_t h3t
        refine q_aload_n d139_89 rfl ?_
        refine q_aload_n d139_90 rfl ?_
        refine q_getD d139_91 (fs1_7 139 rfl) rfl (lt_w1 rfl) sh106 ?_
        refine q_aload_n d139_94 rfl ?_
        refine q_getD d139_95 (fs1_33 139 rfl) rfl (lt_w1 rfl) sh106 ?_
        refine q_invV (o := 106) (ci := 1) (av := [.double (D 106 0), .double (D 106 3)]) (rest := []) (d' := 0) (mc' := 0) (ms' := 0) d139_98 (cv1_36 139 rfl) rfl (by decide) rfl rfl (by omega) (Nat.le_of_ble_eq_true rfl) (Nat.le_of_ble_eq_true rfl) (lt_w1 rfl) sh106 (Nat.le_refl _) (Nat.le_refl _) ?_
        refine s134   (Nat.le_refl _) ?_
        show j_W 139 d 0 0 0 0 101 [some (.ref 106), some (.double (FP.dsub (D 106 3) (D 106 2))), none, some (.double (FP.dsub (D 106 4) (D 106 2))), none] [] w1 ((j_u I 106 6 1), (j_u (j_u D 106 7 (D 106 0)) 106 8 (D 106 3)), RR R) Q
        exact q_ret d139_101 rfl (Nat.le_refl _) (Nat.le_refl _) (v3 h1tc h2tc h3tc)
      ·
        have h3fc : dlt (FP.dsub (D 106 4) (D 106 2)) (FP.dsub (D 106 3) (D 106 2)) = true := dc_g_ge_f h3f
        refine q_aload_n d139_74 rfl ?_
        refine q_aload_n d139_75 rfl ?_
        refine q_getD d139_76 (fs1_13 139 rfl) rfl (lt_w1 rfl) sh106 ?_
        refine q_aload_n d139_79 rfl ?_
        refine q_getD d139_80 (fs1_40 139 rfl) rfl (lt_w1 rfl) sh106 ?_
        refine q_invV (o := 106) (ci := 1) (av := [.double (D 106 1), .double (D 106 4)]) (rest := []) (d' := 0) (mc' := 0) (ms' := 0) d139_83 (cv1_36 139 rfl) rfl (by decide) rfl rfl (by omega) (Nat.le_of_ble_eq_true rfl) (Nat.le_of_ble_eq_true rfl) (lt_w1 rfl) sh106 (Nat.le_refl _) (Nat.le_refl _) ?_
        refine s134   (Nat.le_refl _) ?_
        show j_W 139 d 0 0 0 0 86 [some (.ref 106), some (.double (FP.dsub (D 106 3) (D 106 2))), none, some (.double (FP.dsub (D 106 4) (D 106 2))), none] [] w1 ((j_u I 106 6 1), (j_u (j_u D 106 7 (D 106 1)) 106 8 (D 106 4)), RR R) Q
        refine q_goto (tgt := 101) d139_86 rfl ?_
        exact q_ret d139_101 rfl (Nat.le_refl _) (Nat.le_refl _) (v4 h1tc h2tc h3fc)
    ·
      have h2fc : dlt (D 106 4) (D 106 2) = true := dc_g_ge_f h2f
      refine q_aload_n d139_46 rfl ?_
      refine q_getD d139_47 (fs1_16 139 rfl) rfl (lt_w1 rfl) sh106 ?_
      refine q_aload_n d139_50 rfl ?_
      refine q_getD d139_51 (fs1_40 139 rfl) rfl (lt_w1 rfl) sh106 ?_
      refine q_dsub (v5 h1tc h2fc) d139_54 ?_
      refine q_goto (tgt := 67) d139_55 rfl ?_
      refine q_dstore_n (L' := [some (.ref 106), some (.double (FP.dsub (D 106 3) (D 106 2))), none, some (.double (FP.dsub (D 106 2) (D 106 4))), none]) d139_67 (Nat.le_of_ble_eq_true rfl) rfl ?_
      refine q_dload_n d139_68 rfl ?_
      refine q_dload_n d139_69 rfl ?_
      refine q_dcmp d139_70 ?_
      refine q_if_ge (tgt := 89) d139_71 rfl (fun h4t => ?_) (fun h4f => ?_)
      ·
        have h4tc : dlt (FP.dsub (D 106 2) (D 106 4)) (FP.dsub (D 106 3) (D 106 2)) = false := dc_g_ge_t h4t
        refine q_aload_n d139_89 rfl ?_
        refine q_aload_n d139_90 rfl ?_
        refine q_getD d139_91 (fs1_7 139 rfl) rfl (lt_w1 rfl) sh106 ?_
        refine q_aload_n d139_94 rfl ?_
        refine q_getD d139_95 (fs1_33 139 rfl) rfl (lt_w1 rfl) sh106 ?_
        refine q_invV (o := 106) (ci := 1) (av := [.double (D 106 0), .double (D 106 3)]) (rest := []) (d' := 0) (mc' := 0) (ms' := 0) d139_98 (cv1_36 139 rfl) rfl (by decide) rfl rfl (by omega) (Nat.le_of_ble_eq_true rfl) (Nat.le_of_ble_eq_true rfl) (lt_w1 rfl) sh106 (Nat.le_refl _) (Nat.le_refl _) ?_
        refine s134   (Nat.le_refl _) ?_
        show j_W 139 d 0 0 0 0 101 [some (.ref 106), some (.double (FP.dsub (D 106 3) (D 106 2))), none, some (.double (FP.dsub (D 106 2) (D 106 4))), none] [] w1 ((j_u I 106 6 1), (j_u (j_u D 106 7 (D 106 0)) 106 8 (D 106 3)), RR R) Q
        exact q_ret d139_101 rfl (Nat.le_refl _) (Nat.le_refl _) (v6 h1tc h2fc h4tc)
      ·
        have h4fc : dlt (FP.dsub (D 106 2) (D 106 4)) (FP.dsub (D 106 3) (D 106 2)) = true := dc_g_ge_f h4f
        refine q_aload_n d139_74 rfl ?_
        refine q_aload_n d139_75 rfl ?_
        refine q_getD d139_76 (fs1_13 139 rfl) rfl (lt_w1 rfl) sh106 ?_
        refine q_aload_n d139_79 rfl ?_
        refine q_getD d139_80 (fs1_40 139 rfl) rfl (lt_w1 rfl) sh106 ?_
        refine q_invV (o := 106) (ci := 1) (av := [.double (D 106 1), .double (D 106 4)]) (rest := []) (d' := 0) (mc' := 0) (ms' := 0) d139_83 (cv1_36 139 rfl) rfl (by decide) rfl rfl (by omega) (Nat.le_of_ble_eq_true rfl) (Nat.le_of_ble_eq_true rfl) (lt_w1 rfl) sh106 (Nat.le_refl _) (Nat.le_refl _) ?_
        refine s134   (Nat.le_refl _) ?_
        show j_W 139 d 0 0 0 0 86 [some (.ref 106), some (.double (FP.dsub (D 106 3) (D 106 2))), none, some (.double (FP.dsub (D 106 2) (D 106 4))), none] [] w1 ((j_u I 106 6 1), (j_u (j_u D 106 7 (D 106 1)) 106 8 (D 106 4)), RR R) Q
        refine q_goto (tgt := 101) d139_86 rfl ?_
        exact q_ret d139_101 rfl (Nat.le_refl _) (Nat.le_refl _) (v7 h1tc h2fc h4fc)
  ·
    have h1fc : dlt (D 106 3) (D 106 2) = true := dc_g_ge_f h1f
    refine q_aload_n d139_12 rfl ?_
    refine q_getD d139_13 (fs1_16 139 rfl) rfl (lt_w1 rfl) sh106 ?_
    refine q_aload_n d139_16 rfl ?_
    refine q_getD d139_17 (fs1_33 139 rfl) rfl (lt_w1 rfl) sh106 ?_
    refine q_dsub (v8 h1fc) d139_20 ?_
    refine q_goto (tgt := 33) d139_21 rfl ?_
    refine q_dstore_n (L' := [some (.ref 106), some (.double (FP.dsub (D 106 2) (D 106 3))), none, none, none]) d139_33 (Nat.le_of_ble_eq_true rfl) rfl ?_
    refine q_aload_n d139_34 rfl ?_
    refine q_getD d139_35 (fs1_40 139 rfl) rfl (lt_w1 rfl) sh106 ?_
    refine q_aload_n d139_38 rfl ?_
    refine q_getD d139_39 (fs1_16 139 rfl) rfl (lt_w1 rfl) sh106 ?_
    refine q_dcmp d139_42 ?_
    refine q_if_ge (tgt := 58) d139_43 rfl (fun h5t => ?_) (fun h5f => ?_)
    ·
      have h5tc : dlt (D 106 4) (D 106 2) = false := dc_g_ge_t h5t
      refine q_aload_n d139_58 rfl ?_
      refine q_getD d139_59 (fs1_40 139 rfl) rfl (lt_w1 rfl) sh106 ?_
      refine q_aload_n d139_62 rfl ?_
      refine q_getD d139_63 (fs1_16 139 rfl) rfl (lt_w1 rfl) sh106 ?_
      refine q_dsub (v9 h1fc h5tc) d139_66 ?_
      refine q_dstore_n (L' := [some (.ref 106), some (.double (FP.dsub (D 106 2) (D 106 3))), none, some (.double (FP.dsub (D 106 4) (D 106 2))), none]) d139_67 (Nat.le_of_ble_eq_true rfl) rfl ?_
      refine q_dload_n d139_68 rfl ?_
      refine q_dload_n d139_69 rfl ?_
      refine q_dcmp d139_70 ?_
      refine q_if_ge (tgt := 89) d139_71 rfl (fun h6t => ?_) (fun h6f => ?_)
      ·
        have h6tc : dlt (FP.dsub (D 106 4) (D 106 2)) (FP.dsub (D 106 2) (D 106 3)) = false := dc_g_ge_t h6t
        refine q_aload_n d139_89 rfl ?_
        refine q_aload_n d139_90 rfl ?_
        refine q_getD d139_91 (fs1_7 139 rfl) rfl (lt_w1 rfl) sh106 ?_
        refine q_aload_n d139_94 rfl ?_
        refine q_getD d139_95 (fs1_33 139 rfl) rfl (lt_w1 rfl) sh106 ?_
        refine q_invV (o := 106) (ci := 1) (av := [.double (D 106 0), .double (D 106 3)]) (rest := []) (d' := 0) (mc' := 0) (ms' := 0) d139_98 (cv1_36 139 rfl) rfl (by decide) rfl rfl (by omega) (Nat.le_of_ble_eq_true rfl) (Nat.le_of_ble_eq_true rfl) (lt_w1 rfl) sh106 (Nat.le_refl _) (Nat.le_refl _) ?_
        refine s134   (Nat.le_refl _) ?_
        show j_W 139 d 0 0 0 0 101 [some (.ref 106), some (.double (FP.dsub (D 106 2) (D 106 3))), none, some (.double (FP.dsub (D 106 4) (D 106 2))), none] [] w1 ((j_u I 106 6 1), (j_u (j_u D 106 7 (D 106 0)) 106 8 (D 106 3)), RR R) Q
        exact q_ret d139_101 rfl (Nat.le_refl _) (Nat.le_refl _) (v10 h1fc h5tc h6tc)
      ·
        have h6fc : dlt (FP.dsub (D 106 4) (D 106 2)) (FP.dsub (D 106 2) (D 106 3)) = true := dc_g_ge_f h6f
        refine q_aload_n d139_74 rfl ?_
        refine q_aload_n d139_75 rfl ?_
        refine q_getD d139_76 (fs1_13 139 rfl) rfl (lt_w1 rfl) sh106 ?_
        refine q_aload_n d139_79 rfl ?_
        refine q_getD d139_80 (fs1_40 139 rfl) rfl (lt_w1 rfl) sh106 ?_
        refine q_invV (o := 106) (ci := 1) (av := [.double (D 106 1), .double (D 106 4)]) (rest := []) (d' := 0) (mc' := 0) (ms' := 0) d139_83 (cv1_36 139 rfl) rfl (by decide) rfl rfl (by omega) (Nat.le_of_ble_eq_true rfl) (Nat.le_of_ble_eq_true rfl) (lt_w1 rfl) sh106 (Nat.le_refl _) (Nat.le_refl _) ?_
        refine s134   (Nat.le_refl _) ?_
        show j_W 139 d 0 0 0 0 86 [some (.ref 106), some (.double (FP.dsub (D 106 2) (D 106 3))), none, some (.double (FP.dsub (D 106 4) (D 106 2))), none] [] w1 ((j_u I 106 6 1), (j_u (j_u D 106 7 (D 106 1)) 106 8 (D 106 4)), RR R) Q
        refine q_goto (tgt := 101) d139_86 rfl ?_
        exact q_ret d139_101 rfl (Nat.le_refl _) (Nat.le_refl _) (v11 h1fc h5tc h6fc)
    ·
      have h5fc : dlt (D 106 4) (D 106 2) = true := dc_g_ge_f h5f
      refine q_aload_n d139_46 rfl ?_
      refine q_getD d139_47 (fs1_16 139 rfl) rfl (lt_w1 rfl) sh106 ?_
      refine q_aload_n d139_50 rfl ?_
      refine q_getD d139_51 (fs1_40 139 rfl) rfl (lt_w1 rfl) sh106 ?_
      refine q_dsub (v12 h1fc h5fc) d139_54 ?_
      refine q_goto (tgt := 67) d139_55 rfl ?_
      refine q_dstore_n (L' := [some (.ref 106), some (.double (FP.dsub (D 106 2) (D 106 3))), none, some (.double (FP.dsub (D 106 2) (D 106 4))), none]) d139_67 (Nat.le_of_ble_eq_true rfl) rfl ?_
      refine q_dload_n d139_68 rfl ?_
      refine q_dload_n d139_69 rfl ?_
      refine q_dcmp d139_70 ?_
      refine q_if_ge (tgt := 89) d139_71 rfl (fun h7t => ?_) (fun h7f => ?_)
      ·
        have h7tc : dlt (FP.dsub (D 106 2) (D 106 4)) (FP.dsub (D 106 2) (D 106 3)) = false := dc_g_ge_t h7t
        refine q_aload_n d139_89 rfl ?_
        refine q_aload_n d139_90 rfl ?_
        refine q_getD d139_91 (fs1_7 139 rfl) rfl (lt_w1 rfl) sh106 ?_
        refine q_aload_n d139_94 rfl ?_
        refine q_getD d139_95 (fs1_33 139 rfl) rfl (lt_w1 rfl) sh106 ?_
        refine q_invV (o := 106) (ci := 1) (av := [.double (D 106 0), .double (D 106 3)]) (rest := []) (d' := 0) (mc' := 0) (ms' := 0) d139_98 (cv1_36 139 rfl) rfl (by decide) rfl rfl (by omega) (Nat.le_of_ble_eq_true rfl) (Nat.le_of_ble_eq_true rfl) (lt_w1 rfl) sh106 (Nat.le_refl _) (Nat.le_refl _) ?_
        refine s134   (Nat.le_refl _) ?_
        show j_W 139 d 0 0 0 0 101 [some (.ref 106), some (.double (FP.dsub (D 106 2) (D 106 3))), none, some (.double (FP.dsub (D 106 2) (D 106 4))), none] [] w1 ((j_u I 106 6 1), (j_u (j_u D 106 7 (D 106 0)) 106 8 (D 106 3)), RR R) Q
        exact q_ret d139_101 rfl (Nat.le_refl _) (Nat.le_refl _) (v13 h1fc h5fc h7tc)
      ·
        have h7fc : dlt (FP.dsub (D 106 2) (D 106 4)) (FP.dsub (D 106 2) (D 106 3)) = true := dc_g_ge_f h7f
        refine q_aload_n d139_74 rfl ?_
        refine q_aload_n d139_75 rfl ?_
        refine q_getD d139_76 (fs1_13 139 rfl) rfl (lt_w1 rfl) sh106 ?_
        refine q_aload_n d139_79 rfl ?_
        refine q_getD d139_80 (fs1_40 139 rfl) rfl (lt_w1 rfl) sh106 ?_
        refine q_invV (o := 106) (ci := 1) (av := [.double (D 106 1), .double (D 106 4)]) (rest := []) (d' := 0) (mc' := 0) (ms' := 0) d139_83 (cv1_36 139 rfl) rfl (by decide) rfl rfl (by omega) (Nat.le_of_ble_eq_true rfl) (Nat.le_of_ble_eq_true rfl) (lt_w1 rfl) sh106 (Nat.le_refl _) (Nat.le_refl _) ?_
        refine s134   (Nat.le_refl _) ?_
        show j_W 139 d 0 0 0 0 86 [some (.ref 106), some (.double (FP.dsub (D 106 2) (D 106 3))), none, some (.double (FP.dsub (D 106 2) (D 106 4))), none] [] w1 ((j_u I 106 6 1), (j_u (j_u D 106 7 (D 106 1)) 106 8 (D 106 4)), RR R) Q
        refine q_goto (tgt := 101) d139_86 rfl ?_
        exact q_ret d139_101 rfl (Nat.le_refl _) (Nat.le_refl _) (v14 h1fc h5fc h7fc)

set_option maxRecDepth 10000 in
set_option maxHeartbeats 4000000 in
theorem s14 {d : Nat} {I : Nat → Nat → Int32} {D : Nat → Nat → UInt64} {R : Nat → Nat → Option Nat} {Q : j_Po} {k : Nat}  (hR : WFR R) (hk : k < 24) (hd : 0 ≤ d)
    (v1 : ((I ((R 112 k).getD 0) 1) ≤ 0) → Q (some (.int 0)) w1 (I, D, RR R))
    (v2 : (¬ (I ((R 112 k).getD 0) 1) ≤ 0) → Q (some (.int 1)) w1 (I, D, RR R)) : j_Call d 14 [.ref 108, .int (nI k)] w1 (I, D, RR R) 0 0 Q := by
  refine q_enter (L := [some (.ref 108), some (.int (nI k))]) j_m14 (Nat.le_of_ble_eq_true rfl) rfl ?_
  refine q_aload_n d14_0 rfl ?_
  refine q_getR (x := 112) d14_1 (fs0_25 14 rfl) rfl (lt_w1 rfl) sh108 (rs108_3 R) (by decide) ?_
  refine q_iload_n d14_4 rfl ?_
  have g2 := hR.f k (by omega)
  refine q_aaload (c := 6) (a := k) (x := ((R 112 k).getD 0)) d14_5 (lt_w1 rfl) sh112 (by decide) rfl (by omega) ((RR_d rfl).trans g2.1) (lt1000 (isF_lt g2.2)) ?_
  refine q_getI d14_6 (fs0_50 14 rfl) rfl (isF_lt g2.2) (isF_sh g2.2) ?_
  refine q_if_le (tgt := 16) d14_9 rfl (fun h3t => ?_) (fun h3f => ?_)
  ·
    refine q_iconst (v := 0) (by decide) d14_16 ?_
    exact q_zret d14_17 rfl (Or.inl rfl) (Nat.le_refl _) (Nat.le_refl _) (v1 h3t)
  ·
    refine q_iconst (v := 1) (by decide) d14_12 ?_
    refine q_goto (tgt := 17) d14_13 rfl ?_
    exact q_zret d14_17 rfl (Or.inr rfl) (Nat.le_refl _) (Nat.le_refl _) (v2 h3f)

set_option maxRecDepth 10000 in
set_option maxHeartbeats 4000000 in
theorem s38 {d : Nat} {I : Nat → Nat → Int32} {D : Nat → Nat → UInt64} {R : Nat → Nat → Option Nat} {Q : j_Po} {x : UInt64} {a : Int32}   (hd : 0 ≤ d)
    (v1 : ((I 107 7) < 256) → vp_in (I 107 7) 256)
    (v2 : ((I 107 7) < 256) → Q none w1 ((j_u (j_u I 229 ((I 107 7).toNatClampNeg) a) 107 7 ((I 107 7) + 1)), (j_u D 228 ((I 107 7).toNatClampNeg) x), RR R))
    (v3 : (¬ (I 107 7) < 256) → Q none w1 (I, D, RR R)) : j_Call d 38 [.ref 107, .double x, .int a] w1 (I, D, RR R) 0 0 Q := by
  refine q_enter (L := [some (.ref 107), some (.double x), none, some (.int a)]) j_m38 (Nat.le_of_ble_eq_true rfl) rfl ?_
  refine q_aload_n d38_0 rfl ?_
  refine q_getI d38_1 (fs8_50 38 rfl) rfl (lt_w1 rfl) sh107 ?_
  refine q_sipush (v := 256) (by decide) d38_4 ?_
  refine q_icmp_lt (tgt := 11) d38_7 rfl (fun h1t => ?_) (fun h1f => ?_)
  ·
    refine q_aload_n d38_11 rfl ?_
    refine q_getR (x := 228) d38_12 (fs8_41 38 rfl) rfl (lt_w1 rfl) sh107 (rs107_5 R) (by decide) ?_
    refine q_aload_n d38_15 rfl ?_
    refine q_getI d38_16 (fs8_50 38 rfl) rfl (lt_w1 rfl) sh107 ?_
    refine q_dload_n d38_19 rfl ?_
    have g2 := ix_of (v1 h1t) (by decide)
    refine q_dastore (a := (I 107 7).toNatClampNeg) d38_20 (lt_w1 rfl) sh228 g2.1 g2.2 ?_
    refine q_aload_n d38_21 rfl ?_
    refine q_getR (x := 229) d38_22 (fs8_45 38 rfl) rfl (lt_w1 rfl) sh107 (rs107_6 R) (by decide) ?_
    refine q_aload_n d38_25 rfl ?_
    refine q_getI d38_26 (fs8_50 38 rfl) rfl (lt_w1 rfl) sh107 ?_
    refine q_iload_n d38_29 rfl ?_
    have g3 := ix_of (v1 h1t) (by decide)
    refine q_iastore (a := (I 107 7).toNatClampNeg) d38_30 (lt_w1 rfl) sh229 g3.1 g3.2 ?_
    refine q_aload_n d38_31 rfl ?_
    refine q_dup rfl d38_32 ?_
    refine q_getI d38_33 (fs8_50 38 rfl) rfl (lt_w1 rfl) sh107 ?_
    refine r_int (y := (I 107 7)) (show (j_u I 229 ((I 107 7).toNatClampNeg) a) 107 7 = (I 107 7) from (j_u_o _ _ _ (by decide))) ?_
    refine q_iconst (v := 1) (by decide) d38_36 ?_
    refine q_iadd d38_37 ?_
    refine q_putI d38_38 (fs8_50 38 rfl) (Or.inl rfl) rfl (lt_w1 rfl) sh107 ?_
    exact q_ret d38_41 rfl (Nat.le_refl _) (Nat.le_refl _) (v2 h1t)
  ·
    exact q_ret d38_10 rfl (Nat.le_refl _) (Nat.le_refl _) (v3 h1f)

set_option maxRecDepth 10000 in
set_option maxHeartbeats 4000000 in
theorem s50 {d : Nat} {I : Nat → Nat → Int32} {D : Nat → Nat → UInt64} {R : Nat → Nat → Option Nat} {Q : j_Po}    (hd : 0 ≤ d)
    (v1 : ((I 107 7) < 1) → Q none w1 (I, D, RR R))
    (v2 : (¬ (I 107 7) < 1) → vp_in ((I 107 7) - 1) 256)
    (v3 : (¬ (I 107 7) < 1) → Q none w1 (I, (j_u D 228 (((I 107 7) - 1).toNatClampNeg) (FP.dneg (D 228 (((I 107 7) - 1).toNatClampNeg)))), RR R)) : j_Call d 50 [.ref 107] w1 (I, D, RR R) 0 0 Q := by
  refine q_enter (L := [some (.ref 107)]) j_m50 (Nat.le_of_ble_eq_true rfl) rfl ?_
  refine q_aload_n d50_0 rfl ?_
  refine q_getI d50_1 (fs8_50 50 rfl) rfl (lt_w1 rfl) sh107 ?_
  refine q_iconst (v := 1) (by decide) d50_4 ?_
  refine q_icmp_lt (tgt := 31) d50_5 rfl (fun h1t => ?_) (fun h1f => ?_)
  ·
    exact q_ret d50_31 rfl (Nat.le_refl _) (Nat.le_refl _) (v1 h1t)
  ·
    refine q_aload_n d50_8 rfl ?_
    refine q_getR (x := 228) d50_9 (fs8_41 50 rfl) rfl (lt_w1 rfl) sh107 (rs107_5 R) (by decide) ?_
    refine q_aload_n d50_12 rfl ?_
    refine q_getI d50_13 (fs8_50 50 rfl) rfl (lt_w1 rfl) sh107 ?_
    refine q_iconst (v := 1) (by decide) d50_16 ?_
    refine q_isub d50_17 ?_
    refine q_aload_n d50_18 rfl ?_
    refine q_getR (x := 228) d50_19 (fs8_41 50 rfl) rfl (lt_w1 rfl) sh107 (rs107_5 R) (by decide) ?_
    refine q_aload_n d50_22 rfl ?_
    refine q_getI d50_23 (fs8_50 50 rfl) rfl (lt_w1 rfl) sh107 ?_
    refine q_iconst (v := 1) (by decide) d50_26 ?_
    refine q_isub d50_27 ?_
    have g2 := ix_of (v2 h1f) (by decide)
    refine q_daload (a := ((I 107 7) - 1).toNatClampNeg) d50_28 (lt_w1 rfl) sh228 g2.1 g2.2 ?_
    refine q_dneg d50_29 ?_
    have g3 := ix_of (v2 h1f) (by decide)
    refine q_dastore (a := ((I 107 7) - 1).toNatClampNeg) d50_30 (lt_w1 rfl) sh228 g3.1 g3.2 ?_
    exact q_ret d50_31 rfl (Nat.le_refl _) (Nat.le_refl _) (v3 h1f)

set_option maxRecDepth 10000 in
set_option maxHeartbeats 4000000 in
theorem s51 {d : Nat} {I : Nat → Nat → Int32} {D : Nat → Nat → UInt64} {R : Nat → Nat → Option Nat} {Q : j_Po}    (hd : 0 ≤ d)
    (v1 : (3 ≤ (I 107 7)) → vp_in (((I 107 7) - 2) - 1) 256)
    (v2 : (3 ≤ (I 107 7)) → ((I 229 ((((I 107 7) - 2) - 1).toNatClampNeg)) = 0) → (deq (D 228 ((((I 107 7) - 2) - 1).toNatClampNeg)) FP.dconst0 = true) → vp_in (((I 107 7) - 2) + 1) 256)
    (v3 : (3 ≤ (I 107 7)) → ((I 229 ((((I 107 7) - 2) - 1).toNatClampNeg)) = 0) → (deq (D 228 ((((I 107 7) - 2) - 1).toNatClampNeg)) FP.dconst0 = true) → Q none w1 ((j_u (j_u I 107 7 ((I 107 7) - 2)) 229 ((((I 107 7) - 2) - 1).toNatClampNeg) (I 229 ((((I 107 7) - 2) + 1).toNatClampNeg))), (j_u D 228 ((((I 107 7) - 2) - 1).toNatClampNeg) (D 228 ((((I 107 7) - 2) + 1).toNatClampNeg))), RR R))
    (v4 : (3 ≤ (I 107 7)) → ((I 229 ((((I 107 7) - 2) - 1).toNatClampNeg)) = 0) → (deq (D 228 ((((I 107 7) - 2) - 1).toNatClampNeg)) FP.dconst0 = false) → vp_in ((I 107 7) - 2) 256)
    (v5 : (3 ≤ (I 107 7)) → ((I 229 ((((I 107 7) - 2) - 1).toNatClampNeg)) = 0) → (deq (D 228 ((((I 107 7) - 2) - 1).toNatClampNeg)) FP.dconst0 = false) → Q none w1 ((j_u (j_u I 107 7 ((I 107 7) - 2)) 229 ((((I 107 7) - 2) - 1).toNatClampNeg) (I 229 (((I 107 7) - 2).toNatClampNeg))), (j_u D 228 ((((I 107 7) - 2) - 1).toNatClampNeg) (D 228 (((I 107 7) - 2).toNatClampNeg))), RR R))
    (v6 : (3 ≤ (I 107 7)) → (¬ (I 229 ((((I 107 7) - 2) - 1).toNatClampNeg)) = 0) → Q none w1 ((j_u I 107 7 ((I 107 7) - 2)), D, RR R))
    (v7 : (¬ 3 ≤ (I 107 7)) → Q none w1 (I, D, RR R)) : j_Call d 51 [.ref 107] w1 (I, D, RR R) 0 0 Q := by
  refine q_enter (L := [some (.ref 107), none]) j_m51 (Nat.le_of_ble_eq_true rfl) rfl ?_
  refine q_aload_n d51_0 rfl ?_
  refine q_getI d51_1 (fs8_50 51 rfl) rfl (lt_w1 rfl) sh107 ?_
  refine q_iconst (v := 3) (by decide) d51_4 ?_
  refine q_icmp_ge (tgt := 9) d51_5 rfl (fun h1t => ?_) (fun h1f => ?_)
  ·
    refine q_aload_n d51_9 rfl ?_
    refine q_dup rfl d51_10 ?_
    refine q_getI d51_11 (fs8_50 51 rfl) rfl (lt_w1 rfl) sh107 ?_
    refine q_iconst (v := 2) (by decide) d51_14 ?_
    refine q_isub d51_15 ?_
    refine q_putI d51_16 (fs8_50 51 rfl) (Or.inl rfl) rfl (lt_w1 rfl) sh107 ?_
    refine q_aload_n d51_19 rfl ?_
    refine q_getR (x := 229) d51_20 (fs8_45 51 rfl) rfl (lt_w1 rfl) sh107 (rs107_6 R) (by decide) ?_
    refine q_aload_n d51_23 rfl ?_
    refine q_getI d51_24 (fs8_50 51 rfl) rfl (lt_w1 rfl) sh107 ?_
    refine r_int (y := ((I 107 7) - 2)) (show (j_u I 107 7 ((I 107 7) - 2)) 107 7 = ((I 107 7) - 2) from (j_u_same _ _ _ _)) ?_
    refine q_iconst (v := 1) (by decide) d51_27 ?_
    refine q_isub d51_28 ?_
    have g2 := ix_of (v1 h1t) (by decide)
    refine q_iaload (a := (((I 107 7) - 2) - 1).toNatClampNeg) d51_29 (lt_w1 rfl) sh229 g2.1 g2.2 ?_
    refine r_int (y := (I 229 ((((I 107 7) - 2) - 1).toNatClampNeg))) (show (j_u I 107 7 ((I 107 7) - 2)) 229 ((((I 107 7) - 2) - 1).toNatClampNeg) = (I 229 ((((I 107 7) - 2) - 1).toNatClampNeg)) from (j_u_o _ _ _ (by decide))) ?_
    refine q_if_eq (tgt := 34) d51_30 rfl (fun h3t => ?_) (fun h3f => ?_)
    ·
      refine q_aload_n d51_34 rfl ?_
      refine q_getR (x := 228) d51_35 (fs8_41 51 rfl) rfl (lt_w1 rfl) sh107 (rs107_5 R) (by decide) ?_
      refine q_aload_n d51_38 rfl ?_
      refine q_getI d51_39 (fs8_50 51 rfl) rfl (lt_w1 rfl) sh107 ?_
      refine r_int (y := ((I 107 7) - 2)) (show (j_u I 107 7 ((I 107 7) - 2)) 107 7 = ((I 107 7) - 2) from (j_u_same _ _ _ _)) ?_
      refine q_iconst (v := 1) (by decide) d51_42 ?_
      refine q_isub d51_43 ?_
      have g4 := ix_of (v1 h1t) (by decide)
      refine q_daload (a := (((I 107 7) - 2) - 1).toNatClampNeg) d51_44 (lt_w1 rfl) sh228 g4.1 g4.2 ?_
      refine q_dconst0 d51_45 ?_
      refine q_dcmp d51_46 ?_
      refine q_if_eq (tgt := 57) d51_47 rfl (fun h5t => ?_) (fun h5f => ?_)
      ·
        have h5tc : deq (D 228 ((((I 107 7) - 2) - 1).toNatClampNeg)) FP.dconst0 = true := dc_l_eq_t h5t
        refine q_aload_n d51_57 rfl ?_
        refine q_getI d51_58 (fs8_50 51 rfl) rfl (lt_w1 rfl) sh107 ?_
        refine r_int (y := ((I 107 7) - 2)) (show (j_u I 107 7 ((I 107 7) - 2)) 107 7 = ((I 107 7) - 2) from (j_u_same _ _ _ _)) ?_
        refine q_iconst (v := 1) (by decide) d51_61 ?_
        refine q_iadd d51_62 ?_
        refine q_istore_n (L' := [some (.ref 107), some (.int (((I 107 7) - 2) + 1))]) d51_63 (Nat.le_of_ble_eq_true rfl) rfl ?_
        refine q_aload_n d51_64 rfl ?_
        refine q_getR (x := 228) d51_65 (fs8_41 51 rfl) rfl (lt_w1 rfl) sh107 (rs107_5 R) (by decide) ?_
        refine q_aload_n d51_68 rfl ?_
        refine q_getI d51_69 (fs8_50 51 rfl) rfl (lt_w1 rfl) sh107 ?_
        refine r_int (y := ((I 107 7) - 2)) (show (j_u I 107 7 ((I 107 7) - 2)) 107 7 = ((I 107 7) - 2) from (j_u_same _ _ _ _)) ?_
        refine q_iconst (v := 1) (by decide) d51_72 ?_
        refine q_isub d51_73 ?_
        refine q_aload_n d51_74 rfl ?_
        refine q_getR (x := 228) d51_75 (fs8_41 51 rfl) rfl (lt_w1 rfl) sh107 (rs107_5 R) (by decide) ?_
        refine q_iload_n d51_78 rfl ?_
        have g6 := ix_of (v2 h1t h3t h5tc) (by decide)
        refine q_daload (a := (((I 107 7) - 2) + 1).toNatClampNeg) d51_79 (lt_w1 rfl) sh228 g6.1 g6.2 ?_
        have g7 := ix_of (v1 h1t) (by decide)
        refine q_dastore (a := (((I 107 7) - 2) - 1).toNatClampNeg) d51_80 (lt_w1 rfl) sh228 g7.1 g7.2 ?_
        refine q_aload_n d51_81 rfl ?_
        refine q_getR (x := 229) d51_82 (fs8_45 51 rfl) rfl (lt_w1 rfl) sh107 (rs107_6 R) (by decide) ?_
        refine q_aload_n d51_85 rfl ?_
        refine q_getI d51_86 (fs8_50 51 rfl) rfl (lt_w1 rfl) sh107 ?_
        refine r_int (y := ((I 107 7) - 2)) (show (j_u I 107 7 ((I 107 7) - 2)) 107 7 = ((I 107 7) - 2) from (j_u_same _ _ _ _)) ?_
        refine q_iconst (v := 1) (by decide) d51_89 ?_
        refine q_isub d51_90 ?_
        refine q_aload_n d51_91 rfl ?_
        refine q_getR (x := 229) d51_92 (fs8_45 51 rfl) rfl (lt_w1 rfl) sh107 (rs107_6 R) (by decide) ?_
        refine q_iload_n d51_95 rfl ?_
        have g8 := ix_of (v2 h1t h3t h5tc) (by decide)
        refine q_iaload (a := (((I 107 7) - 2) + 1).toNatClampNeg) d51_96 (lt_w1 rfl) sh229 g8.1 g8.2 ?_
        refine r_int (y := (I 229 ((((I 107 7) - 2) + 1).toNatClampNeg))) (show (j_u I 107 7 ((I 107 7) - 2)) 229 ((((I 107 7) - 2) + 1).toNatClampNeg) = (I 229 ((((I 107 7) - 2) + 1).toNatClampNeg)) from (j_u_o _ _ _ (by decide))) ?_
        have g9 := ix_of (v1 h1t) (by decide)
        refine q_iastore (a := (((I 107 7) - 2) - 1).toNatClampNeg) d51_97 (lt_w1 rfl) sh229 g9.1 g9.2 ?_
        exact q_ret d51_98 rfl (Nat.le_refl _) (Nat.le_refl _) (v3 h1t h3t h5tc)
      ·
        have h5fc : deq (D 228 ((((I 107 7) - 2) - 1).toNatClampNeg)) FP.dconst0 = false := dc_l_eq_f h5f
        refine q_aload_n d51_50 rfl ?_
        refine q_getI d51_51 (fs8_50 51 rfl) rfl (lt_w1 rfl) sh107 ?_
        refine r_int (y := ((I 107 7) - 2)) (show (j_u I 107 7 ((I 107 7) - 2)) 107 7 = ((I 107 7) - 2) from (j_u_same _ _ _ _)) ?_
        refine q_goto (tgt := 63) d51_54 rfl ?_
        refine q_istore_n (L' := [some (.ref 107), some (.int ((I 107 7) - 2))]) d51_63 (Nat.le_of_ble_eq_true rfl) rfl ?_
        refine q_aload_n d51_64 rfl ?_
        refine q_getR (x := 228) d51_65 (fs8_41 51 rfl) rfl (lt_w1 rfl) sh107 (rs107_5 R) (by decide) ?_
        refine q_aload_n d51_68 rfl ?_
        refine q_getI d51_69 (fs8_50 51 rfl) rfl (lt_w1 rfl) sh107 ?_
        refine r_int (y := ((I 107 7) - 2)) (show (j_u I 107 7 ((I 107 7) - 2)) 107 7 = ((I 107 7) - 2) from (j_u_same _ _ _ _)) ?_
        refine q_iconst (v := 1) (by decide) d51_72 ?_
        refine q_isub d51_73 ?_
        refine q_aload_n d51_74 rfl ?_
        refine q_getR (x := 228) d51_75 (fs8_41 51 rfl) rfl (lt_w1 rfl) sh107 (rs107_5 R) (by decide) ?_
        refine q_iload_n d51_78 rfl ?_
        have g10 := ix_of (v4 h1t h3t h5fc) (by decide)
        refine q_daload (a := ((I 107 7) - 2).toNatClampNeg) d51_79 (lt_w1 rfl) sh228 g10.1 g10.2 ?_
        have g11 := ix_of (v1 h1t) (by decide)
        refine q_dastore (a := (((I 107 7) - 2) - 1).toNatClampNeg) d51_80 (lt_w1 rfl) sh228 g11.1 g11.2 ?_
        refine q_aload_n d51_81 rfl ?_
        refine q_getR (x := 229) d51_82 (fs8_45 51 rfl) rfl (lt_w1 rfl) sh107 (rs107_6 R) (by decide) ?_
        refine q_aload_n d51_85 rfl ?_
        refine q_getI d51_86 (fs8_50 51 rfl) rfl (lt_w1 rfl) sh107 ?_
        refine r_int (y := ((I 107 7) - 2)) (show (j_u I 107 7 ((I 107 7) - 2)) 107 7 = ((I 107 7) - 2) from (j_u_same _ _ _ _)) ?_
        refine q_iconst (v := 1) (by decide) d51_89 ?_
        refine q_isub d51_90 ?_
        refine q_aload_n d51_91 rfl ?_
        refine q_getR (x := 229) d51_92 (fs8_45 51 rfl) rfl (lt_w1 rfl) sh107 (rs107_6 R) (by decide) ?_
        refine q_iload_n d51_95 rfl ?_
        have g12 := ix_of (v4 h1t h3t h5fc) (by decide)
        refine q_iaload (a := ((I 107 7) - 2).toNatClampNeg) d51_96 (lt_w1 rfl) sh229 g12.1 g12.2 ?_
        refine r_int (y := (I 229 (((I 107 7) - 2).toNatClampNeg))) (show (j_u I 107 7 ((I 107 7) - 2)) 229 (((I 107 7) - 2).toNatClampNeg) = (I 229 (((I 107 7) - 2).toNatClampNeg)) from (j_u_o _ _ _ (by decide))) ?_
        have g13 := ix_of (v1 h1t) (by decide)
        refine q_iastore (a := (((I 107 7) - 2) - 1).toNatClampNeg) d51_97 (lt_w1 rfl) sh229 g13.1 g13.2 ?_
        exact q_ret d51_98 rfl (Nat.le_refl _) (Nat.le_refl _) (v5 h1t h3t h5fc)
    ·
      exact q_ret d51_33 rfl (Nat.le_refl _) (Nat.le_refl _) (v6 h1t h3f)
  ·
    exact q_ret d51_8 rfl (Nat.le_refl _) (Nat.le_refl _) (v7 h1f)

set_option maxRecDepth 10000 in
set_option maxHeartbeats 4000000 in
theorem s22 {d : Nat} {I : Nat → Nat → Int32} {D : Nat → Nat → UInt64} {R : Nat → Nat → Option Nat} {Q : j_Po} {k : Nat}  (hR : WFR R) (hk : k < 30) (hd : 0 ≤ d)
    (v1 : (24 ≤ k) → ((I ((R 113 (k - 24)).getD 0) 0) = 0) → Q (some (.int 0)) w1 (I, D, RR R))
    (v2 : (24 ≤ k) → (¬ (I ((R 113 (k - 24)).getD 0) 0) = 0) → Q (some (.int (1 <<< ((I ((R 113 (k - 24)).getD 0) 1) &&& 31)))) w1 (I, D, RR R))
    (v3 : (¬ 24 ≤ k) → Q (some (.int (I ((R 112 k).getD 0) 2))) w1 (I, D, RR R)) : j_Call d 22 [.ref 108, .int (nI k)] w1 (I, D, RR R) 0 0 Q := by
  refine q_enter (L := [some (.ref 108), some (.int (nI k)), none]) j_m22 (Nat.le_of_ble_eq_true rfl) rfl ?_
  refine q_iload_n d22_0 rfl ?_
  refine q_bipush (v := 24) (by decide) d22_1 ?_
  refine q_icmp_ge (tgt := 16) d22_3 rfl (fun h1t => ?_) (fun h1f => ?_)
  ·
    have h1tc : 24 ≤ k := (nI_leI (by omega) (by omega)).mp h1t
    refine q_aload_n d22_16 rfl ?_
    refine q_getR (x := 113) d22_17 (fs4_42 22 rfl) rfl (lt_w1 rfl) sh108 (rs108_4 R) (by decide) ?_
    refine q_iload_n d22_20 rfl ?_
    refine q_bipush (v := 24) (by decide) d22_21 ?_
    refine q_isub d22_23 ?_
    refine r_int (y := (nI (k - 24))) (pk_sub (by omega)) ?_
    have g3 := hR.g (k - 24) (by omega)
    refine q_aaload (c := 7) (a := (k - 24)) (x := ((R 113 (k - 24)).getD 0)) d22_24 (lt_w1 rfl) sh113 (by decide) rfl (by omega) ((RR_d rfl).trans g3.1) (lt1000 (isG_lt g3.2)) ?_
    refine q_astore_n (L' := [some (.ref 108), some (.int (nI k)), some (.ref ((R 113 (k - 24)).getD 0))]) d22_25 (Nat.le_of_ble_eq_true rfl) (Nat.ne_of_lt (Nat.lt_trans (lt1000 (isG_lt g3.2)) (by decide))) rfl ?_
    refine q_aload_n d22_26 rfl ?_
    refine q_getI d22_27 (fs4_46 22 rfl) rfl (isG_lt g3.2) (isG_sh g3.2) ?_
    refine q_if_eq (tgt := 42) d22_30 rfl (fun h4t => ?_) (fun h4f => ?_)
    ·
      refine q_iconst (v := 0) (by decide) d22_42 ?_
      exact q_iret d22_43 rfl (Nat.le_refl _) (Nat.le_refl _) (v1 h1tc h4t)
    ·
      refine q_iconst (v := 1) (by decide) d22_33 ?_
      refine q_aload_n d22_34 rfl ?_
      refine q_getI d22_35 (fs4_52 22 rfl) rfl (isG_lt g3.2) (isG_sh g3.2) ?_
      refine q_ishl d22_38 ?_
      refine q_goto (tgt := 43) d22_39 rfl ?_
      exact q_iret d22_43 rfl (Nat.le_refl _) (Nat.le_refl _) (v2 h1tc h4f)
  ·
    have h1fc : ¬ 24 ≤ k := mt (nI_leI (by omega) (by omega)).mpr h1f
    refine q_aload_n d22_6 rfl ?_
    refine q_getR (x := 112) d22_7 (fs4_30 22 rfl) rfl (lt_w1 rfl) sh108 (rs108_3 R) (by decide) ?_
    refine q_iload_n d22_10 rfl ?_
    have g6 := hR.f k (by omega)
    refine q_aaload (c := 6) (a := k) (x := ((R 112 k).getD 0)) d22_11 (lt_w1 rfl) sh112 (by decide) rfl (by omega) ((RR_d rfl).trans g6.1) (lt1000 (isF_lt g6.2)) ?_
    refine q_getI d22_12 (fs4_36 22 rfl) rfl (isF_lt g6.2) (isF_sh g6.2) ?_
    exact q_iret d22_15 rfl (Nat.le_refl _) (Nat.le_refl _) (v3 h1fc)

set_option maxRecDepth 10000 in
set_option maxHeartbeats 4000000 in
theorem s64 {d : Nat} {I : Nat → Nat → Int32} {D : Nat → Nat → UInt64} {R : Nat → Nat → Option Nat} {Q : j_Po} {a : Int32}   (hd : 0 ≤ d)
    (v1 : (96 ≤ (I 97 1)) → Q none w1 (I, D, RR R))
    (v2 : (¬ 96 ≤ (I 97 1)) → vp_in (I 97 1) 96)
    (v3 : (¬ 96 ≤ (I 97 1)) → Q none w1 ((j_u (j_u I 97 1 ((I 97 1) + 1)) 98 ((I 97 1).toNatClampNeg) a), D, RR R)) : j_Call d 64 [.ref 97, .int a] w1 (I, D, RR R) 0 0 Q := by
  refine q_enter (L := [some (.ref 97), some (.int a)]) j_m64 (Nat.le_of_ble_eq_true rfl) rfl ?_
  refine q_aload_n d64_0 rfl ?_
  refine q_getI d64_1 (fs5_22 64 rfl) rfl (lt_w1 rfl) sh97 ?_
  refine q_bipush (v := 96) (by decide) d64_4 ?_
  refine q_icmp_ge (tgt := 26) d64_6 rfl (fun h1t => ?_) (fun h1f => ?_)
  ·
    exact q_ret d64_26 rfl (Nat.le_refl _) (Nat.le_refl _) (v1 h1t)
  ·
    refine q_aload_n d64_9 rfl ?_
    refine q_getR (x := 98) d64_10 (fs5_9 64 rfl) rfl (lt_w1 rfl) sh97 (rs97_0 R) (by decide) ?_
    refine q_aload_n d64_13 rfl ?_
    refine q_dup rfl d64_14 ?_
    refine q_getI d64_15 (fs5_22 64 rfl) rfl (lt_w1 rfl) sh97 ?_
    refine q_dup_x1 rfl rfl d64_18 ?_
    refine q_iconst (v := 1) (by decide) d64_19 ?_
    refine q_iadd d64_20 ?_
    refine q_putI d64_21 (fs5_22 64 rfl) (Or.inl rfl) rfl (lt_w1 rfl) sh97 ?_
    refine q_iload_n d64_24 rfl ?_
    have g2 := ix_of (v2 h1f) (by decide)
    refine q_iastore (a := (I 97 1).toNatClampNeg) d64_25 (lt_w1 rfl) sh98 g2.1 g2.2 ?_
    exact q_ret d64_26 rfl (Nat.le_refl _) (Nat.le_refl _) (v3 h1f)

set_option maxRecDepth 10000 in
set_option maxHeartbeats 4000000 in
theorem s94 {d : Nat} {I : Nat → Nat → Int32} {D : Nat → Nat → UInt64} {R : Nat → Nat → Option Nat} {Q : j_Po}    (hd : 0 ≤ d)
    (v1 : (¬ (I 97 7) = (-1)) → Q none w1 (I, D, RR R))
    (v2 : ((I 97 7) = (-1)) → Q none w1 ((j_u I 97 7 (I 97 3)), D, RR R)) : j_Call d 94 [.ref 97] w1 (I, D, RR R) 0 0 Q := by
  refine q_enter (L := [some (.ref 97)]) j_m94 (Nat.le_of_ble_eq_true rfl) rfl ?_
  refine q_aload_n d94_0 rfl ?_
  refine q_getI d94_1 (fs5_29 94 rfl) rfl (lt_w1 rfl) sh97 ?_
  refine q_iconst (v := (-1)) (by decide) d94_4 ?_
  refine q_icmp_ne (tgt := 16) d94_5 rfl (fun h1t => ?_) (fun h1f => ?_)
  ·
    exact q_ret d94_16 rfl (Nat.le_refl _) (Nat.le_refl _) (v1 h1t)
  ·
    refine q_aload_n d94_8 rfl ?_
    refine q_aload_n d94_9 rfl ?_
    refine q_getI d94_10 (fs5_48 94 rfl) rfl (lt_w1 rfl) sh97 ?_
    refine q_putI d94_13 (fs5_29 94 rfl) (Or.inl rfl) rfl (lt_w1 rfl) sh97 ?_
    exact q_ret d94_16 rfl (Nat.le_refl _) (Nat.le_refl _) (v2 h1f)

set_option maxRecDepth 10000 in
set_option maxHeartbeats 4000000 in
theorem s98 {d : Nat} {I : Nat → Nat → Int32} {D : Nat → Nat → UInt64} {R : Nat → Nat → Option Nat} {Q : j_Po}    (hd : 0 ≤ d)
    (v1 : ((I 97 5) = 42) → Q (some (.int 1)) w1 (I, D, RR R))
    (v2 : (¬ (I 97 5) = 42) → ((I 97 5) = 47) → Q (some (.int 1)) w1 (I, D, RR R))
    (v3 : (¬ (I 97 5) = 42) → (¬ (I 97 5) = 47) → (¬ (I 97 5) = 37) → Q (some (.int 0)) w1 (I, D, RR R))
    (v4 : (¬ (I 97 5) = 42) → (¬ (I 97 5) = 47) → ((I 97 5) = 37) → Q (some (.int 1)) w1 (I, D, RR R)) : j_Call d 98 [.ref 97] w1 (I, D, RR R) 0 0 Q := by
  refine q_enter (L := [some (.ref 97)]) j_m98 (Nat.le_of_ble_eq_true rfl) rfl ?_
  refine q_aload_n d98_0 rfl ?_
  refine q_getI d98_1 (fs5_42 98 rfl) rfl (lt_w1 rfl) sh97 ?_
  refine q_bipush (v := 42) (by decide) d98_4 ?_
  refine q_icmp_eq (tgt := 27) d98_6 rfl (fun h1t => ?_) (fun h1f => ?_)
  ·
    refine q_iconst (v := 1) (by decide) d98_27 ?_
    refine q_goto (tgt := 32) d98_28 rfl ?_
    exact q_zret d98_32 rfl (Or.inr rfl) (Nat.le_refl _) (Nat.le_refl _) (v1 h1t)
  ·
    refine q_aload_n d98_9 rfl ?_
    refine q_getI d98_10 (fs5_42 98 rfl) rfl (lt_w1 rfl) sh97 ?_
    refine q_bipush (v := 47) (by decide) d98_13 ?_
    refine q_icmp_eq (tgt := 27) d98_15 rfl (fun h2t => ?_) (fun h2f => ?_)
    ·
      refine q_iconst (v := 1) (by decide) d98_27 ?_
      refine q_goto (tgt := 32) d98_28 rfl ?_
      exact q_zret d98_32 rfl (Or.inr rfl) (Nat.le_refl _) (Nat.le_refl _) (v2 h1f h2t)
    ·
      refine q_aload_n d98_18 rfl ?_
      refine q_getI d98_19 (fs5_42 98 rfl) rfl (lt_w1 rfl) sh97 ?_
      refine q_bipush (v := 37) (by decide) d98_22 ?_
      refine q_icmp_ne (tgt := 31) d98_24 rfl (fun h3t => ?_) (fun h3f => ?_)
      ·
        refine q_iconst (v := 0) (by decide) d98_31 ?_
        exact q_zret d98_32 rfl (Or.inl rfl) (Nat.le_refl _) (Nat.le_refl _) (v3 h1f h2f h3t)
      ·
        refine q_iconst (v := 1) (by decide) d98_27 ?_
        refine q_goto (tgt := 32) d98_28 rfl ?_
        exact q_zret d98_32 rfl (Or.inr rfl) (Nat.le_refl _) (Nat.le_refl _) (v4 h1f h2f h3f)

set_option maxRecDepth 10000 in
set_option maxHeartbeats 4000000 in
theorem s108 {d : Nat} {I : Nat → Nat → Int32} {D : Nat → Nat → UInt64} {R : Nat → Nat → Option Nat} {Q : j_Po} {t : Nat} {a : Int32}  (hR : WFR R) (ht : t < 6) (hd : 0 ≤ d)
    (v1 : ((I ((R 113 t).getD 0) 0) = 0) → Q (some (.int 0)) w1 (I, D, RR R))
    (v2 : (¬ (I ((R 113 t).getD 0) 0) = 0) → (a = 0) → Q (some (.int 1)) w1 (I, D, RR R))
    (v3 : (¬ (I ((R 113 t).getD 0) 0) = 0) → (¬ a = 0) → ((I ((R 113 t).getD 0) 3) = (-1)) → Q (some (.int 0)) w1 (I, D, RR R))
    (v4 : (¬ (I ((R 113 t).getD 0) 0) = 0) → (¬ a = 0) → (¬ (I ((R 113 t).getD 0) 3) = (-1)) → Q (some (.int 1)) w1 (I, D, RR R)) : j_Call d 108 [.ref 0, .int (nI t), .int a] w1 (I, D, RR R) 0 0 Q := by
  refine q_enter (L := [some (.ref 0), some (.int (nI t)), some (.int a), none]) j_m108 (Nat.le_of_ble_eq_true rfl) rfl ?_
  refine q_aload_n d108_0 rfl ?_
  refine q_getR (x := 108) d108_1 (fs9_53 108 rfl) rfl (lt_w1 rfl) sh0 (rs0_1 R) (by decide) ?_
  refine q_getR (x := 113) d108_4 (fs9_197 108 rfl) rfl (lt_w1 rfl) sh108 (rs108_4 R) (by decide) ?_
  refine q_iload_n d108_7 rfl ?_
  have g2 := hR.g t (by omega)
  refine q_aaload (c := 7) (a := t) (x := ((R 113 t).getD 0)) d108_8 (lt_w1 rfl) sh113 (by decide) rfl (by omega) ((RR_d rfl).trans g2.1) (lt1000 (isG_lt g2.2)) ?_
  refine q_astore_n (L' := [some (.ref 0), some (.int (nI t)), some (.int a), some (.ref ((R 113 t).getD 0))]) d108_9 (Nat.le_of_ble_eq_true rfl) (Nat.ne_of_lt (Nat.lt_trans (lt1000 (isG_lt g2.2)) (by decide))) rfl ?_
  refine q_aload_n d108_10 rfl ?_
  refine q_getI d108_11 (fs9_231 108 rfl) rfl (isG_lt g2.2) (isG_sh g2.2) ?_
  refine q_if_eq (tgt := 33) d108_14 rfl (fun h3t => ?_) (fun h3f => ?_)
  ·
    refine q_iconst (v := 0) (by decide) d108_33 ?_
    exact q_zret d108_34 rfl (Or.inl rfl) (Nat.le_refl _) (Nat.le_refl _) (v1 h3t)
  ·
    refine q_iload_n d108_17 rfl ?_
    refine q_if_eq (tgt := 29) d108_18 rfl (fun h4t => ?_) (fun h4f => ?_)
    ·
      refine q_iconst (v := 1) (by decide) d108_29 ?_
      refine q_goto (tgt := 34) d108_30 rfl ?_
      exact q_zret d108_34 rfl (Or.inr rfl) (Nat.le_refl _) (Nat.le_refl _) (v2 h3f h4t)
    ·
      refine q_aload_n d108_21 rfl ?_
      refine q_getI d108_22 (fs9_410 108 rfl) rfl (isG_lt g2.2) (isG_sh g2.2) ?_
      refine q_iconst (v := (-1)) (by decide) d108_25 ?_
      refine q_icmp_eq (tgt := 33) d108_26 rfl (fun h5t => ?_) (fun h5f => ?_)
      ·
        refine q_iconst (v := 0) (by decide) d108_33 ?_
        exact q_zret d108_34 rfl (Or.inl rfl) (Nat.le_refl _) (Nat.le_refl _) (v3 h3f h4f h5t)
      ·
        refine q_iconst (v := 1) (by decide) d108_29 ?_
        refine q_goto (tgt := 34) d108_30 rfl ?_
        exact q_zret d108_34 rfl (Or.inr rfl) (Nat.le_refl _) (Nat.le_refl _) (v4 h3f h4f h5f)

