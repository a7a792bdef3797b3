/-! the class: its stack -/
set_option maxRecDepth 10000 in
set_option maxHeartbeats 4000000 in
theorem t38 {d : Nat} {I : Nat → Nat → Int32} {D : Nat → Nat → UInt64} {R : Nat → Nat → Option Nat} {Q : j_Po} {x : UInt64} {w : Int32} {p : Nat} (h7 : I 107 7 = nI p) (hp : p < 256) (hd : 0 ≤ d)
    (v1 : (p < 256) → Q none w1 ((j_u (j_u I 229 p w) 107 7 (nI (p + 1))), (j_u D 228 p x), RR R))
    (v2 : (¬ p < 256) → Q none w1 (I, D, RR R)) : j_Call d 38 [.ref 107, .double x, .int w] w1 (I, D, RR R) 0 0 Q := by
  refine q_enter (L := [some (.ref 107), some (.double x), none, some (.int w)]) j_m38 (Nat.le_of_ble_eq_true rfl) rfl ?_
  refine q_aload_n d38_0 rfl ?_
  refine q_getI d38_1 (fs8_50 38 rfl) rfl (lt_w1 rfl) sh107 ?_
  refine r_int (y := (nI p)) (show I 107 7 = (nI p) from h7) ?_
  refine q_sipush (v := 256) (by decide) d38_4 ?_
  refine q_icmp_lt (tgt := 11) d38_7 rfl (fun h1t => ?_) (fun h1f => ?_)
  ·
    have h1tc : p < 256 := (nI_ltI (by omega) (by omega)).mp h1t
    refine q_aload_n d38_11 rfl ?_
    refine q_getR (x := 228) d38_12 (fs8_41 38 rfl) rfl (lt_w1 rfl) sh107 (rs107_5 R) (by decide) ?_
    refine q_aload_n d38_15 rfl ?_
    refine q_getI d38_16 (fs8_50 38 rfl) rfl (lt_w1 rfl) sh107 ?_
    refine r_int (y := (nI p)) (show I 107 7 = (nI p) from h7) ?_
    refine q_dload_n d38_19 rfl ?_
    refine q_dastore (a := p) d38_20 (lt_w1 rfl) sh228 rfl (by omega) ?_
    refine q_aload_n d38_21 rfl ?_
    refine q_getR (x := 229) d38_22 (fs8_45 38 rfl) rfl (lt_w1 rfl) sh107 (rs107_6 R) (by decide) ?_
    refine q_aload_n d38_25 rfl ?_
    refine q_getI d38_26 (fs8_50 38 rfl) rfl (lt_w1 rfl) sh107 ?_
    refine r_int (y := (nI p)) (show I 107 7 = (nI p) from h7) ?_
    refine q_iload_n d38_29 rfl ?_
    refine q_iastore (a := p) d38_30 (lt_w1 rfl) sh229 rfl (by omega) ?_
    refine q_aload_n d38_31 rfl ?_
    refine q_dup rfl d38_32 ?_
    refine q_getI d38_33 (fs8_50 38 rfl) rfl (lt_w1 rfl) sh107 ?_
    refine r_int (y := (nI p)) (show (j_u I 229 p w) 107 7 = (nI p) from ((j_u_o _ _ _ (by decide)).trans h7)) ?_
    refine q_iconst (v := 1) (by decide) d38_36 ?_
    refine q_iadd d38_37 ?_
    refine r_int (y := (nI (p + 1))) (nI_add p 1) ?_
    refine q_putI d38_38 (fs8_50 38 rfl) (Or.inl rfl) rfl (lt_w1 rfl) sh107 ?_
    exact q_ret d38_41 rfl (Nat.le_refl _) (Nat.le_refl _) (v1 h1tc)
  ·
    have h1fc : ¬ p < 256 := mt (nI_ltI (by omega) (by omega)).mpr h1f
    exact q_ret d38_10 rfl (Nat.le_refl _) (Nat.le_refl _) (v2 h1fc)

set_option maxRecDepth 10000 in
set_option maxHeartbeats 4000000 in
theorem t50 {d : Nat} {I : Nat → Nat → Int32} {D : Nat → Nat → UInt64} {R : Nat → Nat → Option Nat} {Q : j_Po}  {p : Nat} (h7 : I 107 7 = nI p) (hp : p < 256) (hp1 : 1 ≤ p) (hd : 0 ≤ d)
    (v1 : (p < 1) → Q none w1 (I, D, RR R))
    (v2 : (¬ p < 1) → Q none w1 (I, (j_u D 228 (p - 1) (FP.dneg (D 228 (p - 1)))), RR R)) : j_Call d 50 [.ref 107] w1 (I, D, RR R) 0 0 Q := by
  refine q_enter (L := [some (.ref 107)]) j_m50 (Nat.le_of_ble_eq_true rfl) rfl ?_
  refine q_aload_n d50_0 rfl ?_
  refine q_getI d50_1 (fs8_50 50 rfl) rfl (lt_w1 rfl) sh107 ?_
  refine r_int (y := (nI p)) (show I 107 7 = (nI p) from h7) ?_
  refine q_iconst (v := 1) (by decide) d50_4 ?_
  refine q_icmp_lt (tgt := 31) d50_5 rfl (fun h1t => ?_) (fun h1f => ?_)
  ·
    have h1tc : p < 1 := (nI_ltI (by omega) (by omega)).mp h1t
    exact q_ret d50_31 rfl (Nat.le_refl _) (Nat.le_refl _) (v1 h1tc)
  ·
    have h1fc : ¬ p < 1 := mt (nI_ltI (by omega) (by omega)).mpr h1f
    refine q_aload_n d50_8 rfl ?_
    refine q_getR (x := 228) d50_9 (fs8_41 50 rfl) rfl (lt_w1 rfl) sh107 (rs107_5 R) (by decide) ?_
    refine q_aload_n d50_12 rfl ?_
    refine q_getI d50_13 (fs8_50 50 rfl) rfl (lt_w1 rfl) sh107 ?_
    refine r_int (y := (nI p)) (show I 107 7 = (nI p) from h7) ?_
    refine q_iconst (v := 1) (by decide) d50_16 ?_
    refine q_isub d50_17 ?_
    refine r_int (y := (nI (p - 1))) (pk_sub (b := 1) (by omega)) ?_
    refine q_aload_n d50_18 rfl ?_
    refine q_getR (x := 228) d50_19 (fs8_41 50 rfl) rfl (lt_w1 rfl) sh107 (rs107_5 R) (by decide) ?_
    refine q_aload_n d50_22 rfl ?_
    refine q_getI d50_23 (fs8_50 50 rfl) rfl (lt_w1 rfl) sh107 ?_
    refine r_int (y := (nI p)) (show I 107 7 = (nI p) from h7) ?_
    refine q_iconst (v := 1) (by decide) d50_26 ?_
    refine q_isub d50_27 ?_
    refine r_int (y := (nI (p - 1))) (pk_sub (b := 1) (by omega)) ?_
    refine q_daload (a := (p - 1)) d50_28 (lt_w1 rfl) sh228 rfl (by omega) ?_
    refine q_dneg d50_29 ?_
    refine q_dastore (a := (p - 1)) d50_30 (lt_w1 rfl) sh228 rfl (by omega) ?_
    exact q_ret d50_31 rfl (Nat.le_refl _) (Nat.le_refl _) (v2 h1fc)

set_option maxRecDepth 10000 in
set_option maxHeartbeats 4000000 in
theorem t51 {d : Nat} {I : Nat → Nat → Int32} {D : Nat → Nat → UInt64} {R : Nat → Nat → Option Nat} {Q : j_Po}  {p : Nat} (h7 : I 107 7 = nI p) (hp : p < 255) (hp3 : 3 ≤ p) (hd : 0 ≤ d)
    (v1 : (3 ≤ p) → ((I 229 ((p - 2) - 1)) = 0) → (deq (D 228 ((p - 2) - 1)) FP.dconst0 = true) → Q none w1 ((j_u (j_u I 107 7 (nI (p - 2))) 229 ((p - 2) - 1) (I 229 ((p - 2) + 1))), (j_u D 228 ((p - 2) - 1) (D 228 ((p - 2) + 1))), RR R))
    (v2 : (3 ≤ p) → ((I 229 ((p - 2) - 1)) = 0) → (deq (D 228 ((p - 2) - 1)) FP.dconst0 = false) → Q none w1 ((j_u (j_u I 107 7 (nI (p - 2))) 229 ((p - 2) - 1) (I 229 (p - 2))), (j_u D 228 ((p - 2) - 1) (D 228 (p - 2))), RR R))
    (v3 : (3 ≤ p) → (¬ (I 229 ((p - 2) - 1)) = 0) → Q none w1 ((j_u I 107 7 (nI (p - 2))), D, RR R))
    (v4 : (¬ 3 ≤ p) → Q none w1 (I, D, RR R)) : j_Call d 51 [.ref 107] w1 (I, D, RR R) 0 0 Q := by
  refine q_enter (L := [some (.ref 107), none]) j_m51 (Nat.le_of_ble_eq_true rfl) rfl ?_
  refine q_aload_n d51_0 rfl ?_
  refine q_getI d51_1 (fs8_50 51 rfl) rfl (lt_w1 rfl) sh107 ?_
  refine r_int (y := (nI p)) (show I 107 7 = (nI p) from h7) ?_
  refine q_iconst (v := 3) (by decide) d51_4 ?_
  refine q_icmp_ge (tgt := 9) d51_5 rfl (fun h1t => ?_) (fun h1f => ?_)
  ·
    have h1tc : 3 ≤ p := (nI_leI (by omega) (by omega)).mp h1t
    refine q_aload_n d51_9 rfl ?_
    refine q_dup rfl d51_10 ?_
    refine q_getI d51_11 (fs8_50 51 rfl) rfl (lt_w1 rfl) sh107 ?_
    refine r_int (y := (nI p)) (show I 107 7 = (nI p) from h7) ?_
    refine q_iconst (v := 2) (by decide) d51_14 ?_
    refine q_isub d51_15 ?_
    refine r_int (y := (nI (p - 2))) (pk_sub (b := 2) (by omega)) ?_
    refine q_putI d51_16 (fs8_50 51 rfl) (Or.inl rfl) rfl (lt_w1 rfl) sh107 ?_
    refine q_aload_n d51_19 rfl ?_
    refine q_getR (x := 229) d51_20 (fs8_45 51 rfl) rfl (lt_w1 rfl) sh107 (rs107_6 R) (by decide) ?_
    refine q_aload_n d51_23 rfl ?_
    refine q_getI d51_24 (fs8_50 51 rfl) rfl (lt_w1 rfl) sh107 ?_
    refine r_int (y := (nI (p - 2))) (show (j_u I 107 7 (nI (p - 2))) 107 7 = (nI (p - 2)) from (j_u_same _ _ _ _)) ?_
    refine q_iconst (v := 1) (by decide) d51_27 ?_
    refine q_isub d51_28 ?_
    refine r_int (y := (nI ((p - 2) - 1))) (pk_sub (b := 1) (by omega)) ?_
    refine q_iaload (a := ((p - 2) - 1)) d51_29 (lt_w1 rfl) sh229 rfl (by omega) ?_
    refine r_int (y := (I 229 ((p - 2) - 1))) (show (j_u I 107 7 (nI (p - 2))) 229 ((p - 2) - 1) = (I 229 ((p - 2) - 1)) from (j_u_o _ _ _ (by decide))) ?_
    refine q_if_eq (tgt := 34) d51_30 rfl (fun h2t => ?_) (fun h2f => ?_)
    ·
      refine q_aload_n d51_34 rfl ?_
      refine q_getR (x := 228) d51_35 (fs8_41 51 rfl) rfl (lt_w1 rfl) sh107 (rs107_5 R) (by decide) ?_
      refine q_aload_n d51_38 rfl ?_
      refine q_getI d51_39 (fs8_50 51 rfl) rfl (lt_w1 rfl) sh107 ?_
      refine r_int (y := (nI (p - 2))) (show (j_u I 107 7 (nI (p - 2))) 107 7 = (nI (p - 2)) from (j_u_same _ _ _ _)) ?_
      refine q_iconst (v := 1) (by decide) d51_42 ?_
      refine q_isub d51_43 ?_
      refine r_int (y := (nI ((p - 2) - 1))) (pk_sub (b := 1) (by omega)) ?_
      refine q_daload (a := ((p - 2) - 1)) d51_44 (lt_w1 rfl) sh228 rfl (by omega) ?_
      refine q_dconst0 d51_45 ?_
      refine q_dcmp d51_46 ?_
      refine q_if_eq (tgt := 57) d51_47 rfl (fun h3t => ?_) (fun h3f => ?_)
      ·
        have h3tc : deq (D 228 ((p - 2) - 1)) FP.dconst0 = true := dc_l_eq_t h3t
        refine q_aload_n d51_57 rfl ?_
        refine q_getI d51_58 (fs8_50 51 rfl) rfl (lt_w1 rfl) sh107 ?_
        refine r_int (y := (nI (p - 2))) (show (j_u I 107 7 (nI (p - 2))) 107 7 = (nI (p - 2)) from (j_u_same _ _ _ _)) ?_
        refine q_iconst (v := 1) (by decide) d51_61 ?_
        refine q_iadd d51_62 ?_
        refine r_int (y := (nI ((p - 2) + 1))) (nI_add (p - 2) 1) ?_
        refine q_istore_n (L' := [some (.ref 107), some (.int (nI ((p - 2) + 1)))]) d51_63 (Nat.le_of_ble_eq_true rfl) rfl ?_
        refine q_aload_n d51_64 rfl ?_
        refine q_getR (x := 228) d51_65 (fs8_41 51 rfl) rfl (lt_w1 rfl) sh107 (rs107_5 R) (by decide) ?_
        refine q_aload_n d51_68 rfl ?_
        refine q_getI d51_69 (fs8_50 51 rfl) rfl (lt_w1 rfl) sh107 ?_
        refine r_int (y := (nI (p - 2))) (show (j_u I 107 7 (nI (p - 2))) 107 7 = (nI (p - 2)) from (j_u_same _ _ _ _)) ?_
        refine q_iconst (v := 1) (by decide) d51_72 ?_
        refine q_isub d51_73 ?_
        refine r_int (y := (nI ((p - 2) - 1))) (pk_sub (b := 1) (by omega)) ?_
        refine q_aload_n d51_74 rfl ?_
        refine q_getR (x := 228) d51_75 (fs8_41 51 rfl) rfl (lt_w1 rfl) sh107 (rs107_5 R) (by decide) ?_
        refine q_iload_n d51_78 rfl ?_
        refine q_daload (a := ((p - 2) + 1)) d51_79 (lt_w1 rfl) sh228 rfl (by omega) ?_
        refine q_dastore (a := ((p - 2) - 1)) d51_80 (lt_w1 rfl) sh228 rfl (by omega) ?_
        refine q_aload_n d51_81 rfl ?_
        refine q_getR (x := 229) d51_82 (fs8_45 51 rfl) rfl (lt_w1 rfl) sh107 (rs107_6 R) (by decide) ?_
        refine q_aload_n d51_85 rfl ?_
        refine q_getI d51_86 (fs8_50 51 rfl) rfl (lt_w1 rfl) sh107 ?_
        refine r_int (y := (nI (p - 2))) (show (j_u I 107 7 (nI (p - 2))) 107 7 = (nI (p - 2)) from (j_u_same _ _ _ _)) ?_
        refine q_iconst (v := 1) (by decide) d51_89 ?_
        refine q_isub d51_90 ?_
        refine r_int (y := (nI ((p - 2) - 1))) (pk_sub (b := 1) (by omega)) ?_
        refine q_aload_n d51_91 rfl ?_
        refine q_getR (x := 229) d51_92 (fs8_45 51 rfl) rfl (lt_w1 rfl) sh107 (rs107_6 R) (by decide) ?_
        refine q_iload_n d51_95 rfl ?_
        refine q_iaload (a := ((p - 2) + 1)) d51_96 (lt_w1 rfl) sh229 rfl (by omega) ?_
        refine r_int (y := (I 229 ((p - 2) + 1))) (show (j_u I 107 7 (nI (p - 2))) 229 ((p - 2) + 1) = (I 229 ((p - 2) + 1)) from (j_u_o _ _ _ (by decide))) ?_
        refine q_iastore (a := ((p - 2) - 1)) d51_97 (lt_w1 rfl) sh229 rfl (by omega) ?_
        exact q_ret d51_98 rfl (Nat.le_refl _) (Nat.le_refl _) (v1 h1tc h2t h3tc)
      ·
        have h3fc : deq (D 228 ((p - 2) - 1)) FP.dconst0 = false := dc_l_eq_f h3f
        refine q_aload_n d51_50 rfl ?_
        refine q_getI d51_51 (fs8_50 51 rfl) rfl (lt_w1 rfl) sh107 ?_
        refine r_int (y := (nI (p - 2))) (show (j_u I 107 7 (nI (p - 2))) 107 7 = (nI (p - 2)) from (j_u_same _ _ _ _)) ?_
        refine q_goto (tgt := 63) d51_54 rfl ?_
        refine q_istore_n (L' := [some (.ref 107), some (.int (nI (p - 2)))]) d51_63 (Nat.le_of_ble_eq_true rfl) rfl ?_
        refine q_aload_n d51_64 rfl ?_
        refine q_getR (x := 228) d51_65 (fs8_41 51 rfl) rfl (lt_w1 rfl) sh107 (rs107_5 R) (by decide) ?_
        refine q_aload_n d51_68 rfl ?_
        refine q_getI d51_69 (fs8_50 51 rfl) rfl (lt_w1 rfl) sh107 ?_
        refine r_int (y := (nI (p - 2))) (show (j_u I 107 7 (nI (p - 2))) 107 7 = (nI (p - 2)) from (j_u_same _ _ _ _)) ?_
        refine q_iconst (v := 1) (by decide) d51_72 ?_
        refine q_isub d51_73 ?_
        refine r_int (y := (nI ((p - 2) - 1))) (pk_sub (b := 1) (by omega)) ?_
        refine q_aload_n d51_74 rfl ?_
        refine q_getR (x := 228) d51_75 (fs8_41 51 rfl) rfl (lt_w1 rfl) sh107 (rs107_5 R) (by decide) ?_
        refine q_iload_n d51_78 rfl ?_
        refine q_daload (a := (p - 2)) d51_79 (lt_w1 rfl) sh228 rfl (by omega) ?_
        refine q_dastore (a := ((p - 2) - 1)) d51_80 (lt_w1 rfl) sh228 rfl (by omega) ?_
        refine q_aload_n d51_81 rfl ?_
        refine q_getR (x := 229) d51_82 (fs8_45 51 rfl) rfl (lt_w1 rfl) sh107 (rs107_6 R) (by decide) ?_
        refine q_aload_n d51_85 rfl ?_
        refine q_getI d51_86 (fs8_50 51 rfl) rfl (lt_w1 rfl) sh107 ?_
        refine r_int (y := (nI (p - 2))) (show (j_u I 107 7 (nI (p - 2))) 107 7 = (nI (p - 2)) from (j_u_same _ _ _ _)) ?_
        refine q_iconst (v := 1) (by decide) d51_89 ?_
        refine q_isub d51_90 ?_
        refine r_int (y := (nI ((p - 2) - 1))) (pk_sub (b := 1) (by omega)) ?_
        refine q_aload_n d51_91 rfl ?_
        refine q_getR (x := 229) d51_92 (fs8_45 51 rfl) rfl (lt_w1 rfl) sh107 (rs107_6 R) (by decide) ?_
        refine q_iload_n d51_95 rfl ?_
        refine q_iaload (a := (p - 2)) d51_96 (lt_w1 rfl) sh229 rfl (by omega) ?_
        refine r_int (y := (I 229 (p - 2))) (show (j_u I 107 7 (nI (p - 2))) 229 (p - 2) = (I 229 (p - 2)) from (j_u_o _ _ _ (by decide))) ?_
        refine q_iastore (a := ((p - 2) - 1)) d51_97 (lt_w1 rfl) sh229 rfl (by omega) ?_
        exact q_ret d51_98 rfl (Nat.le_refl _) (Nat.le_refl _) (v2 h1tc h2t h3fc)
    ·
      exact q_ret d51_33 rfl (Nat.le_refl _) (Nat.le_refl _) (v3 h1tc h2f)
  ·
    have h1fc : ¬ 3 ≤ p := mt (nI_leI (by omega) (by omega)).mpr h1f
    exact q_ret d51_8 rfl (Nat.le_refl _) (Nat.le_refl _) (v4 h1fc)

set_option maxRecDepth 10000 in
set_option maxHeartbeats 4000000 in
theorem s35n {d : Nat} {I : Nat → Nat → Int32} {D : Nat → Nat → UInt64} {R : Nat → Nat → Option Nat} {Q : j_Po} {a : Nat} {b : Nat}  (ha : a < 10) (hb : b < 24) (hd : 0 ≤ d)
    (v1 : Q (some (.int (nI ((a * 32) + b)))) w1 (I, D, RR R)) : j_Call d 35 [.int (nI a), .int (nI b)] w1 (I, D, RR R) 0 0 Q := by
  refine q_enter (L := [some (.int (nI a)), some (.int (nI b))]) j_m35 (Nat.le_of_ble_eq_true rfl) rfl ?_
  refine q_iload_n d35_0 rfl ?_
  refine q_bipush (v := 32) (by decide) d35_1 ?_
  refine q_imul d35_3 ?_
  refine r_int (y := (nI (a * 32))) (pk_mul a 32) ?_
  refine q_iload_n d35_4 rfl ?_
  refine q_iadd d35_5 ?_
  refine r_int (y := (nI ((a * 32) + b))) (nI_add (a * 32) b) ?_
  exact q_iret d35_6 rfl (Nat.le_refl _) (Nat.le_refl _) v1

theorem c35n {d a b : Nat} {I : Nat → Nat → Int32} {D : Nat → Nat → UInt64} {R : Nat → Nat → Option Nat} {Q : j_Po} (ha : a < 10) (hb : b < 24) (hq : Q (some (.int (nI (a * 32 + b)))) w1 (I, D, RR R)) : j_Call d 35 [.int (nI a), .int (nI b)] w1 (I, D, RR R) 0 0 Q := s35n ha hb (Nat.zero_le _) hq
set_option maxRecDepth 10000 in
set_option maxHeartbeats 4000000 in
theorem s52e {d : Nat} {I : Nat → Nat → Int32} {D : Nat → Nat → UInt64} {R : Nat → Nat → Option Nat} {Q : j_Po} {a : Nat} {c : Nat} {p : Nat} (h7 : I 107 7 = nI p) (hp : p < 256) (hp2 : 2 ≤ p) (hd : 0 ≤ d)
    (v1 : (2 ≤ p) → ((I 229 ((p - 1) - 1)) = 0) → (((j_u (j_u I 107 7 (nI (p - 1))) 229 ((p - 1) - 1) (I 229 (p - 1))) 229 (p - 1)) = 0) → j_W 52 d 0 0 0 0 90 [some (.ref 107), some (.int (nI a)), some (.int (nI c)), some (.double (D 228 ((p - 1) - 1))), none, some (.double (D 228 (p - 1))), none, none, none, none] [] w1 ((j_u (j_u I 107 7 (nI (p - 1))) 229 ((p - 1) - 1) (I 229 (p - 1))), D, RR R) Q)
    (v2 : (2 ≤ p) → ((I 229 ((p - 1) - 1)) = 0) → (¬ ((j_u (j_u I 107 7 (nI (p - 1))) 229 ((p - 1) - 1) (I 229 (p - 1))) 229 (p - 1)) = 0) → Q none w1 ((j_u (j_u I 107 7 (nI (p - 1))) 229 ((p - 1) - 1) (I 229 (p - 1))), D, RR R))
    (v3 : (2 ≤ p) → (¬ (I 229 ((p - 1) - 1)) = 0) → Q none w1 ((j_u I 107 7 (nI (p - 1))), D, RR R))
    (v4 : (¬ 2 ≤ p) → Q none w1 (I, D, RR R)) : j_Call d 52 [.ref 107, .int (nI a), .int (nI c)] w1 (I, D, RR R) 0 0 Q := by
  refine q_enter (L := [some (.ref 107), some (.int (nI a)), some (.int (nI c)), none, none, none, none, none, none, none]) j_m52 (Nat.le_of_ble_eq_true rfl) rfl ?_
  refine q_aload_n d52_0 rfl ?_
  refine q_getI d52_1 (fs8_50 52 rfl) rfl (lt_w1 rfl) sh107 ?_
  refine r_int (y := (nI p)) (show I 107 7 = (nI p) from h7) ?_
  refine q_iconst (v := 2) (by decide) d52_4 ?_
  refine q_icmp_ge (tgt := 9) d52_5 rfl (fun h1t => ?_) (fun h1f => ?_)
  ·
    have h1tc : 2 ≤ p := (nI_leI (by omega) (by omega)).mp h1t
    refine q_aload_n d52_9 rfl ?_
    refine q_dup rfl d52_10 ?_
    refine q_getI d52_11 (fs8_50 52 rfl) rfl (lt_w1 rfl) sh107 ?_
    refine r_int (y := (nI p)) (show I 107 7 = (nI p) from h7) ?_
    refine q_iconst (v := 1) (by decide) d52_14 ?_
    refine q_isub d52_15 ?_
    refine r_int (y := (nI (p - 1))) (pk_sub (b := 1) (by omega)) ?_
    refine q_putI d52_16 (fs8_50 52 rfl) (Or.inl rfl) rfl (lt_w1 rfl) sh107 ?_
    refine q_aload_n d52_19 rfl ?_
    refine q_getR (x := 229) d52_20 (fs8_45 52 rfl) rfl (lt_w1 rfl) sh107 (rs107_6 R) (by decide) ?_
    refine q_aload_n d52_23 rfl ?_
    refine q_getI d52_24 (fs8_50 52 rfl) rfl (lt_w1 rfl) sh107 ?_
    refine r_int (y := (nI (p - 1))) (show (j_u I 107 7 (nI (p - 1))) 107 7 = (nI (p - 1)) from (j_u_same _ _ _ _)) ?_
    refine q_iconst (v := 1) (by decide) d52_27 ?_
    refine q_isub d52_28 ?_
    refine r_int (y := (nI ((p - 1) - 1))) (pk_sub (b := 1) (by omega)) ?_
    refine q_iaload (a := ((p - 1) - 1)) d52_29 (lt_w1 rfl) sh229 rfl (by omega) ?_
    refine r_int (y := (I 229 ((p - 1) - 1))) (show (j_u I 107 7 (nI (p - 1))) 229 ((p - 1) - 1) = (I 229 ((p - 1) - 1)) from (j_u_o _ _ _ (by decide))) ?_
    refine q_if_eq (tgt := 34) d52_30 rfl (fun h2t => ?_) (fun h2f => ?_)
    ·
      refine q_aload_n d52_34 rfl ?_
      refine q_getR (x := 229) d52_35 (fs8_45 52 rfl) rfl (lt_w1 rfl) sh107 (rs107_6 R) (by decide) ?_
      refine q_aload_n d52_38 rfl ?_
      refine q_getI d52_39 (fs8_50 52 rfl) rfl (lt_w1 rfl) sh107 ?_
      refine r_int (y := (nI (p - 1))) (show (j_u I 107 7 (nI (p - 1))) 107 7 = (nI (p - 1)) from (j_u_same _ _ _ _)) ?_
      refine q_iconst (v := 1) (by decide) d52_42 ?_
      refine q_isub d52_43 ?_
      refine r_int (y := (nI ((p - 1) - 1))) (pk_sub (b := 1) (by omega)) ?_
      refine q_aload_n d52_44 rfl ?_
      refine q_getR (x := 229) d52_45 (fs8_45 52 rfl) rfl (lt_w1 rfl) sh107 (rs107_6 R) (by decide) ?_
      refine q_aload_n d52_48 rfl ?_
      refine q_getI d52_49 (fs8_50 52 rfl) rfl (lt_w1 rfl) sh107 ?_
      refine r_int (y := (nI (p - 1))) (show (j_u I 107 7 (nI (p - 1))) 107 7 = (nI (p - 1)) from (j_u_same _ _ _ _)) ?_
      refine q_iaload (a := (p - 1)) d52_52 (lt_w1 rfl) sh229 rfl (by omega) ?_
      refine r_int (y := (I 229 (p - 1))) (show (j_u I 107 7 (nI (p - 1))) 229 (p - 1) = (I 229 (p - 1)) from (j_u_o _ _ _ (by decide))) ?_
      refine q_iastore (a := ((p - 1) - 1)) d52_53 (lt_w1 rfl) sh229 rfl (by omega) ?_
      refine q_aload_n d52_54 rfl ?_
      refine q_getR (x := 229) d52_55 (fs8_45 52 rfl) rfl (lt_w1 rfl) sh107 (rs107_6 R) (by decide) ?_
      refine q_aload_n d52_58 rfl ?_
      refine q_getI d52_59 (fs8_50 52 rfl) rfl (lt_w1 rfl) sh107 ?_
      refine r_int (y := (nI (p - 1))) (show (j_u (j_u I 107 7 (nI (p - 1))) 229 ((p - 1) - 1) (I 229 (p - 1))) 107 7 = (nI (p - 1)) from ((j_u_o _ _ _ (by decide)).trans (j_u_same _ _ _ _))) ?_
      refine q_iaload (a := (p - 1)) d52_62 (lt_w1 rfl) sh229 rfl (by omega) ?_
      refine q_if_eq (tgt := 67) d52_63 rfl (fun h3t => ?_) (fun h3f => ?_)
      ·
        refine q_aload_n d52_67 rfl ?_
        refine q_getR (x := 228) d52_68 (fs8_41 52 rfl) rfl (lt_w1 rfl) sh107 (rs107_5 R) (by decide) ?_
        refine q_aload_n d52_71 rfl ?_
        refine q_getI d52_72 (fs8_50 52 rfl) rfl (lt_w1 rfl) sh107 ?_
        refine r_int (y := (nI (p - 1))) (show (j_u (j_u I 107 7 (nI (p - 1))) 229 ((p - 1) - 1) (I 229 (p - 1))) 107 7 = (nI (p - 1)) from ((j_u_o _ _ _ (by decide)).trans (j_u_same _ _ _ _))) ?_
        refine q_iconst (v := 1) (by decide) d52_75 ?_
        refine q_isub d52_76 ?_
        refine r_int (y := (nI ((p - 1) - 1))) (pk_sub (b := 1) (by omega)) ?_
        refine q_daload (a := ((p - 1) - 1)) d52_77 (lt_w1 rfl) sh228 rfl (by omega) ?_
        refine q_dstore_n (L' := [some (.ref 107), some (.int (nI a)), some (.int (nI c)), some (.double (D 228 ((p - 1) - 1))), none, none, none, none, none, none]) d52_78 (Nat.le_of_ble_eq_true rfl) rfl ?_
        refine q_aload_n d52_79 rfl ?_
        refine q_getR (x := 228) d52_80 (fs8_41 52 rfl) rfl (lt_w1 rfl) sh107 (rs107_5 R) (by decide) ?_
        refine q_aload_n d52_83 rfl ?_
        refine q_getI d52_84 (fs8_50 52 rfl) rfl (lt_w1 rfl) sh107 ?_
        refine r_int (y := (nI (p - 1))) (show (j_u (j_u I 107 7 (nI (p - 1))) 229 ((p - 1) - 1) (I 229 (p - 1))) 107 7 = (nI (p - 1)) from ((j_u_o _ _ _ (by decide)).trans (j_u_same _ _ _ _))) ?_
        refine q_daload (a := (p - 1)) d52_87 (lt_w1 rfl) sh228 rfl (by omega) ?_
        refine q_dstore (L' := [some (.ref 107), some (.int (nI a)), some (.int (nI c)), some (.double (D 228 ((p - 1) - 1))), none, some (.double (D 228 (p - 1))), none, none, none, none]) d52_88 (Nat.le_of_ble_eq_true rfl) rfl ?_
        exact r_sub (L' := [some (.ref 107), some (.int (nI a)), some (.int (nI c)), some (.double (D 228 ((p - 1) - 1))), none, some (.double (D 228 (p - 1))), none, none, none, none]) ⟨rfl, rfl, rfl, rfl, rfl, trivial⟩ (v1 h1tc h2t h3t)
      ·
        exact q_ret d52_66 rfl (Nat.le_refl _) (Nat.le_refl _) (v2 h1tc h2t h3f)
    ·
      exact q_ret d52_33 rfl (Nat.le_refl _) (Nat.le_refl _) (v3 h1tc h2f)
  ·
    have h1fc : ¬ 2 ≤ p := mt (nI_leI (by omega) (by omega)).mpr h1f
    exact q_ret d52_8 rfl (Nat.le_refl _) (Nat.le_refl _) (v4 h1fc)

set_option maxRecDepth 10000 in
set_option maxHeartbeats 4000000 in
theorem s52_3 {d : Nat} {I : Nat → Nat → Int32} {D : Nat → Nat → UInt64} {R : Nat → Nat → Option Nat} {Q : j_Po} {c : Nat} {x : UInt64} {y : UInt64} {p : Nat} (h7 : I 107 7 = nI p) (hp : p < 256) (hp1 : 1 ≤ p) (hc : c < 24) (hd : 1 ≤ d)
    (v1 : vf_n64 (FP.dadd x y))
    (v2 : (dgt (FP.dadd x y) 4786511204640096256 = true) → 3 < 10)
    (v3 : (dgt (FP.dadd x y) 4786511204640096256 = true) → c < 24)
    (v4 : (dgt (FP.dadd x y) 4786511204640096256 = true) → Q none w1 ((j_u I 229 (p - 1) (nI (3 * 32 + c))), D, RR R))
    (v5 : (dgt (FP.dadd x y) 4786511204640096256 = false) → (dlt (FP.dadd x y) 14009883241494872064 = false) → Q none w1 (I, (j_u D 228 (p - 1) (FP.dadd x y)), RR R))
    (v6 : (dgt (FP.dadd x y) 4786511204640096256 = false) → (dlt (FP.dadd x y) 14009883241494872064 = true) → 3 < 10)
    (v7 : (dgt (FP.dadd x y) 4786511204640096256 = false) → (dlt (FP.dadd x y) 14009883241494872064 = true) → c < 24)
    (v8 : (dgt (FP.dadd x y) 4786511204640096256 = false) → (dlt (FP.dadd x y) 14009883241494872064 = true) → Q none w1 ((j_u I 229 (p - 1) (nI (3 * 32 + c))), D, RR R)) : j_W 52 d 0 0 0 0 90 [some (.ref 107), some (.int 3), some (.int (nI c)), some (.double x), none, some (.double y), none, none, none, none] [] w1 (I, D, RR R) Q := by
  refine q_iload_n d52_90 rfl ?_
  refine q_bipush (v := 6) (by decide) d52_91 ?_
  refine q_icmp_eq (tgt := 102) d52_93 rfl (fun h => absurd h (by decide)) (fun _ => ?_)
  refine q_iload_n d52_96 rfl ?_
  refine q_bipush (v := 7) (by decide) d52_97 ?_
  refine q_icmp_ne (tgt := 126) d52_99 rfl (fun _ => ?_) (fun h => absurd h (by decide))
  refine q_dload_n d52_126 rfl ?_
  refine q_dstore (L' := [some (.ref 107), some (.int 3), some (.int (nI c)), some (.double x), none, some (.double y), none, some (.double x), none, none]) d52_127 (Nat.le_of_ble_eq_true rfl) rfl ?_
  refine q_iload_n d52_129 rfl ?_
  refine q_tableIn (tgt := 180) d52_130 (by decide) (by decide) rfl rfl ?_
  refine q_dload_n d52_180 rfl ?_
  refine q_dload d52_181 rfl ?_
  refine q_dadd v1 d52_183 ?_
  refine q_dstore (L' := [some (.ref 107), some (.int 3), some (.int (nI c)), some (.double x), none, some (.double y), none, some (.double (FP.dadd x y)), none, none]) d52_184 (Nat.le_of_ble_eq_true rfl) rfl ?_
  refine q_goto (tgt := 319) d52_186 rfl ?_
  refine q_iload_n d52_319 rfl ?_
  refine q_iconst (v := 3) (by decide) d52_320 ?_
  refine q_icmp_lt (tgt := 352) d52_321 rfl (fun h => absurd h (by decide)) (fun _ => ?_)
  refine q_iload_n d52_324 rfl ?_
  refine q_bipush (v := 6) (by decide) d52_325 ?_
  refine q_icmp_gt (tgt := 352) d52_327 rfl (fun h => absurd h (by decide)) (fun _ => ?_)
  refine q_dload d52_330 rfl ?_
  refine q_ldcD (v := 4786511204640096256) d52_332 (kc8_144 52 rfl) ?_
  refine q_dcmp d52_335 ?_
  refine q_if_gt (tgt := 348) d52_336 rfl (fun h1t => ?_) (fun h1f => ?_)
  ·
    have h1tc : dgt (FP.dadd x y) 4786511204640096256 = true := dc_l_gt_t h1t
    refine q_iconst (v := 1) (by decide) d52_348 ?_
    refine q_goto (tgt := 353) d52_349 rfl ?_
    refine q_istore (L' := [some (.ref 107), some (.int 3), some (.int (nI c)), some (.double x), none, some (.double y), none, some (.double (FP.dadd x y)), none, some (.int 1)]) d52_353 (Nat.le_of_ble_eq_true rfl) rfl ?_
    refine q_iload d52_355 rfl ?_
    refine q_if_eq (tgt := 379) d52_357 rfl (fun h => absurd h (by decide)) (fun _ => ?_)
    refine q_aload_n d52_360 rfl ?_
    refine q_getR (x := 229) d52_361 (fs8_45 52 rfl) rfl (lt_w1 rfl) sh107 (rs107_6 R) (by decide) ?_
    refine q_aload_n d52_364 rfl ?_
    refine q_getI d52_365 (fs8_50 52 rfl) rfl (lt_w1 rfl) sh107 ?_
    refine r_int (y := (nI p)) (show I 107 7 = (nI p) from h7) ?_
    refine q_iconst (v := 1) (by decide) d52_368 ?_
    refine q_isub d52_369 ?_
    refine r_int (y := (nI (p - 1))) (pk_sub (b := 1) (by omega)) ?_
    refine q_iconst (v := 3) (by decide) d52_370 ?_
    refine q_iload_n d52_371 rfl ?_
    refine q_invSN (av := [.int 3, .int (nI c)]) (rest := [.int (nI (p - 1)), .ref 229]) (d' := 0) (mc' := 0) (ms' := 0) d52_372 (nv8_67 52 rfl) rfl rfl (by omega) (Nat.le_of_ble_eq_true rfl) (Nat.le_of_ble_eq_true rfl) (Nat.le_refl _) (Nat.le_refl _) ?_
    refine c35n (a := 3) (b := c) (v2 h1tc) (v3 h1tc) ?_
    show j_W 52 d 0 0 0 0 375 [some (.ref 107), some (.int 3), some (.int (nI c)), some (.double x), none, some (.double y), none, some (.double (FP.dadd x y)), none, some (.int 1)] [.int (nI (3 * 32 + c)), .int (nI (p - 1)), .ref 229] w1 (I, D, RR R) Q
    refine q_iastore (a := (p - 1)) d52_375 (lt_w1 rfl) sh229 rfl (by omega) ?_
    refine q_goto (tgt := 392) d52_376 rfl ?_
    exact q_ret d52_392 rfl (Nat.le_refl _) (Nat.le_refl _) (v4 h1tc)
  ·
    have h1fc : dgt (FP.dadd x y) 4786511204640096256 = false := dc_l_gt_f h1f
    refine q_dload d52_339 rfl ?_
    refine q_ldcD (v := 14009883241494872064) d52_341 (kc8_146 52 rfl) ?_
    refine q_dcmp d52_344 ?_
    refine q_if_ge (tgt := 352) d52_345 rfl (fun h2t => ?_) (fun h2f => ?_)
    ·
      have h2tc : dlt (FP.dadd x y) 14009883241494872064 = false := dc_g_ge_t h2t
      refine q_iconst (v := 0) (by decide) d52_352 ?_
      refine q_istore (L' := [some (.ref 107), some (.int 3), some (.int (nI c)), some (.double x), none, some (.double y), none, some (.double (FP.dadd x y)), none, some (.int 0)]) d52_353 (Nat.le_of_ble_eq_true rfl) rfl ?_
      refine q_iload d52_355 rfl ?_
      refine q_if_eq (tgt := 379) d52_357 rfl (fun _ => ?_) (fun h => absurd h (by decide))
      refine q_aload_n d52_379 rfl ?_
      refine q_getR (x := 228) d52_380 (fs8_41 52 rfl) rfl (lt_w1 rfl) sh107 (rs107_5 R) (by decide) ?_
      refine q_aload_n d52_383 rfl ?_
      refine q_getI d52_384 (fs8_50 52 rfl) rfl (lt_w1 rfl) sh107 ?_
      refine r_int (y := (nI p)) (show I 107 7 = (nI p) from h7) ?_
      refine q_iconst (v := 1) (by decide) d52_387 ?_
      refine q_isub d52_388 ?_
      refine r_int (y := (nI (p - 1))) (pk_sub (b := 1) (by omega)) ?_
      refine q_dload d52_389 rfl ?_
      refine q_dastore (a := (p - 1)) d52_391 (lt_w1 rfl) sh228 rfl (by omega) ?_
      exact q_ret d52_392 rfl (Nat.le_refl _) (Nat.le_refl _) (v5 h1fc h2tc)
    ·
      have h2fc : dlt (FP.dadd x y) 14009883241494872064 = true := dc_g_ge_f h2f
      refine q_iconst (v := 1) (by decide) d52_348 ?_
      refine q_goto (tgt := 353) d52_349 rfl ?_
      refine q_istore (L' := [some (.ref 107), some (.int 3), some (.int (nI c)), some (.double x), none, some (.double y), none, some (.double (FP.dadd x y)), none, some (.int 1)]) d52_353 (Nat.le_of_ble_eq_true rfl) rfl ?_
      refine q_iload d52_355 rfl ?_
      refine q_if_eq (tgt := 379) d52_357 rfl (fun h => absurd h (by decide)) (fun _ => ?_)
      refine q_aload_n d52_360 rfl ?_
      refine q_getR (x := 229) d52_361 (fs8_45 52 rfl) rfl (lt_w1 rfl) sh107 (rs107_6 R) (by decide) ?_
      refine q_aload_n d52_364 rfl ?_
      refine q_getI d52_365 (fs8_50 52 rfl) rfl (lt_w1 rfl) sh107 ?_
      refine r_int (y := (nI p)) (show I 107 7 = (nI p) from h7) ?_
      refine q_iconst (v := 1) (by decide) d52_368 ?_
      refine q_isub d52_369 ?_
      refine r_int (y := (nI (p - 1))) (pk_sub (b := 1) (by omega)) ?_
      refine q_iconst (v := 3) (by decide) d52_370 ?_
      refine q_iload_n d52_371 rfl ?_
      refine q_invSN (av := [.int 3, .int (nI c)]) (rest := [.int (nI (p - 1)), .ref 229]) (d' := 0) (mc' := 0) (ms' := 0) d52_372 (nv8_67 52 rfl) rfl rfl (by omega) (Nat.le_of_ble_eq_true rfl) (Nat.le_of_ble_eq_true rfl) (Nat.le_refl _) (Nat.le_refl _) ?_
      refine c35n (a := 3) (b := c) (v6 h1fc h2fc) (v7 h1fc h2fc) ?_
      show j_W 52 d 0 0 0 0 375 [some (.ref 107), some (.int 3), some (.int (nI c)), some (.double x), none, some (.double y), none, some (.double (FP.dadd x y)), none, some (.int 1)] [.int (nI (3 * 32 + c)), .int (nI (p - 1)), .ref 229] w1 (I, D, RR R) Q
      refine q_iastore (a := (p - 1)) d52_375 (lt_w1 rfl) sh229 rfl (by omega) ?_
      refine q_goto (tgt := 392) d52_376 rfl ?_
      exact q_ret d52_392 rfl (Nat.le_refl _) (Nat.le_refl _) (v8 h1fc h2fc)

set_option maxRecDepth 10000 in
set_option maxHeartbeats 4000000 in
theorem s52_4 {d : Nat} {I : Nat → Nat → Int32} {D : Nat → Nat → UInt64} {R : Nat → Nat → Option Nat} {Q : j_Po} {c : Nat} {x : UInt64} {y : UInt64} {p : Nat} (h7 : I 107 7 = nI p) (hp : p < 256) (hp1 : 1 ≤ p) (hc : c < 24) (hd : 1 ≤ d)
    (v1 : vf_n64 (FP.dsub x y))
    (v2 : (dgt (FP.dsub x y) 4786511204640096256 = true) → 3 < 10)
    (v3 : (dgt (FP.dsub x y) 4786511204640096256 = true) → c < 24)
    (v4 : (dgt (FP.dsub x y) 4786511204640096256 = true) → Q none w1 ((j_u I 229 (p - 1) (nI (3 * 32 + c))), D, RR R))
    (v5 : (dgt (FP.dsub x y) 4786511204640096256 = false) → (dlt (FP.dsub x y) 14009883241494872064 = false) → Q none w1 (I, (j_u D 228 (p - 1) (FP.dsub x y)), RR R))
    (v6 : (dgt (FP.dsub x y) 4786511204640096256 = false) → (dlt (FP.dsub x y) 14009883241494872064 = true) → 3 < 10)
    (v7 : (dgt (FP.dsub x y) 4786511204640096256 = false) → (dlt (FP.dsub x y) 14009883241494872064 = true) → c < 24)
    (v8 : (dgt (FP.dsub x y) 4786511204640096256 = false) → (dlt (FP.dsub x y) 14009883241494872064 = true) → Q none w1 ((j_u I 229 (p - 1) (nI (3 * 32 + c))), D, RR R)) : j_W 52 d 0 0 0 0 90 [some (.ref 107), some (.int 4), some (.int (nI c)), some (.double x), none, some (.double y), none, none, none, none] [] w1 (I, D, RR R) Q := by
  refine q_iload_n d52_90 rfl ?_
  refine q_bipush (v := 6) (by decide) d52_91 ?_
  refine q_icmp_eq (tgt := 102) d52_93 rfl (fun h => absurd h (by decide)) (fun _ => ?_)
  refine q_iload_n d52_96 rfl ?_
  refine q_bipush (v := 7) (by decide) d52_97 ?_
  refine q_icmp_ne (tgt := 126) d52_99 rfl (fun _ => ?_) (fun h => absurd h (by decide))
  refine q_dload_n d52_126 rfl ?_
  refine q_dstore (L' := [some (.ref 107), some (.int 4), some (.int (nI c)), some (.double x), none, some (.double y), none, some (.double x), none, none]) d52_127 (Nat.le_of_ble_eq_true rfl) rfl ?_
  refine q_iload_n d52_129 rfl ?_
  refine q_tableIn (tgt := 189) d52_130 (by decide) (by decide) rfl rfl ?_
  refine q_dload_n d52_189 rfl ?_
  refine q_dload d52_190 rfl ?_
  refine q_dsub v1 d52_192 ?_
  refine q_dstore (L' := [some (.ref 107), some (.int 4), some (.int (nI c)), some (.double x), none, some (.double y), none, some (.double (FP.dsub x y)), none, none]) d52_193 (Nat.le_of_ble_eq_true rfl) rfl ?_
  refine q_goto (tgt := 319) d52_195 rfl ?_
  refine q_iload_n d52_319 rfl ?_
  refine q_iconst (v := 3) (by decide) d52_320 ?_
  refine q_icmp_lt (tgt := 352) d52_321 rfl (fun h => absurd h (by decide)) (fun _ => ?_)
  refine q_iload_n d52_324 rfl ?_
  refine q_bipush (v := 6) (by decide) d52_325 ?_
  refine q_icmp_gt (tgt := 352) d52_327 rfl (fun h => absurd h (by decide)) (fun _ => ?_)
  refine q_dload d52_330 rfl ?_
  refine q_ldcD (v := 4786511204640096256) d52_332 (kc8_144 52 rfl) ?_
  refine q_dcmp d52_335 ?_
  refine q_if_gt (tgt := 348) d52_336 rfl (fun h1t => ?_) (fun h1f => ?_)
  ·
    have h1tc : dgt (FP.dsub x y) 4786511204640096256 = true := dc_l_gt_t h1t
    refine q_iconst (v := 1) (by decide) d52_348 ?_
    refine q_goto (tgt := 353) d52_349 rfl ?_
    refine q_istore (L' := [some (.ref 107), some (.int 4), some (.int (nI c)), some (.double x), none, some (.double y), none, some (.double (FP.dsub x y)), none, some (.int 1)]) d52_353 (Nat.le_of_ble_eq_true rfl) rfl ?_
    refine q_iload d52_355 rfl ?_
    refine q_if_eq (tgt := 379) d52_357 rfl (fun h => absurd h (by decide)) (fun _ => ?_)
    refine q_aload_n d52_360 rfl ?_
    refine q_getR (x := 229) d52_361 (fs8_45 52 rfl) rfl (lt_w1 rfl) sh107 (rs107_6 R) (by decide) ?_
    refine q_aload_n d52_364 rfl ?_
    refine q_getI d52_365 (fs8_50 52 rfl) rfl (lt_w1 rfl) sh107 ?_
    refine r_int (y := (nI p)) (show I 107 7 = (nI p) from h7) ?_
    refine q_iconst (v := 1) (by decide) d52_368 ?_
    refine q_isub d52_369 ?_
    refine r_int (y := (nI (p - 1))) (pk_sub (b := 1) (by omega)) ?_
    refine q_iconst (v := 3) (by decide) d52_370 ?_
    refine q_iload_n d52_371 rfl ?_
    refine q_invSN (av := [.int 3, .int (nI c)]) (rest := [.int (nI (p - 1)), .ref 229]) (d' := 0) (mc' := 0) (ms' := 0) d52_372 (nv8_67 52 rfl) rfl rfl (by omega) (Nat.le_of_ble_eq_true rfl) (Nat.le_of_ble_eq_true rfl) (Nat.le_refl _) (Nat.le_refl _) ?_
    refine c35n (a := 3) (b := c) (v2 h1tc) (v3 h1tc) ?_
    show j_W 52 d 0 0 0 0 375 [some (.ref 107), some (.int 4), some (.int (nI c)), some (.double x), none, some (.double y), none, some (.double (FP.dsub x y)), none, some (.int 1)] [.int (nI (3 * 32 + c)), .int (nI (p - 1)), .ref 229] w1 (I, D, RR R) Q
    refine q_iastore (a := (p - 1)) d52_375 (lt_w1 rfl) sh229 rfl (by omega) ?_
    refine q_goto (tgt := 392) d52_376 rfl ?_
    exact q_ret d52_392 rfl (Nat.le_refl _) (Nat.le_refl _) (v4 h1tc)
  ·
    have h1fc : dgt (FP.dsub x y) 4786511204640096256 = false := dc_l_gt_f h1f
    refine q_dload d52_339 rfl ?_
    refine q_ldcD (v := 14009883241494872064) d52_341 (kc8_146 52 rfl) ?_
    refine q_dcmp d52_344 ?_
    refine q_if_ge (tgt := 352) d52_345 rfl (fun h2t => ?_) (fun h2f => ?_)
    ·
      have h2tc : dlt (FP.dsub x y) 14009883241494872064 = false := dc_g_ge_t h2t
      refine q_iconst (v := 0) (by decide) d52_352 ?_
      refine q_istore (L' := [some (.ref 107), some (.int 4), some (.int (nI c)), some (.double x), none, some (.double y), none, some (.double (FP.dsub x y)), none, some (.int 0)]) d52_353 (Nat.le_of_ble_eq_true rfl) rfl ?_
      refine q_iload d52_355 rfl ?_
      refine q_if_eq (tgt := 379) d52_357 rfl (fun _ => ?_) (fun h => absurd h (by decide))
      refine q_aload_n d52_379 rfl ?_
      refine q_getR (x := 228) d52_380 (fs8_41 52 rfl) rfl (lt_w1 rfl) sh107 (rs107_5 R) (by decide) ?_
      refine q_aload_n d52_383 rfl ?_
      refine q_getI d52_384 (fs8_50 52 rfl) rfl (lt_w1 rfl) sh107 ?_
      refine r_int (y := (nI p)) (show I 107 7 = (nI p) from h7) ?_
      refine q_iconst (v := 1) (by decide) d52_387 ?_
      refine q_isub d52_388 ?_
      refine r_int (y := (nI (p - 1))) (pk_sub (b := 1) (by omega)) ?_
      refine q_dload d52_389 rfl ?_
      refine q_dastore (a := (p - 1)) d52_391 (lt_w1 rfl) sh228 rfl (by omega) ?_
      exact q_ret d52_392 rfl (Nat.le_refl _) (Nat.le_refl _) (v5 h1fc h2tc)
    ·
      have h2fc : dlt (FP.dsub x y) 14009883241494872064 = true := dc_g_ge_f h2f
      refine q_iconst (v := 1) (by decide) d52_348 ?_
      refine q_goto (tgt := 353) d52_349 rfl ?_
      refine q_istore (L' := [some (.ref 107), some (.int 4), some (.int (nI c)), some (.double x), none, some (.double y), none, some (.double (FP.dsub x y)), none, some (.int 1)]) d52_353 (Nat.le_of_ble_eq_true rfl) rfl ?_
      refine q_iload d52_355 rfl ?_
      refine q_if_eq (tgt := 379) d52_357 rfl (fun h => absurd h (by decide)) (fun _ => ?_)
      refine q_aload_n d52_360 rfl ?_
      refine q_getR (x := 229) d52_361 (fs8_45 52 rfl) rfl (lt_w1 rfl) sh107 (rs107_6 R) (by decide) ?_
      refine q_aload_n d52_364 rfl ?_
      refine q_getI d52_365 (fs8_50 52 rfl) rfl (lt_w1 rfl) sh107 ?_
      refine r_int (y := (nI p)) (show I 107 7 = (nI p) from h7) ?_
      refine q_iconst (v := 1) (by decide) d52_368 ?_
      refine q_isub d52_369 ?_
      refine r_int (y := (nI (p - 1))) (pk_sub (b := 1) (by omega)) ?_
      refine q_iconst (v := 3) (by decide) d52_370 ?_
      refine q_iload_n d52_371 rfl ?_
      refine q_invSN (av := [.int 3, .int (nI c)]) (rest := [.int (nI (p - 1)), .ref 229]) (d' := 0) (mc' := 0) (ms' := 0) d52_372 (nv8_67 52 rfl) rfl rfl (by omega) (Nat.le_of_ble_eq_true rfl) (Nat.le_of_ble_eq_true rfl) (Nat.le_refl _) (Nat.le_refl _) ?_
      refine c35n (a := 3) (b := c) (v6 h1fc h2fc) (v7 h1fc h2fc) ?_
      show j_W 52 d 0 0 0 0 375 [some (.ref 107), some (.int 4), some (.int (nI c)), some (.double x), none, some (.double y), none, some (.double (FP.dsub x y)), none, some (.int 1)] [.int (nI (3 * 32 + c)), .int (nI (p - 1)), .ref 229] w1 (I, D, RR R) Q
      refine q_iastore (a := (p - 1)) d52_375 (lt_w1 rfl) sh229 rfl (by omega) ?_
      refine q_goto (tgt := 392) d52_376 rfl ?_
      exact q_ret d52_392 rfl (Nat.le_refl _) (Nat.le_refl _) (v8 h1fc h2fc)

set_option maxRecDepth 10000 in
set_option maxHeartbeats 4000000 in
theorem s52_5 {d : Nat} {I : Nat → Nat → Int32} {D : Nat → Nat → UInt64} {R : Nat → Nat → Option Nat} {Q : j_Po} {c : Nat} {x : UInt64} {y : UInt64} {p : Nat} (h7 : I 107 7 = nI p) (hp : p < 256) (hp1 : 1 ≤ p) (hc : c < 24) (hd : 1 ≤ d)
    (v1 : vf_n64 (FP.dmul x y))
    (v2 : (dgt (FP.dmul x y) 4786511204640096256 = true) → 3 < 10)
    (v3 : (dgt (FP.dmul x y) 4786511204640096256 = true) → c < 24)
    (v4 : (dgt (FP.dmul x y) 4786511204640096256 = true) → Q none w1 ((j_u I 229 (p - 1) (nI (3 * 32 + c))), D, RR R))
    (v5 : (dgt (FP.dmul x y) 4786511204640096256 = false) → (dlt (FP.dmul x y) 14009883241494872064 = false) → Q none w1 (I, (j_u D 228 (p - 1) (FP.dmul x y)), RR R))
    (v6 : (dgt (FP.dmul x y) 4786511204640096256 = false) → (dlt (FP.dmul x y) 14009883241494872064 = true) → 3 < 10)
    (v7 : (dgt (FP.dmul x y) 4786511204640096256 = false) → (dlt (FP.dmul x y) 14009883241494872064 = true) → c < 24)
    (v8 : (dgt (FP.dmul x y) 4786511204640096256 = false) → (dlt (FP.dmul x y) 14009883241494872064 = true) → Q none w1 ((j_u I 229 (p - 1) (nI (3 * 32 + c))), D, RR R)) : j_W 52 d 0 0 0 0 90 [some (.ref 107), some (.int 5), some (.int (nI c)), some (.double x), none, some (.double y), none, none, none, none] [] w1 (I, D, RR R) Q := by
  refine q_iload_n d52_90 rfl ?_
  refine q_bipush (v := 6) (by decide) d52_91 ?_
  refine q_icmp_eq (tgt := 102) d52_93 rfl (fun h => absurd h (by decide)) (fun _ => ?_)
  refine q_iload_n d52_96 rfl ?_
  refine q_bipush (v := 7) (by decide) d52_97 ?_
  refine q_icmp_ne (tgt := 126) d52_99 rfl (fun _ => ?_) (fun h => absurd h (by decide))
  refine q_dload_n d52_126 rfl ?_
  refine q_dstore (L' := [some (.ref 107), some (.int 5), some (.int (nI c)), some (.double x), none, some (.double y), none, some (.double x), none, none]) d52_127 (Nat.le_of_ble_eq_true rfl) rfl ?_
  refine q_iload_n d52_129 rfl ?_
  refine q_tableIn (tgt := 198) d52_130 (by decide) (by decide) rfl rfl ?_
  refine q_dload_n d52_198 rfl ?_
  refine q_dload d52_199 rfl ?_
  refine q_dmul v1 d52_201 ?_
  refine q_dstore (L' := [some (.ref 107), some (.int 5), some (.int (nI c)), some (.double x), none, some (.double y), none, some (.double (FP.dmul x y)), none, none]) d52_202 (Nat.le_of_ble_eq_true rfl) rfl ?_
  refine q_goto (tgt := 319) d52_204 rfl ?_
  refine q_iload_n d52_319 rfl ?_
  refine q_iconst (v := 3) (by decide) d52_320 ?_
  refine q_icmp_lt (tgt := 352) d52_321 rfl (fun h => absurd h (by decide)) (fun _ => ?_)
  refine q_iload_n d52_324 rfl ?_
  refine q_bipush (v := 6) (by decide) d52_325 ?_
  refine q_icmp_gt (tgt := 352) d52_327 rfl (fun h => absurd h (by decide)) (fun _ => ?_)
  refine q_dload d52_330 rfl ?_
  refine q_ldcD (v := 4786511204640096256) d52_332 (kc8_144 52 rfl) ?_
  refine q_dcmp d52_335 ?_
  refine q_if_gt (tgt := 348) d52_336 rfl (fun h1t => ?_) (fun h1f => ?_)
  ·
    have h1tc : dgt (FP.dmul x y) 4786511204640096256 = true := dc_l_gt_t h1t
    refine q_iconst (v := 1) (by decide) d52_348 ?_
    refine q_goto (tgt := 353) d52_349 rfl ?_
    refine q_istore (L' := [some (.ref 107), some (.int 5), some (.int (nI c)), some (.double x), none, some (.double y), none, some (.double (FP.dmul x y)), none, some (.int 1)]) d52_353 (Nat.le_of_ble_eq_true rfl) rfl ?_
    refine q_iload d52_355 rfl ?_
    refine q_if_eq (tgt := 379) d52_357 rfl (fun h => absurd h (by decide)) (fun _ => ?_)
    refine q_aload_n d52_360 rfl ?_
    refine q_getR (x := 229) d52_361 (fs8_45 52 rfl) rfl (lt_w1 rfl) sh107 (rs107_6 R) (by decide) ?_
    refine q_aload_n d52_364 rfl ?_
    refine q_getI d52_365 (fs8_50 52 rfl) rfl (lt_w1 rfl) sh107 ?_
    refine r_int (y := (nI p)) (show I 107 7 = (nI p) from h7) ?_
    refine q_iconst (v := 1) (by decide) d52_368 ?_
    refine q_isub d52_369 ?_
    refine r_int (y := (nI (p - 1))) (pk_sub (b := 1) (by omega)) ?_
    refine q_iconst (v := 3) (by decide) d52_370 ?_
    refine q_iload_n d52_371 rfl ?_
    refine q_invSN (av := [.int 3, .int (nI c)]) (rest := [.int (nI (p - 1)), .ref 229]) (d' := 0) (mc' := 0) (ms' := 0) d52_372 (nv8_67 52 rfl) rfl rfl (by omega) (Nat.le_of_ble_eq_true rfl) (Nat.le_of_ble_eq_true rfl) (Nat.le_refl _) (Nat.le_refl _) ?_
    refine c35n (a := 3) (b := c) (v2 h1tc) (v3 h1tc) ?_
    show j_W 52 d 0 0 0 0 375 [some (.ref 107), some (.int 5), some (.int (nI c)), some (.double x), none, some (.double y), none, some (.double (FP.dmul x y)), none, some (.int 1)] [.int (nI (3 * 32 + c)), .int (nI (p - 1)), .ref 229] w1 (I, D, RR R) Q
    refine q_iastore (a := (p - 1)) d52_375 (lt_w1 rfl) sh229 rfl (by omega) ?_
    refine q_goto (tgt := 392) d52_376 rfl ?_
    exact q_ret d52_392 rfl (Nat.le_refl _) (Nat.le_refl _) (v4 h1tc)
  ·
    have h1fc : dgt (FP.dmul x y) 4786511204640096256 = false := dc_l_gt_f h1f
    refine q_dload d52_339 rfl ?_
    refine q_ldcD (v := 14009883241494872064) d52_341 (kc8_146 52 rfl) ?_
    refine q_dcmp d52_344 ?_
    refine q_if_ge (tgt := 352) d52_345 rfl (fun h2t => ?_) (fun h2f => ?_)
    ·
      have h2tc : dlt (FP.dmul x y) 14009883241494872064 = false := dc_g_ge_t h2t
      refine q_iconst (v := 0) (by decide) d52_352 ?_
      refine q_istore (L' := [some (.ref 107), some (.int 5), some (.int (nI c)), some (.double x), none, some (.double y), none, some (.double (FP.dmul x y)), none, some (.int 0)]) d52_353 (Nat.le_of_ble_eq_true rfl) rfl ?_
      refine q_iload d52_355 rfl ?_
      refine q_if_eq (tgt := 379) d52_357 rfl (fun _ => ?_) (fun h => absurd h (by decide))
      refine q_aload_n d52_379 rfl ?_
      refine q_getR (x := 228) d52_380 (fs8_41 52 rfl) rfl (lt_w1 rfl) sh107 (rs107_5 R) (by decide) ?_
      refine q_aload_n d52_383 rfl ?_
      refine q_getI d52_384 (fs8_50 52 rfl) rfl (lt_w1 rfl) sh107 ?_
      refine r_int (y := (nI p)) (show I 107 7 = (nI p) from h7) ?_
      refine q_iconst (v := 1) (by decide) d52_387 ?_
      refine q_isub d52_388 ?_
      refine r_int (y := (nI (p - 1))) (pk_sub (b := 1) (by omega)) ?_
      refine q_dload d52_389 rfl ?_
      refine q_dastore (a := (p - 1)) d52_391 (lt_w1 rfl) sh228 rfl (by omega) ?_
      exact q_ret d52_392 rfl (Nat.le_refl _) (Nat.le_refl _) (v5 h1fc h2tc)
    ·
      have h2fc : dlt (FP.dmul x y) 14009883241494872064 = true := dc_g_ge_f h2f
      refine q_iconst (v := 1) (by decide) d52_348 ?_
      refine q_goto (tgt := 353) d52_349 rfl ?_
      refine q_istore (L' := [some (.ref 107), some (.int 5), some (.int (nI c)), some (.double x), none, some (.double y), none, some (.double (FP.dmul x y)), none, some (.int 1)]) d52_353 (Nat.le_of_ble_eq_true rfl) rfl ?_
      refine q_iload d52_355 rfl ?_
      refine q_if_eq (tgt := 379) d52_357 rfl (fun h => absurd h (by decide)) (fun _ => ?_)
      refine q_aload_n d52_360 rfl ?_
      refine q_getR (x := 229) d52_361 (fs8_45 52 rfl) rfl (lt_w1 rfl) sh107 (rs107_6 R) (by decide) ?_
      refine q_aload_n d52_364 rfl ?_
      refine q_getI d52_365 (fs8_50 52 rfl) rfl (lt_w1 rfl) sh107 ?_
      refine r_int (y := (nI p)) (show I 107 7 = (nI p) from h7) ?_
      refine q_iconst (v := 1) (by decide) d52_368 ?_
      refine q_isub d52_369 ?_
      refine r_int (y := (nI (p - 1))) (pk_sub (b := 1) (by omega)) ?_
      refine q_iconst (v := 3) (by decide) d52_370 ?_
      refine q_iload_n d52_371 rfl ?_
      refine q_invSN (av := [.int 3, .int (nI c)]) (rest := [.int (nI (p - 1)), .ref 229]) (d' := 0) (mc' := 0) (ms' := 0) d52_372 (nv8_67 52 rfl) rfl rfl (by omega) (Nat.le_of_ble_eq_true rfl) (Nat.le_of_ble_eq_true rfl) (Nat.le_refl _) (Nat.le_refl _) ?_
      refine c35n (a := 3) (b := c) (v6 h1fc h2fc) (v7 h1fc h2fc) ?_
      show j_W 52 d 0 0 0 0 375 [some (.ref 107), some (.int 5), some (.int (nI c)), some (.double x), none, some (.double y), none, some (.double (FP.dmul x y)), none, some (.int 1)] [.int (nI (3 * 32 + c)), .int (nI (p - 1)), .ref 229] w1 (I, D, RR R) Q
      refine q_iastore (a := (p - 1)) d52_375 (lt_w1 rfl) sh229 rfl (by omega) ?_
      refine q_goto (tgt := 392) d52_376 rfl ?_
      exact q_ret d52_392 rfl (Nat.le_refl _) (Nat.le_refl _) (v8 h1fc h2fc)

set_option maxRecDepth 10000 in
set_option maxHeartbeats 4000000 in
theorem s52_6 {d : Nat} {I : Nat → Nat → Int32} {D : Nat → Nat → UInt64} {R : Nat → Nat → Option Nat} {Q : j_Po} {c : Nat} {x : UInt64} {y : UInt64} {p : Nat} (h7 : I 107 7 = nI p) (hp : p < 256) (hp1 : 1 ≤ p) (hc : c < 24) (hd : 1 ≤ d)
    (v1 : (deq y FP.dconst0 = false) → (deq y FP.dconst0 = false) → vf_n64 (FP.ddiv x y))
    (v2 : (deq y FP.dconst0 = false) → (deq y FP.dconst0 = false) → (dgt (FP.ddiv x y) 4786511204640096256 = true) → 3 < 10)
    (v3 : (deq y FP.dconst0 = false) → (deq y FP.dconst0 = false) → (dgt (FP.ddiv x y) 4786511204640096256 = true) → c < 24)
    (v4 : (deq y FP.dconst0 = false) → (deq y FP.dconst0 = false) → (dgt (FP.ddiv x y) 4786511204640096256 = true) → Q none w1 ((j_u I 229 (p - 1) (nI (3 * 32 + c))), D, RR R))
    (v5 : (deq y FP.dconst0 = false) → (deq y FP.dconst0 = false) → (dgt (FP.ddiv x y) 4786511204640096256 = false) → (dlt (FP.ddiv x y) 14009883241494872064 = false) → Q none w1 (I, (j_u D 228 (p - 1) (FP.ddiv x y)), RR R))
    (v6 : (deq y FP.dconst0 = false) → (deq y FP.dconst0 = false) → (dgt (FP.ddiv x y) 4786511204640096256 = false) → (dlt (FP.ddiv x y) 14009883241494872064 = true) → 3 < 10)
    (v7 : (deq y FP.dconst0 = false) → (deq y FP.dconst0 = false) → (dgt (FP.ddiv x y) 4786511204640096256 = false) → (dlt (FP.ddiv x y) 14009883241494872064 = true) → c < 24)
    (v8 : (deq y FP.dconst0 = false) → (deq y FP.dconst0 = false) → (dgt (FP.ddiv x y) 4786511204640096256 = false) → (dlt (FP.ddiv x y) 14009883241494872064 = true) → Q none w1 ((j_u I 229 (p - 1) (nI (3 * 32 + c))), D, RR R))
    (v9 : (deq y FP.dconst0 = false) → (deq y FP.dconst0 = true) → (dgt x 4786511204640096256 = true) → 3 < 10)
    (v10 : (deq y FP.dconst0 = false) → (deq y FP.dconst0 = true) → (dgt x 4786511204640096256 = true) → c < 24)
    (v11 : (deq y FP.dconst0 = false) → (deq y FP.dconst0 = true) → (dgt x 4786511204640096256 = true) → Q none w1 ((j_u I 229 (p - 1) (nI (3 * 32 + c))), D, RR R))
    (v12 : (deq y FP.dconst0 = false) → (deq y FP.dconst0 = true) → (dgt x 4786511204640096256 = false) → (dlt x 14009883241494872064 = false) → Q none w1 (I, (j_u D 228 (p - 1) x), RR R))
    (v13 : (deq y FP.dconst0 = false) → (deq y FP.dconst0 = true) → (dgt x 4786511204640096256 = false) → (dlt x 14009883241494872064 = true) → 3 < 10)
    (v14 : (deq y FP.dconst0 = false) → (deq y FP.dconst0 = true) → (dgt x 4786511204640096256 = false) → (dlt x 14009883241494872064 = true) → c < 24)
    (v15 : (deq y FP.dconst0 = false) → (deq y FP.dconst0 = true) → (dgt x 4786511204640096256 = false) → (dlt x 14009883241494872064 = true) → Q none w1 ((j_u I 229 (p - 1) (nI (3 * 32 + c))), D, RR R))
    (v16 : (deq y FP.dconst0 = true) → 2 < 10)
    (v17 : (deq y FP.dconst0 = true) → c < 24)
    (v18 : (deq y FP.dconst0 = true) → Q none w1 ((j_u I 229 (p - 1) (nI (2 * 32 + c))), D, RR R)) : j_W 52 d 0 0 0 0 90 [some (.ref 107), some (.int 6), some (.int (nI c)), some (.double x), none, some (.double y), none, none, none, none] [] w1 (I, D, RR R) Q := by
  refine q_iload_n d52_90 rfl ?_
  refine q_bipush (v := 6) (by decide) d52_91 ?_
  refine q_icmp_eq (tgt := 102) d52_93 rfl (fun _ => ?_) (fun h => absurd h (by decide))
  refine q_dload d52_102 rfl ?_
  refine q_dconst0 d52_104 ?_
  refine q_dcmp d52_105 ?_
  refine q_if_ne (tgt := 126) d52_106 rfl (fun h1t => ?_) (fun h1f => ?_)
  ·
    have h1tc : deq y FP.dconst0 = false := dc_l_ne_t h1t
    refine q_dload_n d52_126 rfl ?_
    refine q_dstore (L' := [some (.ref 107), some (.int 6), some (.int (nI c)), some (.double x), none, some (.double y), none, some (.double x), none, none]) d52_127 (Nat.le_of_ble_eq_true rfl) rfl ?_
    refine q_iload_n d52_129 rfl ?_
    refine q_tableIn (tgt := 207) d52_130 (by decide) (by decide) rfl rfl ?_
    refine q_dload d52_207 rfl ?_
    refine q_dconst0 d52_209 ?_
    refine q_dcmp d52_210 ?_
    refine q_if_ne (tgt := 218) d52_211 rfl (fun h2t => ?_) (fun h2f => ?_)
    ·
      have h2tc : deq y FP.dconst0 = false := dc_l_ne_t h2t
      refine q_dload_n d52_218 rfl ?_
      refine q_dload d52_219 rfl ?_
      refine q_ddiv (v1 h1tc h2tc) d52_221 ?_
      refine q_dstore (L' := [some (.ref 107), some (.int 6), some (.int (nI c)), some (.double x), none, some (.double y), none, some (.double (FP.ddiv x y)), none, none]) d52_222 (Nat.le_of_ble_eq_true rfl) rfl ?_
      refine q_goto (tgt := 319) d52_224 rfl ?_
      refine q_iload_n d52_319 rfl ?_
      refine q_iconst (v := 3) (by decide) d52_320 ?_
      refine q_icmp_lt (tgt := 352) d52_321 rfl (fun h => absurd h (by decide)) (fun _ => ?_)
      refine q_iload_n d52_324 rfl ?_
      refine q_bipush (v := 6) (by decide) d52_325 ?_
      refine q_icmp_gt (tgt := 352) d52_327 rfl (fun h => absurd h (by decide)) (fun _ => ?_)
      refine q_dload d52_330 rfl ?_
      refine q_ldcD (v := 4786511204640096256) d52_332 (kc8_144 52 rfl) ?_
      refine q_dcmp d52_335 ?_
      refine q_if_gt (tgt := 348) d52_336 rfl (fun h3t => ?_) (fun h3f => ?_)
      ·
        have h3tc : dgt (FP.ddiv x y) 4786511204640096256 = true := dc_l_gt_t h3t
        refine q_iconst (v := 1) (by decide) d52_348 ?_
        refine q_goto (tgt := 353) d52_349 rfl ?_
        refine q_istore (L' := [some (.ref 107), some (.int 6), some (.int (nI c)), some (.double x), none, some (.double y), none, some (.double (FP.ddiv x y)), none, some (.int 1)]) d52_353 (Nat.le_of_ble_eq_true rfl) rfl ?_
        refine q_iload d52_355 rfl ?_
        refine q_if_eq (tgt := 379) d52_357 rfl (fun h => absurd h (by decide)) (fun _ => ?_)
        refine q_aload_n d52_360 rfl ?_
        refine q_getR (x := 229) d52_361 (fs8_45 52 rfl) rfl (lt_w1 rfl) sh107 (rs107_6 R) (by decide) ?_
        refine q_aload_n d52_364 rfl ?_
        refine q_getI d52_365 (fs8_50 52 rfl) rfl (lt_w1 rfl) sh107 ?_
        refine r_int (y := (nI p)) (show I 107 7 = (nI p) from h7) ?_
        refine q_iconst (v := 1) (by decide) d52_368 ?_
        refine q_isub d52_369 ?_
        refine r_int (y := (nI (p - 1))) (pk_sub (b := 1) (by omega)) ?_
        refine q_iconst (v := 3) (by decide) d52_370 ?_
        refine q_iload_n d52_371 rfl ?_
        refine q_invSN (av := [.int 3, .int (nI c)]) (rest := [.int (nI (p - 1)), .ref 229]) (d' := 0) (mc' := 0) (ms' := 0) d52_372 (nv8_67 52 rfl) rfl rfl (by omega) (Nat.le_of_ble_eq_true rfl) (Nat.le_of_ble_eq_true rfl) (Nat.le_refl _) (Nat.le_refl _) ?_
        refine c35n (a := 3) (b := c) (v2 h1tc h2tc h3tc) (v3 h1tc h2tc h3tc) ?_
        show j_W 52 d 0 0 0 0 375 [some (.ref 107), some (.int 6), some (.int (nI c)), some (.double x), none, some (.double y), none, some (.double (FP.ddiv x y)), none, some (.int 1)] [.int (nI (3 * 32 + c)), .int (nI (p - 1)), .ref 229] w1 (I, D, RR R) Q
        refine q_iastore (a := (p - 1)) d52_375 (lt_w1 rfl) sh229 rfl (by omega) ?_
        refine q_goto (tgt := 392) d52_376 rfl ?_
        exact q_ret d52_392 rfl (Nat.le_refl _) (Nat.le_refl _) (v4 h1tc h2tc h3tc)
      ·
        have h3fc : dgt (FP.ddiv x y) 4786511204640096256 = false := dc_l_gt_f h3f
        refine q_dload d52_339 rfl ?_
        refine q_ldcD (v := 14009883241494872064) d52_341 (kc8_146 52 rfl) ?_
        refine q_dcmp d52_344 ?_
        refine q_if_ge (tgt := 352) d52_345 rfl (fun h4t => ?_) (fun h4f => ?_)
        ·
          have h4tc : dlt (FP.ddiv x y) 14009883241494872064 = false := dc_g_ge_t h4t
          refine q_iconst (v := 0) (by decide) d52_352 ?_
          refine q_istore (L' := [some (.ref 107), some (.int 6), some (.int (nI c)), some (.double x), none, some (.double y), none, some (.double (FP.ddiv x y)), none, some (.int 0)]) d52_353 (Nat.le_of_ble_eq_true rfl) rfl ?_
          refine q_iload d52_355 rfl ?_
          refine q_if_eq (tgt := 379) d52_357 rfl (fun _ => ?_) (fun h => absurd h (by decide))
          refine q_aload_n d52_379 rfl ?_
          refine q_getR (x := 228) d52_380 (fs8_41 52 rfl) rfl (lt_w1 rfl) sh107 (rs107_5 R) (by decide) ?_
          refine q_aload_n d52_383 rfl ?_
          refine q_getI d52_384 (fs8_50 52 rfl) rfl (lt_w1 rfl) sh107 ?_
          refine r_int (y := (nI p)) (show I 107 7 = (nI p) from h7) ?_
          refine q_iconst (v := 1) (by decide) d52_387 ?_
          refine q_isub d52_388 ?_
          refine r_int (y := (nI (p - 1))) (pk_sub (b := 1) (by omega)) ?_
          refine q_dload d52_389 rfl ?_
          refine q_dastore (a := (p - 1)) d52_391 (lt_w1 rfl) sh228 rfl (by omega) ?_
          exact q_ret d52_392 rfl (Nat.le_refl _) (Nat.le_refl _) (v5 h1tc h2tc h3fc h4tc)
        ·
          have h4fc : dlt (FP.ddiv x y) 14009883241494872064 = true := dc_g_ge_f h4f
          refine q_iconst (v := 1) (by decide) d52_348 ?_
          refine q_goto (tgt := 353) d52_349 rfl ?_
          refine q_istore (L' := [some (.ref 107), some (.int 6), some (.int (nI c)), some (.double x), none, some (.double y), none, some (.double (FP.ddiv x y)), none, some (.int 1)]) d52_353 (Nat.le_of_ble_eq_true rfl) rfl ?_
          refine q_iload d52_355 rfl ?_
          refine q_if_eq (tgt := 379) d52_357 rfl (fun h => absurd h (by decide)) (fun _ => ?_)
          refine q_aload_n d52_360 rfl ?_
          refine q_getR (x := 229) d52_361 (fs8_45 52 rfl) rfl (lt_w1 rfl) sh107 (rs107_6 R) (by decide) ?_
          refine q_aload_n d52_364 rfl ?_
          refine q_getI d52_365 (fs8_50 52 rfl) rfl (lt_w1 rfl) sh107 ?_
          refine r_int (y := (nI p)) (show I 107 7 = (nI p) from h7) ?_
          refine q_iconst (v := 1) (by decide) d52_368 ?_
          refine q_isub d52_369 ?_
          refine r_int (y := (nI (p - 1))) (pk_sub (b := 1) (by omega)) ?_
          refine q_iconst (v := 3) (by decide) d52_370 ?_
          refine q_iload_n d52_371 rfl ?_
          refine q_invSN (av := [.int 3, .int (nI c)]) (rest := [.int (nI (p - 1)), .ref 229]) (d' := 0) (mc' := 0) (ms' := 0) d52_372 (nv8_67 52 rfl) rfl rfl (by omega) (Nat.le_of_ble_eq_true rfl) (Nat.le_of_ble_eq_true rfl) (Nat.le_refl _) (Nat.le_refl _) ?_
          refine c35n (a := 3) (b := c) (v6 h1tc h2tc h3fc h4fc) (v7 h1tc h2tc h3fc h4fc) ?_
          show j_W 52 d 0 0 0 0 375 [some (.ref 107), some (.int 6), some (.int (nI c)), some (.double x), none, some (.double y), none, some (.double (FP.ddiv x y)), none, some (.int 1)] [.int (nI (3 * 32 + c)), .int (nI (p - 1)), .ref 229] w1 (I, D, RR R) Q
          refine q_iastore (a := (p - 1)) d52_375 (lt_w1 rfl) sh229 rfl (by omega) ?_
          refine q_goto (tgt := 392) d52_376 rfl ?_
          exact q_ret d52_392 rfl (Nat.le_refl _) (Nat.le_refl _) (v8 h1tc h2tc h3fc h4fc)
    ·
      have h2fc : deq y FP.dconst0 = true := dc_l_ne_f h2f
      refine q_dload_n d52_214 rfl ?_
      refine q_goto (tgt := 222) d52_215 rfl ?_
      refine q_dstore (L' := [some (.ref 107), some (.int 6), some (.int (nI c)), some (.double x), none, some (.double y), none, some (.double x), none, none]) d52_222 (Nat.le_of_ble_eq_true rfl) rfl ?_
      refine q_goto (tgt := 319) d52_224 rfl ?_
      refine q_iload_n d52_319 rfl ?_
      refine q_iconst (v := 3) (by decide) d52_320 ?_
      refine q_icmp_lt (tgt := 352) d52_321 rfl (fun h => absurd h (by decide)) (fun _ => ?_)
      refine q_iload_n d52_324 rfl ?_
      refine q_bipush (v := 6) (by decide) d52_325 ?_
      refine q_icmp_gt (tgt := 352) d52_327 rfl (fun h => absurd h (by decide)) (fun _ => ?_)
      refine q_dload d52_330 rfl ?_
      refine q_ldcD (v := 4786511204640096256) d52_332 (kc8_144 52 rfl) ?_
      refine q_dcmp d52_335 ?_
      refine q_if_gt (tgt := 348) d52_336 rfl (fun h5t => ?_) (fun h5f => ?_)
      ·
        have h5tc : dgt x 4786511204640096256 = true := dc_l_gt_t h5t
        refine q_iconst (v := 1) (by decide) d52_348 ?_
        refine q_goto (tgt := 353) d52_349 rfl ?_
        refine q_istore (L' := [some (.ref 107), some (.int 6), some (.int (nI c)), some (.double x), none, some (.double y), none, some (.double x), none, some (.int 1)]) d52_353 (Nat.le_of_ble_eq_true rfl) rfl ?_
        refine q_iload d52_355 rfl ?_
        refine q_if_eq (tgt := 379) d52_357 rfl (fun h => absurd h (by decide)) (fun _ => ?_)
        refine q_aload_n d52_360 rfl ?_
        refine q_getR (x := 229) d52_361 (fs8_45 52 rfl) rfl (lt_w1 rfl) sh107 (rs107_6 R) (by decide) ?_
        refine q_aload_n d52_364 rfl ?_
        refine q_getI d52_365 (fs8_50 52 rfl) rfl (lt_w1 rfl) sh107 ?_
        refine r_int (y := (nI p)) (show I 107 7 = (nI p) from h7) ?_
        refine q_iconst (v := 1) (by decide) d52_368 ?_
        refine q_isub d52_369 ?_
        refine r_int (y := (nI (p - 1))) (pk_sub (b := 1) (by omega)) ?_
        refine q_iconst (v := 3) (by decide) d52_370 ?_
        refine q_iload_n d52_371 rfl ?_
        refine q_invSN (av := [.int 3, .int (nI c)]) (rest := [.int (nI (p - 1)), .ref 229]) (d' := 0) (mc' := 0) (ms' := 0) d52_372 (nv8_67 52 rfl) rfl rfl (by omega) (Nat.le_of_ble_eq_true rfl) (Nat.le_of_ble_eq_true rfl) (Nat.le_refl _) (Nat.le_refl _) ?_
        refine c35n (a := 3) (b := c) (v9 h1tc h2fc h5tc) (v10 h1tc h2fc h5tc) ?_
        show j_W 52 d 0 0 0 0 375 [some (.ref 107), some (.int 6), some (.int (nI c)), some (.double x), none, some (.double y), none, some (.double x), none, some (.int 1)] [.int (nI (3 * 32 + c)), .int (nI (p - 1)), .ref 229] w1 (I, D, RR R) Q
        refine q_iastore (a := (p - 1)) d52_375 (lt_w1 rfl) sh229 rfl (by omega) ?_
        refine q_goto (tgt := 392) d52_376 rfl ?_
        exact q_ret d52_392 rfl (Nat.le_refl _) (Nat.le_refl _) (v11 h1tc h2fc h5tc)
      ·
        have h5fc : dgt x 4786511204640096256 = false := dc_l_gt_f h5f
        refine q_dload d52_339 rfl ?_
        refine q_ldcD (v := 14009883241494872064) d52_341 (kc8_146 52 rfl) ?_
        refine q_dcmp d52_344 ?_
        refine q_if_ge (tgt := 352) d52_345 rfl (fun h6t => ?_) (fun h6f => ?_)
        ·
          have h6tc : dlt x 14009883241494872064 = false := dc_g_ge_t h6t
          refine q_iconst (v := 0) (by decide) d52_352 ?_
          refine q_istore (L' := [some (.ref 107), some (.int 6), some (.int (nI c)), some (.double x), none, some (.double y), none, some (.double x), none, some (.int 0)]) d52_353 (Nat.le_of_ble_eq_true rfl) rfl ?_
          refine q_iload d52_355 rfl ?_
          refine q_if_eq (tgt := 379) d52_357 rfl (fun _ => ?_) (fun h => absurd h (by decide))
          refine q_aload_n d52_379 rfl ?_
          refine q_getR (x := 228) d52_380 (fs8_41 52 rfl) rfl (lt_w1 rfl) sh107 (rs107_5 R) (by decide) ?_
          refine q_aload_n d52_383 rfl ?_
          refine q_getI d52_384 (fs8_50 52 rfl) rfl (lt_w1 rfl) sh107 ?_
          refine r_int (y := (nI p)) (show I 107 7 = (nI p) from h7) ?_
          refine q_iconst (v := 1) (by decide) d52_387 ?_
          refine q_isub d52_388 ?_
          refine r_int (y := (nI (p - 1))) (pk_sub (b := 1) (by omega)) ?_
          refine q_dload d52_389 rfl ?_
          refine q_dastore (a := (p - 1)) d52_391 (lt_w1 rfl) sh228 rfl (by omega) ?_
          exact q_ret d52_392 rfl (Nat.le_refl _) (Nat.le_refl _) (v12 h1tc h2fc h5fc h6tc)
        ·
          have h6fc : dlt x 14009883241494872064 = true := dc_g_ge_f h6f
          refine q_iconst (v := 1) (by decide) d52_348 ?_
          refine q_goto (tgt := 353) d52_349 rfl ?_
          refine q_istore (L' := [some (.ref 107), some (.int 6), some (.int (nI c)), some (.double x), none, some (.double y), none, some (.double x), none, some (.int 1)]) d52_353 (Nat.le_of_ble_eq_true rfl) rfl ?_
          refine q_iload d52_355 rfl ?_
          refine q_if_eq (tgt := 379) d52_357 rfl (fun h => absurd h (by decide)) (fun _ => ?_)
          refine q_aload_n d52_360 rfl ?_
          refine q_getR (x := 229) d52_361 (fs8_45 52 rfl) rfl (lt_w1 rfl) sh107 (rs107_6 R) (by decide) ?_
          refine q_aload_n d52_364 rfl ?_
          refine q_getI d52_365 (fs8_50 52 rfl) rfl (lt_w1 rfl) sh107 ?_
          refine r_int (y := (nI p)) (show I 107 7 = (nI p) from h7) ?_
          refine q_iconst (v := 1) (by decide) d52_368 ?_
          refine q_isub d52_369 ?_
          refine r_int (y := (nI (p - 1))) (pk_sub (b := 1) (by omega)) ?_
          refine q_iconst (v := 3) (by decide) d52_370 ?_
          refine q_iload_n d52_371 rfl ?_
          refine q_invSN (av := [.int 3, .int (nI c)]) (rest := [.int (nI (p - 1)), .ref 229]) (d' := 0) (mc' := 0) (ms' := 0) d52_372 (nv8_67 52 rfl) rfl rfl (by omega) (Nat.le_of_ble_eq_true rfl) (Nat.le_of_ble_eq_true rfl) (Nat.le_refl _) (Nat.le_refl _) ?_
          refine c35n (a := 3) (b := c) (v13 h1tc h2fc h5fc h6fc) (v14 h1tc h2fc h5fc h6fc) ?_
          show j_W 52 d 0 0 0 0 375 [some (.ref 107), some (.int 6), some (.int (nI c)), some (.double x), none, some (.double y), none, some (.double x), none, some (.int 1)] [.int (nI (3 * 32 + c)), .int (nI (p - 1)), .ref 229] w1 (I, D, RR R) Q
          refine q_iastore (a := (p - 1)) d52_375 (lt_w1 rfl) sh229 rfl (by omega) ?_
          refine q_goto (tgt := 392) d52_376 rfl ?_
          exact q_ret d52_392 rfl (Nat.le_refl _) (Nat.le_refl _) (v15 h1tc h2fc h5fc h6fc)
  ·
    have h1fc : deq y FP.dconst0 = true := dc_l_ne_f h1f
    refine q_aload_n d52_109 rfl ?_
    refine q_getR (x := 229) d52_110 (fs8_45 52 rfl) rfl (lt_w1 rfl) sh107 (rs107_6 R) (by decide) ?_
    refine q_aload_n d52_113 rfl ?_
    refine q_getI d52_114 (fs8_50 52 rfl) rfl (lt_w1 rfl) sh107 ?_
    refine r_int (y := (nI p)) (show I 107 7 = (nI p) from h7) ?_
    refine q_iconst (v := 1) (by decide) d52_117 ?_
    refine q_isub d52_118 ?_
    refine r_int (y := (nI (p - 1))) (pk_sub (b := 1) (by omega)) ?_
    refine q_iconst (v := 2) (by decide) d52_119 ?_
    refine q_iload_n d52_120 rfl ?_
    refine q_invSN (av := [.int 2, .int (nI c)]) (rest := [.int (nI (p - 1)), .ref 229]) (d' := 0) (mc' := 0) (ms' := 0) d52_121 (nv8_67 52 rfl) rfl rfl (by omega) (Nat.le_of_ble_eq_true rfl) (Nat.le_of_ble_eq_true rfl) (Nat.le_refl _) (Nat.le_refl _) ?_
    refine c35n (a := 2) (b := c) (v16 h1fc) (v17 h1fc) ?_
    show j_W 52 d 0 0 0 0 124 [some (.ref 107), some (.int 6), some (.int (nI c)), some (.double x), none, some (.double y), none, none, none, none] [.int (nI (2 * 32 + c)), .int (nI (p - 1)), .ref 229] w1 (I, D, RR R) Q
    refine q_iastore (a := (p - 1)) d52_124 (lt_w1 rfl) sh229 rfl (by omega) ?_
    exact q_ret d52_125 rfl (Nat.le_refl _) (Nat.le_refl _) (v18 h1fc)

set_option maxRecDepth 10000 in
set_option maxHeartbeats 4000000 in
theorem s52_7 {d : Nat} {I : Nat → Nat → Int32} {D : Nat → Nat → UInt64} {R : Nat → Nat → Option Nat} {Q : j_Po} {c : Nat} {x : UInt64} {y : UInt64} {p : Nat} (h7 : I 107 7 = nI p) (hp : p < 256) (hp1 : 1 ≤ p) (hc : c < 24) (hd : 1 ≤ d)
    (v1 : (deq y FP.dconst0 = false) → (deq y FP.dconst0 = false) → Fi x)
    (v2 : (deq y FP.dconst0 = false) → (deq y FP.dconst0 = false) → Fi y)
    (v3 : (deq y FP.dconst0 = false) → (deq y FP.dconst0 = false) → vm y ≠ 0)
    (v4 : (deq y FP.dconst0 = false) → (deq y FP.dconst0 = false) → vm x < 2 ^ 1199)
    (v5 : (deq y FP.dconst0 = false) → (deq y FP.dconst0 = false) → Q none w1 (I, (j_u D 228 (p - 1) (FP.drem x y)), RR R))
    (v6 : (deq y FP.dconst0 = false) → (deq y FP.dconst0 = true) → Q none w1 (I, (j_u D 228 (p - 1) x), RR R))
    (v7 : (deq y FP.dconst0 = true) → 2 < 10)
    (v8 : (deq y FP.dconst0 = true) → c < 24)
    (v9 : (deq y FP.dconst0 = true) → Q none w1 ((j_u I 229 (p - 1) (nI (2 * 32 + c))), D, RR R)) : j_W 52 d 0 0 0 0 90 [some (.ref 107), some (.int 7), some (.int (nI c)), some (.double x), none, some (.double y), none, none, none, none] [] w1 (I, D, RR R) Q := by
  refine q_iload_n d52_90 rfl ?_
  refine q_bipush (v := 6) (by decide) d52_91 ?_
  refine q_icmp_eq (tgt := 102) d52_93 rfl (fun h => absurd h (by decide)) (fun _ => ?_)
  refine q_iload_n d52_96 rfl ?_
  refine q_bipush (v := 7) (by decide) d52_97 ?_
  refine q_icmp_ne (tgt := 126) d52_99 rfl (fun h => absurd h (by decide)) (fun _ => ?_)
  refine q_dload d52_102 rfl ?_
  refine q_dconst0 d52_104 ?_
  refine q_dcmp d52_105 ?_
  refine q_if_ne (tgt := 126) d52_106 rfl (fun h1t => ?_) (fun h1f => ?_)
  ·
    have h1tc : deq y FP.dconst0 = false := dc_l_ne_t h1t
    refine q_dload_n d52_126 rfl ?_
    refine q_dstore (L' := [some (.ref 107), some (.int 7), some (.int (nI c)), some (.double x), none, some (.double y), none, some (.double x), none, none]) d52_127 (Nat.le_of_ble_eq_true rfl) rfl ?_
    refine q_iload_n d52_129 rfl ?_
    refine q_tableIn (tgt := 227) d52_130 (by decide) (by decide) rfl rfl ?_
    refine q_dload d52_227 rfl ?_
    refine q_dconst0 d52_229 ?_
    refine q_dcmp d52_230 ?_
    refine q_if_ne (tgt := 238) d52_231 rfl (fun h2t => ?_) (fun h2f => ?_)
    ·
      have h2tc : deq y FP.dconst0 = false := dc_l_ne_t h2t
      refine q_dload_n d52_238 rfl ?_
      refine q_dload d52_239 rfl ?_
      refine q_invSN (av := [.double x, .double y]) (rest := []) (d' := 0) (mc' := 0) (ms' := 0) d52_241 (nv8_140 52 rfl) rfl rfl (by omega) (Nat.le_of_ble_eq_true rfl) (Nat.le_of_ble_eq_true rfl) (Nat.le_refl _) (Nat.le_refl _) ?_
      refine c16 (v1 h1tc h2tc) (v2 h1tc h2tc) (v3 h1tc h2tc) (v4 h1tc h2tc) ?_
      show j_W 52 d 0 0 0 0 244 [some (.ref 107), some (.int 7), some (.int (nI c)), some (.double x), none, some (.double y), none, some (.double x), none, none] [.double (FP.drem x y)] w1 (I, D, RR R) Q
      refine q_dstore (L' := [some (.ref 107), some (.int 7), some (.int (nI c)), some (.double x), none, some (.double y), none, some (.double (FP.drem x y)), none, none]) d52_244 (Nat.le_of_ble_eq_true rfl) rfl ?_
      refine q_goto (tgt := 319) d52_246 rfl ?_
      refine q_iload_n d52_319 rfl ?_
      refine q_iconst (v := 3) (by decide) d52_320 ?_
      refine q_icmp_lt (tgt := 352) d52_321 rfl (fun h => absurd h (by decide)) (fun _ => ?_)
      refine q_iload_n d52_324 rfl ?_
      refine q_bipush (v := 6) (by decide) d52_325 ?_
      refine q_icmp_gt (tgt := 352) d52_327 rfl (fun _ => ?_) (fun h => absurd h (by decide))
      refine q_iconst (v := 0) (by decide) d52_352 ?_
      refine q_istore (L' := [some (.ref 107), some (.int 7), some (.int (nI c)), some (.double x), none, some (.double y), none, some (.double (FP.drem x y)), none, some (.int 0)]) d52_353 (Nat.le_of_ble_eq_true rfl) rfl ?_
      refine q_iload d52_355 rfl ?_
      refine q_if_eq (tgt := 379) d52_357 rfl (fun _ => ?_) (fun h => absurd h (by decide))
      refine q_aload_n d52_379 rfl ?_
      refine q_getR (x := 228) d52_380 (fs8_41 52 rfl) rfl (lt_w1 rfl) sh107 (rs107_5 R) (by decide) ?_
      refine q_aload_n d52_383 rfl ?_
      refine q_getI d52_384 (fs8_50 52 rfl) rfl (lt_w1 rfl) sh107 ?_
      refine r_int (y := (nI p)) (show I 107 7 = (nI p) from h7) ?_
      refine q_iconst (v := 1) (by decide) d52_387 ?_
      refine q_isub d52_388 ?_
      refine r_int (y := (nI (p - 1))) (pk_sub (b := 1) (by omega)) ?_
      refine q_dload d52_389 rfl ?_
      refine q_dastore (a := (p - 1)) d52_391 (lt_w1 rfl) sh228 rfl (by omega) ?_
      exact q_ret d52_392 rfl (Nat.le_refl _) (Nat.le_refl _) (v5 h1tc h2tc)
    ·
      have h2fc : deq y FP.dconst0 = true := dc_l_ne_f h2f
      refine q_dload_n d52_234 rfl ?_
      refine q_goto (tgt := 244) d52_235 rfl ?_
      refine q_dstore (L' := [some (.ref 107), some (.int 7), some (.int (nI c)), some (.double x), none, some (.double y), none, some (.double x), none, none]) d52_244 (Nat.le_of_ble_eq_true rfl) rfl ?_
      refine q_goto (tgt := 319) d52_246 rfl ?_
      refine q_iload_n d52_319 rfl ?_
      refine q_iconst (v := 3) (by decide) d52_320 ?_
      refine q_icmp_lt (tgt := 352) d52_321 rfl (fun h => absurd h (by decide)) (fun _ => ?_)
      refine q_iload_n d52_324 rfl ?_
      refine q_bipush (v := 6) (by decide) d52_325 ?_
      refine q_icmp_gt (tgt := 352) d52_327 rfl (fun _ => ?_) (fun h => absurd h (by decide))
      refine q_iconst (v := 0) (by decide) d52_352 ?_
      refine q_istore (L' := [some (.ref 107), some (.int 7), some (.int (nI c)), some (.double x), none, some (.double y), none, some (.double x), none, some (.int 0)]) d52_353 (Nat.le_of_ble_eq_true rfl) rfl ?_
      refine q_iload d52_355 rfl ?_
      refine q_if_eq (tgt := 379) d52_357 rfl (fun _ => ?_) (fun h => absurd h (by decide))
      refine q_aload_n d52_379 rfl ?_
      refine q_getR (x := 228) d52_380 (fs8_41 52 rfl) rfl (lt_w1 rfl) sh107 (rs107_5 R) (by decide) ?_
      refine q_aload_n d52_383 rfl ?_
      refine q_getI d52_384 (fs8_50 52 rfl) rfl (lt_w1 rfl) sh107 ?_
      refine r_int (y := (nI p)) (show I 107 7 = (nI p) from h7) ?_
      refine q_iconst (v := 1) (by decide) d52_387 ?_
      refine q_isub d52_388 ?_
      refine r_int (y := (nI (p - 1))) (pk_sub (b := 1) (by omega)) ?_
      refine q_dload d52_389 rfl ?_
      refine q_dastore (a := (p - 1)) d52_391 (lt_w1 rfl) sh228 rfl (by omega) ?_
      exact q_ret d52_392 rfl (Nat.le_refl _) (Nat.le_refl _) (v6 h1tc h2fc)
  ·
    have h1fc : deq y FP.dconst0 = true := dc_l_ne_f h1f
    refine q_aload_n d52_109 rfl ?_
    refine q_getR (x := 229) d52_110 (fs8_45 52 rfl) rfl (lt_w1 rfl) sh107 (rs107_6 R) (by decide) ?_
    refine q_aload_n d52_113 rfl ?_
    refine q_getI d52_114 (fs8_50 52 rfl) rfl (lt_w1 rfl) sh107 ?_
    refine r_int (y := (nI p)) (show I 107 7 = (nI p) from h7) ?_
    refine q_iconst (v := 1) (by decide) d52_117 ?_
    refine q_isub d52_118 ?_
    refine r_int (y := (nI (p - 1))) (pk_sub (b := 1) (by omega)) ?_
    refine q_iconst (v := 2) (by decide) d52_119 ?_
    refine q_iload_n d52_120 rfl ?_
    refine q_invSN (av := [.int 2, .int (nI c)]) (rest := [.int (nI (p - 1)), .ref 229]) (d' := 0) (mc' := 0) (ms' := 0) d52_121 (nv8_67 52 rfl) rfl rfl (by omega) (Nat.le_of_ble_eq_true rfl) (Nat.le_of_ble_eq_true rfl) (Nat.le_refl _) (Nat.le_refl _) ?_
    refine c35n (a := 2) (b := c) (v7 h1fc) (v8 h1fc) ?_
    show j_W 52 d 0 0 0 0 124 [some (.ref 107), some (.int 7), some (.int (nI c)), some (.double x), none, some (.double y), none, none, none, none] [.int (nI (2 * 32 + c)), .int (nI (p - 1)), .ref 229] w1 (I, D, RR R) Q
    refine q_iastore (a := (p - 1)) d52_124 (lt_w1 rfl) sh229 rfl (by omega) ?_
    exact q_ret d52_125 rfl (Nat.le_refl _) (Nat.le_refl _) (v9 h1fc)

set_option maxRecDepth 10000 in
set_option maxHeartbeats 4000000 in
theorem s52_8 {d : Nat} {I : Nat → Nat → Int32} {D : Nat → Nat → UInt64} {R : Nat → Nat → Option Nat} {Q : j_Po} {c : Nat} {x : UInt64} {y : UInt64} {p : Nat} (h7 : I 107 7 = nI p) (hp : p < 256) (hp1 : 1 ≤ p) (hc : c < 24) (hd : 1 ≤ d)
    (v1 : (dlt x y = false) → Q none w1 (I, (j_u D 228 (p - 1) FP.dconst0), RR R))
    (v2 : (dlt x y = true) → Q none w1 (I, (j_u D 228 (p - 1) FP.dconst1), RR R)) : j_W 52 d 0 0 0 0 90 [some (.ref 107), some (.int 8), some (.int (nI c)), some (.double x), none, some (.double y), none, none, none, none] [] w1 (I, D, RR R) Q := by
  refine q_iload_n d52_90 rfl ?_
  refine q_bipush (v := 6) (by decide) d52_91 ?_
  refine q_icmp_eq (tgt := 102) d52_93 rfl (fun h => absurd h (by decide)) (fun _ => ?_)
  refine q_iload_n d52_96 rfl ?_
  refine q_bipush (v := 7) (by decide) d52_97 ?_
  refine q_icmp_ne (tgt := 126) d52_99 rfl (fun _ => ?_) (fun h => absurd h (by decide))
  refine q_dload_n d52_126 rfl ?_
  refine q_dstore (L' := [some (.ref 107), some (.int 8), some (.int (nI c)), some (.double x), none, some (.double y), none, some (.double x), none, none]) d52_127 (Nat.le_of_ble_eq_true rfl) rfl ?_
  refine q_iload_n d52_129 rfl ?_
  refine q_tableIn (tgt := 249) d52_130 (by decide) (by decide) rfl rfl ?_
  refine q_dload_n d52_249 rfl ?_
  refine q_dload d52_250 rfl ?_
  refine q_dcmp d52_252 ?_
  refine q_if_ge (tgt := 260) d52_253 rfl (fun h1t => ?_) (fun h1f => ?_)
  ·
    have h1tc : dlt x y = false := dc_g_ge_t h1t
    refine q_dconst0 d52_260 ?_
    refine q_dstore (L' := [some (.ref 107), some (.int 8), some (.int (nI c)), some (.double x), none, some (.double y), none, some (.double FP.dconst0), none, none]) d52_261 (Nat.le_of_ble_eq_true rfl) rfl ?_
    refine q_goto (tgt := 319) d52_263 rfl ?_
    refine q_iload_n d52_319 rfl ?_
    refine q_iconst (v := 3) (by decide) d52_320 ?_
    refine q_icmp_lt (tgt := 352) d52_321 rfl (fun h => absurd h (by decide)) (fun _ => ?_)
    refine q_iload_n d52_324 rfl ?_
    refine q_bipush (v := 6) (by decide) d52_325 ?_
    refine q_icmp_gt (tgt := 352) d52_327 rfl (fun _ => ?_) (fun h => absurd h (by decide))
    refine q_iconst (v := 0) (by decide) d52_352 ?_
    refine q_istore (L' := [some (.ref 107), some (.int 8), some (.int (nI c)), some (.double x), none, some (.double y), none, some (.double FP.dconst0), none, some (.int 0)]) d52_353 (Nat.le_of_ble_eq_true rfl) rfl ?_
    refine q_iload d52_355 rfl ?_
    refine q_if_eq (tgt := 379) d52_357 rfl (fun _ => ?_) (fun h => absurd h (by decide))
    refine q_aload_n d52_379 rfl ?_
    refine q_getR (x := 228) d52_380 (fs8_41 52 rfl) rfl (lt_w1 rfl) sh107 (rs107_5 R) (by decide) ?_
    refine q_aload_n d52_383 rfl ?_
    refine q_getI d52_384 (fs8_50 52 rfl) rfl (lt_w1 rfl) sh107 ?_
    refine r_int (y := (nI p)) (show I 107 7 = (nI p) from h7) ?_
    refine q_iconst (v := 1) (by decide) d52_387 ?_
    refine q_isub d52_388 ?_
    refine r_int (y := (nI (p - 1))) (pk_sub (b := 1) (by omega)) ?_
    refine q_dload d52_389 rfl ?_
    refine q_dastore (a := (p - 1)) d52_391 (lt_w1 rfl) sh228 rfl (by omega) ?_
    exact q_ret d52_392 rfl (Nat.le_refl _) (Nat.le_refl _) (v1 h1tc)
  ·
    have h1fc : dlt x y = true := dc_g_ge_f h1f
    refine q_dconst1 d52_256 ?_
    refine q_goto (tgt := 261) d52_257 rfl ?_
    refine q_dstore (L' := [some (.ref 107), some (.int 8), some (.int (nI c)), some (.double x), none, some (.double y), none, some (.double FP.dconst1), none, none]) d52_261 (Nat.le_of_ble_eq_true rfl) rfl ?_
    refine q_goto (tgt := 319) d52_263 rfl ?_
    refine q_iload_n d52_319 rfl ?_
    refine q_iconst (v := 3) (by decide) d52_320 ?_
    refine q_icmp_lt (tgt := 352) d52_321 rfl (fun h => absurd h (by decide)) (fun _ => ?_)
    refine q_iload_n d52_324 rfl ?_
    refine q_bipush (v := 6) (by decide) d52_325 ?_
    refine q_icmp_gt (tgt := 352) d52_327 rfl (fun _ => ?_) (fun h => absurd h (by decide))
    refine q_iconst (v := 0) (by decide) d52_352 ?_
    refine q_istore (L' := [some (.ref 107), some (.int 8), some (.int (nI c)), some (.double x), none, some (.double y), none, some (.double FP.dconst1), none, some (.int 0)]) d52_353 (Nat.le_of_ble_eq_true rfl) rfl ?_
    refine q_iload d52_355 rfl ?_
    refine q_if_eq (tgt := 379) d52_357 rfl (fun _ => ?_) (fun h => absurd h (by decide))
    refine q_aload_n d52_379 rfl ?_
    refine q_getR (x := 228) d52_380 (fs8_41 52 rfl) rfl (lt_w1 rfl) sh107 (rs107_5 R) (by decide) ?_
    refine q_aload_n d52_383 rfl ?_
    refine q_getI d52_384 (fs8_50 52 rfl) rfl (lt_w1 rfl) sh107 ?_
    refine r_int (y := (nI p)) (show I 107 7 = (nI p) from h7) ?_
    refine q_iconst (v := 1) (by decide) d52_387 ?_
    refine q_isub d52_388 ?_
    refine r_int (y := (nI (p - 1))) (pk_sub (b := 1) (by omega)) ?_
    refine q_dload d52_389 rfl ?_
    refine q_dastore (a := (p - 1)) d52_391 (lt_w1 rfl) sh228 rfl (by omega) ?_
    exact q_ret d52_392 rfl (Nat.le_refl _) (Nat.le_refl _) (v2 h1fc)

set_option maxRecDepth 10000 in
set_option maxHeartbeats 4000000 in
theorem s52_9 {d : Nat} {I : Nat → Nat → Int32} {D : Nat → Nat → UInt64} {R : Nat → Nat → Option Nat} {Q : j_Po} {c : Nat} {x : UInt64} {y : UInt64} {p : Nat} (h7 : I 107 7 = nI p) (hp : p < 256) (hp1 : 1 ≤ p) (hc : c < 24) (hd : 1 ≤ d)
    (v1 : (deq x y = false) → Q none w1 (I, (j_u D 228 (p - 1) FP.dconst0), RR R))
    (v2 : (deq x y = true) → Q none w1 (I, (j_u D 228 (p - 1) FP.dconst1), RR R)) : j_W 52 d 0 0 0 0 90 [some (.ref 107), some (.int 9), some (.int (nI c)), some (.double x), none, some (.double y), none, none, none, none] [] w1 (I, D, RR R) Q := by
  refine q_iload_n d52_90 rfl ?_
  refine q_bipush (v := 6) (by decide) d52_91 ?_
  refine q_icmp_eq (tgt := 102) d52_93 rfl (fun h => absurd h (by decide)) (fun _ => ?_)
  refine q_iload_n d52_96 rfl ?_
  refine q_bipush (v := 7) (by decide) d52_97 ?_
  refine q_icmp_ne (tgt := 126) d52_99 rfl (fun _ => ?_) (fun h => absurd h (by decide))
  refine q_dload_n d52_126 rfl ?_
  refine q_dstore (L' := [some (.ref 107), some (.int 9), some (.int (nI c)), some (.double x), none, some (.double y), none, some (.double x), none, none]) d52_127 (Nat.le_of_ble_eq_true rfl) rfl ?_
  refine q_iload_n d52_129 rfl ?_
  refine q_tableIn (tgt := 266) d52_130 (by decide) (by decide) rfl rfl ?_
  refine q_dload_n d52_266 rfl ?_
  refine q_dload d52_267 rfl ?_
  refine q_dcmp d52_269 ?_
  refine q_if_ne (tgt := 277) d52_270 rfl (fun h1t => ?_) (fun h1f => ?_)
  ·
    have h1tc : deq x y = false := dc_l_ne_t h1t
    refine q_dconst0 d52_277 ?_
    refine q_dstore (L' := [some (.ref 107), some (.int 9), some (.int (nI c)), some (.double x), none, some (.double y), none, some (.double FP.dconst0), none, none]) d52_278 (Nat.le_of_ble_eq_true rfl) rfl ?_
    refine q_goto (tgt := 319) d52_280 rfl ?_
    refine q_iload_n d52_319 rfl ?_
    refine q_iconst (v := 3) (by decide) d52_320 ?_
    refine q_icmp_lt (tgt := 352) d52_321 rfl (fun h => absurd h (by decide)) (fun _ => ?_)
    refine q_iload_n d52_324 rfl ?_
    refine q_bipush (v := 6) (by decide) d52_325 ?_
    refine q_icmp_gt (tgt := 352) d52_327 rfl (fun _ => ?_) (fun h => absurd h (by decide))
    refine q_iconst (v := 0) (by decide) d52_352 ?_
    refine q_istore (L' := [some (.ref 107), some (.int 9), some (.int (nI c)), some (.double x), none, some (.double y), none, some (.double FP.dconst0), none, some (.int 0)]) d52_353 (Nat.le_of_ble_eq_true rfl) rfl ?_
    refine q_iload d52_355 rfl ?_
    refine q_if_eq (tgt := 379) d52_357 rfl (fun _ => ?_) (fun h => absurd h (by decide))
    refine q_aload_n d52_379 rfl ?_
    refine q_getR (x := 228) d52_380 (fs8_41 52 rfl) rfl (lt_w1 rfl) sh107 (rs107_5 R) (by decide) ?_
    refine q_aload_n d52_383 rfl ?_
    refine q_getI d52_384 (fs8_50 52 rfl) rfl (lt_w1 rfl) sh107 ?_
    refine r_int (y := (nI p)) (show I 107 7 = (nI p) from h7) ?_
    refine q_iconst (v := 1) (by decide) d52_387 ?_
    refine q_isub d52_388 ?_
    refine r_int (y := (nI (p - 1))) (pk_sub (b := 1) (by omega)) ?_
    refine q_dload d52_389 rfl ?_
    refine q_dastore (a := (p - 1)) d52_391 (lt_w1 rfl) sh228 rfl (by omega) ?_
    exact q_ret d52_392 rfl (Nat.le_refl _) (Nat.le_refl _) (v1 h1tc)
  ·
    have h1fc : deq x y = true := dc_l_ne_f h1f
    refine q_dconst1 d52_273 ?_
    refine q_goto (tgt := 278) d52_274 rfl ?_
    refine q_dstore (L' := [some (.ref 107), some (.int 9), some (.int (nI c)), some (.double x), none, some (.double y), none, some (.double FP.dconst1), none, none]) d52_278 (Nat.le_of_ble_eq_true rfl) rfl ?_
    refine q_goto (tgt := 319) d52_280 rfl ?_
    refine q_iload_n d52_319 rfl ?_
    refine q_iconst (v := 3) (by decide) d52_320 ?_
    refine q_icmp_lt (tgt := 352) d52_321 rfl (fun h => absurd h (by decide)) (fun _ => ?_)
    refine q_iload_n d52_324 rfl ?_
    refine q_bipush (v := 6) (by decide) d52_325 ?_
    refine q_icmp_gt (tgt := 352) d52_327 rfl (fun _ => ?_) (fun h => absurd h (by decide))
    refine q_iconst (v := 0) (by decide) d52_352 ?_
    refine q_istore (L' := [some (.ref 107), some (.int 9), some (.int (nI c)), some (.double x), none, some (.double y), none, some (.double FP.dconst1), none, some (.int 0)]) d52_353 (Nat.le_of_ble_eq_true rfl) rfl ?_
    refine q_iload d52_355 rfl ?_
    refine q_if_eq (tgt := 379) d52_357 rfl (fun _ => ?_) (fun h => absurd h (by decide))
    refine q_aload_n d52_379 rfl ?_
    refine q_getR (x := 228) d52_380 (fs8_41 52 rfl) rfl (lt_w1 rfl) sh107 (rs107_5 R) (by decide) ?_
    refine q_aload_n d52_383 rfl ?_
    refine q_getI d52_384 (fs8_50 52 rfl) rfl (lt_w1 rfl) sh107 ?_
    refine r_int (y := (nI p)) (show I 107 7 = (nI p) from h7) ?_
    refine q_iconst (v := 1) (by decide) d52_387 ?_
    refine q_isub d52_388 ?_
    refine r_int (y := (nI (p - 1))) (pk_sub (b := 1) (by omega)) ?_
    refine q_dload d52_389 rfl ?_
    refine q_dastore (a := (p - 1)) d52_391 (lt_w1 rfl) sh228 rfl (by omega) ?_
    exact q_ret d52_392 rfl (Nat.le_refl _) (Nat.le_refl _) (v2 h1fc)

set_option maxRecDepth 10000 in
set_option maxHeartbeats 4000000 in
theorem s52_10 {d : Nat} {I : Nat → Nat → Int32} {D : Nat → Nat → UInt64} {R : Nat → Nat → Option Nat} {Q : j_Po} {c : Nat} {x : UInt64} {y : UInt64} {p : Nat} (h7 : I 107 7 = nI p) (hp : p < 256) (hp1 : 1 ≤ p) (hc : c < 24) (hd : 1 ≤ d)
    (v1 : (dlt y x = false) → Q none w1 (I, (j_u D 228 (p - 1) x), RR R))
    (v2 : (dlt y x = true) → Q none w1 (I, (j_u D 228 (p - 1) y), RR R)) : j_W 52 d 0 0 0 0 90 [some (.ref 107), some (.int 10), some (.int (nI c)), some (.double x), none, some (.double y), none, none, none, none] [] w1 (I, D, RR R) Q := by
  refine q_iload_n d52_90 rfl ?_
  refine q_bipush (v := 6) (by decide) d52_91 ?_
  refine q_icmp_eq (tgt := 102) d52_93 rfl (fun h => absurd h (by decide)) (fun _ => ?_)
  refine q_iload_n d52_96 rfl ?_
  refine q_bipush (v := 7) (by decide) d52_97 ?_
  refine q_icmp_ne (tgt := 126) d52_99 rfl (fun _ => ?_) (fun h => absurd h (by decide))
  refine q_dload_n d52_126 rfl ?_
  refine q_dstore (L' := [some (.ref 107), some (.int 10), some (.int (nI c)), some (.double x), none, some (.double y), none, some (.double x), none, none]) d52_127 (Nat.le_of_ble_eq_true rfl) rfl ?_
  refine q_iload_n d52_129 rfl ?_
  refine q_tableIn (tgt := 283) d52_130 (by decide) (by decide) rfl rfl ?_
  refine q_dload d52_283 rfl ?_
  refine q_dload_n d52_285 rfl ?_
  refine q_dcmp d52_286 ?_
  refine q_if_ge (tgt := 295) d52_287 rfl (fun h1t => ?_) (fun h1f => ?_)
  ·
    have h1tc : dlt y x = false := dc_g_ge_t h1t
    refine q_dload_n d52_295 rfl ?_
    refine q_dstore (L' := [some (.ref 107), some (.int 10), some (.int (nI c)), some (.double x), none, some (.double y), none, some (.double x), none, none]) d52_296 (Nat.le_of_ble_eq_true rfl) rfl ?_
    refine q_goto (tgt := 319) d52_298 rfl ?_
    refine q_iload_n d52_319 rfl ?_
    refine q_iconst (v := 3) (by decide) d52_320 ?_
    refine q_icmp_lt (tgt := 352) d52_321 rfl (fun h => absurd h (by decide)) (fun _ => ?_)
    refine q_iload_n d52_324 rfl ?_
    refine q_bipush (v := 6) (by decide) d52_325 ?_
    refine q_icmp_gt (tgt := 352) d52_327 rfl (fun _ => ?_) (fun h => absurd h (by decide))
    refine q_iconst (v := 0) (by decide) d52_352 ?_
    refine q_istore (L' := [some (.ref 107), some (.int 10), some (.int (nI c)), some (.double x), none, some (.double y), none, some (.double x), none, some (.int 0)]) d52_353 (Nat.le_of_ble_eq_true rfl) rfl ?_
    refine q_iload d52_355 rfl ?_
    refine q_if_eq (tgt := 379) d52_357 rfl (fun _ => ?_) (fun h => absurd h (by decide))
    refine q_aload_n d52_379 rfl ?_
    refine q_getR (x := 228) d52_380 (fs8_41 52 rfl) rfl (lt_w1 rfl) sh107 (rs107_5 R) (by decide) ?_
    refine q_aload_n d52_383 rfl ?_
    refine q_getI d52_384 (fs8_50 52 rfl) rfl (lt_w1 rfl) sh107 ?_
    refine r_int (y := (nI p)) (show I 107 7 = (nI p) from h7) ?_
    refine q_iconst (v := 1) (by decide) d52_387 ?_
    refine q_isub d52_388 ?_
    refine r_int (y := (nI (p - 1))) (pk_sub (b := 1) (by omega)) ?_
    refine q_dload d52_389 rfl ?_
    refine q_dastore (a := (p - 1)) d52_391 (lt_w1 rfl) sh228 rfl (by omega) ?_
    exact q_ret d52_392 rfl (Nat.le_refl _) (Nat.le_refl _) (v1 h1tc)
  ·
    have h1fc : dlt y x = true := dc_g_ge_f h1f
    refine q_dload d52_290 rfl ?_
    refine q_goto (tgt := 296) d52_292 rfl ?_
    refine q_dstore (L' := [some (.ref 107), some (.int 10), some (.int (nI c)), some (.double x), none, some (.double y), none, some (.double y), none, none]) d52_296 (Nat.le_of_ble_eq_true rfl) rfl ?_
    refine q_goto (tgt := 319) d52_298 rfl ?_
    refine q_iload_n d52_319 rfl ?_
    refine q_iconst (v := 3) (by decide) d52_320 ?_
    refine q_icmp_lt (tgt := 352) d52_321 rfl (fun h => absurd h (by decide)) (fun _ => ?_)
    refine q_iload_n d52_324 rfl ?_
    refine q_bipush (v := 6) (by decide) d52_325 ?_
    refine q_icmp_gt (tgt := 352) d52_327 rfl (fun _ => ?_) (fun h => absurd h (by decide))
    refine q_iconst (v := 0) (by decide) d52_352 ?_
    refine q_istore (L' := [some (.ref 107), some (.int 10), some (.int (nI c)), some (.double x), none, some (.double y), none, some (.double y), none, some (.int 0)]) d52_353 (Nat.le_of_ble_eq_true rfl) rfl ?_
    refine q_iload d52_355 rfl ?_
    refine q_if_eq (tgt := 379) d52_357 rfl (fun _ => ?_) (fun h => absurd h (by decide))
    refine q_aload_n d52_379 rfl ?_
    refine q_getR (x := 228) d52_380 (fs8_41 52 rfl) rfl (lt_w1 rfl) sh107 (rs107_5 R) (by decide) ?_
    refine q_aload_n d52_383 rfl ?_
    refine q_getI d52_384 (fs8_50 52 rfl) rfl (lt_w1 rfl) sh107 ?_
    refine r_int (y := (nI p)) (show I 107 7 = (nI p) from h7) ?_
    refine q_iconst (v := 1) (by decide) d52_387 ?_
    refine q_isub d52_388 ?_
    refine r_int (y := (nI (p - 1))) (pk_sub (b := 1) (by omega)) ?_
    refine q_dload d52_389 rfl ?_
    refine q_dastore (a := (p - 1)) d52_391 (lt_w1 rfl) sh228 rfl (by omega) ?_
    exact q_ret d52_392 rfl (Nat.le_refl _) (Nat.le_refl _) (v2 h1fc)

set_option maxRecDepth 10000 in
set_option maxHeartbeats 4000000 in
theorem s52_11 {d : Nat} {I : Nat → Nat → Int32} {D : Nat → Nat → UInt64} {R : Nat → Nat → Option Nat} {Q : j_Po} {c : Nat} {x : UInt64} {y : UInt64} {p : Nat} (h7 : I 107 7 = nI p) (hp : p < 256) (hp1 : 1 ≤ p) (hc : c < 24) (hd : 1 ≤ d)
    (v1 : (dgt y x = false) → Q none w1 (I, (j_u D 228 (p - 1) x), RR R))
    (v2 : (dgt y x = true) → Q none w1 (I, (j_u D 228 (p - 1) y), RR R)) : j_W 52 d 0 0 0 0 90 [some (.ref 107), some (.int 11), some (.int (nI c)), some (.double x), none, some (.double y), none, none, none, none] [] w1 (I, D, RR R) Q := by
  refine q_iload_n d52_90 rfl ?_
  refine q_bipush (v := 6) (by decide) d52_91 ?_
  refine q_icmp_eq (tgt := 102) d52_93 rfl (fun h => absurd h (by decide)) (fun _ => ?_)
  refine q_iload_n d52_96 rfl ?_
  refine q_bipush (v := 7) (by decide) d52_97 ?_
  refine q_icmp_ne (tgt := 126) d52_99 rfl (fun _ => ?_) (fun h => absurd h (by decide))
  refine q_dload_n d52_126 rfl ?_
  refine q_dstore (L' := [some (.ref 107), some (.int 11), some (.int (nI c)), some (.double x), none, some (.double y), none, some (.double x), none, none]) d52_127 (Nat.le_of_ble_eq_true rfl) rfl ?_
  refine q_iload_n d52_129 rfl ?_
  refine q_tableIn (tgt := 301) d52_130 (by decide) (by decide) rfl rfl ?_
  refine q_dload d52_301 rfl ?_
  refine q_dload_n d52_303 rfl ?_
  refine q_dcmp d52_304 ?_
  refine q_if_le (tgt := 313) d52_305 rfl (fun h1t => ?_) (fun h1f => ?_)
  ·
    have h1tc : dgt y x = false := dc_l_le_t h1t
    refine q_dload_n d52_313 rfl ?_
    refine q_dstore (L' := [some (.ref 107), some (.int 11), some (.int (nI c)), some (.double x), none, some (.double y), none, some (.double x), none, none]) d52_314 (Nat.le_of_ble_eq_true rfl) rfl ?_
    refine q_goto (tgt := 319) d52_316 rfl ?_
    refine q_iload_n d52_319 rfl ?_
    refine q_iconst (v := 3) (by decide) d52_320 ?_
    refine q_icmp_lt (tgt := 352) d52_321 rfl (fun h => absurd h (by decide)) (fun _ => ?_)
    refine q_iload_n d52_324 rfl ?_
    refine q_bipush (v := 6) (by decide) d52_325 ?_
    refine q_icmp_gt (tgt := 352) d52_327 rfl (fun _ => ?_) (fun h => absurd h (by decide))
    refine q_iconst (v := 0) (by decide) d52_352 ?_
    refine q_istore (L' := [some (.ref 107), some (.int 11), some (.int (nI c)), some (.double x), none, some (.double y), none, some (.double x), none, some (.int 0)]) d52_353 (Nat.le_of_ble_eq_true rfl) rfl ?_
    refine q_iload d52_355 rfl ?_
    refine q_if_eq (tgt := 379) d52_357 rfl (fun _ => ?_) (fun h => absurd h (by decide))
    refine q_aload_n d52_379 rfl ?_
    refine q_getR (x := 228) d52_380 (fs8_41 52 rfl) rfl (lt_w1 rfl) sh107 (rs107_5 R) (by decide) ?_
    refine q_aload_n d52_383 rfl ?_
    refine q_getI d52_384 (fs8_50 52 rfl) rfl (lt_w1 rfl) sh107 ?_
    refine r_int (y := (nI p)) (show I 107 7 = (nI p) from h7) ?_
    refine q_iconst (v := 1) (by decide) d52_387 ?_
    refine q_isub d52_388 ?_
    refine r_int (y := (nI (p - 1))) (pk_sub (b := 1) (by omega)) ?_
    refine q_dload d52_389 rfl ?_
    refine q_dastore (a := (p - 1)) d52_391 (lt_w1 rfl) sh228 rfl (by omega) ?_
    exact q_ret d52_392 rfl (Nat.le_refl _) (Nat.le_refl _) (v1 h1tc)
  ·
    have h1fc : dgt y x = true := dc_l_le_f h1f
    refine q_dload d52_308 rfl ?_
    refine q_goto (tgt := 314) d52_310 rfl ?_
    refine q_dstore (L' := [some (.ref 107), some (.int 11), some (.int (nI c)), some (.double x), none, some (.double y), none, some (.double y), none, none]) d52_314 (Nat.le_of_ble_eq_true rfl) rfl ?_
    refine q_goto (tgt := 319) d52_316 rfl ?_
    refine q_iload_n d52_319 rfl ?_
    refine q_iconst (v := 3) (by decide) d52_320 ?_
    refine q_icmp_lt (tgt := 352) d52_321 rfl (fun h => absurd h (by decide)) (fun _ => ?_)
    refine q_iload_n d52_324 rfl ?_
    refine q_bipush (v := 6) (by decide) d52_325 ?_
    refine q_icmp_gt (tgt := 352) d52_327 rfl (fun _ => ?_) (fun h => absurd h (by decide))
    refine q_iconst (v := 0) (by decide) d52_352 ?_
    refine q_istore (L' := [some (.ref 107), some (.int 11), some (.int (nI c)), some (.double x), none, some (.double y), none, some (.double y), none, some (.int 0)]) d52_353 (Nat.le_of_ble_eq_true rfl) rfl ?_
    refine q_iload d52_355 rfl ?_
    refine q_if_eq (tgt := 379) d52_357 rfl (fun _ => ?_) (fun h => absurd h (by decide))
    refine q_aload_n d52_379 rfl ?_
    refine q_getR (x := 228) d52_380 (fs8_41 52 rfl) rfl (lt_w1 rfl) sh107 (rs107_5 R) (by decide) ?_
    refine q_aload_n d52_383 rfl ?_
    refine q_getI d52_384 (fs8_50 52 rfl) rfl (lt_w1 rfl) sh107 ?_
    refine r_int (y := (nI p)) (show I 107 7 = (nI p) from h7) ?_
    refine q_iconst (v := 1) (by decide) d52_387 ?_
    refine q_isub d52_388 ?_
    refine r_int (y := (nI (p - 1))) (pk_sub (b := 1) (by omega)) ?_
    refine q_dload d52_389 rfl ?_
    refine q_dastore (a := (p - 1)) d52_391 (lt_w1 rfl) sh228 rfl (by omega) ?_
    exact q_ret d52_392 rfl (Nat.le_refl _) (Nat.le_refl _) (v2 h1fc)

/-- a value against what stands on the class's stack -/
def VR (w : Int32) (x : UInt64) (v : Vl) : Prop := w = nI v.1 ∧ (v.1 = 0 → x = v.2) ∧ Sm x ∧ v.1 < 200
def SV (I : Nat → Nat → Int32) (D : Nat → Nat → UInt64) (b h : Nat) (s : Nat → Vl) : Prop := I 107 7 = nI (b + h) ∧ ∀ i, i < h → VR (I 229 (b + i)) (D 228 (b + i)) (s i)
/-- nothing below b is other -/
def FS (b : Nat) (I : Nat → Nat → Int32) (D : Nat → Nat → UInt64) (I' : Nat → Nat → Int32) (D' : Nat → Nat → UInt64) : Prop := (∀ q, q ≠ 107 → q ≠ 229 → I' q = I q) ∧ (∀ i, i ≠ 7 → I' 107 i = I 107 i) ∧ (∀ i, i < b → I' 229 i = I 229 i) ∧ (∀ q, q ≠ 228 → D' q = D q) ∧ ∀ i, i < b → D' 228 i = D 228 i
section SK
variable {d : Nat} {I : Nat → Nat → Int32} {D : Nat → Nat → UInt64} {R : Nat → Nat → Option Nat} {Q : j_Po}
theorem FS.tr {b : Nat} {I1 I2 : Nat → Nat → Int32} {D1 D2 : Nat → Nat → UInt64} (h : FS b I D I1 D1) (h' : FS b I1 D1 I2 D2) : FS b I D I2 D2 := ⟨fun q a c => (h'.1 q a c).trans (h.1 q a c), fun i a => (h'.2.1 i a).trans (h.2.1 i a), fun i a => (h'.2.2.1 i a).trans (h.2.2.1 i a), fun q a => (h'.2.2.2.1 q a).trans (h.2.2.2.1 q a), fun i a => (h'.2.2.2.2 i a).trans (h.2.2.2.2 i a)⟩
theorem FS.refl {b : Nat} : FS b I D I D := ⟨fun _ _ _ => rfl, fun _ _ => rfl, fun _ _ => rfl, fun _ _ => rfl, fun _ _ => rfl⟩
theorem deq0 {y : UInt64} (hy : Fi y) (h : deq y FP.dconst0 = false) : vm y ≠ 0 := fun h2 => by
  have h3 : deq y FP.dconst0 = true := (deq_iff hy fi_0).mpr (by
    rw [vz_0]
    have := vm_abs y
    omega)
  rw [h3] at h; cases h
theorem nz_of {y : UInt64} (hy : Fi y) (h : vm y ≠ 0) : Jvm.Free.Fl.Nz64 y := Jvm.Free.Fl.nz64_core.mpr (fun h2 => h (by
  obtain ⟨s, q, e⟩ := h2
  show Jvm.FP.Core.zmag _ _ = 0
  rw [e]; show Jvm.FP.Core.inUnits 0 q _ = 0; unfold Jvm.FP.Core.inUnits; rw [Nat.zero_mul]))
theorem farB_f {z : UInt64} (h1 : dgt z 4786511204640096256 = false) (h2 : dlt z 14009883241494872064 = false) : farB z = false := by unfold farB; rw [h1, h2]; rfl
theorem farB_1 {z : UInt64} (h1 : dgt z 4786511204640096256 = true) : farB z = true := by unfold farB; rw [h1]; rfl
theorem farB_2 {z : UInt64} (h1 : dgt z 4786511204640096256 = false) (h2 : dlt z 14009883241494872064 = true) : farB z = true := by unfold farB; rw [h1, h2]; rfl
theorem c52b {a c p : Nat} {x y : UInt64} (ha : 3 ≤ a) (ha2 : a ≤ 11) (hx : Sm x) (hy : Sm y) (h7 : I 107 7 = nI p) (hp : p < 256) (hp1 : 1 ≤ p) (hc : c < 24) (hd : 1 ≤ d)
    (hb : (twoV a c (0, x) (0, y)).1 ≠ 0 → (twoV a c (0, x) (0, y)).1 < 200 → Q none w1 (j_u I 229 (p - 1) (nI (twoV a c (0, x) (0, y)).1), D, RR R))
    (hk : (twoV a c (0, x) (0, y)).1 = 0 → Sm (twoV a c (0, x) (0, y)).2 → Q none w1 (I, j_u D 228 (p - 1) (twoV a c (0, x) (0, y)).2, RR R)) : j_W 52 d 0 0 0 0 90 [some (.ref 107), some (.int (nI a)), some (.int (nI c)), some (.double x), none, some (.double y), none, none, none, none] [] w1 (I, D, RR R) Q := by
  have far : ∀ z, a ≤ 6 → vf_n64 z → opV a x y = z → ((a = 6 ∨ a = 7) → deq y FP.dconst0 = false) → (dgt z 4786511204640096256 = true → Q none w1 (j_u I 229 (p - 1) (nI (3 * 32 + c)), D, RR R)) ∧ (dgt z 4786511204640096256 = false → dlt z 14009883241494872064 = false → Q none w1 (I, j_u D 228 (p - 1) z, RR R)) ∧ (dgt z 4786511204640096256 = false → dlt z 14009883241494872064 = true → Q none w1 (j_u I 229 (p - 1) (nI (3 * 32 + c)), D, RR R)) := by
    intro z h6 hn hz h0
    have e : twoV a c (0, x) (0, y) = if farB z = true then (96 + c, FP.dconst0) else (0, z) := by
      unfold twoV
      rw [if_neg (by simp), if_neg (by simp), hz]
      rw [if_neg (show ¬ ((a = 6 ∨ a = 7) ∧ deq y FP.dconst0 = true) from fun h => by rw [h0 h.1] at h; exact absurd h.2 (by simp))]
      by_cases hf : farB z = true
      · rw [if_pos ⟨h6, hf⟩, if_pos hf]
      · rw [if_neg (fun h => hf h.2), if_neg hf]
    rw [e] at hb hk
    refine ⟨fun h => ?_, fun h h2 => ?_, fun h h2 => ?_⟩
    · rw [if_pos (farB_1 h)] at hb
      exact hb (by simp only; omega) (by simp only; omega)
    · rw [if_neg (by rw [farB_f h h2]; simp)] at hk
      exact hk rfl (sm_far hn h h2)
    · rw [if_pos (farB_2 h h2)] at hb
      exact hb (by simp only; omega) (by simp only; omega)
  have nofar : ∀ z, 7 ≤ a → Sm z → opV a x y = z → (a = 7 → deq y FP.dconst0 = false) → Q none w1 (I, j_u D 228 (p - 1) z, RR R) := by
    intro z h6 hn hz h0
    have e : twoV a c (0, x) (0, y) = (0, z) := by
      unfold twoV
      rw [if_neg (by simp), if_neg (by simp), hz]
      rw [if_neg (show ¬ ((a = 6 ∨ a = 7) ∧ deq y FP.dconst0 = true) from fun h => by rw [h0 (by omega)] at h; exact absurd h.2 (by simp)), if_neg (by omega)]
    rw [e] at hk
    exact hk rfl hn
  have zero : (a = 6 ∨ a = 7) → deq y FP.dconst0 = true → Q none w1 (j_u I 229 (p - 1) (nI (2 * 32 + c)), D, RR R) := by
    intro h6 h0
    have e : twoV a c (0, x) (0, y) = (64 + c, FP.dconst0) := by
      unfold twoV
      rw [if_neg (by simp), if_neg (by simp), if_pos ⟨h6, h0⟩]
    rw [e] at hb
    exact hb (by simp only; omega) (by simp only; omega)
  have fx := fi_lib.mpr hx.1
  have fy := fi_lib.mpr hy.1
  have hcase : a = 3 ∨ a = 4 ∨ a = 5 ∨ a = 6 ∨ a = 7 ∨ a = 8 ∨ a = 9 ∨ a = 10 ∨ a = 11 := by omega
  rcases hcase with rfl | rfl | rfl | rfl | rfl | rfl | rfl | rfl | rfl
  · have hn := Jvm.Free.Fl.dadd_out (fi_nn hx.1) fy
    have k := far _ (by decide) hn rfl (fun h => by omega)
    exact s52_3 h7 hp hp1 hc hd hn (fun _ => by decide) (fun _ => hc) k.1 k.2.1 (fun _ _ => by decide) (fun _ _ => hc) k.2.2
  · have hn := Jvm.Free.Fl.dsub_out (fi_nn hx.1) fy
    have k := far _ (by decide) hn rfl (fun h => by omega)
    exact s52_4 h7 hp hp1 hc hd hn (fun _ => by decide) (fun _ => hc) k.1 k.2.1 (fun _ _ => by decide) (fun _ _ => hc) k.2.2
  · have hn := Jvm.Free.Fl.dmul_out fx fy
    have k := far _ (by decide) hn rfl (fun h => by omega)
    exact s52_5 h7 hp hp1 hc hd hn (fun _ => by decide) (fun _ => hc) k.1 k.2.1 (fun _ _ => by decide) (fun _ _ => hc) k.2.2
  · have hn := fun h0 => Jvm.Free.Fl.ddiv_out (fi_nn hx.1) fy (nz_of hy.1 (deq0 hy.1 h0))
    have k := fun h0 => far _ (by decide) (hn h0) rfl (fun _ => h0)
    have no : ∀ {q : Prop}, deq y FP.dconst0 = false → deq y FP.dconst0 = true → q := fun h1 h2 => by rw [h1] at h2; cases h2
    exact s52_6 h7 hp hp1 hc hd (fun h _ => hn h) (fun _ _ _ => by decide) (fun _ _ _ => hc) (fun h _ => (k h).1) (fun h _ => (k h).2.1) (fun _ _ _ _ => by decide) (fun _ _ _ _ => hc) (fun h _ => (k h).2.2) (fun a b => no a b) (fun a b => no a b) (fun a b => no a b) (fun a b => no a b) (fun a b => no a b) (fun a b => no a b) (fun a b => no a b) (fun _ => by decide) (fun _ => hc) (zero (Or.inl rfl))
  · have no : ∀ {q : Prop}, deq y FP.dconst0 = false → deq y FP.dconst0 = true → q := fun h1 h2 => by rw [h1] at h2; cases h2
    exact s52_7 h7 hp hp1 hc hd (fun _ _ => hx.1) (fun _ _ => hy.1) (fun h _ => deq0 hy.1 h) (fun _ _ => Nat.lt_of_le_of_lt hx.2 (Nat.pow_lt_pow_right (by decide) (by decide))) (fun h _ => nofar _ (by decide) (sm_drem hx hy.1 (deq0 hy.1 h)) rfl (fun _ => h)) (fun a b => no a b) (fun _ => by decide) (fun _ => hc) (zero (Or.inr rfl))
  · exact s52_8 h7 hp hp1 hc hd (fun h => nofar _ (by decide) sm_0 (by show (if dlt x y = true then FP.dconst1 else FP.dconst0) = _; rw [h]; rfl) (fun h => by omega)) (fun h => nofar _ (by decide) sm_1 (by show (if dlt x y = true then FP.dconst1 else FP.dconst0) = _; rw [h]; rfl) (fun h => by omega))
  · exact s52_9 h7 hp hp1 hc hd (fun h => nofar _ (by decide) sm_0 (by show (if deq x y = true then FP.dconst1 else FP.dconst0) = _; rw [h]; rfl) (fun h => by omega)) (fun h => nofar _ (by decide) sm_1 (by show (if deq x y = true then FP.dconst1 else FP.dconst0) = _; rw [h]; rfl) (fun h => by omega))
  · exact s52_10 h7 hp hp1 hc hd (fun h => nofar _ (by decide) hx (by show (if dlt y x = true then y else x) = _; rw [h]; rfl) (fun h => by omega)) (fun h => nofar _ (by decide) hy (by show (if dlt y x = true then y else x) = _; rw [h]; rfl) (fun h => by omega))
  · exact s52_11 h7 hp hp1 hc hd (fun h => nofar _ (by decide) hx (by show (if dgt y x = true then y else x) = _; rw [h]; rfl) (fun h => by omega)) (fun h => nofar _ (by decide) hy (by show (if dgt y x = true then y else x) = _; rw [h]; rfl) (fun h => by omega))
theorem nI_z {w : Nat} (h : w < 200) : nI w = 0 ↔ w = 0 := nI_eq (b := 0) (by omega) (by decide)
/-- pushed -/
theorem c38 {b h : Nat} {s : Nat → Vl} {x : UInt64} {v : Vl} (hs : SV I D b h s) (hb : b + h < 256) (hv : VR (nI v.1) x v) (hq : ∀ I' D', SV I' D' b (h + 1) (fu s h v) → FS b I D I' D' → Q none w1 (I', D', RR R)) : j_Call d 38 [.ref 107, .double x, .int (nI v.1)] w1 (I, D, RR R) 0 0 Q := by
  refine t38 hs.1 hb (Nat.zero_le _) (fun _ => hq _ _ ⟨by rw [j_u_same]; rfl, fun i hi => ?_⟩ ⟨fun q a c => ?_, fun i a => ?_, fun i a => ?_, fun q a => ?_, fun i a => ?_⟩) (fun h => absurd hb h)
  · rw [j_u_o _ _ _ (by decide)]
    by_cases e : i = h
    · subst e; rw [j_u_same, j_u_same, fu_s]; exact hv
    · rw [j_u_k _ _ (by omega), j_u_k _ _ (by omega), fu_n e]; exact hs.2 i (by omega)
  · funext i; rw [j_u_o _ _ _ a, j_u_o _ _ _ c]
  · rw [j_u_k _ _ a, j_u_o _ _ _ (by decide)]
  · rw [j_u_o _ _ _ (by decide), j_u_k _ _ (by omega)]
  · funext i; rw [j_u_o _ _ _ a]
  · rw [j_u_k _ _ (by omega)]
/-- negated -/
theorem c50 {b h : Nat} {s : Nat → Vl} (hs : SV I D b h s) (hb : b + h < 256) (h1 : 1 ≤ h) (hq : ∀ I' D', SV I' D' b h (fu s (h - 1) (negV (s (h - 1)))) → FS b I D I' D' → Q none w1 (I', D', RR R)) : j_Call d 50 [.ref 107] w1 (I, D, RR R) 0 0 Q := by
  refine t50 hs.1 hb (by omega) (Nat.zero_le _) (fun h => by omega) (fun _ => hq _ _ ⟨hs.1, fun i hi => ?_⟩ ⟨fun _ _ _ => rfl, fun _ _ => rfl, fun _ _ => rfl, fun q a => ?_, fun i a => ?_⟩)
  · by_cases e : i = h - 1
    · subst e
      obtain ⟨k1, k2, k3, k4⟩ := hs.2 (h - 1) (by omega)
      rw [show b + h - 1 = b + (h - 1) by omega, j_u_same, fu_s]
      exact ⟨k1, fun h0 => by show FP.dneg _ = FP.dneg _; rw [k2 h0], sm_neg k3, k4⟩
    · rw [j_u_k _ _ (by omega), fu_n e]; exact hs.2 i hi
  · funext i; rw [j_u_o _ _ _ a]
  · rw [j_u_k _ _ (by omega)]
/-- picked -/
theorem c51 {b h : Nat} {s : Nat → Vl} (hs : SV I D b h s) (hb : b + h < 255) (h3 : 3 ≤ h) (hq : ∀ I' D', SV I' D' b (h - 2) (fu s (h - 3) (pickV (s (h - 3)) (s (h - 2)) (s (h - 1)))) → FS b I D I' D' → Q none w1 (I', D', RR R)) : j_Call d 51 [.ref 107] w1 (I, D, RR R) 0 0 Q := by
  obtain ⟨a1, a2, a3, a4⟩ := hs.2 (h - 3) (by omega)
  have e3 : b + h - 2 - 1 = b + (h - 3) := by omega
  have e2 : b + h - 2 = b + (h - 2) := by omega
  have e1 : b + h - 2 + 1 = b + (h - 1) := by omega
  have fs : ∀ (x : Int32) (y : UInt64), FS b I D (j_u (j_u I 107 7 (nI (b + h - 2))) 229 (b + h - 2 - 1) x) (j_u D 228 (b + h - 2 - 1) y) := fun x y => ⟨fun q a c => by funext i; rw [j_u_o _ _ _ c, j_u_o _ _ _ a], fun i a => by rw [j_u_o _ _ _ (by decide), j_u_k _ _ a], fun i a => by rw [j_u_k _ _ (by omega), j_u_o _ _ _ (by decide)], fun q a => by funext i; rw [j_u_o _ _ _ a], fun i a => by rw [j_u_k _ _ (by omega)]⟩
  have sv : ∀ j, (j = h - 1 ∨ j = h - 2) → pickV (s (h - 3)) (s (h - 2)) (s (h - 1)) = s j → SV (j_u (j_u I 107 7 (nI (b + h - 2))) 229 (b + h - 2 - 1) (I 229 (b + j))) (j_u D 228 (b + h - 2 - 1) (D 228 (b + j))) b (h - 2) (fu s (h - 3) (pickV (s (h - 3)) (s (h - 2)) (s (h - 1)))) := by
    intro j hj hp
    refine ⟨by rw [j_u_o _ _ _ (by decide), j_u_same, e2], fun i hi => ?_⟩
    by_cases e : i = h - 3
    · subst e
      rw [e3, j_u_same, j_u_same, fu_s, hp]; exact hs.2 j (by omega)
    · rw [j_u_k _ _ (by omega), j_u_k _ _ (by omega), j_u_o _ _ _ (by decide), fu_n e]; exact hs.2 i (by omega)
  refine t51 hs.1 hb (by omega) (Nat.zero_le _) (fun _ w0 hd0 => ?_) (fun _ w0 hd0 => ?_) (fun _ w0 => ?_) (fun h => by omega)
  · rw [e3] at w0 hd0
    have z0 := (nI_z a4).mp (a1.symm.trans w0)
    have hp : pickV (s (h - 3)) (s (h - 2)) (s (h - 1)) = s (h - 1) := by
      unfold pickV
      rw [if_neg (fun q => q z0), ← a2 z0, if_pos hd0]
    rw [e1]
    exact hq _ _ (sv (h - 1) (Or.inl rfl) hp) (fs _ _)
  · rw [e3] at w0 hd0
    have z0 := (nI_z a4).mp (a1.symm.trans w0)
    have hp : pickV (s (h - 3)) (s (h - 2)) (s (h - 1)) = s (h - 2) := by
      unfold pickV
      rw [if_neg (fun q => q z0), ← a2 z0, if_neg (by rw [hd0]; simp)]
    have := hq _ _ (sv (h - 2) (Or.inr rfl) hp) (fs _ _)
    rw [← e2] at this
    exact this
  · rw [e3] at w0
    have z0 : (s (h - 3)).1 ≠ 0 := fun q => w0 (a1.trans ((nI_z a4).mpr q))
    have hp : pickV (s (h - 3)) (s (h - 2)) (s (h - 1)) = s (h - 3) := by unfold pickV; rw [if_pos z0]
    refine hq _ _ ⟨by rw [j_u_same, e2], fun i hi => ?_⟩ ⟨fun q a c => ?_, fun i a => ?_, fun i a => ?_, fun q a => rfl, fun i a => rfl⟩
    · rw [j_u_o _ _ _ (by decide), hp]
      by_cases e : i = h - 3
      · subst e; rw [fu_s]; exact hs.2 _ (by omega)
      · rw [fu_n e]; exact hs.2 i (by omega)
    · funext i; rw [j_u_o _ _ _ a]
    · rw [j_u_k _ _ a]
    · rw [j_u_o _ _ _ (by decide)]
/-- two are worked on -/
theorem c52 {b h a c : Nat} {s : Nat → Vl} (hs : SV I D b h s) (hb : b + h < 256) (h2 : 2 ≤ h) (ha : 3 ≤ a) (ha2 : a ≤ 11) (hc : c < 24) (hd : 1 ≤ d) (hq : ∀ I' D', SV I' D' b (h - 1) (fu s (h - 2) (twoV a c (s (h - 2)) (s (h - 1)))) → FS b I D I' D' → Q none w1 (I', D', RR R)) : j_Call d 52 [.ref 107, .int (nI a), .int (nI c)] w1 (I, D, RR R) 0 0 Q := by
  obtain ⟨a1, a2, a3, a4⟩ := hs.2 (h - 2) (by omega)
  obtain ⟨b1, b2, b3, b4⟩ := hs.2 (h - 1) (by omega)
  have e2 : b + h - 1 - 1 = b + (h - 2) := by omega
  have e1 : b + h - 1 = b + (h - 1) := by omega
  have fs : ∀ (x : Int32) (y : UInt64) (I2 : Nat → Nat → Int32), (I2 = j_u (j_u I 107 7 (nI (b + h - 1))) 229 (b + h - 1 - 1) x ∨ I2 = j_u I 107 7 (nI (b + h - 1))) → ∀ D2, (D2 = D ∨ D2 = j_u D 228 (b + h - 1 - 1) y) → FS b I D I2 D2 := fun x y I2 h D2 h' => by
    refine ⟨fun q q1 q2 => ?_, fun i q1 => ?_, fun i q1 => ?_, fun q q1 => ?_, fun i q1 => ?_⟩
    · rcases h with rfl | rfl
      · funext i; rw [j_u_o _ _ _ q2, j_u_o _ _ _ q1]
      · funext i; rw [j_u_o _ _ _ q1]
    · rcases h with rfl | rfl
      · rw [j_u_o _ _ _ (by decide), j_u_k _ _ q1]
      · rw [j_u_k _ _ q1]
    · rcases h with rfl | rfl
      · rw [j_u_k _ _ (by omega), j_u_o _ _ _ (by decide)]
      · rw [j_u_o _ _ _ (by decide)]
    · rcases h' with rfl | rfl
      · rfl
      · funext i; rw [j_u_o _ _ _ q1]
    · rcases h' with rfl | rfl
      · rfl
      · rw [j_u_k _ _ (by omega)]
  refine s52e hs.1 hb (by omega) (Nat.zero_le _) (fun _ w0 w1' => ?_) (fun _ w0 w1' => ?_) (fun _ w0 => ?_) (fun h => by omega)
  · rw [e2] at w0 w1'
    rw [e1, j_u_k _ _ (by omega), j_u_o _ _ _ (by decide)] at w1'
    have z0 := (nI_z a4).mp (a1.symm.trans w0)
    have z1 := (nI_z b4).mp (b1.symm.trans w1')
    have eu : s (h - 2) = (0, D 228 (b + (h - 2))) := Prod.ext z0 (a2 z0).symm
    have ev : s (h - 1) = (0, D 228 (b + (h - 1))) := Prod.ext z1 (b2 z1).symm
    rw [e2, e1]
    have ejI : j_u (j_u I 107 7 (nI (b + (h - 1)))) 229 (b + (h - 2)) (I 229 (b + (h - 1))) = j_u I 107 7 (nI (b + (h - 1))) := by
      refine ju_id ?_
      rw [j_u_o _ _ _ (by decide), w0, w1']
    rw [ejI]
    refine c52b (p := b + (h - 1)) ha ha2 a3 b3 (by rw [j_u_same]) (by omega) (by omega) hc hd (fun g1 g2 => ?_) (fun g1 g2 => ?_)
    · rw [← eu, ← ev] at g1 g2 ⊢
      refine hq _ _ ⟨by rw [j_u_o _ _ _ (by decide), j_u_same], fun i hi => ?_⟩ (fs (nI (twoV a c (s (h - 2)) (s (h - 1))).1) FP.dconst0 _ (Or.inl (by rw [e1])) _ (Or.inl rfl))
      by_cases e : i = h - 2
      · subst e
        rw [show b + (h - 1) - 1 = b + (h - 2) by omega, j_u_same, fu_s]
        exact ⟨rfl, fun q => absurd q g1, a3, g2⟩
      · rw [j_u_k _ _ (by omega), j_u_o _ _ _ (by decide), fu_n e]; exact hs.2 i (by omega)
    · rw [← eu, ← ev] at g1 g2 ⊢
      refine hq _ _ ⟨by rw [j_u_same], fun i hi => ?_⟩ (fs 0 (twoV a c (s (h - 2)) (s (h - 1))).2 _ (Or.inr (by rw [e1])) _ (Or.inr (by rw [e1])))
      rw [j_u_o _ _ _ (by decide)]
      by_cases e : i = h - 2
      · subst e
        rw [show b + (h - 1) - 1 = b + (h - 2) by omega, j_u_same, fu_s]
        exact ⟨by rw [w0, g1]; rfl, fun _ => rfl, g2, by omega⟩
      · rw [j_u_k _ _ (by omega), fu_n e]; exact hs.2 i (by omega)
  · rw [e2] at w0 w1'
    rw [e1, j_u_k _ _ (by omega), j_u_o _ _ _ (by decide)] at w1'
    have z0 := (nI_z a4).mp (a1.symm.trans w0)
    have z1 : (s (h - 1)).1 ≠ 0 := fun q => w1' (b1.trans ((nI_z b4).mpr q))
    have et : twoV a c (s (h - 2)) (s (h - 1)) = s (h - 1) := by unfold twoV; rw [if_neg (fun q => q z0), if_pos z1]
    refine hq _ _ ⟨by rw [j_u_o _ _ _ (by decide), j_u_same, e1], fun i hi => ?_⟩ (fs _ FP.dconst0 _ (Or.inl rfl) _ (Or.inl rfl))
    rw [et]
    by_cases e : i = h - 2
    · subst e
      rw [e2, j_u_same, fu_s, e1]
      exact ⟨b1, fun q => absurd q z1, a3, b4⟩
    · rw [j_u_k _ _ (by omega), j_u_o _ _ _ (by decide), fu_n e]; exact hs.2 i (by omega)
  · rw [e2] at w0
    have z0 : (s (h - 2)).1 ≠ 0 := fun q => w0 (a1.trans ((nI_z a4).mpr q))
    have et : twoV a c (s (h - 2)) (s (h - 1)) = s (h - 2) := by unfold twoV; rw [if_pos z0]
    refine hq _ _ ⟨by rw [j_u_same, e1], fun i hi => ?_⟩ (fs 0 FP.dconst0 _ (Or.inr rfl) _ (Or.inl rfl))
    rw [j_u_o _ _ _ (by decide), et]
    by_cases e : i = h - 2
    · subst e; rw [fu_s]; exact hs.2 _ (by omega)
    · rw [fu_n e]; exact hs.2 i (by omega)
end SK
