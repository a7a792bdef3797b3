/-! the reference: its heap -/
set_option maxRecDepth 10000 in
set_option maxHeartbeats 4000000 in
theorem u193 {d : Nat} {I : Nat → Nat → Int32} {D : Nat → Nat → UInt64} {R : Nat → Nat → Option Nat} {Q : j_Po} {x : UInt64} {e : Int32} {c : Int32} {p : Nat} (h26 : I 260 26 = nI p) (hp : p < 4800) (hd : 0 ≤ d)
    (v1 : (¬ e = 0) → Q none w1 ((j_u (j_u (j_u I 420 p e) 421 p c) 260 26 (nI (p + 1))), (j_u D 419 p x), RR R))
    (v2 : (e = 0) → Q none w1 ((j_u (j_u (j_u I 420 p e) 421 p (-1)) 260 26 (nI (p + 1))), (j_u D 419 p x), RR R)) : j_Call d 193 [.ref 260, .double x, .int e, .int c] w1 (I, D, RR R) 0 0 Q := by
  refine q_enter (L := [some (.ref 260), some (.double x), none, some (.int e), some (.int c)]) j_m193 (Nat.le_of_ble_eq_true rfl) rfl ?_
  refine q_aload_n d193_0 rfl ?_
  refine q_getR (x := 419) d193_1 (fs10_93 193 rfl) rfl (lt_w1 rfl) sh260 (rs260_27 R) (by decide) ?_
  refine q_aload_n d193_4 rfl ?_
  refine q_getI d193_5 (fs10_243 193 rfl) rfl (lt_w1 rfl) sh260 ?_
  refine r_int (y := (nI p)) (show I 260 26 = (nI p) from h26) ?_
  refine q_dload_n d193_8 rfl ?_
  refine q_dastore (a := p) d193_9 (lt_w1 rfl) sh419 rfl (by omega) ?_
  refine q_aload_n d193_10 rfl ?_
  refine q_getR (x := 420) d193_11 (fs10_96 193 rfl) rfl (lt_w1 rfl) sh260 (rs260_28 R) (by decide) ?_
  refine q_aload_n d193_14 rfl ?_
  refine q_getI d193_15 (fs10_243 193 rfl) rfl (lt_w1 rfl) sh260 ?_
  refine r_int (y := (nI p)) (show I 260 26 = (nI p) from h26) ?_
  refine q_iload_n d193_18 rfl ?_
  refine q_iastore (a := p) d193_19 (lt_w1 rfl) sh420 rfl (by omega) ?_
  refine q_aload_n d193_20 rfl ?_
  refine q_getR (x := 421) d193_21 (fs10_99 193 rfl) rfl (lt_w1 rfl) sh260 (rs260_29 R) (by decide) ?_
  refine q_aload_n d193_24 rfl ?_
  refine q_getI d193_25 (fs10_243 193 rfl) rfl (lt_w1 rfl) sh260 ?_
  refine r_int (y := (nI p)) (show (j_u I 420 p e) 260 26 = (nI p) from ((j_u_o _ _ _ (by decide)).trans h26)) ?_
  refine q_iload_n d193_28 rfl ?_
  refine q_if_ne (tgt := 36) d193_29 rfl (fun h1t => ?_) (fun h1f => ?_)
  ·
    refine q_iload d193_36 rfl ?_
    refine q_iastore (a := p) d193_38 (lt_w1 rfl) sh421 rfl (by omega) ?_
    refine q_aload_n d193_39 rfl ?_
    refine q_dup rfl d193_40 ?_
    refine q_getI d193_41 (fs10_243 193 rfl) rfl (lt_w1 rfl) sh260 ?_
    refine r_int (y := (nI p)) (show (j_u (j_u I 420 p e) 421 p c) 260 26 = (nI p) from (((j_u_o _ _ _ (by decide)).trans (j_u_o _ _ _ (by decide))).trans h26)) ?_
    refine q_iconst (v := 1) (by decide) d193_44 ?_
    refine q_iadd d193_45 ?_
    refine r_int (y := (nI (p + 1))) (nI_add p 1) ?_
    refine q_putI d193_46 (fs10_243 193 rfl) (Or.inl rfl) rfl (lt_w1 rfl) sh260 ?_
    exact q_ret d193_49 rfl (Nat.le_refl _) (Nat.le_refl _) (v1 h1t)
  ·
    refine q_iconst (v := (-1)) (by decide) d193_32 ?_
    refine q_goto (tgt := 38) d193_33 rfl ?_
    refine q_iastore (a := p) d193_38 (lt_w1 rfl) sh421 rfl (by omega) ?_
    refine q_aload_n d193_39 rfl ?_
    refine q_dup rfl d193_40 ?_
    refine q_getI d193_41 (fs10_243 193 rfl) rfl (lt_w1 rfl) sh260 ?_
    refine r_int (y := (nI p)) (show (j_u (j_u I 420 p e) 421 p (-1)) 260 26 = (nI p) from (((j_u_o _ _ _ (by decide)).trans (j_u_o _ _ _ (by decide))).trans h26)) ?_
    refine q_iconst (v := 1) (by decide) d193_44 ?_
    refine q_iadd d193_45 ?_
    refine r_int (y := (nI (p + 1))) (nI_add p 1) ?_
    refine q_putI d193_46 (fs10_243 193 rfl) (Or.inl rfl) rfl (lt_w1 rfl) sh260 ?_
    exact q_ret d193_49 rfl (Nat.le_refl _) (Nat.le_refl _) (v2 h1f)

set_option maxRecDepth 10000 in
set_option maxHeartbeats 4000000 in
theorem u196 {d : Nat} {I : Nat → Nat → Int32} {D : Nat → Nat → UInt64} {R : Nat → Nat → Option Nat} {Q : j_Po}  {p : Nat} (h26 : I 260 26 = nI p) (hp : p < 4799) (hp3 : 3 ≤ p) (hd : 0 ≤ d)
    (v1 : ((I 420 ((p - 2) - 1)) = 0) → (deq (D 419 ((p - 2) - 1)) FP.dconst0 = true) → Q none w1 ((j_u (j_u (j_u I 260 26 (nI (p - 2))) 420 ((p - 2) - 1) (I 420 ((p - 2) + 1))) 421 ((p - 2) - 1) (I 421 ((p - 2) + 1))), (j_u D 419 ((p - 2) - 1) (D 419 ((p - 2) + 1))), RR R))
    (v2 : ((I 420 ((p - 2) - 1)) = 0) → (deq (D 419 ((p - 2) - 1)) FP.dconst0 = false) → Q none w1 ((j_u (j_u (j_u I 260 26 (nI (p - 2))) 420 ((p - 2) - 1) (I 420 (p - 2))) 421 ((p - 2) - 1) (I 421 (p - 2))), (j_u D 419 ((p - 2) - 1) (D 419 (p - 2))), RR R))
    (v3 : (¬ (I 420 ((p - 2) - 1)) = 0) → Q none w1 ((j_u (j_u (j_u I 260 26 (nI (p - 2))) 420 ((p - 2) - 1) (I 420 ((p - 2) - 1))) 421 ((p - 2) - 1) (I 421 ((p - 2) - 1))), (j_u D 419 ((p - 2) - 1) (D 419 ((p - 2) - 1))), RR R)) : j_Call d 196 [.ref 260] w1 (I, D, RR R) 0 0 Q := by
  refine q_enter (L := [some (.ref 260), none]) j_m196 (Nat.le_of_ble_eq_true rfl) rfl ?_
  refine q_aload_n d196_0 rfl ?_
  refine q_dup rfl d196_1 ?_
  refine q_getI d196_2 (fs10_243 196 rfl) rfl (lt_w1 rfl) sh260 ?_
  refine r_int (y := (nI p)) (show I 260 26 = (nI p) from h26) ?_
  refine q_iconst (v := 2) (by decide) d196_5 ?_
  refine q_isub d196_6 ?_
  refine r_int (y := (nI (p - 2))) (pk_sub (b := 2) (by omega)) ?_
  refine q_putI d196_7 (fs10_243 196 rfl) (Or.inl rfl) rfl (lt_w1 rfl) sh260 ?_
  refine q_aload_n d196_10 rfl ?_
  refine q_getR (x := 420) d196_11 (fs10_96 196 rfl) rfl (lt_w1 rfl) sh260 (rs260_28 R) (by decide) ?_
  refine q_aload_n d196_14 rfl ?_
  refine q_getI d196_15 (fs10_243 196 rfl) rfl (lt_w1 rfl) sh260 ?_
  refine r_int (y := (nI (p - 2))) (show (j_u I 260 26 (nI (p - 2))) 260 26 = (nI (p - 2)) from (j_u_same _ _ _ _)) ?_
  refine q_iconst (v := 1) (by decide) d196_18 ?_
  refine q_isub d196_19 ?_
  refine r_int (y := (nI ((p - 2) - 1))) (pk_sub (b := 1) (by omega)) ?_
  refine q_iaload (a := ((p - 2) - 1)) d196_20 (lt_w1 rfl) sh420 rfl (by omega) ?_
  refine r_int (y := (I 420 ((p - 2) - 1))) (show (j_u I 260 26 (nI (p - 2))) 420 ((p - 2) - 1) = (I 420 ((p - 2) - 1)) from (j_u_o _ _ _ (by decide))) ?_
  refine q_if_eq (tgt := 33) d196_21 rfl (fun h1t => ?_) (fun h1f => ?_)
  ·
    refine q_aload_n d196_33 rfl ?_
    refine q_getR (x := 419) d196_34 (fs10_93 196 rfl) rfl (lt_w1 rfl) sh260 (rs260_27 R) (by decide) ?_
    refine q_aload_n d196_37 rfl ?_
    refine q_getI d196_38 (fs10_243 196 rfl) rfl (lt_w1 rfl) sh260 ?_
    refine r_int (y := (nI (p - 2))) (show (j_u I 260 26 (nI (p - 2))) 260 26 = (nI (p - 2)) from (j_u_same _ _ _ _)) ?_
    refine q_iconst (v := 1) (by decide) d196_41 ?_
    refine q_isub d196_42 ?_
    refine r_int (y := (nI ((p - 2) - 1))) (pk_sub (b := 1) (by omega)) ?_
    refine q_daload (a := ((p - 2) - 1)) d196_43 (lt_w1 rfl) sh419 rfl (by omega) ?_
    refine q_dconst0 d196_44 ?_
    refine q_dcmp d196_45 ?_
    refine q_if_eq (tgt := 56) d196_46 rfl (fun h2t => ?_) (fun h2f => ?_)
    ·
      have h2tc : deq (D 419 ((p - 2) - 1)) FP.dconst0 = true := dc_l_eq_t h2t
      refine q_aload_n d196_56 rfl ?_
      refine q_getI d196_57 (fs10_243 196 rfl) rfl (lt_w1 rfl) sh260 ?_
      refine r_int (y := (nI (p - 2))) (show (j_u I 260 26 (nI (p - 2))) 260 26 = (nI (p - 2)) from (j_u_same _ _ _ _)) ?_
      refine q_iconst (v := 1) (by decide) d196_60 ?_
      refine q_iadd d196_61 ?_
      refine r_int (y := (nI ((p - 2) + 1))) (nI_add (p - 2) 1) ?_
      refine q_istore_n (L' := [some (.ref 260), some (.int (nI ((p - 2) + 1)))]) d196_62 (Nat.le_of_ble_eq_true rfl) rfl ?_
      refine q_aload_n d196_63 rfl ?_
      refine q_getR (x := 419) d196_64 (fs10_93 196 rfl) rfl (lt_w1 rfl) sh260 (rs260_27 R) (by decide) ?_
      refine q_aload_n d196_67 rfl ?_
      refine q_getI d196_68 (fs10_243 196 rfl) rfl (lt_w1 rfl) sh260 ?_
      refine r_int (y := (nI (p - 2))) (show (j_u I 260 26 (nI (p - 2))) 260 26 = (nI (p - 2)) from (j_u_same _ _ _ _)) ?_
      refine q_iconst (v := 1) (by decide) d196_71 ?_
      refine q_isub d196_72 ?_
      refine r_int (y := (nI ((p - 2) - 1))) (pk_sub (b := 1) (by omega)) ?_
      refine q_aload_n d196_73 rfl ?_
      refine q_getR (x := 419) d196_74 (fs10_93 196 rfl) rfl (lt_w1 rfl) sh260 (rs260_27 R) (by decide) ?_
      refine q_iload_n d196_77 rfl ?_
      refine q_daload (a := ((p - 2) + 1)) d196_78 (lt_w1 rfl) sh419 rfl (by omega) ?_
      refine q_dastore (a := ((p - 2) - 1)) d196_79 (lt_w1 rfl) sh419 rfl (by omega) ?_
      refine q_aload_n d196_80 rfl ?_
      refine q_getR (x := 420) d196_81 (fs10_96 196 rfl) rfl (lt_w1 rfl) sh260 (rs260_28 R) (by decide) ?_
      refine q_aload_n d196_84 rfl ?_
      refine q_getI d196_85 (fs10_243 196 rfl) rfl (lt_w1 rfl) sh260 ?_
      refine r_int (y := (nI (p - 2))) (show (j_u I 260 26 (nI (p - 2))) 260 26 = (nI (p - 2)) from (j_u_same _ _ _ _)) ?_
      refine q_iconst (v := 1) (by decide) d196_88 ?_
      refine q_isub d196_89 ?_
      refine r_int (y := (nI ((p - 2) - 1))) (pk_sub (b := 1) (by omega)) ?_
      refine q_aload_n d196_90 rfl ?_
      refine q_getR (x := 420) d196_91 (fs10_96 196 rfl) rfl (lt_w1 rfl) sh260 (rs260_28 R) (by decide) ?_
      refine q_iload_n d196_94 rfl ?_
      refine q_iaload (a := ((p - 2) + 1)) d196_95 (lt_w1 rfl) sh420 rfl (by omega) ?_
      refine r_int (y := (I 420 ((p - 2) + 1))) (show (j_u I 260 26 (nI (p - 2))) 420 ((p - 2) + 1) = (I 420 ((p - 2) + 1)) from (j_u_o _ _ _ (by decide))) ?_
      refine q_iastore (a := ((p - 2) - 1)) d196_96 (lt_w1 rfl) sh420 rfl (by omega) ?_
      refine q_aload_n d196_97 rfl ?_
      refine q_getR (x := 421) d196_98 (fs10_99 196 rfl) rfl (lt_w1 rfl) sh260 (rs260_29 R) (by decide) ?_
      refine q_aload_n d196_101 rfl ?_
      refine q_getI d196_102 (fs10_243 196 rfl) rfl (lt_w1 rfl) sh260 ?_
      refine r_int (y := (nI (p - 2))) (show (j_u (j_u I 260 26 (nI (p - 2))) 420 ((p - 2) - 1) (I 420 ((p - 2) + 1))) 260 26 = (nI (p - 2)) from ((j_u_o _ _ _ (by decide)).trans (j_u_same _ _ _ _))) ?_
      refine q_iconst (v := 1) (by decide) d196_105 ?_
      refine q_isub d196_106 ?_
      refine r_int (y := (nI ((p - 2) - 1))) (pk_sub (b := 1) (by omega)) ?_
      refine q_aload_n d196_107 rfl ?_
      refine q_getR (x := 421) d196_108 (fs10_99 196 rfl) rfl (lt_w1 rfl) sh260 (rs260_29 R) (by decide) ?_
      refine q_iload_n d196_111 rfl ?_
      refine q_iaload (a := ((p - 2) + 1)) d196_112 (lt_w1 rfl) sh421 rfl (by omega) ?_
      refine r_int (y := (I 421 ((p - 2) + 1))) (show (j_u (j_u I 260 26 (nI (p - 2))) 420 ((p - 2) - 1) (I 420 ((p - 2) + 1))) 421 ((p - 2) + 1) = (I 421 ((p - 2) + 1)) from ((j_u_o _ _ _ (by decide)).trans (j_u_o _ _ _ (by decide)))) ?_
      refine q_iastore (a := ((p - 2) - 1)) d196_113 (lt_w1 rfl) sh421 rfl (by omega) ?_
      exact q_ret d196_114 rfl (Nat.le_refl _) (Nat.le_refl _) (v1 h1t h2tc)
    ·
      have h2fc : deq (D 419 ((p - 2) - 1)) FP.dconst0 = false := dc_l_eq_f h2f
      refine q_aload_n d196_49 rfl ?_
      refine q_getI d196_50 (fs10_243 196 rfl) rfl (lt_w1 rfl) sh260 ?_
      refine r_int (y := (nI (p - 2))) (show (j_u I 260 26 (nI (p - 2))) 260 26 = (nI (p - 2)) from (j_u_same _ _ _ _)) ?_
      refine q_goto (tgt := 62) d196_53 rfl ?_
      refine q_istore_n (L' := [some (.ref 260), some (.int (nI (p - 2)))]) d196_62 (Nat.le_of_ble_eq_true rfl) rfl ?_
      refine q_aload_n d196_63 rfl ?_
      refine q_getR (x := 419) d196_64 (fs10_93 196 rfl) rfl (lt_w1 rfl) sh260 (rs260_27 R) (by decide) ?_
      refine q_aload_n d196_67 rfl ?_
      refine q_getI d196_68 (fs10_243 196 rfl) rfl (lt_w1 rfl) sh260 ?_
      refine r_int (y := (nI (p - 2))) (show (j_u I 260 26 (nI (p - 2))) 260 26 = (nI (p - 2)) from (j_u_same _ _ _ _)) ?_
      refine q_iconst (v := 1) (by decide) d196_71 ?_
      refine q_isub d196_72 ?_
      refine r_int (y := (nI ((p - 2) - 1))) (pk_sub (b := 1) (by omega)) ?_
      refine q_aload_n d196_73 rfl ?_
      refine q_getR (x := 419) d196_74 (fs10_93 196 rfl) rfl (lt_w1 rfl) sh260 (rs260_27 R) (by decide) ?_
      refine q_iload_n d196_77 rfl ?_
      refine q_daload (a := (p - 2)) d196_78 (lt_w1 rfl) sh419 rfl (by omega) ?_
      refine q_dastore (a := ((p - 2) - 1)) d196_79 (lt_w1 rfl) sh419 rfl (by omega) ?_
      refine q_aload_n d196_80 rfl ?_
      refine q_getR (x := 420) d196_81 (fs10_96 196 rfl) rfl (lt_w1 rfl) sh260 (rs260_28 R) (by decide) ?_
      refine q_aload_n d196_84 rfl ?_
      refine q_getI d196_85 (fs10_243 196 rfl) rfl (lt_w1 rfl) sh260 ?_
      refine r_int (y := (nI (p - 2))) (show (j_u I 260 26 (nI (p - 2))) 260 26 = (nI (p - 2)) from (j_u_same _ _ _ _)) ?_
      refine q_iconst (v := 1) (by decide) d196_88 ?_
      refine q_isub d196_89 ?_
      refine r_int (y := (nI ((p - 2) - 1))) (pk_sub (b := 1) (by omega)) ?_
      refine q_aload_n d196_90 rfl ?_
      refine q_getR (x := 420) d196_91 (fs10_96 196 rfl) rfl (lt_w1 rfl) sh260 (rs260_28 R) (by decide) ?_
      refine q_iload_n d196_94 rfl ?_
      refine q_iaload (a := (p - 2)) d196_95 (lt_w1 rfl) sh420 rfl (by omega) ?_
      refine r_int (y := (I 420 (p - 2))) (show (j_u I 260 26 (nI (p - 2))) 420 (p - 2) = (I 420 (p - 2)) from (j_u_o _ _ _ (by decide))) ?_
      refine q_iastore (a := ((p - 2) - 1)) d196_96 (lt_w1 rfl) sh420 rfl (by omega) ?_
      refine q_aload_n d196_97 rfl ?_
      refine q_getR (x := 421) d196_98 (fs10_99 196 rfl) rfl (lt_w1 rfl) sh260 (rs260_29 R) (by decide) ?_
      refine q_aload_n d196_101 rfl ?_
      refine q_getI d196_102 (fs10_243 196 rfl) rfl (lt_w1 rfl) sh260 ?_
      refine r_int (y := (nI (p - 2))) (show (j_u (j_u I 260 26 (nI (p - 2))) 420 ((p - 2) - 1) (I 420 (p - 2))) 260 26 = (nI (p - 2)) from ((j_u_o _ _ _ (by decide)).trans (j_u_same _ _ _ _))) ?_
      refine q_iconst (v := 1) (by decide) d196_105 ?_
      refine q_isub d196_106 ?_
      refine r_int (y := (nI ((p - 2) - 1))) (pk_sub (b := 1) (by omega)) ?_
      refine q_aload_n d196_107 rfl ?_
      refine q_getR (x := 421) d196_108 (fs10_99 196 rfl) rfl (lt_w1 rfl) sh260 (rs260_29 R) (by decide) ?_
      refine q_iload_n d196_111 rfl ?_
      refine q_iaload (a := (p - 2)) d196_112 (lt_w1 rfl) sh421 rfl (by omega) ?_
      refine r_int (y := (I 421 (p - 2))) (show (j_u (j_u I 260 26 (nI (p - 2))) 420 ((p - 2) - 1) (I 420 (p - 2))) 421 (p - 2) = (I 421 (p - 2)) from ((j_u_o _ _ _ (by decide)).trans (j_u_o _ _ _ (by decide)))) ?_
      refine q_iastore (a := ((p - 2) - 1)) d196_113 (lt_w1 rfl) sh421 rfl (by omega) ?_
      exact q_ret d196_114 rfl (Nat.le_refl _) (Nat.le_refl _) (v2 h1t h2fc)
  ·
    refine q_aload_n d196_24 rfl ?_
    refine q_getI d196_25 (fs10_243 196 rfl) rfl (lt_w1 rfl) sh260 ?_
    refine r_int (y := (nI (p - 2))) (show (j_u I 260 26 (nI (p - 2))) 260 26 = (nI (p - 2)) from (j_u_same _ _ _ _)) ?_
    refine q_iconst (v := 1) (by decide) d196_28 ?_
    refine q_isub d196_29 ?_
    refine r_int (y := (nI ((p - 2) - 1))) (pk_sub (b := 1) (by omega)) ?_
    refine q_goto (tgt := 62) d196_30 rfl ?_
    refine q_istore_n (L' := [some (.ref 260), some (.int (nI ((p - 2) - 1)))]) d196_62 (Nat.le_of_ble_eq_true rfl) rfl ?_
    refine q_aload_n d196_63 rfl ?_
    refine q_getR (x := 419) d196_64 (fs10_93 196 rfl) rfl (lt_w1 rfl) sh260 (rs260_27 R) (by decide) ?_
    refine q_aload_n d196_67 rfl ?_
    refine q_getI d196_68 (fs10_243 196 rfl) rfl (lt_w1 rfl) sh260 ?_
    refine r_int (y := (nI (p - 2))) (show (j_u I 260 26 (nI (p - 2))) 260 26 = (nI (p - 2)) from (j_u_same _ _ _ _)) ?_
    refine q_iconst (v := 1) (by decide) d196_71 ?_
    refine q_isub d196_72 ?_
    refine r_int (y := (nI ((p - 2) - 1))) (pk_sub (b := 1) (by omega)) ?_
    refine q_aload_n d196_73 rfl ?_
    refine q_getR (x := 419) d196_74 (fs10_93 196 rfl) rfl (lt_w1 rfl) sh260 (rs260_27 R) (by decide) ?_
    refine q_iload_n d196_77 rfl ?_
    refine q_daload (a := ((p - 2) - 1)) d196_78 (lt_w1 rfl) sh419 rfl (by omega) ?_
    refine q_dastore (a := ((p - 2) - 1)) d196_79 (lt_w1 rfl) sh419 rfl (by omega) ?_
    refine q_aload_n d196_80 rfl ?_
    refine q_getR (x := 420) d196_81 (fs10_96 196 rfl) rfl (lt_w1 rfl) sh260 (rs260_28 R) (by decide) ?_
    refine q_aload_n d196_84 rfl ?_
    refine q_getI d196_85 (fs10_243 196 rfl) rfl (lt_w1 rfl) sh260 ?_
    refine r_int (y := (nI (p - 2))) (show (j_u I 260 26 (nI (p - 2))) 260 26 = (nI (p - 2)) from (j_u_same _ _ _ _)) ?_
    refine q_iconst (v := 1) (by decide) d196_88 ?_
    refine q_isub d196_89 ?_
    refine r_int (y := (nI ((p - 2) - 1))) (pk_sub (b := 1) (by omega)) ?_
    refine q_aload_n d196_90 rfl ?_
    refine q_getR (x := 420) d196_91 (fs10_96 196 rfl) rfl (lt_w1 rfl) sh260 (rs260_28 R) (by decide) ?_
    refine q_iload_n d196_94 rfl ?_
    refine q_iaload (a := ((p - 2) - 1)) d196_95 (lt_w1 rfl) sh420 rfl (by omega) ?_
    refine r_int (y := (I 420 ((p - 2) - 1))) (show (j_u I 260 26 (nI (p - 2))) 420 ((p - 2) - 1) = (I 420 ((p - 2) - 1)) from (j_u_o _ _ _ (by decide))) ?_
    refine q_iastore (a := ((p - 2) - 1)) d196_96 (lt_w1 rfl) sh420 rfl (by omega) ?_
    refine q_aload_n d196_97 rfl ?_
    refine q_getR (x := 421) d196_98 (fs10_99 196 rfl) rfl (lt_w1 rfl) sh260 (rs260_29 R) (by decide) ?_
    refine q_aload_n d196_101 rfl ?_
    refine q_getI d196_102 (fs10_243 196 rfl) rfl (lt_w1 rfl) sh260 ?_
    refine r_int (y := (nI (p - 2))) (show (j_u (j_u I 260 26 (nI (p - 2))) 420 ((p - 2) - 1) (I 420 ((p - 2) - 1))) 260 26 = (nI (p - 2)) from ((j_u_o _ _ _ (by decide)).trans (j_u_same _ _ _ _))) ?_
    refine q_iconst (v := 1) (by decide) d196_105 ?_
    refine q_isub d196_106 ?_
    refine r_int (y := (nI ((p - 2) - 1))) (pk_sub (b := 1) (by omega)) ?_
    refine q_aload_n d196_107 rfl ?_
    refine q_getR (x := 421) d196_108 (fs10_99 196 rfl) rfl (lt_w1 rfl) sh260 (rs260_29 R) (by decide) ?_
    refine q_iload_n d196_111 rfl ?_
    refine q_iaload (a := ((p - 2) - 1)) d196_112 (lt_w1 rfl) sh421 rfl (by omega) ?_
    refine r_int (y := (I 421 ((p - 2) - 1))) (show (j_u (j_u I 260 26 (nI (p - 2))) 420 ((p - 2) - 1) (I 420 ((p - 2) - 1))) 421 ((p - 2) - 1) = (I 421 ((p - 2) - 1)) from ((j_u_o _ _ _ (by decide)).trans (j_u_o _ _ _ (by decide)))) ?_
    refine q_iastore (a := ((p - 2) - 1)) d196_113 (lt_w1 rfl) sh421 rfl (by omega) ?_
    exact q_ret d196_114 rfl (Nat.le_refl _) (Nat.le_refl _) (v3 h1f)

set_option maxRecDepth 10000 in
set_option maxHeartbeats 4000000 in
theorem u197e {d : Nat} {I : Nat → Nat → Int32} {D : Nat → Nat → UInt64} {R : Nat → Nat → Option Nat} {Q : j_Po} {c : Nat} {a : Nat} {p : Nat} (h26 : I 260 26 = nI p) (hp : p < 4800) (hp2 : 2 ≤ p) (hd : 0 ≤ d)
    (v1 : ((I 420 ((p - 1) - 1)) = 0) → ((I 420 (p - 1)) = 0) → j_W 197 d 0 0 0 0 89 [some (.ref 260), some (.int (nI c)), some (.int (nI a)), some (.int (nI ((p - 1) - 1))), some (.double (D 419 ((p - 1) - 1))), none, some (.double (D 419 (p - 1))), none, none, none] [] w1 ((j_u I 260 26 (nI (p - 1))), D, RR R) Q)
    (v2 : ((I 420 ((p - 1) - 1)) = 0) → (¬ (I 420 (p - 1)) = 0) → Q none w1 ((j_u (j_u (j_u I 260 26 (nI (p - 1))) 420 ((p - 1) - 1) (I 420 (p - 1))) 421 ((p - 1) - 1) (I 421 (p - 1))), D, RR R))
    (v3 : (¬ (I 420 ((p - 1) - 1)) = 0) → Q none w1 ((j_u I 260 26 (nI (p - 1))), D, RR R)) : j_Call d 197 [.ref 260, .int (nI c), .int (nI a)] w1 (I, D, RR R) 0 0 Q := by
  refine q_enter (L := [some (.ref 260), some (.int (nI c)), some (.int (nI a)), none, none, none, none, none, none, none]) j_m197 (Nat.le_of_ble_eq_true rfl) rfl ?_
  refine q_aload_n d197_0 rfl ?_
  refine q_dup rfl d197_1 ?_
  refine q_getI d197_2 (fs10_243 197 rfl) rfl (lt_w1 rfl) sh260 ?_
  refine r_int (y := (nI p)) (show I 260 26 = (nI p) from h26) ?_
  refine q_iconst (v := 1) (by decide) d197_5 ?_
  refine q_isub d197_6 ?_
  refine r_int (y := (nI (p - 1))) (pk_sub (b := 1) (by omega)) ?_
  refine q_putI d197_7 (fs10_243 197 rfl) (Or.inl rfl) rfl (lt_w1 rfl) sh260 ?_
  refine q_aload_n d197_10 rfl ?_
  refine q_getI d197_11 (fs10_243 197 rfl) rfl (lt_w1 rfl) sh260 ?_
  refine r_int (y := (nI (p - 1))) (show (j_u I 260 26 (nI (p - 1))) 260 26 = (nI (p - 1)) from (j_u_same _ _ _ _)) ?_
  refine q_iconst (v := 1) (by decide) d197_14 ?_
  refine q_isub d197_15 ?_
  refine r_int (y := (nI ((p - 1) - 1))) (pk_sub (b := 1) (by omega)) ?_
  refine q_istore_n (L' := [some (.ref 260), some (.int (nI c)), some (.int (nI a)), some (.int (nI ((p - 1) - 1))), none, none, none, none, none, none]) d197_16 (Nat.le_of_ble_eq_true rfl) rfl ?_
  refine q_aload_n d197_17 rfl ?_
  refine q_getR (x := 420) d197_18 (fs10_96 197 rfl) rfl (lt_w1 rfl) sh260 (rs260_28 R) (by decide) ?_
  refine q_iload_n d197_21 rfl ?_
  refine q_iaload (a := ((p - 1) - 1)) d197_22 (lt_w1 rfl) sh420 rfl (by omega) ?_
  refine r_int (y := (I 420 ((p - 1) - 1))) (show (j_u I 260 26 (nI (p - 1))) 420 ((p - 1) - 1) = (I 420 ((p - 1) - 1)) from (j_u_o _ _ _ (by decide))) ?_
  refine q_if_eq (tgt := 27) d197_23 rfl (fun h1t => ?_) (fun h1f => ?_)
  ·
    refine q_aload_n d197_27 rfl ?_
    refine q_getR (x := 420) d197_28 (fs10_96 197 rfl) rfl (lt_w1 rfl) sh260 (rs260_28 R) (by decide) ?_
    refine q_aload_n d197_31 rfl ?_
    refine q_getI d197_32 (fs10_243 197 rfl) rfl (lt_w1 rfl) sh260 ?_
    refine r_int (y := (nI (p - 1))) (show (j_u I 260 26 (nI (p - 1))) 260 26 = (nI (p - 1)) from (j_u_same _ _ _ _)) ?_
    refine q_iaload (a := (p - 1)) d197_35 (lt_w1 rfl) sh420 rfl (by omega) ?_
    refine r_int (y := (I 420 (p - 1))) (show (j_u I 260 26 (nI (p - 1))) 420 (p - 1) = (I 420 (p - 1)) from (j_u_o _ _ _ (by decide))) ?_
    refine q_if_eq (tgt := 70) d197_36 rfl (fun h2t => ?_) (fun h2f => ?_)
    ·
      refine q_aload_n d197_70 rfl ?_
      refine q_getR (x := 419) d197_71 (fs10_93 197 rfl) rfl (lt_w1 rfl) sh260 (rs260_27 R) (by decide) ?_
      refine q_iload_n d197_74 rfl ?_
      refine q_daload (a := ((p - 1) - 1)) d197_75 (lt_w1 rfl) sh419 rfl (by omega) ?_
      refine q_dstore (L' := [some (.ref 260), some (.int (nI c)), some (.int (nI a)), some (.int (nI ((p - 1) - 1))), some (.double (D 419 ((p - 1) - 1))), none, none, none, none, none]) d197_76 (Nat.le_of_ble_eq_true rfl) rfl ?_
      refine q_aload_n d197_78 rfl ?_
      refine q_getR (x := 419) d197_79 (fs10_93 197 rfl) rfl (lt_w1 rfl) sh260 (rs260_27 R) (by decide) ?_
      refine q_aload_n d197_82 rfl ?_
      refine q_getI d197_83 (fs10_243 197 rfl) rfl (lt_w1 rfl) sh260 ?_
      refine r_int (y := (nI (p - 1))) (show (j_u I 260 26 (nI (p - 1))) 260 26 = (nI (p - 1)) from (j_u_same _ _ _ _)) ?_
      refine q_daload (a := (p - 1)) d197_86 (lt_w1 rfl) sh419 rfl (by omega) ?_
      refine q_dstore (L' := [some (.ref 260), some (.int (nI c)), some (.int (nI a)), some (.int (nI ((p - 1) - 1))), some (.double (D 419 ((p - 1) - 1))), none, some (.double (D 419 (p - 1))), none, none, none]) d197_87 (Nat.le_of_ble_eq_true rfl) rfl ?_
      exact r_sub (L' := [some (.ref 260), some (.int (nI c)), some (.int (nI a)), some (.int (nI ((p - 1) - 1))), some (.double (D 419 ((p - 1) - 1))), none, some (.double (D 419 (p - 1))), none, none, none]) ⟨rfl, rfl, rfl, rfl, rfl, rfl, trivial⟩ (v1 h1t h2t)
    ·
      refine q_aload_n d197_39 rfl ?_
      refine q_getR (x := 420) d197_40 (fs10_96 197 rfl) rfl (lt_w1 rfl) sh260 (rs260_28 R) (by decide) ?_
      refine q_iload_n d197_43 rfl ?_
      refine q_aload_n d197_44 rfl ?_
      refine q_getR (x := 420) d197_45 (fs10_96 197 rfl) rfl (lt_w1 rfl) sh260 (rs260_28 R) (by decide) ?_
      refine q_aload_n d197_48 rfl ?_
      refine q_getI d197_49 (fs10_243 197 rfl) rfl (lt_w1 rfl) sh260 ?_
      refine r_int (y := (nI (p - 1))) (show (j_u I 260 26 (nI (p - 1))) 260 26 = (nI (p - 1)) from (j_u_same _ _ _ _)) ?_
      refine q_iaload (a := (p - 1)) d197_52 (lt_w1 rfl) sh420 rfl (by omega) ?_
      refine r_int (y := (I 420 (p - 1))) (show (j_u I 260 26 (nI (p - 1))) 420 (p - 1) = (I 420 (p - 1)) from (j_u_o _ _ _ (by decide))) ?_
      refine q_iastore (a := ((p - 1) - 1)) d197_53 (lt_w1 rfl) sh420 rfl (by omega) ?_
      refine q_aload_n d197_54 rfl ?_
      refine q_getR (x := 421) d197_55 (fs10_99 197 rfl) rfl (lt_w1 rfl) sh260 (rs260_29 R) (by decide) ?_
      refine q_iload_n d197_58 rfl ?_
      refine q_aload_n d197_59 rfl ?_
      refine q_getR (x := 421) d197_60 (fs10_99 197 rfl) rfl (lt_w1 rfl) sh260 (rs260_29 R) (by decide) ?_
      refine q_aload_n d197_63 rfl ?_
      refine q_getI d197_64 (fs10_243 197 rfl) rfl (lt_w1 rfl) sh260 ?_
      refine r_int (y := (nI (p - 1))) (show (j_u (j_u I 260 26 (nI (p - 1))) 420 ((p - 1) - 1) (I 420 (p - 1))) 260 26 = (nI (p - 1)) from ((j_u_o _ _ _ (by decide)).trans (j_u_same _ _ _ _))) ?_
      refine q_iaload (a := (p - 1)) d197_67 (lt_w1 rfl) sh421 rfl (by omega) ?_
      refine r_int (y := (I 421 (p - 1))) (show (j_u (j_u I 260 26 (nI (p - 1))) 420 ((p - 1) - 1) (I 420 (p - 1))) 421 (p - 1) = (I 421 (p - 1)) from ((j_u_o _ _ _ (by decide)).trans (j_u_o _ _ _ (by decide)))) ?_
      refine q_iastore (a := ((p - 1) - 1)) d197_68 (lt_w1 rfl) sh421 rfl (by omega) ?_
      exact q_ret d197_69 rfl (Nat.le_refl _) (Nat.le_refl _) (v2 h1t h2f)
  ·
    exact q_ret d197_26 rfl (Nat.le_refl _) (Nat.le_refl _) (v3 h1f)

set_option maxRecDepth 10000 in
set_option maxHeartbeats 4000000 in
theorem u197_1 {d : Nat} {I : Nat → Nat → Int32} {D : Nat → Nat → UInt64} {R : Nat → Nat → Option Nat} {Q : j_Po} {c : Nat} {p : Nat} {x : UInt64} {y : UInt64}  (hp : p < 4800) (hd : 1 ≤ d)
    (v1 : vf_n64 (FP.dadd x y))
    (v2 : (dgt (FP.dadd x y) 4786511204640096256 = true) → Q none w1 ((j_u (j_u I 420 p 3) 421 p (nI c)), (j_u D 419 p (FP.dadd x y)), RR R))
    (v3 : (dgt (FP.dadd x y) 4786511204640096256 = false) → (dlt (FP.dadd x y) 14009883241494872064 = false) → Q none w1 (I, (j_u D 419 p (FP.dadd x y)), RR R))
    (v4 : (dgt (FP.dadd x y) 4786511204640096256 = false) → (dlt (FP.dadd x y) 14009883241494872064 = true) → Q none w1 ((j_u (j_u I 420 p 3) 421 p (nI c)), (j_u D 419 p (FP.dadd x y)), RR R)) : j_W 197 d 0 0 0 0 89 [some (.ref 260), some (.int (nI c)), some (.int 1), some (.int (nI p)), some (.double x), none, some (.double y), none, none, none] [] w1 (I, D, RR R) Q := by
  refine q_iload_n d197_89 rfl ?_
  refine q_iconst (v := 4) (by decide) d197_90 ?_
  refine q_icmp_eq (tgt := 99) d197_91 rfl (fun h => absurd h (by decide)) (fun _ => ?_)
  refine q_iload_n d197_94 rfl ?_
  refine q_iconst (v := 5) (by decide) d197_95 ?_
  refine q_icmp_ne (tgt := 121) d197_96 rfl (fun _ => ?_) (fun h => absurd h (by decide))
  refine q_iload_n d197_121 rfl ?_
  refine q_iconst (v := 1) (by decide) d197_122 ?_
  refine q_icmp_ne (tgt := 134) d197_123 rfl (fun h => absurd h (by decide)) (fun _ => ?_)
  refine q_dload d197_126 rfl ?_
  refine q_dload d197_128 rfl ?_
  refine q_dadd v1 d197_130 ?_
  refine q_goto (tgt := 269) d197_131 rfl ?_
  refine q_dstore (L' := [some (.ref 260), some (.int (nI c)), some (.int 1), some (.int (nI p)), some (.double x), none, some (.double y), none, some (.double (FP.dadd x y)), none]) d197_269 (Nat.le_of_ble_eq_true rfl) rfl ?_
  refine q_aload_n d197_271 rfl ?_
  refine q_getR (x := 419) d197_272 (fs10_93 197 rfl) rfl (lt_w1 rfl) sh260 (rs260_27 R) (by decide) ?_
  refine q_iload_n d197_275 rfl ?_
  refine q_dload d197_276 rfl ?_
  refine q_dastore (a := p) d197_278 (lt_w1 rfl) sh419 rfl (by omega) ?_
  refine q_iload_n d197_279 rfl ?_
  refine q_iconst (v := 4) (by decide) d197_280 ?_
  refine q_icmp_gt (tgt := 316) d197_281 rfl (fun h => absurd h (by decide)) (fun _ => ?_)
  refine q_dload d197_284 rfl ?_
  refine q_ldcD (v := 4786511204640096256) d197_286 (kc10_275 197 rfl) ?_
  refine q_dcmp d197_289 ?_
  refine q_if_gt (tgt := 302) d197_290 rfl (fun h1t => ?_) (fun h1f => ?_)
  ·
    have h1tc : dgt (FP.dadd x y) 4786511204640096256 = true := dc_l_gt_t h1t
    refine q_aload_n d197_302 rfl ?_
    refine q_getR (x := 420) d197_303 (fs10_96 197 rfl) rfl (lt_w1 rfl) sh260 (rs260_28 R) (by decide) ?_
    refine q_iload_n d197_306 rfl ?_
    refine q_iconst (v := 3) (by decide) d197_307 ?_
    refine q_iastore (a := p) d197_308 (lt_w1 rfl) sh420 rfl (by omega) ?_
    refine q_aload_n d197_309 rfl ?_
    refine q_getR (x := 421) d197_310 (fs10_99 197 rfl) rfl (lt_w1 rfl) sh260 (rs260_29 R) (by decide) ?_
    refine q_iload_n d197_313 rfl ?_
    refine q_iload_n d197_314 rfl ?_
    refine q_iastore (a := p) d197_315 (lt_w1 rfl) sh421 rfl (by omega) ?_
    exact q_ret d197_316 rfl (Nat.le_refl _) (Nat.le_refl _) (v2 h1tc)
  ·
    have h1fc : dgt (FP.dadd x y) 4786511204640096256 = false := dc_l_gt_f h1f
    refine q_dload d197_293 rfl ?_
    refine q_ldcD (v := 14009883241494872064) d197_295 (kc10_277 197 rfl) ?_
    refine q_dcmp d197_298 ?_
    refine q_if_ge (tgt := 316) d197_299 rfl (fun h2t => ?_) (fun h2f => ?_)
    ·
      have h2tc : dlt (FP.dadd x y) 14009883241494872064 = false := dc_g_ge_t h2t
      exact q_ret d197_316 rfl (Nat.le_refl _) (Nat.le_refl _) (v3 h1fc h2tc)
    ·
      have h2fc : dlt (FP.dadd x y) 14009883241494872064 = true := dc_g_ge_f h2f
      refine q_aload_n d197_302 rfl ?_
      refine q_getR (x := 420) d197_303 (fs10_96 197 rfl) rfl (lt_w1 rfl) sh260 (rs260_28 R) (by decide) ?_
      refine q_iload_n d197_306 rfl ?_
      refine q_iconst (v := 3) (by decide) d197_307 ?_
      refine q_iastore (a := p) d197_308 (lt_w1 rfl) sh420 rfl (by omega) ?_
      refine q_aload_n d197_309 rfl ?_
      refine q_getR (x := 421) d197_310 (fs10_99 197 rfl) rfl (lt_w1 rfl) sh260 (rs260_29 R) (by decide) ?_
      refine q_iload_n d197_313 rfl ?_
      refine q_iload_n d197_314 rfl ?_
      refine q_iastore (a := p) d197_315 (lt_w1 rfl) sh421 rfl (by omega) ?_
      exact q_ret d197_316 rfl (Nat.le_refl _) (Nat.le_refl _) (v4 h1fc h2fc)

set_option maxRecDepth 10000 in
set_option maxHeartbeats 4000000 in
theorem u197_2 {d : Nat} {I : Nat → Nat → Int32} {D : Nat → Nat → UInt64} {R : Nat → Nat → Option Nat} {Q : j_Po} {c : Nat} {p : Nat} {x : UInt64} {y : UInt64}  (hp : p < 4800) (hd : 1 ≤ d)
    (v1 : vf_n64 (FP.dsub x y))
    (v2 : (dgt (FP.dsub x y) 4786511204640096256 = true) → Q none w1 ((j_u (j_u I 420 p 3) 421 p (nI c)), (j_u D 419 p (FP.dsub x y)), RR R))
    (v3 : (dgt (FP.dsub x y) 4786511204640096256 = false) → (dlt (FP.dsub x y) 14009883241494872064 = false) → Q none w1 (I, (j_u D 419 p (FP.dsub x y)), RR R))
    (v4 : (dgt (FP.dsub x y) 4786511204640096256 = false) → (dlt (FP.dsub x y) 14009883241494872064 = true) → Q none w1 ((j_u (j_u I 420 p 3) 421 p (nI c)), (j_u D 419 p (FP.dsub x y)), RR R)) : j_W 197 d 0 0 0 0 89 [some (.ref 260), some (.int (nI c)), some (.int 2), some (.int (nI p)), some (.double x), none, some (.double y), none, none, none] [] w1 (I, D, RR R) Q := by
  refine q_iload_n d197_89 rfl ?_
  refine q_iconst (v := 4) (by decide) d197_90 ?_
  refine q_icmp_eq (tgt := 99) d197_91 rfl (fun h => absurd h (by decide)) (fun _ => ?_)
  refine q_iload_n d197_94 rfl ?_
  refine q_iconst (v := 5) (by decide) d197_95 ?_
  refine q_icmp_ne (tgt := 121) d197_96 rfl (fun _ => ?_) (fun h => absurd h (by decide))
  refine q_iload_n d197_121 rfl ?_
  refine q_iconst (v := 1) (by decide) d197_122 ?_
  refine q_icmp_ne (tgt := 134) d197_123 rfl (fun _ => ?_) (fun h => absurd h (by decide))
  refine q_iload_n d197_134 rfl ?_
  refine q_iconst (v := 2) (by decide) d197_135 ?_
  refine q_icmp_ne (tgt := 147) d197_136 rfl (fun h => absurd h (by decide)) (fun _ => ?_)
  refine q_dload d197_139 rfl ?_
  refine q_dload d197_141 rfl ?_
  refine q_dsub v1 d197_143 ?_
  refine q_goto (tgt := 269) d197_144 rfl ?_
  refine q_dstore (L' := [some (.ref 260), some (.int (nI c)), some (.int 2), some (.int (nI p)), some (.double x), none, some (.double y), none, some (.double (FP.dsub x y)), none]) d197_269 (Nat.le_of_ble_eq_true rfl) rfl ?_
  refine q_aload_n d197_271 rfl ?_
  refine q_getR (x := 419) d197_272 (fs10_93 197 rfl) rfl (lt_w1 rfl) sh260 (rs260_27 R) (by decide) ?_
  refine q_iload_n d197_275 rfl ?_
  refine q_dload d197_276 rfl ?_
  refine q_dastore (a := p) d197_278 (lt_w1 rfl) sh419 rfl (by omega) ?_
  refine q_iload_n d197_279 rfl ?_
  refine q_iconst (v := 4) (by decide) d197_280 ?_
  refine q_icmp_gt (tgt := 316) d197_281 rfl (fun h => absurd h (by decide)) (fun _ => ?_)
  refine q_dload d197_284 rfl ?_
  refine q_ldcD (v := 4786511204640096256) d197_286 (kc10_275 197 rfl) ?_
  refine q_dcmp d197_289 ?_
  refine q_if_gt (tgt := 302) d197_290 rfl (fun h1t => ?_) (fun h1f => ?_)
  ·
    have h1tc : dgt (FP.dsub x y) 4786511204640096256 = true := dc_l_gt_t h1t
    refine q_aload_n d197_302 rfl ?_
    refine q_getR (x := 420) d197_303 (fs10_96 197 rfl) rfl (lt_w1 rfl) sh260 (rs260_28 R) (by decide) ?_
    refine q_iload_n d197_306 rfl ?_
    refine q_iconst (v := 3) (by decide) d197_307 ?_
    refine q_iastore (a := p) d197_308 (lt_w1 rfl) sh420 rfl (by omega) ?_
    refine q_aload_n d197_309 rfl ?_
    refine q_getR (x := 421) d197_310 (fs10_99 197 rfl) rfl (lt_w1 rfl) sh260 (rs260_29 R) (by decide) ?_
    refine q_iload_n d197_313 rfl ?_
    refine q_iload_n d197_314 rfl ?_
    refine q_iastore (a := p) d197_315 (lt_w1 rfl) sh421 rfl (by omega) ?_
    exact q_ret d197_316 rfl (Nat.le_refl _) (Nat.le_refl _) (v2 h1tc)
  ·
    have h1fc : dgt (FP.dsub x y) 4786511204640096256 = false := dc_l_gt_f h1f
    refine q_dload d197_293 rfl ?_
    refine q_ldcD (v := 14009883241494872064) d197_295 (kc10_277 197 rfl) ?_
    refine q_dcmp d197_298 ?_
    refine q_if_ge (tgt := 316) d197_299 rfl (fun h2t => ?_) (fun h2f => ?_)
    ·
      have h2tc : dlt (FP.dsub x y) 14009883241494872064 = false := dc_g_ge_t h2t
      exact q_ret d197_316 rfl (Nat.le_refl _) (Nat.le_refl _) (v3 h1fc h2tc)
    ·
      have h2fc : dlt (FP.dsub x y) 14009883241494872064 = true := dc_g_ge_f h2f
      refine q_aload_n d197_302 rfl ?_
      refine q_getR (x := 420) d197_303 (fs10_96 197 rfl) rfl (lt_w1 rfl) sh260 (rs260_28 R) (by decide) ?_
      refine q_iload_n d197_306 rfl ?_
      refine q_iconst (v := 3) (by decide) d197_307 ?_
      refine q_iastore (a := p) d197_308 (lt_w1 rfl) sh420 rfl (by omega) ?_
      refine q_aload_n d197_309 rfl ?_
      refine q_getR (x := 421) d197_310 (fs10_99 197 rfl) rfl (lt_w1 rfl) sh260 (rs260_29 R) (by decide) ?_
      refine q_iload_n d197_313 rfl ?_
      refine q_iload_n d197_314 rfl ?_
      refine q_iastore (a := p) d197_315 (lt_w1 rfl) sh421 rfl (by omega) ?_
      exact q_ret d197_316 rfl (Nat.le_refl _) (Nat.le_refl _) (v4 h1fc h2fc)

set_option maxRecDepth 10000 in
set_option maxHeartbeats 4000000 in
theorem u197_3 {d : Nat} {I : Nat → Nat → Int32} {D : Nat → Nat → UInt64} {R : Nat → Nat → Option Nat} {Q : j_Po} {c : Nat} {p : Nat} {x : UInt64} {y : UInt64}  (hp : p < 4800) (hd : 1 ≤ d)
    (v1 : vf_n64 (FP.dmul x y))
    (v2 : (dgt (FP.dmul x y) 4786511204640096256 = true) → Q none w1 ((j_u (j_u I 420 p 3) 421 p (nI c)), (j_u D 419 p (FP.dmul x y)), RR R))
    (v3 : (dgt (FP.dmul x y) 4786511204640096256 = false) → (dlt (FP.dmul x y) 14009883241494872064 = false) → Q none w1 (I, (j_u D 419 p (FP.dmul x y)), RR R))
    (v4 : (dgt (FP.dmul x y) 4786511204640096256 = false) → (dlt (FP.dmul x y) 14009883241494872064 = true) → Q none w1 ((j_u (j_u I 420 p 3) 421 p (nI c)), (j_u D 419 p (FP.dmul x y)), RR R)) : j_W 197 d 0 0 0 0 89 [some (.ref 260), some (.int (nI c)), some (.int 3), some (.int (nI p)), some (.double x), none, some (.double y), none, none, none] [] w1 (I, D, RR R) Q := by
  refine q_iload_n d197_89 rfl ?_
  refine q_iconst (v := 4) (by decide) d197_90 ?_
  refine q_icmp_eq (tgt := 99) d197_91 rfl (fun h => absurd h (by decide)) (fun _ => ?_)
  refine q_iload_n d197_94 rfl ?_
  refine q_iconst (v := 5) (by decide) d197_95 ?_
  refine q_icmp_ne (tgt := 121) d197_96 rfl (fun _ => ?_) (fun h => absurd h (by decide))
  refine q_iload_n d197_121 rfl ?_
  refine q_iconst (v := 1) (by decide) d197_122 ?_
  refine q_icmp_ne (tgt := 134) d197_123 rfl (fun _ => ?_) (fun h => absurd h (by decide))
  refine q_iload_n d197_134 rfl ?_
  refine q_iconst (v := 2) (by decide) d197_135 ?_
  refine q_icmp_ne (tgt := 147) d197_136 rfl (fun _ => ?_) (fun h => absurd h (by decide))
  refine q_iload_n d197_147 rfl ?_
  refine q_iconst (v := 3) (by decide) d197_148 ?_
  refine q_icmp_ne (tgt := 160) d197_149 rfl (fun h => absurd h (by decide)) (fun _ => ?_)
  refine q_dload d197_152 rfl ?_
  refine q_dload d197_154 rfl ?_
  refine q_dmul v1 d197_156 ?_
  refine q_goto (tgt := 269) d197_157 rfl ?_
  refine q_dstore (L' := [some (.ref 260), some (.int (nI c)), some (.int 3), some (.int (nI p)), some (.double x), none, some (.double y), none, some (.double (FP.dmul x y)), none]) d197_269 (Nat.le_of_ble_eq_true rfl) rfl ?_
  refine q_aload_n d197_271 rfl ?_
  refine q_getR (x := 419) d197_272 (fs10_93 197 rfl) rfl (lt_w1 rfl) sh260 (rs260_27 R) (by decide) ?_
  refine q_iload_n d197_275 rfl ?_
  refine q_dload d197_276 rfl ?_
  refine q_dastore (a := p) d197_278 (lt_w1 rfl) sh419 rfl (by omega) ?_
  refine q_iload_n d197_279 rfl ?_
  refine q_iconst (v := 4) (by decide) d197_280 ?_
  refine q_icmp_gt (tgt := 316) d197_281 rfl (fun h => absurd h (by decide)) (fun _ => ?_)
  refine q_dload d197_284 rfl ?_
  refine q_ldcD (v := 4786511204640096256) d197_286 (kc10_275 197 rfl) ?_
  refine q_dcmp d197_289 ?_
  refine q_if_gt (tgt := 302) d197_290 rfl (fun h1t => ?_) (fun h1f => ?_)
  ·
    have h1tc : dgt (FP.dmul x y) 4786511204640096256 = true := dc_l_gt_t h1t
    refine q_aload_n d197_302 rfl ?_
    refine q_getR (x := 420) d197_303 (fs10_96 197 rfl) rfl (lt_w1 rfl) sh260 (rs260_28 R) (by decide) ?_
    refine q_iload_n d197_306 rfl ?_
    refine q_iconst (v := 3) (by decide) d197_307 ?_
    refine q_iastore (a := p) d197_308 (lt_w1 rfl) sh420 rfl (by omega) ?_
    refine q_aload_n d197_309 rfl ?_
    refine q_getR (x := 421) d197_310 (fs10_99 197 rfl) rfl (lt_w1 rfl) sh260 (rs260_29 R) (by decide) ?_
    refine q_iload_n d197_313 rfl ?_
    refine q_iload_n d197_314 rfl ?_
    refine q_iastore (a := p) d197_315 (lt_w1 rfl) sh421 rfl (by omega) ?_
    exact q_ret d197_316 rfl (Nat.le_refl _) (Nat.le_refl _) (v2 h1tc)
  ·
    have h1fc : dgt (FP.dmul x y) 4786511204640096256 = false := dc_l_gt_f h1f
    refine q_dload d197_293 rfl ?_
    refine q_ldcD (v := 14009883241494872064) d197_295 (kc10_277 197 rfl) ?_
    refine q_dcmp d197_298 ?_
    refine q_if_ge (tgt := 316) d197_299 rfl (fun h2t => ?_) (fun h2f => ?_)
    ·
      have h2tc : dlt (FP.dmul x y) 14009883241494872064 = false := dc_g_ge_t h2t
      exact q_ret d197_316 rfl (Nat.le_refl _) (Nat.le_refl _) (v3 h1fc h2tc)
    ·
      have h2fc : dlt (FP.dmul x y) 14009883241494872064 = true := dc_g_ge_f h2f
      refine q_aload_n d197_302 rfl ?_
      refine q_getR (x := 420) d197_303 (fs10_96 197 rfl) rfl (lt_w1 rfl) sh260 (rs260_28 R) (by decide) ?_
      refine q_iload_n d197_306 rfl ?_
      refine q_iconst (v := 3) (by decide) d197_307 ?_
      refine q_iastore (a := p) d197_308 (lt_w1 rfl) sh420 rfl (by omega) ?_
      refine q_aload_n d197_309 rfl ?_
      refine q_getR (x := 421) d197_310 (fs10_99 197 rfl) rfl (lt_w1 rfl) sh260 (rs260_29 R) (by decide) ?_
      refine q_iload_n d197_313 rfl ?_
      refine q_iload_n d197_314 rfl ?_
      refine q_iastore (a := p) d197_315 (lt_w1 rfl) sh421 rfl (by omega) ?_
      exact q_ret d197_316 rfl (Nat.le_refl _) (Nat.le_refl _) (v4 h1fc h2fc)

set_option maxRecDepth 10000 in
set_option maxHeartbeats 4000000 in
theorem u197_4 {d : Nat} {I : Nat → Nat → Int32} {D : Nat → Nat → UInt64} {R : Nat → Nat → Option Nat} {Q : j_Po} {c : Nat} {p : Nat} {x : UInt64} {y : UInt64}  (hp : p < 4800) (hd : 1 ≤ d)
    (v1 : (deq y FP.dconst0 = false) → vf_n64 (FP.ddiv x y))
    (v2 : (deq y FP.dconst0 = false) → (dgt (FP.ddiv x y) 4786511204640096256 = true) → Q none w1 ((j_u (j_u I 420 p 3) 421 p (nI c)), (j_u D 419 p (FP.ddiv x y)), RR R))
    (v3 : (deq y FP.dconst0 = false) → (dgt (FP.ddiv x y) 4786511204640096256 = false) → (dlt (FP.ddiv x y) 14009883241494872064 = false) → Q none w1 (I, (j_u D 419 p (FP.ddiv x y)), RR R))
    (v4 : (deq y FP.dconst0 = false) → (dgt (FP.ddiv x y) 4786511204640096256 = false) → (dlt (FP.ddiv x y) 14009883241494872064 = true) → Q none w1 ((j_u (j_u I 420 p 3) 421 p (nI c)), (j_u D 419 p (FP.ddiv x y)), RR R))
    (v5 : (deq y FP.dconst0 = true) → Q none w1 ((j_u (j_u I 420 p 2) 421 p (nI c)), D, RR R)) : j_W 197 d 0 0 0 0 89 [some (.ref 260), some (.int (nI c)), some (.int 4), some (.int (nI p)), some (.double x), none, some (.double y), none, none, none] [] w1 (I, D, RR R) Q := by
  refine q_iload_n d197_89 rfl ?_
  refine q_iconst (v := 4) (by decide) d197_90 ?_
  refine q_icmp_eq (tgt := 99) d197_91 rfl (fun _ => ?_) (fun h => absurd h (by decide))
  refine q_dload d197_99 rfl ?_
  refine q_dconst0 d197_101 ?_
  refine q_dcmp d197_102 ?_
  refine q_if_ne (tgt := 121) d197_103 rfl (fun h1t => ?_) (fun h1f => ?_)
  ·
    have h1tc : deq y FP.dconst0 = false := dc_l_ne_t h1t
    refine q_iload_n d197_121 rfl ?_
    refine q_iconst (v := 1) (by decide) d197_122 ?_
    refine q_icmp_ne (tgt := 134) d197_123 rfl (fun _ => ?_) (fun h => absurd h (by decide))
    refine q_iload_n d197_134 rfl ?_
    refine q_iconst (v := 2) (by decide) d197_135 ?_
    refine q_icmp_ne (tgt := 147) d197_136 rfl (fun _ => ?_) (fun h => absurd h (by decide))
    refine q_iload_n d197_147 rfl ?_
    refine q_iconst (v := 3) (by decide) d197_148 ?_
    refine q_icmp_ne (tgt := 160) d197_149 rfl (fun _ => ?_) (fun h => absurd h (by decide))
    refine q_iload_n d197_160 rfl ?_
    refine q_iconst (v := 4) (by decide) d197_161 ?_
    refine q_icmp_ne (tgt := 173) d197_162 rfl (fun h => absurd h (by decide)) (fun _ => ?_)
    refine q_dload d197_165 rfl ?_
    refine q_dload d197_167 rfl ?_
    refine q_ddiv (v1 h1tc) d197_169 ?_
    refine q_goto (tgt := 269) d197_170 rfl ?_
    refine q_dstore (L' := [some (.ref 260), some (.int (nI c)), some (.int 4), some (.int (nI p)), some (.double x), none, some (.double y), none, some (.double (FP.ddiv x y)), none]) d197_269 (Nat.le_of_ble_eq_true rfl) rfl ?_
    refine q_aload_n d197_271 rfl ?_
    refine q_getR (x := 419) d197_272 (fs10_93 197 rfl) rfl (lt_w1 rfl) sh260 (rs260_27 R) (by decide) ?_
    refine q_iload_n d197_275 rfl ?_
    refine q_dload d197_276 rfl ?_
    refine q_dastore (a := p) d197_278 (lt_w1 rfl) sh419 rfl (by omega) ?_
    refine q_iload_n d197_279 rfl ?_
    refine q_iconst (v := 4) (by decide) d197_280 ?_
    refine q_icmp_gt (tgt := 316) d197_281 rfl (fun h => absurd h (by decide)) (fun _ => ?_)
    refine q_dload d197_284 rfl ?_
    refine q_ldcD (v := 4786511204640096256) d197_286 (kc10_275 197 rfl) ?_
    refine q_dcmp d197_289 ?_
    refine q_if_gt (tgt := 302) d197_290 rfl (fun h2t => ?_) (fun h2f => ?_)
    ·
      have h2tc : dgt (FP.ddiv x y) 4786511204640096256 = true := dc_l_gt_t h2t
      refine q_aload_n d197_302 rfl ?_
      refine q_getR (x := 420) d197_303 (fs10_96 197 rfl) rfl (lt_w1 rfl) sh260 (rs260_28 R) (by decide) ?_
      refine q_iload_n d197_306 rfl ?_
      refine q_iconst (v := 3) (by decide) d197_307 ?_
      refine q_iastore (a := p) d197_308 (lt_w1 rfl) sh420 rfl (by omega) ?_
      refine q_aload_n d197_309 rfl ?_
      refine q_getR (x := 421) d197_310 (fs10_99 197 rfl) rfl (lt_w1 rfl) sh260 (rs260_29 R) (by decide) ?_
      refine q_iload_n d197_313 rfl ?_
      refine q_iload_n d197_314 rfl ?_
      refine q_iastore (a := p) d197_315 (lt_w1 rfl) sh421 rfl (by omega) ?_
      exact q_ret d197_316 rfl (Nat.le_refl _) (Nat.le_refl _) (v2 h1tc h2tc)
    ·
      have h2fc : dgt (FP.ddiv x y) 4786511204640096256 = false := dc_l_gt_f h2f
      refine q_dload d197_293 rfl ?_
      refine q_ldcD (v := 14009883241494872064) d197_295 (kc10_277 197 rfl) ?_
      refine q_dcmp d197_298 ?_
      refine q_if_ge (tgt := 316) d197_299 rfl (fun h3t => ?_) (fun h3f => ?_)
      ·
        have h3tc : dlt (FP.ddiv x y) 14009883241494872064 = false := dc_g_ge_t h3t
        exact q_ret d197_316 rfl (Nat.le_refl _) (Nat.le_refl _) (v3 h1tc h2fc h3tc)
      ·
        have h3fc : dlt (FP.ddiv x y) 14009883241494872064 = true := dc_g_ge_f h3f
        refine q_aload_n d197_302 rfl ?_
        refine q_getR (x := 420) d197_303 (fs10_96 197 rfl) rfl (lt_w1 rfl) sh260 (rs260_28 R) (by decide) ?_
        refine q_iload_n d197_306 rfl ?_
        refine q_iconst (v := 3) (by decide) d197_307 ?_
        refine q_iastore (a := p) d197_308 (lt_w1 rfl) sh420 rfl (by omega) ?_
        refine q_aload_n d197_309 rfl ?_
        refine q_getR (x := 421) d197_310 (fs10_99 197 rfl) rfl (lt_w1 rfl) sh260 (rs260_29 R) (by decide) ?_
        refine q_iload_n d197_313 rfl ?_
        refine q_iload_n d197_314 rfl ?_
        refine q_iastore (a := p) d197_315 (lt_w1 rfl) sh421 rfl (by omega) ?_
        exact q_ret d197_316 rfl (Nat.le_refl _) (Nat.le_refl _) (v4 h1tc h2fc h3fc)
  ·
    have h1fc : deq y FP.dconst0 = true := dc_l_ne_f h1f
    refine q_aload_n d197_106 rfl ?_
    refine q_getR (x := 420) d197_107 (fs10_96 197 rfl) rfl (lt_w1 rfl) sh260 (rs260_28 R) (by decide) ?_
    refine q_iload_n d197_110 rfl ?_
    refine q_iconst (v := 2) (by decide) d197_111 ?_
    refine q_iastore (a := p) d197_112 (lt_w1 rfl) sh420 rfl (by omega) ?_
    refine q_aload_n d197_113 rfl ?_
    refine q_getR (x := 421) d197_114 (fs10_99 197 rfl) rfl (lt_w1 rfl) sh260 (rs260_29 R) (by decide) ?_
    refine q_iload_n d197_117 rfl ?_
    refine q_iload_n d197_118 rfl ?_
    refine q_iastore (a := p) d197_119 (lt_w1 rfl) sh421 rfl (by omega) ?_
    exact q_ret d197_120 rfl (Nat.le_refl _) (Nat.le_refl _) (v5 h1fc)

set_option maxRecDepth 10000 in
set_option maxHeartbeats 4000000 in
theorem u197_5 {d : Nat} {I : Nat → Nat → Int32} {D : Nat → Nat → UInt64} {R : Nat → Nat → Option Nat} {Q : j_Po} {c : Nat} {p : Nat} {x : UInt64} {y : UInt64}  (hp : p < 4800) (hd : 1 ≤ d)
    (v1 : (deq y FP.dconst0 = false) → vf_n64 (FP.drem x y))
    (v2 : (deq y FP.dconst0 = false) → Q none w1 (I, (j_u D 419 p (FP.drem x y)), RR R))
    (v3 : (deq y FP.dconst0 = true) → Q none w1 ((j_u (j_u I 420 p 2) 421 p (nI c)), D, RR R)) : j_W 197 d 0 0 0 0 89 [some (.ref 260), some (.int (nI c)), some (.int 5), some (.int (nI p)), some (.double x), none, some (.double y), none, none, none] [] w1 (I, D, RR R) Q := by
  refine q_iload_n d197_89 rfl ?_
  refine q_iconst (v := 4) (by decide) d197_90 ?_
  refine q_icmp_eq (tgt := 99) d197_91 rfl (fun h => absurd h (by decide)) (fun _ => ?_)
  refine q_iload_n d197_94 rfl ?_
  refine q_iconst (v := 5) (by decide) d197_95 ?_
  refine q_icmp_ne (tgt := 121) d197_96 rfl (fun h => absurd h (by decide)) (fun _ => ?_)
  refine q_dload d197_99 rfl ?_
  refine q_dconst0 d197_101 ?_
  refine q_dcmp d197_102 ?_
  refine q_if_ne (tgt := 121) d197_103 rfl (fun h1t => ?_) (fun h1f => ?_)
  ·
    have h1tc : deq y FP.dconst0 = false := dc_l_ne_t h1t
    refine q_iload_n d197_121 rfl ?_
    refine q_iconst (v := 1) (by decide) d197_122 ?_
    refine q_icmp_ne (tgt := 134) d197_123 rfl (fun _ => ?_) (fun h => absurd h (by decide))
    refine q_iload_n d197_134 rfl ?_
    refine q_iconst (v := 2) (by decide) d197_135 ?_
    refine q_icmp_ne (tgt := 147) d197_136 rfl (fun _ => ?_) (fun h => absurd h (by decide))
    refine q_iload_n d197_147 rfl ?_
    refine q_iconst (v := 3) (by decide) d197_148 ?_
    refine q_icmp_ne (tgt := 160) d197_149 rfl (fun _ => ?_) (fun h => absurd h (by decide))
    refine q_iload_n d197_160 rfl ?_
    refine q_iconst (v := 4) (by decide) d197_161 ?_
    refine q_icmp_ne (tgt := 173) d197_162 rfl (fun _ => ?_) (fun h => absurd h (by decide))
    refine q_iload_n d197_173 rfl ?_
    refine q_iconst (v := 5) (by decide) d197_174 ?_
    refine q_icmp_ne (tgt := 186) d197_175 rfl (fun h => absurd h (by decide)) (fun _ => ?_)
    refine q_dload d197_178 rfl ?_
    refine q_dload d197_180 rfl ?_
    refine q_drem (v1 h1tc) d197_182 ?_
    refine q_goto (tgt := 269) d197_183 rfl ?_
    refine q_dstore (L' := [some (.ref 260), some (.int (nI c)), some (.int 5), some (.int (nI p)), some (.double x), none, some (.double y), none, some (.double (FP.drem x y)), none]) d197_269 (Nat.le_of_ble_eq_true rfl) rfl ?_
    refine q_aload_n d197_271 rfl ?_
    refine q_getR (x := 419) d197_272 (fs10_93 197 rfl) rfl (lt_w1 rfl) sh260 (rs260_27 R) (by decide) ?_
    refine q_iload_n d197_275 rfl ?_
    refine q_dload d197_276 rfl ?_
    refine q_dastore (a := p) d197_278 (lt_w1 rfl) sh419 rfl (by omega) ?_
    refine q_iload_n d197_279 rfl ?_
    refine q_iconst (v := 4) (by decide) d197_280 ?_
    refine q_icmp_gt (tgt := 316) d197_281 rfl (fun _ => ?_) (fun h => absurd h (by decide))
    exact q_ret d197_316 rfl (Nat.le_refl _) (Nat.le_refl _) (v2 h1tc)
  ·
    have h1fc : deq y FP.dconst0 = true := dc_l_ne_f h1f
    refine q_aload_n d197_106 rfl ?_
    refine q_getR (x := 420) d197_107 (fs10_96 197 rfl) rfl (lt_w1 rfl) sh260 (rs260_28 R) (by decide) ?_
    refine q_iload_n d197_110 rfl ?_
    refine q_iconst (v := 2) (by decide) d197_111 ?_
    refine q_iastore (a := p) d197_112 (lt_w1 rfl) sh420 rfl (by omega) ?_
    refine q_aload_n d197_113 rfl ?_
    refine q_getR (x := 421) d197_114 (fs10_99 197 rfl) rfl (lt_w1 rfl) sh260 (rs260_29 R) (by decide) ?_
    refine q_iload_n d197_117 rfl ?_
    refine q_iload_n d197_118 rfl ?_
    refine q_iastore (a := p) d197_119 (lt_w1 rfl) sh421 rfl (by omega) ?_
    exact q_ret d197_120 rfl (Nat.le_refl _) (Nat.le_refl _) (v3 h1fc)

set_option maxRecDepth 10000 in
set_option maxHeartbeats 4000000 in
theorem u197_6 {d : Nat} {I : Nat → Nat → Int32} {D : Nat → Nat → UInt64} {R : Nat → Nat → Option Nat} {Q : j_Po} {c : Nat} {p : Nat} {x : UInt64} {y : UInt64}  (hp : p < 4800) (hd : 1 ≤ d)
    (v1 : (dlt x y = false) → Q none w1 (I, (j_u D 419 p FP.dconst0), RR R))
    (v2 : (dlt x y = true) → Q none w1 (I, (j_u D 419 p FP.dconst1), RR R)) : j_W 197 d 0 0 0 0 89 [some (.ref 260), some (.int (nI c)), some (.int 6), some (.int (nI p)), some (.double x), none, some (.double y), none, none, none] [] w1 (I, D, RR R) Q := by
  refine q_iload_n d197_89 rfl ?_
  refine q_iconst (v := 4) (by decide) d197_90 ?_
  refine q_icmp_eq (tgt := 99) d197_91 rfl (fun h => absurd h (by decide)) (fun _ => ?_)
  refine q_iload_n d197_94 rfl ?_
  refine q_iconst (v := 5) (by decide) d197_95 ?_
  refine q_icmp_ne (tgt := 121) d197_96 rfl (fun _ => ?_) (fun h => absurd h (by decide))
  refine q_iload_n d197_121 rfl ?_
  refine q_iconst (v := 1) (by decide) d197_122 ?_
  refine q_icmp_ne (tgt := 134) d197_123 rfl (fun _ => ?_) (fun h => absurd h (by decide))
  refine q_iload_n d197_134 rfl ?_
  refine q_iconst (v := 2) (by decide) d197_135 ?_
  refine q_icmp_ne (tgt := 147) d197_136 rfl (fun _ => ?_) (fun h => absurd h (by decide))
  refine q_iload_n d197_147 rfl ?_
  refine q_iconst (v := 3) (by decide) d197_148 ?_
  refine q_icmp_ne (tgt := 160) d197_149 rfl (fun _ => ?_) (fun h => absurd h (by decide))
  refine q_iload_n d197_160 rfl ?_
  refine q_iconst (v := 4) (by decide) d197_161 ?_
  refine q_icmp_ne (tgt := 173) d197_162 rfl (fun _ => ?_) (fun h => absurd h (by decide))
  refine q_iload_n d197_173 rfl ?_
  refine q_iconst (v := 5) (by decide) d197_174 ?_
  refine q_icmp_ne (tgt := 186) d197_175 rfl (fun _ => ?_) (fun h => absurd h (by decide))
  refine q_iload_n d197_186 rfl ?_
  refine q_bipush (v := 6) (by decide) d197_187 ?_
  refine q_icmp_ne (tgt := 208) d197_189 rfl (fun h => absurd h (by decide)) (fun _ => ?_)
  refine q_dload d197_192 rfl ?_
  refine q_dload d197_194 rfl ?_
  refine q_dcmp d197_196 ?_
  refine q_if_ge (tgt := 204) d197_197 rfl (fun h1t => ?_) (fun h1f => ?_)
  ·
    have h1tc : dlt x y = false := dc_g_ge_t h1t
    refine q_dconst0 d197_204 ?_
    refine q_goto (tgt := 269) d197_205 rfl ?_
    refine q_dstore (L' := [some (.ref 260), some (.int (nI c)), some (.int 6), some (.int (nI p)), some (.double x), none, some (.double y), none, some (.double FP.dconst0), none]) d197_269 (Nat.le_of_ble_eq_true rfl) rfl ?_
    refine q_aload_n d197_271 rfl ?_
    refine q_getR (x := 419) d197_272 (fs10_93 197 rfl) rfl (lt_w1 rfl) sh260 (rs260_27 R) (by decide) ?_
    refine q_iload_n d197_275 rfl ?_
    refine q_dload d197_276 rfl ?_
    refine q_dastore (a := p) d197_278 (lt_w1 rfl) sh419 rfl (by omega) ?_
    refine q_iload_n d197_279 rfl ?_
    refine q_iconst (v := 4) (by decide) d197_280 ?_
    refine q_icmp_gt (tgt := 316) d197_281 rfl (fun _ => ?_) (fun h => absurd h (by decide))
    exact q_ret d197_316 rfl (Nat.le_refl _) (Nat.le_refl _) (v1 h1tc)
  ·
    have h1fc : dlt x y = true := dc_g_ge_f h1f
    refine q_dconst1 d197_200 ?_
    refine q_goto (tgt := 269) d197_201 rfl ?_
    refine q_dstore (L' := [some (.ref 260), some (.int (nI c)), some (.int 6), some (.int (nI p)), some (.double x), none, some (.double y), none, some (.double FP.dconst1), none]) d197_269 (Nat.le_of_ble_eq_true rfl) rfl ?_
    refine q_aload_n d197_271 rfl ?_
    refine q_getR (x := 419) d197_272 (fs10_93 197 rfl) rfl (lt_w1 rfl) sh260 (rs260_27 R) (by decide) ?_
    refine q_iload_n d197_275 rfl ?_
    refine q_dload d197_276 rfl ?_
    refine q_dastore (a := p) d197_278 (lt_w1 rfl) sh419 rfl (by omega) ?_
    refine q_iload_n d197_279 rfl ?_
    refine q_iconst (v := 4) (by decide) d197_280 ?_
    refine q_icmp_gt (tgt := 316) d197_281 rfl (fun _ => ?_) (fun h => absurd h (by decide))
    exact q_ret d197_316 rfl (Nat.le_refl _) (Nat.le_refl _) (v2 h1fc)

set_option maxRecDepth 10000 in
set_option maxHeartbeats 4000000 in
theorem u197_7 {d : Nat} {I : Nat → Nat → Int32} {D : Nat → Nat → UInt64} {R : Nat → Nat → Option Nat} {Q : j_Po} {c : Nat} {p : Nat} {x : UInt64} {y : UInt64}  (hp : p < 4800) (hd : 1 ≤ d)
    (v1 : (deq x y = false) → Q none w1 (I, (j_u D 419 p FP.dconst0), RR R))
    (v2 : (deq x y = true) → Q none w1 (I, (j_u D 419 p FP.dconst1), RR R)) : j_W 197 d 0 0 0 0 89 [some (.ref 260), some (.int (nI c)), some (.int 7), some (.int (nI p)), some (.double x), none, some (.double y), none, none, none] [] w1 (I, D, RR R) Q := by
  refine q_iload_n d197_89 rfl ?_
  refine q_iconst (v := 4) (by decide) d197_90 ?_
  refine q_icmp_eq (tgt := 99) d197_91 rfl (fun h => absurd h (by decide)) (fun _ => ?_)
  refine q_iload_n d197_94 rfl ?_
  refine q_iconst (v := 5) (by decide) d197_95 ?_
  refine q_icmp_ne (tgt := 121) d197_96 rfl (fun _ => ?_) (fun h => absurd h (by decide))
  refine q_iload_n d197_121 rfl ?_
  refine q_iconst (v := 1) (by decide) d197_122 ?_
  refine q_icmp_ne (tgt := 134) d197_123 rfl (fun _ => ?_) (fun h => absurd h (by decide))
  refine q_iload_n d197_134 rfl ?_
  refine q_iconst (v := 2) (by decide) d197_135 ?_
  refine q_icmp_ne (tgt := 147) d197_136 rfl (fun _ => ?_) (fun h => absurd h (by decide))
  refine q_iload_n d197_147 rfl ?_
  refine q_iconst (v := 3) (by decide) d197_148 ?_
  refine q_icmp_ne (tgt := 160) d197_149 rfl (fun _ => ?_) (fun h => absurd h (by decide))
  refine q_iload_n d197_160 rfl ?_
  refine q_iconst (v := 4) (by decide) d197_161 ?_
  refine q_icmp_ne (tgt := 173) d197_162 rfl (fun _ => ?_) (fun h => absurd h (by decide))
  refine q_iload_n d197_173 rfl ?_
  refine q_iconst (v := 5) (by decide) d197_174 ?_
  refine q_icmp_ne (tgt := 186) d197_175 rfl (fun _ => ?_) (fun h => absurd h (by decide))
  refine q_iload_n d197_186 rfl ?_
  refine q_bipush (v := 6) (by decide) d197_187 ?_
  refine q_icmp_ne (tgt := 208) d197_189 rfl (fun _ => ?_) (fun h => absurd h (by decide))
  refine q_iload_n d197_208 rfl ?_
  refine q_bipush (v := 7) (by decide) d197_209 ?_
  refine q_icmp_ne (tgt := 230) d197_211 rfl (fun h => absurd h (by decide)) (fun _ => ?_)
  refine q_dload d197_214 rfl ?_
  refine q_dload d197_216 rfl ?_
  refine q_dcmp d197_218 ?_
  refine q_if_ne (tgt := 226) d197_219 rfl (fun h1t => ?_) (fun h1f => ?_)
  ·
    have h1tc : deq x y = false := dc_l_ne_t h1t
    refine q_dconst0 d197_226 ?_
    refine q_goto (tgt := 269) d197_227 rfl ?_
    refine q_dstore (L' := [some (.ref 260), some (.int (nI c)), some (.int 7), some (.int (nI p)), some (.double x), none, some (.double y), none, some (.double FP.dconst0), none]) d197_269 (Nat.le_of_ble_eq_true rfl) rfl ?_
    refine q_aload_n d197_271 rfl ?_
    refine q_getR (x := 419) d197_272 (fs10_93 197 rfl) rfl (lt_w1 rfl) sh260 (rs260_27 R) (by decide) ?_
    refine q_iload_n d197_275 rfl ?_
    refine q_dload d197_276 rfl ?_
    refine q_dastore (a := p) d197_278 (lt_w1 rfl) sh419 rfl (by omega) ?_
    refine q_iload_n d197_279 rfl ?_
    refine q_iconst (v := 4) (by decide) d197_280 ?_
    refine q_icmp_gt (tgt := 316) d197_281 rfl (fun _ => ?_) (fun h => absurd h (by decide))
    exact q_ret d197_316 rfl (Nat.le_refl _) (Nat.le_refl _) (v1 h1tc)
  ·
    have h1fc : deq x y = true := dc_l_ne_f h1f
    refine q_dconst1 d197_222 ?_
    refine q_goto (tgt := 269) d197_223 rfl ?_
    refine q_dstore (L' := [some (.ref 260), some (.int (nI c)), some (.int 7), some (.int (nI p)), some (.double x), none, some (.double y), none, some (.double FP.dconst1), none]) d197_269 (Nat.le_of_ble_eq_true rfl) rfl ?_
    refine q_aload_n d197_271 rfl ?_
    refine q_getR (x := 419) d197_272 (fs10_93 197 rfl) rfl (lt_w1 rfl) sh260 (rs260_27 R) (by decide) ?_
    refine q_iload_n d197_275 rfl ?_
    refine q_dload d197_276 rfl ?_
    refine q_dastore (a := p) d197_278 (lt_w1 rfl) sh419 rfl (by omega) ?_
    refine q_iload_n d197_279 rfl ?_
    refine q_iconst (v := 4) (by decide) d197_280 ?_
    refine q_icmp_gt (tgt := 316) d197_281 rfl (fun _ => ?_) (fun h => absurd h (by decide))
    exact q_ret d197_316 rfl (Nat.le_refl _) (Nat.le_refl _) (v2 h1fc)

set_option maxRecDepth 10000 in
set_option maxHeartbeats 4000000 in
theorem u197_8 {d : Nat} {I : Nat → Nat → Int32} {D : Nat → Nat → UInt64} {R : Nat → Nat → Option Nat} {Q : j_Po} {c : Nat} {p : Nat} {x : UInt64} {y : UInt64}  (hp : p < 4800) (hd : 1 ≤ d)
    (v1 : (dlt y x = false) → Q none w1 (I, (j_u D 419 p x), RR R))
    (v2 : (dlt y x = true) → Q none w1 (I, (j_u D 419 p y), RR R)) : j_W 197 d 0 0 0 0 89 [some (.ref 260), some (.int (nI c)), some (.int 8), some (.int (nI p)), some (.double x), none, some (.double y), none, none, none] [] w1 (I, D, RR R) Q := by
  refine q_iload_n d197_89 rfl ?_
  refine q_iconst (v := 4) (by decide) d197_90 ?_
  refine q_icmp_eq (tgt := 99) d197_91 rfl (fun h => absurd h (by decide)) (fun _ => ?_)
  refine q_iload_n d197_94 rfl ?_
  refine q_iconst (v := 5) (by decide) d197_95 ?_
  refine q_icmp_ne (tgt := 121) d197_96 rfl (fun _ => ?_) (fun h => absurd h (by decide))
  refine q_iload_n d197_121 rfl ?_
  refine q_iconst (v := 1) (by decide) d197_122 ?_
  refine q_icmp_ne (tgt := 134) d197_123 rfl (fun _ => ?_) (fun h => absurd h (by decide))
  refine q_iload_n d197_134 rfl ?_
  refine q_iconst (v := 2) (by decide) d197_135 ?_
  refine q_icmp_ne (tgt := 147) d197_136 rfl (fun _ => ?_) (fun h => absurd h (by decide))
  refine q_iload_n d197_147 rfl ?_
  refine q_iconst (v := 3) (by decide) d197_148 ?_
  refine q_icmp_ne (tgt := 160) d197_149 rfl (fun _ => ?_) (fun h => absurd h (by decide))
  refine q_iload_n d197_160 rfl ?_
  refine q_iconst (v := 4) (by decide) d197_161 ?_
  refine q_icmp_ne (tgt := 173) d197_162 rfl (fun _ => ?_) (fun h => absurd h (by decide))
  refine q_iload_n d197_173 rfl ?_
  refine q_iconst (v := 5) (by decide) d197_174 ?_
  refine q_icmp_ne (tgt := 186) d197_175 rfl (fun _ => ?_) (fun h => absurd h (by decide))
  refine q_iload_n d197_186 rfl ?_
  refine q_bipush (v := 6) (by decide) d197_187 ?_
  refine q_icmp_ne (tgt := 208) d197_189 rfl (fun _ => ?_) (fun h => absurd h (by decide))
  refine q_iload_n d197_208 rfl ?_
  refine q_bipush (v := 7) (by decide) d197_209 ?_
  refine q_icmp_ne (tgt := 230) d197_211 rfl (fun _ => ?_) (fun h => absurd h (by decide))
  refine q_iload_n d197_230 rfl ?_
  refine q_bipush (v := 8) (by decide) d197_231 ?_
  refine q_icmp_ne (tgt := 254) d197_233 rfl (fun h => absurd h (by decide)) (fun _ => ?_)
  refine q_dload d197_236 rfl ?_
  refine q_dload d197_238 rfl ?_
  refine q_dcmp d197_240 ?_
  refine q_if_ge (tgt := 249) d197_241 rfl (fun h1t => ?_) (fun h1f => ?_)
  ·
    have h1tc : dlt y x = false := dc_g_ge_t h1t
    refine q_dload d197_249 rfl ?_
    refine q_goto (tgt := 269) d197_251 rfl ?_
    refine q_dstore (L' := [some (.ref 260), some (.int (nI c)), some (.int 8), some (.int (nI p)), some (.double x), none, some (.double y), none, some (.double x), none]) d197_269 (Nat.le_of_ble_eq_true rfl) rfl ?_
    refine q_aload_n d197_271 rfl ?_
    refine q_getR (x := 419) d197_272 (fs10_93 197 rfl) rfl (lt_w1 rfl) sh260 (rs260_27 R) (by decide) ?_
    refine q_iload_n d197_275 rfl ?_
    refine q_dload d197_276 rfl ?_
    refine q_dastore (a := p) d197_278 (lt_w1 rfl) sh419 rfl (by omega) ?_
    refine q_iload_n d197_279 rfl ?_
    refine q_iconst (v := 4) (by decide) d197_280 ?_
    refine q_icmp_gt (tgt := 316) d197_281 rfl (fun _ => ?_) (fun h => absurd h (by decide))
    exact q_ret d197_316 rfl (Nat.le_refl _) (Nat.le_refl _) (v1 h1tc)
  ·
    have h1fc : dlt y x = true := dc_g_ge_f h1f
    refine q_dload d197_244 rfl ?_
    refine q_goto (tgt := 269) d197_246 rfl ?_
    refine q_dstore (L' := [some (.ref 260), some (.int (nI c)), some (.int 8), some (.int (nI p)), some (.double x), none, some (.double y), none, some (.double y), none]) d197_269 (Nat.le_of_ble_eq_true rfl) rfl ?_
    refine q_aload_n d197_271 rfl ?_
    refine q_getR (x := 419) d197_272 (fs10_93 197 rfl) rfl (lt_w1 rfl) sh260 (rs260_27 R) (by decide) ?_
    refine q_iload_n d197_275 rfl ?_
    refine q_dload d197_276 rfl ?_
    refine q_dastore (a := p) d197_278 (lt_w1 rfl) sh419 rfl (by omega) ?_
    refine q_iload_n d197_279 rfl ?_
    refine q_iconst (v := 4) (by decide) d197_280 ?_
    refine q_icmp_gt (tgt := 316) d197_281 rfl (fun _ => ?_) (fun h => absurd h (by decide))
    exact q_ret d197_316 rfl (Nat.le_refl _) (Nat.le_refl _) (v2 h1fc)

set_option maxRecDepth 10000 in
set_option maxHeartbeats 4000000 in
theorem u197_9 {d : Nat} {I : Nat → Nat → Int32} {D : Nat → Nat → UInt64} {R : Nat → Nat → Option Nat} {Q : j_Po} {c : Nat} {p : Nat} {x : UInt64} {y : UInt64}  (hp : p < 4800) (hd : 1 ≤ d)
    (v1 : (dgt y x = false) → Q none w1 (I, (j_u D 419 p x), RR R))
    (v2 : (dgt y x = true) → Q none w1 (I, (j_u D 419 p y), RR R)) : j_W 197 d 0 0 0 0 89 [some (.ref 260), some (.int (nI c)), some (.int 9), some (.int (nI p)), some (.double x), none, some (.double y), none, none, none] [] w1 (I, D, RR R) Q := by
  refine q_iload_n d197_89 rfl ?_
  refine q_iconst (v := 4) (by decide) d197_90 ?_
  refine q_icmp_eq (tgt := 99) d197_91 rfl (fun h => absurd h (by decide)) (fun _ => ?_)
  refine q_iload_n d197_94 rfl ?_
  refine q_iconst (v := 5) (by decide) d197_95 ?_
  refine q_icmp_ne (tgt := 121) d197_96 rfl (fun _ => ?_) (fun h => absurd h (by decide))
  refine q_iload_n d197_121 rfl ?_
  refine q_iconst (v := 1) (by decide) d197_122 ?_
  refine q_icmp_ne (tgt := 134) d197_123 rfl (fun _ => ?_) (fun h => absurd h (by decide))
  refine q_iload_n d197_134 rfl ?_
  refine q_iconst (v := 2) (by decide) d197_135 ?_
  refine q_icmp_ne (tgt := 147) d197_136 rfl (fun _ => ?_) (fun h => absurd h (by decide))
  refine q_iload_n d197_147 rfl ?_
  refine q_iconst (v := 3) (by decide) d197_148 ?_
  refine q_icmp_ne (tgt := 160) d197_149 rfl (fun _ => ?_) (fun h => absurd h (by decide))
  refine q_iload_n d197_160 rfl ?_
  refine q_iconst (v := 4) (by decide) d197_161 ?_
  refine q_icmp_ne (tgt := 173) d197_162 rfl (fun _ => ?_) (fun h => absurd h (by decide))
  refine q_iload_n d197_173 rfl ?_
  refine q_iconst (v := 5) (by decide) d197_174 ?_
  refine q_icmp_ne (tgt := 186) d197_175 rfl (fun _ => ?_) (fun h => absurd h (by decide))
  refine q_iload_n d197_186 rfl ?_
  refine q_bipush (v := 6) (by decide) d197_187 ?_
  refine q_icmp_ne (tgt := 208) d197_189 rfl (fun _ => ?_) (fun h => absurd h (by decide))
  refine q_iload_n d197_208 rfl ?_
  refine q_bipush (v := 7) (by decide) d197_209 ?_
  refine q_icmp_ne (tgt := 230) d197_211 rfl (fun _ => ?_) (fun h => absurd h (by decide))
  refine q_iload_n d197_230 rfl ?_
  refine q_bipush (v := 8) (by decide) d197_231 ?_
  refine q_icmp_ne (tgt := 254) d197_233 rfl (fun _ => ?_) (fun h => absurd h (by decide))
  refine q_dload d197_254 rfl ?_
  refine q_dload d197_256 rfl ?_
  refine q_dcmp d197_258 ?_
  refine q_if_le (tgt := 267) d197_259 rfl (fun h1t => ?_) (fun h1f => ?_)
  ·
    have h1tc : dgt y x = false := dc_l_le_t h1t
    refine q_dload d197_267 rfl ?_
    refine q_dstore (L' := [some (.ref 260), some (.int (nI c)), some (.int 9), some (.int (nI p)), some (.double x), none, some (.double y), none, some (.double x), none]) d197_269 (Nat.le_of_ble_eq_true rfl) rfl ?_
    refine q_aload_n d197_271 rfl ?_
    refine q_getR (x := 419) d197_272 (fs10_93 197 rfl) rfl (lt_w1 rfl) sh260 (rs260_27 R) (by decide) ?_
    refine q_iload_n d197_275 rfl ?_
    refine q_dload d197_276 rfl ?_
    refine q_dastore (a := p) d197_278 (lt_w1 rfl) sh419 rfl (by omega) ?_
    refine q_iload_n d197_279 rfl ?_
    refine q_iconst (v := 4) (by decide) d197_280 ?_
    refine q_icmp_gt (tgt := 316) d197_281 rfl (fun _ => ?_) (fun h => absurd h (by decide))
    exact q_ret d197_316 rfl (Nat.le_refl _) (Nat.le_refl _) (v1 h1tc)
  ·
    have h1fc : dgt y x = true := dc_l_le_f h1f
    refine q_dload d197_262 rfl ?_
    refine q_goto (tgt := 269) d197_264 rfl ?_
    refine q_dstore (L' := [some (.ref 260), some (.int (nI c)), some (.int 9), some (.int (nI p)), some (.double x), none, some (.double y), none, some (.double y), none]) d197_269 (Nat.le_of_ble_eq_true rfl) rfl ?_
    refine q_aload_n d197_271 rfl ?_
    refine q_getR (x := 419) d197_272 (fs10_93 197 rfl) rfl (lt_w1 rfl) sh260 (rs260_27 R) (by decide) ?_
    refine q_iload_n d197_275 rfl ?_
    refine q_dload d197_276 rfl ?_
    refine q_dastore (a := p) d197_278 (lt_w1 rfl) sh419 rfl (by omega) ?_
    refine q_iload_n d197_279 rfl ?_
    refine q_iconst (v := 4) (by decide) d197_280 ?_
    refine q_icmp_gt (tgt := 316) d197_281 rfl (fun _ => ?_) (fun h => absurd h (by decide))
    exact q_ret d197_316 rfl (Nat.le_refl _) (Nat.le_refl _) (v2 h1fc)

set_option maxRecDepth 10000 in
set_option maxHeartbeats 4000000 in
theorem u190e {d : Nat} {I : Nat → Nat → Int32} {D : Nat → Nat → UInt64} {R : Nat → Nat → Option Nat} {Q : j_Po}    (hd : 0 ≤ d)
    (v1 : j_W 190 d 0 0 0 0 2 [some (.ref 260), some (.int 0)] [] w1 (I, D, RR R) Q) : j_Call d 190 [.ref 260] w1 (I, D, RR R) 0 0 Q := by
  refine q_enter (L := [some (.ref 260), none]) j_m190 (Nat.le_of_ble_eq_true rfl) rfl ?_
  refine q_iconst (v := 0) (by decide) d190_0 ?_
  refine q_istore_n (L' := [some (.ref 260), some (.int 0)]) d190_1 (Nat.le_of_ble_eq_true rfl) rfl ?_
  exact r_sub (L' := [some (.ref 260), some (.int 0)]) ⟨rfl, rfl, trivial⟩ v1

set_option maxRecDepth 10000 in
set_option maxHeartbeats 4000000 in
theorem u190h {d : Nat} {I : Nat → Nat → Int32} {D : Nat → Nat → UInt64} {R : Nat → Nat → Option Nat} {Q : j_Po} {k : Nat} {l : Nat} (h18 : I 260 18 = nI l) (hl : l < 7) (hk : k ≤ 24) (hd : 0 ≤ d)
    (v1 : (24 ≤ k) → j_W 190 d 0 0 0 0 26 [some (.ref 260), none] [] w1 (I, D, RR R) Q)
    (v2 : (¬ 24 ≤ k) → j_W 190 d 0 0 0 0 2 [some (.ref 260), some (.int (nI (k + 1)))] [] w1 ((j_u I (364 + l) k 0), D, RR R) Q) : j_W 190 d 0 0 0 0 2 [some (.ref 260), some (.int (nI k))] [] w1 (I, D, RR R) Q := by
  refine q_iload_n d190_2 rfl ?_
  refine q_bipush (v := 24) (by decide) d190_3 ?_
  refine q_icmp_ge (tgt := 26) d190_5 rfl (fun h1t => ?_) (fun h1f => ?_)
  ·
    have h1tc : 24 ≤ k := (nI_leI (by omega) (by omega)).mp h1t
    exact r_sub (L' := [some (.ref 260), none]) ⟨rfl, trivial⟩ (v1 h1tc)
  ·
    have h1fc : ¬ 24 ≤ k := mt (nI_leI (by omega) (by omega)).mpr h1f
    refine q_aload_n d190_8 rfl ?_
    refine q_getR (x := 363) d190_9 (fs10_72 190 rfl) rfl (lt_w1 rfl) sh260 (rs260_19 R) (by decide) ?_
    refine q_aload_n d190_12 rfl ?_
    refine q_getI d190_13 (fs10_247 190 rfl) rfl (lt_w1 rfl) sh260 ?_
    refine r_int (y := (nI l)) (show I 260 18 = (nI l) from h18) ?_
    refine q_aaload (c := 5) (a := l) (x := (364 + l)) d190_16 (lt_w1 rfl) sh363 (by decide) rfl (by omega) (rm363 R (by omega)) (lt1000 (lm363 (by omega))) ?_
    refine q_iload_n d190_17 rfl ?_
    refine q_iconst (v := 0) (by decide) d190_18 ?_
    refine q_zastore (a := k) d190_19 (Or.inl rfl) (lm363 (by omega)) (sm363 (by omega)) rfl (by omega) ?_
    refine q_iinc (L' := [some (.ref 260), some (.int (nI (k + 1)))]) (v := (nI (k + 1))) d190_20 rfl (nI_inc _) rfl ?_
    refine q_goto (tgt := 2) d190_23 rfl ?_
    exact r_sub (L' := [some (.ref 260), some (.int (nI (k + 1)))]) ⟨rfl, rfl, trivial⟩ (v2 h1fc)

set_option maxRecDepth 10000 in
set_option maxHeartbeats 4000000 in
theorem u190m {d : Nat} {I : Nat → Nat → Int32} {D : Nat → Nat → UInt64} {R : Nat → Nat → Option Nat} {Q : j_Po}    (hd : 0 ≤ d)
    (v1 : j_W 190 d 0 0 0 0 28 [some (.ref 260), some (.int 0)] [] w1 (I, D, RR R) Q) : j_W 190 d 0 0 0 0 26 [some (.ref 260), none] [] w1 (I, D, RR R) Q := by
  refine q_iconst (v := 0) (by decide) d190_26 ?_
  refine q_istore_n (L' := [some (.ref 260), some (.int 0)]) d190_27 (Nat.le_of_ble_eq_true rfl) rfl ?_
  exact r_sub (L' := [some (.ref 260), some (.int 0)]) ⟨rfl, rfl, trivial⟩ v1

set_option maxRecDepth 10000 in
set_option maxHeartbeats 4000000 in
theorem u190t {d : Nat} {I : Nat → Nat → Int32} {D : Nat → Nat → UInt64} {R : Nat → Nat → Option Nat} {Q : j_Po} {k : Nat} {l : Nat} (h18 : I 260 18 = nI l) (hl : l < 7) (hk : k ≤ 6) (hd : 0 ≤ d)
    (v1 : (6 ≤ k) → Q none w1 (I, D, RR R))
    (v2 : (¬ 6 ≤ k) → j_W 190 d 0 0 0 0 28 [some (.ref 260), some (.int (nI (k + 1)))] [] w1 ((j_u I (396 + l) k 0), D, RR R) Q) : j_W 190 d 0 0 0 0 28 [some (.ref 260), some (.int (nI k))] [] w1 (I, D, RR R) Q := by
  refine q_iload_n d190_28 rfl ?_
  refine q_bipush (v := 6) (by decide) d190_29 ?_
  refine q_icmp_ge (tgt := 52) d190_31 rfl (fun h1t => ?_) (fun h1f => ?_)
  ·
    have h1tc : 6 ≤ k := (nI_leI (by omega) (by omega)).mp h1t
    exact q_ret d190_52 rfl (Nat.le_refl _) (Nat.le_refl _) (v1 h1tc)
  ·
    have h1fc : ¬ 6 ≤ k := mt (nI_leI (by omega) (by omega)).mpr h1f
    refine q_aload_n d190_34 rfl ?_
    refine q_getR (x := 395) d190_35 (fs10_84 190 rfl) rfl (lt_w1 rfl) sh260 (rs260_23 R) (by decide) ?_
    refine q_aload_n d190_38 rfl ?_
    refine q_getI d190_39 (fs10_247 190 rfl) rfl (lt_w1 rfl) sh260 ?_
    refine r_int (y := (nI l)) (show I 260 18 = (nI l) from h18) ?_
    refine q_aaload (c := 5) (a := l) (x := (396 + l)) d190_42 (lt_w1 rfl) sh395 (by decide) rfl (by omega) (rm395 R (by omega)) (lt1000 (lm395 (by omega))) ?_
    refine q_iload_n d190_43 rfl ?_
    refine q_iconst (v := 0) (by decide) d190_44 ?_
    refine q_zastore (a := k) d190_45 (Or.inl rfl) (lm395 (by omega)) (sm395 (by omega)) rfl (by omega) ?_
    refine q_iinc (L' := [some (.ref 260), some (.int (nI (k + 1)))]) (v := (nI (k + 1))) d190_46 rfl (nI_inc _) rfl ?_
    refine q_goto (tgt := 28) d190_49 rfl ?_
    exact r_sub (L' := [some (.ref 260), some (.int (nI (k + 1)))]) ⟨rfl, rfl, trivial⟩ (v2 h1fc)

/-- a value against what stands on the reference's heap -/
def VQ (e b : Int32) (x : UInt64) (v : Vl) : Prop := e = nI (v.1 / 32) ∧ b = (if v.1 = 0 then -1 else nI (v.1 % 32)) ∧ (v.1 = 0 → x = v.2 ∧ Sm x) ∧ v.1 < 200 ∧ (v.1 = 0 ∨ 32 ≤ v.1)
def SQ (I : Nat → Nat → Int32) (D : Nat → Nat → UInt64) (b h : Nat) (s : Nat → Vl) : Prop := I 260 26 = nI (b + h) ∧ ∀ i, i < h → VQ (I 420 (b + i)) (I 421 (b + i)) (D 419 (b + i)) (s i)
def FQ (b : Nat) (I : Nat → Nat → Int32) (D : Nat → Nat → UInt64) (I' : Nat → Nat → Int32) (D' : Nat → Nat → UInt64) : Prop := (∀ q, q ≠ 260 → q ≠ 420 → q ≠ 421 → I' q = I q) ∧ (∀ i, i ≠ 26 → I' 260 i = I 260 i) ∧ (∀ i, i < b → I' 420 i = I 420 i ∧ I' 421 i = I 421 i) ∧ (∀ q, q ≠ 419 → D' q = D q) ∧ ∀ i, i < b → D' 419 i = D 419 i
section SH
variable {d : Nat} {I : Nat → Nat → Int32} {D : Nat → Nat → UInt64} {R : Nat → Nat → Option Nat} {Q : j_Po}
theorem VQ.k {x : UInt64} (hx : Sm x) : VQ 0 (-1) x (0, x) := ⟨(by show (0 : Int32) = nI (0 / 32); decide), rfl, fun _ => ⟨rfl, hx⟩, Nat.zero_lt_succ _, Or.inl rfl⟩
theorem VQ.w {x : UInt64} {e b : Nat} {y : UInt64} (he : 1 ≤ e) (he2 : e ≤ 4) (hb : b < 24) : VQ (nI e) (nI b) x (e * 32 + b, y) := by
  refine ⟨by show nI e = nI ((e * 32 + b) / 32); rw [show (e * 32 + b) / 32 = e by omega], ?_, fun h => absurd h (by simp only; omega), by simp only; omega, Or.inr (by simp only; omega)⟩
  show nI b = if e * 32 + b = 0 then -1 else nI ((e * 32 + b) % 32)
  rw [if_neg (by omega), show (e * 32 + b) % 32 = b by omega]
theorem VQ.z {e b : Int32} {x : UInt64} {v : Vl} (h : VQ e b x v) : e = 0 ↔ v.1 = 0 := by
  obtain ⟨h1, -, -, h4, h5⟩ := h
  rw [h1, show (0 : Int32) = nI 0 from rfl, nI_eq (by omega) (by decide)]; omega
theorem c193 {b h : Nat} {s : Nat → Vl} {x : UInt64} {e c : Int32} {v : Vl} (hs : SQ I D b h s) (hb : b + h < 4800) (hv : VQ e (if e = 0 then -1 else c) x v) (hq : ∀ I' D', SQ I' D' b (h + 1) (fu s h v) → FQ b I D I' D' → Q none w1 (I', D', RR R)) : j_Call d 193 [.ref 260, .double x, .int e, .int c] w1 (I, D, RR R) 0 0 Q := by
  have fr : ∀ c' : Int32, FQ b I D (j_u (j_u (j_u I 420 (b + h) e) 421 (b + h) c') 260 26 (nI (b + h + 1))) (j_u D 419 (b + h) x) := fun c' => ⟨fun q a1 a2 a3 => by funext i; rw [j_u_o _ _ _ a1, j_u_o _ _ _ a3, j_u_o _ _ _ a2], fun i a => by rw [j_u_k _ _ a, j_u_o _ _ _ (by decide), j_u_o _ _ _ (by decide)], fun i a => ⟨by rw [j_u_o _ _ _ (by decide), j_u_o _ _ _ (by decide), j_u_k _ _ (by omega)], by rw [j_u_o _ _ _ (by decide), j_u_k _ _ (by omega), j_u_o _ _ _ (by decide)]⟩, fun q a => by funext i; rw [j_u_o _ _ _ a], fun i a => by rw [j_u_k _ _ (by omega)]⟩
  have sq : ∀ c' : Int32, VQ e c' x v → SQ (j_u (j_u (j_u I 420 (b + h) e) 421 (b + h) c') 260 26 (nI (b + h + 1))) (j_u D 419 (b + h) x) b (h + 1) (fu s h v) := fun c' hv' => ⟨by rw [j_u_same]; rfl, fun i hi => by
    by_cases e2 : i = h
    · subst e2
      have g1 : j_u (j_u (j_u I 420 (b + i) e) 421 (b + i) c') 260 26 (nI (b + i + 1)) 420 (b + i) = e := by rw [j_u_o _ _ _ (by decide), j_u_o _ _ _ (by decide), j_u_same]
      have g2 : j_u (j_u (j_u I 420 (b + i) e) 421 (b + i) c') 260 26 (nI (b + i + 1)) 421 (b + i) = c' := by rw [j_u_o _ _ _ (by decide), j_u_same]
      rw [g1, g2, j_u_same, fu_s]; exact hv'
    · have g1 : j_u (j_u (j_u I 420 (b + h) e) 421 (b + h) c') 260 26 (nI (b + h + 1)) 420 (b + i) = I 420 (b + i) := by rw [j_u_o _ _ _ (by decide), j_u_o _ _ _ (by decide), j_u_k _ _ (by omega)]
      have g2 : j_u (j_u (j_u I 420 (b + h) e) 421 (b + h) c') 260 26 (nI (b + h + 1)) 421 (b + i) = I 421 (b + i) := by rw [j_u_o _ _ _ (by decide), j_u_k _ _ (by omega), j_u_o _ _ _ (by decide)]
      rw [g1, g2, j_u_k _ _ (by omega), fu_n e2]; exact hs.2 i (by omega)⟩
  refine u193 hs.1 hb (Nat.zero_le _) (fun h0 => ?_) (fun h0 => ?_)
  · rw [if_neg h0] at hv; exact hq _ _ (sq _ hv) (fr _)
  · rw [if_pos h0] at hv; exact hq _ _ (sq _ hv) (fr _)
theorem c196 {b h : Nat} {s : Nat → Vl} (hs : SQ I D b h s) (hb : b + h < 4799) (h3 : 3 ≤ h) (hq : ∀ I' D', SQ I' D' b (h - 2) (fu s (h - 3) (pickV (s (h - 3)) (s (h - 2)) (s (h - 1)))) → FQ b I D I' D' → Q none w1 (I', D', RR R)) : j_Call d 196 [.ref 260] w1 (I, D, RR R) 0 0 Q := by
  have hv := hs.2 (h - 3) (by omega)
  have e3 : b + h - 2 - 1 = b + (h - 3) := by omega
  have e2 : b + h - 2 = b + (h - 2) := by omega
  have e1 : b + h - 2 + 1 = b + (h - 1) := by omega
  have fs : ∀ (x z : Int32) (y : UInt64), FQ b I D (j_u (j_u (j_u I 260 26 (nI (b + h - 2))) 420 (b + h - 2 - 1) x) 421 (b + h - 2 - 1) z) (j_u D 419 (b + h - 2 - 1) y) := fun x z y => ⟨fun q a1 a2 a3 => by funext i; rw [j_u_o _ _ _ a3, j_u_o _ _ _ a2, j_u_o _ _ _ a1], fun i a => by rw [j_u_o _ _ _ (by decide), j_u_o _ _ _ (by decide), j_u_k _ _ a], fun i a => ⟨by rw [j_u_o _ _ _ (by decide), j_u_k _ _ (by omega), j_u_o _ _ _ (by decide)], by rw [j_u_k _ _ (by omega), j_u_o _ _ _ (by decide), j_u_o _ _ _ (by decide)]⟩, fun q a => by funext i; rw [j_u_o _ _ _ a], fun i a => by rw [j_u_k _ _ (by omega)]⟩
  have sv : ∀ j, (j = h - 1 ∨ j = h - 2 ∨ j = h - 3) → pickV (s (h - 3)) (s (h - 2)) (s (h - 1)) = s j → SQ (j_u (j_u (j_u I 260 26 (nI (b + h - 2))) 420 (b + h - 2 - 1) (I 420 (b + j))) 421 (b + h - 2 - 1) (I 421 (b + j))) (j_u D 419 (b + h - 2 - 1) (D 419 (b + j))) b (h - 2) (fu s (h - 3) (pickV (s (h - 3)) (s (h - 2)) (s (h - 1)))) := by
    intro j hj hp
    refine ⟨by rw [j_u_o _ _ _ (by decide), j_u_o _ _ _ (by decide), j_u_same, e2], fun i hi => ?_⟩
    by_cases e : i = h - 3
    · subst e
      have g1 : j_u (j_u (j_u I 260 26 (nI (b + h - 2))) 420 (b + h - 2 - 1) (I 420 (b + j))) 421 (b + h - 2 - 1) (I 421 (b + j)) 420 (b + (h - 3)) = I 420 (b + j) := by rw [e3, j_u_o _ _ _ (by decide), j_u_same]
      have g2 : j_u (j_u (j_u I 260 26 (nI (b + h - 2))) 420 (b + h - 2 - 1) (I 420 (b + j))) 421 (b + h - 2 - 1) (I 421 (b + j)) 421 (b + (h - 3)) = I 421 (b + j) := by rw [e3, j_u_same]
      rw [g1, g2, e3, j_u_same, fu_s, hp]; exact hs.2 j (by omega)
    · have g1 : j_u (j_u (j_u I 260 26 (nI (b + h - 2))) 420 (b + h - 2 - 1) (I 420 (b + j))) 421 (b + h - 2 - 1) (I 421 (b + j)) 420 (b + i) = I 420 (b + i) := by rw [j_u_o _ _ _ (by decide), j_u_k _ _ (by omega), j_u_o _ _ _ (by decide)]
      have g2 : j_u (j_u (j_u I 260 26 (nI (b + h - 2))) 420 (b + h - 2 - 1) (I 420 (b + j))) 421 (b + h - 2 - 1) (I 421 (b + j)) 421 (b + i) = I 421 (b + i) := by rw [j_u_k _ _ (by omega), j_u_o _ _ _ (by decide), j_u_o _ _ _ (by decide)]
      rw [g1, g2, j_u_k _ _ (by omega), fu_n e]; exact hs.2 i (by omega)
  refine u196 hs.1 hb (by omega) (Nat.zero_le _) (fun w0 hd0 => ?_) (fun w0 hd0 => ?_) (fun w0 => ?_)
  · rw [e3] at w0 hd0
    have z0 := hv.z.mp w0
    have hp : pickV (s (h - 3)) (s (h - 2)) (s (h - 1)) = s (h - 1) := by
      unfold pickV
      rw [if_neg (fun q => q z0), ← (hv.2.2.1 z0).1, if_pos hd0]
    rw [e1]
    exact hq _ _ (sv (h - 1) (Or.inl rfl) hp) (fs _ _ _)
  · rw [e3] at w0 hd0
    have z0 := hv.z.mp w0
    have hp : pickV (s (h - 3)) (s (h - 2)) (s (h - 1)) = s (h - 2) := by
      unfold pickV
      rw [if_neg (fun q => q z0), ← (hv.2.2.1 z0).1, if_neg (by rw [hd0]; simp)]
    have := hq _ _ (sv (h - 2) (Or.inr (Or.inl rfl)) hp) (fs _ _ _)
    rw [← e2] at this
    exact this
  · rw [e3] at w0
    have z0 : (s (h - 3)).1 ≠ 0 := fun q => w0 (hv.z.mpr q)
    have hp : pickV (s (h - 3)) (s (h - 2)) (s (h - 1)) = s (h - 3) := by unfold pickV; rw [if_pos z0]
    have := hq _ _ (sv (h - 3) (Or.inr (Or.inr rfl)) hp) (fs _ _ _)
    rw [← e3] at this
    exact this
theorem c197b {a c p : Nat} {x y : UInt64} (ha : 3 ≤ a) (ha2 : a ≤ 11) (hx : Sm x) (hy : Sm y) (hp : p < 4800) (hd : 1 ≤ d)
    (hb : ∀ z, (twoV a c (0, x) (0, y)).1 ≠ 0 → Q none w1 (j_u (j_u I 420 p (nI ((twoV a c (0, x) (0, y)).1 / 32))) 421 p (nI ((twoV a c (0, x) (0, y)).1 % 32)), z, RR R) ∨ ¬ (z = D ∨ ∃ u, z = j_u D 419 p u))
    (hk : (twoV a c (0, x) (0, y)).1 = 0 → Sm (twoV a c (0, x) (0, y)).2 → Q none w1 (I, j_u D 419 p (twoV a c (0, x) (0, y)).2, RR R)) (hc : c < 24) : j_W 197 d 0 0 0 0 89 [some (.ref 260), some (.int (nI c)), some (.int (nI (a - 2))), some (.int (nI p)), some (.double x), none, some (.double y), none, none, none] [] w1 (I, D, RR R) Q := by
  have far : ∀ z, a ≤ 6 → vf_n64 z → opV a x y = z → ((a = 6 ∨ a = 7) → deq y FP.dconst0 = false) → (dgt z 4786511204640096256 = true → Q none w1 (j_u (j_u I 420 p 3) 421 p (nI c), j_u D 419 p z, RR R)) ∧ (dgt z 4786511204640096256 = false → dlt z 14009883241494872064 = false → Q none w1 (I, j_u D 419 p z, RR R)) ∧ (dgt z 4786511204640096256 = false → dlt z 14009883241494872064 = true → Q none w1 (j_u (j_u I 420 p 3) 421 p (nI c), j_u D 419 p z, RR R)) := by
    intro z h6 hn hz h0
    have e : twoV a c (0, x) (0, y) = if farB z = true then (96 + c, FP.dconst0) else (0, z) := by
      unfold twoV
      rw [if_neg (by simp), if_neg (by simp), hz]
      rw [if_neg (show ¬ ((a = 6 ∨ a = 7) ∧ deq y FP.dconst0 = true) from fun h => by rw [h0 h.1] at h; exact absurd h.2 (by simp))]
      by_cases hf : farB z = true
      · rw [if_pos ⟨h6, hf⟩, if_pos hf]
      · rw [if_neg (fun h => hf h.2), if_neg hf]
    rw [e] at hb hk
    have bad : farB z = true → Q none w1 (j_u (j_u I 420 p 3) 421 p (nI c), j_u D 419 p z, RR R) := fun h => by
      rw [if_pos h] at hb
      have := (hb (j_u D 419 p z) (by simp only; omega)).resolve_right (fun q => q (Or.inr ⟨z, rfl⟩))
      rw [show (96 + c, FP.dconst0).1 / 32 = 3 by simp only; omega, show (96 + c, FP.dconst0).1 % 32 = c by simp only; omega] at this
      exact this
    refine ⟨fun h => bad (farB_1 h), fun h h2 => ?_, fun h h2 => bad (farB_2 h h2)⟩
    rw [if_neg (by rw [farB_f h h2]; simp)] at hk
    exact hk rfl (sm_far hn h h2)
  have nofar : ∀ z, 7 ≤ a → Sm z → opV a x y = z → (a = 7 → deq y FP.dconst0 = false) → Q none w1 (I, j_u D 419 p z, RR R) := by
    intro z h6 hn hz h0
    have e : twoV a c (0, x) (0, y) = (0, z) := by
      unfold twoV
      rw [if_neg (by simp), if_neg (by simp), hz]
      rw [if_neg (show ¬ ((a = 6 ∨ a = 7) ∧ deq y FP.dconst0 = true) from fun h => by rw [h0 (by omega)] at h; exact absurd h.2 (by simp)), if_neg (by omega)]
    rw [e] at hk
    exact hk rfl hn
  have zero : (a = 6 ∨ a = 7) → deq y FP.dconst0 = true → Q none w1 (j_u (j_u I 420 p 2) 421 p (nI c), D, RR R) := by
    intro h6 h0
    have e : twoV a c (0, x) (0, y) = (64 + c, FP.dconst0) := by
      unfold twoV
      rw [if_neg (by simp), if_neg (by simp), if_pos ⟨h6, h0⟩]
    rw [e] at hb
    have := (hb D (by simp only; omega)).resolve_right (fun q => q (Or.inl rfl))
    rw [show (64 + c, FP.dconst0).1 / 32 = 2 by simp only; omega, show (64 + c, FP.dconst0).1 % 32 = c by simp only; omega] at this
    exact this
  have fx := fi_lib.mpr hx.1
  have fy := fi_lib.mpr hy.1
  have hcase : a = 3 ∨ a = 4 ∨ a = 5 ∨ a = 6 ∨ a = 7 ∨ a = 8 ∨ a = 9 ∨ a = 10 ∨ a = 11 := by omega
  rcases hcase with rfl | rfl | rfl | rfl | rfl | rfl | rfl | rfl | rfl
  · have hn := Jvm.Free.Fl.dadd_out (fi_nn hx.1) fy
    have k := far _ (by decide) hn rfl (fun h => by omega)
    exact u197_1 hp hd hn k.1 k.2.1 k.2.2
  · have hn := Jvm.Free.Fl.dsub_out (fi_nn hx.1) fy
    have k := far _ (by decide) hn rfl (fun h => by omega)
    exact u197_2 hp hd hn k.1 k.2.1 k.2.2
  · have hn := Jvm.Free.Fl.dmul_out fx fy
    have k := far _ (by decide) hn rfl (fun h => by omega)
    exact u197_3 hp hd hn k.1 k.2.1 k.2.2
  · have hn := fun h0 => Jvm.Free.Fl.ddiv_out (fi_nn hx.1) fy (nz_of hy.1 (deq0 hy.1 h0))
    have k := fun h0 => far _ (by decide) (hn h0) rfl (fun _ => h0)
    exact u197_4 hp hd (fun h => hn h) (fun h => (k h).1) (fun h => (k h).2.1) (fun h => (k h).2.2) (zero (Or.inl rfl))
  · exact u197_5 hp hd (fun h => fi_nn (sm_drem hx hy.1 (deq0 hy.1 h)).1) (fun h => nofar _ (by decide) (sm_drem hx hy.1 (deq0 hy.1 h)) rfl (fun _ => h)) (zero (Or.inr rfl))
  · exact u197_6 hp hd (fun h => nofar _ (by decide) sm_0 (by show (if dlt x y = true then FP.dconst1 else FP.dconst0) = _; rw [h]; rfl) (fun h => by omega)) (fun h => nofar _ (by decide) sm_1 (by show (if dlt x y = true then FP.dconst1 else FP.dconst0) = _; rw [h]; rfl) (fun h => by omega))
  · exact u197_7 hp hd (fun h => nofar _ (by decide) sm_0 (by show (if deq x y = true then FP.dconst1 else FP.dconst0) = _; rw [h]; rfl) (fun h => by omega)) (fun h => nofar _ (by decide) sm_1 (by show (if deq x y = true then FP.dconst1 else FP.dconst0) = _; rw [h]; rfl) (fun h => by omega))
  · exact u197_8 hp hd (fun h => nofar _ (by decide) hx (by show (if dlt y x = true then y else x) = _; rw [h]; rfl) (fun h => by omega)) (fun h => nofar _ (by decide) hy (by show (if dlt y x = true then y else x) = _; rw [h]; rfl) (fun h => by omega))
  · exact u197_9 hp hd (fun h => nofar _ (by decide) hx (by show (if dgt y x = true then y else x) = _; rw [h]; rfl) (fun h => by omega)) (fun h => nofar _ (by decide) hy (by show (if dgt y x = true then y else x) = _; rw [h]; rfl) (fun h => by omega))
theorem twoV_b {a c : Nat} {x y : UInt64} (hc : c < 24) : (twoV a c (0, x) (0, y)).1 = 0 ∨ (twoV a c (0, x) (0, y)).1 = 64 + c ∨ (twoV a c (0, x) (0, y)).1 = 96 + c := by
  unfold twoV
  rw [if_neg (by simp), if_neg (by simp)]
  split
  · exact Or.inr (Or.inl rfl)
  · split
    · exact Or.inr (Or.inr rfl)
    · exact Or.inl rfl
theorem c197 {b h a c : Nat} {s : Nat → Vl} (hs : SQ I D b h s) (hb : b + h < 4800) (h2 : 2 ≤ h) (ha : 3 ≤ a) (ha2 : a ≤ 11) (hc : c < 24) (hd : 1 ≤ d) (hq : ∀ I' D', SQ I' D' b (h - 1) (fu s (h - 2) (twoV a c (s (h - 2)) (s (h - 1)))) → FQ b I D I' D' → Q none w1 (I', D', RR R)) : j_Call d 197 [.ref 260, .int (nI c), .int (nI (a - 2))] w1 (I, D, RR R) 0 0 Q := by
  have hu := hs.2 (h - 2) (by omega)
  have hv := hs.2 (h - 1) (by omega)
  have e2 : b + h - 1 - 1 = b + (h - 2) := by omega
  have e1 : b + h - 1 = b + (h - 1) := by omega
  have fs : ∀ I2 D2, (I2 = j_u I 260 26 (nI (b + (h - 1))) ∨ ∃ x z, I2 = j_u (j_u (j_u I 260 26 (nI (b + (h - 1)))) 420 (b + (h - 2)) x) 421 (b + (h - 2)) z) → (D2 = D ∨ ∃ u, D2 = j_u D 419 (b + (h - 2)) u) → FQ b I D I2 D2 := by
    intro I2 D2 h1 h1'
    refine ⟨fun q a1 a2 a3 => ?_, fun i a => ?_, fun i a => ⟨?_, ?_⟩, fun q a => ?_, fun i a => ?_⟩
    · rcases h1 with rfl | ⟨x, z, rfl⟩
      · funext i; rw [j_u_o _ _ _ a1]
      · funext i; rw [j_u_o _ _ _ a3, j_u_o _ _ _ a2, j_u_o _ _ _ a1]
    · rcases h1 with rfl | ⟨x, z, rfl⟩
      · rw [j_u_k _ _ a]
      · rw [j_u_o _ _ _ (by decide), j_u_o _ _ _ (by decide), j_u_k _ _ a]
    · rcases h1 with rfl | ⟨x, z, rfl⟩
      · rw [j_u_o _ _ _ (by decide)]
      · rw [j_u_o _ _ _ (by decide), j_u_k _ _ (by omega), j_u_o _ _ _ (by decide)]
    · rcases h1 with rfl | ⟨x, z, rfl⟩
      · rw [j_u_o _ _ _ (by decide)]
      · rw [j_u_k _ _ (by omega), j_u_o _ _ _ (by decide), j_u_o _ _ _ (by decide)]
    · rcases h1' with rfl | ⟨u, rfl⟩
      · rfl
      · funext i; rw [j_u_o _ _ _ a]
    · rcases h1' with rfl | ⟨u, rfl⟩
      · rfl
      · rw [j_u_k _ _ (by omega)]
  have old : ∀ (I2 : Nat → Nat → Int32) (D2 : Nat → Nat → UInt64) (i : Nat), FQ b I D I2 D2 → True := fun _ _ _ _ => trivial
  refine u197e hs.1 hb (by omega) (Nat.zero_le _) (fun z0 z1 => ?_) (fun z0 z1 => ?_) (fun z0 => ?_)
  · rw [e2] at z0
    rw [e1] at z1
    have w0 := hu.z.mp z0
    have w1' := hv.z.mp z1
    have eu : s (h - 2) = (0, D 419 (b + (h - 2))) := Prod.ext w0 (hu.2.2.1 w0).1.symm
    have ev : s (h - 1) = (0, D 419 (b + (h - 1))) := Prod.ext w1' (hv.2.2.1 w1').1.symm
    have b0 := hu.2.1
    rw [w0, if_pos rfl] at b0
    rw [e2, e1]
    have others : ∀ (D2 : Nat → Nat → UInt64) (I2 : Nat → Nat → Int32), (∀ i, i ≠ b + (h - 2) → I2 420 i = I 420 i ∧ I2 421 i = I 421 i ∧ D2 419 i = D 419 i) → VQ (I2 420 (b + (h - 2))) (I2 421 (b + (h - 2))) (D2 419 (b + (h - 2))) (twoV a c (s (h - 2)) (s (h - 1))) → I2 260 26 = nI (b + (h - 1)) → SQ I2 D2 b (h - 1) (fu s (h - 2) (twoV a c (s (h - 2)) (s (h - 1)))) := by
      intro D2 I2 q1 q2 q3
      refine ⟨q3, fun i hi => ?_⟩
      by_cases e : i = h - 2
      · subst e; rw [fu_s]; exact q2
      · obtain ⟨g1, g2, g3⟩ := q1 (b + i) (by omega)
        rw [g1, g2, g3, fu_n e]; exact hs.2 i (by omega)
    refine c197b (p := b + (h - 2)) ha ha2 (hu.2.2.1 w0).2 (hv.2.2.1 w1').2 (by omega) hd (fun z g1 => ?_) (fun g1 g2 => ?_) hc
    · by_cases hz : z = D ∨ ∃ u, z = j_u D 419 (b + (h - 2)) u
      · refine Or.inl ?_
        have g9 := twoV_b (a := a) (c := c) (x := D 419 (b + (h - 2))) (y := D 419 (b + (h - 1))) hc
        rw [← eu, ← ev] at g1 g9 ⊢
        refine hq _ _ (others _ _ (fun i hi => ⟨?_, ?_, ?_⟩) ?_ ?_) (fs _ _ (Or.inr ⟨_, _, rfl⟩) hz)
        · rw [j_u_o _ _ _ (by decide), j_u_k _ _ hi, j_u_o _ _ _ (by decide)]
        · rw [j_u_k _ _ hi, j_u_o _ _ _ (by decide), j_u_o _ _ _ (by decide)]
        · rcases hz with rfl | ⟨u, rfl⟩
          · rfl
          · rw [j_u_k _ _ hi]
        · rw [j_u_o _ _ _ (by decide), j_u_same, j_u_same]
          exact ⟨rfl, by rw [if_neg g1], fun q => absurd q g1, by omega, by omega⟩
        · rw [j_u_o _ _ _ (by decide), j_u_o _ _ _ (by decide), j_u_same]
      · exact Or.inr hz
    · rw [← eu, ← ev] at g1 g2 ⊢
      refine hq _ _ (others _ _ (fun i hi => ⟨by rw [j_u_o _ _ _ (by decide)], by rw [j_u_o _ _ _ (by decide)], by rw [j_u_k _ _ hi]⟩) ?_ (by rw [j_u_same])) (fs _ _ (Or.inl rfl) (Or.inr ⟨_, rfl⟩))
      rw [j_u_o _ _ _ (by decide), j_u_o _ _ _ (by decide), j_u_same]
      exact ⟨by rw [z0, g1]; rfl, by rw [b0, g1, if_pos rfl], fun _ => ⟨rfl, g2⟩, by omega, Or.inl g1⟩
  · rw [e2] at z0
    rw [e1] at z1
    have w0 := hu.z.mp z0
    have w1' : (s (h - 1)).1 ≠ 0 := fun q => z1 (hv.z.mpr q)
    have et : twoV a c (s (h - 2)) (s (h - 1)) = s (h - 1) := by unfold twoV; rw [if_neg (fun q => q w0), if_pos w1']
    rw [e2, e1]
    refine hq _ _ ⟨by rw [j_u_o _ _ _ (by decide), j_u_o _ _ _ (by decide), j_u_same], fun i hi => ?_⟩ (fs _ _ (Or.inr ⟨_, _, rfl⟩) (Or.inl rfl))
    rw [et]
    by_cases e : i = h - 2
    · subst e
      rw [j_u_o _ _ _ (by decide : (420 : Nat) ≠ 421), j_u_same, j_u_same, fu_s]
      obtain ⟨v1, v2, v3, v4, v5⟩ := hv
      exact ⟨v1, v2, fun q => absurd q w1', v4, v5⟩
    · rw [j_u_o _ _ _ (by decide : (420 : Nat) ≠ 421), j_u_k _ _ (by omega), j_u_k _ _ (by omega), j_u_o _ _ _ (by decide), j_u_o _ _ _ (by decide), j_u_o _ _ _ (by decide), fu_n e]; exact hs.2 i (by omega)
  · rw [e2] at z0
    have w0 : (s (h - 2)).1 ≠ 0 := fun q => z0 (hu.z.mpr q)
    have et : twoV a c (s (h - 2)) (s (h - 1)) = s (h - 2) := by unfold twoV; rw [if_pos w0]
    rw [e1]
    refine hq _ _ ⟨by rw [j_u_same], fun i hi => ?_⟩ (fs _ _ (Or.inl rfl) (Or.inl rfl))
    rw [j_u_o _ _ _ (by decide), j_u_o _ _ _ (by decide), et]
    by_cases e : i = h - 2
    · subst e; rw [fu_s]; exact hs.2 _ (by omega)
    · rw [fu_n e]; exact hs.2 i (by omega)
/-- nothing is told at a depth -/
theorem c190 {l : Nat} (h18 : I 260 18 = nI l) (hl : l < 7) (hq : ∀ I', (∀ q, q ≠ 364 + l → q ≠ 396 + l → I' q = I q) → (∀ c, c < 24 → I' (364 + l) c = 0) → (∀ t, t < 6 → I' (396 + l) t = 0) → Q none w1 (I', D, RR R)) : j_Call d 190 [.ref 260] w1 (I, D, RR R) 0 0 Q := by
  have k2 : ∀ (r k : Nat) (J : Nat → Nat → Int32), r + k = 6 → (∀ q, q ≠ 364 + l → q ≠ 396 + l → J q = I q) → (∀ c, c < 24 → J (364 + l) c = 0) → (∀ t, t < k → J (396 + l) t = 0) → j_W 190 d 0 0 0 0 28 [some (.ref 260), some (.int (nI k))] [] w1 (J, D, RR R) Q := by
    intro r
    induction r with
    | zero =>
      intro k J hk h1 h2 h3
      have : k = 6 := by omega
      subst this
      exact u190t (by rw [h1 260 (by omega) (by omega)]; exact h18) hl (by decide) (Nat.zero_le _) (fun _ => hq J h1 h2 h3) (fun h => absurd (Nat.le_refl _) h)
    | succ r ih =>
      intro k J hk h1 h2 h3
      refine u190t (l := l) (by rw [h1 260 (by omega) (by omega)]; exact h18) hl (by omega) (Nat.zero_le _) (fun h => absurd h (by omega)) (fun _ => ih (k + 1) _ (by omega) (fun q a1 a2 => ?_) (fun c hc => ?_) (fun t ht => ?_))
      · rw [← h1 q a1 a2]; funext i; rw [j_u_o _ _ _ a2]
      · rw [j_u_o _ _ _ (by omega)]; exact h2 c hc
      · by_cases e : t = k
        · subst e; rw [j_u_same]
        · rw [j_u_k _ _ e]; exact h3 t (by omega)
  have k1 : ∀ (r k : Nat) (J : Nat → Nat → Int32), r + k = 24 → (∀ q, q ≠ 364 + l → q ≠ 396 + l → J q = I q) → (∀ c, c < k → J (364 + l) c = 0) → j_W 190 d 0 0 0 0 2 [some (.ref 260), some (.int (nI k))] [] w1 (J, D, RR R) Q := by
    intro r
    induction r with
    | zero =>
      intro k J hk h1 h2
      have : k = 24 := by omega
      subst this
      exact u190h (by rw [h1 260 (by omega) (by omega)]; exact h18) hl (by decide) (Nat.zero_le _) (fun _ => u190m (Nat.zero_le _) (k2 6 0 J rfl h1 h2 (fun t ht => absurd ht (Nat.not_lt_zero t)))) (fun h => absurd (Nat.le_refl _) h)
    | succ r ih =>
      intro k J hk h1 h2
      refine u190h (l := l) (by rw [h1 260 (by omega) (by omega)]; exact h18) hl (by omega) (Nat.zero_le _) (fun h => absurd h (by omega)) (fun _ => ih (k + 1) _ (by omega) (fun q a1 a2 => ?_) (fun c hc => ?_))
      · rw [← h1 q a1 a2]; funext i; rw [j_u_o _ _ _ a1]
      · by_cases e : c = k
        · subst e; rw [j_u_same]
        · rw [j_u_k _ _ e]; exact h2 c (by omega)
  exact u190e (Nat.zero_le _) (k1 24 0 I rfl (fun _ _ _ => rfl) (fun c hc => absurd hc (Nat.not_lt_zero c)))
end SH
