/-! feed -/
set_option maxRecDepth 10000 in
set_option maxHeartbeats 4000000 in
theorem c64 {d : Nat} {I : Nat → Nat → Int32} {D : Nat → Nat → UInt64} {R : Nat → Nat → Option Nat} {Q : j_Po} {b : Int32} {z : Nat} (hz : I 97 1 = nI z) (hz9 : z < 96) (hd : 0 ≤ d)
    (v1 : (96 ≤ z) → Q none w1 (I, D, RR R))
    (v2 : (¬ 96 ≤ z) → Q none w1 ((j_u (j_u I 97 1 (nI (z + 1))) 98 z b), D, RR R)) : j_Call d 64 [.ref 97, .int b] w1 (I, D, RR R) 0 0 Q := by
  refine q_enter (L := [some (.ref 97), some (.int b)]) j_m64 (Nat.le_of_ble_eq_true rfl) rfl ?_
  refine q_aload_n d64_0 rfl ?_
  refine q_getI d64_1 (fs5_22 64 rfl) rfl (lt_w1 rfl) sh97 ?_
  refine r_int (y := (nI z)) (show I 97 1 = (nI z) from hz) ?_
  refine q_bipush (v := 96) (by decide) d64_4 ?_
  refine q_icmp_ge (tgt := 26) d64_6 rfl (fun h1t => ?_) (fun h1f => ?_)
  ·
    have h1tc : 96 ≤ z := (nI_leI (by omega) (by omega)).mp h1t
    exact q_ret d64_26 rfl (Nat.le_refl _) (Nat.le_refl _) (v1 h1tc)
  ·
    have h1fc : ¬ 96 ≤ z := mt (nI_leI (by omega) (by omega)).mpr h1f
    refine q_aload_n d64_9 rfl ?_
    refine q_getR (x := 98) d64_10 (fs5_9 64 rfl) rfl (lt_w1 rfl) sh97 (rs97_0 R) (by decide) ?_
    refine q_aload_n d64_13 rfl ?_
    refine q_dup rfl d64_14 ?_
    refine q_getI d64_15 (fs5_22 64 rfl) rfl (lt_w1 rfl) sh97 ?_
    refine r_int (y := (nI z)) (show I 97 1 = (nI z) from hz) ?_
    refine q_dup_x1 rfl rfl d64_18 ?_
    refine q_iconst (v := 1) (by decide) d64_19 ?_
    refine q_iadd d64_20 ?_
    refine r_int (y := (nI (z + 1))) (nI_add z 1) ?_
    refine q_putI d64_21 (fs5_22 64 rfl) (Or.inl rfl) rfl (lt_w1 rfl) sh97 ?_
    refine q_iload_n d64_24 rfl ?_
    refine q_iastore (a := z) d64_25 (lt_w1 rfl) sh98 rfl (by omega) ?_
    exact q_ret d64_26 rfl (Nat.le_refl _) (Nat.le_refl _) (v2 h1fc)

theorem t64 {d : Nat} {I : Nat → Nat → Int32} {D : Nat → Nat → UInt64} {R : Nat → Nat → Option Nat} {Q : j_Po} {b : Int32} {z : Nat} (hz : I 97 1 = nI z) (hz9 : z < 96) (hd : 0 ≤ d) (hq : Q none w1 (j_u (j_u I 97 1 (nI (z + 1))) 98 z b, D, RR R)) : j_Call d 64 [.ref 97, .int b] w1 (I, D, RR R) 0 0 Q := c64 hz hz9 hd (fun h => absurd h (by omega)) (fun _ => hq)
set_option maxRecDepth 10000 in
set_option maxHeartbeats 4000000 in
theorem s62n1 {d : Nat} {I : Nat → Nat → Int32} {D : Nat → Nat → UInt64} {R : Nat → Nat → Option Nat} {Q : j_Po} {a : Int32} {b : Int32} {c : Int32} {e : Int32} {f : Int32} {z : Nat} (hR : WFR R) (hz : I 97 1 = nI z) (hz9 : z ≤ 96) (hd : 1 ≤ d)
    (v1 : ((¬ a < 0 ∧ ¬ 255 < a)) → ((¬ b < 0 ∧ ¬ 255 < b)) → ((¬ c < 0 ∧ ¬ 255 < c)) → ((¬ e < 0 ∧ ¬ 255 < e)) → ((¬ f < 0 ∧ ¬ 255 < f)) → ((z + 1) ≤ 96) → Q (some (.int (nI (z + 1)))) w1 ((j_u (j_u I 97 1 (nI (z + 1))) 98 z a), D, RR R))
    (v2 : ((¬ a < 0 ∧ ¬ 255 < a)) → ((¬ b < 0 ∧ ¬ 255 < b)) → ((¬ c < 0 ∧ ¬ 255 < c)) → ((¬ e < 0 ∧ ¬ 255 < e)) → ((¬ f < 0 ∧ ¬ 255 < f)) → (¬ (z + 1) ≤ 96) → Q (some (.int (-4))) w1 (I, D, RR R))
    (v3 : ((¬ a < 0 ∧ ¬ 255 < a)) → ((¬ b < 0 ∧ ¬ 255 < b)) → ((¬ c < 0 ∧ ¬ 255 < c)) → ((¬ e < 0 ∧ ¬ 255 < e)) → (¬ ((¬ f < 0 ∧ ¬ 255 < f))) → Q (some (.int (-2))) w1 (I, D, RR R))
    (v4 : ((¬ a < 0 ∧ ¬ 255 < a)) → ((¬ b < 0 ∧ ¬ 255 < b)) → ((¬ c < 0 ∧ ¬ 255 < c)) → (¬ ((¬ e < 0 ∧ ¬ 255 < e))) → Q (some (.int (-2))) w1 (I, D, RR R))
    (v5 : ((¬ a < 0 ∧ ¬ 255 < a)) → ((¬ b < 0 ∧ ¬ 255 < b)) → (¬ ((¬ c < 0 ∧ ¬ 255 < c))) → Q (some (.int (-2))) w1 (I, D, RR R))
    (v6 : ((¬ a < 0 ∧ ¬ 255 < a)) → (¬ ((¬ b < 0 ∧ ¬ 255 < b))) → Q (some (.int (-2))) w1 (I, D, RR R))
    (v7 : (¬ ((¬ a < 0 ∧ ¬ 255 < a))) → Q (some (.int (-2))) w1 (I, D, RR R)) : j_Call d 62 [.ref 0, .int 1, .int a, .int b, .int c, .int e, .int f] w1 (I, D, RR R) 0 0 Q := by
  refine q_enter (L := [some (.ref 0), some (.int 1), some (.int a), some (.int b), some (.int c), some (.int e), some (.int f)]) j_m62 (Nat.le_of_ble_eq_true rfl) rfl ?_
  refine q_iload_n d62_0 rfl ?_
  refine q_iconst (v := 1) (by decide) d62_1 ?_
  refine q_icmp_lt (tgt := 10) d62_2 rfl (fun h => absurd h (by decide)) (fun _ => ?_)
  refine q_iload_n d62_5 rfl ?_
  refine q_iconst (v := 5) (by decide) d62_6 ?_
  refine q_icmp_le (tgt := 13) d62_7 rfl (fun _ => ?_) (fun h => absurd h (by decide))
  refine q_iload_n d62_13 rfl ?_
  refine q_invS (av := [.int a]) (rest := []) (d' := 0) (mc' := 0) (ms' := 0) d62_14 (cv9_148 62 rfl) rfl rfl (by omega) (Nat.le_of_ble_eq_true rfl) (Nat.le_of_ble_eq_true rfl) (Nat.le_refl _) (Nat.le_refl _) ?_
  refine p63  (fun h1 => ?_) (fun h1 => ?_)
  ·
    show j_W 62 d 0 0 0 0 17 [some (.ref 0), some (.int 1), some (.int a), some (.int b), some (.int c), some (.int e), some (.int f)] [.int 1] w1 (I, D, RR R) Q
    refine q_if_eq (tgt := 51) d62_17 rfl (fun h => absurd h (by decide)) (fun _ => ?_)
    refine q_iload_n d62_20 rfl ?_
    refine q_invS (av := [.int b]) (rest := []) (d' := 0) (mc' := 0) (ms' := 0) d62_21 (cv9_148 62 rfl) rfl rfl (by omega) (Nat.le_of_ble_eq_true rfl) (Nat.le_of_ble_eq_true rfl) (Nat.le_refl _) (Nat.le_refl _) ?_
    refine p63  (fun h2 => ?_) (fun h2 => ?_)
    ·
      show j_W 62 d 0 0 0 0 24 [some (.ref 0), some (.int 1), some (.int a), some (.int b), some (.int c), some (.int e), some (.int f)] [.int 1] w1 (I, D, RR R) Q
      refine q_if_eq (tgt := 51) d62_24 rfl (fun h => absurd h (by decide)) (fun _ => ?_)
      refine q_iload d62_27 rfl ?_
      refine q_invS (av := [.int c]) (rest := []) (d' := 0) (mc' := 0) (ms' := 0) d62_29 (cv9_148 62 rfl) rfl rfl (by omega) (Nat.le_of_ble_eq_true rfl) (Nat.le_of_ble_eq_true rfl) (Nat.le_refl _) (Nat.le_refl _) ?_
      refine p63  (fun h3 => ?_) (fun h3 => ?_)
      ·
        show j_W 62 d 0 0 0 0 32 [some (.ref 0), some (.int 1), some (.int a), some (.int b), some (.int c), some (.int e), some (.int f)] [.int 1] w1 (I, D, RR R) Q
        refine q_if_eq (tgt := 51) d62_32 rfl (fun h => absurd h (by decide)) (fun _ => ?_)
        refine q_iload d62_35 rfl ?_
        refine q_invS (av := [.int e]) (rest := []) (d' := 0) (mc' := 0) (ms' := 0) d62_37 (cv9_148 62 rfl) rfl rfl (by omega) (Nat.le_of_ble_eq_true rfl) (Nat.le_of_ble_eq_true rfl) (Nat.le_refl _) (Nat.le_refl _) ?_
        refine p63  (fun h4 => ?_) (fun h4 => ?_)
        ·
          show j_W 62 d 0 0 0 0 40 [some (.ref 0), some (.int 1), some (.int a), some (.int b), some (.int c), some (.int e), some (.int f)] [.int 1] w1 (I, D, RR R) Q
          refine q_if_eq (tgt := 51) d62_40 rfl (fun h => absurd h (by decide)) (fun _ => ?_)
          refine q_iload d62_43 rfl ?_
          refine q_invS (av := [.int f]) (rest := []) (d' := 0) (mc' := 0) (ms' := 0) d62_45 (cv9_148 62 rfl) rfl rfl (by omega) (Nat.le_of_ble_eq_true rfl) (Nat.le_of_ble_eq_true rfl) (Nat.le_refl _) (Nat.le_refl _) ?_
          refine p63  (fun h5 => ?_) (fun h5 => ?_)
          ·
            show j_W 62 d 0 0 0 0 48 [some (.ref 0), some (.int 1), some (.int a), some (.int b), some (.int c), some (.int e), some (.int f)] [.int 1] w1 (I, D, RR R) Q
            refine q_if_ne (tgt := 54) d62_48 rfl (fun _ => ?_) (fun h => absurd h (by decide))
            refine q_aload_n d62_54 rfl ?_
            refine q_getR (x := 97) d62_55 (fs9_19 62 rfl) rfl (lt_w1 rfl) sh0 (rs0_5 R) (by decide) ?_
            refine q_getI d62_58 (fs9_151 62 rfl) rfl (lt_w1 rfl) sh97 ?_
            refine r_int (y := (nI z)) (show I 97 1 = (nI z) from hz) ?_
            refine q_iload_n d62_61 rfl ?_
            refine q_iadd d62_62 ?_
            refine r_int (y := (nI (z + 1))) (nI_add z 1) ?_
            refine q_bipush (v := 96) (by decide) d62_63 ?_
            refine q_icmp_le (tgt := 71) d62_65 rfl (fun h6t => ?_) (fun h6f => ?_)
            ·
              have h6tc : (z + 1) ≤ 96 := (nI_leI (by omega) (by omega)).mp h6t
              refine q_aload_n d62_71 rfl ?_
              refine q_getR (x := 97) d62_72 (fs9_19 62 rfl) rfl (lt_w1 rfl) sh0 (rs0_5 R) (by decide) ?_
              refine q_iload_n d62_75 rfl ?_
              refine q_invV (o := 97) (ci := 5) (av := [.int a]) (rest := []) (d' := 0) (mc' := 0) (ms' := 0) d62_76 (cv9_155 62 rfl) rfl (by decide) rfl rfl (by omega) (Nat.le_of_ble_eq_true rfl) (Nat.le_of_ble_eq_true rfl) (lt_w1 rfl) sh97 (Nat.le_refl _) (Nat.le_refl _) ?_
              refine t64 (z := z) (by first | exact hz | (simp (disch := omega) only [j_u_o, j_u_k, j_u_same]; done) | rfl) (by omega) (Nat.le_refl _)  ?_
              show j_W 62 d 0 0 0 0 79 [some (.ref 0), some (.int 1), some (.int a), some (.int b), some (.int c), some (.int e), some (.int f)] [] w1 ((j_u (j_u I 97 1 (nI (z + 1))) 98 z a), D, RR R) Q
              refine q_iload_n d62_79 rfl ?_
              refine q_iconst (v := 1) (by decide) d62_80 ?_
              refine q_icmp_le (tgt := 92) d62_81 rfl (fun _ => ?_) (fun h => absurd h (by decide))
              refine q_iload_n d62_92 rfl ?_
              refine q_iconst (v := 2) (by decide) d62_93 ?_
              refine q_icmp_le (tgt := 106) d62_94 rfl (fun _ => ?_) (fun h => absurd h (by decide))
              refine q_iload_n d62_106 rfl ?_
              refine q_iconst (v := 3) (by decide) d62_107 ?_
              refine q_icmp_le (tgt := 120) d62_108 rfl (fun _ => ?_) (fun h => absurd h (by decide))
              refine q_iload_n d62_120 rfl ?_
              refine q_iconst (v := 4) (by decide) d62_121 ?_
              refine q_icmp_le (tgt := 134) d62_122 rfl (fun _ => ?_) (fun h => absurd h (by decide))
              refine q_aload_n d62_134 rfl ?_
              refine q_getR (x := 97) d62_135 (fs9_19 62 rfl) rfl (lt_w1 rfl) sh0 (rs0_5 R) (by decide) ?_
              refine q_getI d62_138 (fs9_151 62 rfl) rfl (lt_w1 rfl) sh97 ?_
              refine r_int (y := (nI (z + 1))) (show (j_u (j_u I 97 1 (nI (z + 1))) 98 z a) 97 1 = (nI (z + 1)) from ((j_u_o _ _ _ (by decide)).trans (j_u_same _ _ _ _))) ?_
              exact q_iret d62_141 rfl (Nat.le_refl _) (Nat.le_refl _) (v1 h1 h2 h3 h4 h5 h6tc)
            ·
              have h6fc : ¬ (z + 1) ≤ 96 := mt (nI_leI (by omega) (by omega)).mpr h6f
              refine q_bipush (v := (-4)) (by decide) d62_68 ?_
              exact q_iret d62_70 rfl (Nat.le_refl _) (Nat.le_refl _) (v2 h1 h2 h3 h4 h5 h6fc)
          ·
            show j_W 62 d 0 0 0 0 48 [some (.ref 0), some (.int 1), some (.int a), some (.int b), some (.int c), some (.int e), some (.int f)] [.int 0] w1 (I, D, RR R) Q
            refine q_if_ne (tgt := 54) d62_48 rfl (fun h => absurd h (by decide)) (fun _ => ?_)
            refine q_bipush (v := (-2)) (by decide) d62_51 ?_
            exact q_iret d62_53 rfl (Nat.le_refl _) (Nat.le_refl _) (v3 h1 h2 h3 h4 h5)
        ·
          show j_W 62 d 0 0 0 0 40 [some (.ref 0), some (.int 1), some (.int a), some (.int b), some (.int c), some (.int e), some (.int f)] [.int 0] w1 (I, D, RR R) Q
          refine q_if_eq (tgt := 51) d62_40 rfl (fun _ => ?_) (fun h => absurd h (by decide))
          refine q_bipush (v := (-2)) (by decide) d62_51 ?_
          exact q_iret d62_53 rfl (Nat.le_refl _) (Nat.le_refl _) (v4 h1 h2 h3 h4)
      ·
        show j_W 62 d 0 0 0 0 32 [some (.ref 0), some (.int 1), some (.int a), some (.int b), some (.int c), some (.int e), some (.int f)] [.int 0] w1 (I, D, RR R) Q
        refine q_if_eq (tgt := 51) d62_32 rfl (fun _ => ?_) (fun h => absurd h (by decide))
        refine q_bipush (v := (-2)) (by decide) d62_51 ?_
        exact q_iret d62_53 rfl (Nat.le_refl _) (Nat.le_refl _) (v5 h1 h2 h3)
    ·
      show j_W 62 d 0 0 0 0 24 [some (.ref 0), some (.int 1), some (.int a), some (.int b), some (.int c), some (.int e), some (.int f)] [.int 0] w1 (I, D, RR R) Q
      refine q_if_eq (tgt := 51) d62_24 rfl (fun _ => ?_) (fun h => absurd h (by decide))
      refine q_bipush (v := (-2)) (by decide) d62_51 ?_
      exact q_iret d62_53 rfl (Nat.le_refl _) (Nat.le_refl _) (v6 h1 h2)
  ·
    show j_W 62 d 0 0 0 0 17 [some (.ref 0), some (.int 1), some (.int a), some (.int b), some (.int c), some (.int e), some (.int f)] [.int 0] w1 (I, D, RR R) Q
    refine q_if_eq (tgt := 51) d62_17 rfl (fun _ => ?_) (fun h => absurd h (by decide))
    refine q_bipush (v := (-2)) (by decide) d62_51 ?_
    exact q_iret d62_53 rfl (Nat.le_refl _) (Nat.le_refl _) (v7 h1)

set_option maxRecDepth 10000 in
set_option maxHeartbeats 4000000 in
theorem s208n1 {d : Nat} {I : Nat → Nat → Int32} {D : Nat → Nat → UInt64} {R : Nat → Nat → Option Nat} {Q : j_Po} {a : Int32} {b : Int32} {c : Int32} {e : Int32} {f : Int32} {z : Nat} (hz : I 260 34 = nI z) (hz9 : z ≤ 96) (hd : 2 ≤ d)
    (v1 : ((¬ (1 : Int32) < (1 : Int32) ∧ ¬ (5 : Int32) < (1 : Int32))) → ((¬ a < (0 : Int32) ∧ ¬ (255 : Int32) < a)) → ((¬ b < (0 : Int32) ∧ ¬ (255 : Int32) < b)) → ((¬ c < (0 : Int32) ∧ ¬ (255 : Int32) < c)) → ((¬ e < (0 : Int32) ∧ ¬ (255 : Int32) < e)) → ((¬ f < (0 : Int32) ∧ ¬ (255 : Int32) < f)) → ((z + 1) ≤ 96) → Q (some (.int (nI (z + 1)))) w1 ((j_u (j_u I 422 (z + 0) a) 260 34 (nI (z + 1))), D, RR R))
    (v2 : ((¬ (1 : Int32) < (1 : Int32) ∧ ¬ (5 : Int32) < (1 : Int32))) → ((¬ a < (0 : Int32) ∧ ¬ (255 : Int32) < a)) → ((¬ b < (0 : Int32) ∧ ¬ (255 : Int32) < b)) → ((¬ c < (0 : Int32) ∧ ¬ (255 : Int32) < c)) → ((¬ e < (0 : Int32) ∧ ¬ (255 : Int32) < e)) → ((¬ f < (0 : Int32) ∧ ¬ (255 : Int32) < f)) → (¬ (z + 1) ≤ 96) → Q (some (.int (-4))) w1 (I, D, RR R))
    (v3 : ((¬ (1 : Int32) < (1 : Int32) ∧ ¬ (5 : Int32) < (1 : Int32))) → ((¬ a < (0 : Int32) ∧ ¬ (255 : Int32) < a)) → ((¬ b < (0 : Int32) ∧ ¬ (255 : Int32) < b)) → ((¬ c < (0 : Int32) ∧ ¬ (255 : Int32) < c)) → ((¬ e < (0 : Int32) ∧ ¬ (255 : Int32) < e)) → (¬ ((¬ f < (0 : Int32) ∧ ¬ (255 : Int32) < f))) → Q (some (.int (-2))) w1 (I, D, RR R))
    (v4 : ((¬ (1 : Int32) < (1 : Int32) ∧ ¬ (5 : Int32) < (1 : Int32))) → ((¬ a < (0 : Int32) ∧ ¬ (255 : Int32) < a)) → ((¬ b < (0 : Int32) ∧ ¬ (255 : Int32) < b)) → ((¬ c < (0 : Int32) ∧ ¬ (255 : Int32) < c)) → (¬ ((¬ e < (0 : Int32) ∧ ¬ (255 : Int32) < e))) → Q (some (.int (-2))) w1 (I, D, RR R))
    (v5 : ((¬ (1 : Int32) < (1 : Int32) ∧ ¬ (5 : Int32) < (1 : Int32))) → ((¬ a < (0 : Int32) ∧ ¬ (255 : Int32) < a)) → ((¬ b < (0 : Int32) ∧ ¬ (255 : Int32) < b)) → (¬ ((¬ c < (0 : Int32) ∧ ¬ (255 : Int32) < c))) → Q (some (.int (-2))) w1 (I, D, RR R))
    (v6 : ((¬ (1 : Int32) < (1 : Int32) ∧ ¬ (5 : Int32) < (1 : Int32))) → ((¬ a < (0 : Int32) ∧ ¬ (255 : Int32) < a)) → (¬ ((¬ b < (0 : Int32) ∧ ¬ (255 : Int32) < b))) → Q (some (.int (-2))) w1 (I, D, RR R))
    (v7 : ((¬ (1 : Int32) < (1 : Int32) ∧ ¬ (5 : Int32) < (1 : Int32))) → (¬ ((¬ a < (0 : Int32) ∧ ¬ (255 : Int32) < a))) → Q (some (.int (-2))) w1 (I, D, RR R))
    (v8 : (¬ ((¬ (1 : Int32) < (1 : Int32) ∧ ¬ (5 : Int32) < (1 : Int32)))) → Q (some (.int (-2))) w1 (I, D, RR R)) : j_Call d 208 [.ref 260, .int 1, .int a, .int b, .int c, .int e, .int f] w1 (I, D, RR R) 0 0 Q := by
  refine q_enter (L := [some (.ref 260), some (.int 1), some (.int a), some (.int b), some (.int c), some (.int e), some (.int f), none]) j_m208 (Nat.le_of_ble_eq_true rfl) rfl ?_
  refine q_iload_n d208_0 rfl ?_
  refine q_iconst (v := 1) (by decide) d208_1 ?_
  refine q_iconst (v := 5) (by decide) d208_2 ?_
  refine q_invS (av := [.int 1, .int 1, .int 5]) (rest := []) (d' := 0) (mc' := 0) (ms' := 0) d208_3 (cv10_183 208 rfl) rfl rfl (by omega) (Nat.le_of_ble_eq_true rfl) (Nat.le_of_ble_eq_true rfl) (Nat.le_refl _) (Nat.le_refl _) ?_
  refine p168  (fun h1 => ?_) (fun h1 => ?_)
  ·
    show j_W 208 d 0 0 0 0 6 [some (.ref 260), some (.int 1), some (.int a), some (.int b), some (.int c), some (.int e), some (.int f), none] [.int 1] w1 (I, D, RR R) Q
    refine q_if_eq (tgt := 47) d208_6 rfl (fun h => absurd h (by decide)) (fun _ => ?_)
    refine q_iload_n d208_9 rfl ?_
    refine q_invS (av := [.int a]) (rest := []) (d' := 1) (mc' := 0) (ms' := 0) d208_10 (cv10_345 208 rfl) rfl rfl (by omega) (Nat.le_of_ble_eq_true rfl) (Nat.le_of_ble_eq_true rfl) (Nat.le_refl _) (Nat.le_refl _) ?_
    refine s209   (Nat.le_refl _) (fun c2 => ?_) (fun c3 => ?_)
    ·
      show j_W 208 d 0 0 0 0 13 [some (.ref 260), some (.int 1), some (.int a), some (.int b), some (.int c), some (.int e), some (.int f), none] [.int 1] w1 (I, D, RR R) Q
      refine q_if_eq (tgt := 47) d208_13 rfl (fun h => absurd h (by decide)) (fun _ => ?_)
      refine q_iload_n d208_16 rfl ?_
      refine q_invS (av := [.int b]) (rest := []) (d' := 1) (mc' := 0) (ms' := 0) d208_17 (cv10_345 208 rfl) rfl rfl (by omega) (Nat.le_of_ble_eq_true rfl) (Nat.le_of_ble_eq_true rfl) (Nat.le_refl _) (Nat.le_refl _) ?_
      refine s209   (Nat.le_refl _) (fun c4 => ?_) (fun c5 => ?_)
      ·
        show j_W 208 d 0 0 0 0 20 [some (.ref 260), some (.int 1), some (.int a), some (.int b), some (.int c), some (.int e), some (.int f), none] [.int 1] w1 (I, D, RR R) Q
        refine q_if_eq (tgt := 47) d208_20 rfl (fun h => absurd h (by decide)) (fun _ => ?_)
        refine q_iload d208_23 rfl ?_
        refine q_invS (av := [.int c]) (rest := []) (d' := 1) (mc' := 0) (ms' := 0) d208_25 (cv10_345 208 rfl) rfl rfl (by omega) (Nat.le_of_ble_eq_true rfl) (Nat.le_of_ble_eq_true rfl) (Nat.le_refl _) (Nat.le_refl _) ?_
        refine s209   (Nat.le_refl _) (fun c6 => ?_) (fun c7 => ?_)
        ·
          show j_W 208 d 0 0 0 0 28 [some (.ref 260), some (.int 1), some (.int a), some (.int b), some (.int c), some (.int e), some (.int f), none] [.int 1] w1 (I, D, RR R) Q
          refine q_if_eq (tgt := 47) d208_28 rfl (fun h => absurd h (by decide)) (fun _ => ?_)
          refine q_iload d208_31 rfl ?_
          refine q_invS (av := [.int e]) (rest := []) (d' := 1) (mc' := 0) (ms' := 0) d208_33 (cv10_345 208 rfl) rfl rfl (by omega) (Nat.le_of_ble_eq_true rfl) (Nat.le_of_ble_eq_true rfl) (Nat.le_refl _) (Nat.le_refl _) ?_
          refine s209   (Nat.le_refl _) (fun c8 => ?_) (fun c9 => ?_)
          ·
            show j_W 208 d 0 0 0 0 36 [some (.ref 260), some (.int 1), some (.int a), some (.int b), some (.int c), some (.int e), some (.int f), none] [.int 1] w1 (I, D, RR R) Q
            refine q_if_eq (tgt := 47) d208_36 rfl (fun h => absurd h (by decide)) (fun _ => ?_)
            refine q_iload d208_39 rfl ?_
            refine q_invS (av := [.int f]) (rest := []) (d' := 1) (mc' := 0) (ms' := 0) d208_41 (cv10_345 208 rfl) rfl rfl (by omega) (Nat.le_of_ble_eq_true rfl) (Nat.le_of_ble_eq_true rfl) (Nat.le_refl _) (Nat.le_refl _) ?_
            refine s209   (Nat.le_refl _) (fun c10 => ?_) (fun c11 => ?_)
            ·
              show j_W 208 d 0 0 0 0 44 [some (.ref 260), some (.int 1), some (.int a), some (.int b), some (.int c), some (.int e), some (.int f), none] [.int 1] w1 (I, D, RR R) Q
              refine q_if_ne (tgt := 50) d208_44 rfl (fun _ => ?_) (fun h => absurd h (by decide))
              refine q_aload_n d208_50 rfl ?_
              refine q_getI d208_51 (fs10_348 208 rfl) rfl (lt_w1 rfl) sh260 ?_
              refine r_int (y := (nI z)) (show I 260 34 = (nI z) from hz) ?_
              refine q_iload_n d208_54 rfl ?_
              refine q_iadd d208_55 ?_
              refine r_int (y := (nI (z + 1))) (nI_add z 1) ?_
              refine q_bipush (v := 96) (by decide) d208_56 ?_
              refine q_icmp_le (tgt := 64) d208_58 rfl (fun h12t => ?_) (fun h12f => ?_)
              ·
                have h12tc : (z + 1) ≤ 96 := (nI_leI (by omega) (by omega)).mp h12t
                refine q_iconst (v := 0) (by decide) d208_64 ?_
                refine q_istore (L' := [some (.ref 260), some (.int 1), some (.int a), some (.int b), some (.int c), some (.int e), some (.int f), some (.int 0)]) d208_65 (Nat.le_of_ble_eq_true rfl) rfl ?_
                refine q_iload d208_67 rfl ?_
                refine q_iload_n d208_69 rfl ?_
                refine q_icmp_ge (tgt := 134) d208_70 rfl (fun h => absurd h (by decide)) (fun _ => ?_)
                refine q_aload_n d208_73 rfl ?_
                refine q_getR (x := 422) d208_74 (fs10_102 208 rfl) rfl (lt_w1 rfl) sh260 (rs260_33 R) (by decide) ?_
                refine q_aload_n d208_77 rfl ?_
                refine q_getI d208_78 (fs10_348 208 rfl) rfl (lt_w1 rfl) sh260 ?_
                refine r_int (y := (nI z)) (show I 260 34 = (nI z) from hz) ?_
                refine q_iload d208_81 rfl ?_
                refine q_iadd d208_83 ?_
                refine r_int (y := (nI (z + 0))) (nI_add z 0) ?_
                refine q_iload d208_84 rfl ?_
                refine q_if_ne (tgt := 93) d208_86 rfl (fun h => absurd h (by decide)) (fun _ => ?_)
                refine q_iload_n d208_89 rfl ?_
                refine q_goto (tgt := 127) d208_90 rfl ?_
                refine q_iastore (a := (z + 0)) d208_127 (lt_w1 rfl) sh422 rfl (by omega) ?_
                refine q_iinc (L' := [some (.ref 260), some (.int 1), some (.int a), some (.int b), some (.int c), some (.int e), some (.int f), some (.int 1)]) (v := 1) d208_128 rfl (by decide) rfl ?_
                refine q_goto (tgt := 67) d208_131 rfl ?_
                refine q_iload d208_67 rfl ?_
                refine q_iload_n d208_69 rfl ?_
                refine q_icmp_ge (tgt := 134) d208_70 rfl (fun _ => ?_) (fun h => absurd h (by decide))
                refine q_aload_n d208_134 rfl ?_
                refine q_dup rfl d208_135 ?_
                refine q_getI d208_136 (fs10_348 208 rfl) rfl (lt_w1 rfl) sh260 ?_
                refine r_int (y := (nI z)) (show (j_u I 422 (z + 0) a) 260 34 = (nI z) from ((j_u_o _ _ _ (by decide)).trans hz)) ?_
                refine q_iload_n d208_139 rfl ?_
                refine q_iadd d208_140 ?_
                refine r_int (y := (nI (z + 1))) (nI_add z 1) ?_
                refine q_putI d208_141 (fs10_348 208 rfl) (Or.inl rfl) rfl (lt_w1 rfl) sh260 ?_
                refine q_aload_n d208_144 rfl ?_
                refine q_getI d208_145 (fs10_348 208 rfl) rfl (lt_w1 rfl) sh260 ?_
                refine r_int (y := (nI (z + 1))) (show (j_u (j_u I 422 (z + 0) a) 260 34 (nI (z + 1))) 260 34 = (nI (z + 1)) from (j_u_same _ _ _ _)) ?_
                exact q_iret d208_148 rfl (Nat.le_refl _) (Nat.le_refl _) (v1 h1 c2 c4 c6 c8 c10 h12tc)
              ·
                have h12fc : ¬ (z + 1) ≤ 96 := mt (nI_leI (by omega) (by omega)).mpr h12f
                refine q_bipush (v := (-4)) (by decide) d208_61 ?_
                exact q_iret d208_63 rfl (Nat.le_refl _) (Nat.le_refl _) (v2 h1 c2 c4 c6 c8 c10 h12fc)
            ·
              show j_W 208 d 0 0 0 0 44 [some (.ref 260), some (.int 1), some (.int a), some (.int b), some (.int c), some (.int e), some (.int f), none] [.int 0] w1 (I, D, RR R) Q
              refine q_if_ne (tgt := 50) d208_44 rfl (fun h => absurd h (by decide)) (fun _ => ?_)
              refine q_bipush (v := (-2)) (by decide) d208_47 ?_
              exact q_iret d208_49 rfl (Nat.le_refl _) (Nat.le_refl _) (v3 h1 c2 c4 c6 c8 c11)
          ·
            show j_W 208 d 0 0 0 0 36 [some (.ref 260), some (.int 1), some (.int a), some (.int b), some (.int c), some (.int e), some (.int f), none] [.int 0] w1 (I, D, RR R) Q
            refine q_if_eq (tgt := 47) d208_36 rfl (fun _ => ?_) (fun h => absurd h (by decide))
            refine q_bipush (v := (-2)) (by decide) d208_47 ?_
            exact q_iret d208_49 rfl (Nat.le_refl _) (Nat.le_refl _) (v4 h1 c2 c4 c6 c9)
        ·
          show j_W 208 d 0 0 0 0 28 [some (.ref 260), some (.int 1), some (.int a), some (.int b), some (.int c), some (.int e), some (.int f), none] [.int 0] w1 (I, D, RR R) Q
          refine q_if_eq (tgt := 47) d208_28 rfl (fun _ => ?_) (fun h => absurd h (by decide))
          refine q_bipush (v := (-2)) (by decide) d208_47 ?_
          exact q_iret d208_49 rfl (Nat.le_refl _) (Nat.le_refl _) (v5 h1 c2 c4 c7)
      ·
        show j_W 208 d 0 0 0 0 20 [some (.ref 260), some (.int 1), some (.int a), some (.int b), some (.int c), some (.int e), some (.int f), none] [.int 0] w1 (I, D, RR R) Q
        refine q_if_eq (tgt := 47) d208_20 rfl (fun _ => ?_) (fun h => absurd h (by decide))
        refine q_bipush (v := (-2)) (by decide) d208_47 ?_
        exact q_iret d208_49 rfl (Nat.le_refl _) (Nat.le_refl _) (v6 h1 c2 c5)
    ·
      show j_W 208 d 0 0 0 0 13 [some (.ref 260), some (.int 1), some (.int a), some (.int b), some (.int c), some (.int e), some (.int f), none] [.int 0] w1 (I, D, RR R) Q
      refine q_if_eq (tgt := 47) d208_13 rfl (fun _ => ?_) (fun h => absurd h (by decide))
      refine q_bipush (v := (-2)) (by decide) d208_47 ?_
      exact q_iret d208_49 rfl (Nat.le_refl _) (Nat.le_refl _) (v7 h1 c3)
  ·
    show j_W 208 d 0 0 0 0 6 [some (.ref 260), some (.int 1), some (.int a), some (.int b), some (.int c), some (.int e), some (.int f), none] [.int 0] w1 (I, D, RR R) Q
    refine q_if_eq (tgt := 47) d208_6 rfl (fun _ => ?_) (fun h => absurd h (by decide))
    refine q_bipush (v := (-2)) (by decide) d208_47 ?_
    exact q_iret d208_49 rfl (Nat.le_refl _) (Nat.le_refl _) (v8 h1)

set_option maxRecDepth 10000 in
set_option maxHeartbeats 4000000 in
theorem s62n2 {d : Nat} {I : Nat → Nat → Int32} {D : Nat → Nat → UInt64} {R : Nat → Nat → Option Nat} {Q : j_Po} {a : Int32} {b : Int32} {c : Int32} {e : Int32} {f : Int32} {z : Nat} (hR : WFR R) (hz : I 97 1 = nI z) (hz9 : z ≤ 96) (hd : 1 ≤ d)
    (v1 : ((¬ a < 0 ∧ ¬ 255 < a)) → ((¬ b < 0 ∧ ¬ 255 < b)) → ((¬ c < 0 ∧ ¬ 255 < c)) → ((¬ e < 0 ∧ ¬ 255 < e)) → ((¬ f < 0 ∧ ¬ 255 < f)) → ((z + 2) ≤ 96) → Q (some (.int (nI (z + 2)))) w1 ((j_u (j_u (j_u (j_u I 97 1 (nI (z + 1))) 98 z a) 97 1 (nI (z + 2))) 98 (z + 1) b), D, RR R))
    (v2 : ((¬ a < 0 ∧ ¬ 255 < a)) → ((¬ b < 0 ∧ ¬ 255 < b)) → ((¬ c < 0 ∧ ¬ 255 < c)) → ((¬ e < 0 ∧ ¬ 255 < e)) → ((¬ f < 0 ∧ ¬ 255 < f)) → (¬ (z + 2) ≤ 96) → Q (some (.int (-4))) w1 (I, D, RR R))
    (v3 : ((¬ a < 0 ∧ ¬ 255 < a)) → ((¬ b < 0 ∧ ¬ 255 < b)) → ((¬ c < 0 ∧ ¬ 255 < c)) → ((¬ e < 0 ∧ ¬ 255 < e)) → (¬ ((¬ f < 0 ∧ ¬ 255 < f))) → Q (some (.int (-2))) w1 (I, D, RR R))
    (v4 : ((¬ a < 0 ∧ ¬ 255 < a)) → ((¬ b < 0 ∧ ¬ 255 < b)) → ((¬ c < 0 ∧ ¬ 255 < c)) → (¬ ((¬ e < 0 ∧ ¬ 255 < e))) → Q (some (.int (-2))) w1 (I, D, RR R))
    (v5 : ((¬ a < 0 ∧ ¬ 255 < a)) → ((¬ b < 0 ∧ ¬ 255 < b)) → (¬ ((¬ c < 0 ∧ ¬ 255 < c))) → Q (some (.int (-2))) w1 (I, D, RR R))
    (v6 : ((¬ a < 0 ∧ ¬ 255 < a)) → (¬ ((¬ b < 0 ∧ ¬ 255 < b))) → Q (some (.int (-2))) w1 (I, D, RR R))
    (v7 : (¬ ((¬ a < 0 ∧ ¬ 255 < a))) → Q (some (.int (-2))) w1 (I, D, RR R)) : j_Call d 62 [.ref 0, .int 2, .int a, .int b, .int c, .int e, .int f] w1 (I, D, RR R) 0 0 Q := by
  refine q_enter (L := [some (.ref 0), some (.int 2), some (.int a), some (.int b), some (.int c), some (.int e), some (.int f)]) j_m62 (Nat.le_of_ble_eq_true rfl) rfl ?_
  refine q_iload_n d62_0 rfl ?_
  refine q_iconst (v := 1) (by decide) d62_1 ?_
  refine q_icmp_lt (tgt := 10) d62_2 rfl (fun h => absurd h (by decide)) (fun _ => ?_)
  refine q_iload_n d62_5 rfl ?_
  refine q_iconst (v := 5) (by decide) d62_6 ?_
  refine q_icmp_le (tgt := 13) d62_7 rfl (fun _ => ?_) (fun h => absurd h (by decide))
  refine q_iload_n d62_13 rfl ?_
  refine q_invS (av := [.int a]) (rest := []) (d' := 0) (mc' := 0) (ms' := 0) d62_14 (cv9_148 62 rfl) rfl rfl (by omega) (Nat.le_of_ble_eq_true rfl) (Nat.le_of_ble_eq_true rfl) (Nat.le_refl _) (Nat.le_refl _) ?_
  refine p63  (fun h1 => ?_) (fun h1 => ?_)
  ·
    show j_W 62 d 0 0 0 0 17 [some (.ref 0), some (.int 2), some (.int a), some (.int b), some (.int c), some (.int e), some (.int f)] [.int 1] w1 (I, D, RR R) Q
    refine q_if_eq (tgt := 51) d62_17 rfl (fun h => absurd h (by decide)) (fun _ => ?_)
    refine q_iload_n d62_20 rfl ?_
    refine q_invS (av := [.int b]) (rest := []) (d' := 0) (mc' := 0) (ms' := 0) d62_21 (cv9_148 62 rfl) rfl rfl (by omega) (Nat.le_of_ble_eq_true rfl) (Nat.le_of_ble_eq_true rfl) (Nat.le_refl _) (Nat.le_refl _) ?_
    refine p63  (fun h2 => ?_) (fun h2 => ?_)
    ·
      show j_W 62 d 0 0 0 0 24 [some (.ref 0), some (.int 2), some (.int a), some (.int b), some (.int c), some (.int e), some (.int f)] [.int 1] w1 (I, D, RR R) Q
      refine q_if_eq (tgt := 51) d62_24 rfl (fun h => absurd h (by decide)) (fun _ => ?_)
      refine q_iload d62_27 rfl ?_
      refine q_invS (av := [.int c]) (rest := []) (d' := 0) (mc' := 0) (ms' := 0) d62_29 (cv9_148 62 rfl) rfl rfl (by omega) (Nat.le_of_ble_eq_true rfl) (Nat.le_of_ble_eq_true rfl) (Nat.le_refl _) (Nat.le_refl _) ?_
      refine p63  (fun h3 => ?_) (fun h3 => ?_)
      ·
        show j_W 62 d 0 0 0 0 32 [some (.ref 0), some (.int 2), some (.int a), some (.int b), some (.int c), some (.int e), some (.int f)] [.int 1] w1 (I, D, RR R) Q
        refine q_if_eq (tgt := 51) d62_32 rfl (fun h => absurd h (by decide)) (fun _ => ?_)
        refine q_iload d62_35 rfl ?_
        refine q_invS (av := [.int e]) (rest := []) (d' := 0) (mc' := 0) (ms' := 0) d62_37 (cv9_148 62 rfl) rfl rfl (by omega) (Nat.le_of_ble_eq_true rfl) (Nat.le_of_ble_eq_true rfl) (Nat.le_refl _) (Nat.le_refl _) ?_
        refine p63  (fun h4 => ?_) (fun h4 => ?_)
        ·
          show j_W 62 d 0 0 0 0 40 [some (.ref 0), some (.int 2), some (.int a), some (.int b), some (.int c), some (.int e), some (.int f)] [.int 1] w1 (I, D, RR R) Q
          refine q_if_eq (tgt := 51) d62_40 rfl (fun h => absurd h (by decide)) (fun _ => ?_)
          refine q_iload d62_43 rfl ?_
          refine q_invS (av := [.int f]) (rest := []) (d' := 0) (mc' := 0) (ms' := 0) d62_45 (cv9_148 62 rfl) rfl rfl (by omega) (Nat.le_of_ble_eq_true rfl) (Nat.le_of_ble_eq_true rfl) (Nat.le_refl _) (Nat.le_refl _) ?_
          refine p63  (fun h5 => ?_) (fun h5 => ?_)
          ·
            show j_W 62 d 0 0 0 0 48 [some (.ref 0), some (.int 2), some (.int a), some (.int b), some (.int c), some (.int e), some (.int f)] [.int 1] w1 (I, D, RR R) Q
            refine q_if_ne (tgt := 54) d62_48 rfl (fun _ => ?_) (fun h => absurd h (by decide))
            refine q_aload_n d62_54 rfl ?_
            refine q_getR (x := 97) d62_55 (fs9_19 62 rfl) rfl (lt_w1 rfl) sh0 (rs0_5 R) (by decide) ?_
            refine q_getI d62_58 (fs9_151 62 rfl) rfl (lt_w1 rfl) sh97 ?_
            refine r_int (y := (nI z)) (show I 97 1 = (nI z) from hz) ?_
            refine q_iload_n d62_61 rfl ?_
            refine q_iadd d62_62 ?_
            refine r_int (y := (nI (z + 2))) (nI_add z 2) ?_
            refine q_bipush (v := 96) (by decide) d62_63 ?_
            refine q_icmp_le (tgt := 71) d62_65 rfl (fun h6t => ?_) (fun h6f => ?_)
            ·
              have h6tc : (z + 2) ≤ 96 := (nI_leI (by omega) (by omega)).mp h6t
              refine q_aload_n d62_71 rfl ?_
              refine q_getR (x := 97) d62_72 (fs9_19 62 rfl) rfl (lt_w1 rfl) sh0 (rs0_5 R) (by decide) ?_
              refine q_iload_n d62_75 rfl ?_
              refine q_invV (o := 97) (ci := 5) (av := [.int a]) (rest := []) (d' := 0) (mc' := 0) (ms' := 0) d62_76 (cv9_155 62 rfl) rfl (by decide) rfl rfl (by omega) (Nat.le_of_ble_eq_true rfl) (Nat.le_of_ble_eq_true rfl) (lt_w1 rfl) sh97 (Nat.le_refl _) (Nat.le_refl _) ?_
              refine t64 (z := z) (by first | exact hz | (simp (disch := omega) only [j_u_o, j_u_k, j_u_same]; done) | rfl) (by omega) (Nat.le_refl _)  ?_
              show j_W 62 d 0 0 0 0 79 [some (.ref 0), some (.int 2), some (.int a), some (.int b), some (.int c), some (.int e), some (.int f)] [] w1 ((j_u (j_u I 97 1 (nI (z + 1))) 98 z a), D, RR R) Q
              refine q_iload_n d62_79 rfl ?_
              refine q_iconst (v := 1) (by decide) d62_80 ?_
              refine q_icmp_le (tgt := 92) d62_81 rfl (fun h => absurd h (by decide)) (fun _ => ?_)
              refine q_aload_n d62_84 rfl ?_
              refine q_getR (x := 97) d62_85 (fs9_19 62 rfl) rfl (lt_w1 rfl) sh0 (rs0_5 R) (by decide) ?_
              refine q_iload_n d62_88 rfl ?_
              refine q_invV (o := 97) (ci := 5) (av := [.int b]) (rest := []) (d' := 0) (mc' := 0) (ms' := 0) d62_89 (cv9_155 62 rfl) rfl (by decide) rfl rfl (by omega) (Nat.le_of_ble_eq_true rfl) (Nat.le_of_ble_eq_true rfl) (lt_w1 rfl) sh97 (Nat.le_refl _) (Nat.le_refl _) ?_
              refine t64 (z := (z + 1)) (by first | exact hz | (simp (disch := omega) only [j_u_o, j_u_k, j_u_same]; done) | rfl) (by omega) (Nat.le_refl _)  ?_
              show j_W 62 d 0 0 0 0 92 [some (.ref 0), some (.int 2), some (.int a), some (.int b), some (.int c), some (.int e), some (.int f)] [] w1 ((j_u (j_u (j_u (j_u I 97 1 (nI (z + 1))) 98 z a) 97 1 (nI (z + 2))) 98 (z + 1) b), D, RR R) Q
              refine q_iload_n d62_92 rfl ?_
              refine q_iconst (v := 2) (by decide) d62_93 ?_
              refine q_icmp_le (tgt := 106) d62_94 rfl (fun _ => ?_) (fun h => absurd h (by decide))
              refine q_iload_n d62_106 rfl ?_
              refine q_iconst (v := 3) (by decide) d62_107 ?_
              refine q_icmp_le (tgt := 120) d62_108 rfl (fun _ => ?_) (fun h => absurd h (by decide))
              refine q_iload_n d62_120 rfl ?_
              refine q_iconst (v := 4) (by decide) d62_121 ?_
              refine q_icmp_le (tgt := 134) d62_122 rfl (fun _ => ?_) (fun h => absurd h (by decide))
              refine q_aload_n d62_134 rfl ?_
              refine q_getR (x := 97) d62_135 (fs9_19 62 rfl) rfl (lt_w1 rfl) sh0 (rs0_5 R) (by decide) ?_
              refine q_getI d62_138 (fs9_151 62 rfl) rfl (lt_w1 rfl) sh97 ?_
              refine r_int (y := (nI (z + 2))) (show (j_u (j_u (j_u (j_u I 97 1 (nI (z + 1))) 98 z a) 97 1 (nI (z + 2))) 98 (z + 1) b) 97 1 = (nI (z + 2)) from ((j_u_o _ _ _ (by decide)).trans (j_u_same _ _ _ _))) ?_
              exact q_iret d62_141 rfl (Nat.le_refl _) (Nat.le_refl _) (v1 h1 h2 h3 h4 h5 h6tc)
            ·
              have h6fc : ¬ (z + 2) ≤ 96 := mt (nI_leI (by omega) (by omega)).mpr h6f
              refine q_bipush (v := (-4)) (by decide) d62_68 ?_
              exact q_iret d62_70 rfl (Nat.le_refl _) (Nat.le_refl _) (v2 h1 h2 h3 h4 h5 h6fc)
          ·
            show j_W 62 d 0 0 0 0 48 [some (.ref 0), some (.int 2), some (.int a), some (.int b), some (.int c), some (.int e), some (.int f)] [.int 0] w1 (I, D, RR R) Q
            refine q_if_ne (tgt := 54) d62_48 rfl (fun h => absurd h (by decide)) (fun _ => ?_)
            refine q_bipush (v := (-2)) (by decide) d62_51 ?_
            exact q_iret d62_53 rfl (Nat.le_refl _) (Nat.le_refl _) (v3 h1 h2 h3 h4 h5)
        ·
          show j_W 62 d 0 0 0 0 40 [some (.ref 0), some (.int 2), some (.int a), some (.int b), some (.int c), some (.int e), some (.int f)] [.int 0] w1 (I, D, RR R) Q
          refine q_if_eq (tgt := 51) d62_40 rfl (fun _ => ?_) (fun h => absurd h (by decide))
          refine q_bipush (v := (-2)) (by decide) d62_51 ?_
          exact q_iret d62_53 rfl (Nat.le_refl _) (Nat.le_refl _) (v4 h1 h2 h3 h4)
      ·
        show j_W 62 d 0 0 0 0 32 [some (.ref 0), some (.int 2), some (.int a), some (.int b), some (.int c), some (.int e), some (.int f)] [.int 0] w1 (I, D, RR R) Q
        refine q_if_eq (tgt := 51) d62_32 rfl (fun _ => ?_) (fun h => absurd h (by decide))
        refine q_bipush (v := (-2)) (by decide) d62_51 ?_
        exact q_iret d62_53 rfl (Nat.le_refl _) (Nat.le_refl _) (v5 h1 h2 h3)
    ·
      show j_W 62 d 0 0 0 0 24 [some (.ref 0), some (.int 2), some (.int a), some (.int b), some (.int c), some (.int e), some (.int f)] [.int 0] w1 (I, D, RR R) Q
      refine q_if_eq (tgt := 51) d62_24 rfl (fun _ => ?_) (fun h => absurd h (by decide))
      refine q_bipush (v := (-2)) (by decide) d62_51 ?_
      exact q_iret d62_53 rfl (Nat.le_refl _) (Nat.le_refl _) (v6 h1 h2)
  ·
    show j_W 62 d 0 0 0 0 17 [some (.ref 0), some (.int 2), some (.int a), some (.int b), some (.int c), some (.int e), some (.int f)] [.int 0] w1 (I, D, RR R) Q
    refine q_if_eq (tgt := 51) d62_17 rfl (fun _ => ?_) (fun h => absurd h (by decide))
    refine q_bipush (v := (-2)) (by decide) d62_51 ?_
    exact q_iret d62_53 rfl (Nat.le_refl _) (Nat.le_refl _) (v7 h1)

set_option maxRecDepth 10000 in
set_option maxHeartbeats 4000000 in
theorem s208n2 {d : Nat} {I : Nat → Nat → Int32} {D : Nat → Nat → UInt64} {R : Nat → Nat → Option Nat} {Q : j_Po} {a : Int32} {b : Int32} {c : Int32} {e : Int32} {f : Int32} {z : Nat} (hz : I 260 34 = nI z) (hz9 : z ≤ 96) (hd : 2 ≤ d)
    (v1 : ((¬ (2 : Int32) < (1 : Int32) ∧ ¬ (5 : Int32) < (2 : Int32))) → ((¬ a < (0 : Int32) ∧ ¬ (255 : Int32) < a)) → ((¬ b < (0 : Int32) ∧ ¬ (255 : Int32) < b)) → ((¬ c < (0 : Int32) ∧ ¬ (255 : Int32) < c)) → ((¬ e < (0 : Int32) ∧ ¬ (255 : Int32) < e)) → ((¬ f < (0 : Int32) ∧ ¬ (255 : Int32) < f)) → ((z + 2) ≤ 96) → Q (some (.int (nI (z + 2)))) w1 ((j_u (j_u (j_u I 422 (z + 0) a) 422 (z + 1) b) 260 34 (nI (z + 2))), D, RR R))
    (v2 : ((¬ (2 : Int32) < (1 : Int32) ∧ ¬ (5 : Int32) < (2 : Int32))) → ((¬ a < (0 : Int32) ∧ ¬ (255 : Int32) < a)) → ((¬ b < (0 : Int32) ∧ ¬ (255 : Int32) < b)) → ((¬ c < (0 : Int32) ∧ ¬ (255 : Int32) < c)) → ((¬ e < (0 : Int32) ∧ ¬ (255 : Int32) < e)) → ((¬ f < (0 : Int32) ∧ ¬ (255 : Int32) < f)) → (¬ (z + 2) ≤ 96) → Q (some (.int (-4))) w1 (I, D, RR R))
    (v3 : ((¬ (2 : Int32) < (1 : Int32) ∧ ¬ (5 : Int32) < (2 : Int32))) → ((¬ a < (0 : Int32) ∧ ¬ (255 : Int32) < a)) → ((¬ b < (0 : Int32) ∧ ¬ (255 : Int32) < b)) → ((¬ c < (0 : Int32) ∧ ¬ (255 : Int32) < c)) → ((¬ e < (0 : Int32) ∧ ¬ (255 : Int32) < e)) → (¬ ((¬ f < (0 : Int32) ∧ ¬ (255 : Int32) < f))) → Q (some (.int (-2))) w1 (I, D, RR R))
    (v4 : ((¬ (2 : Int32) < (1 : Int32) ∧ ¬ (5 : Int32) < (2 : Int32))) → ((¬ a < (0 : Int32) ∧ ¬ (255 : Int32) < a)) → ((¬ b < (0 : Int32) ∧ ¬ (255 : Int32) < b)) → ((¬ c < (0 : Int32) ∧ ¬ (255 : Int32) < c)) → (¬ ((¬ e < (0 : Int32) ∧ ¬ (255 : Int32) < e))) → Q (some (.int (-2))) w1 (I, D, RR R))
    (v5 : ((¬ (2 : Int32) < (1 : Int32) ∧ ¬ (5 : Int32) < (2 : Int32))) → ((¬ a < (0 : Int32) ∧ ¬ (255 : Int32) < a)) → ((¬ b < (0 : Int32) ∧ ¬ (255 : Int32) < b)) → (¬ ((¬ c < (0 : Int32) ∧ ¬ (255 : Int32) < c))) → Q (some (.int (-2))) w1 (I, D, RR R))
    (v6 : ((¬ (2 : Int32) < (1 : Int32) ∧ ¬ (5 : Int32) < (2 : Int32))) → ((¬ a < (0 : Int32) ∧ ¬ (255 : Int32) < a)) → (¬ ((¬ b < (0 : Int32) ∧ ¬ (255 : Int32) < b))) → Q (some (.int (-2))) w1 (I, D, RR R))
    (v7 : ((¬ (2 : Int32) < (1 : Int32) ∧ ¬ (5 : Int32) < (2 : Int32))) → (¬ ((¬ a < (0 : Int32) ∧ ¬ (255 : Int32) < a))) → Q (some (.int (-2))) w1 (I, D, RR R))
    (v8 : (¬ ((¬ (2 : Int32) < (1 : Int32) ∧ ¬ (5 : Int32) < (2 : Int32)))) → Q (some (.int (-2))) w1 (I, D, RR R)) : j_Call d 208 [.ref 260, .int 2, .int a, .int b, .int c, .int e, .int f] w1 (I, D, RR R) 0 0 Q := by
  refine q_enter (L := [some (.ref 260), some (.int 2), some (.int a), some (.int b), some (.int c), some (.int e), some (.int f), none]) j_m208 (Nat.le_of_ble_eq_true rfl) rfl ?_
  refine q_iload_n d208_0 rfl ?_
  refine q_iconst (v := 1) (by decide) d208_1 ?_
  refine q_iconst (v := 5) (by decide) d208_2 ?_
  refine q_invS (av := [.int 2, .int 1, .int 5]) (rest := []) (d' := 0) (mc' := 0) (ms' := 0) d208_3 (cv10_183 208 rfl) rfl rfl (by omega) (Nat.le_of_ble_eq_true rfl) (Nat.le_of_ble_eq_true rfl) (Nat.le_refl _) (Nat.le_refl _) ?_
  refine p168  (fun h1 => ?_) (fun h1 => ?_)
  ·
    show j_W 208 d 0 0 0 0 6 [some (.ref 260), some (.int 2), some (.int a), some (.int b), some (.int c), some (.int e), some (.int f), none] [.int 1] w1 (I, D, RR R) Q
    refine q_if_eq (tgt := 47) d208_6 rfl (fun h => absurd h (by decide)) (fun _ => ?_)
    refine q_iload_n d208_9 rfl ?_
    refine q_invS (av := [.int a]) (rest := []) (d' := 1) (mc' := 0) (ms' := 0) d208_10 (cv10_345 208 rfl) rfl rfl (by omega) (Nat.le_of_ble_eq_true rfl) (Nat.le_of_ble_eq_true rfl) (Nat.le_refl _) (Nat.le_refl _) ?_
    refine s209   (Nat.le_refl _) (fun c2 => ?_) (fun c3 => ?_)
    ·
      show j_W 208 d 0 0 0 0 13 [some (.ref 260), some (.int 2), some (.int a), some (.int b), some (.int c), some (.int e), some (.int f), none] [.int 1] w1 (I, D, RR R) Q
      refine q_if_eq (tgt := 47) d208_13 rfl (fun h => absurd h (by decide)) (fun _ => ?_)
      refine q_iload_n d208_16 rfl ?_
      refine q_invS (av := [.int b]) (rest := []) (d' := 1) (mc' := 0) (ms' := 0) d208_17 (cv10_345 208 rfl) rfl rfl (by omega) (Nat.le_of_ble_eq_true rfl) (Nat.le_of_ble_eq_true rfl) (Nat.le_refl _) (Nat.le_refl _) ?_
      refine s209   (Nat.le_refl _) (fun c4 => ?_) (fun c5 => ?_)
      ·
        show j_W 208 d 0 0 0 0 20 [some (.ref 260), some (.int 2), some (.int a), some (.int b), some (.int c), some (.int e), some (.int f), none] [.int 1] w1 (I, D, RR R) Q
        refine q_if_eq (tgt := 47) d208_20 rfl (fun h => absurd h (by decide)) (fun _ => ?_)
        refine q_iload d208_23 rfl ?_
        refine q_invS (av := [.int c]) (rest := []) (d' := 1) (mc' := 0) (ms' := 0) d208_25 (cv10_345 208 rfl) rfl rfl (by omega) (Nat.le_of_ble_eq_true rfl) (Nat.le_of_ble_eq_true rfl) (Nat.le_refl _) (Nat.le_refl _) ?_
        refine s209   (Nat.le_refl _) (fun c6 => ?_) (fun c7 => ?_)
        ·
          show j_W 208 d 0 0 0 0 28 [some (.ref 260), some (.int 2), some (.int a), some (.int b), some (.int c), some (.int e), some (.int f), none] [.int 1] w1 (I, D, RR R) Q
          refine q_if_eq (tgt := 47) d208_28 rfl (fun h => absurd h (by decide)) (fun _ => ?_)
          refine q_iload d208_31 rfl ?_
          refine q_invS (av := [.int e]) (rest := []) (d' := 1) (mc' := 0) (ms' := 0) d208_33 (cv10_345 208 rfl) rfl rfl (by omega) (Nat.le_of_ble_eq_true rfl) (Nat.le_of_ble_eq_true rfl) (Nat.le_refl _) (Nat.le_refl _) ?_
          refine s209   (Nat.le_refl _) (fun c8 => ?_) (fun c9 => ?_)
          ·
            show j_W 208 d 0 0 0 0 36 [some (.ref 260), some (.int 2), some (.int a), some (.int b), some (.int c), some (.int e), some (.int f), none] [.int 1] w1 (I, D, RR R) Q
            refine q_if_eq (tgt := 47) d208_36 rfl (fun h => absurd h (by decide)) (fun _ => ?_)
            refine q_iload d208_39 rfl ?_
            refine q_invS (av := [.int f]) (rest := []) (d' := 1) (mc' := 0) (ms' := 0) d208_41 (cv10_345 208 rfl) rfl rfl (by omega) (Nat.le_of_ble_eq_true rfl) (Nat.le_of_ble_eq_true rfl) (Nat.le_refl _) (Nat.le_refl _) ?_
            refine s209   (Nat.le_refl _) (fun c10 => ?_) (fun c11 => ?_)
            ·
              show j_W 208 d 0 0 0 0 44 [some (.ref 260), some (.int 2), some (.int a), some (.int b), some (.int c), some (.int e), some (.int f), none] [.int 1] w1 (I, D, RR R) Q
              refine q_if_ne (tgt := 50) d208_44 rfl (fun _ => ?_) (fun h => absurd h (by decide))
              refine q_aload_n d208_50 rfl ?_
              refine q_getI d208_51 (fs10_348 208 rfl) rfl (lt_w1 rfl) sh260 ?_
              refine r_int (y := (nI z)) (show I 260 34 = (nI z) from hz) ?_
              refine q_iload_n d208_54 rfl ?_
              refine q_iadd d208_55 ?_
              refine r_int (y := (nI (z + 2))) (nI_add z 2) ?_
              refine q_bipush (v := 96) (by decide) d208_56 ?_
              refine q_icmp_le (tgt := 64) d208_58 rfl (fun h12t => ?_) (fun h12f => ?_)
              ·
                have h12tc : (z + 2) ≤ 96 := (nI_leI (by omega) (by omega)).mp h12t
                refine q_iconst (v := 0) (by decide) d208_64 ?_
                refine q_istore (L' := [some (.ref 260), some (.int 2), some (.int a), some (.int b), some (.int c), some (.int e), some (.int f), some (.int 0)]) d208_65 (Nat.le_of_ble_eq_true rfl) rfl ?_
                refine q_iload d208_67 rfl ?_
                refine q_iload_n d208_69 rfl ?_
                refine q_icmp_ge (tgt := 134) d208_70 rfl (fun h => absurd h (by decide)) (fun _ => ?_)
                refine q_aload_n d208_73 rfl ?_
                refine q_getR (x := 422) d208_74 (fs10_102 208 rfl) rfl (lt_w1 rfl) sh260 (rs260_33 R) (by decide) ?_
                refine q_aload_n d208_77 rfl ?_
                refine q_getI d208_78 (fs10_348 208 rfl) rfl (lt_w1 rfl) sh260 ?_
                refine r_int (y := (nI z)) (show I 260 34 = (nI z) from hz) ?_
                refine q_iload d208_81 rfl ?_
                refine q_iadd d208_83 ?_
                refine r_int (y := (nI (z + 0))) (nI_add z 0) ?_
                refine q_iload d208_84 rfl ?_
                refine q_if_ne (tgt := 93) d208_86 rfl (fun h => absurd h (by decide)) (fun _ => ?_)
                refine q_iload_n d208_89 rfl ?_
                refine q_goto (tgt := 127) d208_90 rfl ?_
                refine q_iastore (a := (z + 0)) d208_127 (lt_w1 rfl) sh422 rfl (by omega) ?_
                refine q_iinc (L' := [some (.ref 260), some (.int 2), some (.int a), some (.int b), some (.int c), some (.int e), some (.int f), some (.int 1)]) (v := 1) d208_128 rfl (by decide) rfl ?_
                refine q_goto (tgt := 67) d208_131 rfl ?_
                refine q_iload d208_67 rfl ?_
                refine q_iload_n d208_69 rfl ?_
                refine q_icmp_ge (tgt := 134) d208_70 rfl (fun h => absurd h (by decide)) (fun _ => ?_)
                refine q_aload_n d208_73 rfl ?_
                refine q_getR (x := 422) d208_74 (fs10_102 208 rfl) rfl (lt_w1 rfl) sh260 (rs260_33 R) (by decide) ?_
                refine q_aload_n d208_77 rfl ?_
                refine q_getI d208_78 (fs10_348 208 rfl) rfl (lt_w1 rfl) sh260 ?_
                refine r_int (y := (nI z)) (show (j_u I 422 (z + 0) a) 260 34 = (nI z) from ((j_u_o _ _ _ (by decide)).trans hz)) ?_
                refine q_iload d208_81 rfl ?_
                refine q_iadd d208_83 ?_
                refine r_int (y := (nI (z + 1))) (nI_add z 1) ?_
                refine q_iload d208_84 rfl ?_
                refine q_if_ne (tgt := 93) d208_86 rfl (fun _ => ?_) (fun h => absurd h (by decide))
                refine q_iload d208_93 rfl ?_
                refine q_iconst (v := 1) (by decide) d208_95 ?_
                refine q_icmp_ne (tgt := 103) d208_96 rfl (fun h => absurd h (by decide)) (fun _ => ?_)
                refine q_iload_n d208_99 rfl ?_
                refine q_goto (tgt := 127) d208_100 rfl ?_
                refine q_iastore (a := (z + 1)) d208_127 (lt_w1 rfl) sh422 rfl (by omega) ?_
                refine q_iinc (L' := [some (.ref 260), some (.int 2), some (.int a), some (.int b), some (.int c), some (.int e), some (.int f), some (.int 2)]) (v := 2) d208_128 rfl (by decide) rfl ?_
                refine q_goto (tgt := 67) d208_131 rfl ?_
                refine q_iload d208_67 rfl ?_
                refine q_iload_n d208_69 rfl ?_
                refine q_icmp_ge (tgt := 134) d208_70 rfl (fun _ => ?_) (fun h => absurd h (by decide))
                refine q_aload_n d208_134 rfl ?_
                refine q_dup rfl d208_135 ?_
                refine q_getI d208_136 (fs10_348 208 rfl) rfl (lt_w1 rfl) sh260 ?_
                refine r_int (y := (nI z)) (show (j_u (j_u I 422 (z + 0) a) 422 (z + 1) b) 260 34 = (nI z) from (((j_u_o _ _ _ (by decide)).trans (j_u_o _ _ _ (by decide))).trans hz)) ?_
                refine q_iload_n d208_139 rfl ?_
                refine q_iadd d208_140 ?_
                refine r_int (y := (nI (z + 2))) (nI_add z 2) ?_
                refine q_putI d208_141 (fs10_348 208 rfl) (Or.inl rfl) rfl (lt_w1 rfl) sh260 ?_
                refine q_aload_n d208_144 rfl ?_
                refine q_getI d208_145 (fs10_348 208 rfl) rfl (lt_w1 rfl) sh260 ?_
                refine r_int (y := (nI (z + 2))) (show (j_u (j_u (j_u I 422 (z + 0) a) 422 (z + 1) b) 260 34 (nI (z + 2))) 260 34 = (nI (z + 2)) from (j_u_same _ _ _ _)) ?_
                exact q_iret d208_148 rfl (Nat.le_refl _) (Nat.le_refl _) (v1 h1 c2 c4 c6 c8 c10 h12tc)
              ·
                have h12fc : ¬ (z + 2) ≤ 96 := mt (nI_leI (by omega) (by omega)).mpr h12f
                refine q_bipush (v := (-4)) (by decide) d208_61 ?_
                exact q_iret d208_63 rfl (Nat.le_refl _) (Nat.le_refl _) (v2 h1 c2 c4 c6 c8 c10 h12fc)
            ·
              show j_W 208 d 0 0 0 0 44 [some (.ref 260), some (.int 2), some (.int a), some (.int b), some (.int c), some (.int e), some (.int f), none] [.int 0] w1 (I, D, RR R) Q
              refine q_if_ne (tgt := 50) d208_44 rfl (fun h => absurd h (by decide)) (fun _ => ?_)
              refine q_bipush (v := (-2)) (by decide) d208_47 ?_
              exact q_iret d208_49 rfl (Nat.le_refl _) (Nat.le_refl _) (v3 h1 c2 c4 c6 c8 c11)
          ·
            show j_W 208 d 0 0 0 0 36 [some (.ref 260), some (.int 2), some (.int a), some (.int b), some (.int c), some (.int e), some (.int f), none] [.int 0] w1 (I, D, RR R) Q
            refine q_if_eq (tgt := 47) d208_36 rfl (fun _ => ?_) (fun h => absurd h (by decide))
            refine q_bipush (v := (-2)) (by decide) d208_47 ?_
            exact q_iret d208_49 rfl (Nat.le_refl _) (Nat.le_refl _) (v4 h1 c2 c4 c6 c9)
        ·
          show j_W 208 d 0 0 0 0 28 [some (.ref 260), some (.int 2), some (.int a), some (.int b), some (.int c), some (.int e), some (.int f), none] [.int 0] w1 (I, D, RR R) Q
          refine q_if_eq (tgt := 47) d208_28 rfl (fun _ => ?_) (fun h => absurd h (by decide))
          refine q_bipush (v := (-2)) (by decide) d208_47 ?_
          exact q_iret d208_49 rfl (Nat.le_refl _) (Nat.le_refl _) (v5 h1 c2 c4 c7)
      ·
        show j_W 208 d 0 0 0 0 20 [some (.ref 260), some (.int 2), some (.int a), some (.int b), some (.int c), some (.int e), some (.int f), none] [.int 0] w1 (I, D, RR R) Q
        refine q_if_eq (tgt := 47) d208_20 rfl (fun _ => ?_) (fun h => absurd h (by decide))
        refine q_bipush (v := (-2)) (by decide) d208_47 ?_
        exact q_iret d208_49 rfl (Nat.le_refl _) (Nat.le_refl _) (v6 h1 c2 c5)
    ·
      show j_W 208 d 0 0 0 0 13 [some (.ref 260), some (.int 2), some (.int a), some (.int b), some (.int c), some (.int e), some (.int f), none] [.int 0] w1 (I, D, RR R) Q
      refine q_if_eq (tgt := 47) d208_13 rfl (fun _ => ?_) (fun h => absurd h (by decide))
      refine q_bipush (v := (-2)) (by decide) d208_47 ?_
      exact q_iret d208_49 rfl (Nat.le_refl _) (Nat.le_refl _) (v7 h1 c3)
  ·
    show j_W 208 d 0 0 0 0 6 [some (.ref 260), some (.int 2), some (.int a), some (.int b), some (.int c), some (.int e), some (.int f), none] [.int 0] w1 (I, D, RR R) Q
    refine q_if_eq (tgt := 47) d208_6 rfl (fun _ => ?_) (fun h => absurd h (by decide))
    refine q_bipush (v := (-2)) (by decide) d208_47 ?_
    exact q_iret d208_49 rfl (Nat.le_refl _) (Nat.le_refl _) (v8 h1)

set_option maxRecDepth 10000 in
set_option maxHeartbeats 4000000 in
theorem s62n3 {d : Nat} {I : Nat → Nat → Int32} {D : Nat → Nat → UInt64} {R : Nat → Nat → Option Nat} {Q : j_Po} {a : Int32} {b : Int32} {c : Int32} {e : Int32} {f : Int32} {z : Nat} (hR : WFR R) (hz : I 97 1 = nI z) (hz9 : z ≤ 96) (hd : 1 ≤ d)
    (v1 : ((¬ a < 0 ∧ ¬ 255 < a)) → ((¬ b < 0 ∧ ¬ 255 < b)) → ((¬ c < 0 ∧ ¬ 255 < c)) → ((¬ e < 0 ∧ ¬ 255 < e)) → ((¬ f < 0 ∧ ¬ 255 < f)) → ((z + 3) ≤ 96) → Q (some (.int (nI (z + 3)))) w1 ((j_u (j_u (j_u (j_u (j_u (j_u I 97 1 (nI (z + 1))) 98 z a) 97 1 (nI (z + 2))) 98 (z + 1) b) 97 1 (nI (z + 3))) 98 (z + 2) c), D, RR R))
    (v2 : ((¬ a < 0 ∧ ¬ 255 < a)) → ((¬ b < 0 ∧ ¬ 255 < b)) → ((¬ c < 0 ∧ ¬ 255 < c)) → ((¬ e < 0 ∧ ¬ 255 < e)) → ((¬ f < 0 ∧ ¬ 255 < f)) → (¬ (z + 3) ≤ 96) → Q (some (.int (-4))) w1 (I, D, RR R))
    (v3 : ((¬ a < 0 ∧ ¬ 255 < a)) → ((¬ b < 0 ∧ ¬ 255 < b)) → ((¬ c < 0 ∧ ¬ 255 < c)) → ((¬ e < 0 ∧ ¬ 255 < e)) → (¬ ((¬ f < 0 ∧ ¬ 255 < f))) → Q (some (.int (-2))) w1 (I, D, RR R))
    (v4 : ((¬ a < 0 ∧ ¬ 255 < a)) → ((¬ b < 0 ∧ ¬ 255 < b)) → ((¬ c < 0 ∧ ¬ 255 < c)) → (¬ ((¬ e < 0 ∧ ¬ 255 < e))) → Q (some (.int (-2))) w1 (I, D, RR R))
    (v5 : ((¬ a < 0 ∧ ¬ 255 < a)) → ((¬ b < 0 ∧ ¬ 255 < b)) → (¬ ((¬ c < 0 ∧ ¬ 255 < c))) → Q (some (.int (-2))) w1 (I, D, RR R))
    (v6 : ((¬ a < 0 ∧ ¬ 255 < a)) → (¬ ((¬ b < 0 ∧ ¬ 255 < b))) → Q (some (.int (-2))) w1 (I, D, RR R))
    (v7 : (¬ ((¬ a < 0 ∧ ¬ 255 < a))) → Q (some (.int (-2))) w1 (I, D, RR R)) : j_Call d 62 [.ref 0, .int 3, .int a, .int b, .int c, .int e, .int f] w1 (I, D, RR R) 0 0 Q := by
  refine q_enter (L := [some (.ref 0), some (.int 3), some (.int a), some (.int b), some (.int c), some (.int e), some (.int f)]) j_m62 (Nat.le_of_ble_eq_true rfl) rfl ?_
  refine q_iload_n d62_0 rfl ?_
  refine q_iconst (v := 1) (by decide) d62_1 ?_
  refine q_icmp_lt (tgt := 10) d62_2 rfl (fun h => absurd h (by decide)) (fun _ => ?_)
  refine q_iload_n d62_5 rfl ?_
  refine q_iconst (v := 5) (by decide) d62_6 ?_
  refine q_icmp_le (tgt := 13) d62_7 rfl (fun _ => ?_) (fun h => absurd h (by decide))
  refine q_iload_n d62_13 rfl ?_
  refine q_invS (av := [.int a]) (rest := []) (d' := 0) (mc' := 0) (ms' := 0) d62_14 (cv9_148 62 rfl) rfl rfl (by omega) (Nat.le_of_ble_eq_true rfl) (Nat.le_of_ble_eq_true rfl) (Nat.le_refl _) (Nat.le_refl _) ?_
  refine p63  (fun h1 => ?_) (fun h1 => ?_)
  ·
    show j_W 62 d 0 0 0 0 17 [some (.ref 0), some (.int 3), some (.int a), some (.int b), some (.int c), some (.int e), some (.int f)] [.int 1] w1 (I, D, RR R) Q
    refine q_if_eq (tgt := 51) d62_17 rfl (fun h => absurd h (by decide)) (fun _ => ?_)
    refine q_iload_n d62_20 rfl ?_
    refine q_invS (av := [.int b]) (rest := []) (d' := 0) (mc' := 0) (ms' := 0) d62_21 (cv9_148 62 rfl) rfl rfl (by omega) (Nat.le_of_ble_eq_true rfl) (Nat.le_of_ble_eq_true rfl) (Nat.le_refl _) (Nat.le_refl _) ?_
    refine p63  (fun h2 => ?_) (fun h2 => ?_)
    ·
      show j_W 62 d 0 0 0 0 24 [some (.ref 0), some (.int 3), some (.int a), some (.int b), some (.int c), some (.int e), some (.int f)] [.int 1] w1 (I, D, RR R) Q
      refine q_if_eq (tgt := 51) d62_24 rfl (fun h => absurd h (by decide)) (fun _ => ?_)
      refine q_iload d62_27 rfl ?_
      refine q_invS (av := [.int c]) (rest := []) (d' := 0) (mc' := 0) (ms' := 0) d62_29 (cv9_148 62 rfl) rfl rfl (by omega) (Nat.le_of_ble_eq_true rfl) (Nat.le_of_ble_eq_true rfl) (Nat.le_refl _) (Nat.le_refl _) ?_
      refine p63  (fun h3 => ?_) (fun h3 => ?_)
      ·
        show j_W 62 d 0 0 0 0 32 [some (.ref 0), some (.int 3), some (.int a), some (.int b), some (.int c), some (.int e), some (.int f)] [.int 1] w1 (I, D, RR R) Q
        refine q_if_eq (tgt := 51) d62_32 rfl (fun h => absurd h (by decide)) (fun _ => ?_)
        refine q_iload d62_35 rfl ?_
        refine q_invS (av := [.int e]) (rest := []) (d' := 0) (mc' := 0) (ms' := 0) d62_37 (cv9_148 62 rfl) rfl rfl (by omega) (Nat.le_of_ble_eq_true rfl) (Nat.le_of_ble_eq_true rfl) (Nat.le_refl _) (Nat.le_refl _) ?_
        refine p63  (fun h4 => ?_) (fun h4 => ?_)
        ·
          show j_W 62 d 0 0 0 0 40 [some (.ref 0), some (.int 3), some (.int a), some (.int b), some (.int c), some (.int e), some (.int f)] [.int 1] w1 (I, D, RR R) Q
          refine q_if_eq (tgt := 51) d62_40 rfl (fun h => absurd h (by decide)) (fun _ => ?_)
          refine q_iload d62_43 rfl ?_
          refine q_invS (av := [.int f]) (rest := []) (d' := 0) (mc' := 0) (ms' := 0) d62_45 (cv9_148 62 rfl) rfl rfl (by omega) (Nat.le_of_ble_eq_true rfl) (Nat.le_of_ble_eq_true rfl) (Nat.le_refl _) (Nat.le_refl _) ?_
          refine p63  (fun h5 => ?_) (fun h5 => ?_)
          ·
            show j_W 62 d 0 0 0 0 48 [some (.ref 0), some (.int 3), some (.int a), some (.int b), some (.int c), some (.int e), some (.int f)] [.int 1] w1 (I, D, RR R) Q
            refine q_if_ne (tgt := 54) d62_48 rfl (fun _ => ?_) (fun h => absurd h (by decide))
            refine q_aload_n d62_54 rfl ?_
            refine q_getR (x := 97) d62_55 (fs9_19 62 rfl) rfl (lt_w1 rfl) sh0 (rs0_5 R) (by decide) ?_
            refine q_getI d62_58 (fs9_151 62 rfl) rfl (lt_w1 rfl) sh97 ?_
            refine r_int (y := (nI z)) (show I 97 1 = (nI z) from hz) ?_
            refine q_iload_n d62_61 rfl ?_
            refine q_iadd d62_62 ?_
            refine r_int (y := (nI (z + 3))) (nI_add z 3) ?_
            refine q_bipush (v := 96) (by decide) d62_63 ?_
            refine q_icmp_le (tgt := 71) d62_65 rfl (fun h6t => ?_) (fun h6f => ?_)
            ·
              have h6tc : (z + 3) ≤ 96 := (nI_leI (by omega) (by omega)).mp h6t
              refine q_aload_n d62_71 rfl ?_
              refine q_getR (x := 97) d62_72 (fs9_19 62 rfl) rfl (lt_w1 rfl) sh0 (rs0_5 R) (by decide) ?_
              refine q_iload_n d62_75 rfl ?_
              refine q_invV (o := 97) (ci := 5) (av := [.int a]) (rest := []) (d' := 0) (mc' := 0) (ms' := 0) d62_76 (cv9_155 62 rfl) rfl (by decide) rfl rfl (by omega) (Nat.le_of_ble_eq_true rfl) (Nat.le_of_ble_eq_true rfl) (lt_w1 rfl) sh97 (Nat.le_refl _) (Nat.le_refl _) ?_
              refine t64 (z := z) (by first | exact hz | (simp (disch := omega) only [j_u_o, j_u_k, j_u_same]; done) | rfl) (by omega) (Nat.le_refl _)  ?_
              show j_W 62 d 0 0 0 0 79 [some (.ref 0), some (.int 3), some (.int a), some (.int b), some (.int c), some (.int e), some (.int f)] [] w1 ((j_u (j_u I 97 1 (nI (z + 1))) 98 z a), D, RR R) Q
              refine q_iload_n d62_79 rfl ?_
              refine q_iconst (v := 1) (by decide) d62_80 ?_
              refine q_icmp_le (tgt := 92) d62_81 rfl (fun h => absurd h (by decide)) (fun _ => ?_)
              refine q_aload_n d62_84 rfl ?_
              refine q_getR (x := 97) d62_85 (fs9_19 62 rfl) rfl (lt_w1 rfl) sh0 (rs0_5 R) (by decide) ?_
              refine q_iload_n d62_88 rfl ?_
              refine q_invV (o := 97) (ci := 5) (av := [.int b]) (rest := []) (d' := 0) (mc' := 0) (ms' := 0) d62_89 (cv9_155 62 rfl) rfl (by decide) rfl rfl (by omega) (Nat.le_of_ble_eq_true rfl) (Nat.le_of_ble_eq_true rfl) (lt_w1 rfl) sh97 (Nat.le_refl _) (Nat.le_refl _) ?_
              refine t64 (z := (z + 1)) (by first | exact hz | (simp (disch := omega) only [j_u_o, j_u_k, j_u_same]; done) | rfl) (by omega) (Nat.le_refl _)  ?_
              show j_W 62 d 0 0 0 0 92 [some (.ref 0), some (.int 3), some (.int a), some (.int b), some (.int c), some (.int e), some (.int f)] [] w1 ((j_u (j_u (j_u (j_u I 97 1 (nI (z + 1))) 98 z a) 97 1 (nI (z + 2))) 98 (z + 1) b), D, RR R) Q
              refine q_iload_n d62_92 rfl ?_
              refine q_iconst (v := 2) (by decide) d62_93 ?_
              refine q_icmp_le (tgt := 106) d62_94 rfl (fun h => absurd h (by decide)) (fun _ => ?_)
              refine q_aload_n d62_97 rfl ?_
              refine q_getR (x := 97) d62_98 (fs9_19 62 rfl) rfl (lt_w1 rfl) sh0 (rs0_5 R) (by decide) ?_
              refine q_iload d62_101 rfl ?_
              refine q_invV (o := 97) (ci := 5) (av := [.int c]) (rest := []) (d' := 0) (mc' := 0) (ms' := 0) d62_103 (cv9_155 62 rfl) rfl (by decide) rfl rfl (by omega) (Nat.le_of_ble_eq_true rfl) (Nat.le_of_ble_eq_true rfl) (lt_w1 rfl) sh97 (Nat.le_refl _) (Nat.le_refl _) ?_
              refine t64 (z := (z + 2)) (by first | exact hz | (simp (disch := omega) only [j_u_o, j_u_k, j_u_same]; done) | rfl) (by omega) (Nat.le_refl _)  ?_
              show j_W 62 d 0 0 0 0 106 [some (.ref 0), some (.int 3), some (.int a), some (.int b), some (.int c), some (.int e), some (.int f)] [] w1 ((j_u (j_u (j_u (j_u (j_u (j_u I 97 1 (nI (z + 1))) 98 z a) 97 1 (nI (z + 2))) 98 (z + 1) b) 97 1 (nI (z + 3))) 98 (z + 2) c), D, RR R) Q
              refine q_iload_n d62_106 rfl ?_
              refine q_iconst (v := 3) (by decide) d62_107 ?_
              refine q_icmp_le (tgt := 120) d62_108 rfl (fun _ => ?_) (fun h => absurd h (by decide))
              refine q_iload_n d62_120 rfl ?_
              refine q_iconst (v := 4) (by decide) d62_121 ?_
              refine q_icmp_le (tgt := 134) d62_122 rfl (fun _ => ?_) (fun h => absurd h (by decide))
              refine q_aload_n d62_134 rfl ?_
              refine q_getR (x := 97) d62_135 (fs9_19 62 rfl) rfl (lt_w1 rfl) sh0 (rs0_5 R) (by decide) ?_
              refine q_getI d62_138 (fs9_151 62 rfl) rfl (lt_w1 rfl) sh97 ?_
              refine r_int (y := (nI (z + 3))) (show (j_u (j_u (j_u (j_u (j_u (j_u I 97 1 (nI (z + 1))) 98 z a) 97 1 (nI (z + 2))) 98 (z + 1) b) 97 1 (nI (z + 3))) 98 (z + 2) c) 97 1 = (nI (z + 3)) from ((j_u_o _ _ _ (by decide)).trans (j_u_same _ _ _ _))) ?_
              exact q_iret d62_141 rfl (Nat.le_refl _) (Nat.le_refl _) (v1 h1 h2 h3 h4 h5 h6tc)
            ·
              have h6fc : ¬ (z + 3) ≤ 96 := mt (nI_leI (by omega) (by omega)).mpr h6f
              refine q_bipush (v := (-4)) (by decide) d62_68 ?_
              exact q_iret d62_70 rfl (Nat.le_refl _) (Nat.le_refl _) (v2 h1 h2 h3 h4 h5 h6fc)
          ·
            show j_W 62 d 0 0 0 0 48 [some (.ref 0), some (.int 3), some (.int a), some (.int b), some (.int c), some (.int e), some (.int f)] [.int 0] w1 (I, D, RR R) Q
            refine q_if_ne (tgt := 54) d62_48 rfl (fun h => absurd h (by decide)) (fun _ => ?_)
            refine q_bipush (v := (-2)) (by decide) d62_51 ?_
            exact q_iret d62_53 rfl (Nat.le_refl _) (Nat.le_refl _) (v3 h1 h2 h3 h4 h5)
        ·
          show j_W 62 d 0 0 0 0 40 [some (.ref 0), some (.int 3), some (.int a), some (.int b), some (.int c), some (.int e), some (.int f)] [.int 0] w1 (I, D, RR R) Q
          refine q_if_eq (tgt := 51) d62_40 rfl (fun _ => ?_) (fun h => absurd h (by decide))
          refine q_bipush (v := (-2)) (by decide) d62_51 ?_
          exact q_iret d62_53 rfl (Nat.le_refl _) (Nat.le_refl _) (v4 h1 h2 h3 h4)
      ·
        show j_W 62 d 0 0 0 0 32 [some (.ref 0), some (.int 3), some (.int a), some (.int b), some (.int c), some (.int e), some (.int f)] [.int 0] w1 (I, D, RR R) Q
        refine q_if_eq (tgt := 51) d62_32 rfl (fun _ => ?_) (fun h => absurd h (by decide))
        refine q_bipush (v := (-2)) (by decide) d62_51 ?_
        exact q_iret d62_53 rfl (Nat.le_refl _) (Nat.le_refl _) (v5 h1 h2 h3)
    ·
      show j_W 62 d 0 0 0 0 24 [some (.ref 0), some (.int 3), some (.int a), some (.int b), some (.int c), some (.int e), some (.int f)] [.int 0] w1 (I, D, RR R) Q
      refine q_if_eq (tgt := 51) d62_24 rfl (fun _ => ?_) (fun h => absurd h (by decide))
      refine q_bipush (v := (-2)) (by decide) d62_51 ?_
      exact q_iret d62_53 rfl (Nat.le_refl _) (Nat.le_refl _) (v6 h1 h2)
  ·
    show j_W 62 d 0 0 0 0 17 [some (.ref 0), some (.int 3), some (.int a), some (.int b), some (.int c), some (.int e), some (.int f)] [.int 0] w1 (I, D, RR R) Q
    refine q_if_eq (tgt := 51) d62_17 rfl (fun _ => ?_) (fun h => absurd h (by decide))
    refine q_bipush (v := (-2)) (by decide) d62_51 ?_
    exact q_iret d62_53 rfl (Nat.le_refl _) (Nat.le_refl _) (v7 h1)

set_option maxRecDepth 10000 in
set_option maxHeartbeats 4000000 in
theorem s208n3 {d : Nat} {I : Nat → Nat → Int32} {D : Nat → Nat → UInt64} {R : Nat → Nat → Option Nat} {Q : j_Po} {a : Int32} {b : Int32} {c : Int32} {e : Int32} {f : Int32} {z : Nat} (hz : I 260 34 = nI z) (hz9 : z ≤ 96) (hd : 2 ≤ d)
    (v1 : ((¬ (3 : Int32) < (1 : Int32) ∧ ¬ (5 : Int32) < (3 : Int32))) → ((¬ a < (0 : Int32) ∧ ¬ (255 : Int32) < a)) → ((¬ b < (0 : Int32) ∧ ¬ (255 : Int32) < b)) → ((¬ c < (0 : Int32) ∧ ¬ (255 : Int32) < c)) → ((¬ e < (0 : Int32) ∧ ¬ (255 : Int32) < e)) → ((¬ f < (0 : Int32) ∧ ¬ (255 : Int32) < f)) → ((z + 3) ≤ 96) → Q (some (.int (nI (z + 3)))) w1 ((j_u (j_u (j_u (j_u I 422 (z + 0) a) 422 (z + 1) b) 422 (z + 2) c) 260 34 (nI (z + 3))), D, RR R))
    (v2 : ((¬ (3 : Int32) < (1 : Int32) ∧ ¬ (5 : Int32) < (3 : Int32))) → ((¬ a < (0 : Int32) ∧ ¬ (255 : Int32) < a)) → ((¬ b < (0 : Int32) ∧ ¬ (255 : Int32) < b)) → ((¬ c < (0 : Int32) ∧ ¬ (255 : Int32) < c)) → ((¬ e < (0 : Int32) ∧ ¬ (255 : Int32) < e)) → ((¬ f < (0 : Int32) ∧ ¬ (255 : Int32) < f)) → (¬ (z + 3) ≤ 96) → Q (some (.int (-4))) w1 (I, D, RR R))
    (v3 : ((¬ (3 : Int32) < (1 : Int32) ∧ ¬ (5 : Int32) < (3 : Int32))) → ((¬ a < (0 : Int32) ∧ ¬ (255 : Int32) < a)) → ((¬ b < (0 : Int32) ∧ ¬ (255 : Int32) < b)) → ((¬ c < (0 : Int32) ∧ ¬ (255 : Int32) < c)) → ((¬ e < (0 : Int32) ∧ ¬ (255 : Int32) < e)) → (¬ ((¬ f < (0 : Int32) ∧ ¬ (255 : Int32) < f))) → Q (some (.int (-2))) w1 (I, D, RR R))
    (v4 : ((¬ (3 : Int32) < (1 : Int32) ∧ ¬ (5 : Int32) < (3 : Int32))) → ((¬ a < (0 : Int32) ∧ ¬ (255 : Int32) < a)) → ((¬ b < (0 : Int32) ∧ ¬ (255 : Int32) < b)) → ((¬ c < (0 : Int32) ∧ ¬ (255 : Int32) < c)) → (¬ ((¬ e < (0 : Int32) ∧ ¬ (255 : Int32) < e))) → Q (some (.int (-2))) w1 (I, D, RR R))
    (v5 : ((¬ (3 : Int32) < (1 : Int32) ∧ ¬ (5 : Int32) < (3 : Int32))) → ((¬ a < (0 : Int32) ∧ ¬ (255 : Int32) < a)) → ((¬ b < (0 : Int32) ∧ ¬ (255 : Int32) < b)) → (¬ ((¬ c < (0 : Int32) ∧ ¬ (255 : Int32) < c))) → Q (some (.int (-2))) w1 (I, D, RR R))
    (v6 : ((¬ (3 : Int32) < (1 : Int32) ∧ ¬ (5 : Int32) < (3 : Int32))) → ((¬ a < (0 : Int32) ∧ ¬ (255 : Int32) < a)) → (¬ ((¬ b < (0 : Int32) ∧ ¬ (255 : Int32) < b))) → Q (some (.int (-2))) w1 (I, D, RR R))
    (v7 : ((¬ (3 : Int32) < (1 : Int32) ∧ ¬ (5 : Int32) < (3 : Int32))) → (¬ ((¬ a < (0 : Int32) ∧ ¬ (255 : Int32) < a))) → Q (some (.int (-2))) w1 (I, D, RR R))
    (v8 : (¬ ((¬ (3 : Int32) < (1 : Int32) ∧ ¬ (5 : Int32) < (3 : Int32)))) → Q (some (.int (-2))) w1 (I, D, RR R)) : j_Call d 208 [.ref 260, .int 3, .int a, .int b, .int c, .int e, .int f] w1 (I, D, RR R) 0 0 Q := by
  refine q_enter (L := [some (.ref 260), some (.int 3), some (.int a), some (.int b), some (.int c), some (.int e), some (.int f), none]) j_m208 (Nat.le_of_ble_eq_true rfl) rfl ?_
  refine q_iload_n d208_0 rfl ?_
  refine q_iconst (v := 1) (by decide) d208_1 ?_
  refine q_iconst (v := 5) (by decide) d208_2 ?_
  refine q_invS (av := [.int 3, .int 1, .int 5]) (rest := []) (d' := 0) (mc' := 0) (ms' := 0) d208_3 (cv10_183 208 rfl) rfl rfl (by omega) (Nat.le_of_ble_eq_true rfl) (Nat.le_of_ble_eq_true rfl) (Nat.le_refl _) (Nat.le_refl _) ?_
  refine p168  (fun h1 => ?_) (fun h1 => ?_)
  ·
    show j_W 208 d 0 0 0 0 6 [some (.ref 260), some (.int 3), some (.int a), some (.int b), some (.int c), some (.int e), some (.int f), none] [.int 1] w1 (I, D, RR R) Q
    refine q_if_eq (tgt := 47) d208_6 rfl (fun h => absurd h (by decide)) (fun _ => ?_)
    refine q_iload_n d208_9 rfl ?_
    refine q_invS (av := [.int a]) (rest := []) (d' := 1) (mc' := 0) (ms' := 0) d208_10 (cv10_345 208 rfl) rfl rfl (by omega) (Nat.le_of_ble_eq_true rfl) (Nat.le_of_ble_eq_true rfl) (Nat.le_refl _) (Nat.le_refl _) ?_
    refine s209   (Nat.le_refl _) (fun c2 => ?_) (fun c3 => ?_)
    ·
      show j_W 208 d 0 0 0 0 13 [some (.ref 260), some (.int 3), some (.int a), some (.int b), some (.int c), some (.int e), some (.int f), none] [.int 1] w1 (I, D, RR R) Q
      refine q_if_eq (tgt := 47) d208_13 rfl (fun h => absurd h (by decide)) (fun _ => ?_)
      refine q_iload_n d208_16 rfl ?_
      refine q_invS (av := [.int b]) (rest := []) (d' := 1) (mc' := 0) (ms' := 0) d208_17 (cv10_345 208 rfl) rfl rfl (by omega) (Nat.le_of_ble_eq_true rfl) (Nat.le_of_ble_eq_true rfl) (Nat.le_refl _) (Nat.le_refl _) ?_
      refine s209   (Nat.le_refl _) (fun c4 => ?_) (fun c5 => ?_)
      ·
        show j_W 208 d 0 0 0 0 20 [some (.ref 260), some (.int 3), some (.int a), some (.int b), some (.int c), some (.int e), some (.int f), none] [.int 1] w1 (I, D, RR R) Q
        refine q_if_eq (tgt := 47) d208_20 rfl (fun h => absurd h (by decide)) (fun _ => ?_)
        refine q_iload d208_23 rfl ?_
        refine q_invS (av := [.int c]) (rest := []) (d' := 1) (mc' := 0) (ms' := 0) d208_25 (cv10_345 208 rfl) rfl rfl (by omega) (Nat.le_of_ble_eq_true rfl) (Nat.le_of_ble_eq_true rfl) (Nat.le_refl _) (Nat.le_refl _) ?_
        refine s209   (Nat.le_refl _) (fun c6 => ?_) (fun c7 => ?_)
        ·
          show j_W 208 d 0 0 0 0 28 [some (.ref 260), some (.int 3), some (.int a), some (.int b), some (.int c), some (.int e), some (.int f), none] [.int 1] w1 (I, D, RR R) Q
          refine q_if_eq (tgt := 47) d208_28 rfl (fun h => absurd h (by decide)) (fun _ => ?_)
          refine q_iload d208_31 rfl ?_
          refine q_invS (av := [.int e]) (rest := []) (d' := 1) (mc' := 0) (ms' := 0) d208_33 (cv10_345 208 rfl) rfl rfl (by omega) (Nat.le_of_ble_eq_true rfl) (Nat.le_of_ble_eq_true rfl) (Nat.le_refl _) (Nat.le_refl _) ?_
          refine s209   (Nat.le_refl _) (fun c8 => ?_) (fun c9 => ?_)
          ·
            show j_W 208 d 0 0 0 0 36 [some (.ref 260), some (.int 3), some (.int a), some (.int b), some (.int c), some (.int e), some (.int f), none] [.int 1] w1 (I, D, RR R) Q
            refine q_if_eq (tgt := 47) d208_36 rfl (fun h => absurd h (by decide)) (fun _ => ?_)
            refine q_iload d208_39 rfl ?_
            refine q_invS (av := [.int f]) (rest := []) (d' := 1) (mc' := 0) (ms' := 0) d208_41 (cv10_345 208 rfl) rfl rfl (by omega) (Nat.le_of_ble_eq_true rfl) (Nat.le_of_ble_eq_true rfl) (Nat.le_refl _) (Nat.le_refl _) ?_
            refine s209   (Nat.le_refl _) (fun c10 => ?_) (fun c11 => ?_)
            ·
              show j_W 208 d 0 0 0 0 44 [some (.ref 260), some (.int 3), some (.int a), some (.int b), some (.int c), some (.int e), some (.int f), none] [.int 1] w1 (I, D, RR R) Q
              refine q_if_ne (tgt := 50) d208_44 rfl (fun _ => ?_) (fun h => absurd h (by decide))
              refine q_aload_n d208_50 rfl ?_
              refine q_getI d208_51 (fs10_348 208 rfl) rfl (lt_w1 rfl) sh260 ?_
              refine r_int (y := (nI z)) (show I 260 34 = (nI z) from hz) ?_
              refine q_iload_n d208_54 rfl ?_
              refine q_iadd d208_55 ?_
              refine r_int (y := (nI (z + 3))) (nI_add z 3) ?_
              refine q_bipush (v := 96) (by decide) d208_56 ?_
              refine q_icmp_le (tgt := 64) d208_58 rfl (fun h12t => ?_) (fun h12f => ?_)
              ·
                have h12tc : (z + 3) ≤ 96 := (nI_leI (by omega) (by omega)).mp h12t
                refine q_iconst (v := 0) (by decide) d208_64 ?_
                refine q_istore (L' := [some (.ref 260), some (.int 3), some (.int a), some (.int b), some (.int c), some (.int e), some (.int f), some (.int 0)]) d208_65 (Nat.le_of_ble_eq_true rfl) rfl ?_
                refine q_iload d208_67 rfl ?_
                refine q_iload_n d208_69 rfl ?_
                refine q_icmp_ge (tgt := 134) d208_70 rfl (fun h => absurd h (by decide)) (fun _ => ?_)
                refine q_aload_n d208_73 rfl ?_
                refine q_getR (x := 422) d208_74 (fs10_102 208 rfl) rfl (lt_w1 rfl) sh260 (rs260_33 R) (by decide) ?_
                refine q_aload_n d208_77 rfl ?_
                refine q_getI d208_78 (fs10_348 208 rfl) rfl (lt_w1 rfl) sh260 ?_
                refine r_int (y := (nI z)) (show I 260 34 = (nI z) from hz) ?_
                refine q_iload d208_81 rfl ?_
                refine q_iadd d208_83 ?_
                refine r_int (y := (nI (z + 0))) (nI_add z 0) ?_
                refine q_iload d208_84 rfl ?_
                refine q_if_ne (tgt := 93) d208_86 rfl (fun h => absurd h (by decide)) (fun _ => ?_)
                refine q_iload_n d208_89 rfl ?_
                refine q_goto (tgt := 127) d208_90 rfl ?_
                refine q_iastore (a := (z + 0)) d208_127 (lt_w1 rfl) sh422 rfl (by omega) ?_
                refine q_iinc (L' := [some (.ref 260), some (.int 3), some (.int a), some (.int b), some (.int c), some (.int e), some (.int f), some (.int 1)]) (v := 1) d208_128 rfl (by decide) rfl ?_
                refine q_goto (tgt := 67) d208_131 rfl ?_
                refine q_iload d208_67 rfl ?_
                refine q_iload_n d208_69 rfl ?_
                refine q_icmp_ge (tgt := 134) d208_70 rfl (fun h => absurd h (by decide)) (fun _ => ?_)
                refine q_aload_n d208_73 rfl ?_
                refine q_getR (x := 422) d208_74 (fs10_102 208 rfl) rfl (lt_w1 rfl) sh260 (rs260_33 R) (by decide) ?_
                refine q_aload_n d208_77 rfl ?_
                refine q_getI d208_78 (fs10_348 208 rfl) rfl (lt_w1 rfl) sh260 ?_
                refine r_int (y := (nI z)) (show (j_u I 422 (z + 0) a) 260 34 = (nI z) from ((j_u_o _ _ _ (by decide)).trans hz)) ?_
                refine q_iload d208_81 rfl ?_
                refine q_iadd d208_83 ?_
                refine r_int (y := (nI (z + 1))) (nI_add z 1) ?_
                refine q_iload d208_84 rfl ?_
                refine q_if_ne (tgt := 93) d208_86 rfl (fun _ => ?_) (fun h => absurd h (by decide))
                refine q_iload d208_93 rfl ?_
                refine q_iconst (v := 1) (by decide) d208_95 ?_
                refine q_icmp_ne (tgt := 103) d208_96 rfl (fun h => absurd h (by decide)) (fun _ => ?_)
                refine q_iload_n d208_99 rfl ?_
                refine q_goto (tgt := 127) d208_100 rfl ?_
                refine q_iastore (a := (z + 1)) d208_127 (lt_w1 rfl) sh422 rfl (by omega) ?_
                refine q_iinc (L' := [some (.ref 260), some (.int 3), some (.int a), some (.int b), some (.int c), some (.int e), some (.int f), some (.int 2)]) (v := 2) d208_128 rfl (by decide) rfl ?_
                refine q_goto (tgt := 67) d208_131 rfl ?_
                refine q_iload d208_67 rfl ?_
                refine q_iload_n d208_69 rfl ?_
                refine q_icmp_ge (tgt := 134) d208_70 rfl (fun h => absurd h (by decide)) (fun _ => ?_)
                refine q_aload_n d208_73 rfl ?_
                refine q_getR (x := 422) d208_74 (fs10_102 208 rfl) rfl (lt_w1 rfl) sh260 (rs260_33 R) (by decide) ?_
                refine q_aload_n d208_77 rfl ?_
                refine q_getI d208_78 (fs10_348 208 rfl) rfl (lt_w1 rfl) sh260 ?_
                refine r_int (y := (nI z)) (show (j_u (j_u I 422 (z + 0) a) 422 (z + 1) b) 260 34 = (nI z) from (((j_u_o _ _ _ (by decide)).trans (j_u_o _ _ _ (by decide))).trans hz)) ?_
                refine q_iload d208_81 rfl ?_
                refine q_iadd d208_83 ?_
                refine r_int (y := (nI (z + 2))) (nI_add z 2) ?_
                refine q_iload d208_84 rfl ?_
                refine q_if_ne (tgt := 93) d208_86 rfl (fun _ => ?_) (fun h => absurd h (by decide))
                refine q_iload d208_93 rfl ?_
                refine q_iconst (v := 1) (by decide) d208_95 ?_
                refine q_icmp_ne (tgt := 103) d208_96 rfl (fun _ => ?_) (fun h => absurd h (by decide))
                refine q_iload d208_103 rfl ?_
                refine q_iconst (v := 2) (by decide) d208_105 ?_
                refine q_icmp_ne (tgt := 114) d208_106 rfl (fun h => absurd h (by decide)) (fun _ => ?_)
                refine q_iload d208_109 rfl ?_
                refine q_goto (tgt := 127) d208_111 rfl ?_
                refine q_iastore (a := (z + 2)) d208_127 (lt_w1 rfl) sh422 rfl (by omega) ?_
                refine q_iinc (L' := [some (.ref 260), some (.int 3), some (.int a), some (.int b), some (.int c), some (.int e), some (.int f), some (.int 3)]) (v := 3) d208_128 rfl (by decide) rfl ?_
                refine q_goto (tgt := 67) d208_131 rfl ?_
                refine q_iload d208_67 rfl ?_
                refine q_iload_n d208_69 rfl ?_
                refine q_icmp_ge (tgt := 134) d208_70 rfl (fun _ => ?_) (fun h => absurd h (by decide))
                refine q_aload_n d208_134 rfl ?_
                refine q_dup rfl d208_135 ?_
                refine q_getI d208_136 (fs10_348 208 rfl) rfl (lt_w1 rfl) sh260 ?_
                refine r_int (y := (nI z)) (show (j_u (j_u (j_u I 422 (z + 0) a) 422 (z + 1) b) 422 (z + 2) c) 260 34 = (nI z) from (((j_u_o _ _ _ (by decide)).trans ((j_u_o _ _ _ (by decide)).trans (j_u_o _ _ _ (by decide)))).trans hz)) ?_
                refine q_iload_n d208_139 rfl ?_
                refine q_iadd d208_140 ?_
                refine r_int (y := (nI (z + 3))) (nI_add z 3) ?_
                refine q_putI d208_141 (fs10_348 208 rfl) (Or.inl rfl) rfl (lt_w1 rfl) sh260 ?_
                refine q_aload_n d208_144 rfl ?_
                refine q_getI d208_145 (fs10_348 208 rfl) rfl (lt_w1 rfl) sh260 ?_
                refine r_int (y := (nI (z + 3))) (show (j_u (j_u (j_u (j_u I 422 (z + 0) a) 422 (z + 1) b) 422 (z + 2) c) 260 34 (nI (z + 3))) 260 34 = (nI (z + 3)) from (j_u_same _ _ _ _)) ?_
                exact q_iret d208_148 rfl (Nat.le_refl _) (Nat.le_refl _) (v1 h1 c2 c4 c6 c8 c10 h12tc)
              ·
                have h12fc : ¬ (z + 3) ≤ 96 := mt (nI_leI (by omega) (by omega)).mpr h12f
                refine q_bipush (v := (-4)) (by decide) d208_61 ?_
                exact q_iret d208_63 rfl (Nat.le_refl _) (Nat.le_refl _) (v2 h1 c2 c4 c6 c8 c10 h12fc)
            ·
              show j_W 208 d 0 0 0 0 44 [some (.ref 260), some (.int 3), some (.int a), some (.int b), some (.int c), some (.int e), some (.int f), none] [.int 0] w1 (I, D, RR R) Q
              refine q_if_ne (tgt := 50) d208_44 rfl (fun h => absurd h (by decide)) (fun _ => ?_)
              refine q_bipush (v := (-2)) (by decide) d208_47 ?_
              exact q_iret d208_49 rfl (Nat.le_refl _) (Nat.le_refl _) (v3 h1 c2 c4 c6 c8 c11)
          ·
            show j_W 208 d 0 0 0 0 36 [some (.ref 260), some (.int 3), some (.int a), some (.int b), some (.int c), some (.int e), some (.int f), none] [.int 0] w1 (I, D, RR R) Q
            refine q_if_eq (tgt := 47) d208_36 rfl (fun _ => ?_) (fun h => absurd h (by decide))
            refine q_bipush (v := (-2)) (by decide) d208_47 ?_
            exact q_iret d208_49 rfl (Nat.le_refl _) (Nat.le_refl _) (v4 h1 c2 c4 c6 c9)
        ·
          show j_W 208 d 0 0 0 0 28 [some (.ref 260), some (.int 3), some (.int a), some (.int b), some (.int c), some (.int e), some (.int f), none] [.int 0] w1 (I, D, RR R) Q
          refine q_if_eq (tgt := 47) d208_28 rfl (fun _ => ?_) (fun h => absurd h (by decide))
          refine q_bipush (v := (-2)) (by decide) d208_47 ?_
          exact q_iret d208_49 rfl (Nat.le_refl _) (Nat.le_refl _) (v5 h1 c2 c4 c7)
      ·
        show j_W 208 d 0 0 0 0 20 [some (.ref 260), some (.int 3), some (.int a), some (.int b), some (.int c), some (.int e), some (.int f), none] [.int 0] w1 (I, D, RR R) Q
        refine q_if_eq (tgt := 47) d208_20 rfl (fun _ => ?_) (fun h => absurd h (by decide))
        refine q_bipush (v := (-2)) (by decide) d208_47 ?_
        exact q_iret d208_49 rfl (Nat.le_refl _) (Nat.le_refl _) (v6 h1 c2 c5)
    ·
      show j_W 208 d 0 0 0 0 13 [some (.ref 260), some (.int 3), some (.int a), some (.int b), some (.int c), some (.int e), some (.int f), none] [.int 0] w1 (I, D, RR R) Q
      refine q_if_eq (tgt := 47) d208_13 rfl (fun _ => ?_) (fun h => absurd h (by decide))
      refine q_bipush (v := (-2)) (by decide) d208_47 ?_
      exact q_iret d208_49 rfl (Nat.le_refl _) (Nat.le_refl _) (v7 h1 c3)
  ·
    show j_W 208 d 0 0 0 0 6 [some (.ref 260), some (.int 3), some (.int a), some (.int b), some (.int c), some (.int e), some (.int f), none] [.int 0] w1 (I, D, RR R) Q
    refine q_if_eq (tgt := 47) d208_6 rfl (fun _ => ?_) (fun h => absurd h (by decide))
    refine q_bipush (v := (-2)) (by decide) d208_47 ?_
    exact q_iret d208_49 rfl (Nat.le_refl _) (Nat.le_refl _) (v8 h1)

set_option maxRecDepth 10000 in
set_option maxHeartbeats 4000000 in
theorem s62n4 {d : Nat} {I : Nat → Nat → Int32} {D : Nat → Nat → UInt64} {R : Nat → Nat → Option Nat} {Q : j_Po} {a : Int32} {b : Int32} {c : Int32} {e : Int32} {f : Int32} {z : Nat} (hR : WFR R) (hz : I 97 1 = nI z) (hz9 : z ≤ 96) (hd : 1 ≤ d)
    (v1 : ((¬ a < 0 ∧ ¬ 255 < a)) → ((¬ b < 0 ∧ ¬ 255 < b)) → ((¬ c < 0 ∧ ¬ 255 < c)) → ((¬ e < 0 ∧ ¬ 255 < e)) → ((¬ f < 0 ∧ ¬ 255 < f)) → ((z + 4) ≤ 96) → Q (some (.int (nI (z + 4)))) w1 ((j_u (j_u (j_u (j_u (j_u (j_u (j_u (j_u I 97 1 (nI (z + 1))) 98 z a) 97 1 (nI (z + 2))) 98 (z + 1) b) 97 1 (nI (z + 3))) 98 (z + 2) c) 97 1 (nI (z + 4))) 98 (z + 3) e), D, RR R))
    (v2 : ((¬ a < 0 ∧ ¬ 255 < a)) → ((¬ b < 0 ∧ ¬ 255 < b)) → ((¬ c < 0 ∧ ¬ 255 < c)) → ((¬ e < 0 ∧ ¬ 255 < e)) → ((¬ f < 0 ∧ ¬ 255 < f)) → (¬ (z + 4) ≤ 96) → Q (some (.int (-4))) w1 (I, D, RR R))
    (v3 : ((¬ a < 0 ∧ ¬ 255 < a)) → ((¬ b < 0 ∧ ¬ 255 < b)) → ((¬ c < 0 ∧ ¬ 255 < c)) → ((¬ e < 0 ∧ ¬ 255 < e)) → (¬ ((¬ f < 0 ∧ ¬ 255 < f))) → Q (some (.int (-2))) w1 (I, D, RR R))
    (v4 : ((¬ a < 0 ∧ ¬ 255 < a)) → ((¬ b < 0 ∧ ¬ 255 < b)) → ((¬ c < 0 ∧ ¬ 255 < c)) → (¬ ((¬ e < 0 ∧ ¬ 255 < e))) → Q (some (.int (-2))) w1 (I, D, RR R))
    (v5 : ((¬ a < 0 ∧ ¬ 255 < a)) → ((¬ b < 0 ∧ ¬ 255 < b)) → (¬ ((¬ c < 0 ∧ ¬ 255 < c))) → Q (some (.int (-2))) w1 (I, D, RR R))
    (v6 : ((¬ a < 0 ∧ ¬ 255 < a)) → (¬ ((¬ b < 0 ∧ ¬ 255 < b))) → Q (some (.int (-2))) w1 (I, D, RR R))
    (v7 : (¬ ((¬ a < 0 ∧ ¬ 255 < a))) → Q (some (.int (-2))) w1 (I, D, RR R)) : j_Call d 62 [.ref 0, .int 4, .int a, .int b, .int c, .int e, .int f] w1 (I, D, RR R) 0 0 Q := by
  refine q_enter (L := [some (.ref 0), some (.int 4), some (.int a), some (.int b), some (.int c), some (.int e), some (.int f)]) j_m62 (Nat.le_of_ble_eq_true rfl) rfl ?_
  refine q_iload_n d62_0 rfl ?_
  refine q_iconst (v := 1) (by decide) d62_1 ?_
  refine q_icmp_lt (tgt := 10) d62_2 rfl (fun h => absurd h (by decide)) (fun _ => ?_)
  refine q_iload_n d62_5 rfl ?_
  refine q_iconst (v := 5) (by decide) d62_6 ?_
  refine q_icmp_le (tgt := 13) d62_7 rfl (fun _ => ?_) (fun h => absurd h (by decide))
  refine q_iload_n d62_13 rfl ?_
  refine q_invS (av := [.int a]) (rest := []) (d' := 0) (mc' := 0) (ms' := 0) d62_14 (cv9_148 62 rfl) rfl rfl (by omega) (Nat.le_of_ble_eq_true rfl) (Nat.le_of_ble_eq_true rfl) (Nat.le_refl _) (Nat.le_refl _) ?_
  refine p63  (fun h1 => ?_) (fun h1 => ?_)
  ·
    show j_W 62 d 0 0 0 0 17 [some (.ref 0), some (.int 4), some (.int a), some (.int b), some (.int c), some (.int e), some (.int f)] [.int 1] w1 (I, D, RR R) Q
    refine q_if_eq (tgt := 51) d62_17 rfl (fun h => absurd h (by decide)) (fun _ => ?_)
    refine q_iload_n d62_20 rfl ?_
    refine q_invS (av := [.int b]) (rest := []) (d' := 0) (mc' := 0) (ms' := 0) d62_21 (cv9_148 62 rfl) rfl rfl (by omega) (Nat.le_of_ble_eq_true rfl) (Nat.le_of_ble_eq_true rfl) (Nat.le_refl _) (Nat.le_refl _) ?_
    refine p63  (fun h2 => ?_) (fun h2 => ?_)
    ·
      show j_W 62 d 0 0 0 0 24 [some (.ref 0), some (.int 4), some (.int a), some (.int b), some (.int c), some (.int e), some (.int f)] [.int 1] w1 (I, D, RR R) Q
      refine q_if_eq (tgt := 51) d62_24 rfl (fun h => absurd h (by decide)) (fun _ => ?_)
      refine q_iload d62_27 rfl ?_
      refine q_invS (av := [.int c]) (rest := []) (d' := 0) (mc' := 0) (ms' := 0) d62_29 (cv9_148 62 rfl) rfl rfl (by omega) (Nat.le_of_ble_eq_true rfl) (Nat.le_of_ble_eq_true rfl) (Nat.le_refl _) (Nat.le_refl _) ?_
      refine p63  (fun h3 => ?_) (fun h3 => ?_)
      ·
        show j_W 62 d 0 0 0 0 32 [some (.ref 0), some (.int 4), some (.int a), some (.int b), some (.int c), some (.int e), some (.int f)] [.int 1] w1 (I, D, RR R) Q
        refine q_if_eq (tgt := 51) d62_32 rfl (fun h => absurd h (by decide)) (fun _ => ?_)
        refine q_iload d62_35 rfl ?_
        refine q_invS (av := [.int e]) (rest := []) (d' := 0) (mc' := 0) (ms' := 0) d62_37 (cv9_148 62 rfl) rfl rfl (by omega) (Nat.le_of_ble_eq_true rfl) (Nat.le_of_ble_eq_true rfl) (Nat.le_refl _) (Nat.le_refl _) ?_
        refine p63  (fun h4 => ?_) (fun h4 => ?_)
        ·
          show j_W 62 d 0 0 0 0 40 [some (.ref 0), some (.int 4), some (.int a), some (.int b), some (.int c), some (.int e), some (.int f)] [.int 1] w1 (I, D, RR R) Q
          refine q_if_eq (tgt := 51) d62_40 rfl (fun h => absurd h (by decide)) (fun _ => ?_)
          refine q_iload d62_43 rfl ?_
          refine q_invS (av := [.int f]) (rest := []) (d' := 0) (mc' := 0) (ms' := 0) d62_45 (cv9_148 62 rfl) rfl rfl (by omega) (Nat.le_of_ble_eq_true rfl) (Nat.le_of_ble_eq_true rfl) (Nat.le_refl _) (Nat.le_refl _) ?_
          refine p63  (fun h5 => ?_) (fun h5 => ?_)
          ·
            show j_W 62 d 0 0 0 0 48 [some (.ref 0), some (.int 4), some (.int a), some (.int b), some (.int c), some (.int e), some (.int f)] [.int 1] w1 (I, D, RR R) Q
            refine q_if_ne (tgt := 54) d62_48 rfl (fun _ => ?_) (fun h => absurd h (by decide))
            refine q_aload_n d62_54 rfl ?_
            refine q_getR (x := 97) d62_55 (fs9_19 62 rfl) rfl (lt_w1 rfl) sh0 (rs0_5 R) (by decide) ?_
            refine q_getI d62_58 (fs9_151 62 rfl) rfl (lt_w1 rfl) sh97 ?_
            refine r_int (y := (nI z)) (show I 97 1 = (nI z) from hz) ?_
            refine q_iload_n d62_61 rfl ?_
            refine q_iadd d62_62 ?_
            refine r_int (y := (nI (z + 4))) (nI_add z 4) ?_
            refine q_bipush (v := 96) (by decide) d62_63 ?_
            refine q_icmp_le (tgt := 71) d62_65 rfl (fun h6t => ?_) (fun h6f => ?_)
            ·
              have h6tc : (z + 4) ≤ 96 := (nI_leI (by omega) (by omega)).mp h6t
              refine q_aload_n d62_71 rfl ?_
              refine q_getR (x := 97) d62_72 (fs9_19 62 rfl) rfl (lt_w1 rfl) sh0 (rs0_5 R) (by decide) ?_
              refine q_iload_n d62_75 rfl ?_
              refine q_invV (o := 97) (ci := 5) (av := [.int a]) (rest := []) (d' := 0) (mc' := 0) (ms' := 0) d62_76 (cv9_155 62 rfl) rfl (by decide) rfl rfl (by omega) (Nat.le_of_ble_eq_true rfl) (Nat.le_of_ble_eq_true rfl) (lt_w1 rfl) sh97 (Nat.le_refl _) (Nat.le_refl _) ?_
              refine t64 (z := z) (by first | exact hz | (simp (disch := omega) only [j_u_o, j_u_k, j_u_same]; done) | rfl) (by omega) (Nat.le_refl _)  ?_
              show j_W 62 d 0 0 0 0 79 [some (.ref 0), some (.int 4), some (.int a), some (.int b), some (.int c), some (.int e), some (.int f)] [] w1 ((j_u (j_u I 97 1 (nI (z + 1))) 98 z a), D, RR R) Q
              refine q_iload_n d62_79 rfl ?_
              refine q_iconst (v := 1) (by decide) d62_80 ?_
              refine q_icmp_le (tgt := 92) d62_81 rfl (fun h => absurd h (by decide)) (fun _ => ?_)
              refine q_aload_n d62_84 rfl ?_
              refine q_getR (x := 97) d62_85 (fs9_19 62 rfl) rfl (lt_w1 rfl) sh0 (rs0_5 R) (by decide) ?_
              refine q_iload_n d62_88 rfl ?_
              refine q_invV (o := 97) (ci := 5) (av := [.int b]) (rest := []) (d' := 0) (mc' := 0) (ms' := 0) d62_89 (cv9_155 62 rfl) rfl (by decide) rfl rfl (by omega) (Nat.le_of_ble_eq_true rfl) (Nat.le_of_ble_eq_true rfl) (lt_w1 rfl) sh97 (Nat.le_refl _) (Nat.le_refl _) ?_
              refine t64 (z := (z + 1)) (by first | exact hz | (simp (disch := omega) only [j_u_o, j_u_k, j_u_same]; done) | rfl) (by omega) (Nat.le_refl _)  ?_
              show j_W 62 d 0 0 0 0 92 [some (.ref 0), some (.int 4), some (.int a), some (.int b), some (.int c), some (.int e), some (.int f)] [] w1 ((j_u (j_u (j_u (j_u I 97 1 (nI (z + 1))) 98 z a) 97 1 (nI (z + 2))) 98 (z + 1) b), D, RR R) Q
              refine q_iload_n d62_92 rfl ?_
              refine q_iconst (v := 2) (by decide) d62_93 ?_
              refine q_icmp_le (tgt := 106) d62_94 rfl (fun h => absurd h (by decide)) (fun _ => ?_)
              refine q_aload_n d62_97 rfl ?_
              refine q_getR (x := 97) d62_98 (fs9_19 62 rfl) rfl (lt_w1 rfl) sh0 (rs0_5 R) (by decide) ?_
              refine q_iload d62_101 rfl ?_
              refine q_invV (o := 97) (ci := 5) (av := [.int c]) (rest := []) (d' := 0) (mc' := 0) (ms' := 0) d62_103 (cv9_155 62 rfl) rfl (by decide) rfl rfl (by omega) (Nat.le_of_ble_eq_true rfl) (Nat.le_of_ble_eq_true rfl) (lt_w1 rfl) sh97 (Nat.le_refl _) (Nat.le_refl _) ?_
              refine t64 (z := (z + 2)) (by first | exact hz | (simp (disch := omega) only [j_u_o, j_u_k, j_u_same]; done) | rfl) (by omega) (Nat.le_refl _)  ?_
              show j_W 62 d 0 0 0 0 106 [some (.ref 0), some (.int 4), some (.int a), some (.int b), some (.int c), some (.int e), some (.int f)] [] w1 ((j_u (j_u (j_u (j_u (j_u (j_u I 97 1 (nI (z + 1))) 98 z a) 97 1 (nI (z + 2))) 98 (z + 1) b) 97 1 (nI (z + 3))) 98 (z + 2) c), D, RR R) Q
              refine q_iload_n d62_106 rfl ?_
              refine q_iconst (v := 3) (by decide) d62_107 ?_
              refine q_icmp_le (tgt := 120) d62_108 rfl (fun h => absurd h (by decide)) (fun _ => ?_)
              refine q_aload_n d62_111 rfl ?_
              refine q_getR (x := 97) d62_112 (fs9_19 62 rfl) rfl (lt_w1 rfl) sh0 (rs0_5 R) (by decide) ?_
              refine q_iload d62_115 rfl ?_
              refine q_invV (o := 97) (ci := 5) (av := [.int e]) (rest := []) (d' := 0) (mc' := 0) (ms' := 0) d62_117 (cv9_155 62 rfl) rfl (by decide) rfl rfl (by omega) (Nat.le_of_ble_eq_true rfl) (Nat.le_of_ble_eq_true rfl) (lt_w1 rfl) sh97 (Nat.le_refl _) (Nat.le_refl _) ?_
              refine t64 (z := (z + 3)) (by first | exact hz | (simp (disch := omega) only [j_u_o, j_u_k, j_u_same]; done) | rfl) (by omega) (Nat.le_refl _)  ?_
              show j_W 62 d 0 0 0 0 120 [some (.ref 0), some (.int 4), some (.int a), some (.int b), some (.int c), some (.int e), some (.int f)] [] w1 ((j_u (j_u (j_u (j_u (j_u (j_u (j_u (j_u I 97 1 (nI (z + 1))) 98 z a) 97 1 (nI (z + 2))) 98 (z + 1) b) 97 1 (nI (z + 3))) 98 (z + 2) c) 97 1 (nI (z + 4))) 98 (z + 3) e), D, RR R) Q
              refine q_iload_n d62_120 rfl ?_
              refine q_iconst (v := 4) (by decide) d62_121 ?_
              refine q_icmp_le (tgt := 134) d62_122 rfl (fun _ => ?_) (fun h => absurd h (by decide))
              refine q_aload_n d62_134 rfl ?_
              refine q_getR (x := 97) d62_135 (fs9_19 62 rfl) rfl (lt_w1 rfl) sh0 (rs0_5 R) (by decide) ?_
              refine q_getI d62_138 (fs9_151 62 rfl) rfl (lt_w1 rfl) sh97 ?_
              refine r_int (y := (nI (z + 4))) (show (j_u (j_u (j_u (j_u (j_u (j_u (j_u (j_u I 97 1 (nI (z + 1))) 98 z a) 97 1 (nI (z + 2))) 98 (z + 1) b) 97 1 (nI (z + 3))) 98 (z + 2) c) 97 1 (nI (z + 4))) 98 (z + 3) e) 97 1 = (nI (z + 4)) from ((j_u_o _ _ _ (by decide)).trans (j_u_same _ _ _ _))) ?_
              exact q_iret d62_141 rfl (Nat.le_refl _) (Nat.le_refl _) (v1 h1 h2 h3 h4 h5 h6tc)
            ·
              have h6fc : ¬ (z + 4) ≤ 96 := mt (nI_leI (by omega) (by omega)).mpr h6f
              refine q_bipush (v := (-4)) (by decide) d62_68 ?_
              exact q_iret d62_70 rfl (Nat.le_refl _) (Nat.le_refl _) (v2 h1 h2 h3 h4 h5 h6fc)
          ·
            show j_W 62 d 0 0 0 0 48 [some (.ref 0), some (.int 4), some (.int a), some (.int b), some (.int c), some (.int e), some (.int f)] [.int 0] w1 (I, D, RR R) Q
            refine q_if_ne (tgt := 54) d62_48 rfl (fun h => absurd h (by decide)) (fun _ => ?_)
            refine q_bipush (v := (-2)) (by decide) d62_51 ?_
            exact q_iret d62_53 rfl (Nat.le_refl _) (Nat.le_refl _) (v3 h1 h2 h3 h4 h5)
        ·
          show j_W 62 d 0 0 0 0 40 [some (.ref 0), some (.int 4), some (.int a), some (.int b), some (.int c), some (.int e), some (.int f)] [.int 0] w1 (I, D, RR R) Q
          refine q_if_eq (tgt := 51) d62_40 rfl (fun _ => ?_) (fun h => absurd h (by decide))
          refine q_bipush (v := (-2)) (by decide) d62_51 ?_
          exact q_iret d62_53 rfl (Nat.le_refl _) (Nat.le_refl _) (v4 h1 h2 h3 h4)
      ·
        show j_W 62 d 0 0 0 0 32 [some (.ref 0), some (.int 4), some (.int a), some (.int b), some (.int c), some (.int e), some (.int f)] [.int 0] w1 (I, D, RR R) Q
        refine q_if_eq (tgt := 51) d62_32 rfl (fun _ => ?_) (fun h => absurd h (by decide))
        refine q_bipush (v := (-2)) (by decide) d62_51 ?_
        exact q_iret d62_53 rfl (Nat.le_refl _) (Nat.le_refl _) (v5 h1 h2 h3)
    ·
      show j_W 62 d 0 0 0 0 24 [some (.ref 0), some (.int 4), some (.int a), some (.int b), some (.int c), some (.int e), some (.int f)] [.int 0] w1 (I, D, RR R) Q
      refine q_if_eq (tgt := 51) d62_24 rfl (fun _ => ?_) (fun h => absurd h (by decide))
      refine q_bipush (v := (-2)) (by decide) d62_51 ?_
      exact q_iret d62_53 rfl (Nat.le_refl _) (Nat.le_refl _) (v6 h1 h2)
  ·
    show j_W 62 d 0 0 0 0 17 [some (.ref 0), some (.int 4), some (.int a), some (.int b), some (.int c), some (.int e), some (.int f)] [.int 0] w1 (I, D, RR R) Q
    refine q_if_eq (tgt := 51) d62_17 rfl (fun _ => ?_) (fun h => absurd h (by decide))
    refine q_bipush (v := (-2)) (by decide) d62_51 ?_
    exact q_iret d62_53 rfl (Nat.le_refl _) (Nat.le_refl _) (v7 h1)

set_option maxRecDepth 10000 in
set_option maxHeartbeats 4000000 in
theorem s208n4 {d : Nat} {I : Nat → Nat → Int32} {D : Nat → Nat → UInt64} {R : Nat → Nat → Option Nat} {Q : j_Po} {a : Int32} {b : Int32} {c : Int32} {e : Int32} {f : Int32} {z : Nat} (hz : I 260 34 = nI z) (hz9 : z ≤ 96) (hd : 2 ≤ d)
    (v1 : ((¬ (4 : Int32) < (1 : Int32) ∧ ¬ (5 : Int32) < (4 : Int32))) → ((¬ a < (0 : Int32) ∧ ¬ (255 : Int32) < a)) → ((¬ b < (0 : Int32) ∧ ¬ (255 : Int32) < b)) → ((¬ c < (0 : Int32) ∧ ¬ (255 : Int32) < c)) → ((¬ e < (0 : Int32) ∧ ¬ (255 : Int32) < e)) → ((¬ f < (0 : Int32) ∧ ¬ (255 : Int32) < f)) → ((z + 4) ≤ 96) → Q (some (.int (nI (z + 4)))) w1 ((j_u (j_u (j_u (j_u (j_u I 422 (z + 0) a) 422 (z + 1) b) 422 (z + 2) c) 422 (z + 3) e) 260 34 (nI (z + 4))), D, RR R))
    (v2 : ((¬ (4 : Int32) < (1 : Int32) ∧ ¬ (5 : Int32) < (4 : Int32))) → ((¬ a < (0 : Int32) ∧ ¬ (255 : Int32) < a)) → ((¬ b < (0 : Int32) ∧ ¬ (255 : Int32) < b)) → ((¬ c < (0 : Int32) ∧ ¬ (255 : Int32) < c)) → ((¬ e < (0 : Int32) ∧ ¬ (255 : Int32) < e)) → ((¬ f < (0 : Int32) ∧ ¬ (255 : Int32) < f)) → (¬ (z + 4) ≤ 96) → Q (some (.int (-4))) w1 (I, D, RR R))
    (v3 : ((¬ (4 : Int32) < (1 : Int32) ∧ ¬ (5 : Int32) < (4 : Int32))) → ((¬ a < (0 : Int32) ∧ ¬ (255 : Int32) < a)) → ((¬ b < (0 : Int32) ∧ ¬ (255 : Int32) < b)) → ((¬ c < (0 : Int32) ∧ ¬ (255 : Int32) < c)) → ((¬ e < (0 : Int32) ∧ ¬ (255 : Int32) < e)) → (¬ ((¬ f < (0 : Int32) ∧ ¬ (255 : Int32) < f))) → Q (some (.int (-2))) w1 (I, D, RR R))
    (v4 : ((¬ (4 : Int32) < (1 : Int32) ∧ ¬ (5 : Int32) < (4 : Int32))) → ((¬ a < (0 : Int32) ∧ ¬ (255 : Int32) < a)) → ((¬ b < (0 : Int32) ∧ ¬ (255 : Int32) < b)) → ((¬ c < (0 : Int32) ∧ ¬ (255 : Int32) < c)) → (¬ ((¬ e < (0 : Int32) ∧ ¬ (255 : Int32) < e))) → Q (some (.int (-2))) w1 (I, D, RR R))
    (v5 : ((¬ (4 : Int32) < (1 : Int32) ∧ ¬ (5 : Int32) < (4 : Int32))) → ((¬ a < (0 : Int32) ∧ ¬ (255 : Int32) < a)) → ((¬ b < (0 : Int32) ∧ ¬ (255 : Int32) < b)) → (¬ ((¬ c < (0 : Int32) ∧ ¬ (255 : Int32) < c))) → Q (some (.int (-2))) w1 (I, D, RR R))
    (v6 : ((¬ (4 : Int32) < (1 : Int32) ∧ ¬ (5 : Int32) < (4 : Int32))) → ((¬ a < (0 : Int32) ∧ ¬ (255 : Int32) < a)) → (¬ ((¬ b < (0 : Int32) ∧ ¬ (255 : Int32) < b))) → Q (some (.int (-2))) w1 (I, D, RR R))
    (v7 : ((¬ (4 : Int32) < (1 : Int32) ∧ ¬ (5 : Int32) < (4 : Int32))) → (¬ ((¬ a < (0 : Int32) ∧ ¬ (255 : Int32) < a))) → Q (some (.int (-2))) w1 (I, D, RR R))
    (v8 : (¬ ((¬ (4 : Int32) < (1 : Int32) ∧ ¬ (5 : Int32) < (4 : Int32)))) → Q (some (.int (-2))) w1 (I, D, RR R)) : j_Call d 208 [.ref 260, .int 4, .int a, .int b, .int c, .int e, .int f] w1 (I, D, RR R) 0 0 Q := by
  refine q_enter (L := [some (.ref 260), some (.int 4), some (.int a), some (.int b), some (.int c), some (.int e), some (.int f), none]) j_m208 (Nat.le_of_ble_eq_true rfl) rfl ?_
  refine q_iload_n d208_0 rfl ?_
  refine q_iconst (v := 1) (by decide) d208_1 ?_
  refine q_iconst (v := 5) (by decide) d208_2 ?_
  refine q_invS (av := [.int 4, .int 1, .int 5]) (rest := []) (d' := 0) (mc' := 0) (ms' := 0) d208_3 (cv10_183 208 rfl) rfl rfl (by omega) (Nat.le_of_ble_eq_true rfl) (Nat.le_of_ble_eq_true rfl) (Nat.le_refl _) (Nat.le_refl _) ?_
  refine p168  (fun h1 => ?_) (fun h1 => ?_)
  ·
    show j_W 208 d 0 0 0 0 6 [some (.ref 260), some (.int 4), some (.int a), some (.int b), some (.int c), some (.int e), some (.int f), none] [.int 1] w1 (I, D, RR R) Q
    refine q_if_eq (tgt := 47) d208_6 rfl (fun h => absurd h (by decide)) (fun _ => ?_)
    refine q_iload_n d208_9 rfl ?_
    refine q_invS (av := [.int a]) (rest := []) (d' := 1) (mc' := 0) (ms' := 0) d208_10 (cv10_345 208 rfl) rfl rfl (by omega) (Nat.le_of_ble_eq_true rfl) (Nat.le_of_ble_eq_true rfl) (Nat.le_refl _) (Nat.le_refl _) ?_
    refine s209   (Nat.le_refl _) (fun c2 => ?_) (fun c3 => ?_)
    ·
      show j_W 208 d 0 0 0 0 13 [some (.ref 260), some (.int 4), some (.int a), some (.int b), some (.int c), some (.int e), some (.int f), none] [.int 1] w1 (I, D, RR R) Q
      refine q_if_eq (tgt := 47) d208_13 rfl (fun h => absurd h (by decide)) (fun _ => ?_)
      refine q_iload_n d208_16 rfl ?_
      refine q_invS (av := [.int b]) (rest := []) (d' := 1) (mc' := 0) (ms' := 0) d208_17 (cv10_345 208 rfl) rfl rfl (by omega) (Nat.le_of_ble_eq_true rfl) (Nat.le_of_ble_eq_true rfl) (Nat.le_refl _) (Nat.le_refl _) ?_
      refine s209   (Nat.le_refl _) (fun c4 => ?_) (fun c5 => ?_)
      ·
        show j_W 208 d 0 0 0 0 20 [some (.ref 260), some (.int 4), some (.int a), some (.int b), some (.int c), some (.int e), some (.int f), none] [.int 1] w1 (I, D, RR R) Q
        refine q_if_eq (tgt := 47) d208_20 rfl (fun h => absurd h (by decide)) (fun _ => ?_)
        refine q_iload d208_23 rfl ?_
        refine q_invS (av := [.int c]) (rest := []) (d' := 1) (mc' := 0) (ms' := 0) d208_25 (cv10_345 208 rfl) rfl rfl (by omega) (Nat.le_of_ble_eq_true rfl) (Nat.le_of_ble_eq_true rfl) (Nat.le_refl _) (Nat.le_refl _) ?_
        refine s209   (Nat.le_refl _) (fun c6 => ?_) (fun c7 => ?_)
        ·
          show j_W 208 d 0 0 0 0 28 [some (.ref 260), some (.int 4), some (.int a), some (.int b), some (.int c), some (.int e), some (.int f), none] [.int 1] w1 (I, D, RR R) Q
          refine q_if_eq (tgt := 47) d208_28 rfl (fun h => absurd h (by decide)) (fun _ => ?_)
          refine q_iload d208_31 rfl ?_
          refine q_invS (av := [.int e]) (rest := []) (d' := 1) (mc' := 0) (ms' := 0) d208_33 (cv10_345 208 rfl) rfl rfl (by omega) (Nat.le_of_ble_eq_true rfl) (Nat.le_of_ble_eq_true rfl) (Nat.le_refl _) (Nat.le_refl _) ?_
          refine s209   (Nat.le_refl _) (fun c8 => ?_) (fun c9 => ?_)
          ·
            show j_W 208 d 0 0 0 0 36 [some (.ref 260), some (.int 4), some (.int a), some (.int b), some (.int c), some (.int e), some (.int f), none] [.int 1] w1 (I, D, RR R) Q
            refine q_if_eq (tgt := 47) d208_36 rfl (fun h => absurd h (by decide)) (fun _ => ?_)
            refine q_iload d208_39 rfl ?_
            refine q_invS (av := [.int f]) (rest := []) (d' := 1) (mc' := 0) (ms' := 0) d208_41 (cv10_345 208 rfl) rfl rfl (by omega) (Nat.le_of_ble_eq_true rfl) (Nat.le_of_ble_eq_true rfl) (Nat.le_refl _) (Nat.le_refl _) ?_
            refine s209   (Nat.le_refl _) (fun c10 => ?_) (fun c11 => ?_)
            ·
              show j_W 208 d 0 0 0 0 44 [some (.ref 260), some (.int 4), some (.int a), some (.int b), some (.int c), some (.int e), some (.int f), none] [.int 1] w1 (I, D, RR R) Q
              refine q_if_ne (tgt := 50) d208_44 rfl (fun _ => ?_) (fun h => absurd h (by decide))
              refine q_aload_n d208_50 rfl ?_
              refine q_getI d208_51 (fs10_348 208 rfl) rfl (lt_w1 rfl) sh260 ?_
              refine r_int (y := (nI z)) (show I 260 34 = (nI z) from hz) ?_
              refine q_iload_n d208_54 rfl ?_
              refine q_iadd d208_55 ?_
              refine r_int (y := (nI (z + 4))) (nI_add z 4) ?_
              refine q_bipush (v := 96) (by decide) d208_56 ?_
              refine q_icmp_le (tgt := 64) d208_58 rfl (fun h12t => ?_) (fun h12f => ?_)
              ·
                have h12tc : (z + 4) ≤ 96 := (nI_leI (by omega) (by omega)).mp h12t
                refine q_iconst (v := 0) (by decide) d208_64 ?_
                refine q_istore (L' := [some (.ref 260), some (.int 4), some (.int a), some (.int b), some (.int c), some (.int e), some (.int f), some (.int 0)]) d208_65 (Nat.le_of_ble_eq_true rfl) rfl ?_
                refine q_iload d208_67 rfl ?_
                refine q_iload_n d208_69 rfl ?_
                refine q_icmp_ge (tgt := 134) d208_70 rfl (fun h => absurd h (by decide)) (fun _ => ?_)
                refine q_aload_n d208_73 rfl ?_
                refine q_getR (x := 422) d208_74 (fs10_102 208 rfl) rfl (lt_w1 rfl) sh260 (rs260_33 R) (by decide) ?_
                refine q_aload_n d208_77 rfl ?_
                refine q_getI d208_78 (fs10_348 208 rfl) rfl (lt_w1 rfl) sh260 ?_
                refine r_int (y := (nI z)) (show I 260 34 = (nI z) from hz) ?_
                refine q_iload d208_81 rfl ?_
                refine q_iadd d208_83 ?_
                refine r_int (y := (nI (z + 0))) (nI_add z 0) ?_
                refine q_iload d208_84 rfl ?_
                refine q_if_ne (tgt := 93) d208_86 rfl (fun h => absurd h (by decide)) (fun _ => ?_)
                refine q_iload_n d208_89 rfl ?_
                refine q_goto (tgt := 127) d208_90 rfl ?_
                refine q_iastore (a := (z + 0)) d208_127 (lt_w1 rfl) sh422 rfl (by omega) ?_
                refine q_iinc (L' := [some (.ref 260), some (.int 4), some (.int a), some (.int b), some (.int c), some (.int e), some (.int f), some (.int 1)]) (v := 1) d208_128 rfl (by decide) rfl ?_
                refine q_goto (tgt := 67) d208_131 rfl ?_
                refine q_iload d208_67 rfl ?_
                refine q_iload_n d208_69 rfl ?_
                refine q_icmp_ge (tgt := 134) d208_70 rfl (fun h => absurd h (by decide)) (fun _ => ?_)
                refine q_aload_n d208_73 rfl ?_
                refine q_getR (x := 422) d208_74 (fs10_102 208 rfl) rfl (lt_w1 rfl) sh260 (rs260_33 R) (by decide) ?_
                refine q_aload_n d208_77 rfl ?_
                refine q_getI d208_78 (fs10_348 208 rfl) rfl (lt_w1 rfl) sh260 ?_
                refine r_int (y := (nI z)) (show (j_u I 422 (z + 0) a) 260 34 = (nI z) from ((j_u_o _ _ _ (by decide)).trans hz)) ?_
                refine q_iload d208_81 rfl ?_
                refine q_iadd d208_83 ?_
                refine r_int (y := (nI (z + 1))) (nI_add z 1) ?_
                refine q_iload d208_84 rfl ?_
                refine q_if_ne (tgt := 93) d208_86 rfl (fun _ => ?_) (fun h => absurd h (by decide))
                refine q_iload d208_93 rfl ?_
                refine q_iconst (v := 1) (by decide) d208_95 ?_
                refine q_icmp_ne (tgt := 103) d208_96 rfl (fun h => absurd h (by decide)) (fun _ => ?_)
                refine q_iload_n d208_99 rfl ?_
                refine q_goto (tgt := 127) d208_100 rfl ?_
                refine q_iastore (a := (z + 1)) d208_127 (lt_w1 rfl) sh422 rfl (by omega) ?_
                refine q_iinc (L' := [some (.ref 260), some (.int 4), some (.int a), some (.int b), some (.int c), some (.int e), some (.int f), some (.int 2)]) (v := 2) d208_128 rfl (by decide) rfl ?_
                refine q_goto (tgt := 67) d208_131 rfl ?_
                refine q_iload d208_67 rfl ?_
                refine q_iload_n d208_69 rfl ?_
                refine q_icmp_ge (tgt := 134) d208_70 rfl (fun h => absurd h (by decide)) (fun _ => ?_)
                refine q_aload_n d208_73 rfl ?_
                refine q_getR (x := 422) d208_74 (fs10_102 208 rfl) rfl (lt_w1 rfl) sh260 (rs260_33 R) (by decide) ?_
                refine q_aload_n d208_77 rfl ?_
                refine q_getI d208_78 (fs10_348 208 rfl) rfl (lt_w1 rfl) sh260 ?_
                refine r_int (y := (nI z)) (show (j_u (j_u I 422 (z + 0) a) 422 (z + 1) b) 260 34 = (nI z) from (((j_u_o _ _ _ (by decide)).trans (j_u_o _ _ _ (by decide))).trans hz)) ?_
                refine q_iload d208_81 rfl ?_
                refine q_iadd d208_83 ?_
                refine r_int (y := (nI (z + 2))) (nI_add z 2) ?_
                refine q_iload d208_84 rfl ?_
                refine q_if_ne (tgt := 93) d208_86 rfl (fun _ => ?_) (fun h => absurd h (by decide))
                refine q_iload d208_93 rfl ?_
                refine q_iconst (v := 1) (by decide) d208_95 ?_
                refine q_icmp_ne (tgt := 103) d208_96 rfl (fun _ => ?_) (fun h => absurd h (by decide))
                refine q_iload d208_103 rfl ?_
                refine q_iconst (v := 2) (by decide) d208_105 ?_
                refine q_icmp_ne (tgt := 114) d208_106 rfl (fun h => absurd h (by decide)) (fun _ => ?_)
                refine q_iload d208_109 rfl ?_
                refine q_goto (tgt := 127) d208_111 rfl ?_
                refine q_iastore (a := (z + 2)) d208_127 (lt_w1 rfl) sh422 rfl (by omega) ?_
                refine q_iinc (L' := [some (.ref 260), some (.int 4), some (.int a), some (.int b), some (.int c), some (.int e), some (.int f), some (.int 3)]) (v := 3) d208_128 rfl (by decide) rfl ?_
                refine q_goto (tgt := 67) d208_131 rfl ?_
                refine q_iload d208_67 rfl ?_
                refine q_iload_n d208_69 rfl ?_
                refine q_icmp_ge (tgt := 134) d208_70 rfl (fun h => absurd h (by decide)) (fun _ => ?_)
                refine q_aload_n d208_73 rfl ?_
                refine q_getR (x := 422) d208_74 (fs10_102 208 rfl) rfl (lt_w1 rfl) sh260 (rs260_33 R) (by decide) ?_
                refine q_aload_n d208_77 rfl ?_
                refine q_getI d208_78 (fs10_348 208 rfl) rfl (lt_w1 rfl) sh260 ?_
                refine r_int (y := (nI z)) (show (j_u (j_u (j_u I 422 (z + 0) a) 422 (z + 1) b) 422 (z + 2) c) 260 34 = (nI z) from (((j_u_o _ _ _ (by decide)).trans ((j_u_o _ _ _ (by decide)).trans (j_u_o _ _ _ (by decide)))).trans hz)) ?_
                refine q_iload d208_81 rfl ?_
                refine q_iadd d208_83 ?_
                refine r_int (y := (nI (z + 3))) (nI_add z 3) ?_
                refine q_iload d208_84 rfl ?_
                refine q_if_ne (tgt := 93) d208_86 rfl (fun _ => ?_) (fun h => absurd h (by decide))
                refine q_iload d208_93 rfl ?_
                refine q_iconst (v := 1) (by decide) d208_95 ?_
                refine q_icmp_ne (tgt := 103) d208_96 rfl (fun _ => ?_) (fun h => absurd h (by decide))
                refine q_iload d208_103 rfl ?_
                refine q_iconst (v := 2) (by decide) d208_105 ?_
                refine q_icmp_ne (tgt := 114) d208_106 rfl (fun _ => ?_) (fun h => absurd h (by decide))
                refine q_iload d208_114 rfl ?_
                refine q_iconst (v := 3) (by decide) d208_116 ?_
                refine q_icmp_ne (tgt := 125) d208_117 rfl (fun h => absurd h (by decide)) (fun _ => ?_)
                refine q_iload d208_120 rfl ?_
                refine q_goto (tgt := 127) d208_122 rfl ?_
                refine q_iastore (a := (z + 3)) d208_127 (lt_w1 rfl) sh422 rfl (by omega) ?_
                refine q_iinc (L' := [some (.ref 260), some (.int 4), some (.int a), some (.int b), some (.int c), some (.int e), some (.int f), some (.int 4)]) (v := 4) d208_128 rfl (by decide) rfl ?_
                refine q_goto (tgt := 67) d208_131 rfl ?_
                refine q_iload d208_67 rfl ?_
                refine q_iload_n d208_69 rfl ?_
                refine q_icmp_ge (tgt := 134) d208_70 rfl (fun _ => ?_) (fun h => absurd h (by decide))
                refine q_aload_n d208_134 rfl ?_
                refine q_dup rfl d208_135 ?_
                refine q_getI d208_136 (fs10_348 208 rfl) rfl (lt_w1 rfl) sh260 ?_
                refine r_int (y := (nI z)) (show (j_u (j_u (j_u (j_u I 422 (z + 0) a) 422 (z + 1) b) 422 (z + 2) c) 422 (z + 3) e) 260 34 = (nI z) from (((j_u_o _ _ _ (by decide)).trans ((j_u_o _ _ _ (by decide)).trans ((j_u_o _ _ _ (by decide)).trans (j_u_o _ _ _ (by decide))))).trans hz)) ?_
                refine q_iload_n d208_139 rfl ?_
                refine q_iadd d208_140 ?_
                refine r_int (y := (nI (z + 4))) (nI_add z 4) ?_
                refine q_putI d208_141 (fs10_348 208 rfl) (Or.inl rfl) rfl (lt_w1 rfl) sh260 ?_
                refine q_aload_n d208_144 rfl ?_
                refine q_getI d208_145 (fs10_348 208 rfl) rfl (lt_w1 rfl) sh260 ?_
                refine r_int (y := (nI (z + 4))) (show (j_u (j_u (j_u (j_u (j_u I 422 (z + 0) a) 422 (z + 1) b) 422 (z + 2) c) 422 (z + 3) e) 260 34 (nI (z + 4))) 260 34 = (nI (z + 4)) from (j_u_same _ _ _ _)) ?_
                exact q_iret d208_148 rfl (Nat.le_refl _) (Nat.le_refl _) (v1 h1 c2 c4 c6 c8 c10 h12tc)
              ·
                have h12fc : ¬ (z + 4) ≤ 96 := mt (nI_leI (by omega) (by omega)).mpr h12f
                refine q_bipush (v := (-4)) (by decide) d208_61 ?_
                exact q_iret d208_63 rfl (Nat.le_refl _) (Nat.le_refl _) (v2 h1 c2 c4 c6 c8 c10 h12fc)
            ·
              show j_W 208 d 0 0 0 0 44 [some (.ref 260), some (.int 4), some (.int a), some (.int b), some (.int c), some (.int e), some (.int f), none] [.int 0] w1 (I, D, RR R) Q
              refine q_if_ne (tgt := 50) d208_44 rfl (fun h => absurd h (by decide)) (fun _ => ?_)
              refine q_bipush (v := (-2)) (by decide) d208_47 ?_
              exact q_iret d208_49 rfl (Nat.le_refl _) (Nat.le_refl _) (v3 h1 c2 c4 c6 c8 c11)
          ·
            show j_W 208 d 0 0 0 0 36 [some (.ref 260), some (.int 4), some (.int a), some (.int b), some (.int c), some (.int e), some (.int f), none] [.int 0] w1 (I, D, RR R) Q
            refine q_if_eq (tgt := 47) d208_36 rfl (fun _ => ?_) (fun h => absurd h (by decide))
            refine q_bipush (v := (-2)) (by decide) d208_47 ?_
            exact q_iret d208_49 rfl (Nat.le_refl _) (Nat.le_refl _) (v4 h1 c2 c4 c6 c9)
        ·
          show j_W 208 d 0 0 0 0 28 [some (.ref 260), some (.int 4), some (.int a), some (.int b), some (.int c), some (.int e), some (.int f), none] [.int 0] w1 (I, D, RR R) Q
          refine q_if_eq (tgt := 47) d208_28 rfl (fun _ => ?_) (fun h => absurd h (by decide))
          refine q_bipush (v := (-2)) (by decide) d208_47 ?_
          exact q_iret d208_49 rfl (Nat.le_refl _) (Nat.le_refl _) (v5 h1 c2 c4 c7)
      ·
        show j_W 208 d 0 0 0 0 20 [some (.ref 260), some (.int 4), some (.int a), some (.int b), some (.int c), some (.int e), some (.int f), none] [.int 0] w1 (I, D, RR R) Q
        refine q_if_eq (tgt := 47) d208_20 rfl (fun _ => ?_) (fun h => absurd h (by decide))
        refine q_bipush (v := (-2)) (by decide) d208_47 ?_
        exact q_iret d208_49 rfl (Nat.le_refl _) (Nat.le_refl _) (v6 h1 c2 c5)
    ·
      show j_W 208 d 0 0 0 0 13 [some (.ref 260), some (.int 4), some (.int a), some (.int b), some (.int c), some (.int e), some (.int f), none] [.int 0] w1 (I, D, RR R) Q
      refine q_if_eq (tgt := 47) d208_13 rfl (fun _ => ?_) (fun h => absurd h (by decide))
      refine q_bipush (v := (-2)) (by decide) d208_47 ?_
      exact q_iret d208_49 rfl (Nat.le_refl _) (Nat.le_refl _) (v7 h1 c3)
  ·
    show j_W 208 d 0 0 0 0 6 [some (.ref 260), some (.int 4), some (.int a), some (.int b), some (.int c), some (.int e), some (.int f), none] [.int 0] w1 (I, D, RR R) Q
    refine q_if_eq (tgt := 47) d208_6 rfl (fun _ => ?_) (fun h => absurd h (by decide))
    refine q_bipush (v := (-2)) (by decide) d208_47 ?_
    exact q_iret d208_49 rfl (Nat.le_refl _) (Nat.le_refl _) (v8 h1)

set_option maxRecDepth 10000 in
set_option maxHeartbeats 4000000 in
theorem s62n5 {d : Nat} {I : Nat → Nat → Int32} {D : Nat → Nat → UInt64} {R : Nat → Nat → Option Nat} {Q : j_Po} {a : Int32} {b : Int32} {c : Int32} {e : Int32} {f : Int32} {z : Nat} (hR : WFR R) (hz : I 97 1 = nI z) (hz9 : z ≤ 96) (hd : 1 ≤ d)
    (v1 : ((¬ a < 0 ∧ ¬ 255 < a)) → ((¬ b < 0 ∧ ¬ 255 < b)) → ((¬ c < 0 ∧ ¬ 255 < c)) → ((¬ e < 0 ∧ ¬ 255 < e)) → ((¬ f < 0 ∧ ¬ 255 < f)) → ((z + 5) ≤ 96) → Q (some (.int (nI (z + 5)))) w1 ((j_u (j_u (j_u (j_u (j_u (j_u (j_u (j_u (j_u (j_u I 97 1 (nI (z + 1))) 98 z a) 97 1 (nI (z + 2))) 98 (z + 1) b) 97 1 (nI (z + 3))) 98 (z + 2) c) 97 1 (nI (z + 4))) 98 (z + 3) e) 97 1 (nI (z + 5))) 98 (z + 4) f), D, RR R))
    (v2 : ((¬ a < 0 ∧ ¬ 255 < a)) → ((¬ b < 0 ∧ ¬ 255 < b)) → ((¬ c < 0 ∧ ¬ 255 < c)) → ((¬ e < 0 ∧ ¬ 255 < e)) → ((¬ f < 0 ∧ ¬ 255 < f)) → (¬ (z + 5) ≤ 96) → Q (some (.int (-4))) w1 (I, D, RR R))
    (v3 : ((¬ a < 0 ∧ ¬ 255 < a)) → ((¬ b < 0 ∧ ¬ 255 < b)) → ((¬ c < 0 ∧ ¬ 255 < c)) → ((¬ e < 0 ∧ ¬ 255 < e)) → (¬ ((¬ f < 0 ∧ ¬ 255 < f))) → Q (some (.int (-2))) w1 (I, D, RR R))
    (v4 : ((¬ a < 0 ∧ ¬ 255 < a)) → ((¬ b < 0 ∧ ¬ 255 < b)) → ((¬ c < 0 ∧ ¬ 255 < c)) → (¬ ((¬ e < 0 ∧ ¬ 255 < e))) → Q (some (.int (-2))) w1 (I, D, RR R))
    (v5 : ((¬ a < 0 ∧ ¬ 255 < a)) → ((¬ b < 0 ∧ ¬ 255 < b)) → (¬ ((¬ c < 0 ∧ ¬ 255 < c))) → Q (some (.int (-2))) w1 (I, D, RR R))
    (v6 : ((¬ a < 0 ∧ ¬ 255 < a)) → (¬ ((¬ b < 0 ∧ ¬ 255 < b))) → Q (some (.int (-2))) w1 (I, D, RR R))
    (v7 : (¬ ((¬ a < 0 ∧ ¬ 255 < a))) → Q (some (.int (-2))) w1 (I, D, RR R)) : j_Call d 62 [.ref 0, .int 5, .int a, .int b, .int c, .int e, .int f] w1 (I, D, RR R) 0 0 Q := by
  refine q_enter (L := [some (.ref 0), some (.int 5), some (.int a), some (.int b), some (.int c), some (.int e), some (.int f)]) j_m62 (Nat.le_of_ble_eq_true rfl) rfl ?_
  refine q_iload_n d62_0 rfl ?_
  refine q_iconst (v := 1) (by decide) d62_1 ?_
  refine q_icmp_lt (tgt := 10) d62_2 rfl (fun h => absurd h (by decide)) (fun _ => ?_)
  refine q_iload_n d62_5 rfl ?_
  refine q_iconst (v := 5) (by decide) d62_6 ?_
  refine q_icmp_le (tgt := 13) d62_7 rfl (fun _ => ?_) (fun h => absurd h (by decide))
  refine q_iload_n d62_13 rfl ?_
  refine q_invS (av := [.int a]) (rest := []) (d' := 0) (mc' := 0) (ms' := 0) d62_14 (cv9_148 62 rfl) rfl rfl (by omega) (Nat.le_of_ble_eq_true rfl) (Nat.le_of_ble_eq_true rfl) (Nat.le_refl _) (Nat.le_refl _) ?_
  refine p63  (fun h1 => ?_) (fun h1 => ?_)
  ·
    show j_W 62 d 0 0 0 0 17 [some (.ref 0), some (.int 5), some (.int a), some (.int b), some (.int c), some (.int e), some (.int f)] [.int 1] w1 (I, D, RR R) Q
    refine q_if_eq (tgt := 51) d62_17 rfl (fun h => absurd h (by decide)) (fun _ => ?_)
    refine q_iload_n d62_20 rfl ?_
    refine q_invS (av := [.int b]) (rest := []) (d' := 0) (mc' := 0) (ms' := 0) d62_21 (cv9_148 62 rfl) rfl rfl (by omega) (Nat.le_of_ble_eq_true rfl) (Nat.le_of_ble_eq_true rfl) (Nat.le_refl _) (Nat.le_refl _) ?_
    refine p63  (fun h2 => ?_) (fun h2 => ?_)
    ·
      show j_W 62 d 0 0 0 0 24 [some (.ref 0), some (.int 5), some (.int a), some (.int b), some (.int c), some (.int e), some (.int f)] [.int 1] w1 (I, D, RR R) Q
      refine q_if_eq (tgt := 51) d62_24 rfl (fun h => absurd h (by decide)) (fun _ => ?_)
      refine q_iload d62_27 rfl ?_
      refine q_invS (av := [.int c]) (rest := []) (d' := 0) (mc' := 0) (ms' := 0) d62_29 (cv9_148 62 rfl) rfl rfl (by omega) (Nat.le_of_ble_eq_true rfl) (Nat.le_of_ble_eq_true rfl) (Nat.le_refl _) (Nat.le_refl _) ?_
      refine p63  (fun h3 => ?_) (fun h3 => ?_)
      ·
        show j_W 62 d 0 0 0 0 32 [some (.ref 0), some (.int 5), some (.int a), some (.int b), some (.int c), some (.int e), some (.int f)] [.int 1] w1 (I, D, RR R) Q
        refine q_if_eq (tgt := 51) d62_32 rfl (fun h => absurd h (by decide)) (fun _ => ?_)
        refine q_iload d62_35 rfl ?_
        refine q_invS (av := [.int e]) (rest := []) (d' := 0) (mc' := 0) (ms' := 0) d62_37 (cv9_148 62 rfl) rfl rfl (by omega) (Nat.le_of_ble_eq_true rfl) (Nat.le_of_ble_eq_true rfl) (Nat.le_refl _) (Nat.le_refl _) ?_
        refine p63  (fun h4 => ?_) (fun h4 => ?_)
        ·
          show j_W 62 d 0 0 0 0 40 [some (.ref 0), some (.int 5), some (.int a), some (.int b), some (.int c), some (.int e), some (.int f)] [.int 1] w1 (I, D, RR R) Q
          refine q_if_eq (tgt := 51) d62_40 rfl (fun h => absurd h (by decide)) (fun _ => ?_)
          refine q_iload d62_43 rfl ?_
          refine q_invS (av := [.int f]) (rest := []) (d' := 0) (mc' := 0) (ms' := 0) d62_45 (cv9_148 62 rfl) rfl rfl (by omega) (Nat.le_of_ble_eq_true rfl) (Nat.le_of_ble_eq_true rfl) (Nat.le_refl _) (Nat.le_refl _) ?_
          refine p63  (fun h5 => ?_) (fun h5 => ?_)
          ·
            show j_W 62 d 0 0 0 0 48 [some (.ref 0), some (.int 5), some (.int a), some (.int b), some (.int c), some (.int e), some (.int f)] [.int 1] w1 (I, D, RR R) Q
            refine q_if_ne (tgt := 54) d62_48 rfl (fun _ => ?_) (fun h => absurd h (by decide))
            refine q_aload_n d62_54 rfl ?_
            refine q_getR (x := 97) d62_55 (fs9_19 62 rfl) rfl (lt_w1 rfl) sh0 (rs0_5 R) (by decide) ?_
            refine q_getI d62_58 (fs9_151 62 rfl) rfl (lt_w1 rfl) sh97 ?_
            refine r_int (y := (nI z)) (show I 97 1 = (nI z) from hz) ?_
            refine q_iload_n d62_61 rfl ?_
            refine q_iadd d62_62 ?_
            refine r_int (y := (nI (z + 5))) (nI_add z 5) ?_
            refine q_bipush (v := 96) (by decide) d62_63 ?_
            refine q_icmp_le (tgt := 71) d62_65 rfl (fun h6t => ?_) (fun h6f => ?_)
            ·
              have h6tc : (z + 5) ≤ 96 := (nI_leI (by omega) (by omega)).mp h6t
              refine q_aload_n d62_71 rfl ?_
              refine q_getR (x := 97) d62_72 (fs9_19 62 rfl) rfl (lt_w1 rfl) sh0 (rs0_5 R) (by decide) ?_
              refine q_iload_n d62_75 rfl ?_
              refine q_invV (o := 97) (ci := 5) (av := [.int a]) (rest := []) (d' := 0) (mc' := 0) (ms' := 0) d62_76 (cv9_155 62 rfl) rfl (by decide) rfl rfl (by omega) (Nat.le_of_ble_eq_true rfl) (Nat.le_of_ble_eq_true rfl) (lt_w1 rfl) sh97 (Nat.le_refl _) (Nat.le_refl _) ?_
              refine t64 (z := z) (by first | exact hz | (simp (disch := omega) only [j_u_o, j_u_k, j_u_same]; done) | rfl) (by omega) (Nat.le_refl _)  ?_
              show j_W 62 d 0 0 0 0 79 [some (.ref 0), some (.int 5), some (.int a), some (.int b), some (.int c), some (.int e), some (.int f)] [] w1 ((j_u (j_u I 97 1 (nI (z + 1))) 98 z a), D, RR R) Q
              refine q_iload_n d62_79 rfl ?_
              refine q_iconst (v := 1) (by decide) d62_80 ?_
              refine q_icmp_le (tgt := 92) d62_81 rfl (fun h => absurd h (by decide)) (fun _ => ?_)
              refine q_aload_n d62_84 rfl ?_
              refine q_getR (x := 97) d62_85 (fs9_19 62 rfl) rfl (lt_w1 rfl) sh0 (rs0_5 R) (by decide) ?_
              refine q_iload_n d62_88 rfl ?_
              refine q_invV (o := 97) (ci := 5) (av := [.int b]) (rest := []) (d' := 0) (mc' := 0) (ms' := 0) d62_89 (cv9_155 62 rfl) rfl (by decide) rfl rfl (by omega) (Nat.le_of_ble_eq_true rfl) (Nat.le_of_ble_eq_true rfl) (lt_w1 rfl) sh97 (Nat.le_refl _) (Nat.le_refl _) ?_
              refine t64 (z := (z + 1)) (by first | exact hz | (simp (disch := omega) only [j_u_o, j_u_k, j_u_same]; done) | rfl) (by omega) (Nat.le_refl _)  ?_
              show j_W 62 d 0 0 0 0 92 [some (.ref 0), some (.int 5), some (.int a), some (.int b), some (.int c), some (.int e), some (.int f)] [] w1 ((j_u (j_u (j_u (j_u I 97 1 (nI (z + 1))) 98 z a) 97 1 (nI (z + 2))) 98 (z + 1) b), D, RR R) Q
              refine q_iload_n d62_92 rfl ?_
              refine q_iconst (v := 2) (by decide) d62_93 ?_
              refine q_icmp_le (tgt := 106) d62_94 rfl (fun h => absurd h (by decide)) (fun _ => ?_)
              refine q_aload_n d62_97 rfl ?_
              refine q_getR (x := 97) d62_98 (fs9_19 62 rfl) rfl (lt_w1 rfl) sh0 (rs0_5 R) (by decide) ?_
              refine q_iload d62_101 rfl ?_
              refine q_invV (o := 97) (ci := 5) (av := [.int c]) (rest := []) (d' := 0) (mc' := 0) (ms' := 0) d62_103 (cv9_155 62 rfl) rfl (by decide) rfl rfl (by omega) (Nat.le_of_ble_eq_true rfl) (Nat.le_of_ble_eq_true rfl) (lt_w1 rfl) sh97 (Nat.le_refl _) (Nat.le_refl _) ?_
              refine t64 (z := (z + 2)) (by first | exact hz | (simp (disch := omega) only [j_u_o, j_u_k, j_u_same]; done) | rfl) (by omega) (Nat.le_refl _)  ?_
              show j_W 62 d 0 0 0 0 106 [some (.ref 0), some (.int 5), some (.int a), some (.int b), some (.int c), some (.int e), some (.int f)] [] w1 ((j_u (j_u (j_u (j_u (j_u (j_u I 97 1 (nI (z + 1))) 98 z a) 97 1 (nI (z + 2))) 98 (z + 1) b) 97 1 (nI (z + 3))) 98 (z + 2) c), D, RR R) Q
              refine q_iload_n d62_106 rfl ?_
              refine q_iconst (v := 3) (by decide) d62_107 ?_
              refine q_icmp_le (tgt := 120) d62_108 rfl (fun h => absurd h (by decide)) (fun _ => ?_)
              refine q_aload_n d62_111 rfl ?_
              refine q_getR (x := 97) d62_112 (fs9_19 62 rfl) rfl (lt_w1 rfl) sh0 (rs0_5 R) (by decide) ?_
              refine q_iload d62_115 rfl ?_
              refine q_invV (o := 97) (ci := 5) (av := [.int e]) (rest := []) (d' := 0) (mc' := 0) (ms' := 0) d62_117 (cv9_155 62 rfl) rfl (by decide) rfl rfl (by omega) (Nat.le_of_ble_eq_true rfl) (Nat.le_of_ble_eq_true rfl) (lt_w1 rfl) sh97 (Nat.le_refl _) (Nat.le_refl _) ?_
              refine t64 (z := (z + 3)) (by first | exact hz | (simp (disch := omega) only [j_u_o, j_u_k, j_u_same]; done) | rfl) (by omega) (Nat.le_refl _)  ?_
              show j_W 62 d 0 0 0 0 120 [some (.ref 0), some (.int 5), some (.int a), some (.int b), some (.int c), some (.int e), some (.int f)] [] w1 ((j_u (j_u (j_u (j_u (j_u (j_u (j_u (j_u I 97 1 (nI (z + 1))) 98 z a) 97 1 (nI (z + 2))) 98 (z + 1) b) 97 1 (nI (z + 3))) 98 (z + 2) c) 97 1 (nI (z + 4))) 98 (z + 3) e), D, RR R) Q
              refine q_iload_n d62_120 rfl ?_
              refine q_iconst (v := 4) (by decide) d62_121 ?_
              refine q_icmp_le (tgt := 134) d62_122 rfl (fun h => absurd h (by decide)) (fun _ => ?_)
              refine q_aload_n d62_125 rfl ?_
              refine q_getR (x := 97) d62_126 (fs9_19 62 rfl) rfl (lt_w1 rfl) sh0 (rs0_5 R) (by decide) ?_
              refine q_iload d62_129 rfl ?_
              refine q_invV (o := 97) (ci := 5) (av := [.int f]) (rest := []) (d' := 0) (mc' := 0) (ms' := 0) d62_131 (cv9_155 62 rfl) rfl (by decide) rfl rfl (by omega) (Nat.le_of_ble_eq_true rfl) (Nat.le_of_ble_eq_true rfl) (lt_w1 rfl) sh97 (Nat.le_refl _) (Nat.le_refl _) ?_
              refine t64 (z := (z + 4)) (by first | exact hz | (simp (disch := omega) only [j_u_o, j_u_k, j_u_same]; done) | rfl) (by omega) (Nat.le_refl _)  ?_
              show j_W 62 d 0 0 0 0 134 [some (.ref 0), some (.int 5), some (.int a), some (.int b), some (.int c), some (.int e), some (.int f)] [] w1 ((j_u (j_u (j_u (j_u (j_u (j_u (j_u (j_u (j_u (j_u I 97 1 (nI (z + 1))) 98 z a) 97 1 (nI (z + 2))) 98 (z + 1) b) 97 1 (nI (z + 3))) 98 (z + 2) c) 97 1 (nI (z + 4))) 98 (z + 3) e) 97 1 (nI (z + 5))) 98 (z + 4) f), D, RR R) Q
              refine q_aload_n d62_134 rfl ?_
              refine q_getR (x := 97) d62_135 (fs9_19 62 rfl) rfl (lt_w1 rfl) sh0 (rs0_5 R) (by decide) ?_
              refine q_getI d62_138 (fs9_151 62 rfl) rfl (lt_w1 rfl) sh97 ?_
              refine r_int (y := (nI (z + 5))) (show (j_u (j_u (j_u (j_u (j_u (j_u (j_u (j_u (j_u (j_u I 97 1 (nI (z + 1))) 98 z a) 97 1 (nI (z + 2))) 98 (z + 1) b) 97 1 (nI (z + 3))) 98 (z + 2) c) 97 1 (nI (z + 4))) 98 (z + 3) e) 97 1 (nI (z + 5))) 98 (z + 4) f) 97 1 = (nI (z + 5)) from ((j_u_o _ _ _ (by decide)).trans (j_u_same _ _ _ _))) ?_
              exact q_iret d62_141 rfl (Nat.le_refl _) (Nat.le_refl _) (v1 h1 h2 h3 h4 h5 h6tc)
            ·
              have h6fc : ¬ (z + 5) ≤ 96 := mt (nI_leI (by omega) (by omega)).mpr h6f
              refine q_bipush (v := (-4)) (by decide) d62_68 ?_
              exact q_iret d62_70 rfl (Nat.le_refl _) (Nat.le_refl _) (v2 h1 h2 h3 h4 h5 h6fc)
          ·
            show j_W 62 d 0 0 0 0 48 [some (.ref 0), some (.int 5), some (.int a), some (.int b), some (.int c), some (.int e), some (.int f)] [.int 0] w1 (I, D, RR R) Q
            refine q_if_ne (tgt := 54) d62_48 rfl (fun h => absurd h (by decide)) (fun _ => ?_)
            refine q_bipush (v := (-2)) (by decide) d62_51 ?_
            exact q_iret d62_53 rfl (Nat.le_refl _) (Nat.le_refl _) (v3 h1 h2 h3 h4 h5)
        ·
          show j_W 62 d 0 0 0 0 40 [some (.ref 0), some (.int 5), some (.int a), some (.int b), some (.int c), some (.int e), some (.int f)] [.int 0] w1 (I, D, RR R) Q
          refine q_if_eq (tgt := 51) d62_40 rfl (fun _ => ?_) (fun h => absurd h (by decide))
          refine q_bipush (v := (-2)) (by decide) d62_51 ?_
          exact q_iret d62_53 rfl (Nat.le_refl _) (Nat.le_refl _) (v4 h1 h2 h3 h4)
      ·
        show j_W 62 d 0 0 0 0 32 [some (.ref 0), some (.int 5), some (.int a), some (.int b), some (.int c), some (.int e), some (.int f)] [.int 0] w1 (I, D, RR R) Q
        refine q_if_eq (tgt := 51) d62_32 rfl (fun _ => ?_) (fun h => absurd h (by decide))
        refine q_bipush (v := (-2)) (by decide) d62_51 ?_
        exact q_iret d62_53 rfl (Nat.le_refl _) (Nat.le_refl _) (v5 h1 h2 h3)
    ·
      show j_W 62 d 0 0 0 0 24 [some (.ref 0), some (.int 5), some (.int a), some (.int b), some (.int c), some (.int e), some (.int f)] [.int 0] w1 (I, D, RR R) Q
      refine q_if_eq (tgt := 51) d62_24 rfl (fun _ => ?_) (fun h => absurd h (by decide))
      refine q_bipush (v := (-2)) (by decide) d62_51 ?_
      exact q_iret d62_53 rfl (Nat.le_refl _) (Nat.le_refl _) (v6 h1 h2)
  ·
    show j_W 62 d 0 0 0 0 17 [some (.ref 0), some (.int 5), some (.int a), some (.int b), some (.int c), some (.int e), some (.int f)] [.int 0] w1 (I, D, RR R) Q
    refine q_if_eq (tgt := 51) d62_17 rfl (fun _ => ?_) (fun h => absurd h (by decide))
    refine q_bipush (v := (-2)) (by decide) d62_51 ?_
    exact q_iret d62_53 rfl (Nat.le_refl _) (Nat.le_refl _) (v7 h1)

set_option maxRecDepth 10000 in
set_option maxHeartbeats 4000000 in
theorem s208n5 {d : Nat} {I : Nat → Nat → Int32} {D : Nat → Nat → UInt64} {R : Nat → Nat → Option Nat} {Q : j_Po} {a : Int32} {b : Int32} {c : Int32} {e : Int32} {f : Int32} {z : Nat} (hz : I 260 34 = nI z) (hz9 : z ≤ 96) (hd : 2 ≤ d)
    (v1 : ((¬ (5 : Int32) < (1 : Int32) ∧ ¬ (5 : Int32) < (5 : Int32))) → ((¬ a < (0 : Int32) ∧ ¬ (255 : Int32) < a)) → ((¬ b < (0 : Int32) ∧ ¬ (255 : Int32) < b)) → ((¬ c < (0 : Int32) ∧ ¬ (255 : Int32) < c)) → ((¬ e < (0 : Int32) ∧ ¬ (255 : Int32) < e)) → ((¬ f < (0 : Int32) ∧ ¬ (255 : Int32) < f)) → ((z + 5) ≤ 96) → Q (some (.int (nI (z + 5)))) w1 ((j_u (j_u (j_u (j_u (j_u (j_u I 422 (z + 0) a) 422 (z + 1) b) 422 (z + 2) c) 422 (z + 3) e) 422 (z + 4) f) 260 34 (nI (z + 5))), D, RR R))
    (v2 : ((¬ (5 : Int32) < (1 : Int32) ∧ ¬ (5 : Int32) < (5 : Int32))) → ((¬ a < (0 : Int32) ∧ ¬ (255 : Int32) < a)) → ((¬ b < (0 : Int32) ∧ ¬ (255 : Int32) < b)) → ((¬ c < (0 : Int32) ∧ ¬ (255 : Int32) < c)) → ((¬ e < (0 : Int32) ∧ ¬ (255 : Int32) < e)) → ((¬ f < (0 : Int32) ∧ ¬ (255 : Int32) < f)) → (¬ (z + 5) ≤ 96) → Q (some (.int (-4))) w1 (I, D, RR R))
    (v3 : ((¬ (5 : Int32) < (1 : Int32) ∧ ¬ (5 : Int32) < (5 : Int32))) → ((¬ a < (0 : Int32) ∧ ¬ (255 : Int32) < a)) → ((¬ b < (0 : Int32) ∧ ¬ (255 : Int32) < b)) → ((¬ c < (0 : Int32) ∧ ¬ (255 : Int32) < c)) → ((¬ e < (0 : Int32) ∧ ¬ (255 : Int32) < e)) → (¬ ((¬ f < (0 : Int32) ∧ ¬ (255 : Int32) < f))) → Q (some (.int (-2))) w1 (I, D, RR R))
    (v4 : ((¬ (5 : Int32) < (1 : Int32) ∧ ¬ (5 : Int32) < (5 : Int32))) → ((¬ a < (0 : Int32) ∧ ¬ (255 : Int32) < a)) → ((¬ b < (0 : Int32) ∧ ¬ (255 : Int32) < b)) → ((¬ c < (0 : Int32) ∧ ¬ (255 : Int32) < c)) → (¬ ((¬ e < (0 : Int32) ∧ ¬ (255 : Int32) < e))) → Q (some (.int (-2))) w1 (I, D, RR R))
    (v5 : ((¬ (5 : Int32) < (1 : Int32) ∧ ¬ (5 : Int32) < (5 : Int32))) → ((¬ a < (0 : Int32) ∧ ¬ (255 : Int32) < a)) → ((¬ b < (0 : Int32) ∧ ¬ (255 : Int32) < b)) → (¬ ((¬ c < (0 : Int32) ∧ ¬ (255 : Int32) < c))) → Q (some (.int (-2))) w1 (I, D, RR R))
    (v6 : ((¬ (5 : Int32) < (1 : Int32) ∧ ¬ (5 : Int32) < (5 : Int32))) → ((¬ a < (0 : Int32) ∧ ¬ (255 : Int32) < a)) → (¬ ((¬ b < (0 : Int32) ∧ ¬ (255 : Int32) < b))) → Q (some (.int (-2))) w1 (I, D, RR R))
    (v7 : ((¬ (5 : Int32) < (1 : Int32) ∧ ¬ (5 : Int32) < (5 : Int32))) → (¬ ((¬ a < (0 : Int32) ∧ ¬ (255 : Int32) < a))) → Q (some (.int (-2))) w1 (I, D, RR R))
    (v8 : (¬ ((¬ (5 : Int32) < (1 : Int32) ∧ ¬ (5 : Int32) < (5 : Int32)))) → Q (some (.int (-2))) w1 (I, D, RR R)) : j_Call d 208 [.ref 260, .int 5, .int a, .int b, .int c, .int e, .int f] w1 (I, D, RR R) 0 0 Q := by
  refine q_enter (L := [some (.ref 260), some (.int 5), some (.int a), some (.int b), some (.int c), some (.int e), some (.int f), none]) j_m208 (Nat.le_of_ble_eq_true rfl) rfl ?_
  refine q_iload_n d208_0 rfl ?_
  refine q_iconst (v := 1) (by decide) d208_1 ?_
  refine q_iconst (v := 5) (by decide) d208_2 ?_
  refine q_invS (av := [.int 5, .int 1, .int 5]) (rest := []) (d' := 0) (mc' := 0) (ms' := 0) d208_3 (cv10_183 208 rfl) rfl rfl (by omega) (Nat.le_of_ble_eq_true rfl) (Nat.le_of_ble_eq_true rfl) (Nat.le_refl _) (Nat.le_refl _) ?_
  refine p168  (fun h1 => ?_) (fun h1 => ?_)
  ·
    show j_W 208 d 0 0 0 0 6 [some (.ref 260), some (.int 5), some (.int a), some (.int b), some (.int c), some (.int e), some (.int f), none] [.int 1] w1 (I, D, RR R) Q
    refine q_if_eq (tgt := 47) d208_6 rfl (fun h => absurd h (by decide)) (fun _ => ?_)
    refine q_iload_n d208_9 rfl ?_
    refine q_invS (av := [.int a]) (rest := []) (d' := 1) (mc' := 0) (ms' := 0) d208_10 (cv10_345 208 rfl) rfl rfl (by omega) (Nat.le_of_ble_eq_true rfl) (Nat.le_of_ble_eq_true rfl) (Nat.le_refl _) (Nat.le_refl _) ?_
    refine s209   (Nat.le_refl _) (fun c2 => ?_) (fun c3 => ?_)
    ·
      show j_W 208 d 0 0 0 0 13 [some (.ref 260), some (.int 5), some (.int a), some (.int b), some (.int c), some (.int e), some (.int f), none] [.int 1] w1 (I, D, RR R) Q
      refine q_if_eq (tgt := 47) d208_13 rfl (fun h => absurd h (by decide)) (fun _ => ?_)
      refine q_iload_n d208_16 rfl ?_
      refine q_invS (av := [.int b]) (rest := []) (d' := 1) (mc' := 0) (ms' := 0) d208_17 (cv10_345 208 rfl) rfl rfl (by omega) (Nat.le_of_ble_eq_true rfl) (Nat.le_of_ble_eq_true rfl) (Nat.le_refl _) (Nat.le_refl _) ?_
      refine s209   (Nat.le_refl _) (fun c4 => ?_) (fun c5 => ?_)
      ·
        show j_W 208 d 0 0 0 0 20 [some (.ref 260), some (.int 5), some (.int a), some (.int b), some (.int c), some (.int e), some (.int f), none] [.int 1] w1 (I, D, RR R) Q
        refine q_if_eq (tgt := 47) d208_20 rfl (fun h => absurd h (by decide)) (fun _ => ?_)
        refine q_iload d208_23 rfl ?_
        refine q_invS (av := [.int c]) (rest := []) (d' := 1) (mc' := 0) (ms' := 0) d208_25 (cv10_345 208 rfl) rfl rfl (by omega) (Nat.le_of_ble_eq_true rfl) (Nat.le_of_ble_eq_true rfl) (Nat.le_refl _) (Nat.le_refl _) ?_
        refine s209   (Nat.le_refl _) (fun c6 => ?_) (fun c7 => ?_)
        ·
          show j_W 208 d 0 0 0 0 28 [some (.ref 260), some (.int 5), some (.int a), some (.int b), some (.int c), some (.int e), some (.int f), none] [.int 1] w1 (I, D, RR R) Q
          refine q_if_eq (tgt := 47) d208_28 rfl (fun h => absurd h (by decide)) (fun _ => ?_)
          refine q_iload d208_31 rfl ?_
          refine q_invS (av := [.int e]) (rest := []) (d' := 1) (mc' := 0) (ms' := 0) d208_33 (cv10_345 208 rfl) rfl rfl (by omega) (Nat.le_of_ble_eq_true rfl) (Nat.le_of_ble_eq_true rfl) (Nat.le_refl _) (Nat.le_refl _) ?_
          refine s209   (Nat.le_refl _) (fun c8 => ?_) (fun c9 => ?_)
          ·
            show j_W 208 d 0 0 0 0 36 [some (.ref 260), some (.int 5), some (.int a), some (.int b), some (.int c), some (.int e), some (.int f), none] [.int 1] w1 (I, D, RR R) Q
            refine q_if_eq (tgt := 47) d208_36 rfl (fun h => absurd h (by decide)) (fun _ => ?_)
            refine q_iload d208_39 rfl ?_
            refine q_invS (av := [.int f]) (rest := []) (d' := 1) (mc' := 0) (ms' := 0) d208_41 (cv10_345 208 rfl) rfl rfl (by omega) (Nat.le_of_ble_eq_true rfl) (Nat.le_of_ble_eq_true rfl) (Nat.le_refl _) (Nat.le_refl _) ?_
            refine s209   (Nat.le_refl _) (fun c10 => ?_) (fun c11 => ?_)
            ·
              show j_W 208 d 0 0 0 0 44 [some (.ref 260), some (.int 5), some (.int a), some (.int b), some (.int c), some (.int e), some (.int f), none] [.int 1] w1 (I, D, RR R) Q
              refine q_if_ne (tgt := 50) d208_44 rfl (fun _ => ?_) (fun h => absurd h (by decide))
              refine q_aload_n d208_50 rfl ?_
              refine q_getI d208_51 (fs10_348 208 rfl) rfl (lt_w1 rfl) sh260 ?_
              refine r_int (y := (nI z)) (show I 260 34 = (nI z) from hz) ?_
              refine q_iload_n d208_54 rfl ?_
              refine q_iadd d208_55 ?_
              refine r_int (y := (nI (z + 5))) (nI_add z 5) ?_
              refine q_bipush (v := 96) (by decide) d208_56 ?_
              refine q_icmp_le (tgt := 64) d208_58 rfl (fun h12t => ?_) (fun h12f => ?_)
              ·
                have h12tc : (z + 5) ≤ 96 := (nI_leI (by omega) (by omega)).mp h12t
                refine q_iconst (v := 0) (by decide) d208_64 ?_
                refine q_istore (L' := [some (.ref 260), some (.int 5), some (.int a), some (.int b), some (.int c), some (.int e), some (.int f), some (.int 0)]) d208_65 (Nat.le_of_ble_eq_true rfl) rfl ?_
                refine q_iload d208_67 rfl ?_
                refine q_iload_n d208_69 rfl ?_
                refine q_icmp_ge (tgt := 134) d208_70 rfl (fun h => absurd h (by decide)) (fun _ => ?_)
                refine q_aload_n d208_73 rfl ?_
                refine q_getR (x := 422) d208_74 (fs10_102 208 rfl) rfl (lt_w1 rfl) sh260 (rs260_33 R) (by decide) ?_
                refine q_aload_n d208_77 rfl ?_
                refine q_getI d208_78 (fs10_348 208 rfl) rfl (lt_w1 rfl) sh260 ?_
                refine r_int (y := (nI z)) (show I 260 34 = (nI z) from hz) ?_
                refine q_iload d208_81 rfl ?_
                refine q_iadd d208_83 ?_
                refine r_int (y := (nI (z + 0))) (nI_add z 0) ?_
                refine q_iload d208_84 rfl ?_
                refine q_if_ne (tgt := 93) d208_86 rfl (fun h => absurd h (by decide)) (fun _ => ?_)
                refine q_iload_n d208_89 rfl ?_
                refine q_goto (tgt := 127) d208_90 rfl ?_
                refine q_iastore (a := (z + 0)) d208_127 (lt_w1 rfl) sh422 rfl (by omega) ?_
                refine q_iinc (L' := [some (.ref 260), some (.int 5), some (.int a), some (.int b), some (.int c), some (.int e), some (.int f), some (.int 1)]) (v := 1) d208_128 rfl (by decide) rfl ?_
                refine q_goto (tgt := 67) d208_131 rfl ?_
                refine q_iload d208_67 rfl ?_
                refine q_iload_n d208_69 rfl ?_
                refine q_icmp_ge (tgt := 134) d208_70 rfl (fun h => absurd h (by decide)) (fun _ => ?_)
                refine q_aload_n d208_73 rfl ?_
                refine q_getR (x := 422) d208_74 (fs10_102 208 rfl) rfl (lt_w1 rfl) sh260 (rs260_33 R) (by decide) ?_
                refine q_aload_n d208_77 rfl ?_
                refine q_getI d208_78 (fs10_348 208 rfl) rfl (lt_w1 rfl) sh260 ?_
                refine r_int (y := (nI z)) (show (j_u I 422 (z + 0) a) 260 34 = (nI z) from ((j_u_o _ _ _ (by decide)).trans hz)) ?_
                refine q_iload d208_81 rfl ?_
                refine q_iadd d208_83 ?_
                refine r_int (y := (nI (z + 1))) (nI_add z 1) ?_
                refine q_iload d208_84 rfl ?_
                refine q_if_ne (tgt := 93) d208_86 rfl (fun _ => ?_) (fun h => absurd h (by decide))
                refine q_iload d208_93 rfl ?_
                refine q_iconst (v := 1) (by decide) d208_95 ?_
                refine q_icmp_ne (tgt := 103) d208_96 rfl (fun h => absurd h (by decide)) (fun _ => ?_)
                refine q_iload_n d208_99 rfl ?_
                refine q_goto (tgt := 127) d208_100 rfl ?_
                refine q_iastore (a := (z + 1)) d208_127 (lt_w1 rfl) sh422 rfl (by omega) ?_
                refine q_iinc (L' := [some (.ref 260), some (.int 5), some (.int a), some (.int b), some (.int c), some (.int e), some (.int f), some (.int 2)]) (v := 2) d208_128 rfl (by decide) rfl ?_
                refine q_goto (tgt := 67) d208_131 rfl ?_
                refine q_iload d208_67 rfl ?_
                refine q_iload_n d208_69 rfl ?_
                refine q_icmp_ge (tgt := 134) d208_70 rfl (fun h => absurd h (by decide)) (fun _ => ?_)
                refine q_aload_n d208_73 rfl ?_
                refine q_getR (x := 422) d208_74 (fs10_102 208 rfl) rfl (lt_w1 rfl) sh260 (rs260_33 R) (by decide) ?_
                refine q_aload_n d208_77 rfl ?_
                refine q_getI d208_78 (fs10_348 208 rfl) rfl (lt_w1 rfl) sh260 ?_
                refine r_int (y := (nI z)) (show (j_u (j_u I 422 (z + 0) a) 422 (z + 1) b) 260 34 = (nI z) from (((j_u_o _ _ _ (by decide)).trans (j_u_o _ _ _ (by decide))).trans hz)) ?_
                refine q_iload d208_81 rfl ?_
                refine q_iadd d208_83 ?_
                refine r_int (y := (nI (z + 2))) (nI_add z 2) ?_
                refine q_iload d208_84 rfl ?_
                refine q_if_ne (tgt := 93) d208_86 rfl (fun _ => ?_) (fun h => absurd h (by decide))
                refine q_iload d208_93 rfl ?_
                refine q_iconst (v := 1) (by decide) d208_95 ?_
                refine q_icmp_ne (tgt := 103) d208_96 rfl (fun _ => ?_) (fun h => absurd h (by decide))
                refine q_iload d208_103 rfl ?_
                refine q_iconst (v := 2) (by decide) d208_105 ?_
                refine q_icmp_ne (tgt := 114) d208_106 rfl (fun h => absurd h (by decide)) (fun _ => ?_)
                refine q_iload d208_109 rfl ?_
                refine q_goto (tgt := 127) d208_111 rfl ?_
                refine q_iastore (a := (z + 2)) d208_127 (lt_w1 rfl) sh422 rfl (by omega) ?_
                refine q_iinc (L' := [some (.ref 260), some (.int 5), some (.int a), some (.int b), some (.int c), some (.int e), some (.int f), some (.int 3)]) (v := 3) d208_128 rfl (by decide) rfl ?_
                refine q_goto (tgt := 67) d208_131 rfl ?_
                refine q_iload d208_67 rfl ?_
                refine q_iload_n d208_69 rfl ?_
                refine q_icmp_ge (tgt := 134) d208_70 rfl (fun h => absurd h (by decide)) (fun _ => ?_)
                refine q_aload_n d208_73 rfl ?_
                refine q_getR (x := 422) d208_74 (fs10_102 208 rfl) rfl (lt_w1 rfl) sh260 (rs260_33 R) (by decide) ?_
                refine q_aload_n d208_77 rfl ?_
                refine q_getI d208_78 (fs10_348 208 rfl) rfl (lt_w1 rfl) sh260 ?_
                refine r_int (y := (nI z)) (show (j_u (j_u (j_u I 422 (z + 0) a) 422 (z + 1) b) 422 (z + 2) c) 260 34 = (nI z) from (((j_u_o _ _ _ (by decide)).trans ((j_u_o _ _ _ (by decide)).trans (j_u_o _ _ _ (by decide)))).trans hz)) ?_
                refine q_iload d208_81 rfl ?_
                refine q_iadd d208_83 ?_
                refine r_int (y := (nI (z + 3))) (nI_add z 3) ?_
                refine q_iload d208_84 rfl ?_
                refine q_if_ne (tgt := 93) d208_86 rfl (fun _ => ?_) (fun h => absurd h (by decide))
                refine q_iload d208_93 rfl ?_
                refine q_iconst (v := 1) (by decide) d208_95 ?_
                refine q_icmp_ne (tgt := 103) d208_96 rfl (fun _ => ?_) (fun h => absurd h (by decide))
                refine q_iload d208_103 rfl ?_
                refine q_iconst (v := 2) (by decide) d208_105 ?_
                refine q_icmp_ne (tgt := 114) d208_106 rfl (fun _ => ?_) (fun h => absurd h (by decide))
                refine q_iload d208_114 rfl ?_
                refine q_iconst (v := 3) (by decide) d208_116 ?_
                refine q_icmp_ne (tgt := 125) d208_117 rfl (fun h => absurd h (by decide)) (fun _ => ?_)
                refine q_iload d208_120 rfl ?_
                refine q_goto (tgt := 127) d208_122 rfl ?_
                refine q_iastore (a := (z + 3)) d208_127 (lt_w1 rfl) sh422 rfl (by omega) ?_
                refine q_iinc (L' := [some (.ref 260), some (.int 5), some (.int a), some (.int b), some (.int c), some (.int e), some (.int f), some (.int 4)]) (v := 4) d208_128 rfl (by decide) rfl ?_
                refine q_goto (tgt := 67) d208_131 rfl ?_
                refine q_iload d208_67 rfl ?_
                refine q_iload_n d208_69 rfl ?_
                refine q_icmp_ge (tgt := 134) d208_70 rfl (fun h => absurd h (by decide)) (fun _ => ?_)
                refine q_aload_n d208_73 rfl ?_
                refine q_getR (x := 422) d208_74 (fs10_102 208 rfl) rfl (lt_w1 rfl) sh260 (rs260_33 R) (by decide) ?_
                refine q_aload_n d208_77 rfl ?_
                refine q_getI d208_78 (fs10_348 208 rfl) rfl (lt_w1 rfl) sh260 ?_
                refine r_int (y := (nI z)) (show (j_u (j_u (j_u (j_u I 422 (z + 0) a) 422 (z + 1) b) 422 (z + 2) c) 422 (z + 3) e) 260 34 = (nI z) from (((j_u_o _ _ _ (by decide)).trans ((j_u_o _ _ _ (by decide)).trans ((j_u_o _ _ _ (by decide)).trans (j_u_o _ _ _ (by decide))))).trans hz)) ?_
                refine q_iload d208_81 rfl ?_
                refine q_iadd d208_83 ?_
                refine r_int (y := (nI (z + 4))) (nI_add z 4) ?_
                refine q_iload d208_84 rfl ?_
                refine q_if_ne (tgt := 93) d208_86 rfl (fun _ => ?_) (fun h => absurd h (by decide))
                refine q_iload d208_93 rfl ?_
                refine q_iconst (v := 1) (by decide) d208_95 ?_
                refine q_icmp_ne (tgt := 103) d208_96 rfl (fun _ => ?_) (fun h => absurd h (by decide))
                refine q_iload d208_103 rfl ?_
                refine q_iconst (v := 2) (by decide) d208_105 ?_
                refine q_icmp_ne (tgt := 114) d208_106 rfl (fun _ => ?_) (fun h => absurd h (by decide))
                refine q_iload d208_114 rfl ?_
                refine q_iconst (v := 3) (by decide) d208_116 ?_
                refine q_icmp_ne (tgt := 125) d208_117 rfl (fun _ => ?_) (fun h => absurd h (by decide))
                refine q_iload d208_125 rfl ?_
                refine q_iastore (a := (z + 4)) d208_127 (lt_w1 rfl) sh422 rfl (by omega) ?_
                refine q_iinc (L' := [some (.ref 260), some (.int 5), some (.int a), some (.int b), some (.int c), some (.int e), some (.int f), some (.int 5)]) (v := 5) d208_128 rfl (by decide) rfl ?_
                refine q_goto (tgt := 67) d208_131 rfl ?_
                refine q_iload d208_67 rfl ?_
                refine q_iload_n d208_69 rfl ?_
                refine q_icmp_ge (tgt := 134) d208_70 rfl (fun _ => ?_) (fun h => absurd h (by decide))
                refine q_aload_n d208_134 rfl ?_
                refine q_dup rfl d208_135 ?_
                refine q_getI d208_136 (fs10_348 208 rfl) rfl (lt_w1 rfl) sh260 ?_
                refine r_int (y := (nI z)) (show (j_u (j_u (j_u (j_u (j_u I 422 (z + 0) a) 422 (z + 1) b) 422 (z + 2) c) 422 (z + 3) e) 422 (z + 4) f) 260 34 = (nI z) from (((j_u_o _ _ _ (by decide)).trans ((j_u_o _ _ _ (by decide)).trans ((j_u_o _ _ _ (by decide)).trans ((j_u_o _ _ _ (by decide)).trans (j_u_o _ _ _ (by decide)))))).trans hz)) ?_
                refine q_iload_n d208_139 rfl ?_
                refine q_iadd d208_140 ?_
                refine r_int (y := (nI (z + 5))) (nI_add z 5) ?_
                refine q_putI d208_141 (fs10_348 208 rfl) (Or.inl rfl) rfl (lt_w1 rfl) sh260 ?_
                refine q_aload_n d208_144 rfl ?_
                refine q_getI d208_145 (fs10_348 208 rfl) rfl (lt_w1 rfl) sh260 ?_
                refine r_int (y := (nI (z + 5))) (show (j_u (j_u (j_u (j_u (j_u (j_u I 422 (z + 0) a) 422 (z + 1) b) 422 (z + 2) c) 422 (z + 3) e) 422 (z + 4) f) 260 34 (nI (z + 5))) 260 34 = (nI (z + 5)) from (j_u_same _ _ _ _)) ?_
                exact q_iret d208_148 rfl (Nat.le_refl _) (Nat.le_refl _) (v1 h1 c2 c4 c6 c8 c10 h12tc)
              ·
                have h12fc : ¬ (z + 5) ≤ 96 := mt (nI_leI (by omega) (by omega)).mpr h12f
                refine q_bipush (v := (-4)) (by decide) d208_61 ?_
                exact q_iret d208_63 rfl (Nat.le_refl _) (Nat.le_refl _) (v2 h1 c2 c4 c6 c8 c10 h12fc)
            ·
              show j_W 208 d 0 0 0 0 44 [some (.ref 260), some (.int 5), some (.int a), some (.int b), some (.int c), some (.int e), some (.int f), none] [.int 0] w1 (I, D, RR R) Q
              refine q_if_ne (tgt := 50) d208_44 rfl (fun h => absurd h (by decide)) (fun _ => ?_)
              refine q_bipush (v := (-2)) (by decide) d208_47 ?_
              exact q_iret d208_49 rfl (Nat.le_refl _) (Nat.le_refl _) (v3 h1 c2 c4 c6 c8 c11)
          ·
            show j_W 208 d 0 0 0 0 36 [some (.ref 260), some (.int 5), some (.int a), some (.int b), some (.int c), some (.int e), some (.int f), none] [.int 0] w1 (I, D, RR R) Q
            refine q_if_eq (tgt := 47) d208_36 rfl (fun _ => ?_) (fun h => absurd h (by decide))
            refine q_bipush (v := (-2)) (by decide) d208_47 ?_
            exact q_iret d208_49 rfl (Nat.le_refl _) (Nat.le_refl _) (v4 h1 c2 c4 c6 c9)
        ·
          show j_W 208 d 0 0 0 0 28 [some (.ref 260), some (.int 5), some (.int a), some (.int b), some (.int c), some (.int e), some (.int f), none] [.int 0] w1 (I, D, RR R) Q
          refine q_if_eq (tgt := 47) d208_28 rfl (fun _ => ?_) (fun h => absurd h (by decide))
          refine q_bipush (v := (-2)) (by decide) d208_47 ?_
          exact q_iret d208_49 rfl (Nat.le_refl _) (Nat.le_refl _) (v5 h1 c2 c4 c7)
      ·
        show j_W 208 d 0 0 0 0 20 [some (.ref 260), some (.int 5), some (.int a), some (.int b), some (.int c), some (.int e), some (.int f), none] [.int 0] w1 (I, D, RR R) Q
        refine q_if_eq (tgt := 47) d208_20 rfl (fun _ => ?_) (fun h => absurd h (by decide))
        refine q_bipush (v := (-2)) (by decide) d208_47 ?_
        exact q_iret d208_49 rfl (Nat.le_refl _) (Nat.le_refl _) (v6 h1 c2 c5)
    ·
      show j_W 208 d 0 0 0 0 13 [some (.ref 260), some (.int 5), some (.int a), some (.int b), some (.int c), some (.int e), some (.int f), none] [.int 0] w1 (I, D, RR R) Q
      refine q_if_eq (tgt := 47) d208_13 rfl (fun _ => ?_) (fun h => absurd h (by decide))
      refine q_bipush (v := (-2)) (by decide) d208_47 ?_
      exact q_iret d208_49 rfl (Nat.le_refl _) (Nat.le_refl _) (v7 h1 c3)
  ·
    show j_W 208 d 0 0 0 0 6 [some (.ref 260), some (.int 5), some (.int a), some (.int b), some (.int c), some (.int e), some (.int f), none] [.int 0] w1 (I, D, RR R) Q
    refine q_if_eq (tgt := 47) d208_6 rfl (fun _ => ?_) (fun h => absurd h (by decide))
    refine q_bipush (v := (-2)) (by decide) d208_47 ?_
    exact q_iret d208_49 rfl (Nat.le_refl _) (Nat.le_refl _) (v8 h1)

set_option maxRecDepth 10000 in
set_option maxHeartbeats 4000000 in
theorem s62g {d : Nat} {I : Nat → Nat → Int32} {D : Nat → Nat → UInt64} {R : Nat → Nat → Option Nat} {Q : j_Po} {n : Int32} {a : Int32} {b : Int32} {c : Int32} {e : Int32} {f : Int32}  (hR : WFR R) (hd : 1 ≤ d)
    (v1 : (n < 1) → Q (some (.int (-2))) w1 (I, D, RR R))
    (v2 : (¬ n < 1) → (n ≤ 5) → ((¬ a < 0 ∧ ¬ 255 < a)) → ((¬ b < 0 ∧ ¬ 255 < b)) → ((¬ c < 0 ∧ ¬ 255 < c)) → ((¬ e < 0 ∧ ¬ 255 < e)) → ((¬ f < 0 ∧ ¬ 255 < f)) → (((I 97 1) + n) ≤ 96) → False)
    (v3 : (¬ n < 1) → (n ≤ 5) → ((¬ a < 0 ∧ ¬ 255 < a)) → ((¬ b < 0 ∧ ¬ 255 < b)) → ((¬ c < 0 ∧ ¬ 255 < c)) → ((¬ e < 0 ∧ ¬ 255 < e)) → ((¬ f < 0 ∧ ¬ 255 < f)) → (¬ ((I 97 1) + n) ≤ 96) → Q (some (.int (-4))) w1 (I, D, RR R))
    (v4 : (¬ n < 1) → (n ≤ 5) → ((¬ a < 0 ∧ ¬ 255 < a)) → ((¬ b < 0 ∧ ¬ 255 < b)) → ((¬ c < 0 ∧ ¬ 255 < c)) → ((¬ e < 0 ∧ ¬ 255 < e)) → (¬ ((¬ f < 0 ∧ ¬ 255 < f))) → Q (some (.int (-2))) w1 (I, D, RR R))
    (v5 : (¬ n < 1) → (n ≤ 5) → ((¬ a < 0 ∧ ¬ 255 < a)) → ((¬ b < 0 ∧ ¬ 255 < b)) → ((¬ c < 0 ∧ ¬ 255 < c)) → (¬ ((¬ e < 0 ∧ ¬ 255 < e))) → Q (some (.int (-2))) w1 (I, D, RR R))
    (v6 : (¬ n < 1) → (n ≤ 5) → ((¬ a < 0 ∧ ¬ 255 < a)) → ((¬ b < 0 ∧ ¬ 255 < b)) → (¬ ((¬ c < 0 ∧ ¬ 255 < c))) → Q (some (.int (-2))) w1 (I, D, RR R))
    (v7 : (¬ n < 1) → (n ≤ 5) → ((¬ a < 0 ∧ ¬ 255 < a)) → (¬ ((¬ b < 0 ∧ ¬ 255 < b))) → Q (some (.int (-2))) w1 (I, D, RR R))
    (v8 : (¬ n < 1) → (n ≤ 5) → (¬ ((¬ a < 0 ∧ ¬ 255 < a))) → Q (some (.int (-2))) w1 (I, D, RR R))
    (v9 : (¬ n < 1) → (¬ n ≤ 5) → Q (some (.int (-2))) w1 (I, D, RR R)) : j_Call d 62 [.ref 0, .int n, .int a, .int b, .int c, .int e, .int f] w1 (I, D, RR R) 0 0 Q := by
  refine q_enter (L := [some (.ref 0), some (.int n), some (.int a), some (.int b), some (.int c), some (.int e), some (.int f)]) j_m62 (Nat.le_of_ble_eq_true rfl) rfl ?_
  refine q_iload_n d62_0 rfl ?_
  refine q_iconst (v := 1) (by decide) d62_1 ?_
  refine q_icmp_lt (tgt := 10) d62_2 rfl (fun h1t => ?_) (fun h1f => ?_)
  ·
    refine q_bipush (v := (-2)) (by decide) d62_10 ?_
    exact q_iret d62_12 rfl (Nat.le_refl _) (Nat.le_refl _) (v1 h1t)
  ·
    refine q_iload_n d62_5 rfl ?_
    refine q_iconst (v := 5) (by decide) d62_6 ?_
    refine q_icmp_le (tgt := 13) d62_7 rfl (fun h2t => ?_) (fun h2f => ?_)
    ·
      refine q_iload_n d62_13 rfl ?_
      refine q_invS (av := [.int a]) (rest := []) (d' := 0) (mc' := 0) (ms' := 0) d62_14 (cv9_148 62 rfl) rfl rfl (by omega) (Nat.le_of_ble_eq_true rfl) (Nat.le_of_ble_eq_true rfl) (Nat.le_refl _) (Nat.le_refl _) ?_
      refine p63  (fun h3 => ?_) (fun h3 => ?_)
      ·
        show j_W 62 d 0 0 0 0 17 [some (.ref 0), some (.int n), some (.int a), some (.int b), some (.int c), some (.int e), some (.int f)] [.int 1] w1 (I, D, RR R) Q
        refine q_if_eq (tgt := 51) d62_17 rfl (fun h => absurd h (by decide)) (fun _ => ?_)
        refine q_iload_n d62_20 rfl ?_
        refine q_invS (av := [.int b]) (rest := []) (d' := 0) (mc' := 0) (ms' := 0) d62_21 (cv9_148 62 rfl) rfl rfl (by omega) (Nat.le_of_ble_eq_true rfl) (Nat.le_of_ble_eq_true rfl) (Nat.le_refl _) (Nat.le_refl _) ?_
        refine p63  (fun h4 => ?_) (fun h4 => ?_)
        ·
          show j_W 62 d 0 0 0 0 24 [some (.ref 0), some (.int n), some (.int a), some (.int b), some (.int c), some (.int e), some (.int f)] [.int 1] w1 (I, D, RR R) Q
          refine q_if_eq (tgt := 51) d62_24 rfl (fun h => absurd h (by decide)) (fun _ => ?_)
          refine q_iload d62_27 rfl ?_
          refine q_invS (av := [.int c]) (rest := []) (d' := 0) (mc' := 0) (ms' := 0) d62_29 (cv9_148 62 rfl) rfl rfl (by omega) (Nat.le_of_ble_eq_true rfl) (Nat.le_of_ble_eq_true rfl) (Nat.le_refl _) (Nat.le_refl _) ?_
          refine p63  (fun h5 => ?_) (fun h5 => ?_)
          ·
            show j_W 62 d 0 0 0 0 32 [some (.ref 0), some (.int n), some (.int a), some (.int b), some (.int c), some (.int e), some (.int f)] [.int 1] w1 (I, D, RR R) Q
            refine q_if_eq (tgt := 51) d62_32 rfl (fun h => absurd h (by decide)) (fun _ => ?_)
            refine q_iload d62_35 rfl ?_
            refine q_invS (av := [.int e]) (rest := []) (d' := 0) (mc' := 0) (ms' := 0) d62_37 (cv9_148 62 rfl) rfl rfl (by omega) (Nat.le_of_ble_eq_true rfl) (Nat.le_of_ble_eq_true rfl) (Nat.le_refl _) (Nat.le_refl _) ?_
            refine p63  (fun h6 => ?_) (fun h6 => ?_)
            ·
              show j_W 62 d 0 0 0 0 40 [some (.ref 0), some (.int n), some (.int a), some (.int b), some (.int c), some (.int e), some (.int f)] [.int 1] w1 (I, D, RR R) Q
              refine q_if_eq (tgt := 51) d62_40 rfl (fun h => absurd h (by decide)) (fun _ => ?_)
              refine q_iload d62_43 rfl ?_
              refine q_invS (av := [.int f]) (rest := []) (d' := 0) (mc' := 0) (ms' := 0) d62_45 (cv9_148 62 rfl) rfl rfl (by omega) (Nat.le_of_ble_eq_true rfl) (Nat.le_of_ble_eq_true rfl) (Nat.le_refl _) (Nat.le_refl _) ?_
              refine p63  (fun h7 => ?_) (fun h7 => ?_)
              ·
                show j_W 62 d 0 0 0 0 48 [some (.ref 0), some (.int n), some (.int a), some (.int b), some (.int c), some (.int e), some (.int f)] [.int 1] w1 (I, D, RR R) Q
                refine q_if_ne (tgt := 54) d62_48 rfl (fun _ => ?_) (fun h => absurd h (by decide))
                refine q_aload_n d62_54 rfl ?_
                refine q_getR (x := 97) d62_55 (fs9_19 62 rfl) rfl (lt_w1 rfl) sh0 (rs0_5 R) (by decide) ?_
                refine q_getI d62_58 (fs9_151 62 rfl) rfl (lt_w1 rfl) sh97 ?_
                refine q_iload_n d62_61 rfl ?_
                refine q_iadd d62_62 ?_
                refine q_bipush (v := 96) (by decide) d62_63 ?_
                refine q_icmp_le (tgt := 71) d62_65 rfl (fun h8t => ?_) (fun h8f => ?_)
                ·
                  refine q_aload_n d62_71 rfl ?_
                  refine q_getR (x := 97) d62_72 (fs9_19 62 rfl) rfl (lt_w1 rfl) sh0 (rs0_5 R) (by decide) ?_
                  refine q_iload_n d62_75 rfl ?_
                  refine q_invV (o := 97) (ci := 5) (av := [.int a]) (rest := []) (d' := 0) (mc' := 0) (ms' := 0) d62_76 (cv9_155 62 rfl) rfl (by decide) rfl rfl (by omega) (Nat.le_of_ble_eq_true rfl) (Nat.le_of_ble_eq_true rfl) (lt_w1 rfl) sh97 (Nat.le_refl _) (Nat.le_refl _) ?_
                  refine False.elim (v2 h1f h2t h3 h4 h5 h6 h7 h8t) 
                ·
                  refine q_bipush (v := (-4)) (by decide) d62_68 ?_
                  exact q_iret d62_70 rfl (Nat.le_refl _) (Nat.le_refl _) (v3 h1f h2t h3 h4 h5 h6 h7 h8f)
              ·
                show j_W 62 d 0 0 0 0 48 [some (.ref 0), some (.int n), some (.int a), some (.int b), some (.int c), some (.int e), some (.int f)] [.int 0] w1 (I, D, RR R) Q
                refine q_if_ne (tgt := 54) d62_48 rfl (fun h => absurd h (by decide)) (fun _ => ?_)
                refine q_bipush (v := (-2)) (by decide) d62_51 ?_
                exact q_iret d62_53 rfl (Nat.le_refl _) (Nat.le_refl _) (v4 h1f h2t h3 h4 h5 h6 h7)
            ·
              show j_W 62 d 0 0 0 0 40 [some (.ref 0), some (.int n), some (.int a), some (.int b), some (.int c), some (.int e), some (.int f)] [.int 0] w1 (I, D, RR R) Q
              refine q_if_eq (tgt := 51) d62_40 rfl (fun _ => ?_) (fun h => absurd h (by decide))
              refine q_bipush (v := (-2)) (by decide) d62_51 ?_
              exact q_iret d62_53 rfl (Nat.le_refl _) (Nat.le_refl _) (v5 h1f h2t h3 h4 h5 h6)
          ·
            show j_W 62 d 0 0 0 0 32 [some (.ref 0), some (.int n), some (.int a), some (.int b), some (.int c), some (.int e), some (.int f)] [.int 0] w1 (I, D, RR R) Q
            refine q_if_eq (tgt := 51) d62_32 rfl (fun _ => ?_) (fun h => absurd h (by decide))
            refine q_bipush (v := (-2)) (by decide) d62_51 ?_
            exact q_iret d62_53 rfl (Nat.le_refl _) (Nat.le_refl _) (v6 h1f h2t h3 h4 h5)
        ·
          show j_W 62 d 0 0 0 0 24 [some (.ref 0), some (.int n), some (.int a), some (.int b), some (.int c), some (.int e), some (.int f)] [.int 0] w1 (I, D, RR R) Q
          refine q_if_eq (tgt := 51) d62_24 rfl (fun _ => ?_) (fun h => absurd h (by decide))
          refine q_bipush (v := (-2)) (by decide) d62_51 ?_
          exact q_iret d62_53 rfl (Nat.le_refl _) (Nat.le_refl _) (v7 h1f h2t h3 h4)
      ·
        show j_W 62 d 0 0 0 0 17 [some (.ref 0), some (.int n), some (.int a), some (.int b), some (.int c), some (.int e), some (.int f)] [.int 0] w1 (I, D, RR R) Q
        refine q_if_eq (tgt := 51) d62_17 rfl (fun _ => ?_) (fun h => absurd h (by decide))
        refine q_bipush (v := (-2)) (by decide) d62_51 ?_
        exact q_iret d62_53 rfl (Nat.le_refl _) (Nat.le_refl _) (v8 h1f h2t h3)
    ·
      refine q_bipush (v := (-2)) (by decide) d62_10 ?_
      exact q_iret d62_12 rfl (Nat.le_refl _) (Nat.le_refl _) (v9 h1f h2f)

set_option maxRecDepth 10000 in
set_option maxHeartbeats 4000000 in
theorem s208g {d : Nat} {I : Nat → Nat → Int32} {D : Nat → Nat → UInt64} {R : Nat → Nat → Option Nat} {Q : j_Po} {n : Int32} {a : Int32} {b : Int32} {c : Int32} {e : Int32} {f : Int32}   (hd : 2 ≤ d)
    (v1 : ((¬ n < (1 : Int32) ∧ ¬ (5 : Int32) < n)) → ((¬ a < (0 : Int32) ∧ ¬ (255 : Int32) < a)) → ((¬ b < (0 : Int32) ∧ ¬ (255 : Int32) < b)) → ((¬ c < (0 : Int32) ∧ ¬ (255 : Int32) < c)) → ((¬ e < (0 : Int32) ∧ ¬ (255 : Int32) < e)) → ((¬ f < (0 : Int32) ∧ ¬ (255 : Int32) < f)) → (((I 260 34) + n) ≤ 96) → j_W 208 d 0 0 0 0 67 [some (.ref 260), none, none, none, none, none, none, none] [] w1 (I, D, RR R) Q)
    (v2 : ((¬ n < (1 : Int32) ∧ ¬ (5 : Int32) < n)) → ((¬ a < (0 : Int32) ∧ ¬ (255 : Int32) < a)) → ((¬ b < (0 : Int32) ∧ ¬ (255 : Int32) < b)) → ((¬ c < (0 : Int32) ∧ ¬ (255 : Int32) < c)) → ((¬ e < (0 : Int32) ∧ ¬ (255 : Int32) < e)) → ((¬ f < (0 : Int32) ∧ ¬ (255 : Int32) < f)) → (¬ ((I 260 34) + n) ≤ 96) → Q (some (.int (-4))) w1 (I, D, RR R))
    (v3 : ((¬ n < (1 : Int32) ∧ ¬ (5 : Int32) < n)) → ((¬ a < (0 : Int32) ∧ ¬ (255 : Int32) < a)) → ((¬ b < (0 : Int32) ∧ ¬ (255 : Int32) < b)) → ((¬ c < (0 : Int32) ∧ ¬ (255 : Int32) < c)) → ((¬ e < (0 : Int32) ∧ ¬ (255 : Int32) < e)) → (¬ ((¬ f < (0 : Int32) ∧ ¬ (255 : Int32) < f))) → Q (some (.int (-2))) w1 (I, D, RR R))
    (v4 : ((¬ n < (1 : Int32) ∧ ¬ (5 : Int32) < n)) → ((¬ a < (0 : Int32) ∧ ¬ (255 : Int32) < a)) → ((¬ b < (0 : Int32) ∧ ¬ (255 : Int32) < b)) → ((¬ c < (0 : Int32) ∧ ¬ (255 : Int32) < c)) → (¬ ((¬ e < (0 : Int32) ∧ ¬ (255 : Int32) < e))) → Q (some (.int (-2))) w1 (I, D, RR R))
    (v5 : ((¬ n < (1 : Int32) ∧ ¬ (5 : Int32) < n)) → ((¬ a < (0 : Int32) ∧ ¬ (255 : Int32) < a)) → ((¬ b < (0 : Int32) ∧ ¬ (255 : Int32) < b)) → (¬ ((¬ c < (0 : Int32) ∧ ¬ (255 : Int32) < c))) → Q (some (.int (-2))) w1 (I, D, RR R))
    (v6 : ((¬ n < (1 : Int32) ∧ ¬ (5 : Int32) < n)) → ((¬ a < (0 : Int32) ∧ ¬ (255 : Int32) < a)) → (¬ ((¬ b < (0 : Int32) ∧ ¬ (255 : Int32) < b))) → Q (some (.int (-2))) w1 (I, D, RR R))
    (v7 : ((¬ n < (1 : Int32) ∧ ¬ (5 : Int32) < n)) → (¬ ((¬ a < (0 : Int32) ∧ ¬ (255 : Int32) < a))) → Q (some (.int (-2))) w1 (I, D, RR R))
    (v8 : (¬ ((¬ n < (1 : Int32) ∧ ¬ (5 : Int32) < n))) → Q (some (.int (-2))) w1 (I, D, RR R)) : j_Call d 208 [.ref 260, .int n, .int a, .int b, .int c, .int e, .int f] w1 (I, D, RR R) 0 0 Q := by
  refine q_enter (L := [some (.ref 260), some (.int n), some (.int a), some (.int b), some (.int c), some (.int e), some (.int f), none]) j_m208 (Nat.le_of_ble_eq_true rfl) rfl ?_
  refine q_iload_n d208_0 rfl ?_
  refine q_iconst (v := 1) (by decide) d208_1 ?_
  refine q_iconst (v := 5) (by decide) d208_2 ?_
  refine q_invS (av := [.int n, .int 1, .int 5]) (rest := []) (d' := 0) (mc' := 0) (ms' := 0) d208_3 (cv10_183 208 rfl) rfl rfl (by omega) (Nat.le_of_ble_eq_true rfl) (Nat.le_of_ble_eq_true rfl) (Nat.le_refl _) (Nat.le_refl _) ?_
  refine p168  (fun h1 => ?_) (fun h1 => ?_)
  ·
    show j_W 208 d 0 0 0 0 6 [some (.ref 260), some (.int n), some (.int a), some (.int b), some (.int c), some (.int e), some (.int f), none] [.int 1] w1 (I, D, RR R) Q
    refine q_if_eq (tgt := 47) d208_6 rfl (fun h => absurd h (by decide)) (fun _ => ?_)
    refine q_iload_n d208_9 rfl ?_
    refine q_invS (av := [.int a]) (rest := []) (d' := 1) (mc' := 0) (ms' := 0) d208_10 (cv10_345 208 rfl) rfl rfl (by omega) (Nat.le_of_ble_eq_true rfl) (Nat.le_of_ble_eq_true rfl) (Nat.le_refl _) (Nat.le_refl _) ?_
    refine s209   (Nat.le_refl _) (fun c2 => ?_) (fun c3 => ?_)
    ·
      show j_W 208 d 0 0 0 0 13 [some (.ref 260), some (.int n), some (.int a), some (.int b), some (.int c), some (.int e), some (.int f), none] [.int 1] w1 (I, D, RR R) Q
      refine q_if_eq (tgt := 47) d208_13 rfl (fun h => absurd h (by decide)) (fun _ => ?_)
      refine q_iload_n d208_16 rfl ?_
      refine q_invS (av := [.int b]) (rest := []) (d' := 1) (mc' := 0) (ms' := 0) d208_17 (cv10_345 208 rfl) rfl rfl (by omega) (Nat.le_of_ble_eq_true rfl) (Nat.le_of_ble_eq_true rfl) (Nat.le_refl _) (Nat.le_refl _) ?_
      refine s209   (Nat.le_refl _) (fun c4 => ?_) (fun c5 => ?_)
      ·
        show j_W 208 d 0 0 0 0 20 [some (.ref 260), some (.int n), some (.int a), some (.int b), some (.int c), some (.int e), some (.int f), none] [.int 1] w1 (I, D, RR R) Q
        refine q_if_eq (tgt := 47) d208_20 rfl (fun h => absurd h (by decide)) (fun _ => ?_)
        refine q_iload d208_23 rfl ?_
        refine q_invS (av := [.int c]) (rest := []) (d' := 1) (mc' := 0) (ms' := 0) d208_25 (cv10_345 208 rfl) rfl rfl (by omega) (Nat.le_of_ble_eq_true rfl) (Nat.le_of_ble_eq_true rfl) (Nat.le_refl _) (Nat.le_refl _) ?_
        refine s209   (Nat.le_refl _) (fun c6 => ?_) (fun c7 => ?_)
        ·
          show j_W 208 d 0 0 0 0 28 [some (.ref 260), some (.int n), some (.int a), some (.int b), some (.int c), some (.int e), some (.int f), none] [.int 1] w1 (I, D, RR R) Q
          refine q_if_eq (tgt := 47) d208_28 rfl (fun h => absurd h (by decide)) (fun _ => ?_)
          refine q_iload d208_31 rfl ?_
          refine q_invS (av := [.int e]) (rest := []) (d' := 1) (mc' := 0) (ms' := 0) d208_33 (cv10_345 208 rfl) rfl rfl (by omega) (Nat.le_of_ble_eq_true rfl) (Nat.le_of_ble_eq_true rfl) (Nat.le_refl _) (Nat.le_refl _) ?_
          refine s209   (Nat.le_refl _) (fun c8 => ?_) (fun c9 => ?_)
          ·
            show j_W 208 d 0 0 0 0 36 [some (.ref 260), some (.int n), some (.int a), some (.int b), some (.int c), some (.int e), some (.int f), none] [.int 1] w1 (I, D, RR R) Q
            refine q_if_eq (tgt := 47) d208_36 rfl (fun h => absurd h (by decide)) (fun _ => ?_)
            refine q_iload d208_39 rfl ?_
            refine q_invS (av := [.int f]) (rest := []) (d' := 1) (mc' := 0) (ms' := 0) d208_41 (cv10_345 208 rfl) rfl rfl (by omega) (Nat.le_of_ble_eq_true rfl) (Nat.le_of_ble_eq_true rfl) (Nat.le_refl _) (Nat.le_refl _) ?_
            refine s209   (Nat.le_refl _) (fun c10 => ?_) (fun c11 => ?_)
            ·
              show j_W 208 d 0 0 0 0 44 [some (.ref 260), some (.int n), some (.int a), some (.int b), some (.int c), some (.int e), some (.int f), none] [.int 1] w1 (I, D, RR R) Q
              refine q_if_ne (tgt := 50) d208_44 rfl (fun _ => ?_) (fun h => absurd h (by decide))
              refine q_aload_n d208_50 rfl ?_
              refine q_getI d208_51 (fs10_348 208 rfl) rfl (lt_w1 rfl) sh260 ?_
              refine q_iload_n d208_54 rfl ?_
              refine q_iadd d208_55 ?_
              refine q_bipush (v := 96) (by decide) d208_56 ?_
              refine q_icmp_le (tgt := 64) d208_58 rfl (fun h12t => ?_) (fun h12f => ?_)
              ·
                refine q_iconst (v := 0) (by decide) d208_64 ?_
                refine q_istore (L' := [some (.ref 260), some (.int n), some (.int a), some (.int b), some (.int c), some (.int e), some (.int f), some (.int 0)]) d208_65 (Nat.le_of_ble_eq_true rfl) rfl ?_
                exact r_sub (L' := [some (.ref 260), none, none, none, none, none, none, none]) ⟨rfl, trivial⟩ (v1 h1 c2 c4 c6 c8 c10 h12t)
              ·
                refine q_bipush (v := (-4)) (by decide) d208_61 ?_
                exact q_iret d208_63 rfl (Nat.le_refl _) (Nat.le_refl _) (v2 h1 c2 c4 c6 c8 c10 h12f)
            ·
              show j_W 208 d 0 0 0 0 44 [some (.ref 260), some (.int n), some (.int a), some (.int b), some (.int c), some (.int e), some (.int f), none] [.int 0] w1 (I, D, RR R) Q
              refine q_if_ne (tgt := 50) d208_44 rfl (fun h => absurd h (by decide)) (fun _ => ?_)
              refine q_bipush (v := (-2)) (by decide) d208_47 ?_
              exact q_iret d208_49 rfl (Nat.le_refl _) (Nat.le_refl _) (v3 h1 c2 c4 c6 c8 c11)
          ·
            show j_W 208 d 0 0 0 0 36 [some (.ref 260), some (.int n), some (.int a), some (.int b), some (.int c), some (.int e), some (.int f), none] [.int 0] w1 (I, D, RR R) Q
            refine q_if_eq (tgt := 47) d208_36 rfl (fun _ => ?_) (fun h => absurd h (by decide))
            refine q_bipush (v := (-2)) (by decide) d208_47 ?_
            exact q_iret d208_49 rfl (Nat.le_refl _) (Nat.le_refl _) (v4 h1 c2 c4 c6 c9)
        ·
          show j_W 208 d 0 0 0 0 28 [some (.ref 260), some (.int n), some (.int a), some (.int b), some (.int c), some (.int e), some (.int f), none] [.int 0] w1 (I, D, RR R) Q
          refine q_if_eq (tgt := 47) d208_28 rfl (fun _ => ?_) (fun h => absurd h (by decide))
          refine q_bipush (v := (-2)) (by decide) d208_47 ?_
          exact q_iret d208_49 rfl (Nat.le_refl _) (Nat.le_refl _) (v5 h1 c2 c4 c7)
      ·
        show j_W 208 d 0 0 0 0 20 [some (.ref 260), some (.int n), some (.int a), some (.int b), some (.int c), some (.int e), some (.int f), none] [.int 0] w1 (I, D, RR R) Q
        refine q_if_eq (tgt := 47) d208_20 rfl (fun _ => ?_) (fun h => absurd h (by decide))
        refine q_bipush (v := (-2)) (by decide) d208_47 ?_
        exact q_iret d208_49 rfl (Nat.le_refl _) (Nat.le_refl _) (v6 h1 c2 c5)
    ·
      show j_W 208 d 0 0 0 0 13 [some (.ref 260), some (.int n), some (.int a), some (.int b), some (.int c), some (.int e), some (.int f), none] [.int 0] w1 (I, D, RR R) Q
      refine q_if_eq (tgt := 47) d208_13 rfl (fun _ => ?_) (fun h => absurd h (by decide))
      refine q_bipush (v := (-2)) (by decide) d208_47 ?_
      exact q_iret d208_49 rfl (Nat.le_refl _) (Nat.le_refl _) (v7 h1 c3)
  ·
    show j_W 208 d 0 0 0 0 6 [some (.ref 260), some (.int n), some (.int a), some (.int b), some (.int c), some (.int e), some (.int f), none] [.int 0] w1 (I, D, RR R) Q
    refine q_if_eq (tgt := 47) d208_6 rfl (fun _ => ?_) (fun h => absurd h (by decide))
    refine q_bipush (v := (-2)) (by decide) d208_47 ?_
    exact q_iret d208_49 rfl (Nat.le_refl _) (Nat.le_refl _) (v8 h1)

def tapeR (σ : j_I3) : Prop := ∃ z, z ≤ 96 ∧ σ.1 97 1 = nI z ∧ σ.1 260 34 = nI z ∧ ∀ k, k < z → σ.1 98 k = σ.1 422 k ∧ ∃ b : Nat, b < 256 ∧ σ.1 98 k = nI b
def tapeP (o : Nat) : Prop := o = 97 ∨ o = 98 ∨ o = 260 ∨ o = 422
theorem i_byte {a : Int32} (h : ¬ a < 0 ∧ ¬ 255 < a) : ∃ b : Nat, b < 256 ∧ a = nI b := by
  obtain ⟨b, hb, e⟩ := nI_rng (z := 255) (Int32.not_lt.mp h.1) (Int32.not_lt.mp h.2) (by decide)
  exact ⟨b, by omega, e⟩
theorem i_15 {n : Int32} (h : ¬ n < 1) (h2 : n ≤ 5) : n = 1 ∨ n = 2 ∨ n = 3 ∨ n = 4 ∨ n = 5 := by
  rw [Int32.lt_iff_toInt_lt] at h
  rw [Int32.le_iff_toInt_le] at h2
  have e1 : (1 : Int32).toInt = 1 := rfl
  have e2 : (5 : Int32).toInt = 5 := rfl
  rw [e1] at h
  rw [e2] at h2
  rcases (show n.toInt = 1 ∨ n.toInt = 2 ∨ n.toInt = 3 ∨ n.toInt = 4 ∨ n.toInt = 5 by omega) with q | q | q | q | q
  · exact Or.inl (Int32.toInt_inj.mp q)
  · exact Or.inr (Or.inl (Int32.toInt_inj.mp q))
  · exact Or.inr (Or.inr (Or.inl (Int32.toInt_inj.mp q)))
  · exact Or.inr (Or.inr (Or.inr (Or.inl (Int32.toInt_inj.mp q))))
  · exact Or.inr (Or.inr (Or.inr (Or.inr (Int32.toInt_inj.mp q))))
theorem pair_feed {σ : j_I3} {n a b c e f : Int32} (h : tapeR σ) (hR : WFR σ.2.2) : Pair 62 208 [.int n, .int a, .int b, .int c, .int e, .int f] σ (fun σ2 => tapeR σ2 ∧ same tapeP σ σ2 ∧ (∀ f, f ≠ 1 → σ2.1 97 f = σ.1 97 f) ∧ (∀ f, f ≠ 34 → σ2.1 260 f = σ.1 260 f) ∧ σ2.2 = σ.2) := by
  show j_Call lD 62 [.ref 0, .int n, .int a, .int b, .int c, .int e, .int f] w1 (σ.1, σ.2.1, RR σ.2.2) 0 0 (PEnd 208 [.int n, .int a, .int b, .int c, .int e, .int f] _)
  have hT : tapeR σ ∧ same tapeP σ σ ∧ (∀ f, f ≠ 1 → σ.1 97 f = σ.1 97 f) ∧ (∀ f, f ≠ 34 → σ.1 260 f = σ.1 260 f) ∧ σ.2 = σ.2 := ⟨h, same.rf, fun _ _ => rfl, fun _ _ => rfl, rfl⟩
  obtain ⟨z, hz9, hz, hz2, hk⟩ := h
  by_cases hn : n < 1
  case pos =>
    have hn2 : ¬ (¬ n < 1 ∧ ¬ 5 < n) := fun q => q.1 hn
    exact s62g hR lD1 (fun h1 => pend_same hT (s208g lD2 (fun h1 h2 h3 h4 h5 h6 h7 => False.elim (by first | exact absurd h1 hn2 | exact absurd hn2 h1 | exact (Int32.not_lt.mpr h1) hn2 | exact (Int32.not_lt.mpr hn2) h1 | exact h1 (Int32.not_le.mp hn2) | exact hn2 (Int32.not_le.mp h1) | omega)) (fun h1 h2 h3 h4 h5 h6 h7 => False.elim (by first | exact absurd h1 hn2 | exact absurd hn2 h1 | exact (Int32.not_lt.mpr h1) hn2 | exact (Int32.not_lt.mpr hn2) h1 | exact h1 (Int32.not_le.mp hn2) | exact hn2 (Int32.not_le.mp h1) | omega)) (fun h1 h2 h3 h4 h5 h6 => False.elim (by first | exact absurd h1 hn2 | exact absurd hn2 h1 | exact (Int32.not_lt.mpr h1) hn2 | exact (Int32.not_lt.mpr hn2) h1 | exact h1 (Int32.not_le.mp hn2) | exact hn2 (Int32.not_le.mp h1) | omega)) (fun h1 h2 h3 h4 h5 => False.elim (by first | exact absurd h1 hn2 | exact absurd hn2 h1 | exact (Int32.not_lt.mpr h1) hn2 | exact (Int32.not_lt.mpr hn2) h1 | exact h1 (Int32.not_le.mp hn2) | exact hn2 (Int32.not_le.mp h1) | omega)) (fun h1 h2 h3 h4 => False.elim (by first | exact absurd h1 hn2 | exact absurd hn2 h1 | exact (Int32.not_lt.mpr h1) hn2 | exact (Int32.not_lt.mpr hn2) h1 | exact h1 (Int32.not_le.mp hn2) | exact hn2 (Int32.not_le.mp h1) | omega)) (fun h1 h2 h3 => False.elim (by first | exact absurd h1 hn2 | exact absurd hn2 h1 | exact (Int32.not_lt.mpr h1) hn2 | exact (Int32.not_lt.mpr hn2) h1 | exact h1 (Int32.not_le.mp hn2) | exact hn2 (Int32.not_le.mp h1) | omega)) (fun h1 h2 => False.elim (by first | exact absurd h1 hn2 | exact absurd hn2 h1 | exact (Int32.not_lt.mpr h1) hn2 | exact (Int32.not_lt.mpr hn2) h1 | exact h1 (Int32.not_le.mp hn2) | exact hn2 (Int32.not_le.mp h1) | omega)) (fun h1 => ⟨rfl, rfl, rfl⟩))) (fun h1 h2 h3 h4 h5 h6 h7 h8 => False.elim (by first | exact absurd h1 hn | exact absurd hn h1 | exact (Int32.not_lt.mpr h1) hn | exact (Int32.not_lt.mpr hn) h1 | exact h1 (Int32.not_le.mp hn) | exact hn (Int32.not_le.mp h1) | omega)) (fun h1 h2 h3 h4 h5 h6 h7 h8 => False.elim (by first | exact absurd h1 hn | exact absurd hn h1 | exact (Int32.not_lt.mpr h1) hn | exact (Int32.not_lt.mpr hn) h1 | exact h1 (Int32.not_le.mp hn) | exact hn (Int32.not_le.mp h1) | omega)) (fun h1 h2 h3 h4 h5 h6 h7 => False.elim (by first | exact absurd h1 hn | exact absurd hn h1 | exact (Int32.not_lt.mpr h1) hn | exact (Int32.not_lt.mpr hn) h1 | exact h1 (Int32.not_le.mp hn) | exact hn (Int32.not_le.mp h1) | omega)) (fun h1 h2 h3 h4 h5 h6 => False.elim (by first | exact absurd h1 hn | exact absurd hn h1 | exact (Int32.not_lt.mpr h1) hn | exact (Int32.not_lt.mpr hn) h1 | exact h1 (Int32.not_le.mp hn) | exact hn (Int32.not_le.mp h1) | omega)) (fun h1 h2 h3 h4 h5 => False.elim (by first | exact absurd h1 hn | exact absurd hn h1 | exact (Int32.not_lt.mpr h1) hn | exact (Int32.not_lt.mpr hn) h1 | exact h1 (Int32.not_le.mp hn) | exact hn (Int32.not_le.mp h1) | omega)) (fun h1 h2 h3 h4 => False.elim (by first | exact absurd h1 hn | exact absurd hn h1 | exact (Int32.not_lt.mpr h1) hn | exact (Int32.not_lt.mpr hn) h1 | exact h1 (Int32.not_le.mp hn) | exact hn (Int32.not_le.mp h1) | omega)) (fun h1 h2 h3 => False.elim (by first | exact absurd h1 hn | exact absurd hn h1 | exact (Int32.not_lt.mpr h1) hn | exact (Int32.not_lt.mpr hn) h1 | exact h1 (Int32.not_le.mp hn) | exact hn (Int32.not_le.mp h1) | omega)) (fun h1 h2 => False.elim (by first | exact absurd h1 hn | exact absurd hn h1 | exact (Int32.not_lt.mpr h1) hn | exact (Int32.not_lt.mpr hn) h1 | exact h1 (Int32.not_le.mp hn) | exact hn (Int32.not_le.mp h1) | omega))
  by_cases hn5 : n ≤ 5
  case neg =>
    have hn2 : ¬ (¬ n < 1 ∧ ¬ 5 < n) := fun q => q.2 (Int32.not_le.mp hn5)
    exact s62g hR lD1 (fun h1 => False.elim (by first | exact absurd h1 hn | exact absurd hn h1 | exact (Int32.not_lt.mpr h1) hn | exact (Int32.not_lt.mpr hn) h1 | exact h1 (Int32.not_le.mp hn) | exact hn (Int32.not_le.mp h1) | omega)) (fun h1 h2 h3 h4 h5 h6 h7 h8 => False.elim (by first | exact absurd h2 hn5 | exact absurd hn5 h2 | exact (Int32.not_lt.mpr h2) hn5 | exact (Int32.not_lt.mpr hn5) h2 | exact h2 (Int32.not_le.mp hn5) | exact hn5 (Int32.not_le.mp h2) | omega)) (fun h1 h2 h3 h4 h5 h6 h7 h8 => False.elim (by first | exact absurd h2 hn5 | exact absurd hn5 h2 | exact (Int32.not_lt.mpr h2) hn5 | exact (Int32.not_lt.mpr hn5) h2 | exact h2 (Int32.not_le.mp hn5) | exact hn5 (Int32.not_le.mp h2) | omega)) (fun h1 h2 h3 h4 h5 h6 h7 => False.elim (by first | exact absurd h2 hn5 | exact absurd hn5 h2 | exact (Int32.not_lt.mpr h2) hn5 | exact (Int32.not_lt.mpr hn5) h2 | exact h2 (Int32.not_le.mp hn5) | exact hn5 (Int32.not_le.mp h2) | omega)) (fun h1 h2 h3 h4 h5 h6 => False.elim (by first | exact absurd h2 hn5 | exact absurd hn5 h2 | exact (Int32.not_lt.mpr h2) hn5 | exact (Int32.not_lt.mpr hn5) h2 | exact h2 (Int32.not_le.mp hn5) | exact hn5 (Int32.not_le.mp h2) | omega)) (fun h1 h2 h3 h4 h5 => False.elim (by first | exact absurd h2 hn5 | exact absurd hn5 h2 | exact (Int32.not_lt.mpr h2) hn5 | exact (Int32.not_lt.mpr hn5) h2 | exact h2 (Int32.not_le.mp hn5) | exact hn5 (Int32.not_le.mp h2) | omega)) (fun h1 h2 h3 h4 => False.elim (by first | exact absurd h2 hn5 | exact absurd hn5 h2 | exact (Int32.not_lt.mpr h2) hn5 | exact (Int32.not_lt.mpr hn5) h2 | exact h2 (Int32.not_le.mp hn5) | exact hn5 (Int32.not_le.mp h2) | omega)) (fun h1 h2 h3 => False.elim (by first | exact absurd h2 hn5 | exact absurd hn5 h2 | exact (Int32.not_lt.mpr h2) hn5 | exact (Int32.not_lt.mpr hn5) h2 | exact h2 (Int32.not_le.mp hn5) | exact hn5 (Int32.not_le.mp h2) | omega)) (fun h1 h2 => pend_same hT (s208g lD2 (fun h1 h2 h3 h4 h5 h6 h7 => False.elim (by first | exact absurd h1 hn2 | exact absurd hn2 h1 | exact (Int32.not_lt.mpr h1) hn2 | exact (Int32.not_lt.mpr hn2) h1 | exact h1 (Int32.not_le.mp hn2) | exact hn2 (Int32.not_le.mp h1) | omega)) (fun h1 h2 h3 h4 h5 h6 h7 => False.elim (by first | exact absurd h1 hn2 | exact absurd hn2 h1 | exact (Int32.not_lt.mpr h1) hn2 | exact (Int32.not_lt.mpr hn2) h1 | exact h1 (Int32.not_le.mp hn2) | exact hn2 (Int32.not_le.mp h1) | omega)) (fun h1 h2 h3 h4 h5 h6 => False.elim (by first | exact absurd h1 hn2 | exact absurd hn2 h1 | exact (Int32.not_lt.mpr h1) hn2 | exact (Int32.not_lt.mpr hn2) h1 | exact h1 (Int32.not_le.mp hn2) | exact hn2 (Int32.not_le.mp h1) | omega)) (fun h1 h2 h3 h4 h5 => False.elim (by first | exact absurd h1 hn2 | exact absurd hn2 h1 | exact (Int32.not_lt.mpr h1) hn2 | exact (Int32.not_lt.mpr hn2) h1 | exact h1 (Int32.not_le.mp hn2) | exact hn2 (Int32.not_le.mp h1) | omega)) (fun h1 h2 h3 h4 => False.elim (by first | exact absurd h1 hn2 | exact absurd hn2 h1 | exact (Int32.not_lt.mpr h1) hn2 | exact (Int32.not_lt.mpr hn2) h1 | exact h1 (Int32.not_le.mp hn2) | exact hn2 (Int32.not_le.mp h1) | omega)) (fun h1 h2 h3 => False.elim (by first | exact absurd h1 hn2 | exact absurd hn2 h1 | exact (Int32.not_lt.mpr h1) hn2 | exact (Int32.not_lt.mpr hn2) h1 | exact h1 (Int32.not_le.mp hn2) | exact hn2 (Int32.not_le.mp h1) | omega)) (fun h1 h2 => False.elim (by first | exact absurd h1 hn2 | exact absurd hn2 h1 | exact (Int32.not_lt.mpr h1) hn2 | exact (Int32.not_lt.mpr hn2) h1 | exact h1 (Int32.not_le.mp hn2) | exact hn2 (Int32.not_le.mp h1) | omega)) (fun h1 => ⟨rfl, rfl, rfl⟩)))
  by_cases hb : (¬ a < 0 ∧ ¬ 255 < a) ∧ (¬ b < 0 ∧ ¬ 255 < b) ∧ (¬ c < 0 ∧ ¬ 255 < c) ∧ (¬ e < 0 ∧ ¬ 255 < e) ∧ (¬ f < 0 ∧ ¬ 255 < f)
  case neg =>
    rcases i_15 hn hn5 with rfl | rfl | rfl | rfl | rfl
    · exact s62n1 hR hz hz9 lD1 (fun h1 h2 h3 h4 h5 h6 => absurd ⟨h1, h2, h3, h4, h5⟩ hb) (fun h1 h2 h3 h4 h5 h6 => absurd ⟨h1, h2, h3, h4, h5⟩ hb) (fun h1 h2 h3 h4 h5 => pend_same hT (s208n1 hz2 hz9 lD2 (fun h1 h2 h3 h4 h5 h6 h7 => absurd ⟨h2, h3, h4, h5, h6⟩ hb) (fun h1 h2 h3 h4 h5 h6 h7 => absurd ⟨h2, h3, h4, h5, h6⟩ hb) (fun h1 h2 h3 h4 h5 h6 => ⟨rfl, rfl, rfl⟩) (fun h1 h2 h3 h4 h5 => ⟨rfl, rfl, rfl⟩) (fun h1 h2 h3 h4 => ⟨rfl, rfl, rfl⟩) (fun h1 h2 h3 => ⟨rfl, rfl, rfl⟩) (fun h1 h2 => ⟨rfl, rfl, rfl⟩) (fun h1 => False.elim (by first | exact absurd h1 ((show (¬ (1 : Int32) < (1 : Int32) ∧ ¬ (5 : Int32) < (1 : Int32)) from by decide)) | exact absurd ((show (¬ (1 : Int32) < (1 : Int32) ∧ ¬ (5 : Int32) < (1 : Int32)) from by decide)) h1 | exact (Int32.not_lt.mpr h1) ((show (¬ (1 : Int32) < (1 : Int32) ∧ ¬ (5 : Int32) < (1 : Int32)) from by decide)) | exact (Int32.not_lt.mpr ((show (¬ (1 : Int32) < (1 : Int32) ∧ ¬ (5 : Int32) < (1 : Int32)) from by decide))) h1 | exact h1 (Int32.not_le.mp ((show (¬ (1 : Int32) < (1 : Int32) ∧ ¬ (5 : Int32) < (1 : Int32)) from by decide))) | exact ((show (¬ (1 : Int32) < (1 : Int32) ∧ ¬ (5 : Int32) < (1 : Int32)) from by decide)) (Int32.not_le.mp h1) | omega)))) (fun h1 h2 h3 h4 => pend_same hT (s208n1 hz2 hz9 lD2 (fun h1 h2 h3 h4 h5 h6 h7 => absurd ⟨h2, h3, h4, h5, h6⟩ hb) (fun h1 h2 h3 h4 h5 h6 h7 => absurd ⟨h2, h3, h4, h5, h6⟩ hb) (fun h1 h2 h3 h4 h5 h6 => ⟨rfl, rfl, rfl⟩) (fun h1 h2 h3 h4 h5 => ⟨rfl, rfl, rfl⟩) (fun h1 h2 h3 h4 => ⟨rfl, rfl, rfl⟩) (fun h1 h2 h3 => ⟨rfl, rfl, rfl⟩) (fun h1 h2 => ⟨rfl, rfl, rfl⟩) (fun h1 => False.elim (by first | exact absurd h1 ((show (¬ (1 : Int32) < (1 : Int32) ∧ ¬ (5 : Int32) < (1 : Int32)) from by decide)) | exact absurd ((show (¬ (1 : Int32) < (1 : Int32) ∧ ¬ (5 : Int32) < (1 : Int32)) from by decide)) h1 | exact (Int32.not_lt.mpr h1) ((show (¬ (1 : Int32) < (1 : Int32) ∧ ¬ (5 : Int32) < (1 : Int32)) from by decide)) | exact (Int32.not_lt.mpr ((show (¬ (1 : Int32) < (1 : Int32) ∧ ¬ (5 : Int32) < (1 : Int32)) from by decide))) h1 | exact h1 (Int32.not_le.mp ((show (¬ (1 : Int32) < (1 : Int32) ∧ ¬ (5 : Int32) < (1 : Int32)) from by decide))) | exact ((show (¬ (1 : Int32) < (1 : Int32) ∧ ¬ (5 : Int32) < (1 : Int32)) from by decide)) (Int32.not_le.mp h1) | omega)))) (fun h1 h2 h3 => pend_same hT (s208n1 hz2 hz9 lD2 (fun h1 h2 h3 h4 h5 h6 h7 => absurd ⟨h2, h3, h4, h5, h6⟩ hb) (fun h1 h2 h3 h4 h5 h6 h7 => absurd ⟨h2, h3, h4, h5, h6⟩ hb) (fun h1 h2 h3 h4 h5 h6 => ⟨rfl, rfl, rfl⟩) (fun h1 h2 h3 h4 h5 => ⟨rfl, rfl, rfl⟩) (fun h1 h2 h3 h4 => ⟨rfl, rfl, rfl⟩) (fun h1 h2 h3 => ⟨rfl, rfl, rfl⟩) (fun h1 h2 => ⟨rfl, rfl, rfl⟩) (fun h1 => False.elim (by first | exact absurd h1 ((show (¬ (1 : Int32) < (1 : Int32) ∧ ¬ (5 : Int32) < (1 : Int32)) from by decide)) | exact absurd ((show (¬ (1 : Int32) < (1 : Int32) ∧ ¬ (5 : Int32) < (1 : Int32)) from by decide)) h1 | exact (Int32.not_lt.mpr h1) ((show (¬ (1 : Int32) < (1 : Int32) ∧ ¬ (5 : Int32) < (1 : Int32)) from by decide)) | exact (Int32.not_lt.mpr ((show (¬ (1 : Int32) < (1 : Int32) ∧ ¬ (5 : Int32) < (1 : Int32)) from by decide))) h1 | exact h1 (Int32.not_le.mp ((show (¬ (1 : Int32) < (1 : Int32) ∧ ¬ (5 : Int32) < (1 : Int32)) from by decide))) | exact ((show (¬ (1 : Int32) < (1 : Int32) ∧ ¬ (5 : Int32) < (1 : Int32)) from by decide)) (Int32.not_le.mp h1) | omega)))) (fun h1 h2 => pend_same hT (s208n1 hz2 hz9 lD2 (fun h1 h2 h3 h4 h5 h6 h7 => absurd ⟨h2, h3, h4, h5, h6⟩ hb) (fun h1 h2 h3 h4 h5 h6 h7 => absurd ⟨h2, h3, h4, h5, h6⟩ hb) (fun h1 h2 h3 h4 h5 h6 => ⟨rfl, rfl, rfl⟩) (fun h1 h2 h3 h4 h5 => ⟨rfl, rfl, rfl⟩) (fun h1 h2 h3 h4 => ⟨rfl, rfl, rfl⟩) (fun h1 h2 h3 => ⟨rfl, rfl, rfl⟩) (fun h1 h2 => ⟨rfl, rfl, rfl⟩) (fun h1 => False.elim (by first | exact absurd h1 ((show (¬ (1 : Int32) < (1 : Int32) ∧ ¬ (5 : Int32) < (1 : Int32)) from by decide)) | exact absurd ((show (¬ (1 : Int32) < (1 : Int32) ∧ ¬ (5 : Int32) < (1 : Int32)) from by decide)) h1 | exact (Int32.not_lt.mpr h1) ((show (¬ (1 : Int32) < (1 : Int32) ∧ ¬ (5 : Int32) < (1 : Int32)) from by decide)) | exact (Int32.not_lt.mpr ((show (¬ (1 : Int32) < (1 : Int32) ∧ ¬ (5 : Int32) < (1 : Int32)) from by decide))) h1 | exact h1 (Int32.not_le.mp ((show (¬ (1 : Int32) < (1 : Int32) ∧ ¬ (5 : Int32) < (1 : Int32)) from by decide))) | exact ((show (¬ (1 : Int32) < (1 : Int32) ∧ ¬ (5 : Int32) < (1 : Int32)) from by decide)) (Int32.not_le.mp h1) | omega)))) (fun h1 => pend_same hT (s208n1 hz2 hz9 lD2 (fun h1 h2 h3 h4 h5 h6 h7 => absurd ⟨h2, h3, h4, h5, h6⟩ hb) (fun h1 h2 h3 h4 h5 h6 h7 => absurd ⟨h2, h3, h4, h5, h6⟩ hb) (fun h1 h2 h3 h4 h5 h6 => ⟨rfl, rfl, rfl⟩) (fun h1 h2 h3 h4 h5 => ⟨rfl, rfl, rfl⟩) (fun h1 h2 h3 h4 => ⟨rfl, rfl, rfl⟩) (fun h1 h2 h3 => ⟨rfl, rfl, rfl⟩) (fun h1 h2 => ⟨rfl, rfl, rfl⟩) (fun h1 => False.elim (by first | exact absurd h1 ((show (¬ (1 : Int32) < (1 : Int32) ∧ ¬ (5 : Int32) < (1 : Int32)) from by decide)) | exact absurd ((show (¬ (1 : Int32) < (1 : Int32) ∧ ¬ (5 : Int32) < (1 : Int32)) from by decide)) h1 | exact (Int32.not_lt.mpr h1) ((show (¬ (1 : Int32) < (1 : Int32) ∧ ¬ (5 : Int32) < (1 : Int32)) from by decide)) | exact (Int32.not_lt.mpr ((show (¬ (1 : Int32) < (1 : Int32) ∧ ¬ (5 : Int32) < (1 : Int32)) from by decide))) h1 | exact h1 (Int32.not_le.mp ((show (¬ (1 : Int32) < (1 : Int32) ∧ ¬ (5 : Int32) < (1 : Int32)) from by decide))) | exact ((show (¬ (1 : Int32) < (1 : Int32) ∧ ¬ (5 : Int32) < (1 : Int32)) from by decide)) (Int32.not_le.mp h1) | omega))))
    · exact s62n2 hR hz hz9 lD1 (fun h1 h2 h3 h4 h5 h6 => absurd ⟨h1, h2, h3, h4, h5⟩ hb) (fun h1 h2 h3 h4 h5 h6 => absurd ⟨h1, h2, h3, h4, h5⟩ hb) (fun h1 h2 h3 h4 h5 => pend_same hT (s208n2 hz2 hz9 lD2 (fun h1 h2 h3 h4 h5 h6 h7 => absurd ⟨h2, h3, h4, h5, h6⟩ hb) (fun h1 h2 h3 h4 h5 h6 h7 => absurd ⟨h2, h3, h4, h5, h6⟩ hb) (fun h1 h2 h3 h4 h5 h6 => ⟨rfl, rfl, rfl⟩) (fun h1 h2 h3 h4 h5 => ⟨rfl, rfl, rfl⟩) (fun h1 h2 h3 h4 => ⟨rfl, rfl, rfl⟩) (fun h1 h2 h3 => ⟨rfl, rfl, rfl⟩) (fun h1 h2 => ⟨rfl, rfl, rfl⟩) (fun h1 => False.elim (by first | exact absurd h1 ((show (¬ (2 : Int32) < (1 : Int32) ∧ ¬ (5 : Int32) < (2 : Int32)) from by decide)) | exact absurd ((show (¬ (2 : Int32) < (1 : Int32) ∧ ¬ (5 : Int32) < (2 : Int32)) from by decide)) h1 | exact (Int32.not_lt.mpr h1) ((show (¬ (2 : Int32) < (1 : Int32) ∧ ¬ (5 : Int32) < (2 : Int32)) from by decide)) | exact (Int32.not_lt.mpr ((show (¬ (2 : Int32) < (1 : Int32) ∧ ¬ (5 : Int32) < (2 : Int32)) from by decide))) h1 | exact h1 (Int32.not_le.mp ((show (¬ (2 : Int32) < (1 : Int32) ∧ ¬ (5 : Int32) < (2 : Int32)) from by decide))) | exact ((show (¬ (2 : Int32) < (1 : Int32) ∧ ¬ (5 : Int32) < (2 : Int32)) from by decide)) (Int32.not_le.mp h1) | omega)))) (fun h1 h2 h3 h4 => pend_same hT (s208n2 hz2 hz9 lD2 (fun h1 h2 h3 h4 h5 h6 h7 => absurd ⟨h2, h3, h4, h5, h6⟩ hb) (fun h1 h2 h3 h4 h5 h6 h7 => absurd ⟨h2, h3, h4, h5, h6⟩ hb) (fun h1 h2 h3 h4 h5 h6 => ⟨rfl, rfl, rfl⟩) (fun h1 h2 h3 h4 h5 => ⟨rfl, rfl, rfl⟩) (fun h1 h2 h3 h4 => ⟨rfl, rfl, rfl⟩) (fun h1 h2 h3 => ⟨rfl, rfl, rfl⟩) (fun h1 h2 => ⟨rfl, rfl, rfl⟩) (fun h1 => False.elim (by first | exact absurd h1 ((show (¬ (2 : Int32) < (1 : Int32) ∧ ¬ (5 : Int32) < (2 : Int32)) from by decide)) | exact absurd ((show (¬ (2 : Int32) < (1 : Int32) ∧ ¬ (5 : Int32) < (2 : Int32)) from by decide)) h1 | exact (Int32.not_lt.mpr h1) ((show (¬ (2 : Int32) < (1 : Int32) ∧ ¬ (5 : Int32) < (2 : Int32)) from by decide)) | exact (Int32.not_lt.mpr ((show (¬ (2 : Int32) < (1 : Int32) ∧ ¬ (5 : Int32) < (2 : Int32)) from by decide))) h1 | exact h1 (Int32.not_le.mp ((show (¬ (2 : Int32) < (1 : Int32) ∧ ¬ (5 : Int32) < (2 : Int32)) from by decide))) | exact ((show (¬ (2 : Int32) < (1 : Int32) ∧ ¬ (5 : Int32) < (2 : Int32)) from by decide)) (Int32.not_le.mp h1) | omega)))) (fun h1 h2 h3 => pend_same hT (s208n2 hz2 hz9 lD2 (fun h1 h2 h3 h4 h5 h6 h7 => absurd ⟨h2, h3, h4, h5, h6⟩ hb) (fun h1 h2 h3 h4 h5 h6 h7 => absurd ⟨h2, h3, h4, h5, h6⟩ hb) (fun h1 h2 h3 h4 h5 h6 => ⟨rfl, rfl, rfl⟩) (fun h1 h2 h3 h4 h5 => ⟨rfl, rfl, rfl⟩) (fun h1 h2 h3 h4 => ⟨rfl, rfl, rfl⟩) (fun h1 h2 h3 => ⟨rfl, rfl, rfl⟩) (fun h1 h2 => ⟨rfl, rfl, rfl⟩) (fun h1 => False.elim (by first | exact absurd h1 ((show (¬ (2 : Int32) < (1 : Int32) ∧ ¬ (5 : Int32) < (2 : Int32)) from by decide)) | exact absurd ((show (¬ (2 : Int32) < (1 : Int32) ∧ ¬ (5 : Int32) < (2 : Int32)) from by decide)) h1 | exact (Int32.not_lt.mpr h1) ((show (¬ (2 : Int32) < (1 : Int32) ∧ ¬ (5 : Int32) < (2 : Int32)) from by decide)) | exact (Int32.not_lt.mpr ((show (¬ (2 : Int32) < (1 : Int32) ∧ ¬ (5 : Int32) < (2 : Int32)) from by decide))) h1 | exact h1 (Int32.not_le.mp ((show (¬ (2 : Int32) < (1 : Int32) ∧ ¬ (5 : Int32) < (2 : Int32)) from by decide))) | exact ((show (¬ (2 : Int32) < (1 : Int32) ∧ ¬ (5 : Int32) < (2 : Int32)) from by decide)) (Int32.not_le.mp h1) | omega)))) (fun h1 h2 => pend_same hT (s208n2 hz2 hz9 lD2 (fun h1 h2 h3 h4 h5 h6 h7 => absurd ⟨h2, h3, h4, h5, h6⟩ hb) (fun h1 h2 h3 h4 h5 h6 h7 => absurd ⟨h2, h3, h4, h5, h6⟩ hb) (fun h1 h2 h3 h4 h5 h6 => ⟨rfl, rfl, rfl⟩) (fun h1 h2 h3 h4 h5 => ⟨rfl, rfl, rfl⟩) (fun h1 h2 h3 h4 => ⟨rfl, rfl, rfl⟩) (fun h1 h2 h3 => ⟨rfl, rfl, rfl⟩) (fun h1 h2 => ⟨rfl, rfl, rfl⟩) (fun h1 => False.elim (by first | exact absurd h1 ((show (¬ (2 : Int32) < (1 : Int32) ∧ ¬ (5 : Int32) < (2 : Int32)) from by decide)) | exact absurd ((show (¬ (2 : Int32) < (1 : Int32) ∧ ¬ (5 : Int32) < (2 : Int32)) from by decide)) h1 | exact (Int32.not_lt.mpr h1) ((show (¬ (2 : Int32) < (1 : Int32) ∧ ¬ (5 : Int32) < (2 : Int32)) from by decide)) | exact (Int32.not_lt.mpr ((show (¬ (2 : Int32) < (1 : Int32) ∧ ¬ (5 : Int32) < (2 : Int32)) from by decide))) h1 | exact h1 (Int32.not_le.mp ((show (¬ (2 : Int32) < (1 : Int32) ∧ ¬ (5 : Int32) < (2 : Int32)) from by decide))) | exact ((show (¬ (2 : Int32) < (1 : Int32) ∧ ¬ (5 : Int32) < (2 : Int32)) from by decide)) (Int32.not_le.mp h1) | omega)))) (fun h1 => pend_same hT (s208n2 hz2 hz9 lD2 (fun h1 h2 h3 h4 h5 h6 h7 => absurd ⟨h2, h3, h4, h5, h6⟩ hb) (fun h1 h2 h3 h4 h5 h6 h7 => absurd ⟨h2, h3, h4, h5, h6⟩ hb) (fun h1 h2 h3 h4 h5 h6 => ⟨rfl, rfl, rfl⟩) (fun h1 h2 h3 h4 h5 => ⟨rfl, rfl, rfl⟩) (fun h1 h2 h3 h4 => ⟨rfl, rfl, rfl⟩) (fun h1 h2 h3 => ⟨rfl, rfl, rfl⟩) (fun h1 h2 => ⟨rfl, rfl, rfl⟩) (fun h1 => False.elim (by first | exact absurd h1 ((show (¬ (2 : Int32) < (1 : Int32) ∧ ¬ (5 : Int32) < (2 : Int32)) from by decide)) | exact absurd ((show (¬ (2 : Int32) < (1 : Int32) ∧ ¬ (5 : Int32) < (2 : Int32)) from by decide)) h1 | exact (Int32.not_lt.mpr h1) ((show (¬ (2 : Int32) < (1 : Int32) ∧ ¬ (5 : Int32) < (2 : Int32)) from by decide)) | exact (Int32.not_lt.mpr ((show (¬ (2 : Int32) < (1 : Int32) ∧ ¬ (5 : Int32) < (2 : Int32)) from by decide))) h1 | exact h1 (Int32.not_le.mp ((show (¬ (2 : Int32) < (1 : Int32) ∧ ¬ (5 : Int32) < (2 : Int32)) from by decide))) | exact ((show (¬ (2 : Int32) < (1 : Int32) ∧ ¬ (5 : Int32) < (2 : Int32)) from by decide)) (Int32.not_le.mp h1) | omega))))
    · exact s62n3 hR hz hz9 lD1 (fun h1 h2 h3 h4 h5 h6 => absurd ⟨h1, h2, h3, h4, h5⟩ hb) (fun h1 h2 h3 h4 h5 h6 => absurd ⟨h1, h2, h3, h4, h5⟩ hb) (fun h1 h2 h3 h4 h5 => pend_same hT (s208n3 hz2 hz9 lD2 (fun h1 h2 h3 h4 h5 h6 h7 => absurd ⟨h2, h3, h4, h5, h6⟩ hb) (fun h1 h2 h3 h4 h5 h6 h7 => absurd ⟨h2, h3, h4, h5, h6⟩ hb) (fun h1 h2 h3 h4 h5 h6 => ⟨rfl, rfl, rfl⟩) (fun h1 h2 h3 h4 h5 => ⟨rfl, rfl, rfl⟩) (fun h1 h2 h3 h4 => ⟨rfl, rfl, rfl⟩) (fun h1 h2 h3 => ⟨rfl, rfl, rfl⟩) (fun h1 h2 => ⟨rfl, rfl, rfl⟩) (fun h1 => False.elim (by first | exact absurd h1 ((show (¬ (3 : Int32) < (1 : Int32) ∧ ¬ (5 : Int32) < (3 : Int32)) from by decide)) | exact absurd ((show (¬ (3 : Int32) < (1 : Int32) ∧ ¬ (5 : Int32) < (3 : Int32)) from by decide)) h1 | exact (Int32.not_lt.mpr h1) ((show (¬ (3 : Int32) < (1 : Int32) ∧ ¬ (5 : Int32) < (3 : Int32)) from by decide)) | exact (Int32.not_lt.mpr ((show (¬ (3 : Int32) < (1 : Int32) ∧ ¬ (5 : Int32) < (3 : Int32)) from by decide))) h1 | exact h1 (Int32.not_le.mp ((show (¬ (3 : Int32) < (1 : Int32) ∧ ¬ (5 : Int32) < (3 : Int32)) from by decide))) | exact ((show (¬ (3 : Int32) < (1 : Int32) ∧ ¬ (5 : Int32) < (3 : Int32)) from by decide)) (Int32.not_le.mp h1) | omega)))) (fun h1 h2 h3 h4 => pend_same hT (s208n3 hz2 hz9 lD2 (fun h1 h2 h3 h4 h5 h6 h7 => absurd ⟨h2, h3, h4, h5, h6⟩ hb) (fun h1 h2 h3 h4 h5 h6 h7 => absurd ⟨h2, h3, h4, h5, h6⟩ hb) (fun h1 h2 h3 h4 h5 h6 => ⟨rfl, rfl, rfl⟩) (fun h1 h2 h3 h4 h5 => ⟨rfl, rfl, rfl⟩) (fun h1 h2 h3 h4 => ⟨rfl, rfl, rfl⟩) (fun h1 h2 h3 => ⟨rfl, rfl, rfl⟩) (fun h1 h2 => ⟨rfl, rfl, rfl⟩) (fun h1 => False.elim (by first | exact absurd h1 ((show (¬ (3 : Int32) < (1 : Int32) ∧ ¬ (5 : Int32) < (3 : Int32)) from by decide)) | exact absurd ((show (¬ (3 : Int32) < (1 : Int32) ∧ ¬ (5 : Int32) < (3 : Int32)) from by decide)) h1 | exact (Int32.not_lt.mpr h1) ((show (¬ (3 : Int32) < (1 : Int32) ∧ ¬ (5 : Int32) < (3 : Int32)) from by decide)) | exact (Int32.not_lt.mpr ((show (¬ (3 : Int32) < (1 : Int32) ∧ ¬ (5 : Int32) < (3 : Int32)) from by decide))) h1 | exact h1 (Int32.not_le.mp ((show (¬ (3 : Int32) < (1 : Int32) ∧ ¬ (5 : Int32) < (3 : Int32)) from by decide))) | exact ((show (¬ (3 : Int32) < (1 : Int32) ∧ ¬ (5 : Int32) < (3 : Int32)) from by decide)) (Int32.not_le.mp h1) | omega)))) (fun h1 h2 h3 => pend_same hT (s208n3 hz2 hz9 lD2 (fun h1 h2 h3 h4 h5 h6 h7 => absurd ⟨h2, h3, h4, h5, h6⟩ hb) (fun h1 h2 h3 h4 h5 h6 h7 => absurd ⟨h2, h3, h4, h5, h6⟩ hb) (fun h1 h2 h3 h4 h5 h6 => ⟨rfl, rfl, rfl⟩) (fun h1 h2 h3 h4 h5 => ⟨rfl, rfl, rfl⟩) (fun h1 h2 h3 h4 => ⟨rfl, rfl, rfl⟩) (fun h1 h2 h3 => ⟨rfl, rfl, rfl⟩) (fun h1 h2 => ⟨rfl, rfl, rfl⟩) (fun h1 => False.elim (by first | exact absurd h1 ((show (¬ (3 : Int32) < (1 : Int32) ∧ ¬ (5 : Int32) < (3 : Int32)) from by decide)) | exact absurd ((show (¬ (3 : Int32) < (1 : Int32) ∧ ¬ (5 : Int32) < (3 : Int32)) from by decide)) h1 | exact (Int32.not_lt.mpr h1) ((show (¬ (3 : Int32) < (1 : Int32) ∧ ¬ (5 : Int32) < (3 : Int32)) from by decide)) | exact (Int32.not_lt.mpr ((show (¬ (3 : Int32) < (1 : Int32) ∧ ¬ (5 : Int32) < (3 : Int32)) from by decide))) h1 | exact h1 (Int32.not_le.mp ((show (¬ (3 : Int32) < (1 : Int32) ∧ ¬ (5 : Int32) < (3 : Int32)) from by decide))) | exact ((show (¬ (3 : Int32) < (1 : Int32) ∧ ¬ (5 : Int32) < (3 : Int32)) from by decide)) (Int32.not_le.mp h1) | omega)))) (fun h1 h2 => pend_same hT (s208n3 hz2 hz9 lD2 (fun h1 h2 h3 h4 h5 h6 h7 => absurd ⟨h2, h3, h4, h5, h6⟩ hb) (fun h1 h2 h3 h4 h5 h6 h7 => absurd ⟨h2, h3, h4, h5, h6⟩ hb) (fun h1 h2 h3 h4 h5 h6 => ⟨rfl, rfl, rfl⟩) (fun h1 h2 h3 h4 h5 => ⟨rfl, rfl, rfl⟩) (fun h1 h2 h3 h4 => ⟨rfl, rfl, rfl⟩) (fun h1 h2 h3 => ⟨rfl, rfl, rfl⟩) (fun h1 h2 => ⟨rfl, rfl, rfl⟩) (fun h1 => False.elim (by first | exact absurd h1 ((show (¬ (3 : Int32) < (1 : Int32) ∧ ¬ (5 : Int32) < (3 : Int32)) from by decide)) | exact absurd ((show (¬ (3 : Int32) < (1 : Int32) ∧ ¬ (5 : Int32) < (3 : Int32)) from by decide)) h1 | exact (Int32.not_lt.mpr h1) ((show (¬ (3 : Int32) < (1 : Int32) ∧ ¬ (5 : Int32) < (3 : Int32)) from by decide)) | exact (Int32.not_lt.mpr ((show (¬ (3 : Int32) < (1 : Int32) ∧ ¬ (5 : Int32) < (3 : Int32)) from by decide))) h1 | exact h1 (Int32.not_le.mp ((show (¬ (3 : Int32) < (1 : Int32) ∧ ¬ (5 : Int32) < (3 : Int32)) from by decide))) | exact ((show (¬ (3 : Int32) < (1 : Int32) ∧ ¬ (5 : Int32) < (3 : Int32)) from by decide)) (Int32.not_le.mp h1) | omega)))) (fun h1 => pend_same hT (s208n3 hz2 hz9 lD2 (fun h1 h2 h3 h4 h5 h6 h7 => absurd ⟨h2, h3, h4, h5, h6⟩ hb) (fun h1 h2 h3 h4 h5 h6 h7 => absurd ⟨h2, h3, h4, h5, h6⟩ hb) (fun h1 h2 h3 h4 h5 h6 => ⟨rfl, rfl, rfl⟩) (fun h1 h2 h3 h4 h5 => ⟨rfl, rfl, rfl⟩) (fun h1 h2 h3 h4 => ⟨rfl, rfl, rfl⟩) (fun h1 h2 h3 => ⟨rfl, rfl, rfl⟩) (fun h1 h2 => ⟨rfl, rfl, rfl⟩) (fun h1 => False.elim (by first | exact absurd h1 ((show (¬ (3 : Int32) < (1 : Int32) ∧ ¬ (5 : Int32) < (3 : Int32)) from by decide)) | exact absurd ((show (¬ (3 : Int32) < (1 : Int32) ∧ ¬ (5 : Int32) < (3 : Int32)) from by decide)) h1 | exact (Int32.not_lt.mpr h1) ((show (¬ (3 : Int32) < (1 : Int32) ∧ ¬ (5 : Int32) < (3 : Int32)) from by decide)) | exact (Int32.not_lt.mpr ((show (¬ (3 : Int32) < (1 : Int32) ∧ ¬ (5 : Int32) < (3 : Int32)) from by decide))) h1 | exact h1 (Int32.not_le.mp ((show (¬ (3 : Int32) < (1 : Int32) ∧ ¬ (5 : Int32) < (3 : Int32)) from by decide))) | exact ((show (¬ (3 : Int32) < (1 : Int32) ∧ ¬ (5 : Int32) < (3 : Int32)) from by decide)) (Int32.not_le.mp h1) | omega))))
    · exact s62n4 hR hz hz9 lD1 (fun h1 h2 h3 h4 h5 h6 => absurd ⟨h1, h2, h3, h4, h5⟩ hb) (fun h1 h2 h3 h4 h5 h6 => absurd ⟨h1, h2, h3, h4, h5⟩ hb) (fun h1 h2 h3 h4 h5 => pend_same hT (s208n4 hz2 hz9 lD2 (fun h1 h2 h3 h4 h5 h6 h7 => absurd ⟨h2, h3, h4, h5, h6⟩ hb) (fun h1 h2 h3 h4 h5 h6 h7 => absurd ⟨h2, h3, h4, h5, h6⟩ hb) (fun h1 h2 h3 h4 h5 h6 => ⟨rfl, rfl, rfl⟩) (fun h1 h2 h3 h4 h5 => ⟨rfl, rfl, rfl⟩) (fun h1 h2 h3 h4 => ⟨rfl, rfl, rfl⟩) (fun h1 h2 h3 => ⟨rfl, rfl, rfl⟩) (fun h1 h2 => ⟨rfl, rfl, rfl⟩) (fun h1 => False.elim (by first | exact absurd h1 ((show (¬ (4 : Int32) < (1 : Int32) ∧ ¬ (5 : Int32) < (4 : Int32)) from by decide)) | exact absurd ((show (¬ (4 : Int32) < (1 : Int32) ∧ ¬ (5 : Int32) < (4 : Int32)) from by decide)) h1 | exact (Int32.not_lt.mpr h1) ((show (¬ (4 : Int32) < (1 : Int32) ∧ ¬ (5 : Int32) < (4 : Int32)) from by decide)) | exact (Int32.not_lt.mpr ((show (¬ (4 : Int32) < (1 : Int32) ∧ ¬ (5 : Int32) < (4 : Int32)) from by decide))) h1 | exact h1 (Int32.not_le.mp ((show (¬ (4 : Int32) < (1 : Int32) ∧ ¬ (5 : Int32) < (4 : Int32)) from by decide))) | exact ((show (¬ (4 : Int32) < (1 : Int32) ∧ ¬ (5 : Int32) < (4 : Int32)) from by decide)) (Int32.not_le.mp h1) | omega)))) (fun h1 h2 h3 h4 => pend_same hT (s208n4 hz2 hz9 lD2 (fun h1 h2 h3 h4 h5 h6 h7 => absurd ⟨h2, h3, h4, h5, h6⟩ hb) (fun h1 h2 h3 h4 h5 h6 h7 => absurd ⟨h2, h3, h4, h5, h6⟩ hb) (fun h1 h2 h3 h4 h5 h6 => ⟨rfl, rfl, rfl⟩) (fun h1 h2 h3 h4 h5 => ⟨rfl, rfl, rfl⟩) (fun h1 h2 h3 h4 => ⟨rfl, rfl, rfl⟩) (fun h1 h2 h3 => ⟨rfl, rfl, rfl⟩) (fun h1 h2 => ⟨rfl, rfl, rfl⟩) (fun h1 => False.elim (by first | exact absurd h1 ((show (¬ (4 : Int32) < (1 : Int32) ∧ ¬ (5 : Int32) < (4 : Int32)) from by decide)) | exact absurd ((show (¬ (4 : Int32) < (1 : Int32) ∧ ¬ (5 : Int32) < (4 : Int32)) from by decide)) h1 | exact (Int32.not_lt.mpr h1) ((show (¬ (4 : Int32) < (1 : Int32) ∧ ¬ (5 : Int32) < (4 : Int32)) from by decide)) | exact (Int32.not_lt.mpr ((show (¬ (4 : Int32) < (1 : Int32) ∧ ¬ (5 : Int32) < (4 : Int32)) from by decide))) h1 | exact h1 (Int32.not_le.mp ((show (¬ (4 : Int32) < (1 : Int32) ∧ ¬ (5 : Int32) < (4 : Int32)) from by decide))) | exact ((show (¬ (4 : Int32) < (1 : Int32) ∧ ¬ (5 : Int32) < (4 : Int32)) from by decide)) (Int32.not_le.mp h1) | omega)))) (fun h1 h2 h3 => pend_same hT (s208n4 hz2 hz9 lD2 (fun h1 h2 h3 h4 h5 h6 h7 => absurd ⟨h2, h3, h4, h5, h6⟩ hb) (fun h1 h2 h3 h4 h5 h6 h7 => absurd ⟨h2, h3, h4, h5, h6⟩ hb) (fun h1 h2 h3 h4 h5 h6 => ⟨rfl, rfl, rfl⟩) (fun h1 h2 h3 h4 h5 => ⟨rfl, rfl, rfl⟩) (fun h1 h2 h3 h4 => ⟨rfl, rfl, rfl⟩) (fun h1 h2 h3 => ⟨rfl, rfl, rfl⟩) (fun h1 h2 => ⟨rfl, rfl, rfl⟩) (fun h1 => False.elim (by first | exact absurd h1 ((show (¬ (4 : Int32) < (1 : Int32) ∧ ¬ (5 : Int32) < (4 : Int32)) from by decide)) | exact absurd ((show (¬ (4 : Int32) < (1 : Int32) ∧ ¬ (5 : Int32) < (4 : Int32)) from by decide)) h1 | exact (Int32.not_lt.mpr h1) ((show (¬ (4 : Int32) < (1 : Int32) ∧ ¬ (5 : Int32) < (4 : Int32)) from by decide)) | exact (Int32.not_lt.mpr ((show (¬ (4 : Int32) < (1 : Int32) ∧ ¬ (5 : Int32) < (4 : Int32)) from by decide))) h1 | exact h1 (Int32.not_le.mp ((show (¬ (4 : Int32) < (1 : Int32) ∧ ¬ (5 : Int32) < (4 : Int32)) from by decide))) | exact ((show (¬ (4 : Int32) < (1 : Int32) ∧ ¬ (5 : Int32) < (4 : Int32)) from by decide)) (Int32.not_le.mp h1) | omega)))) (fun h1 h2 => pend_same hT (s208n4 hz2 hz9 lD2 (fun h1 h2 h3 h4 h5 h6 h7 => absurd ⟨h2, h3, h4, h5, h6⟩ hb) (fun h1 h2 h3 h4 h5 h6 h7 => absurd ⟨h2, h3, h4, h5, h6⟩ hb) (fun h1 h2 h3 h4 h5 h6 => ⟨rfl, rfl, rfl⟩) (fun h1 h2 h3 h4 h5 => ⟨rfl, rfl, rfl⟩) (fun h1 h2 h3 h4 => ⟨rfl, rfl, rfl⟩) (fun h1 h2 h3 => ⟨rfl, rfl, rfl⟩) (fun h1 h2 => ⟨rfl, rfl, rfl⟩) (fun h1 => False.elim (by first | exact absurd h1 ((show (¬ (4 : Int32) < (1 : Int32) ∧ ¬ (5 : Int32) < (4 : Int32)) from by decide)) | exact absurd ((show (¬ (4 : Int32) < (1 : Int32) ∧ ¬ (5 : Int32) < (4 : Int32)) from by decide)) h1 | exact (Int32.not_lt.mpr h1) ((show (¬ (4 : Int32) < (1 : Int32) ∧ ¬ (5 : Int32) < (4 : Int32)) from by decide)) | exact (Int32.not_lt.mpr ((show (¬ (4 : Int32) < (1 : Int32) ∧ ¬ (5 : Int32) < (4 : Int32)) from by decide))) h1 | exact h1 (Int32.not_le.mp ((show (¬ (4 : Int32) < (1 : Int32) ∧ ¬ (5 : Int32) < (4 : Int32)) from by decide))) | exact ((show (¬ (4 : Int32) < (1 : Int32) ∧ ¬ (5 : Int32) < (4 : Int32)) from by decide)) (Int32.not_le.mp h1) | omega)))) (fun h1 => pend_same hT (s208n4 hz2 hz9 lD2 (fun h1 h2 h3 h4 h5 h6 h7 => absurd ⟨h2, h3, h4, h5, h6⟩ hb) (fun h1 h2 h3 h4 h5 h6 h7 => absurd ⟨h2, h3, h4, h5, h6⟩ hb) (fun h1 h2 h3 h4 h5 h6 => ⟨rfl, rfl, rfl⟩) (fun h1 h2 h3 h4 h5 => ⟨rfl, rfl, rfl⟩) (fun h1 h2 h3 h4 => ⟨rfl, rfl, rfl⟩) (fun h1 h2 h3 => ⟨rfl, rfl, rfl⟩) (fun h1 h2 => ⟨rfl, rfl, rfl⟩) (fun h1 => False.elim (by first | exact absurd h1 ((show (¬ (4 : Int32) < (1 : Int32) ∧ ¬ (5 : Int32) < (4 : Int32)) from by decide)) | exact absurd ((show (¬ (4 : Int32) < (1 : Int32) ∧ ¬ (5 : Int32) < (4 : Int32)) from by decide)) h1 | exact (Int32.not_lt.mpr h1) ((show (¬ (4 : Int32) < (1 : Int32) ∧ ¬ (5 : Int32) < (4 : Int32)) from by decide)) | exact (Int32.not_lt.mpr ((show (¬ (4 : Int32) < (1 : Int32) ∧ ¬ (5 : Int32) < (4 : Int32)) from by decide))) h1 | exact h1 (Int32.not_le.mp ((show (¬ (4 : Int32) < (1 : Int32) ∧ ¬ (5 : Int32) < (4 : Int32)) from by decide))) | exact ((show (¬ (4 : Int32) < (1 : Int32) ∧ ¬ (5 : Int32) < (4 : Int32)) from by decide)) (Int32.not_le.mp h1) | omega))))
    · exact s62n5 hR hz hz9 lD1 (fun h1 h2 h3 h4 h5 h6 => absurd ⟨h1, h2, h3, h4, h5⟩ hb) (fun h1 h2 h3 h4 h5 h6 => absurd ⟨h1, h2, h3, h4, h5⟩ hb) (fun h1 h2 h3 h4 h5 => pend_same hT (s208n5 hz2 hz9 lD2 (fun h1 h2 h3 h4 h5 h6 h7 => absurd ⟨h2, h3, h4, h5, h6⟩ hb) (fun h1 h2 h3 h4 h5 h6 h7 => absurd ⟨h2, h3, h4, h5, h6⟩ hb) (fun h1 h2 h3 h4 h5 h6 => ⟨rfl, rfl, rfl⟩) (fun h1 h2 h3 h4 h5 => ⟨rfl, rfl, rfl⟩) (fun h1 h2 h3 h4 => ⟨rfl, rfl, rfl⟩) (fun h1 h2 h3 => ⟨rfl, rfl, rfl⟩) (fun h1 h2 => ⟨rfl, rfl, rfl⟩) (fun h1 => False.elim (by first | exact absurd h1 ((show (¬ (5 : Int32) < (1 : Int32) ∧ ¬ (5 : Int32) < (5 : Int32)) from by decide)) | exact absurd ((show (¬ (5 : Int32) < (1 : Int32) ∧ ¬ (5 : Int32) < (5 : Int32)) from by decide)) h1 | exact (Int32.not_lt.mpr h1) ((show (¬ (5 : Int32) < (1 : Int32) ∧ ¬ (5 : Int32) < (5 : Int32)) from by decide)) | exact (Int32.not_lt.mpr ((show (¬ (5 : Int32) < (1 : Int32) ∧ ¬ (5 : Int32) < (5 : Int32)) from by decide))) h1 | exact h1 (Int32.not_le.mp ((show (¬ (5 : Int32) < (1 : Int32) ∧ ¬ (5 : Int32) < (5 : Int32)) from by decide))) | exact ((show (¬ (5 : Int32) < (1 : Int32) ∧ ¬ (5 : Int32) < (5 : Int32)) from by decide)) (Int32.not_le.mp h1) | omega)))) (fun h1 h2 h3 h4 => pend_same hT (s208n5 hz2 hz9 lD2 (fun h1 h2 h3 h4 h5 h6 h7 => absurd ⟨h2, h3, h4, h5, h6⟩ hb) (fun h1 h2 h3 h4 h5 h6 h7 => absurd ⟨h2, h3, h4, h5, h6⟩ hb) (fun h1 h2 h3 h4 h5 h6 => ⟨rfl, rfl, rfl⟩) (fun h1 h2 h3 h4 h5 => ⟨rfl, rfl, rfl⟩) (fun h1 h2 h3 h4 => ⟨rfl, rfl, rfl⟩) (fun h1 h2 h3 => ⟨rfl, rfl, rfl⟩) (fun h1 h2 => ⟨rfl, rfl, rfl⟩) (fun h1 => False.elim (by first | exact absurd h1 ((show (¬ (5 : Int32) < (1 : Int32) ∧ ¬ (5 : Int32) < (5 : Int32)) from by decide)) | exact absurd ((show (¬ (5 : Int32) < (1 : Int32) ∧ ¬ (5 : Int32) < (5 : Int32)) from by decide)) h1 | exact (Int32.not_lt.mpr h1) ((show (¬ (5 : Int32) < (1 : Int32) ∧ ¬ (5 : Int32) < (5 : Int32)) from by decide)) | exact (Int32.not_lt.mpr ((show (¬ (5 : Int32) < (1 : Int32) ∧ ¬ (5 : Int32) < (5 : Int32)) from by decide))) h1 | exact h1 (Int32.not_le.mp ((show (¬ (5 : Int32) < (1 : Int32) ∧ ¬ (5 : Int32) < (5 : Int32)) from by decide))) | exact ((show (¬ (5 : Int32) < (1 : Int32) ∧ ¬ (5 : Int32) < (5 : Int32)) from by decide)) (Int32.not_le.mp h1) | omega)))) (fun h1 h2 h3 => pend_same hT (s208n5 hz2 hz9 lD2 (fun h1 h2 h3 h4 h5 h6 h7 => absurd ⟨h2, h3, h4, h5, h6⟩ hb) (fun h1 h2 h3 h4 h5 h6 h7 => absurd ⟨h2, h3, h4, h5, h6⟩ hb) (fun h1 h2 h3 h4 h5 h6 => ⟨rfl, rfl, rfl⟩) (fun h1 h2 h3 h4 h5 => ⟨rfl, rfl, rfl⟩) (fun h1 h2 h3 h4 => ⟨rfl, rfl, rfl⟩) (fun h1 h2 h3 => ⟨rfl, rfl, rfl⟩) (fun h1 h2 => ⟨rfl, rfl, rfl⟩) (fun h1 => False.elim (by first | exact absurd h1 ((show (¬ (5 : Int32) < (1 : Int32) ∧ ¬ (5 : Int32) < (5 : Int32)) from by decide)) | exact absurd ((show (¬ (5 : Int32) < (1 : Int32) ∧ ¬ (5 : Int32) < (5 : Int32)) from by decide)) h1 | exact (Int32.not_lt.mpr h1) ((show (¬ (5 : Int32) < (1 : Int32) ∧ ¬ (5 : Int32) < (5 : Int32)) from by decide)) | exact (Int32.not_lt.mpr ((show (¬ (5 : Int32) < (1 : Int32) ∧ ¬ (5 : Int32) < (5 : Int32)) from by decide))) h1 | exact h1 (Int32.not_le.mp ((show (¬ (5 : Int32) < (1 : Int32) ∧ ¬ (5 : Int32) < (5 : Int32)) from by decide))) | exact ((show (¬ (5 : Int32) < (1 : Int32) ∧ ¬ (5 : Int32) < (5 : Int32)) from by decide)) (Int32.not_le.mp h1) | omega)))) (fun h1 h2 => pend_same hT (s208n5 hz2 hz9 lD2 (fun h1 h2 h3 h4 h5 h6 h7 => absurd ⟨h2, h3, h4, h5, h6⟩ hb) (fun h1 h2 h3 h4 h5 h6 h7 => absurd ⟨h2, h3, h4, h5, h6⟩ hb) (fun h1 h2 h3 h4 h5 h6 => ⟨rfl, rfl, rfl⟩) (fun h1 h2 h3 h4 h5 => ⟨rfl, rfl, rfl⟩) (fun h1 h2 h3 h4 => ⟨rfl, rfl, rfl⟩) (fun h1 h2 h3 => ⟨rfl, rfl, rfl⟩) (fun h1 h2 => ⟨rfl, rfl, rfl⟩) (fun h1 => False.elim (by first | exact absurd h1 ((show (¬ (5 : Int32) < (1 : Int32) ∧ ¬ (5 : Int32) < (5 : Int32)) from by decide)) | exact absurd ((show (¬ (5 : Int32) < (1 : Int32) ∧ ¬ (5 : Int32) < (5 : Int32)) from by decide)) h1 | exact (Int32.not_lt.mpr h1) ((show (¬ (5 : Int32) < (1 : Int32) ∧ ¬ (5 : Int32) < (5 : Int32)) from by decide)) | exact (Int32.not_lt.mpr ((show (¬ (5 : Int32) < (1 : Int32) ∧ ¬ (5 : Int32) < (5 : Int32)) from by decide))) h1 | exact h1 (Int32.not_le.mp ((show (¬ (5 : Int32) < (1 : Int32) ∧ ¬ (5 : Int32) < (5 : Int32)) from by decide))) | exact ((show (¬ (5 : Int32) < (1 : Int32) ∧ ¬ (5 : Int32) < (5 : Int32)) from by decide)) (Int32.not_le.mp h1) | omega)))) (fun h1 => pend_same hT (s208n5 hz2 hz9 lD2 (fun h1 h2 h3 h4 h5 h6 h7 => absurd ⟨h2, h3, h4, h5, h6⟩ hb) (fun h1 h2 h3 h4 h5 h6 h7 => absurd ⟨h2, h3, h4, h5, h6⟩ hb) (fun h1 h2 h3 h4 h5 h6 => ⟨rfl, rfl, rfl⟩) (fun h1 h2 h3 h4 h5 => ⟨rfl, rfl, rfl⟩) (fun h1 h2 h3 h4 => ⟨rfl, rfl, rfl⟩) (fun h1 h2 h3 => ⟨rfl, rfl, rfl⟩) (fun h1 h2 => ⟨rfl, rfl, rfl⟩) (fun h1 => False.elim (by first | exact absurd h1 ((show (¬ (5 : Int32) < (1 : Int32) ∧ ¬ (5 : Int32) < (5 : Int32)) from by decide)) | exact absurd ((show (¬ (5 : Int32) < (1 : Int32) ∧ ¬ (5 : Int32) < (5 : Int32)) from by decide)) h1 | exact (Int32.not_lt.mpr h1) ((show (¬ (5 : Int32) < (1 : Int32) ∧ ¬ (5 : Int32) < (5 : Int32)) from by decide)) | exact (Int32.not_lt.mpr ((show (¬ (5 : Int32) < (1 : Int32) ∧ ¬ (5 : Int32) < (5 : Int32)) from by decide))) h1 | exact h1 (Int32.not_le.mp ((show (¬ (5 : Int32) < (1 : Int32) ∧ ¬ (5 : Int32) < (5 : Int32)) from by decide))) | exact ((show (¬ (5 : Int32) < (1 : Int32) ∧ ¬ (5 : Int32) < (5 : Int32)) from by decide)) (Int32.not_le.mp h1) | omega))))
  obtain ⟨pa, pb, pc, pe, pf⟩ := hb
  rcases i_15 hn hn5 with rfl | rfl | rfl | rfl | rfl
  · by_cases hf : (z + 1) ≤ 96
    · have fin : PEnd 208 [.int 1, .int a, .int b, .int c, .int e, .int f] (fun σ2 => tapeR σ2 ∧ same tapeP σ σ2 ∧ (∀ f, f ≠ 1 → σ2.1 97 f = σ.1 97 f) ∧ (∀ f, f ≠ 34 → σ2.1 260 f = σ.1 260 f) ∧ σ2.2 = σ.2) (some (.int (nI (z + 1)))) w1 ((j_u (j_u σ.1 97 1 (nI (z + 1))) 98 z a), σ.2.1, RR σ.2.2) := by
        refine pend_to (I2 := (j_u (j_u (j_u (j_u σ.1 97 1 (nI (z + 1))) 98 z a) 422 (z + 0) a) 260 34 (nI (z + 1)))) (D2 := σ.2.1) (R2 := σ.2.2) ⟨⟨z + 1, hf, ?_, ?_, fun k hk' => ?_⟩, fun o ho => ?_, fun f hf => ?_, fun f hf => ?_, rfl⟩ (s208n1 (by simp (disch := omega) only [j_u_o]; exact hz2) hz9 lD2 (fun h1 h2 h3 h4 h5 h6 h7 => ⟨rfl, rfl, rfl⟩) (fun h1 h2 h3 h4 h5 h6 h7 => False.elim (by first | exact absurd h7 hf | exact absurd hf h7 | exact (Int32.not_lt.mpr h7) hf | exact (Int32.not_lt.mpr hf) h7 | exact h7 (Int32.not_le.mp hf) | exact hf (Int32.not_le.mp h7) | omega)) (fun h1 h2 h3 h4 h5 h6 => False.elim (by first | exact absurd h6 pf | exact absurd pf h6 | exact (Int32.not_lt.mpr h6) pf | exact (Int32.not_lt.mpr pf) h6 | exact h6 (Int32.not_le.mp pf) | exact pf (Int32.not_le.mp h6) | omega)) (fun h1 h2 h3 h4 h5 => False.elim (by first | exact absurd h5 pe | exact absurd pe h5 | exact (Int32.not_lt.mpr h5) pe | exact (Int32.not_lt.mpr pe) h5 | exact h5 (Int32.not_le.mp pe) | exact pe (Int32.not_le.mp h5) | omega)) (fun h1 h2 h3 h4 => False.elim (by first | exact absurd h4 pc | exact absurd pc h4 | exact (Int32.not_lt.mpr h4) pc | exact (Int32.not_lt.mpr pc) h4 | exact h4 (Int32.not_le.mp pc) | exact pc (Int32.not_le.mp h4) | omega)) (fun h1 h2 h3 => False.elim (by first | exact absurd h3 pb | exact absurd pb h3 | exact (Int32.not_lt.mpr h3) pb | exact (Int32.not_lt.mpr pb) h3 | exact h3 (Int32.not_le.mp pb) | exact pb (Int32.not_le.mp h3) | omega)) (fun h1 h2 => False.elim (by first | exact absurd h2 pa | exact absurd pa h2 | exact (Int32.not_lt.mpr h2) pa | exact (Int32.not_lt.mpr pa) h2 | exact h2 (Int32.not_le.mp pa) | exact pa (Int32.not_le.mp h2) | omega)) (fun h1 => False.elim (by first | exact absurd h1 ((show (¬ (1 : Int32) < (1 : Int32) ∧ ¬ (5 : Int32) < (1 : Int32)) from by decide)) | exact absurd ((show (¬ (1 : Int32) < (1 : Int32) ∧ ¬ (5 : Int32) < (1 : Int32)) from by decide)) h1 | exact (Int32.not_lt.mpr h1) ((show (¬ (1 : Int32) < (1 : Int32) ∧ ¬ (5 : Int32) < (1 : Int32)) from by decide)) | exact (Int32.not_lt.mpr ((show (¬ (1 : Int32) < (1 : Int32) ∧ ¬ (5 : Int32) < (1 : Int32)) from by decide))) h1 | exact h1 (Int32.not_le.mp ((show (¬ (1 : Int32) < (1 : Int32) ∧ ¬ (5 : Int32) < (1 : Int32)) from by decide))) | exact ((show (¬ (1 : Int32) < (1 : Int32) ∧ ¬ (5 : Int32) < (1 : Int32)) from by decide)) (Int32.not_le.mp h1) | omega)))
        · simp (disch := omega) only [j_u_o, j_u_same, j_u_k]
        · simp (disch := omega) only [j_u_o, j_u_same, j_u_k]
        · by_cases hkz : k < z
          · simp (disch := omega) only [j_u_o, j_u_same, j_u_k]
            exact hk k hkz
          · rcases (show k = z by omega) with rfl
            · simp (disch := omega) only [j_u_o, j_u_same, j_u_k, Nat.add_zero]
              exact ⟨trivial, i_byte pa⟩
        · have o1 : o ≠ 97 := fun q => ho (Or.inl q)
          have o2 : o ≠ 98 := fun q => ho (Or.inr (Or.inl q))
          have o3 : o ≠ 260 := fun q => ho (Or.inr (Or.inr (Or.inl q)))
          have o4 : o ≠ 422 := fun q => ho (Or.inr (Or.inr (Or.inr q)))
          exact ⟨funext fun k => by simp (disch := omega) only [j_u_o], rfl, rfl⟩
        · simp (disch := omega) only [j_u_o, j_u_k]
        · simp (disch := omega) only [j_u_o, j_u_k]
      exact s62n1 hR hz hz9 lD1 (fun h1 h2 h3 h4 h5 h6 => fin) (fun h1 h2 h3 h4 h5 h6 => False.elim (by first | exact absurd h6 hf | exact absurd hf h6 | exact (Int32.not_lt.mpr h6) hf | exact (Int32.not_lt.mpr hf) h6 | exact h6 (Int32.not_le.mp hf) | exact hf (Int32.not_le.mp h6) | omega)) (fun h1 h2 h3 h4 h5 => False.elim (by first | exact absurd h5 pf | exact absurd pf h5 | exact (Int32.not_lt.mpr h5) pf | exact (Int32.not_lt.mpr pf) h5 | exact h5 (Int32.not_le.mp pf) | exact pf (Int32.not_le.mp h5) | omega)) (fun h1 h2 h3 h4 => False.elim (by first | exact absurd h4 pe | exact absurd pe h4 | exact (Int32.not_lt.mpr h4) pe | exact (Int32.not_lt.mpr pe) h4 | exact h4 (Int32.not_le.mp pe) | exact pe (Int32.not_le.mp h4) | omega)) (fun h1 h2 h3 => False.elim (by first | exact absurd h3 pc | exact absurd pc h3 | exact (Int32.not_lt.mpr h3) pc | exact (Int32.not_lt.mpr pc) h3 | exact h3 (Int32.not_le.mp pc) | exact pc (Int32.not_le.mp h3) | omega)) (fun h1 h2 => False.elim (by first | exact absurd h2 pb | exact absurd pb h2 | exact (Int32.not_lt.mpr h2) pb | exact (Int32.not_lt.mpr pb) h2 | exact h2 (Int32.not_le.mp pb) | exact pb (Int32.not_le.mp h2) | omega)) (fun h1 => False.elim (by first | exact absurd h1 pa | exact absurd pa h1 | exact (Int32.not_lt.mpr h1) pa | exact (Int32.not_lt.mpr pa) h1 | exact h1 (Int32.not_le.mp pa) | exact pa (Int32.not_le.mp h1) | omega))
    · exact s62n1 hR hz hz9 lD1 (fun h1 h2 h3 h4 h5 h6 => False.elim (by first | exact absurd h6 hf | exact absurd hf h6 | exact (Int32.not_lt.mpr h6) hf | exact (Int32.not_lt.mpr hf) h6 | exact h6 (Int32.not_le.mp hf) | exact hf (Int32.not_le.mp h6) | omega)) (fun h1 h2 h3 h4 h5 h6 => pend_same hT (s208n1 hz2 hz9 lD2 (fun h1 h2 h3 h4 h5 h6 h7 => False.elim (by first | exact absurd h7 hf | exact absurd hf h7 | exact (Int32.not_lt.mpr h7) hf | exact (Int32.not_lt.mpr hf) h7 | exact h7 (Int32.not_le.mp hf) | exact hf (Int32.not_le.mp h7) | omega)) (fun h1 h2 h3 h4 h5 h6 h7 => ⟨rfl, rfl, rfl⟩) (fun h1 h2 h3 h4 h5 h6 => False.elim (by first | exact absurd h6 pf | exact absurd pf h6 | exact (Int32.not_lt.mpr h6) pf | exact (Int32.not_lt.mpr pf) h6 | exact h6 (Int32.not_le.mp pf) | exact pf (Int32.not_le.mp h6) | omega)) (fun h1 h2 h3 h4 h5 => False.elim (by first | exact absurd h5 pe | exact absurd pe h5 | exact (Int32.not_lt.mpr h5) pe | exact (Int32.not_lt.mpr pe) h5 | exact h5 (Int32.not_le.mp pe) | exact pe (Int32.not_le.mp h5) | omega)) (fun h1 h2 h3 h4 => False.elim (by first | exact absurd h4 pc | exact absurd pc h4 | exact (Int32.not_lt.mpr h4) pc | exact (Int32.not_lt.mpr pc) h4 | exact h4 (Int32.not_le.mp pc) | exact pc (Int32.not_le.mp h4) | omega)) (fun h1 h2 h3 => False.elim (by first | exact absurd h3 pb | exact absurd pb h3 | exact (Int32.not_lt.mpr h3) pb | exact (Int32.not_lt.mpr pb) h3 | exact h3 (Int32.not_le.mp pb) | exact pb (Int32.not_le.mp h3) | omega)) (fun h1 h2 => False.elim (by first | exact absurd h2 pa | exact absurd pa h2 | exact (Int32.not_lt.mpr h2) pa | exact (Int32.not_lt.mpr pa) h2 | exact h2 (Int32.not_le.mp pa) | exact pa (Int32.not_le.mp h2) | omega)) (fun h1 => False.elim (by first | exact absurd h1 ((show (¬ (1 : Int32) < (1 : Int32) ∧ ¬ (5 : Int32) < (1 : Int32)) from by decide)) | exact absurd ((show (¬ (1 : Int32) < (1 : Int32) ∧ ¬ (5 : Int32) < (1 : Int32)) from by decide)) h1 | exact (Int32.not_lt.mpr h1) ((show (¬ (1 : Int32) < (1 : Int32) ∧ ¬ (5 : Int32) < (1 : Int32)) from by decide)) | exact (Int32.not_lt.mpr ((show (¬ (1 : Int32) < (1 : Int32) ∧ ¬ (5 : Int32) < (1 : Int32)) from by decide))) h1 | exact h1 (Int32.not_le.mp ((show (¬ (1 : Int32) < (1 : Int32) ∧ ¬ (5 : Int32) < (1 : Int32)) from by decide))) | exact ((show (¬ (1 : Int32) < (1 : Int32) ∧ ¬ (5 : Int32) < (1 : Int32)) from by decide)) (Int32.not_le.mp h1) | omega)))) (fun h1 h2 h3 h4 h5 => False.elim (by first | exact absurd h5 pf | exact absurd pf h5 | exact (Int32.not_lt.mpr h5) pf | exact (Int32.not_lt.mpr pf) h5 | exact h5 (Int32.not_le.mp pf) | exact pf (Int32.not_le.mp h5) | omega)) (fun h1 h2 h3 h4 => False.elim (by first | exact absurd h4 pe | exact absurd pe h4 | exact (Int32.not_lt.mpr h4) pe | exact (Int32.not_lt.mpr pe) h4 | exact h4 (Int32.not_le.mp pe) | exact pe (Int32.not_le.mp h4) | omega)) (fun h1 h2 h3 => False.elim (by first | exact absurd h3 pc | exact absurd pc h3 | exact (Int32.not_lt.mpr h3) pc | exact (Int32.not_lt.mpr pc) h3 | exact h3 (Int32.not_le.mp pc) | exact pc (Int32.not_le.mp h3) | omega)) (fun h1 h2 => False.elim (by first | exact absurd h2 pb | exact absurd pb h2 | exact (Int32.not_lt.mpr h2) pb | exact (Int32.not_lt.mpr pb) h2 | exact h2 (Int32.not_le.mp pb) | exact pb (Int32.not_le.mp h2) | omega)) (fun h1 => False.elim (by first | exact absurd h1 pa | exact absurd pa h1 | exact (Int32.not_lt.mpr h1) pa | exact (Int32.not_lt.mpr pa) h1 | exact h1 (Int32.not_le.mp pa) | exact pa (Int32.not_le.mp h1) | omega))
  · by_cases hf : (z + 2) ≤ 96
    · have fin : PEnd 208 [.int 2, .int a, .int b, .int c, .int e, .int f] (fun σ2 => tapeR σ2 ∧ same tapeP σ σ2 ∧ (∀ f, f ≠ 1 → σ2.1 97 f = σ.1 97 f) ∧ (∀ f, f ≠ 34 → σ2.1 260 f = σ.1 260 f) ∧ σ2.2 = σ.2) (some (.int (nI (z + 2)))) w1 ((j_u (j_u (j_u (j_u σ.1 97 1 (nI (z + 1))) 98 z a) 97 1 (nI (z + 2))) 98 (z + 1) b), σ.2.1, RR σ.2.2) := by
        refine pend_to (I2 := (j_u (j_u (j_u (j_u (j_u (j_u (j_u σ.1 97 1 (nI (z + 1))) 98 z a) 97 1 (nI (z + 2))) 98 (z + 1) b) 422 (z + 0) a) 422 (z + 1) b) 260 34 (nI (z + 2)))) (D2 := σ.2.1) (R2 := σ.2.2) ⟨⟨z + 2, hf, ?_, ?_, fun k hk' => ?_⟩, fun o ho => ?_, fun f hf => ?_, fun f hf => ?_, rfl⟩ (s208n2 (by simp (disch := omega) only [j_u_o]; exact hz2) hz9 lD2 (fun h1 h2 h3 h4 h5 h6 h7 => ⟨rfl, rfl, rfl⟩) (fun h1 h2 h3 h4 h5 h6 h7 => False.elim (by first | exact absurd h7 hf | exact absurd hf h7 | exact (Int32.not_lt.mpr h7) hf | exact (Int32.not_lt.mpr hf) h7 | exact h7 (Int32.not_le.mp hf) | exact hf (Int32.not_le.mp h7) | omega)) (fun h1 h2 h3 h4 h5 h6 => False.elim (by first | exact absurd h6 pf | exact absurd pf h6 | exact (Int32.not_lt.mpr h6) pf | exact (Int32.not_lt.mpr pf) h6 | exact h6 (Int32.not_le.mp pf) | exact pf (Int32.not_le.mp h6) | omega)) (fun h1 h2 h3 h4 h5 => False.elim (by first | exact absurd h5 pe | exact absurd pe h5 | exact (Int32.not_lt.mpr h5) pe | exact (Int32.not_lt.mpr pe) h5 | exact h5 (Int32.not_le.mp pe) | exact pe (Int32.not_le.mp h5) | omega)) (fun h1 h2 h3 h4 => False.elim (by first | exact absurd h4 pc | exact absurd pc h4 | exact (Int32.not_lt.mpr h4) pc | exact (Int32.not_lt.mpr pc) h4 | exact h4 (Int32.not_le.mp pc) | exact pc (Int32.not_le.mp h4) | omega)) (fun h1 h2 h3 => False.elim (by first | exact absurd h3 pb | exact absurd pb h3 | exact (Int32.not_lt.mpr h3) pb | exact (Int32.not_lt.mpr pb) h3 | exact h3 (Int32.not_le.mp pb) | exact pb (Int32.not_le.mp h3) | omega)) (fun h1 h2 => False.elim (by first | exact absurd h2 pa | exact absurd pa h2 | exact (Int32.not_lt.mpr h2) pa | exact (Int32.not_lt.mpr pa) h2 | exact h2 (Int32.not_le.mp pa) | exact pa (Int32.not_le.mp h2) | omega)) (fun h1 => False.elim (by first | exact absurd h1 ((show (¬ (2 : Int32) < (1 : Int32) ∧ ¬ (5 : Int32) < (2 : Int32)) from by decide)) | exact absurd ((show (¬ (2 : Int32) < (1 : Int32) ∧ ¬ (5 : Int32) < (2 : Int32)) from by decide)) h1 | exact (Int32.not_lt.mpr h1) ((show (¬ (2 : Int32) < (1 : Int32) ∧ ¬ (5 : Int32) < (2 : Int32)) from by decide)) | exact (Int32.not_lt.mpr ((show (¬ (2 : Int32) < (1 : Int32) ∧ ¬ (5 : Int32) < (2 : Int32)) from by decide))) h1 | exact h1 (Int32.not_le.mp ((show (¬ (2 : Int32) < (1 : Int32) ∧ ¬ (5 : Int32) < (2 : Int32)) from by decide))) | exact ((show (¬ (2 : Int32) < (1 : Int32) ∧ ¬ (5 : Int32) < (2 : Int32)) from by decide)) (Int32.not_le.mp h1) | omega)))
        · simp (disch := omega) only [j_u_o, j_u_same, j_u_k]
        · simp (disch := omega) only [j_u_o, j_u_same, j_u_k]
        · by_cases hkz : k < z
          · simp (disch := omega) only [j_u_o, j_u_same, j_u_k]
            exact hk k hkz
          · rcases (show k = z ∨ k = z + 1 by omega) with rfl | rfl
            · simp (disch := omega) only [j_u_o, j_u_same, j_u_k, Nat.add_zero]
              exact ⟨trivial, i_byte pa⟩
            · simp (disch := omega) only [j_u_o, j_u_same, j_u_k, Nat.add_zero]
              exact ⟨trivial, i_byte pb⟩
        · have o1 : o ≠ 97 := fun q => ho (Or.inl q)
          have o2 : o ≠ 98 := fun q => ho (Or.inr (Or.inl q))
          have o3 : o ≠ 260 := fun q => ho (Or.inr (Or.inr (Or.inl q)))
          have o4 : o ≠ 422 := fun q => ho (Or.inr (Or.inr (Or.inr q)))
          exact ⟨funext fun k => by simp (disch := omega) only [j_u_o], rfl, rfl⟩
        · simp (disch := omega) only [j_u_o, j_u_k]
        · simp (disch := omega) only [j_u_o, j_u_k]
      exact s62n2 hR hz hz9 lD1 (fun h1 h2 h3 h4 h5 h6 => fin) (fun h1 h2 h3 h4 h5 h6 => False.elim (by first | exact absurd h6 hf | exact absurd hf h6 | exact (Int32.not_lt.mpr h6) hf | exact (Int32.not_lt.mpr hf) h6 | exact h6 (Int32.not_le.mp hf) | exact hf (Int32.not_le.mp h6) | omega)) (fun h1 h2 h3 h4 h5 => False.elim (by first | exact absurd h5 pf | exact absurd pf h5 | exact (Int32.not_lt.mpr h5) pf | exact (Int32.not_lt.mpr pf) h5 | exact h5 (Int32.not_le.mp pf) | exact pf (Int32.not_le.mp h5) | omega)) (fun h1 h2 h3 h4 => False.elim (by first | exact absurd h4 pe | exact absurd pe h4 | exact (Int32.not_lt.mpr h4) pe | exact (Int32.not_lt.mpr pe) h4 | exact h4 (Int32.not_le.mp pe) | exact pe (Int32.not_le.mp h4) | omega)) (fun h1 h2 h3 => False.elim (by first | exact absurd h3 pc | exact absurd pc h3 | exact (Int32.not_lt.mpr h3) pc | exact (Int32.not_lt.mpr pc) h3 | exact h3 (Int32.not_le.mp pc) | exact pc (Int32.not_le.mp h3) | omega)) (fun h1 h2 => False.elim (by first | exact absurd h2 pb | exact absurd pb h2 | exact (Int32.not_lt.mpr h2) pb | exact (Int32.not_lt.mpr pb) h2 | exact h2 (Int32.not_le.mp pb) | exact pb (Int32.not_le.mp h2) | omega)) (fun h1 => False.elim (by first | exact absurd h1 pa | exact absurd pa h1 | exact (Int32.not_lt.mpr h1) pa | exact (Int32.not_lt.mpr pa) h1 | exact h1 (Int32.not_le.mp pa) | exact pa (Int32.not_le.mp h1) | omega))
    · exact s62n2 hR hz hz9 lD1 (fun h1 h2 h3 h4 h5 h6 => False.elim (by first | exact absurd h6 hf | exact absurd hf h6 | exact (Int32.not_lt.mpr h6) hf | exact (Int32.not_lt.mpr hf) h6 | exact h6 (Int32.not_le.mp hf) | exact hf (Int32.not_le.mp h6) | omega)) (fun h1 h2 h3 h4 h5 h6 => pend_same hT (s208n2 hz2 hz9 lD2 (fun h1 h2 h3 h4 h5 h6 h7 => False.elim (by first | exact absurd h7 hf | exact absurd hf h7 | exact (Int32.not_lt.mpr h7) hf | exact (Int32.not_lt.mpr hf) h7 | exact h7 (Int32.not_le.mp hf) | exact hf (Int32.not_le.mp h7) | omega)) (fun h1 h2 h3 h4 h5 h6 h7 => ⟨rfl, rfl, rfl⟩) (fun h1 h2 h3 h4 h5 h6 => False.elim (by first | exact absurd h6 pf | exact absurd pf h6 | exact (Int32.not_lt.mpr h6) pf | exact (Int32.not_lt.mpr pf) h6 | exact h6 (Int32.not_le.mp pf) | exact pf (Int32.not_le.mp h6) | omega)) (fun h1 h2 h3 h4 h5 => False.elim (by first | exact absurd h5 pe | exact absurd pe h5 | exact (Int32.not_lt.mpr h5) pe | exact (Int32.not_lt.mpr pe) h5 | exact h5 (Int32.not_le.mp pe) | exact pe (Int32.not_le.mp h5) | omega)) (fun h1 h2 h3 h4 => False.elim (by first | exact absurd h4 pc | exact absurd pc h4 | exact (Int32.not_lt.mpr h4) pc | exact (Int32.not_lt.mpr pc) h4 | exact h4 (Int32.not_le.mp pc) | exact pc (Int32.not_le.mp h4) | omega)) (fun h1 h2 h3 => False.elim (by first | exact absurd h3 pb | exact absurd pb h3 | exact (Int32.not_lt.mpr h3) pb | exact (Int32.not_lt.mpr pb) h3 | exact h3 (Int32.not_le.mp pb) | exact pb (Int32.not_le.mp h3) | omega)) (fun h1 h2 => False.elim (by first | exact absurd h2 pa | exact absurd pa h2 | exact (Int32.not_lt.mpr h2) pa | exact (Int32.not_lt.mpr pa) h2 | exact h2 (Int32.not_le.mp pa) | exact pa (Int32.not_le.mp h2) | omega)) (fun h1 => False.elim (by first | exact absurd h1 ((show (¬ (2 : Int32) < (1 : Int32) ∧ ¬ (5 : Int32) < (2 : Int32)) from by decide)) | exact absurd ((show (¬ (2 : Int32) < (1 : Int32) ∧ ¬ (5 : Int32) < (2 : Int32)) from by decide)) h1 | exact (Int32.not_lt.mpr h1) ((show (¬ (2 : Int32) < (1 : Int32) ∧ ¬ (5 : Int32) < (2 : Int32)) from by decide)) | exact (Int32.not_lt.mpr ((show (¬ (2 : Int32) < (1 : Int32) ∧ ¬ (5 : Int32) < (2 : Int32)) from by decide))) h1 | exact h1 (Int32.not_le.mp ((show (¬ (2 : Int32) < (1 : Int32) ∧ ¬ (5 : Int32) < (2 : Int32)) from by decide))) | exact ((show (¬ (2 : Int32) < (1 : Int32) ∧ ¬ (5 : Int32) < (2 : Int32)) from by decide)) (Int32.not_le.mp h1) | omega)))) (fun h1 h2 h3 h4 h5 => False.elim (by first | exact absurd h5 pf | exact absurd pf h5 | exact (Int32.not_lt.mpr h5) pf | exact (Int32.not_lt.mpr pf) h5 | exact h5 (Int32.not_le.mp pf) | exact pf (Int32.not_le.mp h5) | omega)) (fun h1 h2 h3 h4 => False.elim (by first | exact absurd h4 pe | exact absurd pe h4 | exact (Int32.not_lt.mpr h4) pe | exact (Int32.not_lt.mpr pe) h4 | exact h4 (Int32.not_le.mp pe) | exact pe (Int32.not_le.mp h4) | omega)) (fun h1 h2 h3 => False.elim (by first | exact absurd h3 pc | exact absurd pc h3 | exact (Int32.not_lt.mpr h3) pc | exact (Int32.not_lt.mpr pc) h3 | exact h3 (Int32.not_le.mp pc) | exact pc (Int32.not_le.mp h3) | omega)) (fun h1 h2 => False.elim (by first | exact absurd h2 pb | exact absurd pb h2 | exact (Int32.not_lt.mpr h2) pb | exact (Int32.not_lt.mpr pb) h2 | exact h2 (Int32.not_le.mp pb) | exact pb (Int32.not_le.mp h2) | omega)) (fun h1 => False.elim (by first | exact absurd h1 pa | exact absurd pa h1 | exact (Int32.not_lt.mpr h1) pa | exact (Int32.not_lt.mpr pa) h1 | exact h1 (Int32.not_le.mp pa) | exact pa (Int32.not_le.mp h1) | omega))
  · by_cases hf : (z + 3) ≤ 96
    · have fin : PEnd 208 [.int 3, .int a, .int b, .int c, .int e, .int f] (fun σ2 => tapeR σ2 ∧ same tapeP σ σ2 ∧ (∀ f, f ≠ 1 → σ2.1 97 f = σ.1 97 f) ∧ (∀ f, f ≠ 34 → σ2.1 260 f = σ.1 260 f) ∧ σ2.2 = σ.2) (some (.int (nI (z + 3)))) w1 ((j_u (j_u (j_u (j_u (j_u (j_u σ.1 97 1 (nI (z + 1))) 98 z a) 97 1 (nI (z + 2))) 98 (z + 1) b) 97 1 (nI (z + 3))) 98 (z + 2) c), σ.2.1, RR σ.2.2) := by
        refine pend_to (I2 := (j_u (j_u (j_u (j_u (j_u (j_u (j_u (j_u (j_u (j_u σ.1 97 1 (nI (z + 1))) 98 z a) 97 1 (nI (z + 2))) 98 (z + 1) b) 97 1 (nI (z + 3))) 98 (z + 2) c) 422 (z + 0) a) 422 (z + 1) b) 422 (z + 2) c) 260 34 (nI (z + 3)))) (D2 := σ.2.1) (R2 := σ.2.2) ⟨⟨z + 3, hf, ?_, ?_, fun k hk' => ?_⟩, fun o ho => ?_, fun f hf => ?_, fun f hf => ?_, rfl⟩ (s208n3 (by simp (disch := omega) only [j_u_o]; exact hz2) hz9 lD2 (fun h1 h2 h3 h4 h5 h6 h7 => ⟨rfl, rfl, rfl⟩) (fun h1 h2 h3 h4 h5 h6 h7 => False.elim (by first | exact absurd h7 hf | exact absurd hf h7 | exact (Int32.not_lt.mpr h7) hf | exact (Int32.not_lt.mpr hf) h7 | exact h7 (Int32.not_le.mp hf) | exact hf (Int32.not_le.mp h7) | omega)) (fun h1 h2 h3 h4 h5 h6 => False.elim (by first | exact absurd h6 pf | exact absurd pf h6 | exact (Int32.not_lt.mpr h6) pf | exact (Int32.not_lt.mpr pf) h6 | exact h6 (Int32.not_le.mp pf) | exact pf (Int32.not_le.mp h6) | omega)) (fun h1 h2 h3 h4 h5 => False.elim (by first | exact absurd h5 pe | exact absurd pe h5 | exact (Int32.not_lt.mpr h5) pe | exact (Int32.not_lt.mpr pe) h5 | exact h5 (Int32.not_le.mp pe) | exact pe (Int32.not_le.mp h5) | omega)) (fun h1 h2 h3 h4 => False.elim (by first | exact absurd h4 pc | exact absurd pc h4 | exact (Int32.not_lt.mpr h4) pc | exact (Int32.not_lt.mpr pc) h4 | exact h4 (Int32.not_le.mp pc) | exact pc (Int32.not_le.mp h4) | omega)) (fun h1 h2 h3 => False.elim (by first | exact absurd h3 pb | exact absurd pb h3 | exact (Int32.not_lt.mpr h3) pb | exact (Int32.not_lt.mpr pb) h3 | exact h3 (Int32.not_le.mp pb) | exact pb (Int32.not_le.mp h3) | omega)) (fun h1 h2 => False.elim (by first | exact absurd h2 pa | exact absurd pa h2 | exact (Int32.not_lt.mpr h2) pa | exact (Int32.not_lt.mpr pa) h2 | exact h2 (Int32.not_le.mp pa) | exact pa (Int32.not_le.mp h2) | omega)) (fun h1 => False.elim (by first | exact absurd h1 ((show (¬ (3 : Int32) < (1 : Int32) ∧ ¬ (5 : Int32) < (3 : Int32)) from by decide)) | exact absurd ((show (¬ (3 : Int32) < (1 : Int32) ∧ ¬ (5 : Int32) < (3 : Int32)) from by decide)) h1 | exact (Int32.not_lt.mpr h1) ((show (¬ (3 : Int32) < (1 : Int32) ∧ ¬ (5 : Int32) < (3 : Int32)) from by decide)) | exact (Int32.not_lt.mpr ((show (¬ (3 : Int32) < (1 : Int32) ∧ ¬ (5 : Int32) < (3 : Int32)) from by decide))) h1 | exact h1 (Int32.not_le.mp ((show (¬ (3 : Int32) < (1 : Int32) ∧ ¬ (5 : Int32) < (3 : Int32)) from by decide))) | exact ((show (¬ (3 : Int32) < (1 : Int32) ∧ ¬ (5 : Int32) < (3 : Int32)) from by decide)) (Int32.not_le.mp h1) | omega)))
        · simp (disch := omega) only [j_u_o, j_u_same, j_u_k]
        · simp (disch := omega) only [j_u_o, j_u_same, j_u_k]
        · by_cases hkz : k < z
          · simp (disch := omega) only [j_u_o, j_u_same, j_u_k]
            exact hk k hkz
          · rcases (show k = z ∨ k = z + 1 ∨ k = z + 2 by omega) with rfl | rfl | rfl
            · simp (disch := omega) only [j_u_o, j_u_same, j_u_k, Nat.add_zero]
              exact ⟨trivial, i_byte pa⟩
            · simp (disch := omega) only [j_u_o, j_u_same, j_u_k, Nat.add_zero]
              exact ⟨trivial, i_byte pb⟩
            · simp (disch := omega) only [j_u_o, j_u_same, j_u_k, Nat.add_zero]
              exact ⟨trivial, i_byte pc⟩
        · have o1 : o ≠ 97 := fun q => ho (Or.inl q)
          have o2 : o ≠ 98 := fun q => ho (Or.inr (Or.inl q))
          have o3 : o ≠ 260 := fun q => ho (Or.inr (Or.inr (Or.inl q)))
          have o4 : o ≠ 422 := fun q => ho (Or.inr (Or.inr (Or.inr q)))
          exact ⟨funext fun k => by simp (disch := omega) only [j_u_o], rfl, rfl⟩
        · simp (disch := omega) only [j_u_o, j_u_k]
        · simp (disch := omega) only [j_u_o, j_u_k]
      exact s62n3 hR hz hz9 lD1 (fun h1 h2 h3 h4 h5 h6 => fin) (fun h1 h2 h3 h4 h5 h6 => False.elim (by first | exact absurd h6 hf | exact absurd hf h6 | exact (Int32.not_lt.mpr h6) hf | exact (Int32.not_lt.mpr hf) h6 | exact h6 (Int32.not_le.mp hf) | exact hf (Int32.not_le.mp h6) | omega)) (fun h1 h2 h3 h4 h5 => False.elim (by first | exact absurd h5 pf | exact absurd pf h5 | exact (Int32.not_lt.mpr h5) pf | exact (Int32.not_lt.mpr pf) h5 | exact h5 (Int32.not_le.mp pf) | exact pf (Int32.not_le.mp h5) | omega)) (fun h1 h2 h3 h4 => False.elim (by first | exact absurd h4 pe | exact absurd pe h4 | exact (Int32.not_lt.mpr h4) pe | exact (Int32.not_lt.mpr pe) h4 | exact h4 (Int32.not_le.mp pe) | exact pe (Int32.not_le.mp h4) | omega)) (fun h1 h2 h3 => False.elim (by first | exact absurd h3 pc | exact absurd pc h3 | exact (Int32.not_lt.mpr h3) pc | exact (Int32.not_lt.mpr pc) h3 | exact h3 (Int32.not_le.mp pc) | exact pc (Int32.not_le.mp h3) | omega)) (fun h1 h2 => False.elim (by first | exact absurd h2 pb | exact absurd pb h2 | exact (Int32.not_lt.mpr h2) pb | exact (Int32.not_lt.mpr pb) h2 | exact h2 (Int32.not_le.mp pb) | exact pb (Int32.not_le.mp h2) | omega)) (fun h1 => False.elim (by first | exact absurd h1 pa | exact absurd pa h1 | exact (Int32.not_lt.mpr h1) pa | exact (Int32.not_lt.mpr pa) h1 | exact h1 (Int32.not_le.mp pa) | exact pa (Int32.not_le.mp h1) | omega))
    · exact s62n3 hR hz hz9 lD1 (fun h1 h2 h3 h4 h5 h6 => False.elim (by first | exact absurd h6 hf | exact absurd hf h6 | exact (Int32.not_lt.mpr h6) hf | exact (Int32.not_lt.mpr hf) h6 | exact h6 (Int32.not_le.mp hf) | exact hf (Int32.not_le.mp h6) | omega)) (fun h1 h2 h3 h4 h5 h6 => pend_same hT (s208n3 hz2 hz9 lD2 (fun h1 h2 h3 h4 h5 h6 h7 => False.elim (by first | exact absurd h7 hf | exact absurd hf h7 | exact (Int32.not_lt.mpr h7) hf | exact (Int32.not_lt.mpr hf) h7 | exact h7 (Int32.not_le.mp hf) | exact hf (Int32.not_le.mp h7) | omega)) (fun h1 h2 h3 h4 h5 h6 h7 => ⟨rfl, rfl, rfl⟩) (fun h1 h2 h3 h4 h5 h6 => False.elim (by first | exact absurd h6 pf | exact absurd pf h6 | exact (Int32.not_lt.mpr h6) pf | exact (Int32.not_lt.mpr pf) h6 | exact h6 (Int32.not_le.mp pf) | exact pf (Int32.not_le.mp h6) | omega)) (fun h1 h2 h3 h4 h5 => False.elim (by first | exact absurd h5 pe | exact absurd pe h5 | exact (Int32.not_lt.mpr h5) pe | exact (Int32.not_lt.mpr pe) h5 | exact h5 (Int32.not_le.mp pe) | exact pe (Int32.not_le.mp h5) | omega)) (fun h1 h2 h3 h4 => False.elim (by first | exact absurd h4 pc | exact absurd pc h4 | exact (Int32.not_lt.mpr h4) pc | exact (Int32.not_lt.mpr pc) h4 | exact h4 (Int32.not_le.mp pc) | exact pc (Int32.not_le.mp h4) | omega)) (fun h1 h2 h3 => False.elim (by first | exact absurd h3 pb | exact absurd pb h3 | exact (Int32.not_lt.mpr h3) pb | exact (Int32.not_lt.mpr pb) h3 | exact h3 (Int32.not_le.mp pb) | exact pb (Int32.not_le.mp h3) | omega)) (fun h1 h2 => False.elim (by first | exact absurd h2 pa | exact absurd pa h2 | exact (Int32.not_lt.mpr h2) pa | exact (Int32.not_lt.mpr pa) h2 | exact h2 (Int32.not_le.mp pa) | exact pa (Int32.not_le.mp h2) | omega)) (fun h1 => False.elim (by first | exact absurd h1 ((show (¬ (3 : Int32) < (1 : Int32) ∧ ¬ (5 : Int32) < (3 : Int32)) from by decide)) | exact absurd ((show (¬ (3 : Int32) < (1 : Int32) ∧ ¬ (5 : Int32) < (3 : Int32)) from by decide)) h1 | exact (Int32.not_lt.mpr h1) ((show (¬ (3 : Int32) < (1 : Int32) ∧ ¬ (5 : Int32) < (3 : Int32)) from by decide)) | exact (Int32.not_lt.mpr ((show (¬ (3 : Int32) < (1 : Int32) ∧ ¬ (5 : Int32) < (3 : Int32)) from by decide))) h1 | exact h1 (Int32.not_le.mp ((show (¬ (3 : Int32) < (1 : Int32) ∧ ¬ (5 : Int32) < (3 : Int32)) from by decide))) | exact ((show (¬ (3 : Int32) < (1 : Int32) ∧ ¬ (5 : Int32) < (3 : Int32)) from by decide)) (Int32.not_le.mp h1) | omega)))) (fun h1 h2 h3 h4 h5 => False.elim (by first | exact absurd h5 pf | exact absurd pf h5 | exact (Int32.not_lt.mpr h5) pf | exact (Int32.not_lt.mpr pf) h5 | exact h5 (Int32.not_le.mp pf) | exact pf (Int32.not_le.mp h5) | omega)) (fun h1 h2 h3 h4 => False.elim (by first | exact absurd h4 pe | exact absurd pe h4 | exact (Int32.not_lt.mpr h4) pe | exact (Int32.not_lt.mpr pe) h4 | exact h4 (Int32.not_le.mp pe) | exact pe (Int32.not_le.mp h4) | omega)) (fun h1 h2 h3 => False.elim (by first | exact absurd h3 pc | exact absurd pc h3 | exact (Int32.not_lt.mpr h3) pc | exact (Int32.not_lt.mpr pc) h3 | exact h3 (Int32.not_le.mp pc) | exact pc (Int32.not_le.mp h3) | omega)) (fun h1 h2 => False.elim (by first | exact absurd h2 pb | exact absurd pb h2 | exact (Int32.not_lt.mpr h2) pb | exact (Int32.not_lt.mpr pb) h2 | exact h2 (Int32.not_le.mp pb) | exact pb (Int32.not_le.mp h2) | omega)) (fun h1 => False.elim (by first | exact absurd h1 pa | exact absurd pa h1 | exact (Int32.not_lt.mpr h1) pa | exact (Int32.not_lt.mpr pa) h1 | exact h1 (Int32.not_le.mp pa) | exact pa (Int32.not_le.mp h1) | omega))
  · by_cases hf : (z + 4) ≤ 96
    · have fin : PEnd 208 [.int 4, .int a, .int b, .int c, .int e, .int f] (fun σ2 => tapeR σ2 ∧ same tapeP σ σ2 ∧ (∀ f, f ≠ 1 → σ2.1 97 f = σ.1 97 f) ∧ (∀ f, f ≠ 34 → σ2.1 260 f = σ.1 260 f) ∧ σ2.2 = σ.2) (some (.int (nI (z + 4)))) w1 ((j_u (j_u (j_u (j_u (j_u (j_u (j_u (j_u σ.1 97 1 (nI (z + 1))) 98 z a) 97 1 (nI (z + 2))) 98 (z + 1) b) 97 1 (nI (z + 3))) 98 (z + 2) c) 97 1 (nI (z + 4))) 98 (z + 3) e), σ.2.1, RR σ.2.2) := by
        refine pend_to (I2 := (j_u (j_u (j_u (j_u (j_u (j_u (j_u (j_u (j_u (j_u (j_u (j_u (j_u σ.1 97 1 (nI (z + 1))) 98 z a) 97 1 (nI (z + 2))) 98 (z + 1) b) 97 1 (nI (z + 3))) 98 (z + 2) c) 97 1 (nI (z + 4))) 98 (z + 3) e) 422 (z + 0) a) 422 (z + 1) b) 422 (z + 2) c) 422 (z + 3) e) 260 34 (nI (z + 4)))) (D2 := σ.2.1) (R2 := σ.2.2) ⟨⟨z + 4, hf, ?_, ?_, fun k hk' => ?_⟩, fun o ho => ?_, fun f hf => ?_, fun f hf => ?_, rfl⟩ (s208n4 (by simp (disch := omega) only [j_u_o]; exact hz2) hz9 lD2 (fun h1 h2 h3 h4 h5 h6 h7 => ⟨rfl, rfl, rfl⟩) (fun h1 h2 h3 h4 h5 h6 h7 => False.elim (by first | exact absurd h7 hf | exact absurd hf h7 | exact (Int32.not_lt.mpr h7) hf | exact (Int32.not_lt.mpr hf) h7 | exact h7 (Int32.not_le.mp hf) | exact hf (Int32.not_le.mp h7) | omega)) (fun h1 h2 h3 h4 h5 h6 => False.elim (by first | exact absurd h6 pf | exact absurd pf h6 | exact (Int32.not_lt.mpr h6) pf | exact (Int32.not_lt.mpr pf) h6 | exact h6 (Int32.not_le.mp pf) | exact pf (Int32.not_le.mp h6) | omega)) (fun h1 h2 h3 h4 h5 => False.elim (by first | exact absurd h5 pe | exact absurd pe h5 | exact (Int32.not_lt.mpr h5) pe | exact (Int32.not_lt.mpr pe) h5 | exact h5 (Int32.not_le.mp pe) | exact pe (Int32.not_le.mp h5) | omega)) (fun h1 h2 h3 h4 => False.elim (by first | exact absurd h4 pc | exact absurd pc h4 | exact (Int32.not_lt.mpr h4) pc | exact (Int32.not_lt.mpr pc) h4 | exact h4 (Int32.not_le.mp pc) | exact pc (Int32.not_le.mp h4) | omega)) (fun h1 h2 h3 => False.elim (by first | exact absurd h3 pb | exact absurd pb h3 | exact (Int32.not_lt.mpr h3) pb | exact (Int32.not_lt.mpr pb) h3 | exact h3 (Int32.not_le.mp pb) | exact pb (Int32.not_le.mp h3) | omega)) (fun h1 h2 => False.elim (by first | exact absurd h2 pa | exact absurd pa h2 | exact (Int32.not_lt.mpr h2) pa | exact (Int32.not_lt.mpr pa) h2 | exact h2 (Int32.not_le.mp pa) | exact pa (Int32.not_le.mp h2) | omega)) (fun h1 => False.elim (by first | exact absurd h1 ((show (¬ (4 : Int32) < (1 : Int32) ∧ ¬ (5 : Int32) < (4 : Int32)) from by decide)) | exact absurd ((show (¬ (4 : Int32) < (1 : Int32) ∧ ¬ (5 : Int32) < (4 : Int32)) from by decide)) h1 | exact (Int32.not_lt.mpr h1) ((show (¬ (4 : Int32) < (1 : Int32) ∧ ¬ (5 : Int32) < (4 : Int32)) from by decide)) | exact (Int32.not_lt.mpr ((show (¬ (4 : Int32) < (1 : Int32) ∧ ¬ (5 : Int32) < (4 : Int32)) from by decide))) h1 | exact h1 (Int32.not_le.mp ((show (¬ (4 : Int32) < (1 : Int32) ∧ ¬ (5 : Int32) < (4 : Int32)) from by decide))) | exact ((show (¬ (4 : Int32) < (1 : Int32) ∧ ¬ (5 : Int32) < (4 : Int32)) from by decide)) (Int32.not_le.mp h1) | omega)))
        · simp (disch := omega) only [j_u_o, j_u_same, j_u_k]
        · simp (disch := omega) only [j_u_o, j_u_same, j_u_k]
        · by_cases hkz : k < z
          · simp (disch := omega) only [j_u_o, j_u_same, j_u_k]
            exact hk k hkz
          · rcases (show k = z ∨ k = z + 1 ∨ k = z + 2 ∨ k = z + 3 by omega) with rfl | rfl | rfl | rfl
            · simp (disch := omega) only [j_u_o, j_u_same, j_u_k, Nat.add_zero]
              exact ⟨trivial, i_byte pa⟩
            · simp (disch := omega) only [j_u_o, j_u_same, j_u_k, Nat.add_zero]
              exact ⟨trivial, i_byte pb⟩
            · simp (disch := omega) only [j_u_o, j_u_same, j_u_k, Nat.add_zero]
              exact ⟨trivial, i_byte pc⟩
            · simp (disch := omega) only [j_u_o, j_u_same, j_u_k, Nat.add_zero]
              exact ⟨trivial, i_byte pe⟩
        · have o1 : o ≠ 97 := fun q => ho (Or.inl q)
          have o2 : o ≠ 98 := fun q => ho (Or.inr (Or.inl q))
          have o3 : o ≠ 260 := fun q => ho (Or.inr (Or.inr (Or.inl q)))
          have o4 : o ≠ 422 := fun q => ho (Or.inr (Or.inr (Or.inr q)))
          exact ⟨funext fun k => by simp (disch := omega) only [j_u_o], rfl, rfl⟩
        · simp (disch := omega) only [j_u_o, j_u_k]
        · simp (disch := omega) only [j_u_o, j_u_k]
      exact s62n4 hR hz hz9 lD1 (fun h1 h2 h3 h4 h5 h6 => fin) (fun h1 h2 h3 h4 h5 h6 => False.elim (by first | exact absurd h6 hf | exact absurd hf h6 | exact (Int32.not_lt.mpr h6) hf | exact (Int32.not_lt.mpr hf) h6 | exact h6 (Int32.not_le.mp hf) | exact hf (Int32.not_le.mp h6) | omega)) (fun h1 h2 h3 h4 h5 => False.elim (by first | exact absurd h5 pf | exact absurd pf h5 | exact (Int32.not_lt.mpr h5) pf | exact (Int32.not_lt.mpr pf) h5 | exact h5 (Int32.not_le.mp pf) | exact pf (Int32.not_le.mp h5) | omega)) (fun h1 h2 h3 h4 => False.elim (by first | exact absurd h4 pe | exact absurd pe h4 | exact (Int32.not_lt.mpr h4) pe | exact (Int32.not_lt.mpr pe) h4 | exact h4 (Int32.not_le.mp pe) | exact pe (Int32.not_le.mp h4) | omega)) (fun h1 h2 h3 => False.elim (by first | exact absurd h3 pc | exact absurd pc h3 | exact (Int32.not_lt.mpr h3) pc | exact (Int32.not_lt.mpr pc) h3 | exact h3 (Int32.not_le.mp pc) | exact pc (Int32.not_le.mp h3) | omega)) (fun h1 h2 => False.elim (by first | exact absurd h2 pb | exact absurd pb h2 | exact (Int32.not_lt.mpr h2) pb | exact (Int32.not_lt.mpr pb) h2 | exact h2 (Int32.not_le.mp pb) | exact pb (Int32.not_le.mp h2) | omega)) (fun h1 => False.elim (by first | exact absurd h1 pa | exact absurd pa h1 | exact (Int32.not_lt.mpr h1) pa | exact (Int32.not_lt.mpr pa) h1 | exact h1 (Int32.not_le.mp pa) | exact pa (Int32.not_le.mp h1) | omega))
    · exact s62n4 hR hz hz9 lD1 (fun h1 h2 h3 h4 h5 h6 => False.elim (by first | exact absurd h6 hf | exact absurd hf h6 | exact (Int32.not_lt.mpr h6) hf | exact (Int32.not_lt.mpr hf) h6 | exact h6 (Int32.not_le.mp hf) | exact hf (Int32.not_le.mp h6) | omega)) (fun h1 h2 h3 h4 h5 h6 => pend_same hT (s208n4 hz2 hz9 lD2 (fun h1 h2 h3 h4 h5 h6 h7 => False.elim (by first | exact absurd h7 hf | exact absurd hf h7 | exact (Int32.not_lt.mpr h7) hf | exact (Int32.not_lt.mpr hf) h7 | exact h7 (Int32.not_le.mp hf) | exact hf (Int32.not_le.mp h7) | omega)) (fun h1 h2 h3 h4 h5 h6 h7 => ⟨rfl, rfl, rfl⟩) (fun h1 h2 h3 h4 h5 h6 => False.elim (by first | exact absurd h6 pf | exact absurd pf h6 | exact (Int32.not_lt.mpr h6) pf | exact (Int32.not_lt.mpr pf) h6 | exact h6 (Int32.not_le.mp pf) | exact pf (Int32.not_le.mp h6) | omega)) (fun h1 h2 h3 h4 h5 => False.elim (by first | exact absurd h5 pe | exact absurd pe h5 | exact (Int32.not_lt.mpr h5) pe | exact (Int32.not_lt.mpr pe) h5 | exact h5 (Int32.not_le.mp pe) | exact pe (Int32.not_le.mp h5) | omega)) (fun h1 h2 h3 h4 => False.elim (by first | exact absurd h4 pc | exact absurd pc h4 | exact (Int32.not_lt.mpr h4) pc | exact (Int32.not_lt.mpr pc) h4 | exact h4 (Int32.not_le.mp pc) | exact pc (Int32.not_le.mp h4) | omega)) (fun h1 h2 h3 => False.elim (by first | exact absurd h3 pb | exact absurd pb h3 | exact (Int32.not_lt.mpr h3) pb | exact (Int32.not_lt.mpr pb) h3 | exact h3 (Int32.not_le.mp pb) | exact pb (Int32.not_le.mp h3) | omega)) (fun h1 h2 => False.elim (by first | exact absurd h2 pa | exact absurd pa h2 | exact (Int32.not_lt.mpr h2) pa | exact (Int32.not_lt.mpr pa) h2 | exact h2 (Int32.not_le.mp pa) | exact pa (Int32.not_le.mp h2) | omega)) (fun h1 => False.elim (by first | exact absurd h1 ((show (¬ (4 : Int32) < (1 : Int32) ∧ ¬ (5 : Int32) < (4 : Int32)) from by decide)) | exact absurd ((show (¬ (4 : Int32) < (1 : Int32) ∧ ¬ (5 : Int32) < (4 : Int32)) from by decide)) h1 | exact (Int32.not_lt.mpr h1) ((show (¬ (4 : Int32) < (1 : Int32) ∧ ¬ (5 : Int32) < (4 : Int32)) from by decide)) | exact (Int32.not_lt.mpr ((show (¬ (4 : Int32) < (1 : Int32) ∧ ¬ (5 : Int32) < (4 : Int32)) from by decide))) h1 | exact h1 (Int32.not_le.mp ((show (¬ (4 : Int32) < (1 : Int32) ∧ ¬ (5 : Int32) < (4 : Int32)) from by decide))) | exact ((show (¬ (4 : Int32) < (1 : Int32) ∧ ¬ (5 : Int32) < (4 : Int32)) from by decide)) (Int32.not_le.mp h1) | omega)))) (fun h1 h2 h3 h4 h5 => False.elim (by first | exact absurd h5 pf | exact absurd pf h5 | exact (Int32.not_lt.mpr h5) pf | exact (Int32.not_lt.mpr pf) h5 | exact h5 (Int32.not_le.mp pf) | exact pf (Int32.not_le.mp h5) | omega)) (fun h1 h2 h3 h4 => False.elim (by first | exact absurd h4 pe | exact absurd pe h4 | exact (Int32.not_lt.mpr h4) pe | exact (Int32.not_lt.mpr pe) h4 | exact h4 (Int32.not_le.mp pe) | exact pe (Int32.not_le.mp h4) | omega)) (fun h1 h2 h3 => False.elim (by first | exact absurd h3 pc | exact absurd pc h3 | exact (Int32.not_lt.mpr h3) pc | exact (Int32.not_lt.mpr pc) h3 | exact h3 (Int32.not_le.mp pc) | exact pc (Int32.not_le.mp h3) | omega)) (fun h1 h2 => False.elim (by first | exact absurd h2 pb | exact absurd pb h2 | exact (Int32.not_lt.mpr h2) pb | exact (Int32.not_lt.mpr pb) h2 | exact h2 (Int32.not_le.mp pb) | exact pb (Int32.not_le.mp h2) | omega)) (fun h1 => False.elim (by first | exact absurd h1 pa | exact absurd pa h1 | exact (Int32.not_lt.mpr h1) pa | exact (Int32.not_lt.mpr pa) h1 | exact h1 (Int32.not_le.mp pa) | exact pa (Int32.not_le.mp h1) | omega))
  · by_cases hf : (z + 5) ≤ 96
    · have fin : PEnd 208 [.int 5, .int a, .int b, .int c, .int e, .int f] (fun σ2 => tapeR σ2 ∧ same tapeP σ σ2 ∧ (∀ f, f ≠ 1 → σ2.1 97 f = σ.1 97 f) ∧ (∀ f, f ≠ 34 → σ2.1 260 f = σ.1 260 f) ∧ σ2.2 = σ.2) (some (.int (nI (z + 5)))) w1 ((j_u (j_u (j_u (j_u (j_u (j_u (j_u (j_u (j_u (j_u σ.1 97 1 (nI (z + 1))) 98 z a) 97 1 (nI (z + 2))) 98 (z + 1) b) 97 1 (nI (z + 3))) 98 (z + 2) c) 97 1 (nI (z + 4))) 98 (z + 3) e) 97 1 (nI (z + 5))) 98 (z + 4) f), σ.2.1, RR σ.2.2) := by
        refine pend_to (I2 := (j_u (j_u (j_u (j_u (j_u (j_u (j_u (j_u (j_u (j_u (j_u (j_u (j_u (j_u (j_u (j_u σ.1 97 1 (nI (z + 1))) 98 z a) 97 1 (nI (z + 2))) 98 (z + 1) b) 97 1 (nI (z + 3))) 98 (z + 2) c) 97 1 (nI (z + 4))) 98 (z + 3) e) 97 1 (nI (z + 5))) 98 (z + 4) f) 422 (z + 0) a) 422 (z + 1) b) 422 (z + 2) c) 422 (z + 3) e) 422 (z + 4) f) 260 34 (nI (z + 5)))) (D2 := σ.2.1) (R2 := σ.2.2) ⟨⟨z + 5, hf, ?_, ?_, fun k hk' => ?_⟩, fun o ho => ?_, fun f hf => ?_, fun f hf => ?_, rfl⟩ (s208n5 (by simp (disch := omega) only [j_u_o]; exact hz2) hz9 lD2 (fun h1 h2 h3 h4 h5 h6 h7 => ⟨rfl, rfl, rfl⟩) (fun h1 h2 h3 h4 h5 h6 h7 => False.elim (by first | exact absurd h7 hf | exact absurd hf h7 | exact (Int32.not_lt.mpr h7) hf | exact (Int32.not_lt.mpr hf) h7 | exact h7 (Int32.not_le.mp hf) | exact hf (Int32.not_le.mp h7) | omega)) (fun h1 h2 h3 h4 h5 h6 => False.elim (by first | exact absurd h6 pf | exact absurd pf h6 | exact (Int32.not_lt.mpr h6) pf | exact (Int32.not_lt.mpr pf) h6 | exact h6 (Int32.not_le.mp pf) | exact pf (Int32.not_le.mp h6) | omega)) (fun h1 h2 h3 h4 h5 => False.elim (by first | exact absurd h5 pe | exact absurd pe h5 | exact (Int32.not_lt.mpr h5) pe | exact (Int32.not_lt.mpr pe) h5 | exact h5 (Int32.not_le.mp pe) | exact pe (Int32.not_le.mp h5) | omega)) (fun h1 h2 h3 h4 => False.elim (by first | exact absurd h4 pc | exact absurd pc h4 | exact (Int32.not_lt.mpr h4) pc | exact (Int32.not_lt.mpr pc) h4 | exact h4 (Int32.not_le.mp pc) | exact pc (Int32.not_le.mp h4) | omega)) (fun h1 h2 h3 => False.elim (by first | exact absurd h3 pb | exact absurd pb h3 | exact (Int32.not_lt.mpr h3) pb | exact (Int32.not_lt.mpr pb) h3 | exact h3 (Int32.not_le.mp pb) | exact pb (Int32.not_le.mp h3) | omega)) (fun h1 h2 => False.elim (by first | exact absurd h2 pa | exact absurd pa h2 | exact (Int32.not_lt.mpr h2) pa | exact (Int32.not_lt.mpr pa) h2 | exact h2 (Int32.not_le.mp pa) | exact pa (Int32.not_le.mp h2) | omega)) (fun h1 => False.elim (by first | exact absurd h1 ((show (¬ (5 : Int32) < (1 : Int32) ∧ ¬ (5 : Int32) < (5 : Int32)) from by decide)) | exact absurd ((show (¬ (5 : Int32) < (1 : Int32) ∧ ¬ (5 : Int32) < (5 : Int32)) from by decide)) h1 | exact (Int32.not_lt.mpr h1) ((show (¬ (5 : Int32) < (1 : Int32) ∧ ¬ (5 : Int32) < (5 : Int32)) from by decide)) | exact (Int32.not_lt.mpr ((show (¬ (5 : Int32) < (1 : Int32) ∧ ¬ (5 : Int32) < (5 : Int32)) from by decide))) h1 | exact h1 (Int32.not_le.mp ((show (¬ (5 : Int32) < (1 : Int32) ∧ ¬ (5 : Int32) < (5 : Int32)) from by decide))) | exact ((show (¬ (5 : Int32) < (1 : Int32) ∧ ¬ (5 : Int32) < (5 : Int32)) from by decide)) (Int32.not_le.mp h1) | omega)))
        · simp (disch := omega) only [j_u_o, j_u_same, j_u_k]
        · simp (disch := omega) only [j_u_o, j_u_same, j_u_k]
        · by_cases hkz : k < z
          · simp (disch := omega) only [j_u_o, j_u_same, j_u_k]
            exact hk k hkz
          · rcases (show k = z ∨ k = z + 1 ∨ k = z + 2 ∨ k = z + 3 ∨ k = z + 4 by omega) with rfl | rfl | rfl | rfl | rfl
            · simp (disch := omega) only [j_u_o, j_u_same, j_u_k, Nat.add_zero]
              exact ⟨trivial, i_byte pa⟩
            · simp (disch := omega) only [j_u_o, j_u_same, j_u_k, Nat.add_zero]
              exact ⟨trivial, i_byte pb⟩
            · simp (disch := omega) only [j_u_o, j_u_same, j_u_k, Nat.add_zero]
              exact ⟨trivial, i_byte pc⟩
            · simp (disch := omega) only [j_u_o, j_u_same, j_u_k, Nat.add_zero]
              exact ⟨trivial, i_byte pe⟩
            · simp (disch := omega) only [j_u_o, j_u_same, j_u_k, Nat.add_zero]
              exact ⟨trivial, i_byte pf⟩
        · have o1 : o ≠ 97 := fun q => ho (Or.inl q)
          have o2 : o ≠ 98 := fun q => ho (Or.inr (Or.inl q))
          have o3 : o ≠ 260 := fun q => ho (Or.inr (Or.inr (Or.inl q)))
          have o4 : o ≠ 422 := fun q => ho (Or.inr (Or.inr (Or.inr q)))
          exact ⟨funext fun k => by simp (disch := omega) only [j_u_o], rfl, rfl⟩
        · simp (disch := omega) only [j_u_o, j_u_k]
        · simp (disch := omega) only [j_u_o, j_u_k]
      exact s62n5 hR hz hz9 lD1 (fun h1 h2 h3 h4 h5 h6 => fin) (fun h1 h2 h3 h4 h5 h6 => False.elim (by first | exact absurd h6 hf | exact absurd hf h6 | exact (Int32.not_lt.mpr h6) hf | exact (Int32.not_lt.mpr hf) h6 | exact h6 (Int32.not_le.mp hf) | exact hf (Int32.not_le.mp h6) | omega)) (fun h1 h2 h3 h4 h5 => False.elim (by first | exact absurd h5 pf | exact absurd pf h5 | exact (Int32.not_lt.mpr h5) pf | exact (Int32.not_lt.mpr pf) h5 | exact h5 (Int32.not_le.mp pf) | exact pf (Int32.not_le.mp h5) | omega)) (fun h1 h2 h3 h4 => False.elim (by first | exact absurd h4 pe | exact absurd pe h4 | exact (Int32.not_lt.mpr h4) pe | exact (Int32.not_lt.mpr pe) h4 | exact h4 (Int32.not_le.mp pe) | exact pe (Int32.not_le.mp h4) | omega)) (fun h1 h2 h3 => False.elim (by first | exact absurd h3 pc | exact absurd pc h3 | exact (Int32.not_lt.mpr h3) pc | exact (Int32.not_lt.mpr pc) h3 | exact h3 (Int32.not_le.mp pc) | exact pc (Int32.not_le.mp h3) | omega)) (fun h1 h2 => False.elim (by first | exact absurd h2 pb | exact absurd pb h2 | exact (Int32.not_lt.mpr h2) pb | exact (Int32.not_lt.mpr pb) h2 | exact h2 (Int32.not_le.mp pb) | exact pb (Int32.not_le.mp h2) | omega)) (fun h1 => False.elim (by first | exact absurd h1 pa | exact absurd pa h1 | exact (Int32.not_lt.mpr h1) pa | exact (Int32.not_lt.mpr pa) h1 | exact h1 (Int32.not_le.mp pa) | exact pa (Int32.not_le.mp h1) | omega))
    · exact s62n5 hR hz hz9 lD1 (fun h1 h2 h3 h4 h5 h6 => False.elim (by first | exact absurd h6 hf | exact absurd hf h6 | exact (Int32.not_lt.mpr h6) hf | exact (Int32.not_lt.mpr hf) h6 | exact h6 (Int32.not_le.mp hf) | exact hf (Int32.not_le.mp h6) | omega)) (fun h1 h2 h3 h4 h5 h6 => pend_same hT (s208n5 hz2 hz9 lD2 (fun h1 h2 h3 h4 h5 h6 h7 => False.elim (by first | exact absurd h7 hf | exact absurd hf h7 | exact (Int32.not_lt.mpr h7) hf | exact (Int32.not_lt.mpr hf) h7 | exact h7 (Int32.not_le.mp hf) | exact hf (Int32.not_le.mp h7) | omega)) (fun h1 h2 h3 h4 h5 h6 h7 => ⟨rfl, rfl, rfl⟩) (fun h1 h2 h3 h4 h5 h6 => False.elim (by first | exact absurd h6 pf | exact absurd pf h6 | exact (Int32.not_lt.mpr h6) pf | exact (Int32.not_lt.mpr pf) h6 | exact h6 (Int32.not_le.mp pf) | exact pf (Int32.not_le.mp h6) | omega)) (fun h1 h2 h3 h4 h5 => False.elim (by first | exact absurd h5 pe | exact absurd pe h5 | exact (Int32.not_lt.mpr h5) pe | exact (Int32.not_lt.mpr pe) h5 | exact h5 (Int32.not_le.mp pe) | exact pe (Int32.not_le.mp h5) | omega)) (fun h1 h2 h3 h4 => False.elim (by first | exact absurd h4 pc | exact absurd pc h4 | exact (Int32.not_lt.mpr h4) pc | exact (Int32.not_lt.mpr pc) h4 | exact h4 (Int32.not_le.mp pc) | exact pc (Int32.not_le.mp h4) | omega)) (fun h1 h2 h3 => False.elim (by first | exact absurd h3 pb | exact absurd pb h3 | exact (Int32.not_lt.mpr h3) pb | exact (Int32.not_lt.mpr pb) h3 | exact h3 (Int32.not_le.mp pb) | exact pb (Int32.not_le.mp h3) | omega)) (fun h1 h2 => False.elim (by first | exact absurd h2 pa | exact absurd pa h2 | exact (Int32.not_lt.mpr h2) pa | exact (Int32.not_lt.mpr pa) h2 | exact h2 (Int32.not_le.mp pa) | exact pa (Int32.not_le.mp h2) | omega)) (fun h1 => False.elim (by first | exact absurd h1 ((show (¬ (5 : Int32) < (1 : Int32) ∧ ¬ (5 : Int32) < (5 : Int32)) from by decide)) | exact absurd ((show (¬ (5 : Int32) < (1 : Int32) ∧ ¬ (5 : Int32) < (5 : Int32)) from by decide)) h1 | exact (Int32.not_lt.mpr h1) ((show (¬ (5 : Int32) < (1 : Int32) ∧ ¬ (5 : Int32) < (5 : Int32)) from by decide)) | exact (Int32.not_lt.mpr ((show (¬ (5 : Int32) < (1 : Int32) ∧ ¬ (5 : Int32) < (5 : Int32)) from by decide))) h1 | exact h1 (Int32.not_le.mp ((show (¬ (5 : Int32) < (1 : Int32) ∧ ¬ (5 : Int32) < (5 : Int32)) from by decide))) | exact ((show (¬ (5 : Int32) < (1 : Int32) ∧ ¬ (5 : Int32) < (5 : Int32)) from by decide)) (Int32.not_le.mp h1) | omega)))) (fun h1 h2 h3 h4 h5 => False.elim (by first | exact absurd h5 pf | exact absurd pf h5 | exact (Int32.not_lt.mpr h5) pf | exact (Int32.not_lt.mpr pf) h5 | exact h5 (Int32.not_le.mp pf) | exact pf (Int32.not_le.mp h5) | omega)) (fun h1 h2 h3 h4 => False.elim (by first | exact absurd h4 pe | exact absurd pe h4 | exact (Int32.not_lt.mpr h4) pe | exact (Int32.not_lt.mpr pe) h4 | exact h4 (Int32.not_le.mp pe) | exact pe (Int32.not_le.mp h4) | omega)) (fun h1 h2 h3 => False.elim (by first | exact absurd h3 pc | exact absurd pc h3 | exact (Int32.not_lt.mpr h3) pc | exact (Int32.not_lt.mpr pc) h3 | exact h3 (Int32.not_le.mp pc) | exact pc (Int32.not_le.mp h3) | omega)) (fun h1 h2 => False.elim (by first | exact absurd h2 pb | exact absurd pb h2 | exact (Int32.not_lt.mpr h2) pb | exact (Int32.not_lt.mpr pb) h2 | exact h2 (Int32.not_le.mp pb) | exact pb (Int32.not_le.mp h2) | omega)) (fun h1 => False.elim (by first | exact absurd h1 pa | exact absurd pa h1 | exact (Int32.not_lt.mpr h1) pa | exact (Int32.not_lt.mpr pa) h1 | exact h1 (Int32.not_le.mp pa) | exact pa (Int32.not_le.mp h1) | omega))
