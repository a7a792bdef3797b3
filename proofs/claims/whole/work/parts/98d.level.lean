/-! the class: levels -/
set_option maxRecDepth 10000 in
set_option maxHeartbeats 4000000 in
theorem t43 {d : Nat} {I : Nat → Nat → Int32} {D : Nat → Nat → UInt64} {R : Nat → Nat → Option Nat} {Q : j_Po} {L : Nat}  (hL1 : 1 ≤ L) (hL : L < 7) (hd : 1 ≤ d)
    (v1 : (L < 1) → Q none w1 (I, D, RR R))
    (v2 : (¬ L < 1) → (L < 7) → Q none w1 ((j_uo I (221 + L) (va_cpy (I (221 + (L - 1))) (I (221 + L)) 0 0 24)), (j_uo D (213 + L) (va_cpy (D (213 + (L - 1))) (D (213 + L)) 0 0 24)), RR R))
    (v3 : (¬ L < 1) → (¬ L < 7) → Q none w1 (I, D, RR R)) : j_Call d 43 [.ref 107, .int (nI L)] w1 (I, D, RR R) 0 0 Q := by
  refine q_enter (L := [some (.ref 107), some (.int (nI L))]) j_m43 (Nat.le_of_ble_eq_true rfl) rfl ?_
  refine q_iload_n d43_0 rfl ?_
  refine q_iconst (v := 1) (by decide) d43_1 ?_
  refine q_icmp_lt (tgt := 11) d43_2 rfl (fun h1t => ?_) (fun h1f => ?_)
  ·
    have h1tc : L < 1 := (nI_ltI (by omega) (by omega)).mp h1t
    exact q_ret d43_11 rfl (Nat.le_refl _) (Nat.le_refl _) (v1 h1tc)
  ·
    have h1fc : ¬ L < 1 := mt (nI_ltI (by omega) (by omega)).mpr h1f
    refine q_iload_n d43_5 rfl ?_
    refine q_bipush (v := 7) (by decide) d43_6 ?_
    refine q_icmp_lt (tgt := 12) d43_8 rfl (fun h2t => ?_) (fun h2f => ?_)
    ·
      have h2tc : L < 7 := (nI_ltI (by omega) (by omega)).mp h2t
      refine q_aload_n d43_12 rfl ?_
      refine q_getR (x := 212) d43_13 (fs8_33 43 rfl) rfl (lt_w1 rfl) sh107 (rs107_3 R) (by decide) ?_
      refine q_iload_n d43_16 rfl ?_
      refine q_iconst (v := 1) (by decide) d43_17 ?_
      refine q_isub d43_18 ?_
      refine r_int (y := (nI (L - 1))) (pk_sub (b := 1) (by omega)) ?_
      refine q_aaload (c := 3) (a := (L - 1)) (x := (213 + (L - 1))) d43_19 (lt_w1 rfl) sh212 (by decide) rfl (by omega) (rm212 R (by omega)) (lt1000 (lm212 (by omega))) ?_
      refine q_iconst (v := 0) (by decide) d43_20 ?_
      refine q_aload_n d43_21 rfl ?_
      refine q_getR (x := 212) d43_22 (fs8_33 43 rfl) rfl (lt_w1 rfl) sh107 (rs107_3 R) (by decide) ?_
      refine q_iload_n d43_25 rfl ?_
      refine q_aaload (c := 3) (a := L) (x := (213 + L)) d43_26 (lt_w1 rfl) sh212 (by decide) rfl (by omega) (rm212 R (by omega)) (lt1000 (lm212 (by omega))) ?_
      refine q_iconst (v := 0) (by decide) d43_27 ?_
      refine q_bipush (v := 24) (by decide) d43_28 ?_
      refine r_copyD (a := 0) (b := 0) (m0 := 24) d43_30 (by exact j_i3 52 rfl) (lm212 (by omega)) (sm212 (by omega)) (lm212 (by omega)) (sm212 (by omega)) rfl rfl rfl (by omega) (by omega) (by omega) (Nat.le_of_ble_eq_true rfl) ?_
      refine q_aload_n d43_33 rfl ?_
      refine q_getR (x := 220) d43_34 (fs8_38 43 rfl) rfl (lt_w1 rfl) sh107 (rs107_4 R) (by decide) ?_
      refine q_iload_n d43_37 rfl ?_
      refine q_iconst (v := 1) (by decide) d43_38 ?_
      refine q_isub d43_39 ?_
      refine r_int (y := (nI (L - 1))) (pk_sub (b := 1) (by omega)) ?_
      refine q_aaload (c := 4) (a := (L - 1)) (x := (221 + (L - 1))) d43_40 (lt_w1 rfl) sh220 (by decide) rfl (by omega) (rm220 R (by omega)) (lt1000 (lm220 (by omega))) ?_
      refine q_iconst (v := 0) (by decide) d43_41 ?_
      refine q_aload_n d43_42 rfl ?_
      refine q_getR (x := 220) d43_43 (fs8_38 43 rfl) rfl (lt_w1 rfl) sh107 (rs107_4 R) (by decide) ?_
      refine q_iload_n d43_46 rfl ?_
      refine q_aaload (c := 4) (a := L) (x := (221 + L)) d43_47 (lt_w1 rfl) sh220 (by decide) rfl (by omega) (rm220 R (by omega)) (lt1000 (lm220 (by omega))) ?_
      refine q_iconst (v := 0) (by decide) d43_48 ?_
      refine q_bipush (v := 24) (by decide) d43_49 ?_
      refine r_copyI (a := 0) (b := 0) (m0 := 24) d43_51 (by exact j_i3 52 rfl) (lm220 (by omega)) (sm220 (by omega)) (lm220 (by omega)) (sm220 (by omega)) rfl rfl rfl (by omega) (by omega) (by omega) (Nat.le_of_ble_eq_true rfl) ?_
      exact q_ret d43_54 rfl (Nat.le_refl _) (Nat.le_refl _) (v2 h1fc h2tc)
    ·
      have h2fc : ¬ L < 7 := mt (nI_ltI (by omega) (by omega)).mpr h2f
      exact q_ret d43_11 rfl (Nat.le_refl _) (Nat.le_refl _) (v3 h1fc h2fc)

set_option maxRecDepth 10000 in
set_option maxHeartbeats 4000000 in
theorem t45 {d : Nat} {I : Nat → Nat → Int32} {D : Nat → Nat → UInt64} {R : Nat → Nat → Option Nat} {Q : j_Po} {L : Nat} {g : Nat} {i : Nat} {j : Nat} {a : Nat} (hg : isG g) (hL1 : 1 ≤ L) (hL : L < 7) (hi : i < 8) (hj : j < 8) (h2 : I g 2 = nI a) (ha : a < 24) (hd : 2 ≤ d)
    (v1 : (L < 1) → Q none w1 (I, D, RR R))
    (v2 : (¬ L < 1) → (7 ≤ L) → Q none w1 (I, D, RR R))
    (v3 : (¬ L < 1) → (¬ 7 ≤ L) → ((nI i) < 0) → Q none w1 (I, D, RR R))
    (v4 : (¬ L < 1) → (¬ 7 ≤ L) → (¬ (nI i) < 0) → (8 ≤ i) → Q none w1 (I, D, RR R))
    (v5 : (¬ L < 1) → (¬ 7 ≤ L) → (¬ (nI i) < 0) → (¬ 8 ≤ i) → ((nI j) < 0) → Q none w1 (I, D, RR R))
    (v6 : (¬ L < 1) → (¬ 7 ≤ L) → (¬ (nI i) < 0) → (¬ 8 ≤ i) → (¬ (nI j) < 0) → (j < 8) → Sm (D (g + 1) i))
    (v7 : (¬ L < 1) → (¬ 7 ≤ L) → (¬ (nI i) < 0) → (¬ 8 ≤ i) → (¬ (nI j) < 0) → (j < 8) → 1 ≤ 1)
    (v8 : (¬ L < 1) → (¬ 7 ≤ L) → (¬ (nI i) < 0) → (¬ 8 ≤ i) → (¬ (nI j) < 0) → (j < 8) → j_W 45 d 0 0 0 0 78 [some (.ref 107), some (.int (nI L)), some (.ref g), some (.int (nI i)), some (.int (nI j))] [] w1 ((j_u I (221 + L) a 0), (j_u D (213 + L) a (kp (I 109 a) (D (g + 1) i))), RR R) Q)
    (v9 : (¬ L < 1) → (¬ 7 ≤ L) → (¬ (nI i) < 0) → (¬ 8 ≤ i) → (¬ (nI j) < 0) → (¬ j < 8) → Q none w1 (I, D, RR R)) : j_Call d 45 [.ref 107, .int (nI L), .ref g, .int (nI i), .int (nI j)] w1 (I, D, RR R) 0 0 Q := by
  refine q_enter (L := [some (.ref 107), some (.int (nI L)), some (.ref g), some (.int (nI i)), some (.int (nI j))]) j_m45 (Nat.le_of_ble_eq_true rfl) rfl ?_
  refine q_iload_n d45_0 rfl ?_
  refine q_iconst (v := 1) (by decide) d45_1 ?_
  refine q_icmp_lt (tgt := 33) d45_2 rfl (fun h1t => ?_) (fun h1f => ?_)
  ·
    have h1tc : L < 1 := (nI_ltI (by omega) (by omega)).mp h1t
    exact q_ret d45_33 rfl (Nat.le_refl _) (Nat.le_refl _) (v1 h1tc)
  ·
    have h1fc : ¬ L < 1 := mt (nI_ltI (by omega) (by omega)).mpr h1f
    refine q_iload_n d45_5 rfl ?_
    refine q_bipush (v := 7) (by decide) d45_6 ?_
    refine q_icmp_ge (tgt := 33) d45_8 rfl (fun h2t => ?_) (fun h2f => ?_)
    ·
      have h2tc : 7 ≤ L := (nI_leI (by omega) (by omega)).mp h2t
      exact q_ret d45_33 rfl (Nat.le_refl _) (Nat.le_refl _) (v2 h1fc h2tc)
    ·
      have h2fc : ¬ 7 ≤ L := mt (nI_leI (by omega) (by omega)).mpr h2f
      refine q_iload_n d45_11 rfl ?_
      refine q_if_lt (tgt := 33) d45_12 rfl (fun h3t => ?_) (fun h3f => ?_)
      ·
        exact q_ret d45_33 rfl (Nat.le_refl _) (Nat.le_refl _) (v3 h1fc h2fc h3t)
      ·
        refine q_iload_n d45_15 rfl ?_
        refine q_bipush (v := 8) (by decide) d45_16 ?_
        refine q_icmp_ge (tgt := 33) d45_18 rfl (fun h4t => ?_) (fun h4f => ?_)
        ·
          have h4tc : 8 ≤ i := (nI_leI (by omega) (by omega)).mp h4t
          exact q_ret d45_33 rfl (Nat.le_refl _) (Nat.le_refl _) (v4 h1fc h2fc h3f h4tc)
        ·
          have h4fc : ¬ 8 ≤ i := mt (nI_leI (by omega) (by omega)).mpr h4f
          refine q_iload d45_21 rfl ?_
          refine q_if_lt (tgt := 33) d45_23 rfl (fun h5t => ?_) (fun h5f => ?_)
          ·
            exact q_ret d45_33 rfl (Nat.le_refl _) (Nat.le_refl _) (v5 h1fc h2fc h3f h4fc h5t)
          ·
            refine q_iload d45_26 rfl ?_
            refine q_bipush (v := 8) (by decide) d45_28 ?_
            refine q_icmp_lt (tgt := 34) d45_30 rfl (fun h6t => ?_) (fun h6f => ?_)
            ·
              have h6tc : j < 8 := (nI_ltI (by omega) (by omega)).mp h6t
              refine q_aload_n d45_34 rfl ?_
              refine q_getR (x := 212) d45_35 (fs8_33 45 rfl) rfl (lt_w1 rfl) sh107 (rs107_3 R) (by decide) ?_
              refine q_iload_n d45_38 rfl ?_
              refine q_aaload (c := 3) (a := L) (x := (213 + L)) d45_39 (lt_w1 rfl) sh212 (by decide) rfl (by omega) (rm212 R (by omega)) (lt1000 (lm212 (by omega))) ?_
              refine q_aload_n d45_40 rfl ?_
              refine q_getI d45_41 (fs8_203 45 rfl) rfl (isG_lt hg) (isG_sh hg) ?_
              refine r_int (y := (nI a)) (show I g 2 = (nI a) from h2) ?_
              refine q_aload_n d45_44 rfl ?_
              refine q_getR (x := 108) d45_45 (fs8_12 45 rfl) rfl (lt_w1 rfl) sh107 (rs107_0 R) (by decide) ?_
              refine q_getR (x := 109) d45_48 (fs8_54 45 rfl) rfl (lt_w1 rfl) sh108 (rs108_0 R) (by decide) ?_
              refine q_aload_n d45_51 rfl ?_
              refine q_getI d45_52 (fs8_203 45 rfl) rfl (isG_lt hg) (isG_sh hg) ?_
              refine r_int (y := (nI a)) (show I g 2 = (nI a) from h2) ?_
              refine q_iaload (a := a) d45_55 (lt_w1 rfl) sh109 rfl (by omega) ?_
              refine q_aload_n d45_56 rfl ?_
              refine q_getR (x := (g + 1)) d45_57 (fs8_206 45 rfl) rfl (isG_lt hg) (isG_sh hg) (isG_r1 R hg) (lt1000 (isG_lt1 hg)) ?_
              refine q_iload_n d45_60 rfl ?_
              refine q_daload (a := i) d45_61 (isG_lt1 hg) (isG_sh1 hg) rfl (by omega) ?_
              refine q_invSN (av := [.int (I 109 a), .double (D (g + 1) i)]) (rest := [.int (nI a), .ref (213 + L)]) (d' := 1) (mc' := 0) (ms' := 0) d45_62 (nv8_59 45 rfl) rfl rfl (by omega) (Nat.le_of_ble_eq_true rfl) (Nat.le_of_ble_eq_true rfl) (Nat.le_refl _) (Nat.le_refl _) ?_
              refine c15 (v6 h1fc h2fc h3f h4fc h5f h6tc) (v7 h1fc h2fc h3f h4fc h5f h6tc) ?_
              show j_W 45 d 0 0 0 0 65 [some (.ref 107), some (.int (nI L)), some (.ref g), some (.int (nI i)), some (.int (nI j))] [.double (kp (I 109 a) (D (g + 1) i)), .int (nI a), .ref (213 + L)] w1 (I, D, RR R) Q
              refine q_dastore (a := a) d45_65 (lm212 (by omega)) (sm212 (by omega)) rfl (by omega) ?_
              refine q_aload_n d45_66 rfl ?_
              refine q_getR (x := 220) d45_67 (fs8_38 45 rfl) rfl (lt_w1 rfl) sh107 (rs107_4 R) (by decide) ?_
              refine q_iload_n d45_70 rfl ?_
              refine q_aaload (c := 4) (a := L) (x := (221 + L)) d45_71 (lt_w1 rfl) sh220 (by decide) rfl (by omega) (rm220 R (by omega)) (lt1000 (lm220 (by omega))) ?_
              refine q_aload_n d45_72 rfl ?_
              refine q_getI d45_73 (fs8_203 45 rfl) rfl (isG_lt hg) (isG_sh hg) ?_
              refine r_int (y := (nI a)) (show I g 2 = (nI a) from h2) ?_
              refine q_iconst (v := 0) (by decide) d45_76 ?_
              refine q_iastore (a := a) d45_77 (lm220 (by omega)) (sm220 (by omega)) rfl (by omega) ?_
              exact r_sub (L' := [some (.ref 107), some (.int (nI L)), some (.ref g), some (.int (nI i)), some (.int (nI j))]) ⟨rfl, rfl, rfl, rfl, rfl, trivial⟩ (v8 h1fc h2fc h3f h4fc h5f h6tc)
            ·
              have h6fc : ¬ j < 8 := mt (nI_ltI (by omega) (by omega)).mpr h6f
              exact q_ret d45_33 rfl (Nat.le_refl _) (Nat.le_refl _) (v9 h1fc h2fc h3f h4fc h5f h6fc)

set_option maxRecDepth 10000 in
set_option maxHeartbeats 4000000 in
theorem t45n {d : Nat} {I : Nat → Nat → Int32} {D : Nat → Nat → UInt64} {R : Nat → Nat → Option Nat} {Q : j_Po} {L : Nat} {g : Nat} {i : Nat} {j : Nat}  (hg : isG g) (hL : L < 7) (h3 : I g 3 = -1) (hd : 2 ≤ d)
    (v1 : (¬ (I g 3) = (-1)) → j_W 45 d 0 0 0 0 87 [some (.ref 107), none, none, none, none] [] w1 (I, D, RR R) Q)
    (v2 : ((I g 3) = (-1)) → Q none w1 (I, D, RR R)) : j_W 45 d 0 0 0 0 78 [some (.ref 107), some (.int (nI L)), some (.ref g), some (.int (nI i)), some (.int (nI j))] [] w1 (I, D, RR R) Q := by
  refine q_aload_n d45_78 rfl ?_
  refine q_getI d45_79 (fs8_209 45 rfl) rfl (isG_lt hg) (isG_sh hg) ?_
  refine q_iconst (v := (-1)) (by decide) d45_82 ?_
  refine q_icmp_ne (tgt := 87) d45_83 rfl (fun h1t => ?_) (fun h1f => ?_)
  ·
    exact r_sub (L' := [some (.ref 107), none, none, none, none]) ⟨rfl, trivial⟩ (v1 h1t)
  ·
    exact q_ret d45_86 rfl (Nat.le_refl _) (Nat.le_refl _) (v2 h1f)

set_option maxRecDepth 10000 in
set_option maxHeartbeats 4000000 in
theorem t45w {d : Nat} {I : Nat → Nat → Int32} {D : Nat → Nat → UInt64} {R : Nat → Nat → Option Nat} {Q : j_Po} {L : Nat} {g : Nat} {i : Nat} {j : Nat} {e : Nat} (hg : isG g) (hL : L < 7) (hj : j < 8) (h3 : I g 3 = nI e) (he : e < 24) (hd : 2 ≤ d)
    (v1 : (¬ (nI e) = (-1)) → Sm (D (g + 2) j))
    (v2 : (¬ (nI e) = (-1)) → 1 ≤ 1)
    (v3 : (¬ (nI e) = (-1)) → Q none w1 ((j_u I (221 + L) e 0), (j_u D (213 + L) e (kp (I 109 e) (D (g + 2) j))), RR R))
    (v4 : ((nI e) = (-1)) → Q none w1 (I, D, RR R)) : j_W 45 d 0 0 0 0 78 [some (.ref 107), some (.int (nI L)), some (.ref g), some (.int (nI i)), some (.int (nI j))] [] w1 (I, D, RR R) Q := by
  refine q_aload_n d45_78 rfl ?_
  refine q_getI d45_79 (fs8_209 45 rfl) rfl (isG_lt hg) (isG_sh hg) ?_
  refine r_int (y := (nI e)) (show I g 3 = (nI e) from h3) ?_
  refine q_iconst (v := (-1)) (by decide) d45_82 ?_
  refine q_icmp_ne (tgt := 87) d45_83 rfl (fun h1t => ?_) (fun h1f => ?_)
  ·
    refine q_aload_n d45_87 rfl ?_
    refine q_getR (x := 212) d45_88 (fs8_33 45 rfl) rfl (lt_w1 rfl) sh107 (rs107_3 R) (by decide) ?_
    refine q_iload_n d45_91 rfl ?_
    refine q_aaload (c := 3) (a := L) (x := (213 + L)) d45_92 (lt_w1 rfl) sh212 (by decide) rfl (by omega) (rm212 R (by omega)) (lt1000 (lm212 (by omega))) ?_
    refine q_aload_n d45_93 rfl ?_
    refine q_getI d45_94 (fs8_209 45 rfl) rfl (isG_lt hg) (isG_sh hg) ?_
    refine r_int (y := (nI e)) (show I g 3 = (nI e) from h3) ?_
    refine q_aload_n d45_97 rfl ?_
    refine q_getR (x := 108) d45_98 (fs8_12 45 rfl) rfl (lt_w1 rfl) sh107 (rs107_0 R) (by decide) ?_
    refine q_getR (x := 109) d45_101 (fs8_54 45 rfl) rfl (lt_w1 rfl) sh108 (rs108_0 R) (by decide) ?_
    refine q_aload_n d45_104 rfl ?_
    refine q_getI d45_105 (fs8_209 45 rfl) rfl (isG_lt hg) (isG_sh hg) ?_
    refine r_int (y := (nI e)) (show I g 3 = (nI e) from h3) ?_
    refine q_iaload (a := e) d45_108 (lt_w1 rfl) sh109 rfl (by omega) ?_
    refine q_aload_n d45_109 rfl ?_
    refine q_getR (x := (g + 2)) d45_110 (fs8_212 45 rfl) rfl (isG_lt hg) (isG_sh hg) (isG_r2 R hg) (lt1000 (isG_lt2 hg)) ?_
    refine q_iload d45_113 rfl ?_
    refine q_daload (a := j) d45_115 (isG_lt2 hg) (isG_sh2 hg) rfl (by omega) ?_
    refine q_invSN (av := [.int (I 109 e), .double (D (g + 2) j)]) (rest := [.int (nI e), .ref (213 + L)]) (d' := 1) (mc' := 0) (ms' := 0) d45_116 (nv8_59 45 rfl) rfl rfl (by omega) (Nat.le_of_ble_eq_true rfl) (Nat.le_of_ble_eq_true rfl) (Nat.le_refl _) (Nat.le_refl _) ?_
    refine c15 (v1 h1t) (v2 h1t) ?_
    show j_W 45 d 0 0 0 0 119 [some (.ref 107), some (.int (nI L)), some (.ref g), some (.int (nI i)), some (.int (nI j))] [.double (kp (I 109 e) (D (g + 2) j)), .int (nI e), .ref (213 + L)] w1 (I, D, RR R) Q
    refine q_dastore (a := e) d45_119 (lm212 (by omega)) (sm212 (by omega)) rfl (by omega) ?_
    refine q_aload_n d45_120 rfl ?_
    refine q_getR (x := 220) d45_121 (fs8_38 45 rfl) rfl (lt_w1 rfl) sh107 (rs107_4 R) (by decide) ?_
    refine q_iload_n d45_124 rfl ?_
    refine q_aaload (c := 4) (a := L) (x := (221 + L)) d45_125 (lt_w1 rfl) sh220 (by decide) rfl (by omega) (rm220 R (by omega)) (lt1000 (lm220 (by omega))) ?_
    refine q_aload_n d45_126 rfl ?_
    refine q_getI d45_127 (fs8_209 45 rfl) rfl (isG_lt hg) (isG_sh hg) ?_
    refine r_int (y := (nI e)) (show I g 3 = (nI e) from h3) ?_
    refine q_iconst (v := 0) (by decide) d45_130 ?_
    refine q_iastore (a := e) d45_131 (lm220 (by omega)) (sm220 (by omega)) rfl (by omega) ?_
    exact q_ret d45_132 rfl (Nat.le_refl _) (Nat.le_refl _) (v3 h1t)
  ·
    exact q_ret d45_86 rfl (Nat.le_refl _) (Nat.le_refl _) (v4 h1f)

set_option maxRecDepth 10000 in
set_option maxHeartbeats 4000000 in
theorem t60 {d : Nat} {I : Nat → Nat → Int32} {D : Nat → Nat → UInt64} {R : Nat → Nat → Option Nat} {Q : j_Po} {c : Nat} {x : UInt64}  (hc : c < 24) (hd : 2 ≤ d)
    (v1 : Sm x)
    (v2 : 1 ≤ 1)
    (v3 : Q none w1 ((j_u I 221 c 0), (j_u D 213 c (kp (I 109 c) x)), RR R)) : j_Call d 60 [.ref 107, .int (nI c), .double x] w1 (I, D, RR R) 0 0 Q := by
  refine q_enter (L := [some (.ref 107), some (.int (nI c)), some (.double x), none]) j_m60 (Nat.le_of_ble_eq_true rfl) rfl ?_
  refine q_aload_n d60_0 rfl ?_
  refine q_getR (x := 212) d60_1 (fs8_33 60 rfl) rfl (lt_w1 rfl) sh107 (rs107_3 R) (by decide) ?_
  refine q_iconst (v := 0) (by decide) d60_4 ?_
  refine q_aaload (c := 3) (a := 0) (x := 213) d60_5 (lt_w1 rfl) sh212 (by decide) rfl (by decide) (rm212 (k := 0) R (by decide)) (by decide) ?_
  refine q_iload_n d60_6 rfl ?_
  refine q_aload_n d60_7 rfl ?_
  refine q_getR (x := 108) d60_8 (fs8_12 60 rfl) rfl (lt_w1 rfl) sh107 (rs107_0 R) (by decide) ?_
  refine q_getR (x := 109) d60_11 (fs8_54 60 rfl) rfl (lt_w1 rfl) sh108 (rs108_0 R) (by decide) ?_
  refine q_iload_n d60_14 rfl ?_
  refine q_iaload (a := c) d60_15 (lt_w1 rfl) sh109 rfl (by omega) ?_
  refine q_dload_n d60_16 rfl ?_
  refine q_invSN (av := [.int (I 109 c), .double x]) (rest := [.int (nI c), .ref 213]) (d' := 1) (mc' := 0) (ms' := 0) d60_17 (nv8_59 60 rfl) rfl rfl (by omega) (Nat.le_of_ble_eq_true rfl) (Nat.le_of_ble_eq_true rfl) (Nat.le_refl _) (Nat.le_refl _) ?_
  refine c15 v1 v2 ?_
  show j_W 60 d 0 0 0 0 20 [some (.ref 107), some (.int (nI c)), some (.double x), none] [.double (kp (I 109 c) x), .int (nI c), .ref 213] w1 (I, D, RR R) Q
  refine q_dastore (a := c) d60_20 (lt_w1 rfl) sh213 rfl (by omega) ?_
  refine q_aload_n d60_21 rfl ?_
  refine q_getR (x := 220) d60_22 (fs8_38 60 rfl) rfl (lt_w1 rfl) sh107 (rs107_4 R) (by decide) ?_
  refine q_iconst (v := 0) (by decide) d60_25 ?_
  refine q_aaload (c := 4) (a := 0) (x := 221) d60_26 (lt_w1 rfl) sh220 (by decide) rfl (by decide) (rm220 (k := 0) R (by decide)) (by decide) ?_
  refine q_iload_n d60_27 rfl ?_
  refine q_iconst (v := 0) (by decide) d60_28 ?_
  refine q_iastore (a := c) d60_29 (lt_w1 rfl) sh221 rfl (by omega) ?_
  exact q_ret d60_30 rfl (Nat.le_refl _) (Nat.le_refl _) v3

set_option maxRecDepth 10000 in
set_option maxHeartbeats 4000000 in
theorem t34e {d : Nat} {I : Nat → Nat → Int32} {D : Nat → Nat → UInt64} {R : Nat → Nat → Option Nat} {Q : j_Po}    (hd : 2 ≤ d)
    (v1 : j_W 34 d 0 0 0 0 7 [some (.ref 107), some (.int 0)] [] w1 ((j_u I 107 7 0), D, RR R) Q) : j_Call d 34 [.ref 107] w1 (I, D, RR R) 0 0 Q := by
  refine q_enter (L := [some (.ref 107), none]) j_m34 (Nat.le_of_ble_eq_true rfl) rfl ?_
  refine q_aload_n d34_0 rfl ?_
  refine q_iconst (v := 0) (by decide) d34_1 ?_
  refine q_putI d34_2 (fs8_50 34 rfl) (Or.inl rfl) rfl (lt_w1 rfl) sh107 ?_
  refine q_iconst (v := 0) (by decide) d34_5 ?_
  refine q_istore_n (L' := [some (.ref 107), some (.int 0)]) d34_6 (Nat.le_of_ble_eq_true rfl) rfl ?_
  exact r_sub (L' := [some (.ref 107), some (.int 0)]) ⟨rfl, rfl, trivial⟩ v1

set_option maxRecDepth 10000 in
set_option maxHeartbeats 4000000 in
theorem t34h {d : Nat} {I : Nat → Nat → Int32} {D : Nat → Nat → UInt64} {R : Nat → Nat → Option Nat} {Q : j_Po} {c : Nat}  (hc : c ≤ 24) (hd : 2 ≤ d)
    (v1 : (24 ≤ c) → Q none w1 (I, D, RR R))
    (v2 : (¬ 24 ≤ c) → Sm (D 110 c))
    (v3 : (¬ 24 ≤ c) → 1 ≤ 1)
    (v4 : (¬ 24 ≤ c) → ((I 111 c) = 0) → 1 < 10)
    (v5 : (¬ 24 ≤ c) → ((I 111 c) = 0) → c < 24)
    (v6 : (¬ 24 ≤ c) → ((I 111 c) = 0) → j_W 34 d 0 0 0 0 7 [some (.ref 107), some (.int (nI (c + 1)))] [] w1 ((j_u I 221 c (nI (1 * 32 + c))), (j_u D 213 c (kp (I 109 c) (D 110 c))), RR R) Q)
    (v7 : (¬ 24 ≤ c) → (¬ (I 111 c) = 0) → j_W 34 d 0 0 0 0 7 [some (.ref 107), some (.int (nI (c + 1)))] [] w1 ((j_u I 221 c 0), (j_u D 213 c (kp (I 109 c) (D 110 c))), RR R) Q) : j_W 34 d 0 0 0 0 7 [some (.ref 107), some (.int (nI c))] [] w1 (I, D, RR R) Q := by
  refine q_iload_n d34_7 rfl ?_
  refine q_bipush (v := 24) (by decide) d34_8 ?_
  refine q_icmp_ge (tgt := 77) d34_10 rfl (fun h1t => ?_) (fun h1f => ?_)
  ·
    have h1tc : 24 ≤ c := (nI_leI (by omega) (by omega)).mp h1t
    exact q_ret d34_77 rfl (Nat.le_refl _) (Nat.le_refl _) (v1 h1tc)
  ·
    have h1fc : ¬ 24 ≤ c := mt (nI_leI (by omega) (by omega)).mpr h1f
    refine q_aload_n d34_13 rfl ?_
    refine q_getR (x := 212) d34_14 (fs8_33 34 rfl) rfl (lt_w1 rfl) sh107 (rs107_3 R) (by decide) ?_
    refine q_iconst (v := 0) (by decide) d34_17 ?_
    refine q_aaload (c := 3) (a := 0) (x := 213) d34_18 (lt_w1 rfl) sh212 (by decide) rfl (by decide) (rm212 (k := 0) R (by decide)) (by decide) ?_
    refine q_iload_n d34_19 rfl ?_
    refine q_aload_n d34_20 rfl ?_
    refine q_getR (x := 108) d34_21 (fs8_12 34 rfl) rfl (lt_w1 rfl) sh107 (rs107_0 R) (by decide) ?_
    refine q_getR (x := 109) d34_24 (fs8_54 34 rfl) rfl (lt_w1 rfl) sh108 (rs108_0 R) (by decide) ?_
    refine q_iload_n d34_27 rfl ?_
    refine q_iaload (a := c) d34_28 (lt_w1 rfl) sh109 rfl (by omega) ?_
    refine q_aload_n d34_29 rfl ?_
    refine q_getR (x := 108) d34_30 (fs8_12 34 rfl) rfl (lt_w1 rfl) sh107 (rs107_0 R) (by decide) ?_
    refine q_getR (x := 110) d34_33 (fs8_57 34 rfl) rfl (lt_w1 rfl) sh108 (rs108_1 R) (by decide) ?_
    refine q_iload_n d34_36 rfl ?_
    refine q_daload (a := c) d34_37 (lt_w1 rfl) sh110 rfl (by omega) ?_
    refine q_invSN (av := [.int (I 109 c), .double (D 110 c)]) (rest := [.int (nI c), .ref 213]) (d' := 1) (mc' := 0) (ms' := 0) d34_38 (nv8_59 34 rfl) rfl rfl (by omega) (Nat.le_of_ble_eq_true rfl) (Nat.le_of_ble_eq_true rfl) (Nat.le_refl _) (Nat.le_refl _) ?_
    refine c15 (v2 h1fc) (v3 h1fc) ?_
    show j_W 34 d 0 0 0 0 41 [some (.ref 107), some (.int (nI c))] [.double (kp (I 109 c) (D 110 c)), .int (nI c), .ref 213] w1 (I, D, RR R) Q
    refine q_dastore (a := c) d34_41 (lt_w1 rfl) sh213 rfl (by omega) ?_
    refine q_aload_n d34_42 rfl ?_
    refine q_getR (x := 220) d34_43 (fs8_38 34 rfl) rfl (lt_w1 rfl) sh107 (rs107_4 R) (by decide) ?_
    refine q_iconst (v := 0) (by decide) d34_46 ?_
    refine q_aaload (c := 4) (a := 0) (x := 221) d34_47 (lt_w1 rfl) sh220 (by decide) rfl (by decide) (rm220 (k := 0) R (by decide)) (by decide) ?_
    refine q_iload_n d34_48 rfl ?_
    refine q_aload_n d34_49 rfl ?_
    refine q_getR (x := 108) d34_50 (fs8_12 34 rfl) rfl (lt_w1 rfl) sh107 (rs107_0 R) (by decide) ?_
    refine q_getR (x := 111) d34_53 (fs8_63 34 rfl) rfl (lt_w1 rfl) sh108 (rs108_2 R) (by decide) ?_
    refine q_iload_n d34_56 rfl ?_
    refine q_zaload (a := c) d34_57 (lt_w1 rfl) sh111 rfl (by omega) ?_
    refine q_if_eq (tgt := 65) d34_58 rfl (fun h2t => ?_) (fun h2f => ?_)
    ·
      refine q_iconst (v := 1) (by decide) d34_65 ?_
      refine q_iload_n d34_66 rfl ?_
      refine q_invSN (av := [.int 1, .int (nI c)]) (rest := [.int (nI c), .ref 221]) (d' := 0) (mc' := 0) (ms' := 0) d34_67 (nv8_67 34 rfl) rfl rfl (by omega) (Nat.le_of_ble_eq_true rfl) (Nat.le_of_ble_eq_true rfl) (Nat.le_refl _) (Nat.le_refl _) ?_
      refine c35n (a := 1) (b := c) (v4 h1fc h2t) (v5 h1fc h2t) ?_
      show j_W 34 d 0 0 0 0 70 [some (.ref 107), some (.int (nI c))] [.int (nI (1 * 32 + c)), .int (nI c), .ref 221] w1 (I, (j_u D 213 c (kp (I 109 c) (D 110 c))), RR R) Q
      refine q_iastore (a := c) d34_70 (lt_w1 rfl) sh221 rfl (by omega) ?_
      refine q_iinc (L' := [some (.ref 107), some (.int (nI (c + 1)))]) (v := (nI (c + 1))) d34_71 rfl (nI_inc _) rfl ?_
      refine q_goto (tgt := 7) d34_74 rfl ?_
      exact r_sub (L' := [some (.ref 107), some (.int (nI (c + 1)))]) ⟨rfl, rfl, trivial⟩ (v6 h1fc h2t)
    ·
      refine q_iconst (v := 0) (by decide) d34_61 ?_
      refine q_goto (tgt := 70) d34_62 rfl ?_
      refine q_iastore (a := c) d34_70 (lt_w1 rfl) sh221 rfl (by omega) ?_
      refine q_iinc (L' := [some (.ref 107), some (.int (nI (c + 1)))]) (v := (nI (c + 1))) d34_71 rfl (nI_inc _) rfl ?_
      refine q_goto (tgt := 7) d34_74 rfl ?_
      exact r_sub (L' := [some (.ref 107), some (.int (nI (c + 1)))]) ⟨rfl, rfl, trivial⟩ (v7 h1fc h2f)

set_option maxRecDepth 10000 in
set_option maxHeartbeats 4000000 in
theorem tcol {d : Nat} {I : Nat → Nat → Int32} {D : Nat → Nat → UInt64} {R : Nat → Nat → Option Nat} {Q : j_Po} {g : Nat}  (hg : isG g) (hd : 0 ≤ d)
    (v1 : ((I g 5) ≤ 0) → Q (some (.int 1)) w1 (I, D, RR R))
    (v2 : (¬ (I g 5) ≤ 0) → Q (some (.int (I g 5))) w1 (I, D, RR R)) : j_Call d 25 [.ref g] w1 (I, D, RR R) 0 0 Q := by
  refine q_enter (L := [some (.ref g)]) j_m25 (Nat.le_of_ble_eq_true rfl) rfl ?_
  refine q_aload_n d25_0 rfl ?_
  refine q_getI d25_1 (fs3_35 25 rfl) rfl (isG_lt hg) (isG_sh hg) ?_
  refine q_if_le (tgt := 14) d25_4 rfl (fun h1t => ?_) (fun h1f => ?_)
  ·
    refine q_iconst (v := 1) (by decide) d25_14 ?_
    exact q_iret d25_15 rfl (Nat.le_refl _) (Nat.le_refl _) (v1 h1t)
  ·
    refine q_aload_n d25_7 rfl ?_
    refine q_getI d25_8 (fs3_35 25 rfl) rfl (isG_lt hg) (isG_sh hg) ?_
    refine q_goto (tgt := 15) d25_11 rfl ?_
    exact q_iret d25_15 rfl (Nat.le_refl _) (Nat.le_refl _) (v2 h1f)

set_option maxRecDepth 10000 in
set_option maxHeartbeats 4000000 in
theorem t44e {d : Nat} {I : Nat → Nat → Int32} {D : Nat → Nat → UInt64} {R : Nat → Nat → Option Nat} {Q : j_Po} {t : Nat}  (hR : WFR R) (ht : t < 6) (hd : 1 ≤ d)
    (v1 : j_W 44 d 0 0 0 0 13 [some (.ref 204), some (.ref 108), some (.int (nI t)), some (.ref ((R 113 t).getD 0)), some (.int 0), some (.int 0), none] [] w1 (I, D, RR R) Q) : j_Call d 44 [.ref 204, .ref 108, .int (nI t)] w1 (I, D, RR R) 0 0 Q := by
  refine q_enter (L := [some (.ref 204), some (.ref 108), some (.int (nI t)), none, none, none, none]) j_m44 (Nat.le_of_ble_eq_true rfl) rfl ?_
  refine q_aload_n d44_0 rfl ?_
  refine q_getR (x := 113) d44_1 (fs4_42 44 rfl) rfl (lt_w1 rfl) sh108 (rs108_4 R) (by decide) ?_
  refine q_iload_n d44_4 rfl ?_
  have g2 := hR.g t (by omega)
  refine q_aaload (c := 7) (a := t) (x := ((R 113 t).getD 0)) d44_5 (lt_w1 rfl) sh113 (by decide) rfl (by omega) ((RR_d rfl).trans g2.1) (lt1000 (isG_lt g2.2)) ?_
  refine q_astore_n (L' := [some (.ref 204), some (.ref 108), some (.int (nI t)), some (.ref ((R 113 t).getD 0)), none, none, none]) d44_6 (Nat.le_of_ble_eq_true rfl) (Nat.ne_of_lt (Nat.lt_trans (lt1000 (isG_lt g2.2)) (by decide))) rfl ?_
  refine q_iconst (v := 0) (by decide) d44_7 ?_
  refine q_istore (L' := [some (.ref 204), some (.ref 108), some (.int (nI t)), some (.ref ((R 113 t).getD 0)), some (.int 0), none, none]) d44_8 (Nat.le_of_ble_eq_true rfl) rfl ?_
  refine q_iconst (v := 0) (by decide) d44_10 ?_
  refine q_istore (L' := [some (.ref 204), some (.ref 108), some (.int (nI t)), some (.ref ((R 113 t).getD 0)), some (.int 0), some (.int 0), none]) d44_11 (Nat.le_of_ble_eq_true rfl) rfl ?_
  exact r_sub (L' := [some (.ref 204), some (.ref 108), some (.int (nI t)), some (.ref ((R 113 t).getD 0)), some (.int 0), some (.int 0), none]) ⟨rfl, rfl, rfl, rfl, rfl, rfl, trivial⟩ v1

set_option maxRecDepth 10000 in
set_option maxHeartbeats 4000000 in
theorem t44h {d : Nat} {I : Nat → Nat → Int32} {D : Nat → Nat → UInt64} {R : Nat → Nat → Option Nat} {Q : j_Po} {t : Nat} {g : Nat} {x : Int32} {k : Nat} {a : Nat} (hR : WFR R) (hg : isG g) (hk : k ≤ 24) (h1 : I g 1 = nI a) (ha : a < 24) (hd : 1 ≤ d)
    (v1 : (24 ≤ k) → Q (some (.int x)) w1 (I, D, RR R))
    (v2 : (¬ 24 ≤ k) → (((I 207 k) &&& (vry I g)) = 0) → j_W 44 d 0 0 0 0 13 [some (.ref 204), some (.ref 108), some (.int (nI t)), some (.ref g), some (.int x), some (.int (nI (k + 1))), none] [] w1 (I, D, RR R) Q)
    (v3 : (¬ 24 ≤ k) → (¬ ((I 207 k) &&& (vry I g)) = 0) → ((¬ ((I 206 a) >>> ((nI k) &&& 31)) &&& 1 = 0)) → ((I ((R 112 k).getD 0) 1) ≤ 0) → j_W 44 d 0 0 0 0 13 [some (.ref 204), some (.ref 108), some (.int (nI t)), some (.ref g), some (.int x), some (.int (nI (k + 1))), none] [] w1 (I, D, RR R) Q)
    (v4 : (¬ 24 ≤ k) → (¬ ((I 207 k) &&& (vry I g)) = 0) → ((¬ ((I 206 a) >>> ((nI k) &&& 31)) &&& 1 = 0)) → (¬ (I ((R 112 k).getD 0) 1) ≤ 0) → j_W 44 d 0 0 0 0 13 [some (.ref 204), some (.ref 108), some (.int (nI t)), some (.ref g), some (.int (x ||| (1 <<< ((nI k) &&& 31)))), some (.int (nI (k + 1))), none] [] w1 (I, D, RR R) Q)
    (v5 : (¬ 24 ≤ k) → (¬ ((I 207 k) &&& (vry I g)) = 0) → (¬ ((¬ ((I 206 a) >>> ((nI k) &&& 31)) &&& 1 = 0))) → j_W 44 d 0 0 0 0 13 [some (.ref 204), some (.ref 108), some (.int (nI t)), some (.ref g), some (.int x), some (.int (nI (k + 1))), none] [] w1 (I, D, RR R) Q) : j_W 44 d 0 0 0 0 13 [some (.ref 204), some (.ref 108), some (.int (nI t)), some (.ref g), some (.int x), some (.int (nI k)), none] [] w1 (I, D, RR R) Q := by
  refine q_iload d44_13 rfl ?_
  refine q_bipush (v := 24) (by decide) d44_15 ?_
  refine q_icmp_ge (tgt := 88) d44_17 rfl (fun h1t => ?_) (fun h1f => ?_)
  ·
    have h1tc : 24 ≤ k := (nI_leI (by omega) (by omega)).mp h1t
    refine q_iload d44_88 rfl ?_
    exact q_iret d44_90 rfl (Nat.le_refl _) (Nat.le_refl _) (v1 h1tc)
  ·
    have h1fc : ¬ 24 ≤ k := mt (nI_leI (by omega) (by omega)).mpr h1f
    refine q_aload_n d44_20 rfl ?_
    refine q_getR (x := 207) d44_21 (fs4_18 44 rfl) rfl (lt_w1 rfl) sh204 (rs204_2 R) (by decide) ?_
    refine q_iload d44_24 rfl ?_
    refine q_iaload (a := k) d44_26 (lt_w1 rfl) sh207 rfl (by omega) ?_
    refine q_aload_n d44_27 rfl ?_
    refine q_invV (o := g) (ci := 3) (av := []) (rest := [.int (I 207 k)]) (d' := 0) (mc' := 0) (ms' := 0) d44_28 (cv4_85 44 rfl) rfl (by decide) rfl rfl (by omega) (Nat.le_of_ble_eq_true rfl) (Nat.le_of_ble_eq_true rfl) (isG_lt hg) (isG_sh hg) (Nat.le_refl _) (Nat.le_refl _) ?_
    refine c28 hg  ?_
    show j_W 44 d 0 0 0 0 31 [some (.ref 204), some (.ref 108), some (.int (nI t)), some (.ref g), some (.int x), some (.int (nI k)), none] [.int (vry I g), .int (I 207 k)] w1 (I, D, RR R) Q
    refine q_iand d44_31 ?_
    refine q_if_eq (tgt := 39) d44_32 rfl (fun h2t => ?_) (fun h2f => ?_)
    ·
      refine q_iconst (v := 0) (by decide) d44_39 ?_
      refine q_istore (L' := [some (.ref 204), some (.ref 108), some (.int (nI t)), some (.ref g), some (.int x), some (.int (nI k)), some (.int 0)]) d44_40 (Nat.le_of_ble_eq_true rfl) rfl ?_
      refine q_iload d44_42 rfl ?_
      refine q_if_eq (tgt := 82) d44_44 rfl (fun _ => ?_) (fun h => absurd h (by decide))
      refine q_iinc (L' := [some (.ref 204), some (.ref 108), some (.int (nI t)), some (.ref g), some (.int x), some (.int (nI (k + 1))), some (.int 0)]) (v := (nI (k + 1))) d44_82 rfl (nI_inc _) rfl ?_
      refine q_goto (tgt := 13) d44_85 rfl ?_
      exact r_sub (L' := [some (.ref 204), some (.ref 108), some (.int (nI t)), some (.ref g), some (.int x), some (.int (nI (k + 1))), none]) ⟨rfl, rfl, rfl, rfl, rfl, rfl, trivial⟩ (v2 h1fc h2t)
    ·
      refine q_iconst (v := 1) (by decide) d44_35 ?_
      refine q_goto (tgt := 40) d44_36 rfl ?_
      refine q_istore (L' := [some (.ref 204), some (.ref 108), some (.int (nI t)), some (.ref g), some (.int x), some (.int (nI k)), some (.int 1)]) d44_40 (Nat.le_of_ble_eq_true rfl) rfl ?_
      refine q_iload d44_42 rfl ?_
      refine q_if_eq (tgt := 82) d44_44 rfl (fun h => absurd h (by decide)) (fun _ => ?_)
      refine q_aload_n d44_47 rfl ?_
      refine q_getR (x := 206) d44_48 (fs4_15 44 rfl) rfl (lt_w1 rfl) sh204 (rs204_1 R) (by decide) ?_
      refine q_aload_n d44_51 rfl ?_
      refine q_getI d44_52 (fs4_52 44 rfl) rfl (isG_lt hg) (isG_sh hg) ?_
      refine r_int (y := (nI a)) (show I g 1 = (nI a) from h1) ?_
      refine q_iaload (a := a) d44_55 (lt_w1 rfl) sh206 rfl (by omega) ?_
      refine q_iload d44_56 rfl ?_
      refine q_invSN (av := [.int (I 206 a), .int (nI k)]) (rest := []) (d' := 0) (mc' := 0) (ms' := 0) d44_58 (nv4_55 44 rfl) rfl rfl (by omega) (Nat.le_of_ble_eq_true rfl) (Nat.le_of_ble_eq_true rfl) (Nat.le_refl _) (Nat.le_refl _) ?_
      refine p21  (fun h3 => ?_) (fun h3 => ?_)
      ·
        show j_W 44 d 0 0 0 0 61 [some (.ref 204), some (.ref 108), some (.int (nI t)), some (.ref g), some (.int x), some (.int (nI k)), some (.int 1)] [.int 1] w1 (I, D, RR R) Q
        refine q_if_eq (tgt := 82) d44_61 rfl (fun h => absurd h (by decide)) (fun _ => ?_)
        refine q_aload_n d44_64 rfl ?_
        refine q_iload d44_65 rfl ?_
        refine q_invV (o := 108) (ci := 0) (av := [.int (nI k)]) (rest := []) (d' := 0) (mc' := 0) (ms' := 0) d44_67 (cv4_71 44 rfl) rfl (by decide) rfl rfl (by omega) (Nat.le_of_ble_eq_true rfl) (Nat.le_of_ble_eq_true rfl) (lt_w1 rfl) sh108 (Nat.le_refl _) (Nat.le_refl _) ?_
        refine s14 (k := k) hR (by first | omega | decide) (Nat.le_refl _) (fun c4 => ?_) (fun c5 => ?_)
        ·
          show j_W 44 d 0 0 0 0 70 [some (.ref 204), some (.ref 108), some (.int (nI t)), some (.ref g), some (.int x), some (.int (nI k)), some (.int 1)] [.int 0] w1 (I, D, RR R) Q
          refine q_if_eq (tgt := 82) d44_70 rfl (fun _ => ?_) (fun h => absurd h (by decide))
          refine q_iinc (L' := [some (.ref 204), some (.ref 108), some (.int (nI t)), some (.ref g), some (.int x), some (.int (nI (k + 1))), some (.int 1)]) (v := (nI (k + 1))) d44_82 rfl (nI_inc _) rfl ?_
          refine q_goto (tgt := 13) d44_85 rfl ?_
          exact r_sub (L' := [some (.ref 204), some (.ref 108), some (.int (nI t)), some (.ref g), some (.int x), some (.int (nI (k + 1))), none]) ⟨rfl, rfl, rfl, rfl, rfl, rfl, trivial⟩ (v3 h1fc h2f h3 c4)
        ·
          show j_W 44 d 0 0 0 0 70 [some (.ref 204), some (.ref 108), some (.int (nI t)), some (.ref g), some (.int x), some (.int (nI k)), some (.int 1)] [.int 1] w1 (I, D, RR R) Q
          refine q_if_eq (tgt := 82) d44_70 rfl (fun h => absurd h (by decide)) (fun _ => ?_)
          refine q_iload d44_73 rfl ?_
          refine q_iconst (v := 1) (by decide) d44_75 ?_
          refine q_iload d44_76 rfl ?_
          refine q_ishl d44_78 ?_
          refine q_ior d44_79 ?_
          refine q_istore (L' := [some (.ref 204), some (.ref 108), some (.int (nI t)), some (.ref g), some (.int (x ||| (1 <<< ((nI k) &&& 31)))), some (.int (nI k)), some (.int 1)]) d44_80 (Nat.le_of_ble_eq_true rfl) rfl ?_
          refine q_iinc (L' := [some (.ref 204), some (.ref 108), some (.int (nI t)), some (.ref g), some (.int (x ||| (1 <<< ((nI k) &&& 31)))), some (.int (nI (k + 1))), some (.int 1)]) (v := (nI (k + 1))) d44_82 rfl (nI_inc _) rfl ?_
          refine q_goto (tgt := 13) d44_85 rfl ?_
          exact r_sub (L' := [some (.ref 204), some (.ref 108), some (.int (nI t)), some (.ref g), some (.int (x ||| (1 <<< ((nI k) &&& 31)))), some (.int (nI (k + 1))), none]) ⟨rfl, rfl, rfl, rfl, rfl, rfl, trivial⟩ (v4 h1fc h2f h3 c5)
      ·
        show j_W 44 d 0 0 0 0 61 [some (.ref 204), some (.ref 108), some (.int (nI t)), some (.ref g), some (.int x), some (.int (nI k)), some (.int 1)] [.int 0] w1 (I, D, RR R) Q
        refine q_if_eq (tgt := 82) d44_61 rfl (fun _ => ?_) (fun h => absurd h (by decide))
        refine q_iinc (L' := [some (.ref 204), some (.ref 108), some (.int (nI t)), some (.ref g), some (.int x), some (.int (nI (k + 1))), some (.int 1)]) (v := (nI (k + 1))) d44_82 rfl (nI_inc _) rfl ?_
        refine q_goto (tgt := 13) d44_85 rfl ?_
        exact r_sub (L' := [some (.ref 204), some (.ref 108), some (.int (nI t)), some (.ref g), some (.int x), some (.int (nI (k + 1))), none]) ⟨rfl, rfl, rfl, rfl, rfl, rfl, trivial⟩ (v5 h1fc h2f h3)

/-- a level holds a value of c -/
def LC (I : Nat → Nat → Int32) (D : Nat → Nat → UInt64) (L c : Nat) (v : Vl) : Prop := VR (I (221 + L) c) (D (213 + L) c) v
/-- a level holds the inputs -/
def LE (β : Bd) (I : Nat → Nat → Int32) (D : Nat → Nat → UInt64) (L : Nat) (η : VEnv) : Prop := ∀ c, c < 24 → bZ β c = 0 → LC I D L c (η c)
/-- nothing but one level is other -/
def FL (L : Nat) (I : Nat → Nat → Int32) (D : Nat → Nat → UInt64) (I' : Nat → Nat → Int32) (D' : Nat → Nat → UInt64) : Prop := (∀ q, q ≠ 221 + L → I' q = I q) ∧ ∀ q, q ≠ 213 + L → D' q = D q
section LD
variable {d : Nat} {I : Nat → Nat → Int32} {D : Nat → Nat → UInt64} {R : Nat → Nat → Option Nat} {Q : j_Po} {β : Bd} {L : Nat}
theorem LC.cg {I' : Nat → Nat → Int32} {D' : Nat → Nat → UInt64} {c : Nat} {v : Vl} (h : LC I D L c v) (h1 : I' (221 + L) c = I (221 + L) c) (h2 : D' (213 + L) c = D (213 + L) c) : LC I' D' L c v := by
  unfold LC at h ⊢; rw [h1, h2]; exact h
theorem VR.k {x : UInt64} (hx : Sm x) : VR 0 x (0, x) := ⟨rfl, fun _ => rfl, hx, Nat.zero_lt_succ _⟩
theorem VR.w {x : UInt64} {w : Nat} {y : UInt64} (hx : Sm x) (hw : w < 200) (h0 : w ≠ 0) : VR (nI w) x (w, y) := ⟨rfl, fun h => absurd h h0, hx, hw⟩
theorem c43 (h1 : 1 ≤ L) (h7 : L < 7) (hd : 1 ≤ d) (hq : ∀ I' D', FL L I D I' D' → (∀ c, c < 24 → I' (221 + L) c = I (221 + (L - 1)) c ∧ D' (213 + L) c = D (213 + (L - 1)) c) → Q none w1 (I', D', RR R)) : j_Call d 43 [.ref 107, .int (nI L)] w1 (I, D, RR R) 0 0 Q := by
  refine t43 h1 h7 hd (fun h => by omega) (fun _ _ => hq _ _ ⟨fun q h => j_uo_ne _ _ h, fun q h => j_uo_ne _ _ h⟩ (fun c hc => ⟨?_, ?_⟩)) (fun _ h => absurd h7 h)
  · rw [j_uo_same, va_cpy_in _ _ (by omega) (by omega)]; congr 1; omega
  · rw [j_uo_same, va_cpy_in _ _ (by omega) (by omega)]; congr 1; omega
theorem c45 {t i j : Nat} {η : VEnv} (hR : WFR R) (hV : BV β) (hC : CB β I D R) (ht : t < 6) (hl : bL β t = true) (h1 : 1 ≤ L) (h7 : L < 7) (hi : i < bm β t) (hj : j < wd β t) (hd : 2 ≤ d) (hE : LE β I D L η)
    (hq : ∀ I' D', FL L I D I' D' → (∀ c, c ≠ b1 β t → b2 β t ≠ some c → I' (221 + L) c = I (221 + L) c ∧ D' (213 + L) c = D (213 + L) c) → LE β I' D' L (supV β η t i j) → Q none w1 (I', D', RR R)) : j_Call d 45 [.ref 107, .int (nI L), .ref (go R t), .int (nI i), .int (nI j)] w1 (I, D, RR R) 0 0 Q := by
  obtain ⟨g0, g1⟩ := hC.2 t ht
  obtain ⟨a1, a2, a3, a4, a5, a6, a7⟩ := g1 hl
  obtain ⟨w1', w2, w3, w4, w5, w6, w7, w8, w9, w10, w11⟩ := hV.2.1 t ht hl
  have hG := hR.g t ht
  have hgb := isBG_rng (hR.2.1 t ht).2
  have k109 : ∀ c, c < 24 → I 109 c = nI (bK β c) := fun c hc => (hC.1 c hc).1
  have hj8 : j < 8 := by
    unfold wd at hj; split at hj <;> omega
  have sm1 : Sm (D (go R t + 1) i) := by rw [a6 i hi]; exact w10 i hi
  refine t45 hG.2 h1 h7 (by omega) hj8 a2 w2 hd (fun h => by omega) (fun _ h => by omega) (fun _ _ h => absurd h (Int32.not_lt.mpr (nI_le (a := 0) (Nat.zero_le _) (by omega)))) (fun _ _ _ h => by omega) (fun _ _ _ _ h => absurd h (Int32.not_lt.mpr (nI_le (a := 0) (Nat.zero_le _) (by omega)))) (fun _ _ _ _ _ _ => sm1) (fun _ _ _ _ _ _ => Nat.le_refl _) (fun _ _ _ _ _ _ => ?_) (fun _ _ _ _ _ h => absurd hj8 h)
  rw [k109 _ w2, a6 i hi]
  have e3 : j_u I (221 + L) (b1 β t) 0 (go R t) 3 = oI (b2 β t) := by rw [j_u_o _ _ _ (by omega)]; exact a3
  cases hb : b2 β t with
  | none =>
    rw [hb] at e3
    refine t45n hG.2 h7 e3 hd (fun h => absurd e3 h) (fun _ => hq _ _ ⟨fun q h => by funext k; rw [j_u_o _ _ _ h], fun q h => by funext k; rw [j_u_o _ _ _ h]⟩ (fun c q1 _ => ⟨j_u_k _ _ q1, j_u_k _ _ q1⟩) (fun c hc hz => ?_))
    unfold supV
    rw [hb]
    unfold LC
    by_cases e : c = b1 β t
    · subst e; rw [j_u_same, j_u_same, fu_s]; exact VR.k (kp_sm (w10 i hi)).1
    · rw [j_u_k _ _ e, j_u_k _ _ e, fu_n e]; exact hE c hc hz
  | some o =>
    rw [hb] at e3
    obtain ⟨o1, o2, o3⟩ := w4 o hb
    have hjn : j < bn β t := by unfold wd at hj; rw [if_neg (fun h => by rw [hb] at h; cases h)] at hj; exact hj
    have e2 : j_u D (213 + L) (b1 β t) (kp (nI (bK β (b1 β t))) (bA β (2 * t) i)) (go R t + 2) j = bA β (2 * t + 1) j := by rw [j_u_o _ _ _ (by omega)]; exact a7 j hjn
    refine t45w (e := o) hG.2 h7 hj8 e3 o1 hd (fun _ => by rw [e2]; exact w11 j hjn) (fun _ => Nat.le_refl _) (fun _ => ?_) (fun h => absurd h (nI_nm1 o1))
    rw [e2, j_u_o _ _ _ (by omega), k109 _ o1]
    refine hq _ _ ⟨fun q h => by funext k; rw [j_u_o _ _ _ h, j_u_o _ _ _ h], fun q h => by funext k; rw [j_u_o _ _ _ h, j_u_o _ _ _ h]⟩ (fun c q1 q2 => ?_) (fun c hc hz => ?_)
    · have : c ≠ o := fun h => q2 (by rw [hb, h])
      rw [j_u_k _ _ this, j_u_k _ _ q1, j_u_k _ _ this, j_u_k _ _ q1]; exact ⟨rfl, rfl⟩
    · unfold supV
      rw [hb]
      unfold LC
      by_cases e : c = o
      · subst e; rw [j_u_same, j_u_same, fu_n o2]; simp only [fu_s]; exact VR.k (kp_sm (w11 j hjn)).1
      · rw [j_u_k _ _ e, j_u_k _ _ e]
        by_cases e1 : c = b1 β t
        · subst e1; rw [j_u_same, j_u_same, fu_s]; exact VR.k (kp_sm (w10 i hi)).1
        · rw [j_u_k _ _ e1, j_u_k _ _ e1, fu_n e1]; simp only [fu_n e]; exact hE c hc hz
/-- the inputs as they are -/
def env (β : Bd) : VEnv := fun c => if bF β c = true then (0, kp (nI (bK β c)) (bX β c)) else (32 + c, FP.dconst0)
theorem c34 (hC : CB β I D R) (hd : 2 ≤ d) (hq : ∀ I' D', I' 107 7 = 0 → (∀ i, i ≠ 7 → I' 107 i = I 107 i) → (∀ q, q ≠ 107 → q ≠ 221 → I' q = I q) → (∀ q, q ≠ 213 → D' q = D q) → (∀ c, c < 24 → LC I' D' 0 c (env β c)) → Q none w1 (I', D', RR R)) : j_Call d 34 [.ref 107] w1 (I, D, RR R) 0 0 Q := by
  have key : ∀ (r c : Nat) (J : Nat → Nat → Int32) (E : Nat → Nat → UInt64), r + c = 24 → J 107 7 = 0 → (∀ i, i ≠ 7 → J 107 i = I 107 i) → (∀ q, q ≠ 107 → q ≠ 221 → J q = I q) → (∀ q, q ≠ 213 → E q = D q) → (∀ k, k < c → LC J E 0 k (env β k)) → j_W 34 d 0 0 0 0 7 [some (.ref 107), some (.int (nI c))] [] w1 (J, E, RR R) Q := by
    intro r
    induction r with
    | zero =>
      intro c J E hc h1 h2 h3 h4 h5
      have : c = 24 := by omega
      subst this
      exact t34h (by decide) hd (fun _ => hq J E h1 h2 h3 h4 h5) (fun h => absurd (Nat.le_refl _) h) (fun h => absurd (Nat.le_refl _) h) (fun h => absurd (Nat.le_refl _) h) (fun h => absurd (Nat.le_refl _) h) (fun h => absurd (Nat.le_refl _) h) (fun h => absurd (Nat.le_refl _) h)
    | succ r ih =>
      intro c J E hc h1 h2 h3 h4 h5
      have hc24 : c < 24 := by omega
      obtain ⟨c1, c2, c3, c4, -⟩ := hC.1 c hc24
      have e109 : J 109 c = nI (bK β c) := by rw [h3 109 (by decide) (by decide)]; exact c1
      have e111 : J 111 c = bi (bF β c) := by rw [h3 111 (by decide) (by decide)]; exact c4
      have e110 : E 110 c = D 110 c := by rw [h4 110 (by decide)]
      have go : ∀ x : Int32, VR x (kp (nI (bK β c)) (D 110 c)) (env β c) → j_W 34 d 0 0 0 0 7 [some (.ref 107), some (.int (nI (c + 1)))] [] w1 (j_u J 221 c x, j_u E 213 c (kp (J 109 c) (E 110 c)), RR R) Q := fun x hx => by
        rw [e109, e110]
        refine ih (c + 1) _ _ (by omega) (by rw [j_u_o _ _ _ (by decide)]; exact h1) (fun i hi => by rw [j_u_o _ _ _ (by decide)]; exact h2 i hi) (fun q q1 q2 => by rw [← h3 q q1 q2]; funext i; rw [j_u_o _ _ _ q2]) (fun q q1 => by rw [← h4 q q1]; funext i; rw [j_u_o _ _ _ q1]) (fun k hk => ?_)
        unfold LC
        by_cases e : k = c
        · subst e; rw [j_u_same, j_u_same]; exact hx
        · rw [j_u_k _ _ e, j_u_k _ _ e]; exact h5 k (by omega)
      refine t34h (by omega) hd (fun h => absurd h (by omega)) (fun _ => by rw [e110]; exact c3) (fun _ => Nat.le_refl _) (fun _ _ => by decide) (fun _ _ => hc24) (fun _ h => go _ ?_) (fun _ h => go _ ?_)
      · have hf : bF β c = false := by
          cases hb : bF β c with
          | false => rfl
          | true => rw [e111, hb] at h; exact absurd h (by decide)
        unfold env
        rw [if_neg (by rw [hf]; simp)]
        exact VR.w (kp_sm c3).1 (by omega) (by omega)
      · have hf : bF β c = true := by
          cases hb : bF β c with
          | true => rfl
          | false => rw [e111, hb] at h; exact absurd rfl h
        unfold env
        rw [if_pos hf, ← c2 hf]
        exact VR.k (kp_sm c3).1
  refine t34e hd (key 24 0 _ D rfl (by rw [j_u_same]) (fun i hi => j_u_k _ _ hi) (fun q q1 _ => by funext i; rw [j_u_o _ _ _ q1]) (fun _ _ => rfl) (fun k hk => absurd hk (Nat.not_lt_zero k)))
theorem c60 {c : Nat} {x : UInt64} {η : VEnv} (hC : CB β I D R) (hc : c < 24) (hx : Sm x) (hd : 2 ≤ d) (hE : LE β I D 0 η) (hq : ∀ I' D', FL 0 I D I' D' → LE β I' D' 0 (fu η c (0, kp (nI (bK β c)) x)) → Q none w1 (I', D', RR R)) : j_Call d 60 [.ref 107, .int (nI c), .double x] w1 (I, D, RR R) 0 0 Q := by
  have e109 : I 109 c = nI (bK β c) := (hC.1 c hc).1
  refine t60 hc hd hx (Nat.le_refl _) (hq _ _ ⟨fun q h => by funext i; rw [j_u_o _ _ _ h], fun q h => by funext i; rw [j_u_o _ _ _ h]⟩ (fun k hk hz => ?_))
  rw [e109]
  unfold LC
  by_cases e : k = c
  · subst e; rw [j_u_same, j_u_same, fu_s]; exact VR.k (kp_sm hx).1
  · rw [j_u_k _ _ e, j_u_k _ _ e, fu_n e]; exact hE k hk hz
theorem and_0 {x y : Int32} : (x &&& y) = 0 ↔ ∀ v, v < 32 → (bt x v && bt y v) = false := by
  constructor
  · intro h v hv
    rw [← b_and, h, b_0]
  · intro h
    exact b_ext (fun i hi => by rw [b_and, b_0]; exact h i hi)
/-- what a table moves -/
def slB (β : Bd) (I : Nat → Nat → Int32) (t c : Nat) : Bool := anyB 24 (fun v => bt (I 207 c) v && vr β t v) && (bt (I 206 (bO β t)) c && decide (bZ β c ≠ 0))
theorem c44 {t : Nat} (hR : WFR R) (hV : BV β) (hC : CB β I D R) (ht : t < 6) (hl : bL β t = true) (hd : 1 ≤ d) (hq : ∀ x, (∀ c, c < 24 → bt x c = slB β I t c) → (∀ c, 24 ≤ c → c < 32 → bt x c = false) → Q (some (.int x)) w1 (I, D, RR R)) : j_Call d 44 [.ref 204, .ref 108, .int (nI t)] w1 (I, D, RR R) 0 0 Q := by
  obtain ⟨g0, g1⟩ := hC.2 t ht
  obtain ⟨a1, -⟩ := g1 hl
  have w1' := (hV.2.1 t ht hl).1
  have w4 := (hV.2.1 t ht hl).2.2.2.1
  have hG := hR.g t ht
  have key : ∀ (r k : Nat) (x : Int32), r + k = 24 → (∀ c, c < k → bt x c = slB β I t c) → (∀ c, k ≤ c → c < 32 → bt x c = false) → j_W 44 d 0 0 0 0 13 [some (.ref 204), some (.ref 108), some (.int (nI t)), some (.ref (go R t)), some (.int x), some (.int (nI k)), none] [] w1 (I, D, RR R) Q := by
    intro r
    induction r with
    | zero =>
      intro k x hk h1 h2
      have : k = 24 := by omega
      subst this
      exact t44h hR hG.2 (by decide) a1 w1' hd (fun _ => hq x h1 h2) (fun h => absurd (Nat.le_refl _) h) (fun h => absurd (Nat.le_refl _) h) (fun h => absurd (Nat.le_refl _) h) (fun h => absurd (Nat.le_refl _) h)
    | succ r ih =>
      intro k x hk h1 h2
      have hk24 : k < 24 := by omega
      have hz : I ((R 112 k).getD 0) 1 ≤ 0 ↔ bZ β k = 0 := by
        show I (fo R k) 1 ≤ 0 ↔ _
        rw [(hC.1 k hk24).2.2.2.2.1, show (0 : Int32) = nI 0 from rfl, nI_leI (by have := (hV.1 k hk24).2.1; omega) (by decide)]; omega
      have hv : ((I 207 k) &&& (vry I (go R t))) = 0 ↔ anyB 24 (fun v => bt (I 207 k) v && vr β t v) = false := by
        rw [and_0]
        constructor
        · intro h
          rw [Bool.eq_false_iff]
          intro h3
          obtain ⟨v, v1, v2⟩ := anyB_iff.mp h3
          have := h v (by omega)
          rw [vry_b hV ht (hC.2 t ht) hl (by omega)] at this
          rw [this] at v2; cases v2
        · intro h v hv
          rw [vry_b hV ht (hC.2 t ht) hl hv]
          by_cases v24 : v < 24
          · cases h3 : (bt (I 207 k) v && vr β t v) with
            | false => rfl
            | true => rw [anyB_iff.mpr ⟨v, v24, h3⟩] at h; cases h
          · have : vr β t v = false := by
              unfold vr
              have hw := (hV.2.1 t ht hl).2.1
              rw [decide_eq_false (by omega), decide_eq_false (fun e => by have := (w4 v e).1; omega)]; rfl
            rw [this, Bool.and_false]
      have no : slB β I t k = false → j_W 44 d 0 0 0 0 13 [some (.ref 204), some (.ref 108), some (.int (nI t)), some (.ref (go R t)), some (.int x), some (.int (nI (k + 1))), none] [] w1 (I, D, RR R) Q := fun h => ih (k + 1) x (by omega) (fun c hc => by
        by_cases e : c = k
        · subst e; rw [h2 c (Nat.le_refl _) (by omega), h]
        · exact h1 c (by omega)) (fun c hc1 hc2 => h2 c (by omega) hc2)
      refine t44h hR hG.2 (by omega) a1 w1' hd (fun h => absurd h (by omega)) (fun _ h => no ?_) (fun _ h h3 h4 => no ?_) (fun _ h h3 h4 => ih (k + 1) _ (by omega) (fun c hc => ?_) (fun c hc1 hc2 => ?_)) (fun _ h h3 => no ?_)
      · unfold slB; rw [hv.mp h]; rfl
      · unfold slB; rw [decide_eq_false (fun q => q (hz.mp h4)), Bool.and_false, Bool.and_false]
      · rw [b_or, bt_one (by omega) (by omega)]
        by_cases e : c = k
        · subst e
          rw [decide_eq_true rfl, Bool.or_true]
          unfold slB
          rw [(hn_t (by omega)).mp h3, decide_eq_true (show bZ β c ≠ 0 from fun q => h4 (hz.mpr q))]
          cases h5 : anyB 24 (fun v => bt (I 207 c) v && vr β t v) with
          | true => rfl
          | false => exact absurd (hv.mpr h5) h
        · rw [decide_eq_false e, Bool.or_false]; exact h1 c (by omega)
      · rw [b_or, bt_one (by omega) hc2, decide_eq_false (by omega), Bool.or_false]; exact h2 c (by omega) hc2
      · unfold slB; rw [(hn_0 (by omega)).mp (Classical.byContradiction h3), Bool.false_and, Bool.and_false]
  exact t44e hR ht hd (key 24 0 0 rfl (fun c hc => absurd hc (Nat.not_lt_zero c)) (fun c _ hc => b_0 c))
end LD
