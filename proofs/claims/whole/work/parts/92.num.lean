/-! the class looks at a number -/
set_option maxRecDepth 10000 in
set_option maxHeartbeats 4000000 in
theorem s84e {d : Nat} {I : Nat → Nat → Int32} {D : Nat → Nat → UInt64} {R : Nat → Nat → Option Nat} {Q : j_Po}  {T : Nat → Nat} {n b : Nat} (hT : TC T n I) (hb : I 97 3 = nI b) (hn9 : n ≤ 96) (hd : 1 ≤ d)
    (v1 : j_W 84 d 0 0 0 0 12 [some (.ref 97), some (.int 0), some (.int 0), some (.int 0), some (.int (nI b)), none, none] [] w1 (I, D, RR R) Q) : j_Call d 84 [.ref 97] w1 (I, D, RR R) 0 0 Q := by
  refine q_enter (L := [some (.ref 97), none, none, none, none, none, none]) j_m84 (Nat.le_of_ble_eq_true rfl) rfl ?_
  refine q_iconst (v := 0) (by decide) d84_0 ?_
  refine q_istore_n (L' := [some (.ref 97), some (.int 0), none, none, none, none, none]) d84_1 (Nat.le_of_ble_eq_true rfl) rfl ?_
  refine q_iconst (v := 0) (by decide) d84_2 ?_
  refine q_istore_n (L' := [some (.ref 97), some (.int 0), some (.int 0), none, none, none, none]) d84_3 (Nat.le_of_ble_eq_true rfl) rfl ?_
  refine q_iconst (v := 0) (by decide) d84_4 ?_
  refine q_istore_n (L' := [some (.ref 97), some (.int 0), some (.int 0), some (.int 0), none, none, none]) d84_5 (Nat.le_of_ble_eq_true rfl) rfl ?_
  refine q_aload_n d84_6 rfl ?_
  refine q_getI d84_7 (fs5_48 84 rfl) rfl (lt_w1 rfl) sh97 ?_
  refine r_int (y := (nI b)) (show I 97 3 = (nI b) from hb) ?_
  refine q_istore (L' := [some (.ref 97), some (.int 0), some (.int 0), some (.int 0), some (.int (nI b)), none, none]) d84_10 (Nat.le_of_ble_eq_true rfl) rfl ?_
  exact r_sub (L' := [some (.ref 97), some (.int 0), some (.int 0), some (.int 0), some (.int (nI b)), none, none]) ⟨rfl, rfl, rfl, rfl, rfl, trivial⟩ v1

set_option maxRecDepth 10000 in
set_option maxHeartbeats 4000000 in
theorem s84a {d : Nat} {I : Nat → Nat → Int32} {D : Nat → Nat → UInt64} {R : Nat → Nat → Option Nat} {Q : j_Po} {w : Nat} {m : Nat} {b : Nat} {T : Nat → Nat} {n : Nat} (hT : TC T n I) (hb : I 97 3 = nI b) (hn9 : n ≤ 96) (hk : (b + m) ≤ n) (hd : 1 ≤ d)
    (v1 : (n ≤ (b + m)) → j_W 84 d 0 0 0 0 68 [some (.ref 97), some (.int (nI w)), some (.int (nI m)), some (.int 0), some (.int (nI (b + m))), none, none] [] w1 (I, D, RR R) Q)
    (v2 : (¬ n ≤ (b + m)) → (T (b + m)) < 256)
    (v3 : (¬ n ≤ (b + m)) → (isDg (T (b + m))) → (4 ≤ m) → j_W 84 d 0 0 0 0 12 [some (.ref 97), some (.int (nI w)), some (.int (nI (m + 1))), some (.int 0), some (.int (nI ((b + m) + 1))), none, none] [] w1 (I, D, RR R) Q)
    (v4 : (¬ n ≤ (b + m)) → (isDg (T (b + m))) → (¬ 4 ≤ m) → j_W 84 d 0 0 0 0 12 [some (.ref 97), some (.int ((nI (w * 10)) + (((nI (T (b + m))) - 48) * 1000))), some (.int (nI (m + 1))), some (.int 0), some (.int (nI ((b + m) + 1))), none, none] [] w1 (I, D, RR R) Q)
    (v5 : (¬ n ≤ (b + m)) → (¬ isDg (T (b + m))) → j_W 84 d 0 0 0 0 68 [some (.ref 97), some (.int (nI w)), some (.int (nI m)), some (.int 0), some (.int (nI (b + m))), none, none] [] w1 (I, D, RR R) Q) : j_W 84 d 0 0 0 0 12 [some (.ref 97), some (.int (nI w)), some (.int (nI m)), some (.int 0), some (.int (nI (b + m))), none, none] [] w1 (I, D, RR R) Q := by
  refine q_iload d84_12 rfl ?_
  refine q_aload_n d84_14 rfl ?_
  refine q_getI d84_15 (fs5_22 84 rfl) rfl (lt_w1 rfl) sh97 ?_
  refine r_int (y := (nI n)) (show I 97 1 = (nI n) from hT.2.1) ?_
  refine q_icmp_ge (tgt := 68) d84_18 rfl (fun h1t => ?_) (fun h1f => ?_)
  ·
    have h1tc : n ≤ (b + m) := (nI_leI (by omega) (by omega)).mp h1t
    exact r_sub (L' := [some (.ref 97), some (.int (nI w)), some (.int (nI m)), some (.int 0), some (.int (nI (b + m))), none, none]) ⟨rfl, rfl, rfl, rfl, rfl, trivial⟩ (v1 h1tc)
  ·
    have h1fc : ¬ n ≤ (b + m) := mt (nI_leI (by omega) (by omega)).mpr h1f
    refine q_aload_n d84_21 rfl ?_
    refine q_getR (x := 98) d84_22 (fs5_9 84 rfl) rfl (lt_w1 rfl) sh97 (rs97_0 R) (by decide) ?_
    refine q_iload d84_25 rfl ?_
    refine q_iaload (a := (b + m)) d84_27 (lt_w1 rfl) sh98 rfl (by omega) ?_
    refine r_int (y := nI (T (b + m))) (hT.2.2 (b + m) (by omega)).2 ?_
    refine q_invS (av := [.int (nI (T (b + m)))]) (rest := []) (d' := 0) (mc' := 0) (ms' := 0) d84_28 (cv5_99 84 rfl) rfl rfl (by omega) (Nat.le_of_ble_eq_true rfl) (Nat.le_of_ble_eq_true rfl) (Nat.le_refl _) (Nat.le_refl _) ?_
    refine c83n (v2 h1fc) (fun h2 => ?_) (fun h2 => ?_)
    ·
      show j_W 84 d 0 0 0 0 31 [some (.ref 97), some (.int (nI w)), some (.int (nI m)), some (.int 0), some (.int (nI (b + m))), none, none] [.int 1] w1 (I, D, RR R) Q
      refine q_if_eq (tgt := 68) d84_31 rfl (fun h => absurd h (by decide)) (fun _ => ?_)
      refine q_iload_n d84_34 rfl ?_
      refine q_iconst (v := 4) (by decide) d84_35 ?_
      refine q_icmp_ge (tgt := 59) d84_36 rfl (fun h3t => ?_) (fun h3f => ?_)
      ·
        have h3tc : 4 ≤ m := (nI_leI (by omega) (by omega)).mp h3t
        refine q_iinc (L' := [some (.ref 97), some (.int (nI w)), some (.int (nI (m + 1))), some (.int 0), some (.int (nI (b + m))), none, none]) (v := (nI (m + 1))) d84_59 rfl (nI_inc _) rfl ?_
        refine q_iinc (L' := [some (.ref 97), some (.int (nI w)), some (.int (nI (m + 1))), some (.int 0), some (.int (nI ((b + m) + 1))), none, none]) (v := (nI ((b + m) + 1))) d84_62 rfl (nI_inc _) rfl ?_
        refine q_goto (tgt := 12) d84_65 rfl ?_
        exact r_sub (L' := [some (.ref 97), some (.int (nI w)), some (.int (nI (m + 1))), some (.int 0), some (.int (nI ((b + m) + 1))), none, none]) ⟨rfl, rfl, rfl, rfl, rfl, trivial⟩ (v3 h1fc h2 h3tc)
      ·
        have h3fc : ¬ 4 ≤ m := mt (nI_leI (by omega) (by omega)).mpr h3f
        refine q_iload_n d84_39 rfl ?_
        refine q_bipush (v := 10) (by decide) d84_40 ?_
        refine q_imul d84_42 ?_
        refine r_int (y := (nI (w * 10))) (pk_mul w 10) ?_
        refine q_aload_n d84_43 rfl ?_
        refine q_getR (x := 98) d84_44 (fs5_9 84 rfl) rfl (lt_w1 rfl) sh97 (rs97_0 R) (by decide) ?_
        refine q_iload d84_47 rfl ?_
        refine q_iaload (a := (b + m)) d84_49 (lt_w1 rfl) sh98 rfl (by omega) ?_
        refine r_int (y := nI (T (b + m))) (hT.2.2 (b + m) (by omega)).2 ?_
        refine q_bipush (v := 48) (by decide) d84_50 ?_
        refine q_isub d84_52 ?_
        refine q_sipush (v := 1000) (by decide) d84_53 ?_
        refine q_imul d84_56 ?_
        refine q_iadd d84_57 ?_
        refine q_istore_n (L' := [some (.ref 97), some (.int ((nI (w * 10)) + (((nI (T (b + m))) - 48) * 1000))), some (.int (nI m)), some (.int 0), some (.int (nI (b + m))), none, none]) d84_58 (Nat.le_of_ble_eq_true rfl) rfl ?_
        refine q_iinc (L' := [some (.ref 97), some (.int ((nI (w * 10)) + (((nI (T (b + m))) - 48) * 1000))), some (.int (nI (m + 1))), some (.int 0), some (.int (nI (b + m))), none, none]) (v := (nI (m + 1))) d84_59 rfl (nI_inc _) rfl ?_
        refine q_iinc (L' := [some (.ref 97), some (.int ((nI (w * 10)) + (((nI (T (b + m))) - 48) * 1000))), some (.int (nI (m + 1))), some (.int 0), some (.int (nI ((b + m) + 1))), none, none]) (v := (nI ((b + m) + 1))) d84_62 rfl (nI_inc _) rfl ?_
        refine q_goto (tgt := 12) d84_65 rfl ?_
        exact r_sub (L' := [some (.ref 97), some (.int ((nI (w * 10)) + (((nI (T (b + m))) - 48) * 1000))), some (.int (nI (m + 1))), some (.int 0), some (.int (nI ((b + m) + 1))), none, none]) ⟨rfl, rfl, rfl, rfl, rfl, trivial⟩ (v4 h1fc h2 h3fc)
    ·
      show j_W 84 d 0 0 0 0 31 [some (.ref 97), some (.int (nI w)), some (.int (nI m)), some (.int 0), some (.int (nI (b + m))), none, none] [.int 0] w1 (I, D, RR R) Q
      refine q_if_eq (tgt := 68) d84_31 rfl (fun _ => ?_) (fun h => absurd h (by decide))
      exact r_sub (L' := [some (.ref 97), some (.int (nI w)), some (.int (nI m)), some (.int 0), some (.int (nI (b + m))), none, none]) ⟨rfl, rfl, rfl, rfl, rfl, trivial⟩ (v5 h1fc h2)

set_option maxRecDepth 10000 in
set_option maxHeartbeats 4000000 in
theorem s84b {d : Nat} {I : Nat → Nat → Int32} {D : Nat → Nat → UInt64} {R : Nat → Nat → Option Nat} {Q : j_Po} {w : Nat} {m : Nat} {k : Nat} {T : Nat → Nat} {n b : Nat} (hT : TC T n I) (hb : I 97 3 = nI b) (hn9 : n ≤ 96) (hk : k ≤ n) (hTk : k < n → T k < 256) (hd : 1 ≤ d)
    (v1 : (n ≤ k) → j_W 84 d 0 0 0 0 108 [some (.ref 97), some (.int (nI w)), some (.int (nI m)), some (.int 0), some (.int (nI k)), some (.int 0), some (.int 100)] [] w1 (I, D, RR R) Q)
    (v2 : (¬ n ≤ k) → (¬ (T k) = 46) → j_W 84 d 0 0 0 0 108 [some (.ref 97), some (.int (nI w)), some (.int (nI m)), some (.int 0), some (.int (nI k)), some (.int 0), some (.int 100)] [] w1 (I, D, RR R) Q)
    (v3 : (¬ n ≤ k) → ((T k) = 46) → j_W 84 d 0 0 0 0 108 [some (.ref 97), some (.int (nI w)), some (.int (nI m)), some (.int 0), some (.int (nI (k + 1))), some (.int 1), some (.int 100)] [] w1 (I, D, RR R) Q) : j_W 84 d 0 0 0 0 68 [some (.ref 97), some (.int (nI w)), some (.int (nI m)), some (.int 0), some (.int (nI k)), none, none] [] w1 (I, D, RR R) Q := by
  refine q_iload d84_68 rfl ?_
  refine q_aload_n d84_70 rfl ?_
  refine q_getI d84_71 (fs5_22 84 rfl) rfl (lt_w1 rfl) sh97 ?_
  refine r_int (y := (nI n)) (show I 97 1 = (nI n) from hT.2.1) ?_
  refine q_icmp_ge (tgt := 93) d84_74 rfl (fun h1t => ?_) (fun h1f => ?_)
  ·
    have h1tc : n ≤ k := (nI_leI (by omega) (by omega)).mp h1t
    refine q_iconst (v := 0) (by decide) d84_93 ?_
    refine q_istore (L' := [some (.ref 97), some (.int (nI w)), some (.int (nI m)), some (.int 0), some (.int (nI k)), some (.int 0), none]) d84_94 (Nat.le_of_ble_eq_true rfl) rfl ?_
    refine q_iload d84_96 rfl ?_
    refine q_if_eq (tgt := 104) d84_98 rfl (fun _ => ?_) (fun h => absurd h (by decide))
    refine q_bipush (v := 100) (by decide) d84_104 ?_
    refine q_istore (L' := [some (.ref 97), some (.int (nI w)), some (.int (nI m)), some (.int 0), some (.int (nI k)), some (.int 0), some (.int 100)]) d84_106 (Nat.le_of_ble_eq_true rfl) rfl ?_
    exact r_sub (L' := [some (.ref 97), some (.int (nI w)), some (.int (nI m)), some (.int 0), some (.int (nI k)), some (.int 0), some (.int 100)]) ⟨rfl, rfl, rfl, rfl, rfl, rfl, rfl, trivial⟩ (v1 h1tc)
  ·
    have h1fc : ¬ n ≤ k := mt (nI_leI (by omega) (by omega)).mpr h1f
    refine q_aload_n d84_77 rfl ?_
    refine q_getR (x := 98) d84_78 (fs5_9 84 rfl) rfl (lt_w1 rfl) sh97 (rs97_0 R) (by decide) ?_
    refine q_iload d84_81 rfl ?_
    refine q_iaload (a := k) d84_83 (lt_w1 rfl) sh98 rfl (by omega) ?_
    refine r_int (y := nI (T k)) (hT.2.2 k (by omega)).2 ?_
    refine q_bipush (v := 46) (by decide) d84_84 ?_
    refine q_icmp_ne (tgt := 93) d84_86 rfl (fun h2t => ?_) (fun h2f => ?_)
    ·
      have h2tc : ¬ (T k) = 46 := mt (nI_eqN (by omega) (by omega)).mpr h2t
      refine q_iconst (v := 0) (by decide) d84_93 ?_
      refine q_istore (L' := [some (.ref 97), some (.int (nI w)), some (.int (nI m)), some (.int 0), some (.int (nI k)), some (.int 0), none]) d84_94 (Nat.le_of_ble_eq_true rfl) rfl ?_
      refine q_iload d84_96 rfl ?_
      refine q_if_eq (tgt := 104) d84_98 rfl (fun _ => ?_) (fun h => absurd h (by decide))
      refine q_bipush (v := 100) (by decide) d84_104 ?_
      refine q_istore (L' := [some (.ref 97), some (.int (nI w)), some (.int (nI m)), some (.int 0), some (.int (nI k)), some (.int 0), some (.int 100)]) d84_106 (Nat.le_of_ble_eq_true rfl) rfl ?_
      exact r_sub (L' := [some (.ref 97), some (.int (nI w)), some (.int (nI m)), some (.int 0), some (.int (nI k)), some (.int 0), some (.int 100)]) ⟨rfl, rfl, rfl, rfl, rfl, rfl, rfl, trivial⟩ (v2 h1fc h2tc)
    ·
      have h2fc : (T k) = 46 := (nI_eqN (by omega) (by omega)).mp h2f
      refine q_iconst (v := 1) (by decide) d84_89 ?_
      refine q_goto (tgt := 94) d84_90 rfl ?_
      refine q_istore (L' := [some (.ref 97), some (.int (nI w)), some (.int (nI m)), some (.int 0), some (.int (nI k)), some (.int 1), none]) d84_94 (Nat.le_of_ble_eq_true rfl) rfl ?_
      refine q_iload d84_96 rfl ?_
      refine q_if_eq (tgt := 104) d84_98 rfl (fun h => absurd h (by decide)) (fun _ => ?_)
      refine q_iinc (L' := [some (.ref 97), some (.int (nI w)), some (.int (nI m)), some (.int 0), some (.int (nI (k + 1))), some (.int 1), none]) (v := (nI (k + 1))) d84_101 rfl (nI_inc _) rfl ?_
      refine q_bipush (v := 100) (by decide) d84_104 ?_
      refine q_istore (L' := [some (.ref 97), some (.int (nI w)), some (.int (nI m)), some (.int 0), some (.int (nI (k + 1))), some (.int 1), some (.int 100)]) d84_106 (Nat.le_of_ble_eq_true rfl) rfl ?_
      exact r_sub (L' := [some (.ref 97), some (.int (nI w)), some (.int (nI m)), some (.int 0), some (.int (nI (k + 1))), some (.int 1), some (.int 100)]) ⟨rfl, rfl, rfl, rfl, rfl, rfl, rfl, trivial⟩ (v3 h1fc h2fc)

set_option maxRecDepth 10000 in
set_option maxHeartbeats 4000000 in
theorem s84c {d : Nat} {I : Nat → Nat → Int32} {D : Nat → Nat → UInt64} {R : Nat → Nat → Option Nat} {Q : j_Po} {w : Nat} {m : Nat} {k : Nat} {T : Nat → Nat} {n b : Nat} (hT : TC T n I) (hb : I 97 3 = nI b) (hn9 : n ≤ 96) (hk : k ≤ n) (hd : 1 ≤ d)
    (v1 : j_W 84 d 0 0 0 0 167 [some (.ref 97), some (.int (nI w)), some (.int (nI m)), some (.int 0), some (.int (nI k)), some (.int 0), none] [] w1 (I, D, RR R) Q) : j_W 84 d 0 0 0 0 108 [some (.ref 97), some (.int (nI w)), some (.int (nI m)), some (.int 0), some (.int (nI k)), some (.int 0), none] [] w1 (I, D, RR R) Q := by
  refine q_iload d84_108 rfl ?_
  refine q_if_eq (tgt := 167) d84_110 rfl (fun _ => ?_) (fun h => absurd h (by decide))
  exact r_sub (L' := [some (.ref 97), some (.int (nI w)), some (.int (nI m)), some (.int 0), some (.int (nI k)), some (.int 0), none]) ⟨rfl, rfl, rfl, rfl, rfl, rfl, trivial⟩ v1

set_option maxRecDepth 10000 in
set_option maxHeartbeats 4000000 in
theorem s84f {d : Nat} {I : Nat → Nat → Int32} {D : Nat → Nat → UInt64} {R : Nat → Nat → Option Nat} {Q : j_Po} {w : Nat} {m : Nat} {f : Nat} {c : Nat} {u : Nat} {T : Nat → Nat} {n b : Nat} (hT : TC T n I) (hb : I 97 3 = nI b) (hn9 : n ≤ 96) (hk : (c + f) ≤ n) (hd : 1 ≤ d)
    (v1 : (n ≤ (c + f)) → j_W 84 d 0 0 0 0 167 [some (.ref 97), some (.int (nI w)), some (.int (nI m)), some (.int (nI f)), some (.int (nI (c + f))), some (.int 1), none] [] w1 (I, D, RR R) Q)
    (v2 : (¬ n ≤ (c + f)) → (T (c + f)) < 256)
    (v3 : (¬ n ≤ (c + f)) → (isDg (T (c + f))) → j_W 84 d 0 0 0 0 108 [some (.ref 97), some (.int ((nI w) + (((nI (T (c + f))) - 48) * (nI u)))), some (.int (nI m)), some (.int (nI (f + 1))), some (.int (nI ((c + f) + 1))), some (.int 1), some (.int ((nI u) / 10))] [] w1 (I, D, RR R) Q)
    (v4 : (¬ n ≤ (c + f)) → (¬ isDg (T (c + f))) → j_W 84 d 0 0 0 0 167 [some (.ref 97), some (.int (nI w)), some (.int (nI m)), some (.int (nI f)), some (.int (nI (c + f))), some (.int 1), none] [] w1 (I, D, RR R) Q) : j_W 84 d 0 0 0 0 108 [some (.ref 97), some (.int (nI w)), some (.int (nI m)), some (.int (nI f)), some (.int (nI (c + f))), some (.int 1), some (.int (nI u))] [] w1 (I, D, RR R) Q := by
  refine q_iload d84_108 rfl ?_
  refine q_if_eq (tgt := 167) d84_110 rfl (fun h => absurd h (by decide)) (fun _ => ?_)
  refine q_iload d84_113 rfl ?_
  refine q_aload_n d84_115 rfl ?_
  refine q_getI d84_116 (fs5_22 84 rfl) rfl (lt_w1 rfl) sh97 ?_
  refine r_int (y := (nI n)) (show I 97 1 = (nI n) from hT.2.1) ?_
  refine q_icmp_ge (tgt := 167) d84_119 rfl (fun h1t => ?_) (fun h1f => ?_)
  ·
    have h1tc : n ≤ (c + f) := (nI_leI (by omega) (by omega)).mp h1t
    exact r_sub (L' := [some (.ref 97), some (.int (nI w)), some (.int (nI m)), some (.int (nI f)), some (.int (nI (c + f))), some (.int 1), none]) ⟨rfl, rfl, rfl, rfl, rfl, rfl, trivial⟩ (v1 h1tc)
  ·
    have h1fc : ¬ n ≤ (c + f) := mt (nI_leI (by omega) (by omega)).mpr h1f
    refine q_aload_n d84_122 rfl ?_
    refine q_getR (x := 98) d84_123 (fs5_9 84 rfl) rfl (lt_w1 rfl) sh97 (rs97_0 R) (by decide) ?_
    refine q_iload d84_126 rfl ?_
    refine q_iaload (a := (c + f)) d84_128 (lt_w1 rfl) sh98 rfl (by omega) ?_
    refine r_int (y := nI (T (c + f))) (hT.2.2 (c + f) (by omega)).2 ?_
    refine q_invS (av := [.int (nI (T (c + f)))]) (rest := []) (d' := 0) (mc' := 0) (ms' := 0) d84_129 (cv5_99 84 rfl) rfl rfl (by omega) (Nat.le_of_ble_eq_true rfl) (Nat.le_of_ble_eq_true rfl) (Nat.le_refl _) (Nat.le_refl _) ?_
    refine c83n (v2 h1fc) (fun h2 => ?_) (fun h2 => ?_)
    ·
      show j_W 84 d 0 0 0 0 132 [some (.ref 97), some (.int (nI w)), some (.int (nI m)), some (.int (nI f)), some (.int (nI (c + f))), some (.int 1), some (.int (nI u))] [.int 1] w1 (I, D, RR R) Q
      refine q_if_eq (tgt := 167) d84_132 rfl (fun h => absurd h (by decide)) (fun _ => ?_)
      refine q_iload_n d84_135 rfl ?_
      refine q_aload_n d84_136 rfl ?_
      refine q_getR (x := 98) d84_137 (fs5_9 84 rfl) rfl (lt_w1 rfl) sh97 (rs97_0 R) (by decide) ?_
      refine q_iload d84_140 rfl ?_
      refine q_iaload (a := (c + f)) d84_142 (lt_w1 rfl) sh98 rfl (by omega) ?_
      refine r_int (y := nI (T (c + f))) (hT.2.2 (c + f) (by omega)).2 ?_
      refine q_bipush (v := 48) (by decide) d84_143 ?_
      refine q_isub d84_145 ?_
      refine q_iload d84_146 rfl ?_
      refine q_imul d84_148 ?_
      refine q_iadd d84_149 ?_
      refine q_istore_n (L' := [some (.ref 97), some (.int ((nI w) + (((nI (T (c + f))) - 48) * (nI u)))), some (.int (nI m)), some (.int (nI f)), some (.int (nI (c + f))), some (.int 1), some (.int (nI u))]) d84_150 (Nat.le_of_ble_eq_true rfl) rfl ?_
      refine q_iload d84_151 rfl ?_
      refine q_bipush (v := 10) (by decide) d84_153 ?_
      refine q_idiv (by decide) d84_155 ?_
      refine q_istore (L' := [some (.ref 97), some (.int ((nI w) + (((nI (T (c + f))) - 48) * (nI u)))), some (.int (nI m)), some (.int (nI f)), some (.int (nI (c + f))), some (.int 1), some (.int ((nI u) / 10))]) d84_156 (Nat.le_of_ble_eq_true rfl) rfl ?_
      refine q_iinc (L' := [some (.ref 97), some (.int ((nI w) + (((nI (T (c + f))) - 48) * (nI u)))), some (.int (nI m)), some (.int (nI (f + 1))), some (.int (nI (c + f))), some (.int 1), some (.int ((nI u) / 10))]) (v := (nI (f + 1))) d84_158 rfl (nI_inc _) rfl ?_
      refine q_iinc (L' := [some (.ref 97), some (.int ((nI w) + (((nI (T (c + f))) - 48) * (nI u)))), some (.int (nI m)), some (.int (nI (f + 1))), some (.int (nI ((c + f) + 1))), some (.int 1), some (.int ((nI u) / 10))]) (v := (nI ((c + f) + 1))) d84_161 rfl (nI_inc _) rfl ?_
      refine q_goto (tgt := 108) d84_164 rfl ?_
      exact r_sub (L' := [some (.ref 97), some (.int ((nI w) + (((nI (T (c + f))) - 48) * (nI u)))), some (.int (nI m)), some (.int (nI (f + 1))), some (.int (nI ((c + f) + 1))), some (.int 1), some (.int ((nI u) / 10))]) ⟨rfl, rfl, rfl, rfl, rfl, rfl, rfl, trivial⟩ (v3 h1fc h2)
    ·
      show j_W 84 d 0 0 0 0 132 [some (.ref 97), some (.int (nI w)), some (.int (nI m)), some (.int (nI f)), some (.int (nI (c + f))), some (.int 1), some (.int (nI u))] [.int 0] w1 (I, D, RR R) Q
      refine q_if_eq (tgt := 167) d84_132 rfl (fun _ => ?_) (fun h => absurd h (by decide))
      exact r_sub (L' := [some (.ref 97), some (.int (nI w)), some (.int (nI m)), some (.int (nI f)), some (.int (nI (c + f))), some (.int 1), none]) ⟨rfl, rfl, rfl, rfl, rfl, rfl, trivial⟩ (v4 h1fc h2)

set_option maxRecDepth 10000 in
set_option maxHeartbeats 4000000 in
theorem s84x0 {d : Nat} {I : Nat → Nat → Int32} {D : Nat → Nat → UInt64} {R : Nat → Nat → Option Nat} {Q : j_Po} {w : Nat} {m : Nat} {f : Nat} {k : Nat} {T : Nat → Nat} {n b : Nat} (hT : TC T n I) (hb : I 97 3 = nI b) (hn9 : n ≤ 96) (hk : k ≤ n) (hm : m ≤ 96) (hf : f ≤ 96) (hd : 1 ≤ d)
    (v1 : (4 < m) → Q none w1 ((j_u (j_u (j_u (j_u I 97 4 (nI k)) 97 6 (nI w)) 97 5 257) 97 5 262), D, RR R))
    (v2 : (¬ 4 < m) → (3 < f) → Q none w1 ((j_u (j_u (j_u (j_u I 97 4 (nI k)) 97 6 (nI w)) 97 5 257) 97 5 262), D, RR R))
    (v3 : (¬ 4 < m) → (¬ 3 < f) → Q none w1 ((j_u (j_u (j_u I 97 4 (nI k)) 97 6 (nI w)) 97 5 257), D, RR R)) : j_W 84 d 0 0 0 0 167 [some (.ref 97), some (.int (nI w)), some (.int (nI m)), some (.int (nI f)), some (.int (nI k)), some (.int 0), none] [] w1 (I, D, RR R) Q := by
  refine q_aload_n d84_167 rfl ?_
  refine q_iload d84_168 rfl ?_
  refine q_putI d84_170 (fs5_32 84 rfl) (Or.inl rfl) rfl (lt_w1 rfl) sh97 ?_
  refine q_aload_n d84_173 rfl ?_
  refine q_iload_n d84_174 rfl ?_
  refine q_putI d84_175 (fs5_68 84 rfl) (Or.inl rfl) rfl (lt_w1 rfl) sh97 ?_
  refine q_aload_n d84_178 rfl ?_
  refine q_iload d84_179 rfl ?_
  refine q_if_eq (tgt := 190) d84_181 rfl (fun _ => ?_) (fun h => absurd h (by decide))
  refine q_sipush (v := 257) (by decide) d84_190 ?_
  refine q_putI d84_193 (fs5_42 84 rfl) (Or.inl rfl) rfl (lt_w1 rfl) sh97 ?_
  refine q_iload_n d84_196 rfl ?_
  refine q_iconst (v := 4) (by decide) d84_197 ?_
  refine q_icmp_gt (tgt := 215) d84_198 rfl (fun h1t => ?_) (fun h1f => ?_)
  ·
    have h1tc : 4 < m := (nI_ltI (by omega) (by omega)).mp h1t
    refine q_aload_n d84_215 rfl ?_
    refine q_sipush (v := 262) (by decide) d84_216 ?_
    refine q_putI d84_219 (fs5_42 84 rfl) (Or.inl rfl) rfl (lt_w1 rfl) sh97 ?_
    exact q_ret d84_222 rfl (Nat.le_refl _) (Nat.le_refl _) (v1 h1tc)
  ·
    have h1fc : ¬ 4 < m := mt (nI_ltI (by omega) (by omega)).mpr h1f
    refine q_iload_n d84_201 rfl ?_
    refine q_iconst (v := 3) (by decide) d84_202 ?_
    refine q_icmp_gt (tgt := 215) d84_203 rfl (fun h2t => ?_) (fun h2f => ?_)
    ·
      have h2tc : 3 < f := (nI_ltI (by omega) (by omega)).mp h2t
      refine q_aload_n d84_215 rfl ?_
      refine q_sipush (v := 262) (by decide) d84_216 ?_
      refine q_putI d84_219 (fs5_42 84 rfl) (Or.inl rfl) rfl (lt_w1 rfl) sh97 ?_
      exact q_ret d84_222 rfl (Nat.le_refl _) (Nat.le_refl _) (v2 h1fc h2tc)
    ·
      have h2fc : ¬ 3 < f := mt (nI_ltI (by omega) (by omega)).mpr h2f
      refine q_iload d84_206 rfl ?_
      refine q_if_eq (tgt := 222) d84_208 rfl (fun _ => ?_) (fun h => absurd h (by decide))
      exact q_ret d84_222 rfl (Nat.le_refl _) (Nat.le_refl _) (v3 h1fc h2fc)

set_option maxRecDepth 10000 in
set_option maxHeartbeats 4000000 in
theorem s84x1 {d : Nat} {I : Nat → Nat → Int32} {D : Nat → Nat → UInt64} {R : Nat → Nat → Option Nat} {Q : j_Po} {w : Nat} {m : Nat} {f : Nat} {k : Nat} {T : Nat → Nat} {n b : Nat} (hT : TC T n I) (hb : I 97 3 = nI b) (hn9 : n ≤ 96) (hk : k ≤ n) (hm : m ≤ 96) (hf : f ≤ 96) (hd : 1 ≤ d)
    (v1 : (4 < m) → Q none w1 ((j_u (j_u (j_u (j_u I 97 4 (nI k)) 97 6 (nI w)) 97 5 258) 97 5 262), D, RR R))
    (v2 : (¬ 4 < m) → (3 < f) → Q none w1 ((j_u (j_u (j_u (j_u I 97 4 (nI k)) 97 6 (nI w)) 97 5 258) 97 5 262), D, RR R))
    (v3 : (¬ 4 < m) → (¬ 3 < f) → (¬ (nI f) = 0) → Q none w1 ((j_u (j_u (j_u I 97 4 (nI k)) 97 6 (nI w)) 97 5 258), D, RR R))
    (v4 : (¬ 4 < m) → (¬ 3 < f) → ((nI f) = 0) → Q none w1 ((j_u (j_u (j_u (j_u I 97 4 (nI k)) 97 6 (nI w)) 97 5 258) 97 5 262), D, RR R)) : j_W 84 d 0 0 0 0 167 [some (.ref 97), some (.int (nI w)), some (.int (nI m)), some (.int (nI f)), some (.int (nI k)), some (.int 1), none] [] w1 (I, D, RR R) Q := by
  refine q_aload_n d84_167 rfl ?_
  refine q_iload d84_168 rfl ?_
  refine q_putI d84_170 (fs5_32 84 rfl) (Or.inl rfl) rfl (lt_w1 rfl) sh97 ?_
  refine q_aload_n d84_173 rfl ?_
  refine q_iload_n d84_174 rfl ?_
  refine q_putI d84_175 (fs5_68 84 rfl) (Or.inl rfl) rfl (lt_w1 rfl) sh97 ?_
  refine q_aload_n d84_178 rfl ?_
  refine q_iload d84_179 rfl ?_
  refine q_if_eq (tgt := 190) d84_181 rfl (fun h => absurd h (by decide)) (fun _ => ?_)
  refine q_sipush (v := 258) (by decide) d84_184 ?_
  refine q_goto (tgt := 193) d84_187 rfl ?_
  refine q_putI d84_193 (fs5_42 84 rfl) (Or.inl rfl) rfl (lt_w1 rfl) sh97 ?_
  refine q_iload_n d84_196 rfl ?_
  refine q_iconst (v := 4) (by decide) d84_197 ?_
  refine q_icmp_gt (tgt := 215) d84_198 rfl (fun h1t => ?_) (fun h1f => ?_)
  ·
    have h1tc : 4 < m := (nI_ltI (by omega) (by omega)).mp h1t
    refine q_aload_n d84_215 rfl ?_
    refine q_sipush (v := 262) (by decide) d84_216 ?_
    refine q_putI d84_219 (fs5_42 84 rfl) (Or.inl rfl) rfl (lt_w1 rfl) sh97 ?_
    exact q_ret d84_222 rfl (Nat.le_refl _) (Nat.le_refl _) (v1 h1tc)
  ·
    have h1fc : ¬ 4 < m := mt (nI_ltI (by omega) (by omega)).mpr h1f
    refine q_iload_n d84_201 rfl ?_
    refine q_iconst (v := 3) (by decide) d84_202 ?_
    refine q_icmp_gt (tgt := 215) d84_203 rfl (fun h2t => ?_) (fun h2f => ?_)
    ·
      have h2tc : 3 < f := (nI_ltI (by omega) (by omega)).mp h2t
      refine q_aload_n d84_215 rfl ?_
      refine q_sipush (v := 262) (by decide) d84_216 ?_
      refine q_putI d84_219 (fs5_42 84 rfl) (Or.inl rfl) rfl (lt_w1 rfl) sh97 ?_
      exact q_ret d84_222 rfl (Nat.le_refl _) (Nat.le_refl _) (v2 h1fc h2tc)
    ·
      have h2fc : ¬ 3 < f := mt (nI_ltI (by omega) (by omega)).mpr h2f
      refine q_iload d84_206 rfl ?_
      refine q_if_eq (tgt := 222) d84_208 rfl (fun h => absurd h (by decide)) (fun _ => ?_)
      refine q_iload_n d84_211 rfl ?_
      refine q_if_ne (tgt := 222) d84_212 rfl (fun h3t => ?_) (fun h3f => ?_)
      ·
        exact q_ret d84_222 rfl (Nat.le_refl _) (Nat.le_refl _) (v3 h1fc h2fc h3t)
      ·
        refine q_aload_n d84_215 rfl ?_
        refine q_sipush (v := 262) (by decide) d84_216 ?_
        refine q_putI d84_219 (fs5_42 84 rfl) (Or.inl rfl) rfl (lt_w1 rfl) sh97 ?_
        exact q_ret d84_222 rfl (Nat.le_refl _) (Nat.le_refl _) (v4 h1fc h2fc h3f)

def dvl (T : Nat → Nat) (p : Nat) : Nat → Nat
  | 0 => 0
  | m + 1 => 10 * dvl T p m + (T (p + m) - 48)
def gvl (T : Nat → Nat) (c f : Nat) : Nat := if f = 0 then 0 else if f = 1 then dvl T c 1 * 100 else if f = 2 then dvl T c 2 * 10 else dvl T c 3
def unl (f : Nat) : Nat := if f = 0 then 100 else if f = 1 then 10 else if f = 2 then 1 else 0
abbrev dgR (T : Nat → Nat) (n : Nat) : Nat → Nat → Prop := Run (fun j => j < n ∧ isDg (T j))
/-- a number from b to e: its places, its worth in thousandths -/
def LxN (T : Nat → Nat) (n b e : Nat) (tk : Nat × Nat) : Prop := b < n ∧ isDg (T b) ∧ ∃ c, dgR T n b c ∧
  ((¬ (c < n ∧ T c = 46) ∧ e = c ∧ ((4 < c - b ∧ tk = (262, 0)) ∨ (c - b ≤ 4 ∧ tk = (257, 1000 * dvl T b (c - b))))) ∨
   ((c < n ∧ T c = 46) ∧ dgR T n (c + 1) e ∧ (((4 < c - b ∨ e = c + 1 ∨ 3 < e - (c + 1)) ∧ tk = (262, 0)) ∨ ((c - b ≤ 4 ∧ c + 1 < e ∧ e - (c + 1) ≤ 3) ∧ tk = (258, 1000 * dvl T b (c - b) + gvl T (c + 1) (e - (c + 1)))))))
theorem dvl_lt {T : Nat → Nat} {p m : Nat} (h : ∀ j, j < m → isDg (T (p + j))) (hm : m ≤ 4) : dvl T p m < 10000 := by
  have key : ∀ m, (∀ j, j < m → isDg (T (p + j))) → dvl T p m < 10 ^ m := by
    intro m
    induction m with
    | zero => intro _; exact Nat.one_pos
    | succ m ih =>
      intro h
      have h1 := ih (fun j hj => h j (by omega))
      have h2 := h m (by omega)
      unfold isDg at h2
      show 10 * dvl T p m + (T (p + m) - 48) < 10 ^ (m + 1)
      rw [Nat.pow_succ]; omega
  have := key m h
  have h4 : 10 ^ m ≤ 10 ^ 4 := Nat.pow_le_pow_right (by decide) hm
  omega
theorem gvl_S {T : Nat → Nat} {c f : Nat} (h : ∀ j, j < f + 1 → isDg (T (c + j))) : gvl T c (f + 1) = gvl T c f + (T (c + f) - 48) * unl f := by
  match f with
  | 0 => simp [gvl, unl, dvl]
  | 1 => simp [gvl, unl, dvl]; omega
  | 2 => simp [gvl, unl, dvl]; omega
  | f + 3 => simp [gvl, unl]
theorem unl_S (f : Nat) : unl (f + 1) = unl f / 10 := by
  match f with
  | 0 => rfl
  | 1 => rfl
  | 2 => rfl
  | f + 3 => simp [unl]
theorem gvl_lt {T : Nat → Nat} {c f : Nat} (h : ∀ j, j < f → isDg (T (c + j))) : gvl T c f < 1000 := by
  match f with
  | 0 => simp [gvl]
  | 1 => have := h 0 (by omega); unfold isDg at this; simp [gvl, dvl]; simp only [Nat.add_zero] at *; omega
  | 2 => have := h 0 (by omega); have := h 1 (by omega); unfold isDg at *; simp [gvl, dvl]; simp only [Nat.add_zero] at *; omega
  | f + 3 => have := h 0 (by omega); have := h 1 (by omega); have := h 2 (by omega); unfold isDg at *; simp [gvl, dvl]; simp only [Nat.add_zero] at *; omega
def wvl (T : Nat → Nat) (b m : Nat) : Nat := 1000 * dvl T b (min m 4)
theorem wvl_S {T : Nat → Nat} {b m : Nat} (hd : isDg (T (b + m))) (hm : m < 4) : (nI (wvl T b m * 10)) + (((nI (T (b + m))) - 48) * 1000) = nI (wvl T b (m + 1)) := by
  unfold isDg at hd
  rw [show (48 : Int32) = nI 48 from rfl, show (1000 : Int32) = nI 1000 from rfl, pk_sub hd.1, pk_mul, nI_add]
  congr 1
  unfold wvl
  rw [Nat.min_eq_left (by omega), Nat.min_eq_left (by omega)]
  show _ = 1000 * (10 * dvl T b m + (T (b + m) - 48))
  rw [Nat.mul_add, Nat.mul_comm (T (b + m) - 48) 1000, ← Nat.mul_assoc, Nat.mul_right_comm]
theorem wvl_4 {T : Nat → Nat} {b m : Nat} (hm : 4 ≤ m) : wvl T b (m + 1) = wvl T b m := by
  unfold wvl
  rw [Nat.min_eq_right (by omega), Nat.min_eq_right hm]
section N8
variable {d : Nat} {I : Nat → Nat → Int32} {D : Nat → Nat → UInt64} {R : Nat → Nat → Option Nat} {Q : j_Po} {T : Nat → Nat} {n b : Nat}
theorem x84_0 (hT : TC T n I) (hb : I 97 3 = nI b) {m k w : Nat} (hk : k ≤ n) (hm : m ≤ 96) (hd : 1 ≤ d) (tk : Nat × Nat) (h5 : 257 = nI tk.1) (hw : nI w = nI tk.2) (hlok : m ≤ 4 → 0 ≤ 3 → LxN T n b k tk) (hl262 : 4 < m → LxN T n b k (262, 0)) (hq : ∀ J e tk, LxN T n b e tk → RS I J e tk → Q none w1 (J, D, RR R)) : j_W 84 d 0 0 0 0 167 [some (.ref 97), some (.int (nI w)), some (.int (nI m)), some (.int (nI 0)), some (.int (nI k)), some (.int 0), none] [] w1 (I, D, RR R) Q :=
  s84x0 (f := 0) hT hb hT.1 hk hm (by decide) hd (fun y1 => hq _ k (262, 0) (hl262 (by omega)) ⟨fun o ho => by funext i; simp (disch := assumption) only [j_u_o], fun i h4 h5 h6 => by simp (disch := assumption) only [j_u_k], by simp (disch := decide) only [j_u_k, j_u_same], by simp (disch := decide) only [j_u_k, j_u_same]; rfl, fun _ h => absurd h (by decide)⟩) (fun y1 y2 => hq _ k (262, 0) (hl262 (by omega)) ⟨fun o ho => by funext i; simp (disch := assumption) only [j_u_o], fun i h4 h5 h6 => by simp (disch := assumption) only [j_u_k], by simp (disch := decide) only [j_u_k, j_u_same], by simp (disch := decide) only [j_u_k, j_u_same]; rfl, fun _ h => absurd h (by decide)⟩) (fun y1 y2 => hq _ k tk (hlok (by omega) (by omega)) ⟨fun o ho => by funext i; simp (disch := assumption) only [j_u_o], fun i h4 h5 h6 => by simp (disch := assumption) only [j_u_k], by simp (disch := decide) only [j_u_k, j_u_same], by simp (disch := decide) only [j_u_k, j_u_same]; exact h5, fun _ _ => by simp (disch := decide) only [j_u_k, j_u_same]; exact hw⟩)
theorem x84_1 (hT : TC T n I) (hb : I 97 3 = nI b) {m k w f : Nat} (hk : k ≤ n) (hm : m ≤ 96) (hf : f ≤ 96) (hd : 1 ≤ d) (tk : Nat × Nat) (h5 : 258 = nI tk.1) (hw : nI w = nI tk.2) (hlok : m ≤ 4 → f ≤ 3 → 0 < f → LxN T n b k tk) (hl262 : (4 < m ∨ 3 < f ∨ f = 0) → LxN T n b k (262, 0)) (hq : ∀ J e tk, LxN T n b e tk → RS I J e tk → Q none w1 (J, D, RR R)) : j_W 84 d 0 0 0 0 167 [some (.ref 97), some (.int (nI w)), some (.int (nI m)), some (.int (nI f)), some (.int (nI k)), some (.int 1), none] [] w1 (I, D, RR R) Q := by
  have hf0 : (nI f) = 0 → f = 0 := fun h => (nI_eq (b := 0) (by omega) (by decide)).mp h
  have hf0n : ¬ (nI f) = 0 → 0 < f := fun h => Nat.pos_of_ne_zero (fun e => h (by rw [e]; rfl))
  exact s84x1 hT hb hT.1 hk hm hf hd (fun y1 => hq _ k (262, 0) (hl262 (Or.inl y1)) ⟨fun o ho => by funext i; simp (disch := assumption) only [j_u_o], fun i h4 h5 h6 => by simp (disch := assumption) only [j_u_k], by simp (disch := decide) only [j_u_k, j_u_same], by simp (disch := decide) only [j_u_k, j_u_same]; rfl, fun _ h => absurd h (by decide)⟩) (fun y1 y2 => hq _ k (262, 0) (hl262 (Or.inr (Or.inl y2))) ⟨fun o ho => by funext i; simp (disch := assumption) only [j_u_o], fun i h4 h5 h6 => by simp (disch := assumption) only [j_u_k], by simp (disch := decide) only [j_u_k, j_u_same], by simp (disch := decide) only [j_u_k, j_u_same]; rfl, fun _ h => absurd h (by decide)⟩) (fun y1 y2 y3 => hq _ k tk (hlok (by omega) (by omega) (hf0n y3)) ⟨fun o ho => by funext i; simp (disch := assumption) only [j_u_o], fun i h4 h5 h6 => by simp (disch := assumption) only [j_u_k], by simp (disch := decide) only [j_u_k, j_u_same], by simp (disch := decide) only [j_u_k, j_u_same]; exact h5, fun _ _ => by simp (disch := decide) only [j_u_k, j_u_same]; exact hw⟩) (fun y1 y2 y3 => hq _ k (262, 0) (hl262 (Or.inr (Or.inr (hf0 y3)))) ⟨fun o ho => by funext i; simp (disch := assumption) only [j_u_o], fun i h4 h5 h6 => by simp (disch := assumption) only [j_u_k], by simp (disch := decide) only [j_u_k, j_u_same], by simp (disch := decide) only [j_u_k, j_u_same]; rfl, fun _ h => absurd h (by decide)⟩)
/-- the places behind the point -/
theorem f84 (hT : TC T n I) (hb : I 97 3 = nI b) (hd : 1 ≤ d) {c m : Nat} (hbn : b < n) (hdg : isDg (T b)) (hc : dgR T n b c) (hcn : c < n) (hc46 : T c = 46) (hm : m = c - b) (hq : ∀ J e tk, LxN T n b e tk → RS I J e tk → Q none w1 (J, D, RR R)) (z : Nat) : ∀ f, (c + 1) + f ≤ n → n - ((c + 1) + f) = z → (∀ j, j < f → isDg (T ((c + 1) + j))) → j_W 84 d 0 0 0 0 108 [some (.ref 97), some (.int (nI (wvl T b m + gvl T (c + 1) f))), some (.int (nI m)), some (.int (nI f)), some (.int (nI ((c + 1) + f))), some (.int 1), some (.int (nI (unl f)))] [] w1 (I, D, RR R) Q := by
  have hn9 := hT.1
  have hfin : ∀ f, (c + 1) + f ≤ n → (∀ j, j < f → isDg (T ((c + 1) + j))) → ¬ ((c + 1) + f < n ∧ isDg (T ((c + 1) + f))) → j_W 84 d 0 0 0 0 167 [some (.ref 97), some (.int (nI (wvl T b m + gvl T (c + 1) f))), some (.int (nI m)), some (.int (nI f)), some (.int (nI ((c + 1) + f))), some (.int 1), none] [] w1 (I, D, RR R) Q := fun f hk hz hx => by
    have hr : dgR T n (c + 1) ((c + 1) + f) := ⟨by omega, fun j h1 h2 => ⟨by omega, by have := hz (j - (c + 1)) (by omega); rw [show (c + 1) + (j - (c + 1)) = j by omega] at this; exact this⟩, hx⟩
    have hef : (c + 1) + f - (c + 1) = f := by omega
    refine x84_1 hT hb hk (by omega) (by omega) hd (258, wvl T b m + gvl T (c + 1) f) rfl rfl (fun h4 h3 h0 => ⟨hbn, hdg, c, hc, Or.inr ⟨⟨hcn, hc46⟩, hr, Or.inr ⟨⟨by omega, by omega, by omega⟩, ?_⟩⟩⟩) (fun h => ⟨hbn, hdg, c, hc, Or.inr ⟨⟨hcn, hc46⟩, hr, Or.inl ⟨by omega, rfl⟩⟩⟩) hq
    rw [hef, hm]
    unfold wvl
    rw [Nat.min_eq_left (by omega)]
  induction z with
  | zero =>
    intro f hk hz9 hz
    have e : (c + 1) + f = n := by omega
    refine s84f hT hb hn9 hk hd (fun _ => hfin f hk hz (fun h => by omega)) (fun h => by omega) (fun h => by omega) (fun h => by omega)
  | succ z ih =>
    intro f hk hz9 hz
    have hlt : (c + 1) + f < n := by omega
    refine s84f hT hb hn9 hk hd (fun h => by omega) (fun _ => (hT.2.2 _ hlt).1) (fun _ h => ?_) (fun _ h => hfin f hk hz (fun h2 => h h2.2))
    have hz2 : ∀ j, j < f + 1 → isDg (T ((c + 1) + j)) := fun j hj => by
      by_cases e : j = f
      · subst e; exact h
      · exact hz j (by omega)
    have e1 : (nI (wvl T b m + gvl T (c + 1) f)) + (((nI (T ((c + 1) + f))) - 48) * (nI (unl f))) = nI (wvl T b m + gvl T (c + 1) (f + 1)) := by
      have h48 := h.1
      rw [gvl_S hz2, show (48 : Int32) = nI 48 from rfl, pk_sub h48, pk_mul, nI_add, Nat.add_assoc]
    have e2 : (nI (unl f)) / 10 = nI (unl (f + 1)) := by
      rw [unl_S, show (10 : Int32) = nI 10 from rfl, pk_div (by have : unl f ≤ 100 := (by unfold unl; split <;> (try split) <;> (try split) <;> omega); omega) (by decide) (by decide)]
    rw [e1, e2]
    exact ih (f + 1) (by omega) (by omega) hz2
theorem c84 (hT : TC T n I) (hb : I 97 3 = nI b) (hbn : b < n) (hdg : isDg (T b)) (hd : 1 ≤ d) (hq : ∀ J e tk, LxN T n b e tk → RS I J e tk → Q none w1 (J, D, RR R)) : j_Call d 84 [.ref 97] w1 (I, D, RR R) 0 0 Q := by
  have hn9 := hT.1
  have fin : ∀ m, b + m ≤ n → (∀ j, j < m → isDg (T (b + j))) → ¬ (b + m < n ∧ isDg (T (b + m))) → j_W 84 d 0 0 0 0 68 [some (.ref 97), some (.int (nI (wvl T b m))), some (.int (nI m)), some (.int 0), some (.int (nI (b + m))), none, none] [] w1 (I, D, RR R) Q := fun m hk hz hx => by
    have hr : dgR T n b (b + m) := ⟨by omega, fun j h1 h2 => ⟨by omega, by have := hz (j - b) (by omega); rw [show b + (j - b) = j by omega] at this; exact this⟩, hx⟩
    have no : ¬ (b + m < n ∧ T (b + m) = 46) → j_W 84 d 0 0 0 0 108 [some (.ref 97), some (.int (nI (wvl T b m))), some (.int (nI m)), some (.int 0), some (.int (nI (b + m))), some (.int 0), some (.int 100)] [] w1 (I, D, RR R) Q := fun hno => by
      refine r_sub (L' := [some (.ref 97), some (.int (nI (wvl T b m))), some (.int (nI m)), some (.int 0), some (.int (nI (b + m))), some (.int 0), none]) ⟨rfl, rfl, rfl, rfl, rfl, rfl, trivial⟩ ?_
      refine s84c hT hb hn9 hk hd ?_
      refine x84_0 hT hb hk (by omega) hd (257, wvl T b m) rfl rfl (fun h4 _ => ⟨hbn, hdg, b + m, hr, Or.inl ⟨hno, rfl, Or.inr ⟨by omega, ?_⟩⟩⟩) (fun h4 => ⟨hbn, hdg, b + m, hr, Or.inl ⟨hno, rfl, Or.inl ⟨by omega, rfl⟩⟩⟩) hq
      rw [show b + m - b = m by omega]
      unfold wvl
      rw [Nat.min_eq_left h4]
    refine s84b hT hb hn9 hk (fun h => (hT.2.2 _ h).1) hd (fun h => no (fun h2 => by omega)) (fun h h2 => no (fun h3 => h2 h3.2)) (fun h h2 => ?_)
    have := f84 hT hb hd hbn hdg hr (by omega) h2 (m := m) (by omega) hq _ 0 (by omega) rfl (fun j hj => absurd hj (Nat.not_lt_zero _))
    exact this
  have loop : ∀ z m, b + m ≤ n → n - (b + m) = z → (∀ j, j < m → isDg (T (b + j))) → j_W 84 d 0 0 0 0 12 [some (.ref 97), some (.int (nI (wvl T b m))), some (.int (nI m)), some (.int 0), some (.int (nI (b + m))), none, none] [] w1 (I, D, RR R) Q := fun z => by
    induction z with
    | zero =>
      intro m hk hz9 hz
      exact s84a hT hb hn9 hk hd (fun _ => fin m hk hz (fun h => by omega)) (fun h => by omega) (fun h => by omega) (fun h => by omega) (fun h => by omega)
    | succ z ih =>
      intro m hk hz9 hz
      have hlt : b + m < n := by omega
      have hz2 : isDg (T (b + m)) → ∀ j, j < m + 1 → isDg (T (b + j)) := fun h j hj => by
        by_cases e : j = m
        · subst e; exact h
        · exact hz j (by omega)
      refine s84a hT hb hn9 hk hd (fun h => by omega) (fun _ => (hT.2.2 _ hlt).1) (fun _ h h4 => ?_) (fun _ h h4 => ?_) (fun _ h => fin m hk hz (fun h2 => h h2.2))
      · rw [← wvl_4 (T := T) (b := b) h4]
        exact ih (m + 1) (by omega) (by omega) (hz2 h)
      · rw [wvl_S h (by omega)]
        exact ih (m + 1) (by omega) (by omega) (hz2 h)
  exact s84e hT hb hn9 hd (loop _ 0 (by omega) rfl (fun j hj => absurd hj (Nat.not_lt_zero _)))
end N8
