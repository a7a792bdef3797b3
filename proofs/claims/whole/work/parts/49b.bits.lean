/-! bits -/
set_option maxRecDepth 10000 in
set_option maxHeartbeats 4000000 in
theorem s57e {d : Nat} {I : Nat → Nat → Int32} {D : Nat → Nat → UInt64} {R : Nat → Nat → Option Nat} {Q : j_Po} {x : UInt64}   (hd : 0 ≤ d)
    (v1 : (deq x FP.dconst0 = false) → (dlt x FP.dconst0 = false) → j_W 57 d 0 0 0 0 24 [some (.double x), none, some (.double x), none, some (.int 0), none, none, none, none, none, none, none] [] w1 (I, D, RR R) Q)
    (v2 : (deq x FP.dconst0 = false) → (dlt x FP.dconst0 = true) → j_W 57 d 0 0 0 0 24 [some (.double x), none, some (.double (FP.dneg x)), none, some (.int 0), none, none, none, none, none, none, none] [] w1 (I, D, RR R) Q)
    (v3 : (deq x FP.dconst0 = true) → Q (some (.long 0)) w1 (I, D, RR R)) : j_Call d 57 [.double x] w1 (I, D, RR R) 0 0 Q := by
  refine q_enter (L := [some (.double x), none, none, none, none, none, none, none, none, none, none, none]) j_m57 (Nat.le_of_ble_eq_true rfl) rfl ?_
  refine q_dload_n d57_0 rfl ?_
  refine q_dconst0 d57_1 ?_
  refine q_dcmp d57_2 ?_
  refine q_if_ne (tgt := 8) d57_3 rfl (fun h1t => ?_) (fun h1f => ?_)
  ·
    have h1tc : deq x FP.dconst0 = false := dc_l_ne_t h1t
    refine q_dload_n d57_8 rfl ?_
    refine q_dconst0 d57_9 ?_
    refine q_dcmp d57_10 ?_
    refine q_if_ge (tgt := 19) d57_11 rfl (fun h2t => ?_) (fun h2f => ?_)
    ·
      have h2tc : dlt x FP.dconst0 = false := dc_g_ge_t h2t
      refine q_dload_n d57_19 rfl ?_
      refine q_dstore_n (L' := [some (.double x), none, some (.double x), none, none, none, none, none, none, none, none, none]) d57_20 (Nat.le_of_ble_eq_true rfl) rfl ?_
      refine q_iconst (v := 0) (by decide) d57_21 ?_
      refine q_istore (L' := [some (.double x), none, some (.double x), none, some (.int 0), none, none, none, none, none, none, none]) d57_22 (Nat.le_of_ble_eq_true rfl) rfl ?_
      exact r_sub (L' := [some (.double x), none, some (.double x), none, some (.int 0), none, none, none, none, none, none, none]) ⟨rfl, rfl, rfl, trivial⟩ (v1 h1tc h2tc)
    ·
      have h2fc : dlt x FP.dconst0 = true := dc_g_ge_f h2f
      refine q_dload_n d57_14 rfl ?_
      refine q_dneg d57_15 ?_
      refine q_goto (tgt := 20) d57_16 rfl ?_
      refine q_dstore_n (L' := [some (.double x), none, some (.double (FP.dneg x)), none, none, none, none, none, none, none, none, none]) d57_20 (Nat.le_of_ble_eq_true rfl) rfl ?_
      refine q_iconst (v := 0) (by decide) d57_21 ?_
      refine q_istore (L' := [some (.double x), none, some (.double (FP.dneg x)), none, some (.int 0), none, none, none, none, none, none, none]) d57_22 (Nat.le_of_ble_eq_true rfl) rfl ?_
      exact r_sub (L' := [some (.double x), none, some (.double (FP.dneg x)), none, some (.int 0), none, none, none, none, none, none, none]) ⟨rfl, rfl, rfl, trivial⟩ (v2 h1tc h2fc)
  ·
    have h1fc : deq x FP.dconst0 = true := dc_l_ne_f h1f
    refine q_lconst (v := 0) (by decide) d57_6 ?_
    exact q_lret d57_7 rfl (Nat.le_refl _) (Nat.le_refl _) (v3 h1fc)

set_option maxRecDepth 10000 in
set_option maxHeartbeats 4000000 in
theorem s57d {d : Nat} {I : Nat → Nat → Int32} {D : Nat → Nat → UInt64} {R : Nat → Nat → Option Nat} {Q : j_Po} {x : UInt64} {y : UInt64} {k : Nat}  (hk : k ≤ 1023) (hd : 0 ≤ d)
    (v1 : (1023 ≤ k) → j_W 57 d 0 0 0 0 52 [some (.double x), none, some (.double y), none, some (.int (nI k)), none, none, none, none, none, none, none] [] w1 (I, D, RR R) Q)
    (v2 : (¬ 1023 ≤ k) → (dge y 4611686018427387904 = false) → j_W 57 d 0 0 0 0 52 [some (.double x), none, some (.double y), none, some (.int (nI k)), none, none, none, none, none, none, none] [] w1 (I, D, RR R) Q)
    (v3 : (¬ 1023 ≤ k) → (dge y 4611686018427387904 = true) → vf_n64 (FP.ddiv y 4611686018427387904))
    (v4 : (¬ 1023 ≤ k) → (dge y 4611686018427387904 = true) → j_W 57 d 0 0 0 0 24 [some (.double x), none, some (.double (FP.ddiv y 4611686018427387904)), none, some (.int (nI (k + 1))), none, none, none, none, none, none, none] [] w1 (I, D, RR R) Q) : j_W 57 d 0 0 0 0 24 [some (.double x), none, some (.double y), none, some (.int (nI k)), none, none, none, none, none, none, none] [] w1 (I, D, RR R) Q := by
  refine q_iload d57_24 rfl ?_
  refine q_sipush (v := 1023) (by decide) d57_26 ?_
  refine q_icmp_ge (tgt := 52) d57_29 rfl (fun h1t => ?_) (fun h1f => ?_)
  ·
    have h1tc : 1023 ≤ k := (nI_leI (by omega) (by omega)).mp h1t
    exact r_sub (L' := [some (.double x), none, some (.double y), none, some (.int (nI k)), none, none, none, none, none, none, none]) ⟨rfl, rfl, rfl, trivial⟩ (v1 h1tc)
  ·
    have h1fc : ¬ 1023 ≤ k := mt (nI_leI (by omega) (by omega)).mpr h1f
    refine q_dload_n d57_32 rfl ?_
    refine q_ldcD (v := 4611686018427387904) d57_33 (kc9_467 57 rfl) ?_
    refine q_dcmp d57_36 ?_
    refine q_if_lt (tgt := 52) d57_37 rfl (fun h2t => ?_) (fun h2f => ?_)
    ·
      have h2tc : dge y 4611686018427387904 = false := dc_l_lt_t h2t
      exact r_sub (L' := [some (.double x), none, some (.double y), none, some (.int (nI k)), none, none, none, none, none, none, none]) ⟨rfl, rfl, rfl, trivial⟩ (v2 h1fc h2tc)
    ·
      have h2fc : dge y 4611686018427387904 = true := dc_l_lt_f h2f
      refine q_dload_n d57_40 rfl ?_
      refine q_ldcD (v := 4611686018427387904) d57_41 (kc9_467 57 rfl) ?_
      refine q_ddiv (v3 h1fc h2fc) d57_44 ?_
      refine q_dstore_n (L' := [some (.double x), none, some (.double (FP.ddiv y 4611686018427387904)), none, some (.int (nI k)), none, none, none, none, none, none, none]) d57_45 (Nat.le_of_ble_eq_true rfl) rfl ?_
      refine q_iinc (L' := [some (.double x), none, some (.double (FP.ddiv y 4611686018427387904)), none, some (.int (nI (k + 1))), none, none, none, none, none, none, none]) (v := (nI (k + 1))) d57_46 rfl (nI_inc _) rfl ?_
      refine q_goto (tgt := 24) d57_49 rfl ?_
      exact r_sub (L' := [some (.double x), none, some (.double (FP.ddiv y 4611686018427387904)), none, some (.int (nI (k + 1))), none, none, none, none, none, none, none]) ⟨rfl, rfl, rfl, trivial⟩ (v4 h1fc h2fc)

set_option maxRecDepth 10000 in
set_option maxHeartbeats 4000000 in
theorem s57h {d : Nat} {I : Nat → Nat → Int32} {D : Nat → Nat → UInt64} {R : Nat → Nat → Option Nat} {Q : j_Po} {x : UInt64} {y : UInt64} {k : Int32}   (hd : 0 ≤ d)
    (v1 : (k ≤ (-1022)) → (dge y FP.dconst1 = false) → vf_n64 (FP.dmul y 4841369599423283200))
    (v2 : (k ≤ (-1022)) → (dge y FP.dconst1 = false) → (dlt x FP.dconst0 = false) → Q (some (.long ((0 ||| 0) ||| (FP.d2l (FP.dmul y 4841369599423283200))))) w1 (I, D, RR R))
    (v3 : (k ≤ (-1022)) → (dge y FP.dconst1 = false) → (dlt x FP.dconst0 = true) → Q (some (.long (((-9223372036854775808) ||| 0) ||| (FP.d2l (FP.dmul y 4841369599423283200))))) w1 (I, D, RR R))
    (v4 : (k ≤ (-1022)) → (dge y FP.dconst1 = true) → vf_n64 (FP.dsub y FP.dconst1))
    (v5 : (k ≤ (-1022)) → (dge y FP.dconst1 = true) → vf_n64 (FP.dmul (FP.dsub y FP.dconst1) 4841369599423283200))
    (v6 : (k ≤ (-1022)) → (dge y FP.dconst1 = true) → (dlt x FP.dconst0 = false) → Q (some (.long ((0 ||| ((((k + 1023) : Int32).toInt64) <<< ((52 : Int32).toInt64 &&& 63))) ||| (FP.d2l (FP.dmul (FP.dsub y FP.dconst1) 4841369599423283200))))) w1 (I, D, RR R))
    (v7 : (k ≤ (-1022)) → (dge y FP.dconst1 = true) → (dlt x FP.dconst0 = true) → Q (some (.long (((-9223372036854775808) ||| ((((k + 1023) : Int32).toInt64) <<< ((52 : Int32).toInt64 &&& 63))) ||| (FP.d2l (FP.dmul (FP.dsub y FP.dconst1) 4841369599423283200))))) w1 (I, D, RR R))
    (v8 : (¬ k ≤ (-1022)) → (dlt y FP.dconst1 = false) → (dge y FP.dconst1 = false) → vf_n64 (FP.dmul y 4841369599423283200))
    (v9 : (¬ k ≤ (-1022)) → (dlt y FP.dconst1 = false) → (dge y FP.dconst1 = false) → (dlt x FP.dconst0 = false) → Q (some (.long ((0 ||| 0) ||| (FP.d2l (FP.dmul y 4841369599423283200))))) w1 (I, D, RR R))
    (v10 : (¬ k ≤ (-1022)) → (dlt y FP.dconst1 = false) → (dge y FP.dconst1 = false) → (dlt x FP.dconst0 = true) → Q (some (.long (((-9223372036854775808) ||| 0) ||| (FP.d2l (FP.dmul y 4841369599423283200))))) w1 (I, D, RR R))
    (v11 : (¬ k ≤ (-1022)) → (dlt y FP.dconst1 = false) → (dge y FP.dconst1 = true) → vf_n64 (FP.dsub y FP.dconst1))
    (v12 : (¬ k ≤ (-1022)) → (dlt y FP.dconst1 = false) → (dge y FP.dconst1 = true) → vf_n64 (FP.dmul (FP.dsub y FP.dconst1) 4841369599423283200))
    (v13 : (¬ k ≤ (-1022)) → (dlt y FP.dconst1 = false) → (dge y FP.dconst1 = true) → (dlt x FP.dconst0 = false) → Q (some (.long ((0 ||| ((((k + 1023) : Int32).toInt64) <<< ((52 : Int32).toInt64 &&& 63))) ||| (FP.d2l (FP.dmul (FP.dsub y FP.dconst1) 4841369599423283200))))) w1 (I, D, RR R))
    (v14 : (¬ k ≤ (-1022)) → (dlt y FP.dconst1 = false) → (dge y FP.dconst1 = true) → (dlt x FP.dconst0 = true) → Q (some (.long (((-9223372036854775808) ||| ((((k + 1023) : Int32).toInt64) <<< ((52 : Int32).toInt64 &&& 63))) ||| (FP.d2l (FP.dmul (FP.dsub y FP.dconst1) 4841369599423283200))))) w1 (I, D, RR R))
    (v15 : (¬ k ≤ (-1022)) → (dlt y FP.dconst1 = true) → vf_n64 (FP.dmul y 4611686018427387904))
    (v16 : (¬ k ≤ (-1022)) → (dlt y FP.dconst1 = true) → j_W 57 d 0 0 0 0 52 [some (.double x), none, some (.double (FP.dmul y 4611686018427387904)), none, some (.int (k + (-1))), none, none, none, none, none, none, none] [] w1 (I, D, RR R) Q) : j_W 57 d 0 0 0 0 52 [some (.double x), none, some (.double y), none, some (.int k), none, none, none, none, none, none, none] [] w1 (I, D, RR R) Q := by
  refine q_iload d57_52 rfl ?_
  refine q_sipush (v := (-1022)) (by decide) d57_54 ?_
  refine q_icmp_le (tgt := 78) d57_57 rfl (fun h1t => ?_) (fun h1f => ?_)
  ·
    refine q_dload_n d57_78 rfl ?_
    refine q_dconst1 d57_79 ?_
    refine q_dcmp d57_80 ?_
    refine q_if_lt (tgt := 88) d57_81 rfl (fun h2t => ?_) (fun h2f => ?_)
    ·
      have h2tc : dge y FP.dconst1 = false := dc_l_lt_t h2t
      refine q_iconst (v := 0) (by decide) d57_88 ?_
      refine q_istore (L' := [some (.double x), none, some (.double y), none, some (.int k), some (.int 0), none, none, none, none, none, none]) d57_89 (Nat.le_of_ble_eq_true rfl) rfl ?_
      refine q_iload d57_91 rfl ?_
      refine q_if_eq (tgt := 102) d57_93 rfl (fun _ => ?_) (fun h => absurd h (by decide))
      refine q_dload_n d57_102 rfl ?_
      refine q_ldcD (v := 4841369599423283200) d57_103 (kc9_469 57 rfl) ?_
      refine q_dmul (v1 h1t h2tc) d57_106 ?_
      refine q_d2l d57_107 ?_
      refine q_lstore (L' := [some (.double x), none, some (.double y), none, some (.int k), some (.int 0), some (.long (FP.d2l (FP.dmul y 4841369599423283200))), none, none, none, none, none]) d57_108 (Nat.le_of_ble_eq_true rfl) rfl ?_
      refine q_dload_n d57_110 rfl ?_
      refine q_dconst0 d57_111 ?_
      refine q_dcmp d57_112 ?_
      refine q_if_ge (tgt := 122) d57_113 rfl (fun h3t => ?_) (fun h3f => ?_)
      ·
        have h3tc : dlt x FP.dconst0 = false := dc_g_ge_t h3t
        refine q_lconst (v := 0) (by decide) d57_122 ?_
        refine q_lstore (L' := [some (.double x), none, some (.double y), none, some (.int k), some (.int 0), some (.long (FP.d2l (FP.dmul y 4841369599423283200))), none, some (.long 0), none, none, none]) d57_123 (Nat.le_of_ble_eq_true rfl) rfl ?_
        refine q_iload d57_125 rfl ?_
        refine q_if_eq (tgt := 143) d57_127 rfl (fun _ => ?_) (fun h => absurd h (by decide))
        refine q_lconst (v := 0) (by decide) d57_143 ?_
        refine q_lstore (L' := [some (.double x), none, some (.double y), none, some (.int k), some (.int 0), some (.long (FP.d2l (FP.dmul y 4841369599423283200))), none, some (.long 0), none, some (.long 0), none]) d57_144 (Nat.le_of_ble_eq_true rfl) rfl ?_
        refine q_lload d57_146 rfl ?_
        refine q_lload d57_148 rfl ?_
        refine q_lor d57_150 ?_
        refine q_lload d57_151 rfl ?_
        refine q_lor d57_153 ?_
        exact q_lret d57_154 rfl (Nat.le_refl _) (Nat.le_refl _) (v2 h1t h2tc h3tc)
      ·
        have h3fc : dlt x FP.dconst0 = true := dc_g_ge_f h3f
        refine q_ldcL (v := (-9223372036854775808)) d57_116 (kc9_265 57 rfl) ?_
        refine q_goto (tgt := 123) d57_119 rfl ?_
        refine q_lstore (L' := [some (.double x), none, some (.double y), none, some (.int k), some (.int 0), some (.long (FP.d2l (FP.dmul y 4841369599423283200))), none, some (.long (-9223372036854775808)), none, none, none]) d57_123 (Nat.le_of_ble_eq_true rfl) rfl ?_
        refine q_iload d57_125 rfl ?_
        refine q_if_eq (tgt := 143) d57_127 rfl (fun _ => ?_) (fun h => absurd h (by decide))
        refine q_lconst (v := 0) (by decide) d57_143 ?_
        refine q_lstore (L' := [some (.double x), none, some (.double y), none, some (.int k), some (.int 0), some (.long (FP.d2l (FP.dmul y 4841369599423283200))), none, some (.long (-9223372036854775808)), none, some (.long 0), none]) d57_144 (Nat.le_of_ble_eq_true rfl) rfl ?_
        refine q_lload d57_146 rfl ?_
        refine q_lload d57_148 rfl ?_
        refine q_lor d57_150 ?_
        refine q_lload d57_151 rfl ?_
        refine q_lor d57_153 ?_
        exact q_lret d57_154 rfl (Nat.le_refl _) (Nat.le_refl _) (v3 h1t h2tc h3fc)
    ·
      have h2fc : dge y FP.dconst1 = true := dc_l_lt_f h2f
      refine q_iconst (v := 1) (by decide) d57_84 ?_
      refine q_goto (tgt := 89) d57_85 rfl ?_
      refine q_istore (L' := [some (.double x), none, some (.double y), none, some (.int k), some (.int 1), none, none, none, none, none, none]) d57_89 (Nat.le_of_ble_eq_true rfl) rfl ?_
      refine q_iload d57_91 rfl ?_
      refine q_if_eq (tgt := 102) d57_93 rfl (fun h => absurd h (by decide)) (fun _ => ?_)
      refine q_dload_n d57_96 rfl ?_
      refine q_dconst1 d57_97 ?_
      refine q_dsub (v4 h1t h2fc) d57_98 ?_
      refine q_goto (tgt := 103) d57_99 rfl ?_
      refine q_ldcD (v := 4841369599423283200) d57_103 (kc9_469 57 rfl) ?_
      refine q_dmul (v5 h1t h2fc) d57_106 ?_
      refine q_d2l d57_107 ?_
      refine q_lstore (L' := [some (.double x), none, some (.double y), none, some (.int k), some (.int 1), some (.long (FP.d2l (FP.dmul (FP.dsub y FP.dconst1) 4841369599423283200))), none, none, none, none, none]) d57_108 (Nat.le_of_ble_eq_true rfl) rfl ?_
      refine q_dload_n d57_110 rfl ?_
      refine q_dconst0 d57_111 ?_
      refine q_dcmp d57_112 ?_
      refine q_if_ge (tgt := 122) d57_113 rfl (fun h4t => ?_) (fun h4f => ?_)
      ·
        have h4tc : dlt x FP.dconst0 = false := dc_g_ge_t h4t
        refine q_lconst (v := 0) (by decide) d57_122 ?_
        refine q_lstore (L' := [some (.double x), none, some (.double y), none, some (.int k), some (.int 1), some (.long (FP.d2l (FP.dmul (FP.dsub y FP.dconst1) 4841369599423283200))), none, some (.long 0), none, none, none]) d57_123 (Nat.le_of_ble_eq_true rfl) rfl ?_
        refine q_iload d57_125 rfl ?_
        refine q_if_eq (tgt := 143) d57_127 rfl (fun h => absurd h (by decide)) (fun _ => ?_)
        refine q_iload d57_130 rfl ?_
        refine q_sipush (v := 1023) (by decide) d57_132 ?_
        refine q_iadd d57_135 ?_
        refine q_i2l d57_136 ?_
        refine q_bipush (v := 52) (by decide) d57_137 ?_
        refine q_lshl d57_139 ?_
        refine q_goto (tgt := 144) d57_140 rfl ?_
        refine q_lstore (L' := [some (.double x), none, some (.double y), none, some (.int k), some (.int 1), some (.long (FP.d2l (FP.dmul (FP.dsub y FP.dconst1) 4841369599423283200))), none, some (.long 0), none, some (.long ((((k + 1023) : Int32).toInt64) <<< ((52 : Int32).toInt64 &&& 63))), none]) d57_144 (Nat.le_of_ble_eq_true rfl) rfl ?_
        refine q_lload d57_146 rfl ?_
        refine q_lload d57_148 rfl ?_
        refine q_lor d57_150 ?_
        refine q_lload d57_151 rfl ?_
        refine q_lor d57_153 ?_
        exact q_lret d57_154 rfl (Nat.le_refl _) (Nat.le_refl _) (v6 h1t h2fc h4tc)
      ·
        have h4fc : dlt x FP.dconst0 = true := dc_g_ge_f h4f
        refine q_ldcL (v := (-9223372036854775808)) d57_116 (kc9_265 57 rfl) ?_
        refine q_goto (tgt := 123) d57_119 rfl ?_
        refine q_lstore (L' := [some (.double x), none, some (.double y), none, some (.int k), some (.int 1), some (.long (FP.d2l (FP.dmul (FP.dsub y FP.dconst1) 4841369599423283200))), none, some (.long (-9223372036854775808)), none, none, none]) d57_123 (Nat.le_of_ble_eq_true rfl) rfl ?_
        refine q_iload d57_125 rfl ?_
        refine q_if_eq (tgt := 143) d57_127 rfl (fun h => absurd h (by decide)) (fun _ => ?_)
        refine q_iload d57_130 rfl ?_
        refine q_sipush (v := 1023) (by decide) d57_132 ?_
        refine q_iadd d57_135 ?_
        refine q_i2l d57_136 ?_
        refine q_bipush (v := 52) (by decide) d57_137 ?_
        refine q_lshl d57_139 ?_
        refine q_goto (tgt := 144) d57_140 rfl ?_
        refine q_lstore (L' := [some (.double x), none, some (.double y), none, some (.int k), some (.int 1), some (.long (FP.d2l (FP.dmul (FP.dsub y FP.dconst1) 4841369599423283200))), none, some (.long (-9223372036854775808)), none, some (.long ((((k + 1023) : Int32).toInt64) <<< ((52 : Int32).toInt64 &&& 63))), none]) d57_144 (Nat.le_of_ble_eq_true rfl) rfl ?_
        refine q_lload d57_146 rfl ?_
        refine q_lload d57_148 rfl ?_
        refine q_lor d57_150 ?_
        refine q_lload d57_151 rfl ?_
        refine q_lor d57_153 ?_
        exact q_lret d57_154 rfl (Nat.le_refl _) (Nat.le_refl _) (v7 h1t h2fc h4fc)
  ·
    refine q_dload_n d57_60 rfl ?_
    refine q_dconst1 d57_61 ?_
    refine q_dcmp d57_62 ?_
    refine q_if_ge (tgt := 78) d57_63 rfl (fun h5t => ?_) (fun h5f => ?_)
    ·
      have h5tc : dlt y FP.dconst1 = false := dc_g_ge_t h5t
      refine q_dload_n d57_78 rfl ?_
      refine q_dconst1 d57_79 ?_
      refine q_dcmp d57_80 ?_
      refine q_if_lt (tgt := 88) d57_81 rfl (fun h6t => ?_) (fun h6f => ?_)
      ·
        have h6tc : dge y FP.dconst1 = false := dc_l_lt_t h6t
        refine q_iconst (v := 0) (by decide) d57_88 ?_
        refine q_istore (L' := [some (.double x), none, some (.double y), none, some (.int k), some (.int 0), none, none, none, none, none, none]) d57_89 (Nat.le_of_ble_eq_true rfl) rfl ?_
        refine q_iload d57_91 rfl ?_
        refine q_if_eq (tgt := 102) d57_93 rfl (fun _ => ?_) (fun h => absurd h (by decide))
        refine q_dload_n d57_102 rfl ?_
        refine q_ldcD (v := 4841369599423283200) d57_103 (kc9_469 57 rfl) ?_
        refine q_dmul (v8 h1f h5tc h6tc) d57_106 ?_
        refine q_d2l d57_107 ?_
        refine q_lstore (L' := [some (.double x), none, some (.double y), none, some (.int k), some (.int 0), some (.long (FP.d2l (FP.dmul y 4841369599423283200))), none, none, none, none, none]) d57_108 (Nat.le_of_ble_eq_true rfl) rfl ?_
        refine q_dload_n d57_110 rfl ?_
        refine q_dconst0 d57_111 ?_
        refine q_dcmp d57_112 ?_
        refine q_if_ge (tgt := 122) d57_113 rfl (fun h7t => ?_) (fun h7f => ?_)
        ·
          have h7tc : dlt x FP.dconst0 = false := dc_g_ge_t h7t
          refine q_lconst (v := 0) (by decide) d57_122 ?_
          refine q_lstore (L' := [some (.double x), none, some (.double y), none, some (.int k), some (.int 0), some (.long (FP.d2l (FP.dmul y 4841369599423283200))), none, some (.long 0), none, none, none]) d57_123 (Nat.le_of_ble_eq_true rfl) rfl ?_
          refine q_iload d57_125 rfl ?_
          refine q_if_eq (tgt := 143) d57_127 rfl (fun _ => ?_) (fun h => absurd h (by decide))
          refine q_lconst (v := 0) (by decide) d57_143 ?_
          refine q_lstore (L' := [some (.double x), none, some (.double y), none, some (.int k), some (.int 0), some (.long (FP.d2l (FP.dmul y 4841369599423283200))), none, some (.long 0), none, some (.long 0), none]) d57_144 (Nat.le_of_ble_eq_true rfl) rfl ?_
          refine q_lload d57_146 rfl ?_
          refine q_lload d57_148 rfl ?_
          refine q_lor d57_150 ?_
          refine q_lload d57_151 rfl ?_
          refine q_lor d57_153 ?_
          exact q_lret d57_154 rfl (Nat.le_refl _) (Nat.le_refl _) (v9 h1f h5tc h6tc h7tc)
        ·
          have h7fc : dlt x FP.dconst0 = true := dc_g_ge_f h7f
          refine q_ldcL (v := (-9223372036854775808)) d57_116 (kc9_265 57 rfl) ?_
          refine q_goto (tgt := 123) d57_119 rfl ?_
          refine q_lstore (L' := [some (.double x), none, some (.double y), none, some (.int k), some (.int 0), some (.long (FP.d2l (FP.dmul y 4841369599423283200))), none, some (.long (-9223372036854775808)), none, none, none]) d57_123 (Nat.le_of_ble_eq_true rfl) rfl ?_
          refine q_iload d57_125 rfl ?_
          refine q_if_eq (tgt := 143) d57_127 rfl (fun _ => ?_) (fun h => absurd h (by decide))
          refine q_lconst (v := 0) (by decide) d57_143 ?_
          refine q_lstore (L' := [some (.double x), none, some (.double y), none, some (.int k), some (.int 0), some (.long (FP.d2l (FP.dmul y 4841369599423283200))), none, some (.long (-9223372036854775808)), none, some (.long 0), none]) d57_144 (Nat.le_of_ble_eq_true rfl) rfl ?_
          refine q_lload d57_146 rfl ?_
          refine q_lload d57_148 rfl ?_
          refine q_lor d57_150 ?_
          refine q_lload d57_151 rfl ?_
          refine q_lor d57_153 ?_
          exact q_lret d57_154 rfl (Nat.le_refl _) (Nat.le_refl _) (v10 h1f h5tc h6tc h7fc)
      ·
        have h6fc : dge y FP.dconst1 = true := dc_l_lt_f h6f
        refine q_iconst (v := 1) (by decide) d57_84 ?_
        refine q_goto (tgt := 89) d57_85 rfl ?_
        refine q_istore (L' := [some (.double x), none, some (.double y), none, some (.int k), some (.int 1), none, none, none, none, none, none]) d57_89 (Nat.le_of_ble_eq_true rfl) rfl ?_
        refine q_iload d57_91 rfl ?_
        refine q_if_eq (tgt := 102) d57_93 rfl (fun h => absurd h (by decide)) (fun _ => ?_)
        refine q_dload_n d57_96 rfl ?_
        refine q_dconst1 d57_97 ?_
        refine q_dsub (v11 h1f h5tc h6fc) d57_98 ?_
        refine q_goto (tgt := 103) d57_99 rfl ?_
        refine q_ldcD (v := 4841369599423283200) d57_103 (kc9_469 57 rfl) ?_
        refine q_dmul (v12 h1f h5tc h6fc) d57_106 ?_
        refine q_d2l d57_107 ?_
        refine q_lstore (L' := [some (.double x), none, some (.double y), none, some (.int k), some (.int 1), some (.long (FP.d2l (FP.dmul (FP.dsub y FP.dconst1) 4841369599423283200))), none, none, none, none, none]) d57_108 (Nat.le_of_ble_eq_true rfl) rfl ?_
        refine q_dload_n d57_110 rfl ?_
        refine q_dconst0 d57_111 ?_
        refine q_dcmp d57_112 ?_
        refine q_if_ge (tgt := 122) d57_113 rfl (fun h8t => ?_) (fun h8f => ?_)
        ·
          have h8tc : dlt x FP.dconst0 = false := dc_g_ge_t h8t
          refine q_lconst (v := 0) (by decide) d57_122 ?_
          refine q_lstore (L' := [some (.double x), none, some (.double y), none, some (.int k), some (.int 1), some (.long (FP.d2l (FP.dmul (FP.dsub y FP.dconst1) 4841369599423283200))), none, some (.long 0), none, none, none]) d57_123 (Nat.le_of_ble_eq_true rfl) rfl ?_
          refine q_iload d57_125 rfl ?_
          refine q_if_eq (tgt := 143) d57_127 rfl (fun h => absurd h (by decide)) (fun _ => ?_)
          refine q_iload d57_130 rfl ?_
          refine q_sipush (v := 1023) (by decide) d57_132 ?_
          refine q_iadd d57_135 ?_
          refine q_i2l d57_136 ?_
          refine q_bipush (v := 52) (by decide) d57_137 ?_
          refine q_lshl d57_139 ?_
          refine q_goto (tgt := 144) d57_140 rfl ?_
          refine q_lstore (L' := [some (.double x), none, some (.double y), none, some (.int k), some (.int 1), some (.long (FP.d2l (FP.dmul (FP.dsub y FP.dconst1) 4841369599423283200))), none, some (.long 0), none, some (.long ((((k + 1023) : Int32).toInt64) <<< ((52 : Int32).toInt64 &&& 63))), none]) d57_144 (Nat.le_of_ble_eq_true rfl) rfl ?_
          refine q_lload d57_146 rfl ?_
          refine q_lload d57_148 rfl ?_
          refine q_lor d57_150 ?_
          refine q_lload d57_151 rfl ?_
          refine q_lor d57_153 ?_
          exact q_lret d57_154 rfl (Nat.le_refl _) (Nat.le_refl _) (v13 h1f h5tc h6fc h8tc)
        ·
          have h8fc : dlt x FP.dconst0 = true := dc_g_ge_f h8f
          refine q_ldcL (v := (-9223372036854775808)) d57_116 (kc9_265 57 rfl) ?_
          refine q_goto (tgt := 123) d57_119 rfl ?_
          refine q_lstore (L' := [some (.double x), none, some (.double y), none, some (.int k), some (.int 1), some (.long (FP.d2l (FP.dmul (FP.dsub y FP.dconst1) 4841369599423283200))), none, some (.long (-9223372036854775808)), none, none, none]) d57_123 (Nat.le_of_ble_eq_true rfl) rfl ?_
          refine q_iload d57_125 rfl ?_
          refine q_if_eq (tgt := 143) d57_127 rfl (fun h => absurd h (by decide)) (fun _ => ?_)
          refine q_iload d57_130 rfl ?_
          refine q_sipush (v := 1023) (by decide) d57_132 ?_
          refine q_iadd d57_135 ?_
          refine q_i2l d57_136 ?_
          refine q_bipush (v := 52) (by decide) d57_137 ?_
          refine q_lshl d57_139 ?_
          refine q_goto (tgt := 144) d57_140 rfl ?_
          refine q_lstore (L' := [some (.double x), none, some (.double y), none, some (.int k), some (.int 1), some (.long (FP.d2l (FP.dmul (FP.dsub y FP.dconst1) 4841369599423283200))), none, some (.long (-9223372036854775808)), none, some (.long ((((k + 1023) : Int32).toInt64) <<< ((52 : Int32).toInt64 &&& 63))), none]) d57_144 (Nat.le_of_ble_eq_true rfl) rfl ?_
          refine q_lload d57_146 rfl ?_
          refine q_lload d57_148 rfl ?_
          refine q_lor d57_150 ?_
          refine q_lload d57_151 rfl ?_
          refine q_lor d57_153 ?_
          exact q_lret d57_154 rfl (Nat.le_refl _) (Nat.le_refl _) (v14 h1f h5tc h6fc h8fc)
    ·
      have h5fc : dlt y FP.dconst1 = true := dc_g_ge_f h5f
      refine q_dload_n d57_66 rfl ?_
      refine q_ldcD (v := 4611686018427387904) d57_67 (kc9_467 57 rfl) ?_
      refine q_dmul (v15 h1f h5fc) d57_70 ?_
      refine q_dstore_n (L' := [some (.double x), none, some (.double (FP.dmul y 4611686018427387904)), none, some (.int k), none, none, none, none, none, none, none]) d57_71 (Nat.le_of_ble_eq_true rfl) rfl ?_
      refine q_iinc (L' := [some (.double x), none, some (.double (FP.dmul y 4611686018427387904)), none, some (.int (k + (-1))), none, none, none, none, none, none, none]) (v := (k + (-1))) d57_72 rfl rfl rfl ?_
      refine q_goto (tgt := 52) d57_75 rfl ?_
      exact r_sub (L' := [some (.double x), none, some (.double (FP.dmul y 4611686018427387904)), none, some (.int (k + (-1))), none, none, none, none, none, none, none]) ⟨rfl, rfl, rfl, trivial⟩ (v16 h1f h5fc)

theorem dmul_52 {x : UInt64} (h : Fi x) (ht : vm x * 2 ^ 52 < 2 ^ 2098) : Fi (FP.dmul x 4841369599423283200) ∧ vs (FP.dmul x 4841369599423283200) = vs x ∧ vm (FP.dmul x 4841369599423283200) = vm x * 2 ^ 52 := by
  obtain ⟨c, e, h1, h2, h3, -, -⟩ := fi_shape h
  have h4 : Jvm.FP.Core.val64 4841369599423283200 = .fin false (2 ^ 52) 0 := by decide +kernel
  have hv : Jvm.FP.Core.val64 (FP.dmul x 4841369599423283200) = Jvm.FP.Core.roundRatio Jvm.FP.Core.b64 (vs x) (c * 2 ^ 52) 1 (-1074 + e + 0) := by
    rw [Jvm.FP.Core.val64_dmul, h1, h4]
    show Jvm.FP.Core.round _ (.fin ((vs x) != false) _ _) = _
    rw [Bool.bne_false]; rfl
  obtain ⟨c', q', h5, h6⟩ := rr_ex (s := vs x) (A := c * 2 ^ 52) (B := 1) (n := vm x * 2 ^ 52) (k := 0) (e := -1074 + e + 0) (by decide) (rep_pow (fi_rep h) _) ht (by omega) (by
    rw [show (-1074 + (e : Int) + 0 - (-1074 - ((0 : Nat) : Int))).toNat = e by omega, h3]
    generalize (2 : Nat) ^ 52 = u
    rw [Nat.mul_one, Nat.pow_zero, Nat.mul_one]
    ac_rfl)
  rw [h5] at hv
  refine ⟨⟨_, _, _, hv⟩, ?_, ?_⟩
  · show Jvm.FP.Core.sgn _ = _
    rw [hv]; rfl
  · show Jvm.FP.Core.zmag _ _ = _
    rw [hv]; exact h6
theorem vm_bits {x : UInt64} (hx : Fi x) : vm x = if x.toNat % 2 ^ 63 < 2 ^ 52 then x.toNat % 2 ^ 63 else (2 ^ 52 + x.toNat % 2 ^ 63 % 2 ^ 52) * 2 ^ (x.toNat % 2 ^ 63 / 2 ^ 52 - 1) := by
  have := Jvm.FP.Core.zmag_bits (Jvm.FP.Core.DFin.ne_nan hx)
  exact this
theorem bits_eq {x : UInt64} (hx : Fi x) {E T : Nat} (hT : T < 2 ^ 52) (hm : vm x = if E = 0 then T else (2 ^ 52 + T) * 2 ^ (E - 1)) : x.toNat % 2 ^ 63 = E * 2 ^ 52 + T := by
  rw [vm_bits hx] at hm
  generalize x.toNat % 2 ^ 63 = m at hm ⊢
  have hd := Nat.div_add_mod m (2 ^ 52)
  have hlt := Nat.mod_lt m (show 0 < 2 ^ 52 by decide)
  split at hm
  · split at hm
    · rename_i e0; subst e0; omega
    · rename_i h1 h2
      obtain ⟨-, h3⟩ := pow_uni (c := m) (d := 2 ^ 52 + T) (a := 0) (b := E - 1) (by omega) (by omega) (Or.inl rfl) (Or.inr (by omega)) (by rw [Nat.pow_zero, Nat.mul_one]; exact hm)
      omega
  · split at hm
    · rename_i h1 h2
      obtain ⟨-, h3⟩ := pow_uni (c := 2 ^ 52 + m % 2 ^ 52) (d := T) (a := m / 2 ^ 52 - 1) (b := 0) (by omega) (by omega) (Or.inr (by omega)) (Or.inl rfl) (by rw [Nat.pow_zero, Nat.mul_one]; exact hm)
      omega
    · rename_i h1 h2
      obtain ⟨h4, h3⟩ := pow_uni (c := 2 ^ 52 + m % 2 ^ 52) (d := 2 ^ 52 + T) (a := m / 2 ^ 52 - 1) (b := E - 1) (by omega) (by omega) (Or.inr (by omega)) (Or.inr (by omega)) hm
      have h5 : 1 ≤ m / 2 ^ 52 := (Nat.le_div_iff_mul_le (by decide)).mpr (by omega)
      have h6 : m / 2 ^ 52 = E := by omega
      rw [h6] at hd
      omega
theorem l_c52 : ((52 : Int32).toInt64 &&& 63) = 52 := by decide
theorem lor_eq {x : UInt64} {sg : Int64} {E T : Nat} (hE : E < 2 ^ 11) (hT : T < 2 ^ 52) (hx : x.toNat % 2 ^ 63 = E * 2 ^ 52 + T) (hs : sg = 0 ∧ x.toNat < 2 ^ 63 ∨ sg = -9223372036854775808 ∧ 2 ^ 63 ≤ x.toNat) : ((sg ||| (lN E <<< ((52 : Int32).toInt64 &&& 63))) ||| lN T) = x.toInt64 := by
  rw [l_c52]
  apply Int64.toBitVec_inj.mp
  rw [Int64.toBitVec_or, Int64.toBitVec_or, Int64.toBitVec_shiftLeft]
  apply BitVec.eq_of_toNat_eq
  rw [BitVec.toNat_or, BitVec.toNat_or]
  have e1 : ((lN E).toBitVec <<< ((52 : Int64).toBitVec.smod 64)).toNat = E * 2 ^ 52 := by
    show (BitVec.ofNat 64 E <<< (((52 : Int64).toBitVec.smod 64)).toNat).toNat = _
    rw [show ((52 : Int64).toBitVec.smod 64).toNat = 52 by decide, BitVec.toNat_shiftLeft, BitVec.toNat_ofNat, Nat.mod_eq_of_lt (show E < 2 ^ 64 by omega), Nat.shiftLeft_eq, Nat.mod_eq_of_lt (by omega)]
  have e2 : (lN T).toBitVec.toNat = T := by
    show (BitVec.ofNat 64 T).toNat = T
    rw [BitVec.toNat_ofNat, Nat.mod_eq_of_lt (by omega)]
  have e3 : x.toInt64.toBitVec.toNat = x.toNat := rfl
  rw [e1, e2, e3]
  have h64 := x.toNat_lt
  have o1 : E * 2 ^ 52 ||| T = E * 2 ^ 52 + T := by
    rw [← Nat.shiftLeft_eq, ← Nat.shiftLeft_add_eq_or_of_lt hT]
  rcases hs with ⟨rfl, h⟩ | ⟨rfl, h⟩
  · rw [show (0 : Int64).toBitVec.toNat = 0 from rfl, Nat.zero_or, o1, ← hx, Nat.mod_eq_of_lt h]
  · rw [show (-9223372036854775808 : Int64).toBitVec.toNat = 2 ^ 63 by decide, Nat.or_assoc, o1]
    have e5 : 2 ^ 63 ||| (E * 2 ^ 52 + T) = 2 ^ 63 + (E * 2 ^ 52 + T) := by
      have := Nat.two_pow_add_eq_or_of_lt (i := 63) (b := E * 2 ^ 52 + T) (by rw [← hx]; exact Nat.mod_lt _ (by decide)) 1
      rw [Nat.mul_one] at this
      exact this.symm
    rw [e5, ← hx]
    omega
theorem d2l_T {z : UInt64} {T : Nat} (hz : Fi z) (hs : vs z = false) (hm : vm z = T * 2 ^ 1074) (hT : T < 2 ^ 53) : FP.d2l z = lN T := by
  have h1 := Jvm.FP.Core.d2l_val (Jvm.FP.Core.DFin.ne_nan hz)
  apply Int64.toInt.inj
  rw [h1]
  have e1 : vm z / Jvm.FP.Core.one64 = T := by
    rw [hm]
    exact Nat.mul_div_cancel _ Jvm.FP.Core.one64_pos
  have e2 : (lN T).toInt = (T : Int) := by
    show (Int64.ofNat T).toInt = _
    rw [Int64.toInt_ofNat_of_lt (by omega)]
  rw [e2]
  show max _ (min _ (Jvm.FP.Core.signed (vs z) (vm z / Jvm.FP.Core.one64))) = _
  rw [hs, e1]
  show max _ (min _ (T : Int)) = _
  omega
theorem fi_1 : Fi FP.dconst1 := ⟨_, _, _, Jvm.FP.Core.val64_dconst1⟩
theorem vs_1 : vs FP.dconst1 = false := by decide +kernel
theorem vm_1 : vm FP.dconst1 = 2 ^ 1074 := by decide +kernel
theorem vz_2 : vz 4611686018427387904 = ((2 ^ 1075 : Nat) : Int) := by decide +kernel
theorem fi_2' : Fi 4611686018427387904 := fi_lib.mp fi_2
def Bt2 (x y : UInt64) (P : Nat) : Prop := Fi y ∧ vs y = false ∧ vm y < 2 ^ 1075 ∧ vm y * 2 ^ P = vm x * 2 ^ 1022 ∧ P ≤ 2045 ∧ (1022 < P → 2 ^ 1074 ≤ vm y)
def kP (P : Nat) : Int32 := nI P + -1022
theorem kP_le {P : Nat} (h : P ≤ 2045) : kP P ≤ -1022 ↔ P = 0 := by
  have : ∀ P, P ≤ 2045 → (kP P ≤ -1022 ↔ P = 0) := by unfold kP; decide +kernel
  exact this P h
theorem kP_E {P : Nat} : kP P + 1023 = nI (P + 1) := by
  unfold kP
  rw [Int32.add_assoc, show (-1022 + 1023 : Int32) = 1 by decide]
  exact nI_1 P
theorem kP_s {P : Nat} : kP (P + 1) + -1 = kP P := by
  unfold kP
  rw [← nI_m1 P, Int32.add_assoc, Int32.add_assoc, Int32.add_comm (-1022) (-1)]
section BT
variable {d : Nat} {I : Nat → Nat → Int32} {D : Nat → Nat → UInt64} {R : Nat → Nat → Option Nat} {Q : j_Po} {x : UInt64}
theorem bt_sg (hx : Fi x) (h0 : vz x ≠ 0) : (dlt x FP.dconst0 = false → x.toNat < 2 ^ 63) ∧ (dlt x FP.dconst0 = true → 2 ^ 63 ≤ x.toNat) := by
  have nn := Jvm.FP.Core.DFin.ne_nan hx
  constructor
  · intro h
    rcases Nat.lt_or_ge x.toNat (2 ^ 63) with h1 | h1
    · exact h1
    · have h2 : vz x ≤ 0 := Jvm.FP.Core.zval_nonpos nn h1
      have := (dlt_iff hx fi_0).mpr (by rw [vz_0]; omega)
      rw [this] at h; cases h
  · intro h
    rcases Nat.lt_or_ge x.toNat (2 ^ 63) with h1 | h1
    · have h2 : 0 ≤ vz x := Jvm.FP.Core.zval_nonneg nn h1
      have := (dlt_iff hx fi_0).mp h
      rw [vz_0] at this; omega
    · exact h1
/-- y is in 1 .. 2: its fraction -/
theorem bt_norm {y : UInt64} (hy : Fi y) (hs : vs y = false) (h1 : 2 ^ 1074 ≤ vm y) (h2 : vm y < 2 ^ 1075) : ∃ T, T < 2 ^ 52 ∧ vm y = (2 ^ 52 + T) * 2 ^ 1022 ∧ vf_n64 (FP.dsub y FP.dconst1) ∧ vf_n64 (FP.dmul (FP.dsub y FP.dconst1) 4841369599423283200) ∧ FP.d2l (FP.dmul (FP.dsub y FP.dconst1) 4841369599423283200) = lN T := by
  obtain ⟨c, e, -, c1, c2, -, c4⟩ := fi_shape hy
  have p := Nat.two_pow_pos e
  have e1 : 1021 < e := by
    refine (Nat.pow_lt_pow_iff_right (by decide : 1 < 2)).mp (Nat.lt_of_mul_lt_mul_left (a := 2 ^ 53) ?_)
    have g1 : c * 2 ^ e < 2 ^ 53 * 2 ^ e := Nat.mul_lt_mul_of_pos_right c1 p
    rw [← c2] at g1
    rw [← Nat.pow_add]
    exact Nat.lt_of_le_of_lt h1 g1
  have c5 : 2 ^ 52 ≤ c := by rcases c4 with c4 | c4; omega; exact c4
  have e2 : e < 1023 := by
    refine (Nat.pow_lt_pow_iff_right (by decide : 1 < 2)).mp (Nat.lt_of_mul_lt_mul_left (a := 2 ^ 52) ?_)
    have g1 : 2 ^ 52 * 2 ^ e ≤ c * 2 ^ e := Nat.mul_le_mul_right _ c5
    rw [← c2] at g1
    rw [← Nat.pow_add 2 52 1023]
    exact Nat.lt_of_le_of_lt g1 h2
  have e3 : e = 1022 := by omega
  subst e3
  have hsub : vm y - vm FP.dconst1 = (c - 2 ^ 52) * 2 ^ 1022 := by
    rw [vm_1, c2, Nat.sub_mul, ← Nat.pow_add]
  obtain ⟨t1, t2, t3⟩ := dsub_ex hy fi_1 hs vs_1 (by rw [vm_1]; exact h1) (by rw [hsub]; exact ⟨c - 2 ^ 52, 1022, by omega, rfl⟩)
  rw [hsub] at t3
  have hlt : vm (FP.dsub y FP.dconst1) * 2 ^ 52 < 2 ^ 2098 := by
    rw [t3]
    have g1 : (c - 2 ^ 52) * 2 ^ 1022 * 2 ^ 52 < 2 ^ 52 * 2 ^ 1022 * 2 ^ 52 := Nat.mul_lt_mul_of_pos_right (Nat.mul_lt_mul_of_pos_right (by omega) (Nat.two_pow_pos _)) (Nat.two_pow_pos _)
    refine Nat.lt_of_lt_of_le g1 ?_
    rw [← Nat.pow_add, ← Nat.pow_add]
    exact Nat.pow_le_pow_right (by decide) (by decide)
  obtain ⟨u1, u2, u3⟩ := dmul_52 t1 hlt
  refine ⟨c - 2 ^ 52, by omega, ?_, fi_nn t1, fi_nn u1, d2l_T u1 (by rw [u2, t2]) ?_ (by omega)⟩
  · rw [show 2 ^ 52 + (c - 2 ^ 52) = c by omega]; exact c2
  · rw [u3, t3, Nat.mul_assoc, ← Nat.pow_add]
theorem l57h (hx : Fi x) (h0 : vz x ≠ 0) (hq : Q (some (.long x.toInt64)) w1 (I, D, RR R)) : ∀ (P : Nat) (y : UInt64), Bt2 x y P → j_W 57 d 0 0 0 0 52 [some (.double x), none, some (.double y), none, some (.int (kP P)), none, none, none, none, none, none, none] [] w1 (I, D, RR R) Q := by
  intro P
  obtain ⟨sg1, sg2⟩ := bt_sg hx h0
  induction P with
  | zero =>
    intro y ⟨y1, y2, y3, y4, y5, y6⟩
    rw [Nat.pow_zero, Nat.mul_one] at y4
    have dg : dge y FP.dconst1 = true ↔ 2 ^ 1074 ≤ vm y := by rw [dge_iff y1 fi_1, vz_pos y2, vz_pos vs_1, vm_1]; exact Int.ofNat_le
    have sub : dge y FP.dconst1 = false → vm x < 2 ^ 52 ∧ vf_n64 (FP.dmul y 4841369599423283200) ∧ FP.d2l (FP.dmul y 4841369599423283200) = lN (vm x) := fun g => by
      have g1 : vm y < 2 ^ 1074 := Nat.lt_of_not_le fun hc => by rw [dg.mpr hc] at g; cases g
      have g2 : vm x < 2 ^ 52 := by
        rw [y4, show (1074 : Nat) = 52 + 1022 from rfl, Nat.pow_add] at g1
        exact Nat.lt_of_mul_lt_mul_right g1
      have hlt : vm y * 2 ^ 52 < 2 ^ 2098 := by
        refine Nat.lt_of_lt_of_le (Nat.mul_lt_mul_of_pos_right g1 (Nat.two_pow_pos _)) ?_
        rw [← Nat.pow_add]
        exact Nat.pow_le_pow_right (by decide) (by decide)
      obtain ⟨u1, u2, u3⟩ := dmul_52 y1 hlt
      exact ⟨g2, fi_nn u1, d2l_T u1 (by rw [u2, y2]) (by rw [u3, y4, Nat.mul_assoc, ← Nat.pow_add]) (by omega)⟩
    have subQ : ∀ sg : Int64, (sg = 0 ∧ x.toNat < 2 ^ 63 ∨ sg = -9223372036854775808 ∧ 2 ^ 63 ≤ x.toNat) → dge y FP.dconst1 = false → Q (some (.long ((sg ||| 0) ||| (FP.d2l (FP.dmul y 4841369599423283200))))) w1 (I, D, RR R) := fun sg hsg g => by
      obtain ⟨g1, -, g3⟩ := sub g
      have := lor_eq (E := 0) (T := vm x) (by decide) g1 (bits_eq hx g1 (by rw [if_pos rfl])) hsg
      rw [show (lN 0 <<< ((52 : Int32).toInt64 &&& 63)) = 0 by decide] at this
      rw [g3, this]; exact hq
    have norm : dge y FP.dconst1 = true → ∃ T, T < 2 ^ 52 ∧ vm y = (2 ^ 52 + T) * 2 ^ 1022 ∧ vf_n64 (FP.dsub y FP.dconst1) ∧ vf_n64 (FP.dmul (FP.dsub y FP.dconst1) 4841369599423283200) ∧ FP.d2l (FP.dmul (FP.dsub y FP.dconst1) 4841369599423283200) = lN T := fun g => bt_norm y1 y2 (dg.mp g) y3
    have normQ : ∀ sg : Int64, (sg = 0 ∧ x.toNat < 2 ^ 63 ∨ sg = -9223372036854775808 ∧ 2 ^ 63 ≤ x.toNat) → dge y FP.dconst1 = true → Q (some (.long ((sg ||| ((((kP 0 + 1023) : Int32).toInt64) <<< ((52 : Int32).toInt64 &&& 63))) ||| (FP.d2l (FP.dmul (FP.dsub y FP.dconst1) 4841369599423283200))))) w1 (I, D, RR R) := fun sg hsg g => by
      obtain ⟨T, g1, g2, -, -, g5⟩ := norm g
      have hm : vm x = 2 ^ 52 + T := Nat.eq_of_mul_eq_mul_right (Nat.two_pow_pos 1022) (by rw [← y4, g2])
      have := lor_eq (E := 1) (T := T) (by decide) g1 (bits_eq hx g1 (by rw [if_neg (by decide), Nat.sub_self, Nat.pow_zero, Nat.mul_one]; exact hm)) hsg
      rw [kP_E, g5, nI_l (by decide), this]; exact hq
    have c0 : ¬ (kP 0 ≤ -1022) → False := fun h => h ((kP_le (by omega)).mpr rfl)
    refine s57h (Nat.zero_le _) (fun _ g => (sub g).2.1) (fun _ g s => subQ 0 (Or.inl ⟨rfl, sg1 s⟩) g) (fun _ g s => subQ _ (Or.inr ⟨rfl, sg2 s⟩) g) (fun _ g => (norm g).choose_spec.2.2.1) (fun _ g => (norm g).choose_spec.2.2.2.1) (fun _ g s => normQ 0 (Or.inl ⟨rfl, sg1 s⟩) g) (fun _ g s => normQ _ (Or.inr ⟨rfl, sg2 s⟩) g)
      (fun h => (c0 h).elim) (fun h => (c0 h).elim) (fun h => (c0 h).elim) (fun h => (c0 h).elim) (fun h => (c0 h).elim) (fun h => (c0 h).elim) (fun h => (c0 h).elim) (fun h => (c0 h).elim) (fun h => (c0 h).elim)
  | succ P ih =>
    intro y ⟨y1, y2, y3, y4, y5, y6⟩
    have c0 : kP (P + 1) ≤ -1022 → False := fun h => absurd ((kP_le y5).mp h) (by omega)
    have dg : dge y FP.dconst1 = true ↔ 2 ^ 1074 ≤ vm y := by rw [dge_iff y1 fi_1, vz_pos y2, vz_pos vs_1, vm_1]; exact Int.ofNat_le
    have dl : dlt y FP.dconst1 = true ↔ vm y < 2 ^ 1074 := by rw [dlt_iff y1 fi_1, vz_pos y2, vz_pos vs_1, vm_1]; exact Int.ofNat_lt
    have no : dlt y FP.dconst1 = false → dge y FP.dconst1 = false → False := fun a b => by
      rcases Nat.lt_or_ge (vm y) (2 ^ 1074) with h | h
      · rw [dl.mpr h] at a; cases a
      · rw [dg.mpr h] at b; cases b
    have norm : dge y FP.dconst1 = true → ∃ T, T < 2 ^ 52 ∧ vm y = (2 ^ 52 + T) * 2 ^ 1022 ∧ vf_n64 (FP.dsub y FP.dconst1) ∧ vf_n64 (FP.dmul (FP.dsub y FP.dconst1) 4841369599423283200) ∧ FP.d2l (FP.dmul (FP.dsub y FP.dconst1) 4841369599423283200) = lN T := fun g => bt_norm y1 y2 (dg.mp g) y3
    have normQ : ∀ sg : Int64, (sg = 0 ∧ x.toNat < 2 ^ 63 ∨ sg = -9223372036854775808 ∧ 2 ^ 63 ≤ x.toNat) → dge y FP.dconst1 = true → Q (some (.long ((sg ||| ((((kP (P + 1) + 1023) : Int32).toInt64) <<< ((52 : Int32).toInt64 &&& 63))) ||| (FP.d2l (FP.dmul (FP.dsub y FP.dconst1) 4841369599423283200))))) w1 (I, D, RR R) := fun sg hsg g => by
      obtain ⟨T, g1, g2, -, -, g5⟩ := norm g
      have hm : vm x = (2 ^ 52 + T) * 2 ^ (P + 1) := Nat.eq_of_mul_eq_mul_right (Nat.two_pow_pos 1022) (by rw [← y4, g2, Nat.mul_right_comm])
      have := lor_eq (E := P + 1 + 1) (T := T) (by omega) g1 (bits_eq hx g1 (by rw [if_neg (by omega), show P + 1 + 1 - 1 = P + 1 by omega]; exact hm)) hsg
      rw [kP_E, g5, nI_l (by omega), this]; exact hq
    have up : dlt y FP.dconst1 = true → 2 * vm y < 2 ^ 1075 := fun g => by
      have := dl.mp g
      rw [show (1075 : Nat) = 1074 + 1 from rfl, Nat.pow_succ, Nat.mul_comm]
      exact Nat.mul_lt_mul_of_pos_right this (by decide)
    have up2 : dlt y FP.dconst1 = true → 2 * vm y < 2 ^ 2098 := fun g => Nat.lt_of_lt_of_le (up g) (Nat.pow_le_pow_right (by decide) (by decide))
    refine s57h (Nat.zero_le _) (fun h => (c0 h).elim) (fun h => (c0 h).elim) (fun h => (c0 h).elim) (fun h => (c0 h).elim) (fun h => (c0 h).elim) (fun h => (c0 h).elim) (fun h => (c0 h).elim)
      (fun _ a b => (no a b).elim) (fun _ a b => (no a b).elim) (fun _ a b => (no a b).elim) (fun _ _ g => (norm g).choose_spec.2.2.1) (fun _ _ g => (norm g).choose_spec.2.2.2.1) (fun _ _ g s => normQ 0 (Or.inl ⟨rfl, sg1 s⟩) g) (fun _ _ g s => normQ _ (Or.inr ⟨rfl, sg2 s⟩) g) (fun _ g => fi_nn (dmul_2 y1 (up2 g)).1) (fun _ g => ?_)
    obtain ⟨t1, t2, t3⟩ := dmul_2 y1 (up2 g)
    rw [kP_s]
    have hP : P + 1 ≤ 1022 := by
      rcases Nat.lt_or_ge 1022 (P + 1) with h | h
      · exact absurd (y6 h) (Nat.not_le.mpr (dl.mp g))
      · exact h
    exact ih _ ⟨t1, by rw [t2, y2], by rw [t3]; exact up g, by rw [t3, ← y4, Nat.pow_succ]; ac_rfl, by omega, fun h => by omega⟩
theorem l57d (hx : Fi x) (h0 : vz x ≠ 0) (hq : Q (some (.long x.toInt64)) w1 (I, D, RR R)) : ∀ (n k : Nat) (y : UInt64), n + k = 1023 → Fi y → vs y = false → vm y * 2 ^ k = vm x → (0 < k → 2 ^ 1074 ≤ vm y) → j_W 57 d 0 0 0 0 24 [some (.double x), none, some (.double y), none, some (.int (nI k)), none, none, none, none, none, none, none] [] w1 (I, D, RR R) Q := by
  have go : ∀ (k : Nat) (y : UInt64), k ≤ 1023 → Fi y → vs y = false → vm y * 2 ^ k = vm x → (0 < k → 2 ^ 1074 ≤ vm y) → vm y < 2 ^ 1075 → j_W 57 d 0 0 0 0 52 [some (.double x), none, some (.double y), none, some (.int (nI k)), none, none, none, none, none, none, none] [] w1 (I, D, RR R) Q := by
    intro k y hk y1 y2 y3 y4 y5
    have e : nI k = kP (k + 1022) := by
      unfold kP
      rw [← nI_add, Int32.add_assoc, show nI 1022 + -1022 = 0 by decide, Int32.add_zero]
    rw [e]
    exact l57h hx h0 hq (k + 1022) y ⟨y1, y2, y5, by rw [Nat.pow_add, ← Nat.mul_assoc, y3], by omega, fun h => y4 (by omega)⟩
  intro n
  induction n with
  | zero =>
    intro k y hk y1 y2 y3 y4
    have : k = 1023 := by omega
    subst this
    refine s57d (k := 1023) (by omega) (Nat.zero_le _) (fun _ => go 1023 y (by omega) y1 y2 y3 y4 ?_) (fun h => absurd (by omega) h) (fun h => absurd (by omega) h) (fun h => absurd (by omega) h)
    refine Nat.lt_of_mul_lt_mul_right (a := 2 ^ 1023) ?_
    rw [y3, ← Nat.pow_add]
    exact fi_top hx
  | succ n ih =>
    intro k y hk y1 y2 y3 y4
    have dg : dge y 4611686018427387904 = true ↔ 2 ^ 1075 ≤ vm y := by rw [dge_iff y1 fi_2', vz_pos y2, vz_2]; exact Int.ofNat_le
    have ha : dge y 4611686018427387904 = true → ∃ m, vm y = 2 * m ∧ rep m ∧ 2 ^ 1074 ≤ m := fun g => by
      have g1 := dg.mp g
      obtain ⟨c, e, -, c1, c2, -, c4⟩ := fi_shape y1
      have e1 : e ≠ 0 := fun h => by
        subst h
        rw [Nat.pow_zero, Nat.mul_one] at c2
        have : (2 : Nat) ^ 53 ≤ 2 ^ 1075 := Nat.pow_le_pow_right (by decide) (by decide)
        omega
      have e2 : vm y = 2 * (c * 2 ^ (e - 1)) := by
        have e3 : 2 ^ e = 2 * 2 ^ (e - 1) := by rw [Nat.mul_comm, ← Nat.pow_succ]; congr 1; omega
        rw [c2, e3, Nat.mul_left_comm]
      refine ⟨c * 2 ^ (e - 1), e2, ⟨c, e - 1, c1, rfl⟩, ?_⟩
      rw [e2, show (1075 : Nat) = 1074 + 1 from rfl, Nat.pow_succ, Nat.mul_comm _ 2] at g1
      exact Nat.le_of_mul_le_mul_left g1 (by decide)
    refine s57d (k := k) (by omega) (Nat.zero_le _) (fun h => absurd h (by omega)) (fun _ g => go k y (by omega) y1 y2 y3 y4 ?_) (fun _ g => ?_) (fun _ g => ?_)
    · exact Nat.lt_of_not_le fun hc => by rw [dg.mpr hc] at g; cases g
    · obtain ⟨m, m1, m2, -⟩ := ha g
      exact fi_nn (ddiv_2 y1 m1 m2).1
    · obtain ⟨m, m1, m2, m3⟩ := ha g
      obtain ⟨t1, t2, t3⟩ := ddiv_2 y1 m1 m2
      exact ih (k + 1) _ (by omega) t1 (by rw [t2, y2]) (by rw [t3, ← y3, m1, Nat.pow_succ]; ac_rfl) (fun _ => by rw [t3]; exact m3)
theorem c57 (hx : Fi x) (hz : x ≠ 0x8000000000000000) (hq : Q (some (.long x.toInt64)) w1 (I, D, RR R)) : j_Call d 57 [.double x] w1 (I, D, RR R) 0 0 Q := by
  have nz : deq x FP.dconst0 = false → vz x ≠ 0 := fun g h => by
    have := (deq_iff hx fi_0).mpr (by rw [h, vz_0])
    rw [this] at g; cases g
  refine s57e (Nat.zero_le _) (fun g s => ?_) (fun g s => ?_) (fun g => ?_)
  · have sx : vs x = false := by
      cases hs : vs x with
      | false => rfl
      | true =>
        have := (dlt_iff hx fi_0).mpr (by have := nz g; rw [vz_0]; rw [vz_neg hs] at this ⊢; omega)
        rw [this] at s; cases s
    exact l57d hx (nz g) hq 1023 0 x rfl hx sx (by rw [Nat.pow_zero, Nat.mul_one]) (fun h => absurd h (by decide))
  · have g2 := (dlt_iff hx fi_0).mp s
    rw [vz_0] at g2
    have sx : vs x = true := by
      cases hs : vs x with
      | true => rfl
      | false => rw [vz_pos hs] at g2; omega
    obtain ⟨d1, d2, d3⟩ := dneg_fi hx
    exact l57d hx (nz g) hq 1023 0 _ rfl d1 (by rw [d2, sx]; rfl) (by rw [d3, Nat.pow_zero, Nat.mul_one]) (fun h => absurd h (by decide))
  · have h1 := (deq_iff hx fi_0).mp g
    rw [vz_0] at h1
    have h2 := (Jvm.FP.Core.zval_eq_zero (Jvm.FP.Core.DFin.ne_nan hx)).mp h1
    have h3 := x.toNat_lt
    have : x = 0 := by
      apply UInt64.toNat_inj.mp
      rcases Nat.lt_or_ge x.toNat (2 ^ 63) with h | h
      · rw [Nat.mod_eq_of_lt h] at h2; exact h2
      · exfalso
        apply hz
        apply UInt64.toNat_inj.mp
        show _ = 2 ^ 63
        omega
    rw [this] at hq
    exact hq
end BT
