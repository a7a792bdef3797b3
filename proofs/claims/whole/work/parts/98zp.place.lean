/-! asks: the place of a case, walks -/
set_option maxRecDepth 10000 in
set_option maxHeartbeats 4000000 in
theorem u25q {d : Nat} {I : Nat → Nat → Int32} {D : Nat → Nat → UInt64} {R : Nat → Nat → Option Nat} {Q : j_Po} {g : Nat}  (hg : isG g) (hd : 0 ≤ d)
    (v1 : ((I g 5) ≤ 0) → Q (some (.int 1)) w1 (I, D, RR R))
    (v2 : (¬ (I g 5) ≤ 0) → Q (some (.int (I g 5))) w1 (I, D, RR R)) : j_Call d 25 [.ref g] w1 (I, D, RR R) 0 0 Q := by
  refine q_enter (L := [some (.ref g)]) j_m25 (Nat.le_of_ble_eq_true rfl) rfl ?_
  refine q_aload_n d25_0 rfl ?_
  refine q_getI d25_1 (fs3_35 25 rfl) rfl (isG_lt hg) (isG_sh hg) ?_
  refine q_if_le (tgt := 14) d25_4 rfl (fun h1t => ?_) (fun h1f => ?_)
  ·
    refine q_iconst (v := 1) (by decide) d25_14 ?_
    exact q_iret d25_15 rfl (Nat.le_refl _) (Nat.le_refl _) (v1 h1t)
  ·
    refine q_aload_n d25_7 rfl ?_
    refine q_getI d25_8 (fs3_35 25 rfl) rfl (isG_lt hg) (isG_sh hg) ?_
    refine q_goto (tgt := 15) d25_11 rfl ?_
    exact q_iret d25_15 rfl (Nat.le_refl _) (Nat.le_refl _) (v2 h1f)

set_option maxRecDepth 10000 in
set_option maxHeartbeats 4000000 in
theorem u124 {d : Nat} {I : Nat → Nat → Int32} {D : Nat → Nat → UInt64} {R : Nat → Nat → Option Nat} {Q : j_Po} {g : Nat} {p : Int32}  (hg : isG g) (hd : 1 ≤ d)
    (v1 : ((I g 5) ≤ 0) → (p = (-1)) → Q (some (.int (-1))) w1 (I, D, RR R))
    (v2 : ((I g 5) ≤ 0) → (¬ p = (-1)) → Q (some (.int (((p / 1) * 10) + (p - p / 1 * 1)))) w1 (I, D, RR R))
    (v3 : (¬ (I g 5) ≤ 0) → (p = (-1)) → Q (some (.int (-1))) w1 (I, D, RR R))
    (v4 : (¬ (I g 5) ≤ 0) → (¬ p = (-1)) → (1 ≤ (I g 5)) → ¬ (I g 5) = 0)
    (v5 : (¬ (I g 5) ≤ 0) → (¬ p = (-1)) → (1 ≤ (I g 5)) → Q (some (.int (((p / (I g 5)) * 10) + (p - p / (I g 5) * (I g 5))))) w1 (I, D, RR R))
    (v6 : (¬ (I g 5) ≤ 0) → (¬ p = (-1)) → (¬ 1 ≤ (I g 5)) → Q (some (.int (-1))) w1 (I, D, RR R)) : j_Call d 124 [.ref g, .int p] w1 (I, D, RR R) 0 0 Q := by
  refine q_enter (L := [some (.ref g), some (.int p), none]) j_m124 (Nat.le_of_ble_eq_true rfl) rfl ?_
  refine q_aload_n d124_0 rfl ?_
  refine q_invV (o := g) (ci := 3) (av := []) (rest := []) (d' := 0) (mc' := 0) (ms' := 0) d124_1 (cv3_44 124 rfl) rfl (by decide) rfl rfl (by omega) (Nat.le_of_ble_eq_true rfl) (Nat.le_of_ble_eq_true rfl) (isG_lt hg) (isG_sh hg) (Nat.le_refl _) (Nat.le_refl _) ?_
  refine u25q (g := g) hg (Nat.le_refl _) (fun c1 => ?_) (fun c2 => ?_)
  ·
    show j_W 124 d 0 0 0 0 4 [some (.ref g), some (.int p), none] [.int 1] w1 (I, D, RR R) Q
    refine q_istore_n (L' := [some (.ref g), some (.int p), some (.int 1)]) d124_4 (Nat.le_of_ble_eq_true rfl) rfl ?_
    refine q_iload_n d124_5 rfl ?_
    refine q_iconst (v := (-1)) (by decide) d124_6 ?_
    refine q_icmp_eq (tgt := 15) d124_7 rfl (fun h3t => ?_) (fun h3f => ?_)
    ·
      refine q_iconst (v := (-1)) (by decide) d124_15 ?_
      refine q_goto (tgt := 29) d124_16 rfl ?_
      exact q_iret d124_29 rfl (Nat.le_refl _) (Nat.le_refl _) (v1 c1 h3t)
    ·
      refine q_iload_n d124_10 rfl ?_
      refine q_iconst (v := 1) (by decide) d124_11 ?_
      refine q_icmp_ge (tgt := 19) d124_12 rfl (fun _ => ?_) (fun h => absurd h (by decide))
      refine q_iload_n d124_19 rfl ?_
      refine q_iload_n d124_20 rfl ?_
      refine q_idiv (by decide) d124_21 ?_
      refine q_bipush (v := 10) (by decide) d124_22 ?_
      refine q_imul d124_24 ?_
      refine q_iload_n d124_25 rfl ?_
      refine q_iload_n d124_26 rfl ?_
      refine q_irem (by decide) d124_27 ?_
      refine q_iadd d124_28 ?_
      exact q_iret d124_29 rfl (Nat.le_refl _) (Nat.le_refl _) (v2 c1 h3f)
  ·
    show j_W 124 d 0 0 0 0 4 [some (.ref g), some (.int p), none] [.int (I g 5)] w1 (I, D, RR R) Q
    refine q_istore_n (L' := [some (.ref g), some (.int p), some (.int (I g 5))]) d124_4 (Nat.le_of_ble_eq_true rfl) rfl ?_
    refine q_iload_n d124_5 rfl ?_
    refine q_iconst (v := (-1)) (by decide) d124_6 ?_
    refine q_icmp_eq (tgt := 15) d124_7 rfl (fun h4t => ?_) (fun h4f => ?_)
    ·
      refine q_iconst (v := (-1)) (by decide) d124_15 ?_
      refine q_goto (tgt := 29) d124_16 rfl ?_
      exact q_iret d124_29 rfl (Nat.le_refl _) (Nat.le_refl _) (v3 c2 h4t)
    ·
      refine q_iload_n d124_10 rfl ?_
      refine q_iconst (v := 1) (by decide) d124_11 ?_
      refine q_icmp_ge (tgt := 19) d124_12 rfl (fun h5t => ?_) (fun h5f => ?_)
      ·
        refine q_iload_n d124_19 rfl ?_
        refine q_iload_n d124_20 rfl ?_
        refine q_idiv (v4 c2 h4f h5t) d124_21 ?_
        refine q_bipush (v := 10) (by decide) d124_22 ?_
        refine q_imul d124_24 ?_
        refine q_iload_n d124_25 rfl ?_
        refine q_iload_n d124_26 rfl ?_
        refine q_irem (v4 c2 h4f h5t) d124_27 ?_
        refine q_iadd d124_28 ?_
        exact q_iret d124_29 rfl (Nat.le_refl _) (Nat.le_refl _) (v5 c2 h4f h5t)
      ·
        refine q_iconst (v := (-1)) (by decide) d124_15 ?_
        refine q_goto (tgt := 29) d124_16 rfl ?_
        exact q_iret d124_29 rfl (Nat.le_refl _) (Nat.le_refl _) (v6 c2 h4f h5f)

set_option maxRecDepth 10000 in
set_option maxHeartbeats 4000000 in
theorem u261a {d : Nat} {I : Nat → Nat → Int32} {D : Nat → Nat → UInt64} {R : Nat → Nat → Option Nat} {Q : j_Po} {t : Nat} {l : Bool} (ht : t < 6) (hd : 1 ≤ d)
    (v1 : (¬ (I 318 t) = (-1)) → j_W 261 d 0 0 0 0 31 [some (.ref 260), some (.int (nI t)), some (.int (bi l)), some (.int (-1)), some (.double FP.dconst0), none, some (.int (I 319 ((2 * t) + 1))), none, none] [] w1 (I, D, RR R) Q)
    (v2 : ((I 318 t) = (-1)) → j_W 261 d 0 0 0 0 31 [some (.ref 260), some (.int (nI t)), some (.int (bi l)), some (.int (-1)), some (.double FP.dconst0), none, some (.int 1), none, none] [] w1 (I, D, RR R) Q) : j_Call d 261 [.ref 260, .int (nI t), .int (bi l)] w1 (I, D, RR R) 0 0 Q := by
  refine q_enter (L := [some (.ref 260), some (.int (nI t)), some (.int (bi l)), none, none, none, none, none, none]) j_m261 (Nat.le_of_ble_eq_true rfl) rfl ?_
  refine q_iconst (v := (-1)) (by decide) d261_0 ?_
  refine q_istore_n (L' := [some (.ref 260), some (.int (nI t)), some (.int (bi l)), some (.int (-1)), none, none, none, none, none]) d261_1 (Nat.le_of_ble_eq_true rfl) rfl ?_
  refine q_dconst0 d261_2 ?_
  refine q_dstore (L' := [some (.ref 260), some (.int (nI t)), some (.int (bi l)), some (.int (-1)), some (.double FP.dconst0), none, none, none, none]) d261_3 (Nat.le_of_ble_eq_true rfl) rfl ?_
  refine q_aload_n d261_5 rfl ?_
  refine q_getR (x := 318) d261_6 (fs10_43 261 rfl) rfl (lt_w1 rfl) sh260 (rs260_9 R) (by decide) ?_
  refine q_iload_n d261_9 rfl ?_
  refine q_iaload (a := t) d261_10 (lt_w1 rfl) sh318 rfl (by omega) ?_
  refine q_iconst (v := (-1)) (by decide) d261_11 ?_
  refine q_icmp_ne (tgt := 19) d261_12 rfl (fun h1t => ?_) (fun h1f => ?_)
  ·
    refine q_aload_n d261_19 rfl ?_
    refine q_getR (x := 319) d261_20 (fs10_46 261 rfl) rfl (lt_w1 rfl) sh260 (rs260_10 R) (by decide) ?_
    refine q_iconst (v := 2) (by decide) d261_23 ?_
    refine q_iload_n d261_24 rfl ?_
    refine q_imul d261_25 ?_
    refine r_int (y := (nI (2 * t))) (pk_mul 2 t) ?_
    refine q_iconst (v := 1) (by decide) d261_26 ?_
    refine q_iadd d261_27 ?_
    refine r_int (y := (nI ((2 * t) + 1))) (nI_add (2 * t) 1) ?_
    refine q_iaload (a := ((2 * t) + 1)) d261_28 (lt_w1 rfl) sh319 rfl (by omega) ?_
    refine q_istore (L' := [some (.ref 260), some (.int (nI t)), some (.int (bi l)), some (.int (-1)), some (.double FP.dconst0), none, some (.int (I 319 ((2 * t) + 1))), none, none]) d261_29 (Nat.le_of_ble_eq_true rfl) rfl ?_
    exact r_sub (L' := [some (.ref 260), some (.int (nI t)), some (.int (bi l)), some (.int (-1)), some (.double FP.dconst0), none, some (.int (I 319 ((2 * t) + 1))), none, none]) ⟨rfl, rfl, rfl, rfl, rfl, rfl, trivial⟩ (v1 h1t)
  ·
    refine q_iconst (v := 1) (by decide) d261_15 ?_
    refine q_goto (tgt := 29) d261_16 rfl ?_
    refine q_istore (L' := [some (.ref 260), some (.int (nI t)), some (.int (bi l)), some (.int (-1)), some (.double FP.dconst0), none, some (.int 1), none, none]) d261_29 (Nat.le_of_ble_eq_true rfl) rfl ?_
    exact r_sub (L' := [some (.ref 260), some (.int (nI t)), some (.int (bi l)), some (.int (-1)), some (.double FP.dconst0), none, some (.int 1), none, none]) ⟨rfl, rfl, rfl, rfl, rfl, rfl, trivial⟩ (v2 h1f)

set_option maxRecDepth 10000 in
set_option maxHeartbeats 4000000 in
theorem u261b {d : Nat} {I : Nat → Nat → Int32} {D : Nat → Nat → UInt64} {R : Nat → Nat → Option Nat} {Q : j_Po} {t : Nat} {p : Int32} {x : UInt64} {w : Nat} {l : Bool}  (hd : 1 ≤ d)
    (v1 : j_W 261 d 0 0 0 0 34 [some (.ref 260), some (.int (nI t)), some (.int (bi l)), some (.int p), some (.double x), none, some (.int (nI w)), some (.int 0), none] [] w1 (I, D, RR R) Q) : j_W 261 d 0 0 0 0 31 [some (.ref 260), some (.int (nI t)), some (.int (bi l)), some (.int p), some (.double x), none, some (.int (nI w)), none, none] [] w1 (I, D, RR R) Q := by
  refine q_iconst (v := 0) (by decide) d261_31 ?_
  refine q_istore (L' := [some (.ref 260), some (.int (nI t)), some (.int (bi l)), some (.int p), some (.double x), none, some (.int (nI w)), some (.int 0), none]) d261_32 (Nat.le_of_ble_eq_true rfl) rfl ?_
  exact r_sub (L' := [some (.ref 260), some (.int (nI t)), some (.int (bi l)), some (.int p), some (.double x), none, some (.int (nI w)), some (.int 0), none]) ⟨rfl, rfl, rfl, rfl, rfl, rfl, rfl, trivial⟩ v1

set_option maxRecDepth 10000 in
set_option maxHeartbeats 4000000 in
theorem u261h {d : Nat} {I : Nat → Nat → Int32} {D : Nat → Nat → UInt64} {R : Nat → Nat → Option Nat} {Q : j_Po} {t : Nat} {p : Int32} {x : UInt64} {w : Nat} {i : Nat} {l : Bool} {n : Nat} (ht : t < 6) (h319 : I 319 (2 * t) = nI n) (hn : n ≤ 8) (hi : i ≤ 8) (hd : 1 ≤ d)
    (v1 : (n ≤ i) → Q (some (.int p)) w1 (I, D, RR R))
    (v2 : (¬ n ≤ i) → j_W 261 d 0 0 0 0 50 [some (.ref 260), some (.int (nI t)), some (.int (bi l)), some (.int p), some (.double x), none, some (.int (nI w)), some (.int (nI i)), some (.int 0)] [] w1 (I, D, RR R) Q) : j_W 261 d 0 0 0 0 34 [some (.ref 260), some (.int (nI t)), some (.int (bi l)), some (.int p), some (.double x), none, some (.int (nI w)), some (.int (nI i)), none] [] w1 (I, D, RR R) Q := by
  refine q_iload d261_34 rfl ?_
  refine q_aload_n d261_36 rfl ?_
  refine q_getR (x := 319) d261_37 (fs10_46 261 rfl) rfl (lt_w1 rfl) sh260 (rs260_10 R) (by decide) ?_
  refine q_iconst (v := 2) (by decide) d261_40 ?_
  refine q_iload_n d261_41 rfl ?_
  refine q_imul d261_42 ?_
  refine r_int (y := (nI (2 * t))) (pk_mul 2 t) ?_
  refine q_iaload (a := (2 * t)) d261_43 (lt_w1 rfl) sh319 rfl (by omega) ?_
  refine r_int (y := nI n) h319 ?_
  refine q_icmp_ge (tgt := 135) d261_44 rfl (fun h1t => ?_) (fun h1f => ?_)
  ·
    have h1tc : n ≤ i := (nI_leI (by omega) (by omega)).mp h1t
    refine q_iload_n d261_135 rfl ?_
    exact q_iret d261_136 rfl (Nat.le_refl _) (Nat.le_refl _) (v1 h1tc)
  ·
    have h1fc : ¬ n ≤ i := mt (nI_leI (by omega) (by omega)).mpr h1f
    refine q_iconst (v := 0) (by decide) d261_47 ?_
    refine q_istore (L' := [some (.ref 260), some (.int (nI t)), some (.int (bi l)), some (.int p), some (.double x), none, some (.int (nI w)), some (.int (nI i)), some (.int 0)]) d261_48 (Nat.le_of_ble_eq_true rfl) rfl ?_
    exact r_sub (L' := [some (.ref 260), some (.int (nI t)), some (.int (bi l)), some (.int p), some (.double x), none, some (.int (nI w)), some (.int (nI i)), some (.int 0)]) ⟨rfl, rfl, rfl, rfl, rfl, rfl, rfl, rfl, trivial⟩ (v2 h1fc)

set_option maxRecDepth 10000 in
set_option maxHeartbeats 4000000 in
theorem u261i {d : Nat} {I : Nat → Nat → Int32} {D : Nat → Nat → UInt64} {R : Nat → Nat → Option Nat} {Q : j_Po} {t : Nat} {p : Int32} {x : UInt64} {w : Nat} {i : Nat} {j : Nat} {l : Bool} (hj : j ≤ 8) (hw : w ≤ 8) (hd : 1 ≤ d)
    (v1 : (w ≤ j) → j_W 261 d 0 0 0 0 129 [some (.ref 260), some (.int (nI t)), some (.int (bi l)), some (.int p), some (.double x), none, some (.int (nI w)), some (.int (nI i)), none] [] w1 (I, D, RR R) Q)
    (v2 : (¬ w ≤ j) → j_W 261 d 0 0 0 0 57 [some (.ref 260), some (.int (nI t)), some (.int (bi l)), some (.int p), some (.double x), none, some (.int (nI w)), some (.int (nI i)), some (.int (nI j))] [] w1 (I, D, RR R) Q) : j_W 261 d 0 0 0 0 50 [some (.ref 260), some (.int (nI t)), some (.int (bi l)), some (.int p), some (.double x), none, some (.int (nI w)), some (.int (nI i)), some (.int (nI j))] [] w1 (I, D, RR R) Q := by
  refine q_iload d261_50 rfl ?_
  refine q_iload d261_52 rfl ?_
  refine q_icmp_ge (tgt := 129) d261_54 rfl (fun h1t => ?_) (fun h1f => ?_)
  ·
    have h1tc : w ≤ j := (nI_leI (by omega) (by omega)).mp h1t
    exact r_sub (L' := [some (.ref 260), some (.int (nI t)), some (.int (bi l)), some (.int p), some (.double x), none, some (.int (nI w)), some (.int (nI i)), none]) ⟨rfl, rfl, rfl, rfl, rfl, rfl, rfl, trivial⟩ (v1 h1tc)
  ·
    have h1fc : ¬ w ≤ j := mt (nI_leI (by omega) (by omega)).mpr h1f
    exact r_sub (L' := [some (.ref 260), some (.int (nI t)), some (.int (bi l)), some (.int p), some (.double x), none, some (.int (nI w)), some (.int (nI i)), some (.int (nI j))]) ⟨rfl, rfl, rfl, rfl, rfl, rfl, rfl, rfl, trivial⟩ (v2 h1fc)

set_option maxRecDepth 10000 in
set_option maxHeartbeats 4000000 in
theorem u261c {d : Nat} {I : Nat → Nat → Int32} {D : Nat → Nat → UInt64} {R : Nat → Nat → Option Nat} {Q : j_Po} {t : Nat} {p : Int32} {x : UInt64} {w : Nat} {i : Nat} {j : Nat} {l : Bool} {AP : (Nat → Nat → Int32) → (Nat → Nat → UInt64) → Prop} (hA : ∀ (Q : j_Po), (∀ J E, AP J E → Q none w1 (J, E, RR R)) → j_Call (d - 1) 257 [.ref 260, .int (nI t), .int (nI i), .int (nI j)] w1 (I, D, RR R) 0 0 Q) (hd : 5 ≤ d)
    (v1 : ∀ J1 : Nat → Nat → Int32, ∀ E2 : Nat → Nat → UInt64, (AP J1 E2) → j_W 261 d 0 0 0 0 66 [some (.ref 260), some (.int (nI t)), some (.int (bi l)), some (.int p), some (.double x), none, some (.int (nI w)), some (.int (nI i)), some (.int (nI j))] [] w1 (J1, E2, RR R) Q) : j_W 261 d 0 0 0 0 57 [some (.ref 260), some (.int (nI t)), some (.int (bi l)), some (.int p), some (.double x), none, some (.int (nI w)), some (.int (nI i)), some (.int (nI j))] [] w1 (I, D, RR R) Q := by
  refine q_aload_n d261_57 rfl ?_
  refine q_iload_n d261_58 rfl ?_
  refine q_iload d261_59 rfl ?_
  refine q_iload d261_61 rfl ?_
  refine q_invV (o := 260) (ci := 10) (av := [.int (nI t), .int (nI i), .int (nI j)]) (rest := []) (d' := (d - 1)) (mc' := 0) (ms' := 0) d261_63 (cv10_495 261 rfl) rfl (by decide) rfl rfl (by omega) (Nat.le_of_ble_eq_true rfl) (Nat.le_of_ble_eq_true rfl) (lt_w1 rfl) sh260 (Nat.le_refl _) (Nat.le_refl _) ?_
  refine hA _  (fun J1 E2 h3 => ?_)
  show j_W 261 d 0 0 0 0 66 [some (.ref 260), some (.int (nI t)), some (.int (bi l)), some (.int p), some (.double x), none, some (.int (nI w)), some (.int (nI i)), some (.int (nI j))] [] w1 (J1, E2, RR R) Q
  exact r_sub (L' := [some (.ref 260), some (.int (nI t)), some (.int (bi l)), some (.int p), some (.double x), none, some (.int (nI w)), some (.int (nI i)), some (.int (nI j))]) ⟨rfl, rfl, rfl, rfl, rfl, rfl, rfl, rfl, trivial⟩ (v1 J1 E2 h3)

set_option maxRecDepth 10000 in
set_option maxHeartbeats 4000000 in
theorem u261d {d : Nat} {I : Nat → Nat → Int32} {D : Nat → Nat → UInt64} {R : Nat → Nat → Option Nat} {Q : j_Po} {t : Nat} {p : Int32} {x : UInt64} {w : Nat} {i : Nat} {j : Nat} {l : Bool} (hi : i < 8) (hj : j < 8) (hd : 5 ≤ d)
    (v1 : (¬ (I 260 31) = 0) → j_W 261 d 0 0 0 0 50 [some (.ref 260), some (.int (nI t)), some (.int (bi l)), some (.int p), some (.double x), none, some (.int (nI w)), some (.int (nI i)), some (.int (nI (j + 1)))] [] w1 (I, D, RR R) Q)
    (v2 : ((I 260 31) = 0) → (p = (-1)) → j_W 261 d 0 0 0 0 50 [some (.ref 260), some (.int (nI t)), some (.int (bi l)), some (.int (nI ((10 * i) + j))), some (.double (D 260 30)), none, some (.int (nI w)), some (.int (nI i)), some (.int (nI (j + 1)))] [] w1 (I, D, RR R) Q)
    (v3 : ((I 260 31) = 0) → (¬ p = (-1)) → (l = false) → (dle (D 260 30) x = false) → j_W 261 d 0 0 0 0 50 [some (.ref 260), some (.int (nI t)), some (.int (bi l)), some (.int (nI ((10 * i) + j))), some (.double (D 260 30)), none, some (.int (nI w)), some (.int (nI i)), some (.int (nI (j + 1)))] [] w1 (I, D, RR R) Q)
    (v4 : ((I 260 31) = 0) → (¬ p = (-1)) → (l = false) → (dle (D 260 30) x = true) → j_W 261 d 0 0 0 0 50 [some (.ref 260), some (.int (nI t)), some (.int (bi l)), some (.int p), some (.double x), none, some (.int (nI w)), some (.int (nI i)), some (.int (nI (j + 1)))] [] w1 (I, D, RR R) Q)
    (v5 : ((I 260 31) = 0) → (¬ p = (-1)) → (l = true) → (dge (D 260 30) x = false) → j_W 261 d 0 0 0 0 50 [some (.ref 260), some (.int (nI t)), some (.int (bi l)), some (.int (nI ((10 * i) + j))), some (.double (D 260 30)), none, some (.int (nI w)), some (.int (nI i)), some (.int (nI (j + 1)))] [] w1 (I, D, RR R) Q)
    (v6 : ((I 260 31) = 0) → (¬ p = (-1)) → (l = true) → (dge (D 260 30) x = true) → j_W 261 d 0 0 0 0 50 [some (.ref 260), some (.int (nI t)), some (.int (bi l)), some (.int p), some (.double x), none, some (.int (nI w)), some (.int (nI i)), some (.int (nI (j + 1)))] [] w1 (I, D, RR R) Q) : j_W 261 d 0 0 0 0 66 [some (.ref 260), some (.int (nI t)), some (.int (bi l)), some (.int p), some (.double x), none, some (.int (nI w)), some (.int (nI i)), some (.int (nI j))] [] w1 (I, D, RR R) Q := by
  refine q_aload_n d261_66 rfl ?_
  refine q_getI d261_67 (fs10_286 261 rfl) rfl (lt_w1 rfl) sh260 ?_
  refine q_if_ne (tgt := 123) d261_70 rfl (fun h1t => ?_) (fun h1f => ?_)
  ·
    refine q_iinc (L' := [some (.ref 260), some (.int (nI t)), some (.int (bi l)), some (.int p), some (.double x), none, some (.int (nI w)), some (.int (nI i)), some (.int (nI (j + 1)))]) (v := (nI (j + 1))) d261_123 rfl (nI_inc _) rfl ?_
    refine q_goto (tgt := 50) d261_126 rfl ?_
    exact r_sub (L' := [some (.ref 260), some (.int (nI t)), some (.int (bi l)), some (.int p), some (.double x), none, some (.int (nI w)), some (.int (nI i)), some (.int (nI (j + 1)))]) ⟨rfl, rfl, rfl, rfl, rfl, rfl, rfl, rfl, trivial⟩ (v1 h1t)
  ·
    refine q_iload_n d261_73 rfl ?_
    refine q_iconst (v := (-1)) (by decide) d261_74 ?_
    refine q_icmp_eq (tgt := 108) d261_75 rfl (fun h2t => ?_) (fun h2f => ?_)
    ·
      refine q_bipush (v := 10) (by decide) d261_108 ?_
      refine q_iload d261_110 rfl ?_
      refine q_imul d261_112 ?_
      refine r_int (y := (nI (10 * i))) (pk_mul 10 i) ?_
      refine q_iload d261_113 rfl ?_
      refine q_iadd d261_115 ?_
      refine r_int (y := (nI ((10 * i) + j))) (nI_add (10 * i) j) ?_
      refine q_istore_n (L' := [some (.ref 260), some (.int (nI t)), some (.int (bi l)), some (.int (nI ((10 * i) + j))), some (.double x), none, some (.int (nI w)), some (.int (nI i)), some (.int (nI j))]) d261_116 (Nat.le_of_ble_eq_true rfl) rfl ?_
      refine q_aload_n d261_117 rfl ?_
      refine q_getD d261_118 (fs10_282 261 rfl) rfl (lt_w1 rfl) sh260 ?_
      refine q_dstore (L' := [some (.ref 260), some (.int (nI t)), some (.int (bi l)), some (.int (nI ((10 * i) + j))), some (.double (D 260 30)), none, some (.int (nI w)), some (.int (nI i)), some (.int (nI j))]) d261_121 (Nat.le_of_ble_eq_true rfl) rfl ?_
      refine q_iinc (L' := [some (.ref 260), some (.int (nI t)), some (.int (bi l)), some (.int (nI ((10 * i) + j))), some (.double (D 260 30)), none, some (.int (nI w)), some (.int (nI i)), some (.int (nI (j + 1)))]) (v := (nI (j + 1))) d261_123 rfl (nI_inc _) rfl ?_
      refine q_goto (tgt := 50) d261_126 rfl ?_
      exact r_sub (L' := [some (.ref 260), some (.int (nI t)), some (.int (bi l)), some (.int (nI ((10 * i) + j))), some (.double (D 260 30)), none, some (.int (nI w)), some (.int (nI i)), some (.int (nI (j + 1)))]) ⟨rfl, rfl, rfl, rfl, rfl, rfl, rfl, rfl, trivial⟩ (v2 h1f h2t)
    ·
      refine q_iload_n d261_78 rfl ?_
      refine q_if_eq (tgt := 95) d261_79 rfl (fun h3t => ?_) (fun h3f => ?_)
      ·
        have h3tc : l = false := bi_0 h3t
        refine q_aload_n d261_95 rfl ?_
        refine q_getD d261_96 (fs10_282 261 rfl) rfl (lt_w1 rfl) sh260 ?_
        refine q_dload d261_99 rfl ?_
        refine q_dcmp d261_101 ?_
        refine q_if_gt (tgt := 108) d261_102 rfl (fun h4t => ?_) (fun h4f => ?_)
        ·
          have h4tc : dle (D 260 30) x = false := dc_g_gt_t h4t
          refine q_bipush (v := 10) (by decide) d261_108 ?_
          refine q_iload d261_110 rfl ?_
          refine q_imul d261_112 ?_
          refine r_int (y := (nI (10 * i))) (pk_mul 10 i) ?_
          refine q_iload d261_113 rfl ?_
          refine q_iadd d261_115 ?_
          refine r_int (y := (nI ((10 * i) + j))) (nI_add (10 * i) j) ?_
          refine q_istore_n (L' := [some (.ref 260), some (.int (nI t)), some (.int (bi l)), some (.int (nI ((10 * i) + j))), some (.double x), none, some (.int (nI w)), some (.int (nI i)), some (.int (nI j))]) d261_116 (Nat.le_of_ble_eq_true rfl) rfl ?_
          refine q_aload_n d261_117 rfl ?_
          refine q_getD d261_118 (fs10_282 261 rfl) rfl (lt_w1 rfl) sh260 ?_
          refine q_dstore (L' := [some (.ref 260), some (.int (nI t)), some (.int (bi l)), some (.int (nI ((10 * i) + j))), some (.double (D 260 30)), none, some (.int (nI w)), some (.int (nI i)), some (.int (nI j))]) d261_121 (Nat.le_of_ble_eq_true rfl) rfl ?_
          refine q_iinc (L' := [some (.ref 260), some (.int (nI t)), some (.int (bi l)), some (.int (nI ((10 * i) + j))), some (.double (D 260 30)), none, some (.int (nI w)), some (.int (nI i)), some (.int (nI (j + 1)))]) (v := (nI (j + 1))) d261_123 rfl (nI_inc _) rfl ?_
          refine q_goto (tgt := 50) d261_126 rfl ?_
          exact r_sub (L' := [some (.ref 260), some (.int (nI t)), some (.int (bi l)), some (.int (nI ((10 * i) + j))), some (.double (D 260 30)), none, some (.int (nI w)), some (.int (nI i)), some (.int (nI (j + 1)))]) ⟨rfl, rfl, rfl, rfl, rfl, rfl, rfl, rfl, trivial⟩ (v3 h1f h2f h3tc h4tc)
        ·
          have h4fc : dle (D 260 30) x = true := dc_g_gt_f h4f
          refine q_goto (tgt := 123) d261_105 rfl ?_
          refine q_iinc (L' := [some (.ref 260), some (.int (nI t)), some (.int (bi l)), some (.int p), some (.double x), none, some (.int (nI w)), some (.int (nI i)), some (.int (nI (j + 1)))]) (v := (nI (j + 1))) d261_123 rfl (nI_inc _) rfl ?_
          refine q_goto (tgt := 50) d261_126 rfl ?_
          exact r_sub (L' := [some (.ref 260), some (.int (nI t)), some (.int (bi l)), some (.int p), some (.double x), none, some (.int (nI w)), some (.int (nI i)), some (.int (nI (j + 1)))]) ⟨rfl, rfl, rfl, rfl, rfl, rfl, rfl, rfl, trivial⟩ (v4 h1f h2f h3tc h4fc)
      ·
        have h3fc : l = true := bi_1 h3f
        refine q_aload_n d261_82 rfl ?_
        refine q_getD d261_83 (fs10_282 261 rfl) rfl (lt_w1 rfl) sh260 ?_
        refine q_dload d261_86 rfl ?_
        refine q_dcmp d261_88 ?_
        refine q_if_lt (tgt := 108) d261_89 rfl (fun h5t => ?_) (fun h5f => ?_)
        ·
          have h5tc : dge (D 260 30) x = false := dc_l_lt_t h5t
          refine q_bipush (v := 10) (by decide) d261_108 ?_
          refine q_iload d261_110 rfl ?_
          refine q_imul d261_112 ?_
          refine r_int (y := (nI (10 * i))) (pk_mul 10 i) ?_
          refine q_iload d261_113 rfl ?_
          refine q_iadd d261_115 ?_
          refine r_int (y := (nI ((10 * i) + j))) (nI_add (10 * i) j) ?_
          refine q_istore_n (L' := [some (.ref 260), some (.int (nI t)), some (.int (bi l)), some (.int (nI ((10 * i) + j))), some (.double x), none, some (.int (nI w)), some (.int (nI i)), some (.int (nI j))]) d261_116 (Nat.le_of_ble_eq_true rfl) rfl ?_
          refine q_aload_n d261_117 rfl ?_
          refine q_getD d261_118 (fs10_282 261 rfl) rfl (lt_w1 rfl) sh260 ?_
          refine q_dstore (L' := [some (.ref 260), some (.int (nI t)), some (.int (bi l)), some (.int (nI ((10 * i) + j))), some (.double (D 260 30)), none, some (.int (nI w)), some (.int (nI i)), some (.int (nI j))]) d261_121 (Nat.le_of_ble_eq_true rfl) rfl ?_
          refine q_iinc (L' := [some (.ref 260), some (.int (nI t)), some (.int (bi l)), some (.int (nI ((10 * i) + j))), some (.double (D 260 30)), none, some (.int (nI w)), some (.int (nI i)), some (.int (nI (j + 1)))]) (v := (nI (j + 1))) d261_123 rfl (nI_inc _) rfl ?_
          refine q_goto (tgt := 50) d261_126 rfl ?_
          exact r_sub (L' := [some (.ref 260), some (.int (nI t)), some (.int (bi l)), some (.int (nI ((10 * i) + j))), some (.double (D 260 30)), none, some (.int (nI w)), some (.int (nI i)), some (.int (nI (j + 1)))]) ⟨rfl, rfl, rfl, rfl, rfl, rfl, rfl, rfl, trivial⟩ (v5 h1f h2f h3fc h5tc)
        ·
          have h5fc : dge (D 260 30) x = true := dc_l_lt_f h5f
          refine q_goto (tgt := 123) d261_92 rfl ?_
          refine q_iinc (L' := [some (.ref 260), some (.int (nI t)), some (.int (bi l)), some (.int p), some (.double x), none, some (.int (nI w)), some (.int (nI i)), some (.int (nI (j + 1)))]) (v := (nI (j + 1))) d261_123 rfl (nI_inc _) rfl ?_
          refine q_goto (tgt := 50) d261_126 rfl ?_
          exact r_sub (L' := [some (.ref 260), some (.int (nI t)), some (.int (bi l)), some (.int p), some (.double x), none, some (.int (nI w)), some (.int (nI i)), some (.int (nI (j + 1)))]) ⟨rfl, rfl, rfl, rfl, rfl, rfl, rfl, rfl, trivial⟩ (v6 h1f h2f h3fc h5fc)

set_option maxRecDepth 10000 in
set_option maxHeartbeats 4000000 in
theorem u261k {d : Nat} {I : Nat → Nat → Int32} {D : Nat → Nat → UInt64} {R : Nat → Nat → Option Nat} {Q : j_Po} {t : Nat} {p : Int32} {x : UInt64} {w : Nat} {i : Nat} {l : Bool} (hi : i < 8) (hd : 1 ≤ d)
    (v1 : j_W 261 d 0 0 0 0 34 [some (.ref 260), some (.int (nI t)), some (.int (bi l)), some (.int p), some (.double x), none, some (.int (nI w)), some (.int (nI (i + 1))), none] [] w1 (I, D, RR R) Q) : j_W 261 d 0 0 0 0 129 [some (.ref 260), some (.int (nI t)), some (.int (bi l)), some (.int p), some (.double x), none, some (.int (nI w)), some (.int (nI i)), none] [] w1 (I, D, RR R) Q := by
  refine q_iinc (L' := [some (.ref 260), some (.int (nI t)), some (.int (bi l)), some (.int p), some (.double x), none, some (.int (nI w)), some (.int (nI (i + 1))), none]) (v := (nI (i + 1))) d261_129 rfl (nI_inc _) rfl ?_
  refine q_goto (tgt := 34) d261_132 rfl ?_
  exact r_sub (L' := [some (.ref 260), some (.int (nI t)), some (.int (bi l)), some (.int p), some (.double x), none, some (.int (nI w)), some (.int (nI (i + 1))), none]) ⟨rfl, rfl, rfl, rfl, rfl, rfl, rfl, trivial⟩ v1

