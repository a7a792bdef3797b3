/-! the reference tells -/
set_option maxRecDepth 10000 in
set_option maxHeartbeats 4000000 in
theorem u191 {d : Nat} {I : Nat → Nat → Int32} {D : Nat → Nat → UInt64} {R : Nat → Nat → Option Nat} {Q : j_Po} {c : Nat} {l : Nat} (h18 : I 260 18 = nI l) (hl : l < 7) (hc : c < 24) (hd : 2 ≤ d)
    (v1 : ((I (364 + l) c) = 0) → (¬ (I 264 c) = 0) → j_W 191 d 0 0 0 0 115 [some (.ref 260), some (.int (nI c)), none] [] w1 (I, D, RR R) Q)
    (v2 : ((I (364 + l) c) = 0) → ((I 264 c) = 0) → ((I 262 c) = 0) → j_W 191 d 0 0 0 0 62 [some (.ref 260), some (.int (nI c)), none] [] w1 (I, (j_u D (372 + l) c FP.dconst0), RR R) Q)
    (v3 : ((I (364 + l) c) = 0) → ((I 264 c) = 0) → (¬ (I 262 c) = 0) → Sm (D 263 c))
    (v4 : ((I (364 + l) c) = 0) → ((I 264 c) = 0) → (¬ (I 262 c) = 0) → 1 ≤ 1)
    (v5 : ((I (364 + l) c) = 0) → ((I 264 c) = 0) → (¬ (I 262 c) = 0) → j_W 191 d 0 0 0 0 62 [some (.ref 260), some (.int (nI c)), none] [] w1 (I, (j_u D (372 + l) c (kp (I 261 c) (D 263 c))), RR R) Q)
    (v6 : (¬ (I (364 + l) c) = 0) → Q none w1 (I, D, RR R)) : j_Call d 191 [.ref 260, .int (nI c)] w1 (I, D, RR R) 0 0 Q := by
  refine q_enter (L := [some (.ref 260), some (.int (nI c)), none]) j_m191 (Nat.le_of_ble_eq_true rfl) rfl ?_
  refine q_aload_n d191_0 rfl ?_
  refine q_getR (x := 363) d191_1 (fs10_72 191 rfl) rfl (lt_w1 rfl) sh260 (rs260_19 R) (by decide) ?_
  refine q_aload_n d191_4 rfl ?_
  refine q_getI d191_5 (fs10_247 191 rfl) rfl (lt_w1 rfl) sh260 ?_
  refine r_int (y := (nI l)) (show I 260 18 = (nI l) from h18) ?_
  refine q_aaload (c := 5) (a := l) (x := (364 + l)) d191_8 (lt_w1 rfl) sh363 (by decide) rfl (by omega) (rm363 R (by omega)) (lt1000 (lm363 (by omega))) ?_
  refine q_iload_n d191_9 rfl ?_
  refine q_zaload (a := c) d191_10 (lm363 (by omega)) (sm363 (by omega)) rfl (by omega) ?_
  refine q_if_eq (tgt := 15) d191_11 rfl (fun h1t => ?_) (fun h1f => ?_)
  ·
    refine q_aload_n d191_15 rfl ?_
    refine q_iload_n d191_16 rfl ?_
    refine q_invV (o := 260) (ci := 10) (av := [.int (nI c)]) (rest := []) (d' := 0) (mc' := 0) (ms' := 0) d191_17 (cv10_204 191 rfl) rfl (by decide) rfl rfl (by omega) (Nat.le_of_ble_eq_true rfl) (Nat.le_of_ble_eq_true rfl) (lt_w1 rfl) sh260 (Nat.le_refl _) (Nat.le_refl _) ?_
    refine s170 (k := c) (by first | omega | decide) (Nat.le_refl _) (fun c2 => ?_) (fun c3 => ?_)
    ·
      show j_W 191 d 0 0 0 0 20 [some (.ref 260), some (.int (nI c)), none] [.int 0] w1 (I, D, RR R) Q
      refine q_if_eq (tgt := 115) d191_20 rfl (fun _ => ?_) (fun h => absurd h (by decide))
      exact r_sub (L' := [some (.ref 260), some (.int (nI c)), none]) ⟨rfl, rfl, trivial⟩ (v1 h1t c2)
    ·
      show j_W 191 d 0 0 0 0 20 [some (.ref 260), some (.int (nI c)), none] [.int 1] w1 (I, D, RR R) Q
      refine q_if_eq (tgt := 115) d191_20 rfl (fun h => absurd h (by decide)) (fun _ => ?_)
      refine q_aload_n d191_23 rfl ?_
      refine q_getR (x := 371) d191_24 (fs10_75 191 rfl) rfl (lt_w1 rfl) sh260 (rs260_20 R) (by decide) ?_
      refine q_aload_n d191_27 rfl ?_
      refine q_getI d191_28 (fs10_247 191 rfl) rfl (lt_w1 rfl) sh260 ?_
      refine r_int (y := (nI l)) (show I 260 18 = (nI l) from h18) ?_
      refine q_aaload (c := 3) (a := l) (x := (372 + l)) d191_31 (lt_w1 rfl) sh371 (by decide) rfl (by omega) (rm371 R (by omega)) (lt1000 (lm371 (by omega))) ?_
      refine q_iload_n d191_32 rfl ?_
      refine q_aload_n d191_33 rfl ?_
      refine q_getR (x := 262) d191_34 (fs10_13 191 rfl) rfl (lt_w1 rfl) sh260 (rs260_1 R) (by decide) ?_
      refine q_iload_n d191_37 rfl ?_
      refine q_zaload (a := c) d191_38 (lt_w1 rfl) sh262 rfl (by omega) ?_
      refine q_if_eq (tgt := 60) d191_39 rfl (fun h4t => ?_) (fun h4f => ?_)
      ·
        refine q_dconst0 d191_60 ?_
        refine q_dastore (a := c) d191_61 (lm371 (by omega)) (sm371 (by omega)) rfl (by omega) ?_
        exact r_sub (L' := [some (.ref 260), some (.int (nI c)), none]) ⟨rfl, rfl, trivial⟩ (v2 h1t c3 h4t)
      ·
        refine q_aload_n d191_42 rfl ?_
        refine q_getR (x := 261) d191_43 (fs10_9 191 rfl) rfl (lt_w1 rfl) sh260 (rs260_0 R) (by decide) ?_
        refine q_iload_n d191_46 rfl ?_
        refine q_iaload (a := c) d191_47 (lt_w1 rfl) sh261 rfl (by omega) ?_
        refine q_aload_n d191_48 rfl ?_
        refine q_getR (x := 263) d191_49 (fs10_17 191 rfl) rfl (lt_w1 rfl) sh260 (rs260_2 R) (by decide) ?_
        refine q_iload_n d191_52 rfl ?_
        refine q_daload (a := c) d191_53 (lt_w1 rfl) sh263 rfl (by omega) ?_
        refine q_invS (av := [.int (I 261 c), .double (D 263 c)]) (rest := [.int (nI c), .ref (372 + l)]) (d' := 1) (mc' := 0) (ms' := 0) d191_54 (cv10_250 191 rfl) rfl rfl (by omega) (Nat.le_of_ble_eq_true rfl) (Nat.le_of_ble_eq_true rfl) (Nat.le_refl _) (Nat.le_refl _) ?_
        refine c171 (v3 h1t c3 h4f) (v4 h1t c3 h4f) ?_
        show j_W 191 d 0 0 0 0 57 [some (.ref 260), some (.int (nI c)), none] [.double (kp (I 261 c) (D 263 c)), .int (nI c), .ref (372 + l)] w1 (I, D, RR R) Q
        refine q_goto (tgt := 61) d191_57 rfl ?_
        refine q_dastore (a := c) d191_61 (lm371 (by omega)) (sm371 (by omega)) rfl (by omega) ?_
        exact r_sub (L' := [some (.ref 260), some (.int (nI c)), none]) ⟨rfl, rfl, trivial⟩ (v5 h1t c3 h4f)
  ·
    exact q_ret d191_14 rfl (Nat.le_refl _) (Nat.le_refl _) (v6 h1f)

set_option maxRecDepth 10000 in
set_option maxHeartbeats 4000000 in
theorem u191b {d : Nat} {I : Nat → Nat → Int32} {D : Nat → Nat → UInt64} {R : Nat → Nat → Option Nat} {Q : j_Po} {c : Nat} {l : Nat} (h18 : I 260 18 = nI l) (hl : l < 7) (hc : c < 24) (hd : 1 ≤ d)
    (v1 : ((I 262 c) = 0) → j_W 191 d 0 0 0 0 87 [some (.ref 260), some (.int (nI c)), none] [] w1 ((j_u I (380 + l) c 1), D, RR R) Q)
    (v2 : (¬ (I 262 c) = 0) → j_W 191 d 0 0 0 0 87 [some (.ref 260), some (.int (nI c)), none] [] w1 ((j_u I (380 + l) c 0), D, RR R) Q) : j_W 191 d 0 0 0 0 62 [some (.ref 260), some (.int (nI c)), none] [] w1 (I, D, RR R) Q := by
  refine q_aload_n d191_62 rfl ?_
  refine q_getR (x := 379) d191_63 (fs10_78 191 rfl) rfl (lt_w1 rfl) sh260 (rs260_21 R) (by decide) ?_
  refine q_aload_n d191_66 rfl ?_
  refine q_getI d191_67 (fs10_247 191 rfl) rfl (lt_w1 rfl) sh260 ?_
  refine r_int (y := (nI l)) (show I 260 18 = (nI l) from h18) ?_
  refine q_aaload (c := 4) (a := l) (x := (380 + l)) d191_70 (lt_w1 rfl) sh379 (by decide) rfl (by omega) (rm379 R (by omega)) (lt1000 (lm379 (by omega))) ?_
  refine q_iload_n d191_71 rfl ?_
  refine q_aload_n d191_72 rfl ?_
  refine q_getR (x := 262) d191_73 (fs10_13 191 rfl) rfl (lt_w1 rfl) sh260 (rs260_1 R) (by decide) ?_
  refine q_iload_n d191_76 rfl ?_
  refine q_zaload (a := c) d191_77 (lt_w1 rfl) sh262 rfl (by omega) ?_
  refine q_if_eq (tgt := 85) d191_78 rfl (fun h1t => ?_) (fun h1f => ?_)
  ·
    refine q_iconst (v := 1) (by decide) d191_85 ?_
    refine q_iastore (a := c) d191_86 (lm379 (by omega)) (sm379 (by omega)) rfl (by omega) ?_
    exact r_sub (L' := [some (.ref 260), some (.int (nI c)), none]) ⟨rfl, rfl, trivial⟩ (v1 h1t)
  ·
    refine q_iconst (v := 0) (by decide) d191_81 ?_
    refine q_goto (tgt := 86) d191_82 rfl ?_
    refine q_iastore (a := c) d191_86 (lm379 (by omega)) (sm379 (by omega)) rfl (by omega) ?_
    exact r_sub (L' := [some (.ref 260), some (.int (nI c)), none]) ⟨rfl, rfl, trivial⟩ (v2 h1f)

set_option maxRecDepth 10000 in
set_option maxHeartbeats 4000000 in
theorem u191g {d : Nat} {I : Nat → Nat → Int32} {D : Nat → Nat → UInt64} {R : Nat → Nat → Option Nat} {Q : j_Po} {c : Nat} {l : Nat} (h18 : I 260 18 = nI l) (hl : l < 7) (hc : c < 24) (hd : 1 ≤ d)
    (v1 : ((I 262 c) = 0) → j_W 191 d 0 0 0 0 241 [some (.ref 260), some (.int (nI c)), none] [] w1 ((j_u I (388 + l) c (nI c)), D, RR R) Q)
    (v2 : (¬ (I 262 c) = 0) → j_W 191 d 0 0 0 0 241 [some (.ref 260), some (.int (nI c)), none] [] w1 ((j_u I (388 + l) c (-1)), D, RR R) Q) : j_W 191 d 0 0 0 0 87 [some (.ref 260), some (.int (nI c)), none] [] w1 (I, D, RR R) Q := by
  refine q_aload_n d191_87 rfl ?_
  refine q_getR (x := 387) d191_88 (fs10_81 191 rfl) rfl (lt_w1 rfl) sh260 (rs260_22 R) (by decide) ?_
  refine q_aload_n d191_91 rfl ?_
  refine q_getI d191_92 (fs10_247 191 rfl) rfl (lt_w1 rfl) sh260 ?_
  refine r_int (y := (nI l)) (show I 260 18 = (nI l) from h18) ?_
  refine q_aaload (c := 4) (a := l) (x := (388 + l)) d191_95 (lt_w1 rfl) sh387 (by decide) rfl (by omega) (rm387 R (by omega)) (lt1000 (lm387 (by omega))) ?_
  refine q_iload_n d191_96 rfl ?_
  refine q_aload_n d191_97 rfl ?_
  refine q_getR (x := 262) d191_98 (fs10_13 191 rfl) rfl (lt_w1 rfl) sh260 (rs260_1 R) (by decide) ?_
  refine q_iload_n d191_101 rfl ?_
  refine q_zaload (a := c) d191_102 (lt_w1 rfl) sh262 rfl (by omega) ?_
  refine q_if_eq (tgt := 110) d191_103 rfl (fun h1t => ?_) (fun h1f => ?_)
  ·
    refine q_iload_n d191_110 rfl ?_
    refine q_iastore (a := c) d191_111 (lm387 (by omega)) (sm387 (by omega)) rfl (by omega) ?_
    refine q_goto (tgt := 241) d191_112 rfl ?_
    exact r_sub (L' := [some (.ref 260), some (.int (nI c)), none]) ⟨rfl, rfl, trivial⟩ (v1 h1t)
  ·
    refine q_iconst (v := (-1)) (by decide) d191_106 ?_
    refine q_goto (tgt := 111) d191_107 rfl ?_
    refine q_iastore (a := c) d191_111 (lm387 (by omega)) (sm387 (by omega)) rfl (by omega) ?_
    refine q_goto (tgt := 241) d191_112 rfl ?_
    exact r_sub (L' := [some (.ref 260), some (.int (nI c)), none]) ⟨rfl, rfl, trivial⟩ (v2 h1f)

set_option maxRecDepth 10000 in
set_option maxHeartbeats 4000000 in
theorem u191z {d : Nat} {I : Nat → Nat → Int32} {D : Nat → Nat → UInt64} {R : Nat → Nat → Option Nat} {Q : j_Po} {c : Nat} {l : Nat} (h18 : I 260 18 = nI l) (hl : l < 7) (hc : c < 24) (hd : 1 ≤ d)
    (v1 : Q none w1 ((j_u I (364 + l) c 1), D, RR R)) : j_W 191 d 0 0 0 0 241 [some (.ref 260), some (.int (nI c)), none] [] w1 (I, D, RR R) Q := by
  refine q_aload_n d191_241 rfl ?_
  refine q_getR (x := 363) d191_242 (fs10_72 191 rfl) rfl (lt_w1 rfl) sh260 (rs260_19 R) (by decide) ?_
  refine q_aload_n d191_245 rfl ?_
  refine q_getI d191_246 (fs10_247 191 rfl) rfl (lt_w1 rfl) sh260 ?_
  refine r_int (y := (nI l)) (show I 260 18 = (nI l) from h18) ?_
  refine q_aaload (c := 5) (a := l) (x := (364 + l)) d191_249 (lt_w1 rfl) sh363 (by decide) rfl (by omega) (rm363 R (by omega)) (lt1000 (lm363 (by omega))) ?_
  refine q_iload_n d191_250 rfl ?_
  refine q_iconst (v := 1) (by decide) d191_251 ?_
  refine q_zastore (a := c) d191_252 (Or.inr rfl) (lm363 (by omega)) (sm363 (by omega)) rfl (by omega) ?_
  exact q_ret d191_253 rfl (Nat.le_refl _) (Nat.le_refl _) v1

set_option maxRecDepth 10000 in
set_option maxHeartbeats 4000000 in
theorem u191e {d : Nat} {I : Nat → Nat → Int32} {D : Nat → Nat → UInt64} {R : Nat → Nat → Option Nat} {Q : j_Po} {c : Nat}   (hd : 0 ≤ d)
    (v1 : j_W 191 d 0 0 0 0 117 [some (.ref 260), some (.int (nI c)), some (.int 0)] [] w1 (I, D, RR R) Q) : j_W 191 d 0 0 0 0 115 [some (.ref 260), some (.int (nI c)), none] [] w1 (I, D, RR R) Q := by
  refine q_iconst (v := 0) (by decide) d191_115 ?_
  refine q_istore_n (L' := [some (.ref 260), some (.int (nI c)), some (.int 0)]) d191_116 (Nat.le_of_ble_eq_true rfl) rfl ?_
  exact r_sub (L' := [some (.ref 260), some (.int (nI c)), some (.int 0)]) ⟨rfl, rfl, rfl, trivial⟩ v1

set_option maxRecDepth 10000 in
set_option maxHeartbeats 4000000 in
theorem u191h {d : Nat} {I : Nat → Nat → Int32} {D : Nat → Nat → UInt64} {R : Nat → Nat → Option Nat} {Q : j_Po} {c : Nat} {k : Nat} {z : Nat} (hc : c < 24) (h264 : I 264 c = nI z) (hz : z ≤ 96) (hk : k ≤ 96) (hd : 0 ≤ d)
    (v1 : (z ≤ k) → j_W 191 d 0 0 0 0 146 [some (.ref 260), some (.int (nI c)), none] [] w1 (I, D, RR R) Q)
    (v2 : (¬ z ≤ k) → j_W 191 d 0 0 0 0 127 [some (.ref 260), some (.int (nI c)), some (.int (nI k))] [] w1 (I, D, RR R) Q) : j_W 191 d 0 0 0 0 117 [some (.ref 260), some (.int (nI c)), some (.int (nI k))] [] w1 (I, D, RR R) Q := by
  refine q_iload_n d191_117 rfl ?_
  refine q_aload_n d191_118 rfl ?_
  refine q_getR (x := 264) d191_119 (fs10_21 191 rfl) rfl (lt_w1 rfl) sh260 (rs260_3 R) (by decide) ?_
  refine q_iload_n d191_122 rfl ?_
  refine q_iaload (a := c) d191_123 (lt_w1 rfl) sh264 rfl (by omega) ?_
  refine r_int (y := nI z) h264 ?_
  refine q_icmp_ge (tgt := 146) d191_124 rfl (fun h1t => ?_) (fun h1f => ?_)
  ·
    have h1tc : z ≤ k := (nI_leI (by omega) (by omega)).mp h1t
    exact r_sub (L' := [some (.ref 260), some (.int (nI c)), none]) ⟨rfl, rfl, trivial⟩ (v1 h1tc)
  ·
    have h1fc : ¬ z ≤ k := mt (nI_leI (by omega) (by omega)).mpr h1f
    exact r_sub (L' := [some (.ref 260), some (.int (nI c)), some (.int (nI k))]) ⟨rfl, rfl, rfl, trivial⟩ (v2 h1fc)

set_option maxRecDepth 10000 in
set_option maxHeartbeats 4000000 in
theorem u191c {d : Nat} {I : Nat → Nat → Int32} {D : Nat → Nat → UInt64} {R : Nat → Nat → Option Nat} {Q : j_Po} {c : Nat} {k : Nat} {w : Nat} {AP : (Nat → Nat → Int32) → (Nat → Nat → UInt64) → Prop} (hc : c < 24) (hk : k < 96) (hm : I (266 + c) k = nI w) (hA : ∀ (Q : j_Po), (∀ J E, AP J E → Q none w1 (J, E, RR R)) → j_Call (d - 1) 192 [.ref 260, .int (nI c), .int (nI w)] w1 (I, D, RR R) 0 0 Q) (hd : 1 ≤ d)
    (v1 : ∀ J1 : Nat → Nat → Int32, ∀ E2 : Nat → Nat → UInt64, (AP J1 E2) → j_W 191 d 0 0 0 0 117 [some (.ref 260), some (.int (nI c)), some (.int (nI (k + 1)))] [] w1 (J1, E2, RR R) Q) : j_W 191 d 0 0 0 0 127 [some (.ref 260), some (.int (nI c)), some (.int (nI k))] [] w1 (I, D, RR R) Q := by
  refine q_aload_n d191_127 rfl ?_
  refine q_iload_n d191_128 rfl ?_
  refine q_aload_n d191_129 rfl ?_
  refine q_getR (x := 265) d191_130 (fs10_26 191 rfl) rfl (lt_w1 rfl) sh260 (rs260_4 R) (by decide) ?_
  refine q_iload_n d191_133 rfl ?_
  refine q_aaload (c := 4) (a := c) (x := (266 + c)) d191_134 (lt_w1 rfl) sh265 (by decide) rfl (by omega) (rm265 R (by omega)) (lt1000 (lm265 (by omega))) ?_
  refine q_iload_n d191_135 rfl ?_
  refine q_iaload (a := k) d191_136 (lm265 (by omega)) (sm265 (by omega)) rfl (by omega) ?_
  refine r_int (y := nI w) hm ?_
  refine q_invV (o := 260) (ci := 10) (av := [.int (nI c), .int (nI w)]) (rest := []) (d' := (d - 1)) (mc' := 0) (ms' := 0) d191_137 (cv10_254 191 rfl) rfl (by decide) rfl rfl (by omega) (Nat.le_of_ble_eq_true rfl) (Nat.le_of_ble_eq_true rfl) (lt_w1 rfl) sh260 (Nat.le_refl _) (Nat.le_refl _) ?_
  refine hA _  (fun J1 E2 h3 => ?_)
  show j_W 191 d 0 0 0 0 140 [some (.ref 260), some (.int (nI c)), some (.int (nI k))] [] w1 (J1, E2, RR R) Q
  refine q_iinc (L' := [some (.ref 260), some (.int (nI c)), some (.int (nI (k + 1)))]) (v := (nI (k + 1))) d191_140 rfl (nI_inc _) rfl ?_
  refine q_goto (tgt := 117) d191_143 rfl ?_
  exact r_sub (L' := [some (.ref 260), some (.int (nI c)), some (.int (nI (k + 1)))]) ⟨rfl, rfl, rfl, trivial⟩ (v1 J1 E2 h3)

set_option maxRecDepth 10000 in
set_option maxHeartbeats 4000000 in
theorem u191f {d : Nat} {I : Nat → Nat → Int32} {D : Nat → Nat → UInt64} {R : Nat → Nat → Option Nat} {Q : j_Po} {c : Nat} {p : Nat} (h26 : I 260 26 = nI p) (hp : 1 ≤ p) (hp9 : p < 4800) (hd : 1 ≤ d)
    (v1 : j_W 191 d 0 0 0 0 156 [some (.ref 260), some (.int (nI c)), none] [] w1 ((j_u I 260 26 (nI (p - 1))), D, RR R) Q) : j_W 191 d 0 0 0 0 146 [some (.ref 260), some (.int (nI c)), none] [] w1 (I, D, RR R) Q := by
  refine q_aload_n d191_146 rfl ?_
  refine q_dup rfl d191_147 ?_
  refine q_getI d191_148 (fs10_243 191 rfl) rfl (lt_w1 rfl) sh260 ?_
  refine r_int (y := (nI p)) (show I 260 26 = (nI p) from h26) ?_
  refine q_iconst (v := 1) (by decide) d191_151 ?_
  refine q_isub d191_152 ?_
  refine r_int (y := (nI (p - 1))) (pk_sub (b := 1) (by omega)) ?_
  refine q_putI d191_153 (fs10_243 191 rfl) (Or.inl rfl) rfl (lt_w1 rfl) sh260 ?_
  exact r_sub (L' := [some (.ref 260), some (.int (nI c)), none]) ⟨rfl, rfl, trivial⟩ v1

set_option maxRecDepth 10000 in
set_option maxHeartbeats 4000000 in
theorem u191i {d : Nat} {I : Nat → Nat → Int32} {D : Nat → Nat → UInt64} {R : Nat → Nat → Option Nat} {Q : j_Po} {c : Nat} {l p : Nat} (h18 : I 260 18 = nI l) (hl : l < 7) (hc : c < 24) (h26 : I 260 26 = nI p) (hp9 : p < 4800) (hd : 2 ≤ d)
    (v1 : (¬ (I 420 p) = 0) → j_W 191 d 0 0 0 0 201 [some (.ref 260), some (.int (nI c)), none] [] w1 (I, (j_u D (372 + l) c FP.dconst0), RR R) Q)
    (v2 : ((I 420 p) = 0) → Sm (D 419 p))
    (v3 : ((I 420 p) = 0) → 1 ≤ 1)
    (v4 : ((I 420 p) = 0) → j_W 191 d 0 0 0 0 201 [some (.ref 260), some (.int (nI c)), none] [] w1 (I, (j_u D (372 + l) c (kp (I 261 c) (D 419 p))), RR R) Q) : j_W 191 d 0 0 0 0 156 [some (.ref 260), some (.int (nI c)), none] [] w1 (I, D, RR R) Q := by
  refine q_aload_n d191_156 rfl ?_
  refine q_getR (x := 371) d191_157 (fs10_75 191 rfl) rfl (lt_w1 rfl) sh260 (rs260_20 R) (by decide) ?_
  refine q_aload_n d191_160 rfl ?_
  refine q_getI d191_161 (fs10_247 191 rfl) rfl (lt_w1 rfl) sh260 ?_
  refine r_int (y := (nI l)) (show I 260 18 = (nI l) from h18) ?_
  refine q_aaload (c := 3) (a := l) (x := (372 + l)) d191_164 (lt_w1 rfl) sh371 (by decide) rfl (by omega) (rm371 R (by omega)) (lt1000 (lm371 (by omega))) ?_
  refine q_iload_n d191_165 rfl ?_
  refine q_aload_n d191_166 rfl ?_
  refine q_getR (x := 420) d191_167 (fs10_96 191 rfl) rfl (lt_w1 rfl) sh260 (rs260_28 R) (by decide) ?_
  refine q_aload_n d191_170 rfl ?_
  refine q_getI d191_171 (fs10_243 191 rfl) rfl (lt_w1 rfl) sh260 ?_
  refine r_int (y := (nI p)) (show I 260 26 = (nI p) from h26) ?_
  refine q_iaload (a := p) d191_174 (lt_w1 rfl) sh420 rfl (by omega) ?_
  refine q_if_ne (tgt := 199) d191_175 rfl (fun h1t => ?_) (fun h1f => ?_)
  ·
    refine q_dconst0 d191_199 ?_
    refine q_dastore (a := c) d191_200 (lm371 (by omega)) (sm371 (by omega)) rfl (by omega) ?_
    exact r_sub (L' := [some (.ref 260), some (.int (nI c)), none]) ⟨rfl, rfl, trivial⟩ (v1 h1t)
  ·
    refine q_aload_n d191_178 rfl ?_
    refine q_getR (x := 261) d191_179 (fs10_9 191 rfl) rfl (lt_w1 rfl) sh260 (rs260_0 R) (by decide) ?_
    refine q_iload_n d191_182 rfl ?_
    refine q_iaload (a := c) d191_183 (lt_w1 rfl) sh261 rfl (by omega) ?_
    refine q_aload_n d191_184 rfl ?_
    refine q_getR (x := 419) d191_185 (fs10_93 191 rfl) rfl (lt_w1 rfl) sh260 (rs260_27 R) (by decide) ?_
    refine q_aload_n d191_188 rfl ?_
    refine q_getI d191_189 (fs10_243 191 rfl) rfl (lt_w1 rfl) sh260 ?_
    refine r_int (y := (nI p)) (show I 260 26 = (nI p) from h26) ?_
    refine q_daload (a := p) d191_192 (lt_w1 rfl) sh419 rfl (by omega) ?_
    refine q_invS (av := [.int (I 261 c), .double (D 419 p)]) (rest := [.int (nI c), .ref (372 + l)]) (d' := 1) (mc' := 0) (ms' := 0) d191_193 (cv10_250 191 rfl) rfl rfl (by omega) (Nat.le_of_ble_eq_true rfl) (Nat.le_of_ble_eq_true rfl) (Nat.le_refl _) (Nat.le_refl _) ?_
    refine c171 (v2 h1f) (v3 h1f) ?_
    show j_W 191 d 0 0 0 0 196 [some (.ref 260), some (.int (nI c)), none] [.double (kp (I 261 c) (D 419 p)), .int (nI c), .ref (372 + l)] w1 (I, D, RR R) Q
    refine q_goto (tgt := 200) d191_196 rfl ?_
    refine q_dastore (a := c) d191_200 (lm371 (by omega)) (sm371 (by omega)) rfl (by omega) ?_
    exact r_sub (L' := [some (.ref 260), some (.int (nI c)), none]) ⟨rfl, rfl, trivial⟩ (v4 h1f)

set_option maxRecDepth 10000 in
set_option maxHeartbeats 4000000 in
theorem u191j {d : Nat} {I : Nat → Nat → Int32} {D : Nat → Nat → UInt64} {R : Nat → Nat → Option Nat} {Q : j_Po} {c : Nat} {l p : Nat} (h18 : I 260 18 = nI l) (hl : l < 7) (hc : c < 24) (h26 : I 260 26 = nI p) (hp9 : p < 4800) (hd : 1 ≤ d)
    (v1 : j_W 191 d 0 0 0 0 221 [some (.ref 260), some (.int (nI c)), none] [] w1 ((j_u I (380 + l) c (I 420 p)), D, RR R) Q) : j_W 191 d 0 0 0 0 201 [some (.ref 260), some (.int (nI c)), none] [] w1 (I, D, RR R) Q := by
  refine q_aload_n d191_201 rfl ?_
  refine q_getR (x := 379) d191_202 (fs10_78 191 rfl) rfl (lt_w1 rfl) sh260 (rs260_21 R) (by decide) ?_
  refine q_aload_n d191_205 rfl ?_
  refine q_getI d191_206 (fs10_247 191 rfl) rfl (lt_w1 rfl) sh260 ?_
  refine r_int (y := (nI l)) (show I 260 18 = (nI l) from h18) ?_
  refine q_aaload (c := 4) (a := l) (x := (380 + l)) d191_209 (lt_w1 rfl) sh379 (by decide) rfl (by omega) (rm379 R (by omega)) (lt1000 (lm379 (by omega))) ?_
  refine q_iload_n d191_210 rfl ?_
  refine q_aload_n d191_211 rfl ?_
  refine q_getR (x := 420) d191_212 (fs10_96 191 rfl) rfl (lt_w1 rfl) sh260 (rs260_28 R) (by decide) ?_
  refine q_aload_n d191_215 rfl ?_
  refine q_getI d191_216 (fs10_243 191 rfl) rfl (lt_w1 rfl) sh260 ?_
  refine r_int (y := (nI p)) (show I 260 26 = (nI p) from h26) ?_
  refine q_iaload (a := p) d191_219 (lt_w1 rfl) sh420 rfl (by omega) ?_
  refine q_iastore (a := c) d191_220 (lm379 (by omega)) (sm379 (by omega)) rfl (by omega) ?_
  exact r_sub (L' := [some (.ref 260), some (.int (nI c)), none]) ⟨rfl, rfl, trivial⟩ v1

set_option maxRecDepth 10000 in
set_option maxHeartbeats 4000000 in
theorem u191k {d : Nat} {I : Nat → Nat → Int32} {D : Nat → Nat → UInt64} {R : Nat → Nat → Option Nat} {Q : j_Po} {c : Nat} {l p : Nat} (h18 : I 260 18 = nI l) (hl : l < 7) (hc : c < 24) (h26 : I 260 26 = nI p) (hp9 : p < 4800) (hd : 1 ≤ d)
    (v1 : j_W 191 d 0 0 0 0 241 [some (.ref 260), some (.int (nI c)), none] [] w1 ((j_u I (388 + l) c (I 421 p)), D, RR R) Q) : j_W 191 d 0 0 0 0 221 [some (.ref 260), some (.int (nI c)), none] [] w1 (I, D, RR R) Q := by
  refine q_aload_n d191_221 rfl ?_
  refine q_getR (x := 387) d191_222 (fs10_81 191 rfl) rfl (lt_w1 rfl) sh260 (rs260_22 R) (by decide) ?_
  refine q_aload_n d191_225 rfl ?_
  refine q_getI d191_226 (fs10_247 191 rfl) rfl (lt_w1 rfl) sh260 ?_
  refine r_int (y := (nI l)) (show I 260 18 = (nI l) from h18) ?_
  refine q_aaload (c := 4) (a := l) (x := (388 + l)) d191_229 (lt_w1 rfl) sh387 (by decide) rfl (by omega) (rm387 R (by omega)) (lt1000 (lm387 (by omega))) ?_
  refine q_iload_n d191_230 rfl ?_
  refine q_aload_n d191_231 rfl ?_
  refine q_getR (x := 421) d191_232 (fs10_99 191 rfl) rfl (lt_w1 rfl) sh260 (rs260_29 R) (by decide) ?_
  refine q_aload_n d191_235 rfl ?_
  refine q_getI d191_236 (fs10_243 191 rfl) rfl (lt_w1 rfl) sh260 ?_
  refine r_int (y := (nI p)) (show I 260 26 = (nI p) from h26) ?_
  refine q_iaload (a := p) d191_239 (lt_w1 rfl) sh421 rfl (by omega) ?_
  refine q_iastore (a := c) d191_240 (lm387 (by omega)) (sm387 (by omega)) rfl (by omega) ?_
  exact r_sub (L' := [some (.ref 260), some (.int (nI c)), none]) ⟨rfl, rfl, trivial⟩ v1

set_option maxRecDepth 10000 in
set_option maxHeartbeats 4000000 in
theorem u192d {d : Nat} {I : Nat → Nat → Int32} {D : Nat → Nat → UInt64} {R : Nat → Nat → Option Nat} {Q : j_Po} {c : Nat} {w : Nat}  (hw : w < 400) (hd : 0 ≤ d)
    (v1 : (24 ≤ w) → (200 ≤ w) → (w < 300) → (¬ w = 200) → (¬ w = 210) → j_W 192 d 0 0 0 0 227 [some (.ref 260), some (.int (nI c)), some (.int (nI w)), none, none] [] w1 (I, D, RR R) Q)
    (v2 : (24 ≤ w) → (200 ≤ w) → (w < 300) → (¬ w = 200) → (w = 210) → j_W 192 d 0 0 0 0 220 [some (.ref 260), some (.int (nI c)), some (.int (nI w)), none, none] [] w1 (I, D, RR R) Q)
    (v3 : (24 ≤ w) → (200 ≤ w) → (w < 300) → (w = 200) → j_W 192 d 0 0 0 0 187 [some (.ref 260), some (.int (nI c)), some (.int (nI w)), none, none] [] w1 (I, D, RR R) Q)
    (v4 : (24 ≤ w) → (200 ≤ w) → (¬ w < 300) → j_W 192 d 0 0 0 0 85 [some (.ref 260), some (.int (nI c)), some (.int (nI w)), none, none] [] w1 (I, D, RR R) Q)
    (v5 : (24 ≤ w) → (¬ 200 ≤ w) → j_W 192 d 0 0 0 0 58 [some (.ref 260), some (.int (nI c)), some (.int (nI w)), none, none] [] w1 (I, D, RR R) Q)
    (v6 : (¬ 24 ≤ w) → j_W 192 d 0 0 0 0 6 [some (.ref 260), some (.int (nI c)), some (.int (nI w)), none, none] [] w1 (I, D, RR R) Q) : j_Call d 192 [.ref 260, .int (nI c), .int (nI w)] w1 (I, D, RR R) 0 0 Q := by
  refine q_enter (L := [some (.ref 260), some (.int (nI c)), some (.int (nI w)), none, none]) j_m192 (Nat.le_of_ble_eq_true rfl) rfl ?_
  refine q_iload_n d192_0 rfl ?_
  refine q_bipush (v := 24) (by decide) d192_1 ?_
  refine q_icmp_ge (tgt := 51) d192_3 rfl (fun h1t => ?_) (fun h1f => ?_)
  ·
    have h1tc : 24 ≤ w := (nI_leI (by omega) (by omega)).mp h1t
    refine q_iload_n d192_51 rfl ?_
    refine q_sipush (v := 200) (by decide) d192_52 ?_
    refine q_icmp_ge (tgt := 78) d192_55 rfl (fun h2t => ?_) (fun h2f => ?_)
    ·
      have h2tc : 200 ≤ w := (nI_leI (by omega) (by omega)).mp h2t
      refine q_iload_n d192_78 rfl ?_
      refine q_sipush (v := 300) (by decide) d192_79 ?_
      refine q_icmp_lt (tgt := 180) d192_82 rfl (fun h3t => ?_) (fun h3f => ?_)
      ·
        have h3tc : w < 300 := (nI_ltI (by omega) (by omega)).mp h3t
        refine q_iload_n d192_180 rfl ?_
        refine q_sipush (v := 200) (by decide) d192_181 ?_
        refine q_icmp_ne (tgt := 213) d192_184 rfl (fun h4t => ?_) (fun h4f => ?_)
        ·
          have h4tc : ¬ w = 200 := mt (nI_eqN (by omega) (by omega)).mpr h4t
          refine q_iload_n d192_213 rfl ?_
          refine q_sipush (v := 210) (by decide) d192_214 ?_
          refine q_icmp_ne (tgt := 227) d192_217 rfl (fun h5t => ?_) (fun h5f => ?_)
          ·
            have h5tc : ¬ w = 210 := mt (nI_eqN (by omega) (by omega)).mpr h5t
            exact r_sub (L' := [some (.ref 260), some (.int (nI c)), some (.int (nI w)), none, none]) ⟨rfl, rfl, rfl, trivial⟩ (v1 h1tc h2tc h3tc h4tc h5tc)
          ·
            have h5fc : w = 210 := (nI_eqN (by omega) (by omega)).mp h5f
            exact r_sub (L' := [some (.ref 260), some (.int (nI c)), some (.int (nI w)), none, none]) ⟨rfl, rfl, rfl, trivial⟩ (v2 h1tc h2tc h3tc h4tc h5fc)
        ·
          have h4fc : w = 200 := (nI_eqN (by omega) (by omega)).mp h4f
          exact r_sub (L' := [some (.ref 260), some (.int (nI c)), some (.int (nI w)), none, none]) ⟨rfl, rfl, rfl, trivial⟩ (v3 h1tc h2tc h3tc h4fc)
      ·
        have h3fc : ¬ w < 300 := mt (nI_ltI (by omega) (by omega)).mpr h3f
        exact r_sub (L' := [some (.ref 260), some (.int (nI c)), some (.int (nI w)), none, none]) ⟨rfl, rfl, rfl, trivial⟩ (v4 h1tc h2tc h3fc)
    ·
      have h2fc : ¬ 200 ≤ w := mt (nI_leI (by omega) (by omega)).mpr h2f
      exact r_sub (L' := [some (.ref 260), some (.int (nI c)), some (.int (nI w)), none, none]) ⟨rfl, rfl, rfl, trivial⟩ (v5 h1tc h2fc)
  ·
    have h1fc : ¬ 24 ≤ w := mt (nI_leI (by omega) (by omega)).mpr h1f
    exact r_sub (L' := [some (.ref 260), some (.int (nI c)), some (.int (nI w)), none, none]) ⟨rfl, rfl, rfl, trivial⟩ (v6 h1fc)

set_option maxRecDepth 10000 in
set_option maxHeartbeats 4000000 in
theorem u192_1 {d : Nat} {I : Nat → Nat → Int32} {D : Nat → Nat → UInt64} {R : Nat → Nat → Option Nat} {Q : j_Po} {c : Nat} {w : Nat}  {AP : (Nat → Nat → Int32) → (Nat → Nat → UInt64) → Prop} (hA : ∀ (Q : j_Po), (∀ J E, AP J E → Q none w1 (J, E, RR R)) → j_Call (d - 1) 191 [.ref 260, .int (nI w)] w1 (I, D, RR R) 0 0 Q) (hd : 1 ≤ d)
    (v1 : ∀ J1 : Nat → Nat → Int32, ∀ E2 : Nat → Nat → UInt64, (AP J1 E2) → j_W 192 d 0 0 0 0 11 [some (.ref 260), some (.int (nI c)), some (.int (nI w)), none, none] [] w1 (J1, E2, RR R) Q) : j_W 192 d 0 0 0 0 6 [some (.ref 260), some (.int (nI c)), some (.int (nI w)), none, none] [] w1 (I, D, RR R) Q := by
  refine q_aload_n d192_6 rfl ?_
  refine q_iload_n d192_7 rfl ?_
  refine q_invV (o := 260) (ci := 10) (av := [.int (nI w)]) (rest := []) (d' := (d - 1)) (mc' := 0) (ms' := 0) d192_8 (cv10_258 192 rfl) rfl (by decide) rfl rfl (by omega) (Nat.le_of_ble_eq_true rfl) (Nat.le_of_ble_eq_true rfl) (lt_w1 rfl) sh260 (Nat.le_refl _) (Nat.le_refl _) ?_
  refine hA _  (fun J1 E2 h3 => ?_)
  show j_W 192 d 0 0 0 0 11 [some (.ref 260), some (.int (nI c)), some (.int (nI w)), none, none] [] w1 (J1, E2, RR R) Q
  exact r_sub (L' := [some (.ref 260), some (.int (nI c)), some (.int (nI w)), none, none]) ⟨rfl, rfl, rfl, trivial⟩ (v1 J1 E2 h3)

set_option maxRecDepth 10000 in
set_option maxHeartbeats 4000000 in
theorem u192_1b {d : Nat} {I : Nat → Nat → Int32} {D : Nat → Nat → UInt64} {R : Nat → Nat → Option Nat} {Q : j_Po} {c : Nat} {w : Nat} {l : Nat} {b h : Nat} {s : Nat → Vl} {v : Vl} (h18 : I 260 18 = nI l) (hl : l < 7) (hw : w < 24) (hd : 1 ≤ d)
    (v1 : SQ I D b h s)
    (v2 : b + h < 4800)
    (v3 : VQ (I (380 + l) w) (if (I (380 + l) w) = 0 then -1 else (I (388 + l) w)) (D (372 + l) w) v)
    (v4 : ∀ J1 : Nat → Nat → Int32, ∀ E2 : Nat → Nat → UInt64, (SQ J1 E2 b (h + 1) (fu s h v)) → (FQ b I D J1 E2) → Q none w1 (J1, E2, RR R)) : j_W 192 d 0 0 0 0 11 [some (.ref 260), some (.int (nI c)), some (.int (nI w)), none, none] [] w1 (I, D, RR R) Q := by
  refine q_aload_n d192_11 rfl ?_
  refine q_aload_n d192_12 rfl ?_
  refine q_getR (x := 371) d192_13 (fs10_75 192 rfl) rfl (lt_w1 rfl) sh260 (rs260_20 R) (by decide) ?_
  refine q_aload_n d192_16 rfl ?_
  refine q_getI d192_17 (fs10_247 192 rfl) rfl (lt_w1 rfl) sh260 ?_
  refine r_int (y := (nI l)) (show I 260 18 = (nI l) from h18) ?_
  refine q_aaload (c := 3) (a := l) (x := (372 + l)) d192_20 (lt_w1 rfl) sh371 (by decide) rfl (by omega) (rm371 R (by omega)) (lt1000 (lm371 (by omega))) ?_
  refine q_iload_n d192_21 rfl ?_
  refine q_daload (a := w) d192_22 (lm371 (by omega)) (sm371 (by omega)) rfl (by omega) ?_
  refine q_aload_n d192_23 rfl ?_
  refine q_getR (x := 379) d192_24 (fs10_78 192 rfl) rfl (lt_w1 rfl) sh260 (rs260_21 R) (by decide) ?_
  refine q_aload_n d192_27 rfl ?_
  refine q_getI d192_28 (fs10_247 192 rfl) rfl (lt_w1 rfl) sh260 ?_
  refine r_int (y := (nI l)) (show I 260 18 = (nI l) from h18) ?_
  refine q_aaload (c := 4) (a := l) (x := (380 + l)) d192_31 (lt_w1 rfl) sh379 (by decide) rfl (by omega) (rm379 R (by omega)) (lt1000 (lm379 (by omega))) ?_
  refine q_iload_n d192_32 rfl ?_
  refine q_iaload (a := w) d192_33 (lm379 (by omega)) (sm379 (by omega)) rfl (by omega) ?_
  refine q_aload_n d192_34 rfl ?_
  refine q_getR (x := 387) d192_35 (fs10_81 192 rfl) rfl (lt_w1 rfl) sh260 (rs260_22 R) (by decide) ?_
  refine q_aload_n d192_38 rfl ?_
  refine q_getI d192_39 (fs10_247 192 rfl) rfl (lt_w1 rfl) sh260 ?_
  refine r_int (y := (nI l)) (show I 260 18 = (nI l) from h18) ?_
  refine q_aaload (c := 4) (a := l) (x := (388 + l)) d192_42 (lt_w1 rfl) sh387 (by decide) rfl (by omega) (rm387 R (by omega)) (lt1000 (lm387 (by omega))) ?_
  refine q_iload_n d192_43 rfl ?_
  refine q_iaload (a := w) d192_44 (lm387 (by omega)) (sm387 (by omega)) rfl (by omega) ?_
  refine q_invV (o := 260) (ci := 10) (av := [.double (D (372 + l) w), .int (I (380 + l) w), .int (I (388 + l) w)]) (rest := []) (d' := 0) (mc' := 0) (ms' := 0) d192_45 (cv10_262 192 rfl) rfl (by decide) rfl rfl (by omega) (Nat.le_of_ble_eq_true rfl) (Nat.le_of_ble_eq_true rfl) (lt_w1 rfl) sh260 (Nat.le_refl _) (Nat.le_refl _) ?_
  refine c193 (b := b) (h := h) (s := s) (v := v) v1 v2 v3 (fun J1 E2 h3 h4 => ?_)
  show j_W 192 d 0 0 0 0 48 [some (.ref 260), some (.int (nI c)), some (.int (nI w)), none, none] [] w1 (J1, E2, RR R) Q
  refine q_goto (tgt := 237) d192_48 rfl ?_
  exact q_ret d192_237 rfl (Nat.le_refl _) (Nat.le_refl _) (v4 J1 E2 h3 h4)

set_option maxRecDepth 10000 in
set_option maxHeartbeats 4000000 in
theorem u192_0 {d : Nat} {I : Nat → Nat → Int32} {D : Nat → Nat → UInt64} {R : Nat → Nat → Option Nat} {Q : j_Po} {c : Nat} {w : Nat} {b h : Nat} {s : Nat → Vl} {v : Vl} (hc : c < 24) (hw1 : 100 ≤ w) (hw2 : w < 196) (hd : 1 ≤ d)
    (v1 : SQ I D b h s)
    (v2 : b + h < 4800)
    (v3 : VQ 0 (if (0 : Int32) = 0 then -1 else (-1)) (D (291 + c) (w - 100)) v)
    (v4 : ∀ J1 : Nat → Nat → Int32, ∀ E2 : Nat → Nat → UInt64, (SQ J1 E2 b (h + 1) (fu s h v)) → (FQ b I D J1 E2) → Q none w1 (J1, E2, RR R)) : j_W 192 d 0 0 0 0 58 [some (.ref 260), some (.int (nI c)), some (.int (nI w)), none, none] [] w1 (I, D, RR R) Q := by
  refine q_aload_n d192_58 rfl ?_
  refine q_aload_n d192_59 rfl ?_
  refine q_getR (x := 290) d192_60 (fs10_31 192 rfl) rfl (lt_w1 rfl) sh260 (rs260_5 R) (by decide) ?_
  refine q_iload_n d192_63 rfl ?_
  refine q_aaload (c := 3) (a := c) (x := (291 + c)) d192_64 (lt_w1 rfl) sh290 (by decide) rfl (by omega) (rm290 R (by omega)) (lt1000 (lm290 (by omega))) ?_
  refine q_iload_n d192_65 rfl ?_
  refine q_bipush (v := 100) (by decide) d192_66 ?_
  refine q_isub d192_68 ?_
  refine r_int (y := (nI (w - 100))) (pk_sub (b := 100) (by omega)) ?_
  refine q_daload (a := (w - 100)) d192_69 (lm290 (by omega)) (sm290 (by omega)) rfl (by omega) ?_
  refine q_iconst (v := 0) (by decide) d192_70 ?_
  refine q_iconst (v := (-1)) (by decide) d192_71 ?_
  refine q_invV (o := 260) (ci := 10) (av := [.double (D (291 + c) (w - 100)), .int 0, .int (-1)]) (rest := []) (d' := 0) (mc' := 0) (ms' := 0) d192_72 (cv10_262 192 rfl) rfl (by decide) rfl rfl (by omega) (Nat.le_of_ble_eq_true rfl) (Nat.le_of_ble_eq_true rfl) (lt_w1 rfl) sh260 (Nat.le_refl _) (Nat.le_refl _) ?_
  refine c193 (b := b) (h := h) (s := s) (v := v) v1 v2 v3 (fun J1 E2 h3 h4 => ?_)
  show j_W 192 d 0 0 0 0 75 [some (.ref 260), some (.int (nI c)), some (.int (nI w)), none, none] [] w1 (J1, E2, RR R) Q
  refine q_goto (tgt := 237) d192_75 rfl ?_
  exact q_ret d192_237 rfl (Nat.le_refl _) (Nat.le_refl _) (v4 J1 E2 h3 h4)

set_option maxRecDepth 10000 in
set_option maxHeartbeats 4000000 in
theorem u192_t {d : Nat} {I : Nat → Nat → Int32} {D : Nat → Nat → UInt64} {R : Nat → Nat → Option Nat} {Q : j_Po} {c : Nat} {w : Nat}  (hw : w < 400) (hd : 0 ≤ d)
    (v1 : j_W 192 d 0 0 0 0 100 [some (.ref 260), some (.int (nI c)), some (.int (nI w)), some (.int ((nI w) - (nI w) / 10 * 10)), some (.int (((nI w) - 300) / 10))] [] w1 (I, D, RR R) Q) : j_W 192 d 0 0 0 0 85 [some (.ref 260), some (.int (nI c)), some (.int (nI w)), none, none] [] w1 (I, D, RR R) Q := by
  refine q_iload_n d192_85 rfl ?_
  refine q_bipush (v := 10) (by decide) d192_86 ?_
  refine q_irem (by decide) d192_88 ?_
  refine q_istore_n (L' := [some (.ref 260), some (.int (nI c)), some (.int (nI w)), some (.int ((nI w) - (nI w) / 10 * 10)), none]) d192_89 (Nat.le_of_ble_eq_true rfl) rfl ?_
  refine q_iload_n d192_90 rfl ?_
  refine q_sipush (v := 300) (by decide) d192_91 ?_
  refine q_isub d192_94 ?_
  refine q_bipush (v := 10) (by decide) d192_95 ?_
  refine q_idiv (by decide) d192_97 ?_
  refine q_istore (L' := [some (.ref 260), some (.int (nI c)), some (.int (nI w)), some (.int ((nI w) - (nI w) / 10 * 10)), some (.int (((nI w) - 300) / 10))]) d192_98 (Nat.le_of_ble_eq_true rfl) rfl ?_
  exact r_sub (L' := [some (.ref 260), some (.int (nI c)), some (.int (nI w)), some (.int ((nI w) - (nI w) / 10 * 10)), some (.int (((nI w) - 300) / 10))]) ⟨rfl, rfl, rfl, rfl, rfl, trivial⟩ v1

set_option maxRecDepth 10000 in
set_option maxHeartbeats 4000000 in
theorem u192_n {d : Nat} {I : Nat → Nat → Int32} {D : Nat → Nat → UInt64} {R : Nat → Nat → Option Nat} {Q : j_Po} {c : Nat} {w : Nat} {t : Nat} {f : Nat} {b h : Nat} {s : Nat → Vl} {v : Vl} (ht : t < 6) (h315 : I 315 t = 0) (hd : 1 ≤ d)
    (v1 : ((I 315 t) = 0) → SQ I D b h s)
    (v2 : ((I 315 t) = 0) → b + h < 4800)
    (v3 : ((I 315 t) = 0) → VQ 4 (if (4 : Int32) = 0 then -1 else (nI c)) FP.dconst0 v)
    (v4 : ((I 315 t) = 0) → ∀ J4 : Nat → Nat → Int32, ∀ E5 : Nat → Nat → UInt64, (SQ J4 E5 b (h + 1) (fu s h v)) → (FQ b I D J4 E5) → Q none w1 (J4, E5, RR R))
    (v5 : (¬ (I 315 t) = 0) → j_W 192 d 0 0 0 0 109 [some (.ref 260), some (.int (nI c)), some (.int (nI w)), some (.int (nI t)), some (.int (nI f))] [] w1 (I, D, RR R) Q) : j_W 192 d 0 0 0 0 100 [some (.ref 260), some (.int (nI c)), some (.int (nI w)), some (.int (nI t)), some (.int (nI f))] [] w1 (I, D, RR R) Q := by
  refine q_aload_n d192_100 rfl ?_
  refine q_getR (x := 315) d192_101 (fs10_34 192 rfl) rfl (lt_w1 rfl) sh260 (rs260_6 R) (by decide) ?_
  refine q_iload_n d192_104 rfl ?_
  refine q_zaload (a := t) d192_105 (lt_w1 rfl) sh315 rfl (by omega) ?_
  refine q_if_eq (tgt := 114) d192_106 rfl (fun h1t => ?_) (fun h1f => ?_)
  ·
    refine q_aload_n d192_114 rfl ?_
    refine q_aload_n d192_115 rfl ?_
    refine q_getR (x := 315) d192_116 (fs10_34 192 rfl) rfl (lt_w1 rfl) sh260 (rs260_6 R) (by decide) ?_
    refine q_iload_n d192_119 rfl ?_
    refine q_zaload (a := t) d192_120 (lt_w1 rfl) sh315 rfl (by omega) ?_
    refine q_if_eq (tgt := 143) d192_121 rfl (fun h2t => ?_) (fun h2f => ?_)
    ·
      refine q_dconst0 d192_143 ?_
      refine q_aload_n d192_144 rfl ?_
      refine q_getR (x := 315) d192_145 (fs10_34 192 rfl) rfl (lt_w1 rfl) sh260 (rs260_6 R) (by decide) ?_
      refine q_iload_n d192_148 rfl ?_
      refine q_zaload (a := t) d192_149 (lt_w1 rfl) sh315 rfl (by omega) ?_
      refine q_if_eq (tgt := 172) d192_150 rfl (fun h3t => ?_) (fun h3f => ?_)
      ·
        refine q_iconst (v := 4) (by decide) d192_172 ?_
        refine q_iload_n d192_173 rfl ?_
        refine q_invV (o := 260) (ci := 10) (av := [.double FP.dconst0, .int 4, .int (nI c)]) (rest := []) (d' := 0) (mc' := 0) (ms' := 0) d192_174 (cv10_262 192 rfl) rfl (by decide) rfl rfl (by omega) (Nat.le_of_ble_eq_true rfl) (Nat.le_of_ble_eq_true rfl) (lt_w1 rfl) sh260 (Nat.le_refl _) (Nat.le_refl _) ?_
        refine c193 (b := b) (h := h) (s := s) (v := v) (v1 h1t) (v2 h1t) (v3 h1t) (fun J4 E5 h6 h7 => ?_)
        show j_W 192 d 0 0 0 0 177 [some (.ref 260), some (.int (nI c)), some (.int (nI w)), some (.int (nI t)), some (.int (nI f))] [] w1 (J4, E5, RR R) Q
        refine q_goto (tgt := 237) d192_177 rfl ?_
        exact q_ret d192_237 rfl (Nat.le_refl _) (Nat.le_refl _) (v4 h1t J4 E5 h6 h7)
      ·
        exact False.elim (by first | exact absurd h3f h1t | exact absurd h1t h3f | exact (Int32.not_lt.mpr h3f) h1t | exact (Int32.not_lt.mpr h1t) h3f | exact h3f (Int32.not_le.mp h1t) | exact h1t (Int32.not_le.mp h3f) | omega)
    ·
      exact False.elim (by first | exact absurd h2f h1t | exact absurd h1t h2f | exact (Int32.not_lt.mpr h2f) h1t | exact (Int32.not_lt.mpr h1t) h2f | exact h2f (Int32.not_le.mp h1t) | exact h1t (Int32.not_le.mp h2f) | omega)
  ·
    exact r_sub (L' := [some (.ref 260), some (.int (nI c)), some (.int (nI w)), some (.int (nI t)), some (.int (nI f))]) ⟨rfl, rfl, rfl, rfl, rfl, trivial⟩ (v5 h1f)

set_option maxRecDepth 10000 in
set_option maxHeartbeats 4000000 in
theorem u192_s {d : Nat} {I : Nat → Nat → Int32} {D : Nat → Nat → UInt64} {R : Nat → Nat → Option Nat} {Q : j_Po} {c : Nat} {w : Nat} {t : Nat} {f : Nat}  {AP : (Nat → Nat → Int32) → (Nat → Nat → UInt64) → Prop} (ht : t < 6) (h315 : ¬ I 315 t = 0) (hA : ∀ (Q : j_Po), (∀ J E, AP J E → Q none w1 (J, E, RR R)) → j_Call (d - 1) 194 [.ref 260, .int (nI t)] w1 (I, D, RR R) 0 0 Q) (hd : 1 ≤ d)
    (v1 : ((I 315 t) = 0) → j_W 192 d 0 0 0 0 114 [some (.ref 260), some (.int (nI c)), some (.int (nI w)), some (.int (nI t)), some (.int (nI f))] [] w1 (I, D, RR R) Q)
    (v2 : (¬ (I 315 t) = 0) → ∀ J2 : Nat → Nat → Int32, ∀ E3 : Nat → Nat → UInt64, (AP J2 E3) → j_W 192 d 0 0 0 0 114 [some (.ref 260), some (.int (nI c)), some (.int (nI w)), some (.int (nI t)), some (.int (nI f))] [] w1 (J2, E3, RR R) Q) : j_W 192 d 0 0 0 0 100 [some (.ref 260), some (.int (nI c)), some (.int (nI w)), some (.int (nI t)), some (.int (nI f))] [] w1 (I, D, RR R) Q := by
  refine q_aload_n d192_100 rfl ?_
  refine q_getR (x := 315) d192_101 (fs10_34 192 rfl) rfl (lt_w1 rfl) sh260 (rs260_6 R) (by decide) ?_
  refine q_iload_n d192_104 rfl ?_
  refine q_zaload (a := t) d192_105 (lt_w1 rfl) sh315 rfl (by omega) ?_
  refine q_if_eq (tgt := 114) d192_106 rfl (fun h1t => ?_) (fun h1f => ?_)
  ·
    exact r_sub (L' := [some (.ref 260), some (.int (nI c)), some (.int (nI w)), some (.int (nI t)), some (.int (nI f))]) ⟨rfl, rfl, rfl, rfl, rfl, trivial⟩ (v1 h1t)
  ·
    refine q_aload_n d192_109 rfl ?_
    refine q_iload_n d192_110 rfl ?_
    refine q_invV (o := 260) (ci := 10) (av := [.int (nI t)]) (rest := []) (d' := (d - 1)) (mc' := 0) (ms' := 0) d192_111 (cv10_266 192 rfl) rfl (by decide) rfl rfl (by omega) (Nat.le_of_ble_eq_true rfl) (Nat.le_of_ble_eq_true rfl) (lt_w1 rfl) sh260 (Nat.le_refl _) (Nat.le_refl _) ?_
    refine hA _  (fun J2 E3 h4 => ?_)
    show j_W 192 d 0 0 0 0 114 [some (.ref 260), some (.int (nI c)), some (.int (nI w)), some (.int (nI t)), some (.int (nI f))] [] w1 (J2, E3, RR R) Q
    exact r_sub (L' := [some (.ref 260), some (.int (nI c)), some (.int (nI w)), some (.int (nI t)), some (.int (nI f))]) ⟨rfl, rfl, rfl, rfl, rfl, trivial⟩ (v2 h1f J2 E3 h4)

set_option maxRecDepth 10000 in
set_option maxHeartbeats 4000000 in
theorem u192_u {d : Nat} {I : Nat → Nat → Int32} {D : Nat → Nat → UInt64} {R : Nat → Nat → Option Nat} {Q : j_Po} {c : Nat} {w : Nat} {t : Nat} {f : Nat} {l : Nat} {b h : Nat} {s : Nat → Vl} {v : Vl} (h18 : I 260 18 = nI l) (hl : l < 7) (ht : t < 6) (hf : f < 5) (h315 : ¬ I 315 t = 0) (hd : 1 ≤ d)
    (v1 : ((I 315 t) = 0) → j_W 192 d 0 0 0 0 143 [some (.ref 260), some (.int (nI c)), some (.int (nI w)), some (.int (nI t)), some (.int (nI f))] [.ref 260] w1 (I, D, RR R) Q)
    (v2 : (¬ (I 315 t) = 0) → SQ I D b h s)
    (v3 : (¬ (I 315 t) = 0) → b + h < 4800)
    (v4 : (¬ (I 315 t) = 0) → VQ (I (412 + l) ((5 * t) + f)) (if (I (412 + l) ((5 * t) + f)) = 0 then -1 else (nI c)) (D (404 + l) ((5 * t) + f)) v)
    (v5 : (¬ (I 315 t) = 0) → ∀ J3 : Nat → Nat → Int32, ∀ E4 : Nat → Nat → UInt64, (SQ J3 E4 b (h + 1) (fu s h v)) → (FQ b I D J3 E4) → Q none w1 (J3, E4, RR R)) : j_W 192 d 0 0 0 0 114 [some (.ref 260), some (.int (nI c)), some (.int (nI w)), some (.int (nI t)), some (.int (nI f))] [] w1 (I, D, RR R) Q := by
  refine q_aload_n d192_114 rfl ?_
  refine q_aload_n d192_115 rfl ?_
  refine q_getR (x := 315) d192_116 (fs10_34 192 rfl) rfl (lt_w1 rfl) sh260 (rs260_6 R) (by decide) ?_
  refine q_iload_n d192_119 rfl ?_
  refine q_zaload (a := t) d192_120 (lt_w1 rfl) sh315 rfl (by omega) ?_
  refine q_if_eq (tgt := 143) d192_121 rfl (fun h1t => ?_) (fun h1f => ?_)
  ·
    exact r_sub (L' := [some (.ref 260), some (.int (nI c)), some (.int (nI w)), some (.int (nI t)), some (.int (nI f))]) ⟨rfl, rfl, rfl, rfl, rfl, trivial⟩ (v1 h1t)
  ·
    refine q_aload_n d192_124 rfl ?_
    refine q_getR (x := 403) d192_125 (fs10_87 192 rfl) rfl (lt_w1 rfl) sh260 (rs260_24 R) (by decide) ?_
    refine q_aload_n d192_128 rfl ?_
    refine q_getI d192_129 (fs10_247 192 rfl) rfl (lt_w1 rfl) sh260 ?_
    refine r_int (y := (nI l)) (show I 260 18 = (nI l) from h18) ?_
    refine q_aaload (c := 3) (a := l) (x := (404 + l)) d192_132 (lt_w1 rfl) sh403 (by decide) rfl (by omega) (rm403 R (by omega)) (lt1000 (lm403 (by omega))) ?_
    refine q_iconst (v := 5) (by decide) d192_133 ?_
    refine q_iload_n d192_134 rfl ?_
    refine q_imul d192_135 ?_
    refine r_int (y := (nI (5 * t))) (pk_mul 5 t) ?_
    refine q_iload d192_136 rfl ?_
    refine q_iadd d192_138 ?_
    refine r_int (y := (nI ((5 * t) + f))) (nI_add (5 * t) f) ?_
    refine q_daload (a := ((5 * t) + f)) d192_139 (lm403 (by omega)) (sm403 (by omega)) rfl (by omega) ?_
    refine q_goto (tgt := 144) d192_140 rfl ?_
    refine q_aload_n d192_144 rfl ?_
    refine q_getR (x := 315) d192_145 (fs10_34 192 rfl) rfl (lt_w1 rfl) sh260 (rs260_6 R) (by decide) ?_
    refine q_iload_n d192_148 rfl ?_
    refine q_zaload (a := t) d192_149 (lt_w1 rfl) sh315 rfl (by omega) ?_
    refine q_if_eq (tgt := 172) d192_150 rfl (fun h2t => ?_) (fun h2f => ?_)
    ·
      exact False.elim (by first | exact absurd h2t h1f | exact absurd h1f h2t | exact (Int32.not_lt.mpr h2t) h1f | exact (Int32.not_lt.mpr h1f) h2t | exact h2t (Int32.not_le.mp h1f) | exact h1f (Int32.not_le.mp h2t) | omega)
    ·
      refine q_aload_n d192_153 rfl ?_
      refine q_getR (x := 411) d192_154 (fs10_90 192 rfl) rfl (lt_w1 rfl) sh260 (rs260_25 R) (by decide) ?_
      refine q_aload_n d192_157 rfl ?_
      refine q_getI d192_158 (fs10_247 192 rfl) rfl (lt_w1 rfl) sh260 ?_
      refine r_int (y := (nI l)) (show I 260 18 = (nI l) from h18) ?_
      refine q_aaload (c := 4) (a := l) (x := (412 + l)) d192_161 (lt_w1 rfl) sh411 (by decide) rfl (by omega) (rm411 R (by omega)) (lt1000 (lm411 (by omega))) ?_
      refine q_iconst (v := 5) (by decide) d192_162 ?_
      refine q_iload_n d192_163 rfl ?_
      refine q_imul d192_164 ?_
      refine r_int (y := (nI (5 * t))) (pk_mul 5 t) ?_
      refine q_iload d192_165 rfl ?_
      refine q_iadd d192_167 ?_
      refine r_int (y := (nI ((5 * t) + f))) (nI_add (5 * t) f) ?_
      refine q_iaload (a := ((5 * t) + f)) d192_168 (lm411 (by omega)) (sm411 (by omega)) rfl (by omega) ?_
      refine q_goto (tgt := 173) d192_169 rfl ?_
      refine q_iload_n d192_173 rfl ?_
      refine q_invV (o := 260) (ci := 10) (av := [.double (D (404 + l) ((5 * t) + f)), .int (I (412 + l) ((5 * t) + f)), .int (nI c)]) (rest := []) (d' := 0) (mc' := 0) (ms' := 0) d192_174 (cv10_262 192 rfl) rfl (by decide) rfl rfl (by omega) (Nat.le_of_ble_eq_true rfl) (Nat.le_of_ble_eq_true rfl) (lt_w1 rfl) sh260 (Nat.le_refl _) (Nat.le_refl _) ?_
      refine c193 (b := b) (h := h) (s := s) (v := v) (v2 h1f) (v3 h1f) (v4 h1f) (fun J3 E4 h5 h6 => ?_)
      show j_W 192 d 0 0 0 0 177 [some (.ref 260), some (.int (nI c)), some (.int (nI w)), some (.int (nI t)), some (.int (nI f))] [] w1 (J3, E4, RR R) Q
      refine q_goto (tgt := 237) d192_177 rfl ?_
      exact q_ret d192_237 rfl (Nat.le_refl _) (Nat.le_refl _) (v5 h1f J3 E4 h5 h6)

set_option maxRecDepth 10000 in
set_option maxHeartbeats 4000000 in
theorem u192_2 {d : Nat} {I : Nat → Nat → Int32} {D : Nat → Nat → UInt64} {R : Nat → Nat → Option Nat} {Q : j_Po} {c : Nat} {w : Nat} {p : Nat} (h26 : I 260 26 = nI p) (hp : 1 ≤ p) (hp9 : p < 4800) (hd : 0 ≤ d)
    (v1 : Q none w1 (I, (j_u D 419 (p - 1) (FP.dneg (D 419 (p - 1)))), RR R)) : j_W 192 d 0 0 0 0 187 [some (.ref 260), some (.int (nI c)), some (.int (nI w)), none, none] [] w1 (I, D, RR R) Q := by
  refine q_aload_n d192_187 rfl ?_
  refine q_getR (x := 419) d192_188 (fs10_93 192 rfl) rfl (lt_w1 rfl) sh260 (rs260_27 R) (by decide) ?_
  refine q_aload_n d192_191 rfl ?_
  refine q_getI d192_192 (fs10_243 192 rfl) rfl (lt_w1 rfl) sh260 ?_
  refine r_int (y := (nI p)) (show I 260 26 = (nI p) from h26) ?_
  refine q_iconst (v := 1) (by decide) d192_195 ?_
  refine q_isub d192_196 ?_
  refine r_int (y := (nI (p - 1))) (pk_sub (b := 1) (by omega)) ?_
  refine q_aload_n d192_197 rfl ?_
  refine q_getR (x := 419) d192_198 (fs10_93 192 rfl) rfl (lt_w1 rfl) sh260 (rs260_27 R) (by decide) ?_
  refine q_aload_n d192_201 rfl ?_
  refine q_getI d192_202 (fs10_243 192 rfl) rfl (lt_w1 rfl) sh260 ?_
  refine r_int (y := (nI p)) (show I 260 26 = (nI p) from h26) ?_
  refine q_iconst (v := 1) (by decide) d192_205 ?_
  refine q_isub d192_206 ?_
  refine r_int (y := (nI (p - 1))) (pk_sub (b := 1) (by omega)) ?_
  refine q_daload (a := (p - 1)) d192_207 (lt_w1 rfl) sh419 rfl (by omega) ?_
  refine q_dneg d192_208 ?_
  refine q_dastore (a := (p - 1)) d192_209 (lt_w1 rfl) sh419 rfl (by omega) ?_
  refine q_goto (tgt := 237) d192_210 rfl ?_
  exact q_ret d192_237 rfl (Nat.le_refl _) (Nat.le_refl _) v1

set_option maxRecDepth 10000 in
set_option maxHeartbeats 4000000 in
theorem u192_12 {d : Nat} {I : Nat → Nat → Int32} {D : Nat → Nat → UInt64} {R : Nat → Nat → Option Nat} {Q : j_Po} {c : Nat} {w : Nat} {b h : Nat} {s : Nat → Vl}  (hd : 1 ≤ d)
    (v1 : SQ I D b h s)
    (v2 : b + h < 4799)
    (v3 : 3 ≤ h)
    (v4 : ∀ J1 : Nat → Nat → Int32, ∀ E2 : Nat → Nat → UInt64, (SQ J1 E2 b (h - 2) (fu s (h - 3) (pickV (s (h - 3)) (s (h - 2)) (s (h - 1))))) → (FQ b I D J1 E2) → Q none w1 (J1, E2, RR R)) : j_W 192 d 0 0 0 0 220 [some (.ref 260), some (.int (nI c)), some (.int (nI w)), none, none] [] w1 (I, D, RR R) Q := by
  refine q_aload_n d192_220 rfl ?_
  refine q_invV (o := 260) (ci := 10) (av := []) (rest := []) (d' := 0) (mc' := 0) (ms' := 0) d192_221 (cv10_269 192 rfl) rfl (by decide) rfl rfl (by omega) (Nat.le_of_ble_eq_true rfl) (Nat.le_of_ble_eq_true rfl) (lt_w1 rfl) sh260 (Nat.le_refl _) (Nat.le_refl _) ?_
  refine c196 (b := b) (h := h) (s := s) v1 v2 v3 (fun J1 E2 h3 h4 => ?_)
  show j_W 192 d 0 0 0 0 224 [some (.ref 260), some (.int (nI c)), some (.int (nI w)), none, none] [] w1 (J1, E2, RR R) Q
  refine q_goto (tgt := 237) d192_224 rfl ?_
  exact q_ret d192_237 rfl (Nat.le_refl _) (Nat.le_refl _) (v4 J1 E2 h3 h4)

theorem c197w {d : Nat} {I : Nat → Nat → Int32} {D : Nat → Nat → UInt64} {R : Nat → Nat → Option Nat} {Q : j_Po} {b h w c : Nat} {s : Nat → Vl} (hs : SQ I D b h s) (hb : b + h < 4800) (h2 : 2 ≤ h) (ha : 201 ≤ w) (ha2 : w ≤ 209) (hc : c < 24) (hd : 1 ≤ d) (hq : ∀ I' D', SQ I' D' b (h - 1) (fu s (h - 2) (twoV (w - 198) c (s (h - 2)) (s (h - 1)))) → FQ b I D I' D' → Q none w1 (I', D', RR R)) : j_Call d 197 [.ref 260, .int (nI c), .int (nI (w - 200))] w1 (I, D, RR R) 0 0 Q := by
  have := c197 (a := w - 198) (Q := Q) (R := R) hs hb h2 (by omega) (by omega) hc hd hq
  rw [show w - 198 - 2 = w - 200 by omega] at this
  exact this
set_option maxRecDepth 10000 in
set_option maxHeartbeats 4000000 in
theorem u192_3 {d : Nat} {I : Nat → Nat → Int32} {D : Nat → Nat → UInt64} {R : Nat → Nat → Option Nat} {Q : j_Po} {c : Nat} {w : Nat} {b h : Nat} {s : Nat → Vl} (hw1 : 201 ≤ w) (hw2 : w ≤ 209) (hd : 2 ≤ d)
    (v1 : SQ I D b h s)
    (v2 : b + h < 4800)
    (v3 : 2 ≤ h)
    (v4 : 201 ≤ w)
    (v5 : w ≤ 209)
    (v6 : c < 24)
    (v7 : 1 ≤ 1)
    (v8 : ∀ J1 : Nat → Nat → Int32, ∀ E2 : Nat → Nat → UInt64, (SQ J1 E2 b (h - 1) (fu s (h - 2) (twoV (w - 198) c (s (h - 2)) (s (h - 1))))) → (FQ b I D J1 E2) → Q none w1 (J1, E2, RR R)) : j_W 192 d 0 0 0 0 227 [some (.ref 260), some (.int (nI c)), some (.int (nI w)), none, none] [] w1 (I, D, RR R) Q := by
  refine q_aload_n d192_227 rfl ?_
  refine q_iload_n d192_228 rfl ?_
  refine q_iload_n d192_229 rfl ?_
  refine q_sipush (v := 200) (by decide) d192_230 ?_
  refine q_isub d192_233 ?_
  refine r_int (y := (nI (w - 200))) (pk_sub (b := 200) (by omega)) ?_
  refine q_invV (o := 260) (ci := 10) (av := [.int (nI c), .int (nI (w - 200))]) (rest := []) (d' := 1) (mc' := 0) (ms' := 0) d192_234 (cv10_272 192 rfl) rfl (by decide) rfl rfl (by omega) (Nat.le_of_ble_eq_true rfl) (Nat.le_of_ble_eq_true rfl) (lt_w1 rfl) sh260 (Nat.le_refl _) (Nat.le_refl _) ?_
  refine c197w (b := b) (h := h) (s := s) v1 v2 v3 v4 v5 v6 v7 (fun J1 E2 h3 h4 => ?_)
  show j_W 192 d 0 0 0 0 237 [some (.ref 260), some (.int (nI c)), some (.int (nI w)), none, none] [] w1 (J1, E2, RR R) Q
  exact q_ret d192_237 rfl (Nat.le_refl _) (Nat.le_refl _) (v8 J1 E2 h3 h4)

set_option maxRecDepth 10000 in
set_option maxHeartbeats 4000000 in
theorem u195a {d : Nat} {I : Nat → Nat → Int32} {D : Nat → Nat → UInt64} {R : Nat → Nat → Option Nat} {Q : j_Po} {t : Nat} {i : Nat} {j : Nat} {a : Nat} (ht : t < 6) (ha : a < 24) (h317 : I 317 t = nI a) (h318 : I 318 t = -1) (hd : 0 ≤ d)
    (v1 : (¬ (I 318 t) = (-1)) → vp_in (I 318 t) 24)
    (v2 : (¬ (I 318 t) = (-1)) → j_W 195 d 0 0 0 0 77 [some (.ref 260), some (.int (nI t)), some (.int (nI i)), some (.int (nI j)), some (.int (nI a)), some (.int (I 318 t)), some (.double (D 263 a)), none, some (.double (D 263 ((I 318 t).toNatClampNeg))), none, some (.int (I 262 a)), some (.int (I 262 ((I 318 t).toNatClampNeg)))] [] w1 (I, D, RR R) Q)
    (v3 : ((I 318 t) = (-1)) → j_W 195 d 0 0 0 0 104 [some (.ref 260), some (.int (nI t)), some (.int (nI i)), some (.int (nI j)), some (.int (nI a)), some (.int (nI a)), some (.double (D 263 a)), none, some (.double (D 263 a)), none, some (.int (I 262 a)), some (.int (I 262 a))] [] w1 (I, D, RR R) Q) : j_Call d 195 [.ref 260, .int (nI t), .int (nI i), .int (nI j)] w1 (I, D, RR R) 0 0 Q := by
  refine q_enter (L := [some (.ref 260), some (.int (nI t)), some (.int (nI i)), some (.int (nI j)), none, none, none, none, none, none, none, none]) j_m195 (Nat.le_of_ble_eq_true rfl) rfl ?_
  refine q_aload_n d195_0 rfl ?_
  refine q_getR (x := 317) d195_1 (fs10_40 195 rfl) rfl (lt_w1 rfl) sh260 (rs260_8 R) (by decide) ?_
  refine q_iload_n d195_4 rfl ?_
  refine q_iaload (a := t) d195_5 (lt_w1 rfl) sh317 rfl (by omega) ?_
  refine r_int (y := nI a) h317 ?_
  refine q_istore (L' := [some (.ref 260), some (.int (nI t)), some (.int (nI i)), some (.int (nI j)), some (.int (nI a)), none, none, none, none, none, none, none]) d195_6 (Nat.le_of_ble_eq_true rfl) rfl ?_
  refine q_aload_n d195_8 rfl ?_
  refine q_getR (x := 318) d195_9 (fs10_43 195 rfl) rfl (lt_w1 rfl) sh260 (rs260_9 R) (by decide) ?_
  refine q_iload_n d195_12 rfl ?_
  refine q_iaload (a := t) d195_13 (lt_w1 rfl) sh318 rfl (by omega) ?_
  refine q_iconst (v := (-1)) (by decide) d195_14 ?_
  refine q_icmp_ne (tgt := 23) d195_15 rfl (fun h1t => ?_) (fun h1f => ?_)
  ·
    refine q_aload_n d195_23 rfl ?_
    refine q_getR (x := 318) d195_24 (fs10_43 195 rfl) rfl (lt_w1 rfl) sh260 (rs260_9 R) (by decide) ?_
    refine q_iload_n d195_27 rfl ?_
    refine q_iaload (a := t) d195_28 (lt_w1 rfl) sh318 rfl (by omega) ?_
    refine q_istore (L' := [some (.ref 260), some (.int (nI t)), some (.int (nI i)), some (.int (nI j)), some (.int (nI a)), some (.int (I 318 t)), none, none, none, none, none, none]) d195_29 (Nat.le_of_ble_eq_true rfl) rfl ?_
    refine q_aload_n d195_31 rfl ?_
    refine q_getR (x := 263) d195_32 (fs10_17 195 rfl) rfl (lt_w1 rfl) sh260 (rs260_2 R) (by decide) ?_
    refine q_iload d195_35 rfl ?_
    refine q_daload (a := a) d195_37 (lt_w1 rfl) sh263 rfl (by omega) ?_
    refine q_dstore (L' := [some (.ref 260), some (.int (nI t)), some (.int (nI i)), some (.int (nI j)), some (.int (nI a)), some (.int (I 318 t)), some (.double (D 263 a)), none, none, none, none, none]) d195_38 (Nat.le_of_ble_eq_true rfl) rfl ?_
    refine q_aload_n d195_40 rfl ?_
    refine q_getR (x := 263) d195_41 (fs10_17 195 rfl) rfl (lt_w1 rfl) sh260 (rs260_2 R) (by decide) ?_
    refine q_iload d195_44 rfl ?_
    have g2 := ix_of (v1 h1t) (by decide)
    refine q_daload (a := (I 318 t).toNatClampNeg) d195_46 (lt_w1 rfl) sh263 g2.1 g2.2 ?_
    refine q_dstore (L' := [some (.ref 260), some (.int (nI t)), some (.int (nI i)), some (.int (nI j)), some (.int (nI a)), some (.int (I 318 t)), some (.double (D 263 a)), none, some (.double (D 263 ((I 318 t).toNatClampNeg))), none, none, none]) d195_47 (Nat.le_of_ble_eq_true rfl) rfl ?_
    refine q_aload_n d195_49 rfl ?_
    refine q_getR (x := 262) d195_50 (fs10_13 195 rfl) rfl (lt_w1 rfl) sh260 (rs260_1 R) (by decide) ?_
    refine q_iload d195_53 rfl ?_
    refine q_zaload (a := a) d195_55 (lt_w1 rfl) sh262 rfl (by omega) ?_
    refine q_istore (L' := [some (.ref 260), some (.int (nI t)), some (.int (nI i)), some (.int (nI j)), some (.int (nI a)), some (.int (I 318 t)), some (.double (D 263 a)), none, some (.double (D 263 ((I 318 t).toNatClampNeg))), none, some (.int (I 262 a)), none]) d195_56 (Nat.le_of_ble_eq_true rfl) rfl ?_
    refine q_aload_n d195_58 rfl ?_
    refine q_getR (x := 262) d195_59 (fs10_13 195 rfl) rfl (lt_w1 rfl) sh260 (rs260_1 R) (by decide) ?_
    refine q_iload d195_62 rfl ?_
    have g3 := ix_of (v1 h1t) (by decide)
    refine q_zaload (a := (I 318 t).toNatClampNeg) d195_64 (lt_w1 rfl) sh262 g3.1 g3.2 ?_
    refine q_istore (L' := [some (.ref 260), some (.int (nI t)), some (.int (nI i)), some (.int (nI j)), some (.int (nI a)), some (.int (I 318 t)), some (.double (D 263 a)), none, some (.double (D 263 ((I 318 t).toNatClampNeg))), none, some (.int (I 262 a)), some (.int (I 262 ((I 318 t).toNatClampNeg)))]) d195_65 (Nat.le_of_ble_eq_true rfl) rfl ?_
    refine q_aload_n d195_67 rfl ?_
    refine q_getR (x := 318) d195_68 (fs10_43 195 rfl) rfl (lt_w1 rfl) sh260 (rs260_9 R) (by decide) ?_
    refine q_iload_n d195_71 rfl ?_
    refine q_iaload (a := t) d195_72 (lt_w1 rfl) sh318 rfl (by omega) ?_
    refine q_iconst (v := (-1)) (by decide) d195_73 ?_
    refine q_icmp_eq (tgt := 104) d195_74 rfl (fun h4t => ?_) (fun h4f => ?_)
    ·
      exact False.elim (by first | exact absurd h4t h1t | exact absurd h1t h4t | exact (Int32.not_lt.mpr h4t) h1t | exact (Int32.not_lt.mpr h1t) h4t | exact h4t (Int32.not_le.mp h1t) | exact h1t (Int32.not_le.mp h4t) | omega)
    ·
      exact r_sub (L' := [some (.ref 260), some (.int (nI t)), some (.int (nI i)), some (.int (nI j)), some (.int (nI a)), some (.int (I 318 t)), some (.double (D 263 a)), none, some (.double (D 263 ((I 318 t).toNatClampNeg))), none, some (.int (I 262 a)), some (.int (I 262 ((I 318 t).toNatClampNeg)))]) ⟨rfl, rfl, rfl, rfl, rfl, rfl, rfl, rfl, rfl, rfl, trivial⟩ (v2 h1t)
  ·
    refine q_iload d195_18 rfl ?_
    refine q_goto (tgt := 29) d195_20 rfl ?_
    refine q_istore (L' := [some (.ref 260), some (.int (nI t)), some (.int (nI i)), some (.int (nI j)), some (.int (nI a)), some (.int (nI a)), none, none, none, none, none, none]) d195_29 (Nat.le_of_ble_eq_true rfl) rfl ?_
    refine q_aload_n d195_31 rfl ?_
    refine q_getR (x := 263) d195_32 (fs10_17 195 rfl) rfl (lt_w1 rfl) sh260 (rs260_2 R) (by decide) ?_
    refine q_iload d195_35 rfl ?_
    refine q_daload (a := a) d195_37 (lt_w1 rfl) sh263 rfl (by omega) ?_
    refine q_dstore (L' := [some (.ref 260), some (.int (nI t)), some (.int (nI i)), some (.int (nI j)), some (.int (nI a)), some (.int (nI a)), some (.double (D 263 a)), none, none, none, none, none]) d195_38 (Nat.le_of_ble_eq_true rfl) rfl ?_
    refine q_aload_n d195_40 rfl ?_
    refine q_getR (x := 263) d195_41 (fs10_17 195 rfl) rfl (lt_w1 rfl) sh260 (rs260_2 R) (by decide) ?_
    refine q_iload d195_44 rfl ?_
    refine q_daload (a := a) d195_46 (lt_w1 rfl) sh263 rfl (by omega) ?_
    refine q_dstore (L' := [some (.ref 260), some (.int (nI t)), some (.int (nI i)), some (.int (nI j)), some (.int (nI a)), some (.int (nI a)), some (.double (D 263 a)), none, some (.double (D 263 a)), none, none, none]) d195_47 (Nat.le_of_ble_eq_true rfl) rfl ?_
    refine q_aload_n d195_49 rfl ?_
    refine q_getR (x := 262) d195_50 (fs10_13 195 rfl) rfl (lt_w1 rfl) sh260 (rs260_1 R) (by decide) ?_
    refine q_iload d195_53 rfl ?_
    refine q_zaload (a := a) d195_55 (lt_w1 rfl) sh262 rfl (by omega) ?_
    refine q_istore (L' := [some (.ref 260), some (.int (nI t)), some (.int (nI i)), some (.int (nI j)), some (.int (nI a)), some (.int (nI a)), some (.double (D 263 a)), none, some (.double (D 263 a)), none, some (.int (I 262 a)), none]) d195_56 (Nat.le_of_ble_eq_true rfl) rfl ?_
    refine q_aload_n d195_58 rfl ?_
    refine q_getR (x := 262) d195_59 (fs10_13 195 rfl) rfl (lt_w1 rfl) sh260 (rs260_1 R) (by decide) ?_
    refine q_iload d195_62 rfl ?_
    refine q_zaload (a := a) d195_64 (lt_w1 rfl) sh262 rfl (by omega) ?_
    refine q_istore (L' := [some (.ref 260), some (.int (nI t)), some (.int (nI i)), some (.int (nI j)), some (.int (nI a)), some (.int (nI a)), some (.double (D 263 a)), none, some (.double (D 263 a)), none, some (.int (I 262 a)), some (.int (I 262 a))]) d195_65 (Nat.le_of_ble_eq_true rfl) rfl ?_
    refine q_aload_n d195_67 rfl ?_
    refine q_getR (x := 318) d195_68 (fs10_43 195 rfl) rfl (lt_w1 rfl) sh260 (rs260_9 R) (by decide) ?_
    refine q_iload_n d195_71 rfl ?_
    refine q_iaload (a := t) d195_72 (lt_w1 rfl) sh318 rfl (by omega) ?_
    refine q_iconst (v := (-1)) (by decide) d195_73 ?_
    refine q_icmp_eq (tgt := 104) d195_74 rfl (fun h5t => ?_) (fun h5f => ?_)
    ·
      exact r_sub (L' := [some (.ref 260), some (.int (nI t)), some (.int (nI i)), some (.int (nI j)), some (.int (nI a)), some (.int (nI a)), some (.double (D 263 a)), none, some (.double (D 263 a)), none, some (.int (I 262 a)), some (.int (I 262 a))]) ⟨rfl, rfl, rfl, rfl, rfl, rfl, rfl, rfl, rfl, rfl, trivial⟩ (v3 h1f)
    ·
      exact False.elim (by first | exact absurd h5f h1f | exact absurd h1f h5f | exact (Int32.not_lt.mpr h5f) h1f | exact (Int32.not_lt.mpr h1f) h5f | exact h5f (Int32.not_le.mp h1f) | exact h1f (Int32.not_le.mp h5f) | omega)

set_option maxRecDepth 10000 in
set_option maxHeartbeats 4000000 in
theorem u195b {d : Nat} {I : Nat → Nat → Int32} {D : Nat → Nat → UInt64} {R : Nat → Nat → Option Nat} {Q : j_Po} {t : Nat} {i : Nat} {j : Nat} {a b : Nat} (ht : t < 6) (ha : a < 24) (hb : b < 24) (h317 : I 317 t = nI a) (h318 : I 318 t = nI b) (hd : 0 ≤ d)
    (v1 : (¬ (nI b) = (-1)) → j_W 195 d 0 0 0 0 77 [some (.ref 260), some (.int (nI t)), some (.int (nI i)), some (.int (nI j)), some (.int (nI a)), some (.int (nI b)), some (.double (D 263 a)), none, some (.double (D 263 b)), none, some (.int (I 262 a)), some (.int (I 262 b))] [] w1 (I, D, RR R) Q)
    (v2 : ((nI b) = (-1)) → j_W 195 d 0 0 0 0 104 [some (.ref 260), some (.int (nI t)), some (.int (nI i)), some (.int (nI j)), some (.int (nI a)), some (.int (nI a)), some (.double (D 263 a)), none, some (.double (D 263 a)), none, some (.int (I 262 a)), some (.int (I 262 a))] [] w1 (I, D, RR R) Q) : j_Call d 195 [.ref 260, .int (nI t), .int (nI i), .int (nI j)] w1 (I, D, RR R) 0 0 Q := by
  refine q_enter (L := [some (.ref 260), some (.int (nI t)), some (.int (nI i)), some (.int (nI j)), none, none, none, none, none, none, none, none]) j_m195 (Nat.le_of_ble_eq_true rfl) rfl ?_
  refine q_aload_n d195_0 rfl ?_
  refine q_getR (x := 317) d195_1 (fs10_40 195 rfl) rfl (lt_w1 rfl) sh260 (rs260_8 R) (by decide) ?_
  refine q_iload_n d195_4 rfl ?_
  refine q_iaload (a := t) d195_5 (lt_w1 rfl) sh317 rfl (by omega) ?_
  refine r_int (y := nI a) h317 ?_
  refine q_istore (L' := [some (.ref 260), some (.int (nI t)), some (.int (nI i)), some (.int (nI j)), some (.int (nI a)), none, none, none, none, none, none, none]) d195_6 (Nat.le_of_ble_eq_true rfl) rfl ?_
  refine q_aload_n d195_8 rfl ?_
  refine q_getR (x := 318) d195_9 (fs10_43 195 rfl) rfl (lt_w1 rfl) sh260 (rs260_9 R) (by decide) ?_
  refine q_iload_n d195_12 rfl ?_
  refine q_iaload (a := t) d195_13 (lt_w1 rfl) sh318 rfl (by omega) ?_
  refine r_int (y := nI b) h318 ?_
  refine q_iconst (v := (-1)) (by decide) d195_14 ?_
  refine q_icmp_ne (tgt := 23) d195_15 rfl (fun h1t => ?_) (fun h1f => ?_)
  ·
    refine q_aload_n d195_23 rfl ?_
    refine q_getR (x := 318) d195_24 (fs10_43 195 rfl) rfl (lt_w1 rfl) sh260 (rs260_9 R) (by decide) ?_
    refine q_iload_n d195_27 rfl ?_
    refine q_iaload (a := t) d195_28 (lt_w1 rfl) sh318 rfl (by omega) ?_
    refine r_int (y := nI b) h318 ?_
    refine q_istore (L' := [some (.ref 260), some (.int (nI t)), some (.int (nI i)), some (.int (nI j)), some (.int (nI a)), some (.int (nI b)), none, none, none, none, none, none]) d195_29 (Nat.le_of_ble_eq_true rfl) rfl ?_
    refine q_aload_n d195_31 rfl ?_
    refine q_getR (x := 263) d195_32 (fs10_17 195 rfl) rfl (lt_w1 rfl) sh260 (rs260_2 R) (by decide) ?_
    refine q_iload d195_35 rfl ?_
    refine q_daload (a := a) d195_37 (lt_w1 rfl) sh263 rfl (by omega) ?_
    refine q_dstore (L' := [some (.ref 260), some (.int (nI t)), some (.int (nI i)), some (.int (nI j)), some (.int (nI a)), some (.int (nI b)), some (.double (D 263 a)), none, none, none, none, none]) d195_38 (Nat.le_of_ble_eq_true rfl) rfl ?_
    refine q_aload_n d195_40 rfl ?_
    refine q_getR (x := 263) d195_41 (fs10_17 195 rfl) rfl (lt_w1 rfl) sh260 (rs260_2 R) (by decide) ?_
    refine q_iload d195_44 rfl ?_
    refine q_daload (a := b) d195_46 (lt_w1 rfl) sh263 rfl (by omega) ?_
    refine q_dstore (L' := [some (.ref 260), some (.int (nI t)), some (.int (nI i)), some (.int (nI j)), some (.int (nI a)), some (.int (nI b)), some (.double (D 263 a)), none, some (.double (D 263 b)), none, none, none]) d195_47 (Nat.le_of_ble_eq_true rfl) rfl ?_
    refine q_aload_n d195_49 rfl ?_
    refine q_getR (x := 262) d195_50 (fs10_13 195 rfl) rfl (lt_w1 rfl) sh260 (rs260_1 R) (by decide) ?_
    refine q_iload d195_53 rfl ?_
    refine q_zaload (a := a) d195_55 (lt_w1 rfl) sh262 rfl (by omega) ?_
    refine q_istore (L' := [some (.ref 260), some (.int (nI t)), some (.int (nI i)), some (.int (nI j)), some (.int (nI a)), some (.int (nI b)), some (.double (D 263 a)), none, some (.double (D 263 b)), none, some (.int (I 262 a)), none]) d195_56 (Nat.le_of_ble_eq_true rfl) rfl ?_
    refine q_aload_n d195_58 rfl ?_
    refine q_getR (x := 262) d195_59 (fs10_13 195 rfl) rfl (lt_w1 rfl) sh260 (rs260_1 R) (by decide) ?_
    refine q_iload d195_62 rfl ?_
    refine q_zaload (a := b) d195_64 (lt_w1 rfl) sh262 rfl (by omega) ?_
    refine q_istore (L' := [some (.ref 260), some (.int (nI t)), some (.int (nI i)), some (.int (nI j)), some (.int (nI a)), some (.int (nI b)), some (.double (D 263 a)), none, some (.double (D 263 b)), none, some (.int (I 262 a)), some (.int (I 262 b))]) d195_65 (Nat.le_of_ble_eq_true rfl) rfl ?_
    refine q_aload_n d195_67 rfl ?_
    refine q_getR (x := 318) d195_68 (fs10_43 195 rfl) rfl (lt_w1 rfl) sh260 (rs260_9 R) (by decide) ?_
    refine q_iload_n d195_71 rfl ?_
    refine q_iaload (a := t) d195_72 (lt_w1 rfl) sh318 rfl (by omega) ?_
    refine r_int (y := nI b) h318 ?_
    refine q_iconst (v := (-1)) (by decide) d195_73 ?_
    refine q_icmp_eq (tgt := 104) d195_74 rfl (fun h2t => ?_) (fun h2f => ?_)
    ·
      exact False.elim (by first | exact absurd h2t h1t | exact absurd h1t h2t | exact (Int32.not_lt.mpr h2t) h1t | exact (Int32.not_lt.mpr h1t) h2t | exact h2t (Int32.not_le.mp h1t) | exact h1t (Int32.not_le.mp h2t) | omega)
    ·
      exact r_sub (L' := [some (.ref 260), some (.int (nI t)), some (.int (nI i)), some (.int (nI j)), some (.int (nI a)), some (.int (nI b)), some (.double (D 263 a)), none, some (.double (D 263 b)), none, some (.int (I 262 a)), some (.int (I 262 b))]) ⟨rfl, rfl, rfl, rfl, rfl, rfl, rfl, rfl, rfl, rfl, trivial⟩ (v1 h1t)
  ·
    refine q_iload d195_18 rfl ?_
    refine q_goto (tgt := 29) d195_20 rfl ?_
    refine q_istore (L' := [some (.ref 260), some (.int (nI t)), some (.int (nI i)), some (.int (nI j)), some (.int (nI a)), some (.int (nI a)), none, none, none, none, none, none]) d195_29 (Nat.le_of_ble_eq_true rfl) rfl ?_
    refine q_aload_n d195_31 rfl ?_
    refine q_getR (x := 263) d195_32 (fs10_17 195 rfl) rfl (lt_w1 rfl) sh260 (rs260_2 R) (by decide) ?_
    refine q_iload d195_35 rfl ?_
    refine q_daload (a := a) d195_37 (lt_w1 rfl) sh263 rfl (by omega) ?_
    refine q_dstore (L' := [some (.ref 260), some (.int (nI t)), some (.int (nI i)), some (.int (nI j)), some (.int (nI a)), some (.int (nI a)), some (.double (D 263 a)), none, none, none, none, none]) d195_38 (Nat.le_of_ble_eq_true rfl) rfl ?_
    refine q_aload_n d195_40 rfl ?_
    refine q_getR (x := 263) d195_41 (fs10_17 195 rfl) rfl (lt_w1 rfl) sh260 (rs260_2 R) (by decide) ?_
    refine q_iload d195_44 rfl ?_
    refine q_daload (a := a) d195_46 (lt_w1 rfl) sh263 rfl (by omega) ?_
    refine q_dstore (L' := [some (.ref 260), some (.int (nI t)), some (.int (nI i)), some (.int (nI j)), some (.int (nI a)), some (.int (nI a)), some (.double (D 263 a)), none, some (.double (D 263 a)), none, none, none]) d195_47 (Nat.le_of_ble_eq_true rfl) rfl ?_
    refine q_aload_n d195_49 rfl ?_
    refine q_getR (x := 262) d195_50 (fs10_13 195 rfl) rfl (lt_w1 rfl) sh260 (rs260_1 R) (by decide) ?_
    refine q_iload d195_53 rfl ?_
    refine q_zaload (a := a) d195_55 (lt_w1 rfl) sh262 rfl (by omega) ?_
    refine q_istore (L' := [some (.ref 260), some (.int (nI t)), some (.int (nI i)), some (.int (nI j)), some (.int (nI a)), some (.int (nI a)), some (.double (D 263 a)), none, some (.double (D 263 a)), none, some (.int (I 262 a)), none]) d195_56 (Nat.le_of_ble_eq_true rfl) rfl ?_
    refine q_aload_n d195_58 rfl ?_
    refine q_getR (x := 262) d195_59 (fs10_13 195 rfl) rfl (lt_w1 rfl) sh260 (rs260_1 R) (by decide) ?_
    refine q_iload d195_62 rfl ?_
    refine q_zaload (a := a) d195_64 (lt_w1 rfl) sh262 rfl (by omega) ?_
    refine q_istore (L' := [some (.ref 260), some (.int (nI t)), some (.int (nI i)), some (.int (nI j)), some (.int (nI a)), some (.int (nI a)), some (.double (D 263 a)), none, some (.double (D 263 a)), none, some (.int (I 262 a)), some (.int (I 262 a))]) d195_65 (Nat.le_of_ble_eq_true rfl) rfl ?_
    refine q_aload_n d195_67 rfl ?_
    refine q_getR (x := 318) d195_68 (fs10_43 195 rfl) rfl (lt_w1 rfl) sh260 (rs260_9 R) (by decide) ?_
    refine q_iload_n d195_71 rfl ?_
    refine q_iaload (a := t) d195_72 (lt_w1 rfl) sh318 rfl (by omega) ?_
    refine r_int (y := nI b) h318 ?_
    refine q_iconst (v := (-1)) (by decide) d195_73 ?_
    refine q_icmp_eq (tgt := 104) d195_74 rfl (fun h3t => ?_) (fun h3f => ?_)
    ·
      exact r_sub (L' := [some (.ref 260), some (.int (nI t)), some (.int (nI i)), some (.int (nI j)), some (.int (nI a)), some (.int (nI a)), some (.double (D 263 a)), none, some (.double (D 263 a)), none, some (.int (I 262 a)), some (.int (I 262 a))]) ⟨rfl, rfl, rfl, rfl, rfl, rfl, rfl, rfl, rfl, rfl, trivial⟩ (v2 h1f)
    ·
      exact False.elim (by first | exact absurd h3f h1f | exact absurd h1f h3f | exact (Int32.not_lt.mpr h3f) h1f | exact (Int32.not_lt.mpr h1f) h3f | exact h3f (Int32.not_le.mp h1f) | exact h1f (Int32.not_le.mp h3f) | omega)

set_option maxRecDepth 10000 in
set_option maxHeartbeats 4000000 in
theorem u195c {d : Nat} {I : Nat → Nat → Int32} {D : Nat → Nat → UInt64} {R : Nat → Nat → Option Nat} {Q : j_Po} {t : Nat} {i : Nat} {j : Nat} {a : Nat} {b : Nat} {x : UInt64} {y : UInt64} {g : Int32} {k : Int32}  (ht : t < 6) (ha : a < 24) (hb : b < 24) (hi : i < 8) (hj : j < 8) (hd : 0 ≤ d)
    (v1 : j_W 195 d 0 0 0 0 104 [some (.ref 260), some (.int (nI t)), some (.int (nI i)), some (.int (nI j)), some (.int (nI a)), some (.int (nI b)), some (.double x), none, some (.double y), none, some (.int g), some (.int k)] [] w1 ((j_u I 262 b 1), (j_u D 263 b (D (321 + ((2 * t) + 1)) j)), RR R) Q) : j_W 195 d 0 0 0 0 77 [some (.ref 260), some (.int (nI t)), some (.int (nI i)), some (.int (nI j)), some (.int (nI a)), some (.int (nI b)), some (.double x), none, some (.double y), none, some (.int g), some (.int k)] [] w1 (I, D, RR R) Q := by
  refine q_aload_n d195_77 rfl ?_
  refine q_getR (x := 263) d195_78 (fs10_17 195 rfl) rfl (lt_w1 rfl) sh260 (rs260_2 R) (by decide) ?_
  refine q_iload d195_81 rfl ?_
  refine q_aload_n d195_83 rfl ?_
  refine q_getR (x := 320) d195_84 (fs10_49 195 rfl) rfl (lt_w1 rfl) sh260 (rs260_11 R) (by decide) ?_
  refine q_iconst (v := 2) (by decide) d195_87 ?_
  refine q_iload_n d195_88 rfl ?_
  refine q_imul d195_89 ?_
  refine r_int (y := (nI (2 * t))) (pk_mul 2 t) ?_
  refine q_iconst (v := 1) (by decide) d195_90 ?_
  refine q_iadd d195_91 ?_
  refine r_int (y := (nI ((2 * t) + 1))) (nI_add (2 * t) 1) ?_
  refine q_aaload (c := 3) (a := ((2 * t) + 1)) (x := (321 + ((2 * t) + 1))) d195_92 (lt_w1 rfl) sh320 (by decide) rfl (by omega) (rm320 R (by omega)) (lt1000 (lm320 (by omega))) ?_
  refine q_iload_n d195_93 rfl ?_
  refine q_daload (a := j) d195_94 (lm320 (by omega)) (sm320 (by omega)) rfl (by omega) ?_
  refine q_dastore (a := b) d195_95 (lt_w1 rfl) sh263 rfl (by omega) ?_
  refine q_aload_n d195_96 rfl ?_
  refine q_getR (x := 262) d195_97 (fs10_13 195 rfl) rfl (lt_w1 rfl) sh260 (rs260_1 R) (by decide) ?_
  refine q_iload d195_100 rfl ?_
  refine q_iconst (v := 1) (by decide) d195_102 ?_
  refine q_zastore (a := b) d195_103 (Or.inr rfl) (lt_w1 rfl) sh262 rfl (by omega) ?_
  exact r_sub (L' := [some (.ref 260), some (.int (nI t)), some (.int (nI i)), some (.int (nI j)), some (.int (nI a)), some (.int (nI b)), some (.double x), none, some (.double y), none, some (.int g), some (.int k)]) ⟨rfl, rfl, rfl, rfl, rfl, rfl, rfl, rfl, rfl, rfl, trivial⟩ v1

set_option maxRecDepth 10000 in
set_option maxHeartbeats 4000000 in
theorem u195d {d : Nat} {I : Nat → Nat → Int32} {D : Nat → Nat → UInt64} {R : Nat → Nat → Option Nat} {Q : j_Po} {t : Nat} {i : Nat} {j : Nat} {a : Nat} {b : Nat} {x : UInt64} {y : UInt64} {g : Int32} {k : Int32}  (ht : t < 6) (ha : a < 24) (hb : b < 24) (hi : i < 8) (hj : j < 8) (hd : 0 ≤ d)
    (v1 : j_W 195 d 0 0 0 0 129 [some (.ref 260), some (.int (nI t)), some (.int (nI i)), some (.int (nI j)), some (.int (nI a)), some (.int (nI b)), some (.double x), none, some (.double y), none, some (.int g), some (.int k)] [] w1 ((j_u I 262 a 1), (j_u D 263 a (D (321 + (2 * t)) i)), RR R) Q) : j_W 195 d 0 0 0 0 104 [some (.ref 260), some (.int (nI t)), some (.int (nI i)), some (.int (nI j)), some (.int (nI a)), some (.int (nI b)), some (.double x), none, some (.double y), none, some (.int g), some (.int k)] [] w1 (I, D, RR R) Q := by
  refine q_aload_n d195_104 rfl ?_
  refine q_getR (x := 263) d195_105 (fs10_17 195 rfl) rfl (lt_w1 rfl) sh260 (rs260_2 R) (by decide) ?_
  refine q_iload d195_108 rfl ?_
  refine q_aload_n d195_110 rfl ?_
  refine q_getR (x := 320) d195_111 (fs10_49 195 rfl) rfl (lt_w1 rfl) sh260 (rs260_11 R) (by decide) ?_
  refine q_iconst (v := 2) (by decide) d195_114 ?_
  refine q_iload_n d195_115 rfl ?_
  refine q_imul d195_116 ?_
  refine r_int (y := (nI (2 * t))) (pk_mul 2 t) ?_
  refine q_aaload (c := 3) (a := (2 * t)) (x := (321 + (2 * t))) d195_117 (lt_w1 rfl) sh320 (by decide) rfl (by omega) (rm320 R (by omega)) (lt1000 (lm320 (by omega))) ?_
  refine q_iload_n d195_118 rfl ?_
  refine q_daload (a := i) d195_119 (lm320 (by omega)) (sm320 (by omega)) rfl (by omega) ?_
  refine q_dastore (a := a) d195_120 (lt_w1 rfl) sh263 rfl (by omega) ?_
  refine q_aload_n d195_121 rfl ?_
  refine q_getR (x := 262) d195_122 (fs10_13 195 rfl) rfl (lt_w1 rfl) sh260 (rs260_1 R) (by decide) ?_
  refine q_iload d195_125 rfl ?_
  refine q_iconst (v := 1) (by decide) d195_127 ?_
  refine q_zastore (a := a) d195_128 (Or.inr rfl) (lt_w1 rfl) sh262 rfl (by omega) ?_
  exact r_sub (L' := [some (.ref 260), some (.int (nI t)), some (.int (nI i)), some (.int (nI j)), some (.int (nI a)), some (.int (nI b)), some (.double x), none, some (.double y), none, some (.int g), some (.int k)]) ⟨rfl, rfl, rfl, rfl, rfl, rfl, rfl, rfl, rfl, rfl, trivial⟩ v1

set_option maxRecDepth 10000 in
set_option maxHeartbeats 4000000 in
theorem u195e {d : Nat} {I : Nat → Nat → Int32} {D : Nat → Nat → UInt64} {R : Nat → Nat → Option Nat} {Q : j_Po} {t : Nat} {i : Nat} {j : Nat} {a : Nat} {b : Nat} {x : UInt64} {y : UInt64} {g : Int32} {k : Int32} {l : Nat} (h18 : I 260 18 = nI l) (hd : 0 ≤ d)
    (v1 : j_W 195 d 0 0 0 0 139 [some (.ref 260), some (.int (nI t)), some (.int (nI i)), some (.int (nI j)), some (.int (nI a)), some (.int (nI b)), some (.double x), none, some (.double y), none, some (.int g), some (.int k)] [] w1 ((j_u I 260 18 (nI (l + 1))), D, RR R) Q) : j_W 195 d 0 0 0 0 129 [some (.ref 260), some (.int (nI t)), some (.int (nI i)), some (.int (nI j)), some (.int (nI a)), some (.int (nI b)), some (.double x), none, some (.double y), none, some (.int g), some (.int k)] [] w1 (I, D, RR R) Q := by
  refine q_aload_n d195_129 rfl ?_
  refine q_dup rfl d195_130 ?_
  refine q_getI d195_131 (fs10_247 195 rfl) rfl (lt_w1 rfl) sh260 ?_
  refine r_int (y := (nI l)) (show I 260 18 = (nI l) from h18) ?_
  refine q_iconst (v := 1) (by decide) d195_134 ?_
  refine q_iadd d195_135 ?_
  refine r_int (y := (nI (l + 1))) (nI_add l 1) ?_
  refine q_putI d195_136 (fs10_247 195 rfl) (Or.inl rfl) rfl (lt_w1 rfl) sh260 ?_
  exact r_sub (L' := [some (.ref 260), some (.int (nI t)), some (.int (nI i)), some (.int (nI j)), some (.int (nI a)), some (.int (nI b)), some (.double x), none, some (.double y), none, some (.int g), some (.int k)]) ⟨rfl, rfl, rfl, rfl, rfl, rfl, rfl, rfl, rfl, rfl, trivial⟩ v1

set_option maxRecDepth 10000 in
set_option maxHeartbeats 4000000 in
theorem u195f {d : Nat} {I : Nat → Nat → Int32} {D : Nat → Nat → UInt64} {R : Nat → Nat → Option Nat} {Q : j_Po} {t : Nat} {i : Nat} {j : Nat} {a : Nat} {b : Nat} {x : UInt64} {y : UInt64} {g : Int32} {k : Int32}  {AP : (Nat → Nat → Int32) → (Nat → Nat → UInt64) → Prop} (hA : ∀ (Q : j_Po), (∀ J E, AP J E → Q none w1 (J, E, RR R)) → j_Call (d - 1) 190 [.ref 260] w1 (I, D, RR R) 0 0 Q) (hd : 1 ≤ d)
    (v1 : ∀ J1 : Nat → Nat → Int32, ∀ E2 : Nat → Nat → UInt64, (AP J1 E2) → j_W 195 d 0 0 0 0 143 [some (.ref 260), some (.int (nI t)), some (.int (nI i)), some (.int (nI j)), some (.int (nI a)), some (.int (nI b)), some (.double x), none, some (.double y), none, some (.int g), some (.int k)] [] w1 (J1, E2, RR R) Q) : j_W 195 d 0 0 0 0 139 [some (.ref 260), some (.int (nI t)), some (.int (nI i)), some (.int (nI j)), some (.int (nI a)), some (.int (nI b)), some (.double x), none, some (.double y), none, some (.int g), some (.int k)] [] w1 (I, D, RR R) Q := by
  refine q_aload_n d195_139 rfl ?_
  refine q_invV (o := 260) (ci := 10) (av := []) (rest := []) (d' := (d - 1)) (mc' := 0) (ms' := 0) d195_140 (cv10_279 195 rfl) rfl (by decide) rfl rfl (by omega) (Nat.le_of_ble_eq_true rfl) (Nat.le_of_ble_eq_true rfl) (lt_w1 rfl) sh260 (Nat.le_refl _) (Nat.le_refl _) ?_
  refine hA _  (fun J1 E2 h3 => ?_)
  show j_W 195 d 0 0 0 0 143 [some (.ref 260), some (.int (nI t)), some (.int (nI i)), some (.int (nI j)), some (.int (nI a)), some (.int (nI b)), some (.double x), none, some (.double y), none, some (.int g), some (.int k)] [] w1 (J1, E2, RR R) Q
  exact r_sub (L' := [some (.ref 260), some (.int (nI t)), some (.int (nI i)), some (.int (nI j)), some (.int (nI a)), some (.int (nI b)), some (.double x), none, some (.double y), none, some (.int g), some (.int k)]) ⟨rfl, rfl, rfl, rfl, rfl, rfl, rfl, rfl, rfl, rfl, trivial⟩ (v1 J1 E2 h3)

set_option maxRecDepth 10000 in
set_option maxHeartbeats 4000000 in
theorem u195g {d : Nat} {I : Nat → Nat → Int32} {D : Nat → Nat → UInt64} {R : Nat → Nat → Option Nat} {Q : j_Po} {t : Nat} {i : Nat} {j : Nat} {a : Nat} {b : Nat} {x : UInt64} {y : UInt64} {g : Int32} {k : Int32} {o : Nat} {AP : (Nat → Nat → Int32) → (Nat → Nat → UInt64) → Prop} (ht : t < 6) (h316 : I 316 t = nI o) (hA : ∀ (Q : j_Po), (∀ J E, AP J E → Q none w1 (J, E, RR R)) → j_Call (d - 1) 191 [.ref 260, .int (nI o)] w1 (I, D, RR R) 0 0 Q) (hd : 1 ≤ d)
    (v1 : ∀ J1 : Nat → Nat → Int32, ∀ E2 : Nat → Nat → UInt64, (AP J1 E2) → j_W 195 d 0 0 0 0 153 [some (.ref 260), some (.int (nI t)), some (.int (nI i)), some (.int (nI j)), some (.int (nI a)), some (.int (nI b)), some (.double x), none, some (.double y), none, some (.int g), some (.int k)] [] w1 (J1, E2, RR R) Q) : j_W 195 d 0 0 0 0 143 [some (.ref 260), some (.int (nI t)), some (.int (nI i)), some (.int (nI j)), some (.int (nI a)), some (.int (nI b)), some (.double x), none, some (.double y), none, some (.int g), some (.int k)] [] w1 (I, D, RR R) Q := by
  refine q_aload_n d195_143 rfl ?_
  refine q_aload_n d195_144 rfl ?_
  refine q_getR (x := 316) d195_145 (fs10_37 195 rfl) rfl (lt_w1 rfl) sh260 (rs260_7 R) (by decide) ?_
  refine q_iload_n d195_148 rfl ?_
  refine q_iaload (a := t) d195_149 (lt_w1 rfl) sh316 rfl (by omega) ?_
  refine r_int (y := nI o) h316 ?_
  refine q_invV (o := 260) (ci := 10) (av := [.int (nI o)]) (rest := []) (d' := (d - 1)) (mc' := 0) (ms' := 0) d195_150 (cv10_258 195 rfl) rfl (by decide) rfl rfl (by omega) (Nat.le_of_ble_eq_true rfl) (Nat.le_of_ble_eq_true rfl) (lt_w1 rfl) sh260 (Nat.le_refl _) (Nat.le_refl _) ?_
  refine hA _  (fun J1 E2 h3 => ?_)
  show j_W 195 d 0 0 0 0 153 [some (.ref 260), some (.int (nI t)), some (.int (nI i)), some (.int (nI j)), some (.int (nI a)), some (.int (nI b)), some (.double x), none, some (.double y), none, some (.int g), some (.int k)] [] w1 (J1, E2, RR R) Q
  exact r_sub (L' := [some (.ref 260), some (.int (nI t)), some (.int (nI i)), some (.int (nI j)), some (.int (nI a)), some (.int (nI b)), some (.double x), none, some (.double y), none, some (.int g), some (.int k)]) ⟨rfl, rfl, rfl, rfl, rfl, rfl, rfl, rfl, rfl, rfl, trivial⟩ (v1 J1 E2 h3)

set_option maxRecDepth 10000 in
set_option maxHeartbeats 4000000 in
theorem u195h {d : Nat} {I : Nat → Nat → Int32} {D : Nat → Nat → UInt64} {R : Nat → Nat → Option Nat} {Q : j_Po} {t : Nat} {i : Nat} {j : Nat} {a : Nat} {b : Nat} {x : UInt64} {y : UInt64} {g : Int32} {k : Int32} {o l : Nat} (ht : t < 6) (h316 : I 316 t = nI o) (ho : o < 24) (h18 : I 260 18 = nI l) (hl : l < 7) (hd : 1 ≤ d)
    (v1 : j_W 195 d 0 0 0 0 213 [some (.ref 260), some (.int (nI t)), some (.int (nI i)), some (.int (nI j)), some (.int (nI a)), some (.int (nI b)), some (.double x), none, some (.double y), none, some (.int g), some (.int k)] [] w1 ((j_u (j_u I 260 31 (I (380 + l) o)) 260 32 ((j_u I 260 31 (I (380 + l) o)) (388 + l) o)), (j_u D 260 30 (D (372 + l) o)), RR R) Q) : j_W 195 d 0 0 0 0 153 [some (.ref 260), some (.int (nI t)), some (.int (nI i)), some (.int (nI j)), some (.int (nI a)), some (.int (nI b)), some (.double x), none, some (.double y), none, some (.int g), some (.int k)] [] w1 (I, D, RR R) Q := by
  refine q_aload_n d195_153 rfl ?_
  refine q_aload_n d195_154 rfl ?_
  refine q_getR (x := 371) d195_155 (fs10_75 195 rfl) rfl (lt_w1 rfl) sh260 (rs260_20 R) (by decide) ?_
  refine q_aload_n d195_158 rfl ?_
  refine q_getI d195_159 (fs10_247 195 rfl) rfl (lt_w1 rfl) sh260 ?_
  refine r_int (y := (nI l)) (show I 260 18 = (nI l) from h18) ?_
  refine q_aaload (c := 3) (a := l) (x := (372 + l)) d195_162 (lt_w1 rfl) sh371 (by decide) rfl (by omega) (rm371 R (by omega)) (lt1000 (lm371 (by omega))) ?_
  refine q_aload_n d195_163 rfl ?_
  refine q_getR (x := 316) d195_164 (fs10_37 195 rfl) rfl (lt_w1 rfl) sh260 (rs260_7 R) (by decide) ?_
  refine q_iload_n d195_167 rfl ?_
  refine q_iaload (a := t) d195_168 (lt_w1 rfl) sh316 rfl (by omega) ?_
  refine r_int (y := nI o) h316 ?_
  refine q_daload (a := o) d195_169 (lm371 (by omega)) (sm371 (by omega)) rfl (by omega) ?_
  refine q_putD d195_170 (fs10_282 195 rfl) (Or.inl rfl) rfl (lt_w1 rfl) sh260 ?_
  refine q_aload_n d195_173 rfl ?_
  refine q_aload_n d195_174 rfl ?_
  refine q_getR (x := 379) d195_175 (fs10_78 195 rfl) rfl (lt_w1 rfl) sh260 (rs260_21 R) (by decide) ?_
  refine q_aload_n d195_178 rfl ?_
  refine q_getI d195_179 (fs10_247 195 rfl) rfl (lt_w1 rfl) sh260 ?_
  refine r_int (y := (nI l)) (show I 260 18 = (nI l) from h18) ?_
  refine q_aaload (c := 4) (a := l) (x := (380 + l)) d195_182 (lt_w1 rfl) sh379 (by decide) rfl (by omega) (rm379 R (by omega)) (lt1000 (lm379 (by omega))) ?_
  refine q_aload_n d195_183 rfl ?_
  refine q_getR (x := 316) d195_184 (fs10_37 195 rfl) rfl (lt_w1 rfl) sh260 (rs260_7 R) (by decide) ?_
  refine q_iload_n d195_187 rfl ?_
  refine q_iaload (a := t) d195_188 (lt_w1 rfl) sh316 rfl (by omega) ?_
  refine r_int (y := nI o) h316 ?_
  refine q_iaload (a := o) d195_189 (lm379 (by omega)) (sm379 (by omega)) rfl (by omega) ?_
  refine q_putI d195_190 (fs10_286 195 rfl) (Or.inl rfl) rfl (lt_w1 rfl) sh260 ?_
  refine q_aload_n d195_193 rfl ?_
  refine q_aload_n d195_194 rfl ?_
  refine q_getR (x := 387) d195_195 (fs10_81 195 rfl) rfl (lt_w1 rfl) sh260 (rs260_22 R) (by decide) ?_
  refine q_aload_n d195_198 rfl ?_
  refine q_getI d195_199 (fs10_247 195 rfl) rfl (lt_w1 rfl) sh260 ?_
  refine r_int (y := (nI l)) (show (j_u I 260 31 (I (380 + l) o)) 260 18 = (nI l) from ((j_u_k _ _ (by decide)).trans h18)) ?_
  refine q_aaload (c := 4) (a := l) (x := (388 + l)) d195_202 (lt_w1 rfl) sh387 (by decide) rfl (by omega) (rm387 R (by omega)) (lt1000 (lm387 (by omega))) ?_
  refine q_aload_n d195_203 rfl ?_
  refine q_getR (x := 316) d195_204 (fs10_37 195 rfl) rfl (lt_w1 rfl) sh260 (rs260_7 R) (by decide) ?_
  refine q_iload_n d195_207 rfl ?_
  refine q_iaload (a := t) d195_208 (lt_w1 rfl) sh316 rfl (by omega) ?_
  refine r_int (y := (I 316 t)) (show (j_u I 260 31 (I (380 + l) o)) 316 t = (I 316 t) from (j_u_o _ _ _ (by decide))) ?_
  refine r_int (y := nI o) h316 ?_
  refine q_iaload (a := o) d195_209 (lm387 (by omega)) (sm387 (by omega)) rfl (by omega) ?_
  refine q_putI d195_210 (fs10_289 195 rfl) (Or.inl rfl) rfl (lt_w1 rfl) sh260 ?_
  exact r_sub (L' := [some (.ref 260), some (.int (nI t)), some (.int (nI i)), some (.int (nI j)), some (.int (nI a)), some (.int (nI b)), some (.double x), none, some (.double y), none, some (.int g), some (.int k)]) ⟨rfl, rfl, rfl, rfl, rfl, rfl, rfl, rfl, rfl, rfl, trivial⟩ v1

set_option maxRecDepth 10000 in
set_option maxHeartbeats 4000000 in
theorem u195i {d : Nat} {I : Nat → Nat → Int32} {D : Nat → Nat → UInt64} {R : Nat → Nat → Option Nat} {Q : j_Po} {t : Nat} {i : Nat} {j : Nat} {a : Nat} {b : Nat} {x : UInt64} {y : UInt64} {g : Int32} {k : Int32} {l : Nat} (h18 : I 260 18 = nI l) (hl : l < 7) (hl1 : 1 ≤ l) (hd : 1 ≤ d)
    (v1 : j_W 195 d 0 0 0 0 223 [some (.ref 260), some (.int (nI t)), some (.int (nI i)), some (.int (nI j)), some (.int (nI a)), some (.int (nI b)), some (.double x), none, some (.double y), none, some (.int g), some (.int k)] [] w1 ((j_u I 260 18 (nI (l - 1))), D, RR R) Q) : j_W 195 d 0 0 0 0 213 [some (.ref 260), some (.int (nI t)), some (.int (nI i)), some (.int (nI j)), some (.int (nI a)), some (.int (nI b)), some (.double x), none, some (.double y), none, some (.int g), some (.int k)] [] w1 (I, D, RR R) Q := by
  refine q_aload_n d195_213 rfl ?_
  refine q_dup rfl d195_214 ?_
  refine q_getI d195_215 (fs10_247 195 rfl) rfl (lt_w1 rfl) sh260 ?_
  refine r_int (y := (nI l)) (show I 260 18 = (nI l) from h18) ?_
  refine q_iconst (v := 1) (by decide) d195_218 ?_
  refine q_isub d195_219 ?_
  refine r_int (y := (nI (l - 1))) (pk_sub (b := 1) (by omega)) ?_
  refine q_putI d195_220 (fs10_247 195 rfl) (Or.inl rfl) rfl (lt_w1 rfl) sh260 ?_
  exact r_sub (L' := [some (.ref 260), some (.int (nI t)), some (.int (nI i)), some (.int (nI j)), some (.int (nI a)), some (.int (nI b)), some (.double x), none, some (.double y), none, some (.int g), some (.int k)]) ⟨rfl, rfl, rfl, rfl, rfl, rfl, rfl, rfl, rfl, rfl, trivial⟩ v1

set_option maxRecDepth 10000 in
set_option maxHeartbeats 4000000 in
theorem u195j {d : Nat} {I : Nat → Nat → Int32} {D : Nat → Nat → UInt64} {R : Nat → Nat → Option Nat} {Q : j_Po} {t : Nat} {i : Nat} {j : Nat} {a : Nat} {b : Nat} {x : UInt64} {y : UInt64} {g : Int32} {k : Int32}  (ha : a < 24) (hb : b < 24) (hd : 1 ≤ d)
    (v1 : k = 0 ∨ k = 1)
    (v2 : g = 0 ∨ g = 1)
    (v3 : Q none w1 ((j_u (j_u I 262 b k) 262 a g), (j_u (j_u D 263 b y) 263 a x), RR R)) : j_W 195 d 0 0 0 0 223 [some (.ref 260), some (.int (nI t)), some (.int (nI i)), some (.int (nI j)), some (.int (nI a)), some (.int (nI b)), some (.double x), none, some (.double y), none, some (.int g), some (.int k)] [] w1 (I, D, RR R) Q := by
  refine q_aload_n d195_223 rfl ?_
  refine q_getR (x := 263) d195_224 (fs10_17 195 rfl) rfl (lt_w1 rfl) sh260 (rs260_2 R) (by decide) ?_
  refine q_iload d195_227 rfl ?_
  refine q_dload d195_229 rfl ?_
  refine q_dastore (a := b) d195_231 (lt_w1 rfl) sh263 rfl (by omega) ?_
  refine q_aload_n d195_232 rfl ?_
  refine q_getR (x := 262) d195_233 (fs10_13 195 rfl) rfl (lt_w1 rfl) sh260 (rs260_1 R) (by decide) ?_
  refine q_iload d195_236 rfl ?_
  refine q_iload d195_238 rfl ?_
  refine q_zastore (a := b) d195_240 v1 (lt_w1 rfl) sh262 rfl (by omega) ?_
  refine q_aload_n d195_241 rfl ?_
  refine q_getR (x := 263) d195_242 (fs10_17 195 rfl) rfl (lt_w1 rfl) sh260 (rs260_2 R) (by decide) ?_
  refine q_iload d195_245 rfl ?_
  refine q_dload d195_247 rfl ?_
  refine q_dastore (a := a) d195_249 (lt_w1 rfl) sh263 rfl (by omega) ?_
  refine q_aload_n d195_250 rfl ?_
  refine q_getR (x := 262) d195_251 (fs10_13 195 rfl) rfl (lt_w1 rfl) sh260 (rs260_1 R) (by decide) ?_
  refine q_iload d195_254 rfl ?_
  refine q_iload d195_256 rfl ?_
  refine q_zastore (a := a) d195_258 v2 (lt_w1 rfl) sh262 rfl (by omega) ?_
  exact q_ret d195_259 rfl (Nat.le_refl _) (Nat.le_refl _) v3

set_option maxRecDepth 10000 in
set_option maxHeartbeats 4000000 in
theorem u194e {d : Nat} {I : Nat → Nat → Int32} {D : Nat → Nat → UInt64} {R : Nat → Nat → Option Nat} {Q : j_Po} {t : Nat} {l : Nat} (h18 : I 260 18 = nI l) (hl : l < 7) (ht : t < 6) (hd : 0 ≤ d)
    (v1 : ((I (396 + l) t) = 0) → j_W 194 d 0 0 0 0 32 [some (.ref 260), some (.int (nI t)), some (.double FP.dconst0), none, some (.int 0), some (.double FP.dconst0), none, some (.double FP.dconst0), none, some (.int 0), some (.int 0), none, none, none] [] w1 (I, D, RR R) Q)
    (v2 : (¬ (I (396 + l) t) = 0) → Q none w1 (I, D, RR R)) : j_Call d 194 [.ref 260, .int (nI t)] w1 (I, D, RR R) 0 0 Q := by
  refine q_enter (L := [some (.ref 260), some (.int (nI t)), none, none, none, none, none, none, none, none, none, none, none, none]) j_m194 (Nat.le_of_ble_eq_true rfl) rfl ?_
  refine q_aload_n d194_0 rfl ?_
  refine q_getR (x := 395) d194_1 (fs10_84 194 rfl) rfl (lt_w1 rfl) sh260 (rs260_23 R) (by decide) ?_
  refine q_aload_n d194_4 rfl ?_
  refine q_getI d194_5 (fs10_247 194 rfl) rfl (lt_w1 rfl) sh260 ?_
  refine r_int (y := (nI l)) (show I 260 18 = (nI l) from h18) ?_
  refine q_aaload (c := 5) (a := l) (x := (396 + l)) d194_8 (lt_w1 rfl) sh395 (by decide) rfl (by omega) (rm395 R (by omega)) (lt1000 (lm395 (by omega))) ?_
  refine q_iload_n d194_9 rfl ?_
  refine q_zaload (a := t) d194_10 (lm395 (by omega)) (sm395 (by omega)) rfl (by omega) ?_
  refine q_if_eq (tgt := 15) d194_11 rfl (fun h1t => ?_) (fun h1f => ?_)
  ·
    refine q_dconst0 d194_15 ?_
    refine q_dstore_n (L' := [some (.ref 260), some (.int (nI t)), some (.double FP.dconst0), none, none, none, none, none, none, none, none, none, none, none]) d194_16 (Nat.le_of_ble_eq_true rfl) rfl ?_
    refine q_iconst (v := 0) (by decide) d194_17 ?_
    refine q_istore (L' := [some (.ref 260), some (.int (nI t)), some (.double FP.dconst0), none, some (.int 0), none, none, none, none, none, none, none, none, none]) d194_18 (Nat.le_of_ble_eq_true rfl) rfl ?_
    refine q_dconst0 d194_20 ?_
    refine q_dstore (L' := [some (.ref 260), some (.int (nI t)), some (.double FP.dconst0), none, some (.int 0), some (.double FP.dconst0), none, none, none, none, none, none, none, none]) d194_21 (Nat.le_of_ble_eq_true rfl) rfl ?_
    refine q_dconst0 d194_23 ?_
    refine q_dstore (L' := [some (.ref 260), some (.int (nI t)), some (.double FP.dconst0), none, some (.int 0), some (.double FP.dconst0), none, some (.double FP.dconst0), none, none, none, none, none, none]) d194_24 (Nat.le_of_ble_eq_true rfl) rfl ?_
    refine q_iconst (v := 0) (by decide) d194_26 ?_
    refine q_istore (L' := [some (.ref 260), some (.int (nI t)), some (.double FP.dconst0), none, some (.int 0), some (.double FP.dconst0), none, some (.double FP.dconst0), none, some (.int 0), none, none, none, none]) d194_27 (Nat.le_of_ble_eq_true rfl) rfl ?_
    refine q_iconst (v := 0) (by decide) d194_29 ?_
    refine q_istore (L' := [some (.ref 260), some (.int (nI t)), some (.double FP.dconst0), none, some (.int 0), some (.double FP.dconst0), none, some (.double FP.dconst0), none, some (.int 0), some (.int 0), none, none, none]) d194_30 (Nat.le_of_ble_eq_true rfl) rfl ?_
    exact r_sub (L' := [some (.ref 260), some (.int (nI t)), some (.double FP.dconst0), none, some (.int 0), some (.double FP.dconst0), none, some (.double FP.dconst0), none, some (.int 0), some (.int 0), none, none, none]) ⟨rfl, rfl, rfl, rfl, rfl, rfl, rfl, rfl, trivial⟩ (v1 h1t)
  ·
    exact q_ret d194_14 rfl (Nat.le_refl _) (Nat.le_refl _) (v2 h1f)

set_option maxRecDepth 10000 in
set_option maxHeartbeats 4000000 in
theorem u194f {d : Nat} {I : Nat → Nat → Int32} {D : Nat → Nat → UInt64} {R : Nat → Nat → Option Nat} {Q : j_Po} {t : Nat} {x : UInt64} {y : UInt64} {z : UInt64}  (ht : t < 6) (hd : 0 ≤ d)
    (v1 : (¬ (I 318 t) = (-1)) → j_W 194 d 0 0 0 0 61 [some (.ref 260), some (.int (nI t)), some (.double x), none, some (.int 0), some (.double y), none, some (.double z), none, some (.int 0), some (.int 0), some (.int (I 319 ((2 * t) + 1))), some (.int 0), none] [] w1 (I, D, RR R) Q)
    (v2 : ((I 318 t) = (-1)) → j_W 194 d 0 0 0 0 61 [some (.ref 260), some (.int (nI t)), some (.double x), none, some (.int 0), some (.double y), none, some (.double z), none, some (.int 0), some (.int 0), some (.int 1), some (.int 0), none] [] w1 (I, D, RR R) Q) : j_W 194 d 0 0 0 0 32 [some (.ref 260), some (.int (nI t)), some (.double x), none, some (.int 0), some (.double y), none, some (.double z), none, some (.int 0), some (.int 0), none, none, none] [] w1 (I, D, RR R) Q := by
  refine q_aload_n d194_32 rfl ?_
  refine q_getR (x := 318) d194_33 (fs10_43 194 rfl) rfl (lt_w1 rfl) sh260 (rs260_9 R) (by decide) ?_
  refine q_iload_n d194_36 rfl ?_
  refine q_iaload (a := t) d194_37 (lt_w1 rfl) sh318 rfl (by omega) ?_
  refine q_iconst (v := (-1)) (by decide) d194_38 ?_
  refine q_icmp_ne (tgt := 46) d194_39 rfl (fun h1t => ?_) (fun h1f => ?_)
  ·
    refine q_aload_n d194_46 rfl ?_
    refine q_getR (x := 319) d194_47 (fs10_46 194 rfl) rfl (lt_w1 rfl) sh260 (rs260_10 R) (by decide) ?_
    refine q_iconst (v := 2) (by decide) d194_50 ?_
    refine q_iload_n d194_51 rfl ?_
    refine q_imul d194_52 ?_
    refine r_int (y := (nI (2 * t))) (pk_mul 2 t) ?_
    refine q_iconst (v := 1) (by decide) d194_53 ?_
    refine q_iadd d194_54 ?_
    refine r_int (y := (nI ((2 * t) + 1))) (nI_add (2 * t) 1) ?_
    refine q_iaload (a := ((2 * t) + 1)) d194_55 (lt_w1 rfl) sh319 rfl (by omega) ?_
    refine q_istore (L' := [some (.ref 260), some (.int (nI t)), some (.double x), none, some (.int 0), some (.double y), none, some (.double z), none, some (.int 0), some (.int 0), some (.int (I 319 ((2 * t) + 1))), none, none]) d194_56 (Nat.le_of_ble_eq_true rfl) rfl ?_
    refine q_iconst (v := 0) (by decide) d194_58 ?_
    refine q_istore (L' := [some (.ref 260), some (.int (nI t)), some (.double x), none, some (.int 0), some (.double y), none, some (.double z), none, some (.int 0), some (.int 0), some (.int (I 319 ((2 * t) + 1))), some (.int 0), none]) d194_59 (Nat.le_of_ble_eq_true rfl) rfl ?_
    exact r_sub (L' := [some (.ref 260), some (.int (nI t)), some (.double x), none, some (.int 0), some (.double y), none, some (.double z), none, some (.int 0), some (.int 0), some (.int (I 319 ((2 * t) + 1))), some (.int 0), none]) ⟨rfl, rfl, rfl, rfl, rfl, rfl, rfl, rfl, rfl, rfl, trivial⟩ (v1 h1t)
  ·
    refine q_iconst (v := 1) (by decide) d194_42 ?_
    refine q_goto (tgt := 56) d194_43 rfl ?_
    refine q_istore (L' := [some (.ref 260), some (.int (nI t)), some (.double x), none, some (.int 0), some (.double y), none, some (.double z), none, some (.int 0), some (.int 0), some (.int 1), none, none]) d194_56 (Nat.le_of_ble_eq_true rfl) rfl ?_
    refine q_iconst (v := 0) (by decide) d194_58 ?_
    refine q_istore (L' := [some (.ref 260), some (.int (nI t)), some (.double x), none, some (.int 0), some (.double y), none, some (.double z), none, some (.int 0), some (.int 0), some (.int 1), some (.int 0), none]) d194_59 (Nat.le_of_ble_eq_true rfl) rfl ?_
    exact r_sub (L' := [some (.ref 260), some (.int (nI t)), some (.double x), none, some (.int 0), some (.double y), none, some (.double z), none, some (.int 0), some (.int 0), some (.int 1), some (.int 0), none]) ⟨rfl, rfl, rfl, rfl, rfl, rfl, rfl, rfl, rfl, rfl, trivial⟩ (v2 h1f)

set_option maxRecDepth 10000 in
set_option maxHeartbeats 4000000 in
theorem u194h {d : Nat} {I : Nat → Nat → Int32} {D : Nat → Nat → UInt64} {R : Nat → Nat → Option Nat} {Q : j_Po} {t : Nat} {x : UInt64} {y : UInt64} {z : UInt64} {n : Nat} {f : Nat} {q : Nat} {i : Nat} {eb : Bool} {p : Nat} (ht : t < 6) (h319 : I 319 (2 * t) = nI p) (hi : i ≤ 8) (hp : p ≤ 8) (hd : 0 ≤ d)
    (v1 : (p ≤ i) → j_W 194 d 0 0 0 0 206 [some (.ref 260), some (.int (nI t)), some (.double x), none, some (.int (bi eb)), some (.double y), none, some (.double z), none, some (.int (nI n)), some (.int (nI f)), some (.int (nI q)), none, none] [] w1 (I, D, RR R) Q)
    (v2 : (¬ p ≤ i) → j_W 194 d 0 0 0 0 77 [some (.ref 260), some (.int (nI t)), some (.double x), none, some (.int (bi eb)), some (.double y), none, some (.double z), none, some (.int (nI n)), some (.int (nI f)), some (.int (nI q)), some (.int (nI i)), some (.int 0)] [] w1 (I, D, RR R) Q) : j_W 194 d 0 0 0 0 61 [some (.ref 260), some (.int (nI t)), some (.double x), none, some (.int (bi eb)), some (.double y), none, some (.double z), none, some (.int (nI n)), some (.int (nI f)), some (.int (nI q)), some (.int (nI i)), none] [] w1 (I, D, RR R) Q := by
  refine q_iload d194_61 rfl ?_
  refine q_aload_n d194_63 rfl ?_
  refine q_getR (x := 319) d194_64 (fs10_46 194 rfl) rfl (lt_w1 rfl) sh260 (rs260_10 R) (by decide) ?_
  refine q_iconst (v := 2) (by decide) d194_67 ?_
  refine q_iload_n d194_68 rfl ?_
  refine q_imul d194_69 ?_
  refine r_int (y := (nI (2 * t))) (pk_mul 2 t) ?_
  refine q_iaload (a := (2 * t)) d194_70 (lt_w1 rfl) sh319 rfl (by omega) ?_
  refine r_int (y := nI p) h319 ?_
  refine q_icmp_ge (tgt := 206) d194_71 rfl (fun h1t => ?_) (fun h1f => ?_)
  ·
    have h1tc : p ≤ i := (nI_leI (by omega) (by omega)).mp h1t
    exact r_sub (L' := [some (.ref 260), some (.int (nI t)), some (.double x), none, some (.int (bi eb)), some (.double y), none, some (.double z), none, some (.int (nI n)), some (.int (nI f)), some (.int (nI q)), none, none]) ⟨rfl, rfl, rfl, rfl, rfl, rfl, rfl, rfl, rfl, trivial⟩ (v1 h1tc)
  ·
    have h1fc : ¬ p ≤ i := mt (nI_leI (by omega) (by omega)).mpr h1f
    refine q_iconst (v := 0) (by decide) d194_74 ?_
    refine q_istore (L' := [some (.ref 260), some (.int (nI t)), some (.double x), none, some (.int (bi eb)), some (.double y), none, some (.double z), none, some (.int (nI n)), some (.int (nI f)), some (.int (nI q)), some (.int (nI i)), some (.int 0)]) d194_75 (Nat.le_of_ble_eq_true rfl) rfl ?_
    exact r_sub (L' := [some (.ref 260), some (.int (nI t)), some (.double x), none, some (.int (bi eb)), some (.double y), none, some (.double z), none, some (.int (nI n)), some (.int (nI f)), some (.int (nI q)), some (.int (nI i)), some (.int 0)]) ⟨rfl, rfl, rfl, rfl, rfl, rfl, rfl, rfl, rfl, rfl, rfl, trivial⟩ (v2 h1fc)

set_option maxRecDepth 10000 in
set_option maxHeartbeats 4000000 in
theorem u194i {d : Nat} {I : Nat → Nat → Int32} {D : Nat → Nat → UInt64} {R : Nat → Nat → Option Nat} {Q : j_Po} {t : Nat} {x : UInt64} {y : UInt64} {z : UInt64} {n : Nat} {f : Nat} {q : Nat} {i : Nat} {j : Nat} {eb : Bool} (hj : j ≤ 8) (hq : q ≤ 8) (hd : 0 ≤ d)
    (v1 : (q ≤ j) → j_W 194 d 0 0 0 0 200 [some (.ref 260), some (.int (nI t)), some (.double x), none, some (.int (bi eb)), some (.double y), none, some (.double z), none, some (.int (nI n)), some (.int (nI f)), some (.int (nI q)), some (.int (nI i)), none] [] w1 (I, D, RR R) Q)
    (v2 : (¬ q ≤ j) → j_W 194 d 0 0 0 0 84 [some (.ref 260), some (.int (nI t)), some (.double x), none, some (.int (bi eb)), some (.double y), none, some (.double z), none, some (.int (nI n)), some (.int (nI f)), some (.int (nI q)), some (.int (nI i)), some (.int (nI j))] [] w1 (I, D, RR R) Q) : j_W 194 d 0 0 0 0 77 [some (.ref 260), some (.int (nI t)), some (.double x), none, some (.int (bi eb)), some (.double y), none, some (.double z), none, some (.int (nI n)), some (.int (nI f)), some (.int (nI q)), some (.int (nI i)), some (.int (nI j))] [] w1 (I, D, RR R) Q := by
  refine q_iload d194_77 rfl ?_
  refine q_iload d194_79 rfl ?_
  refine q_icmp_ge (tgt := 200) d194_81 rfl (fun h1t => ?_) (fun h1f => ?_)
  ·
    have h1tc : q ≤ j := (nI_leI (by omega) (by omega)).mp h1t
    exact r_sub (L' := [some (.ref 260), some (.int (nI t)), some (.double x), none, some (.int (bi eb)), some (.double y), none, some (.double z), none, some (.int (nI n)), some (.int (nI f)), some (.int (nI q)), some (.int (nI i)), none]) ⟨rfl, rfl, rfl, rfl, rfl, rfl, rfl, rfl, rfl, rfl, trivial⟩ (v1 h1tc)
  ·
    have h1fc : ¬ q ≤ j := mt (nI_leI (by omega) (by omega)).mpr h1f
    exact r_sub (L' := [some (.ref 260), some (.int (nI t)), some (.double x), none, some (.int (bi eb)), some (.double y), none, some (.double z), none, some (.int (nI n)), some (.int (nI f)), some (.int (nI q)), some (.int (nI i)), some (.int (nI j))]) ⟨rfl, rfl, rfl, rfl, rfl, rfl, rfl, rfl, rfl, rfl, rfl, trivial⟩ (v2 h1fc)

set_option maxRecDepth 10000 in
set_option maxHeartbeats 4000000 in
theorem u194c {d : Nat} {I : Nat → Nat → Int32} {D : Nat → Nat → UInt64} {R : Nat → Nat → Option Nat} {Q : j_Po} {t : Nat} {x : UInt64} {y : UInt64} {z : UInt64} {n : Nat} {f : Nat} {q : Nat} {i : Nat} {j : Nat} {eb : Bool} {AP : (Nat → Nat → Int32) → (Nat → Nat → UInt64) → Prop} (hA : ∀ (Q : j_Po), (∀ J E, AP J E → Q none w1 (J, E, RR R)) → j_Call (d - 1) 195 [.ref 260, .int (nI t), .int (nI i), .int (nI j)] w1 (I, D, RR R) 0 0 Q) (hd : 1 ≤ d)
    (v1 : ∀ J1 : Nat → Nat → Int32, ∀ E2 : Nat → Nat → UInt64, (AP J1 E2) → j_W 194 d 0 0 0 0 93 [some (.ref 260), some (.int (nI t)), some (.double x), none, some (.int (bi eb)), some (.double y), none, some (.double z), none, some (.int (nI n)), some (.int (nI f)), some (.int (nI q)), some (.int (nI i)), some (.int (nI j))] [] w1 (J1, E2, RR R) Q) : j_W 194 d 0 0 0 0 84 [some (.ref 260), some (.int (nI t)), some (.double x), none, some (.int (bi eb)), some (.double y), none, some (.double z), none, some (.int (nI n)), some (.int (nI f)), some (.int (nI q)), some (.int (nI i)), some (.int (nI j))] [] w1 (I, D, RR R) Q := by
  refine q_aload_n d194_84 rfl ?_
  refine q_iload_n d194_85 rfl ?_
  refine q_iload d194_86 rfl ?_
  refine q_iload d194_88 rfl ?_
  refine q_invV (o := 260) (ci := 10) (av := [.int (nI t), .int (nI i), .int (nI j)]) (rest := []) (d' := (d - 1)) (mc' := 0) (ms' := 0) d194_90 (cv10_292 194 rfl) rfl (by decide) rfl rfl (by omega) (Nat.le_of_ble_eq_true rfl) (Nat.le_of_ble_eq_true rfl) (lt_w1 rfl) sh260 (Nat.le_refl _) (Nat.le_refl _) ?_
  refine hA _  (fun J1 E2 h3 => ?_)
  show j_W 194 d 0 0 0 0 93 [some (.ref 260), some (.int (nI t)), some (.double x), none, some (.int (bi eb)), some (.double y), none, some (.double z), none, some (.int (nI n)), some (.int (nI f)), some (.int (nI q)), some (.int (nI i)), some (.int (nI j))] [] w1 (J1, E2, RR R) Q
  exact r_sub (L' := [some (.ref 260), some (.int (nI t)), some (.double x), none, some (.int (bi eb)), some (.double y), none, some (.double z), none, some (.int (nI n)), some (.int (nI f)), some (.int (nI q)), some (.int (nI i)), some (.int (nI j))]) ⟨rfl, rfl, rfl, rfl, rfl, rfl, rfl, rfl, rfl, rfl, rfl, trivial⟩ (v1 J1 E2 h3)

set_option maxRecDepth 10000 in
set_option maxHeartbeats 4000000 in
theorem u194d {d : Nat} {I : Nat → Nat → Int32} {D : Nat → Nat → UInt64} {R : Nat → Nat → Option Nat} {Q : j_Po} {t : Nat} {x : UInt64} {y : UInt64} {z : UInt64} {n : Nat} {f : Nat} {q : Nat} {i : Nat} {j : Nat} {eb : Bool} (hf : f < 64) (hd : 1 ≤ d)
    (v1 : ((I 260 31) = 0) → vf_n64 (FP.dadd x (D 260 30)))
    (v2 : ((I 260 31) = 0) → (dgt (FP.dadd x (D 260 30)) 4786511204640096256 = true) → j_W 194 d 0 0 0 0 139 [some (.ref 260), some (.int (nI t)), some (.double (FP.dadd x (D 260 30))), none, some (.int ((bi eb) ||| 1)), some (.double y), none, some (.double z), none, some (.int (nI n)), some (.int (nI f)), some (.int (nI q)), some (.int (nI i)), some (.int (nI j))] [] w1 (I, D, RR R) Q)
    (v3 : ((I 260 31) = 0) → (dgt (FP.dadd x (D 260 30)) 4786511204640096256 = false) → (dlt (FP.dadd x (D 260 30)) 14009883241494872064 = false) → j_W 194 d 0 0 0 0 139 [some (.ref 260), some (.int (nI t)), some (.double (FP.dadd x (D 260 30))), none, some (.int ((bi eb) ||| 0)), some (.double y), none, some (.double z), none, some (.int (nI n)), some (.int (nI f)), some (.int (nI q)), some (.int (nI i)), some (.int (nI j))] [] w1 (I, D, RR R) Q)
    (v4 : ((I 260 31) = 0) → (dgt (FP.dadd x (D 260 30)) 4786511204640096256 = false) → (dlt (FP.dadd x (D 260 30)) 14009883241494872064 = true) → j_W 194 d 0 0 0 0 139 [some (.ref 260), some (.int (nI t)), some (.double (FP.dadd x (D 260 30))), none, some (.int ((bi eb) ||| 1)), some (.double y), none, some (.double z), none, some (.int (nI n)), some (.int (nI f)), some (.int (nI q)), some (.int (nI i)), some (.int (nI j))] [] w1 (I, D, RR R) Q)
    (v5 : (¬ (I 260 31) = 0) → j_W 194 d 0 0 0 0 194 [some (.ref 260), some (.int (nI t)), some (.double x), none, some (.int (bi eb)), some (.double y), none, some (.double z), none, some (.int (nI n)), some (.int (nI (f + 1))), some (.int (nI q)), some (.int (nI i)), some (.int (nI j))] [] w1 (I, D, RR R) Q) : j_W 194 d 0 0 0 0 93 [some (.ref 260), some (.int (nI t)), some (.double x), none, some (.int (bi eb)), some (.double y), none, some (.double z), none, some (.int (nI n)), some (.int (nI f)), some (.int (nI q)), some (.int (nI i)), some (.int (nI j))] [] w1 (I, D, RR R) Q := by
  refine q_aload_n d194_93 rfl ?_
  refine q_getI d194_94 (fs10_286 194 rfl) rfl (lt_w1 rfl) sh260 ?_
  refine q_if_eq (tgt := 106) d194_97 rfl (fun h1t => ?_) (fun h1f => ?_)
  ·
    refine q_dload_n d194_106 rfl ?_
    refine q_aload_n d194_107 rfl ?_
    refine q_getD d194_108 (fs10_282 194 rfl) rfl (lt_w1 rfl) sh260 ?_
    refine q_dadd (v1 h1t) d194_111 ?_
    refine q_dstore_n (L' := [some (.ref 260), some (.int (nI t)), some (.double (FP.dadd x (D 260 30))), none, some (.int (bi eb)), some (.double y), none, some (.double z), none, some (.int (nI n)), some (.int (nI f)), some (.int (nI q)), some (.int (nI i)), some (.int (nI j))]) d194_112 (Nat.le_of_ble_eq_true rfl) rfl ?_
    refine q_iload d194_113 rfl ?_
    refine q_dload_n d194_115 rfl ?_
    refine q_ldcD (v := 4786511204640096256) d194_116 (kc10_275 194 rfl) ?_
    refine q_dcmp d194_119 ?_
    refine q_if_gt (tgt := 131) d194_120 rfl (fun h2t => ?_) (fun h2f => ?_)
    ·
      have h2tc : dgt (FP.dadd x (D 260 30)) 4786511204640096256 = true := dc_l_gt_t h2t
      refine q_iconst (v := 1) (by decide) d194_131 ?_
      refine q_goto (tgt := 136) d194_132 rfl ?_
      refine q_ior d194_136 ?_
      refine q_istore (L' := [some (.ref 260), some (.int (nI t)), some (.double (FP.dadd x (D 260 30))), none, some (.int ((bi eb) ||| 1)), some (.double y), none, some (.double z), none, some (.int (nI n)), some (.int (nI f)), some (.int (nI q)), some (.int (nI i)), some (.int (nI j))]) d194_137 (Nat.le_of_ble_eq_true rfl) rfl ?_
      exact r_sub (L' := [some (.ref 260), some (.int (nI t)), some (.double (FP.dadd x (D 260 30))), none, some (.int ((bi eb) ||| 1)), some (.double y), none, some (.double z), none, some (.int (nI n)), some (.int (nI f)), some (.int (nI q)), some (.int (nI i)), some (.int (nI j))]) ⟨rfl, rfl, rfl, rfl, rfl, rfl, rfl, rfl, rfl, rfl, rfl, trivial⟩ (v2 h1t h2tc)
    ·
      have h2fc : dgt (FP.dadd x (D 260 30)) 4786511204640096256 = false := dc_l_gt_f h2f
      refine q_dload_n d194_123 rfl ?_
      refine q_ldcD (v := 14009883241494872064) d194_124 (kc10_277 194 rfl) ?_
      refine q_dcmp d194_127 ?_
      refine q_if_ge (tgt := 135) d194_128 rfl (fun h3t => ?_) (fun h3f => ?_)
      ·
        have h3tc : dlt (FP.dadd x (D 260 30)) 14009883241494872064 = false := dc_g_ge_t h3t
        refine q_iconst (v := 0) (by decide) d194_135 ?_
        refine q_ior d194_136 ?_
        refine q_istore (L' := [some (.ref 260), some (.int (nI t)), some (.double (FP.dadd x (D 260 30))), none, some (.int ((bi eb) ||| 0)), some (.double y), none, some (.double z), none, some (.int (nI n)), some (.int (nI f)), some (.int (nI q)), some (.int (nI i)), some (.int (nI j))]) d194_137 (Nat.le_of_ble_eq_true rfl) rfl ?_
        exact r_sub (L' := [some (.ref 260), some (.int (nI t)), some (.double (FP.dadd x (D 260 30))), none, some (.int ((bi eb) ||| 0)), some (.double y), none, some (.double z), none, some (.int (nI n)), some (.int (nI f)), some (.int (nI q)), some (.int (nI i)), some (.int (nI j))]) ⟨rfl, rfl, rfl, rfl, rfl, rfl, rfl, rfl, rfl, rfl, rfl, trivial⟩ (v3 h1t h2fc h3tc)
      ·
        have h3fc : dlt (FP.dadd x (D 260 30)) 14009883241494872064 = true := dc_g_ge_f h3f
        refine q_iconst (v := 1) (by decide) d194_131 ?_
        refine q_goto (tgt := 136) d194_132 rfl ?_
        refine q_ior d194_136 ?_
        refine q_istore (L' := [some (.ref 260), some (.int (nI t)), some (.double (FP.dadd x (D 260 30))), none, some (.int ((bi eb) ||| 1)), some (.double y), none, some (.double z), none, some (.int (nI n)), some (.int (nI f)), some (.int (nI q)), some (.int (nI i)), some (.int (nI j))]) d194_137 (Nat.le_of_ble_eq_true rfl) rfl ?_
        exact r_sub (L' := [some (.ref 260), some (.int (nI t)), some (.double (FP.dadd x (D 260 30))), none, some (.int ((bi eb) ||| 1)), some (.double y), none, some (.double z), none, some (.int (nI n)), some (.int (nI f)), some (.int (nI q)), some (.int (nI i)), some (.int (nI j))]) ⟨rfl, rfl, rfl, rfl, rfl, rfl, rfl, rfl, rfl, rfl, rfl, trivial⟩ (v4 h1t h2fc h3fc)
  ·
    refine q_iinc (L' := [some (.ref 260), some (.int (nI t)), some (.double x), none, some (.int (bi eb)), some (.double y), none, some (.double z), none, some (.int (nI n)), some (.int (nI (f + 1))), some (.int (nI q)), some (.int (nI i)), some (.int (nI j))]) (v := (nI (f + 1))) d194_100 rfl (nI_inc _) rfl ?_
    refine q_goto (tgt := 194) d194_103 rfl ?_
    exact r_sub (L' := [some (.ref 260), some (.int (nI t)), some (.double x), none, some (.int (bi eb)), some (.double y), none, some (.double z), none, some (.int (nI n)), some (.int (nI (f + 1))), some (.int (nI q)), some (.int (nI i)), some (.int (nI j))]) ⟨rfl, rfl, rfl, rfl, rfl, rfl, rfl, rfl, rfl, rfl, rfl, trivial⟩ (v5 h1f)

set_option maxRecDepth 10000 in
set_option maxHeartbeats 4000000 in
theorem u194g {d : Nat} {I : Nat → Nat → Int32} {D : Nat → Nat → UInt64} {R : Nat → Nat → Option Nat} {Q : j_Po} {t : Nat} {x : UInt64} {y : UInt64} {z : UInt64} {n : Nat} {f : Nat} {q : Nat} {i : Nat} {j : Nat} {eb : Bool} (hn : n < 64) (hd : 0 ≤ d)
    (v1 : ((nI n) = 0) → j_W 194 d 0 0 0 0 194 [some (.ref 260), some (.int (nI t)), some (.double x), none, some (.int (bi eb)), some (.double (D 260 30)), none, some (.double (D 260 30)), none, some (.int (nI (n + 1))), some (.int (nI f)), some (.int (nI q)), some (.int (nI i)), some (.int (nI j))] [] w1 (I, D, RR R) Q)
    (v2 : (¬ (nI n) = 0) → (dlt (D 260 30) y = false) → (dgt (D 260 30) z = false) → j_W 194 d 0 0 0 0 194 [some (.ref 260), some (.int (nI t)), some (.double x), none, some (.int (bi eb)), some (.double y), none, some (.double z), none, some (.int (nI (n + 1))), some (.int (nI f)), some (.int (nI q)), some (.int (nI i)), some (.int (nI j))] [] w1 (I, D, RR R) Q)
    (v3 : (¬ (nI n) = 0) → (dlt (D 260 30) y = false) → (dgt (D 260 30) z = true) → j_W 194 d 0 0 0 0 194 [some (.ref 260), some (.int (nI t)), some (.double x), none, some (.int (bi eb)), some (.double y), none, some (.double (D 260 30)), none, some (.int (nI (n + 1))), some (.int (nI f)), some (.int (nI q)), some (.int (nI i)), some (.int (nI j))] [] w1 (I, D, RR R) Q)
    (v4 : (¬ (nI n) = 0) → (dlt (D 260 30) y = true) → (dgt (D 260 30) z = false) → j_W 194 d 0 0 0 0 194 [some (.ref 260), some (.int (nI t)), some (.double x), none, some (.int (bi eb)), some (.double (D 260 30)), none, some (.double z), none, some (.int (nI (n + 1))), some (.int (nI f)), some (.int (nI q)), some (.int (nI i)), some (.int (nI j))] [] w1 (I, D, RR R) Q)
    (v5 : (¬ (nI n) = 0) → (dlt (D 260 30) y = true) → (dgt (D 260 30) z = true) → j_W 194 d 0 0 0 0 194 [some (.ref 260), some (.int (nI t)), some (.double x), none, some (.int (bi eb)), some (.double (D 260 30)), none, some (.double (D 260 30)), none, some (.int (nI (n + 1))), some (.int (nI f)), some (.int (nI q)), some (.int (nI i)), some (.int (nI j))] [] w1 (I, D, RR R) Q) : j_W 194 d 0 0 0 0 139 [some (.ref 260), some (.int (nI t)), some (.double x), none, some (.int (bi eb)), some (.double y), none, some (.double z), none, some (.int (nI n)), some (.int (nI f)), some (.int (nI q)), some (.int (nI i)), some (.int (nI j))] [] w1 (I, D, RR R) Q := by
  refine q_iload d194_139 rfl ?_
  refine q_if_eq (tgt := 154) d194_141 rfl (fun h1t => ?_) (fun h1f => ?_)
  ·
    refine q_aload_n d194_154 rfl ?_
    refine q_getD d194_155 (fs10_282 194 rfl) rfl (lt_w1 rfl) sh260 ?_
    refine q_goto (tgt := 163) d194_158 rfl ?_
    refine q_dstore (L' := [some (.ref 260), some (.int (nI t)), some (.double x), none, some (.int (bi eb)), some (.double (D 260 30)), none, some (.double z), none, some (.int (nI n)), some (.int (nI f)), some (.int (nI q)), some (.int (nI i)), some (.int (nI j))]) d194_163 (Nat.le_of_ble_eq_true rfl) rfl ?_
    refine q_iload d194_165 rfl ?_
    refine q_if_eq (tgt := 180) d194_167 rfl (fun h2t => ?_) (fun h2f => ?_)
    ·
      refine q_aload_n d194_180 rfl ?_
      refine q_getD d194_181 (fs10_282 194 rfl) rfl (lt_w1 rfl) sh260 ?_
      refine q_goto (tgt := 189) d194_184 rfl ?_
      refine q_dstore (L' := [some (.ref 260), some (.int (nI t)), some (.double x), none, some (.int (bi eb)), some (.double (D 260 30)), none, some (.double (D 260 30)), none, some (.int (nI n)), some (.int (nI f)), some (.int (nI q)), some (.int (nI i)), some (.int (nI j))]) d194_189 (Nat.le_of_ble_eq_true rfl) rfl ?_
      refine q_iinc (L' := [some (.ref 260), some (.int (nI t)), some (.double x), none, some (.int (bi eb)), some (.double (D 260 30)), none, some (.double (D 260 30)), none, some (.int (nI (n + 1))), some (.int (nI f)), some (.int (nI q)), some (.int (nI i)), some (.int (nI j))]) (v := (nI (n + 1))) d194_191 rfl (nI_inc _) rfl ?_
      exact r_sub (L' := [some (.ref 260), some (.int (nI t)), some (.double x), none, some (.int (bi eb)), some (.double (D 260 30)), none, some (.double (D 260 30)), none, some (.int (nI (n + 1))), some (.int (nI f)), some (.int (nI q)), some (.int (nI i)), some (.int (nI j))]) ⟨rfl, rfl, rfl, rfl, rfl, rfl, rfl, rfl, rfl, rfl, rfl, trivial⟩ (v1 h1t)
    ·
      exact False.elim (by first | exact absurd h2f h1t | exact absurd h1t h2f | exact (Int32.not_lt.mpr h2f) h1t | exact (Int32.not_lt.mpr h1t) h2f | exact h2f (Int32.not_le.mp h1t) | exact h1t (Int32.not_le.mp h2f) | omega)
  ·
    refine q_aload_n d194_144 rfl ?_
    refine q_getD d194_145 (fs10_282 194 rfl) rfl (lt_w1 rfl) sh260 ?_
    refine q_dload d194_148 rfl ?_
    refine q_dcmp d194_150 ?_
    refine q_if_ge (tgt := 161) d194_151 rfl (fun h3t => ?_) (fun h3f => ?_)
    ·
      have h3tc : dlt (D 260 30) y = false := dc_g_ge_t h3t
      refine q_dload d194_161 rfl ?_
      refine q_dstore (L' := [some (.ref 260), some (.int (nI t)), some (.double x), none, some (.int (bi eb)), some (.double y), none, some (.double z), none, some (.int (nI n)), some (.int (nI f)), some (.int (nI q)), some (.int (nI i)), some (.int (nI j))]) d194_163 (Nat.le_of_ble_eq_true rfl) rfl ?_
      refine q_iload d194_165 rfl ?_
      refine q_if_eq (tgt := 180) d194_167 rfl (fun h4t => ?_) (fun h4f => ?_)
      ·
        exact False.elim (by first | exact absurd h4t h1f | exact absurd h1f h4t | exact (Int32.not_lt.mpr h4t) h1f | exact (Int32.not_lt.mpr h1f) h4t | exact h4t (Int32.not_le.mp h1f) | exact h1f (Int32.not_le.mp h4t) | omega)
      ·
        refine q_aload_n d194_170 rfl ?_
        refine q_getD d194_171 (fs10_282 194 rfl) rfl (lt_w1 rfl) sh260 ?_
        refine q_dload d194_174 rfl ?_
        refine q_dcmp d194_176 ?_
        refine q_if_le (tgt := 187) d194_177 rfl (fun h5t => ?_) (fun h5f => ?_)
        ·
          have h5tc : dgt (D 260 30) z = false := dc_l_le_t h5t
          refine q_dload d194_187 rfl ?_
          refine q_dstore (L' := [some (.ref 260), some (.int (nI t)), some (.double x), none, some (.int (bi eb)), some (.double y), none, some (.double z), none, some (.int (nI n)), some (.int (nI f)), some (.int (nI q)), some (.int (nI i)), some (.int (nI j))]) d194_189 (Nat.le_of_ble_eq_true rfl) rfl ?_
          refine q_iinc (L' := [some (.ref 260), some (.int (nI t)), some (.double x), none, some (.int (bi eb)), some (.double y), none, some (.double z), none, some (.int (nI (n + 1))), some (.int (nI f)), some (.int (nI q)), some (.int (nI i)), some (.int (nI j))]) (v := (nI (n + 1))) d194_191 rfl (nI_inc _) rfl ?_
          exact r_sub (L' := [some (.ref 260), some (.int (nI t)), some (.double x), none, some (.int (bi eb)), some (.double y), none, some (.double z), none, some (.int (nI (n + 1))), some (.int (nI f)), some (.int (nI q)), some (.int (nI i)), some (.int (nI j))]) ⟨rfl, rfl, rfl, rfl, rfl, rfl, rfl, rfl, rfl, rfl, rfl, trivial⟩ (v2 h1f h3tc h5tc)
        ·
          have h5fc : dgt (D 260 30) z = true := dc_l_le_f h5f
          refine q_aload_n d194_180 rfl ?_
          refine q_getD d194_181 (fs10_282 194 rfl) rfl (lt_w1 rfl) sh260 ?_
          refine q_goto (tgt := 189) d194_184 rfl ?_
          refine q_dstore (L' := [some (.ref 260), some (.int (nI t)), some (.double x), none, some (.int (bi eb)), some (.double y), none, some (.double (D 260 30)), none, some (.int (nI n)), some (.int (nI f)), some (.int (nI q)), some (.int (nI i)), some (.int (nI j))]) d194_189 (Nat.le_of_ble_eq_true rfl) rfl ?_
          refine q_iinc (L' := [some (.ref 260), some (.int (nI t)), some (.double x), none, some (.int (bi eb)), some (.double y), none, some (.double (D 260 30)), none, some (.int (nI (n + 1))), some (.int (nI f)), some (.int (nI q)), some (.int (nI i)), some (.int (nI j))]) (v := (nI (n + 1))) d194_191 rfl (nI_inc _) rfl ?_
          exact r_sub (L' := [some (.ref 260), some (.int (nI t)), some (.double x), none, some (.int (bi eb)), some (.double y), none, some (.double (D 260 30)), none, some (.int (nI (n + 1))), some (.int (nI f)), some (.int (nI q)), some (.int (nI i)), some (.int (nI j))]) ⟨rfl, rfl, rfl, rfl, rfl, rfl, rfl, rfl, rfl, rfl, rfl, trivial⟩ (v3 h1f h3tc h5fc)
    ·
      have h3fc : dlt (D 260 30) y = true := dc_g_ge_f h3f
      refine q_aload_n d194_154 rfl ?_
      refine q_getD d194_155 (fs10_282 194 rfl) rfl (lt_w1 rfl) sh260 ?_
      refine q_goto (tgt := 163) d194_158 rfl ?_
      refine q_dstore (L' := [some (.ref 260), some (.int (nI t)), some (.double x), none, some (.int (bi eb)), some (.double (D 260 30)), none, some (.double z), none, some (.int (nI n)), some (.int (nI f)), some (.int (nI q)), some (.int (nI i)), some (.int (nI j))]) d194_163 (Nat.le_of_ble_eq_true rfl) rfl ?_
      refine q_iload d194_165 rfl ?_
      refine q_if_eq (tgt := 180) d194_167 rfl (fun h6t => ?_) (fun h6f => ?_)
      ·
        exact False.elim (by first | exact absurd h6t h1f | exact absurd h1f h6t | exact (Int32.not_lt.mpr h6t) h1f | exact (Int32.not_lt.mpr h1f) h6t | exact h6t (Int32.not_le.mp h1f) | exact h1f (Int32.not_le.mp h6t) | omega)
      ·
        refine q_aload_n d194_170 rfl ?_
        refine q_getD d194_171 (fs10_282 194 rfl) rfl (lt_w1 rfl) sh260 ?_
        refine q_dload d194_174 rfl ?_
        refine q_dcmp d194_176 ?_
        refine q_if_le (tgt := 187) d194_177 rfl (fun h7t => ?_) (fun h7f => ?_)
        ·
          have h7tc : dgt (D 260 30) z = false := dc_l_le_t h7t
          refine q_dload d194_187 rfl ?_
          refine q_dstore (L' := [some (.ref 260), some (.int (nI t)), some (.double x), none, some (.int (bi eb)), some (.double (D 260 30)), none, some (.double z), none, some (.int (nI n)), some (.int (nI f)), some (.int (nI q)), some (.int (nI i)), some (.int (nI j))]) d194_189 (Nat.le_of_ble_eq_true rfl) rfl ?_
          refine q_iinc (L' := [some (.ref 260), some (.int (nI t)), some (.double x), none, some (.int (bi eb)), some (.double (D 260 30)), none, some (.double z), none, some (.int (nI (n + 1))), some (.int (nI f)), some (.int (nI q)), some (.int (nI i)), some (.int (nI j))]) (v := (nI (n + 1))) d194_191 rfl (nI_inc _) rfl ?_
          exact r_sub (L' := [some (.ref 260), some (.int (nI t)), some (.double x), none, some (.int (bi eb)), some (.double (D 260 30)), none, some (.double z), none, some (.int (nI (n + 1))), some (.int (nI f)), some (.int (nI q)), some (.int (nI i)), some (.int (nI j))]) ⟨rfl, rfl, rfl, rfl, rfl, rfl, rfl, rfl, rfl, rfl, rfl, trivial⟩ (v4 h1f h3fc h7tc)
        ·
          have h7fc : dgt (D 260 30) z = true := dc_l_le_f h7f
          refine q_aload_n d194_180 rfl ?_
          refine q_getD d194_181 (fs10_282 194 rfl) rfl (lt_w1 rfl) sh260 ?_
          refine q_goto (tgt := 189) d194_184 rfl ?_
          refine q_dstore (L' := [some (.ref 260), some (.int (nI t)), some (.double x), none, some (.int (bi eb)), some (.double (D 260 30)), none, some (.double (D 260 30)), none, some (.int (nI n)), some (.int (nI f)), some (.int (nI q)), some (.int (nI i)), some (.int (nI j))]) d194_189 (Nat.le_of_ble_eq_true rfl) rfl ?_
          refine q_iinc (L' := [some (.ref 260), some (.int (nI t)), some (.double x), none, some (.int (bi eb)), some (.double (D 260 30)), none, some (.double (D 260 30)), none, some (.int (nI (n + 1))), some (.int (nI f)), some (.int (nI q)), some (.int (nI i)), some (.int (nI j))]) (v := (nI (n + 1))) d194_191 rfl (nI_inc _) rfl ?_
          exact r_sub (L' := [some (.ref 260), some (.int (nI t)), some (.double x), none, some (.int (bi eb)), some (.double (D 260 30)), none, some (.double (D 260 30)), none, some (.int (nI (n + 1))), some (.int (nI f)), some (.int (nI q)), some (.int (nI i)), some (.int (nI j))]) ⟨rfl, rfl, rfl, rfl, rfl, rfl, rfl, rfl, rfl, rfl, rfl, trivial⟩ (v5 h1f h3fc h7fc)

set_option maxRecDepth 10000 in
set_option maxHeartbeats 4000000 in
theorem u194j {d : Nat} {I : Nat → Nat → Int32} {D : Nat → Nat → UInt64} {R : Nat → Nat → Option Nat} {Q : j_Po} {t : Nat} {x : UInt64} {y : UInt64} {z : UInt64} {n : Nat} {f : Nat} {q : Nat} {i : Nat} {j : Nat} {eb : Bool} (hj : j ≤ 8) (hd : 0 ≤ d)
    (v1 : j_W 194 d 0 0 0 0 77 [some (.ref 260), some (.int (nI t)), some (.double x), none, some (.int (bi eb)), some (.double y), none, some (.double z), none, some (.int (nI n)), some (.int (nI f)), some (.int (nI q)), some (.int (nI i)), some (.int (nI (j + 1)))] [] w1 (I, D, RR R) Q) : j_W 194 d 0 0 0 0 194 [some (.ref 260), some (.int (nI t)), some (.double x), none, some (.int (bi eb)), some (.double y), none, some (.double z), none, some (.int (nI n)), some (.int (nI f)), some (.int (nI q)), some (.int (nI i)), some (.int (nI j))] [] w1 (I, D, RR R) Q := by
  refine q_iinc (L' := [some (.ref 260), some (.int (nI t)), some (.double x), none, some (.int (bi eb)), some (.double y), none, some (.double z), none, some (.int (nI n)), some (.int (nI f)), some (.int (nI q)), some (.int (nI i)), some (.int (nI (j + 1)))]) (v := (nI (j + 1))) d194_194 rfl (nI_inc _) rfl ?_
  refine q_goto (tgt := 77) d194_197 rfl ?_
  exact r_sub (L' := [some (.ref 260), some (.int (nI t)), some (.double x), none, some (.int (bi eb)), some (.double y), none, some (.double z), none, some (.int (nI n)), some (.int (nI f)), some (.int (nI q)), some (.int (nI i)), some (.int (nI (j + 1)))]) ⟨rfl, rfl, rfl, rfl, rfl, rfl, rfl, rfl, rfl, rfl, rfl, trivial⟩ v1

set_option maxRecDepth 10000 in
set_option maxHeartbeats 4000000 in
theorem u194k {d : Nat} {I : Nat → Nat → Int32} {D : Nat → Nat → UInt64} {R : Nat → Nat → Option Nat} {Q : j_Po} {t : Nat} {x : UInt64} {y : UInt64} {z : UInt64} {n : Nat} {f : Nat} {q : Nat} {i : Nat} {eb : Bool} (hi : i ≤ 8) (hd : 0 ≤ d)
    (v1 : j_W 194 d 0 0 0 0 61 [some (.ref 260), some (.int (nI t)), some (.double x), none, some (.int (bi eb)), some (.double y), none, some (.double z), none, some (.int (nI n)), some (.int (nI f)), some (.int (nI q)), some (.int (nI (i + 1))), none] [] w1 (I, D, RR R) Q) : j_W 194 d 0 0 0 0 200 [some (.ref 260), some (.int (nI t)), some (.double x), none, some (.int (bi eb)), some (.double y), none, some (.double z), none, some (.int (nI n)), some (.int (nI f)), some (.int (nI q)), some (.int (nI i)), none] [] w1 (I, D, RR R) Q := by
  refine q_iinc (L' := [some (.ref 260), some (.int (nI t)), some (.double x), none, some (.int (bi eb)), some (.double y), none, some (.double z), none, some (.int (nI n)), some (.int (nI f)), some (.int (nI q)), some (.int (nI (i + 1))), none]) (v := (nI (i + 1))) d194_200 rfl (nI_inc _) rfl ?_
  refine q_goto (tgt := 61) d194_203 rfl ?_
  exact r_sub (L' := [some (.ref 260), some (.int (nI t)), some (.double x), none, some (.int (bi eb)), some (.double y), none, some (.double z), none, some (.int (nI n)), some (.int (nI f)), some (.int (nI q)), some (.int (nI (i + 1))), none]) ⟨rfl, rfl, rfl, rfl, rfl, rfl, rfl, rfl, rfl, rfl, trivial⟩ v1

set_option maxRecDepth 10000 in
set_option maxHeartbeats 4000000 in
theorem u194y {d : Nat} {I : Nat → Nat → Int32} {D : Nat → Nat → UInt64} {R : Nat → Nat → Option Nat} {Q : j_Po} {t : Nat} {x : UInt64} {y : UInt64} {z : UInt64} {n : Nat} {f : Nat} {q : Nat} {eb : Bool} {l : Nat} (h18 : I 260 18 = nI l) (hl : l < 7) (ht : t < 6) (hn : n ≤ 64) (hf : f ≤ 64) (hd : 1 ≤ d)
    (v1 : (eb = false) → (¬ (nI n) = 0) → vf_n64 (FP.ddiv x (FP.i2d (nI n))))
    (v2 : (eb = false) → (¬ (nI n) = 0) → (eb = false) → j_W 194 d 0 0 0 0 376 [some (.ref 260), some (.int (nI t)), none, none, none, none, none, none, none, none, none, none, none, none] [] w1 ((j_u (j_u (j_u (j_u (j_u I (412 + l) (5 * t) 0) (412 + l) ((5 * t) + 1) 0) (412 + l) ((5 * t) + 2) 0) (412 + l) ((5 * t) + 3) 0) (412 + l) ((5 * t) + 4) 0), (j_u (j_u (j_u (j_u (j_u D (404 + l) (5 * t) x) (404 + l) ((5 * t) + 1) (FP.ddiv x (FP.i2d (nI n)))) (404 + l) ((5 * t) + 2) y) (404 + l) ((5 * t) + 3) z) (404 + l) ((5 * t) + 4) (FP.i2d (nI f))), RR R) Q)
    (v3 : (eb = false) → (¬ (nI n) = 0) → (eb = true) → j_W 194 d 0 0 0 0 376 [some (.ref 260), some (.int (nI t)), none, none, none, none, none, none, none, none, none, none, none, none] [] w1 ((j_u (j_u (j_u (j_u (j_u I (412 + l) (5 * t) 0) (412 + l) ((5 * t) + 1) 3) (412 + l) ((5 * t) + 2) 0) (412 + l) ((5 * t) + 3) 0) (412 + l) ((5 * t) + 4) 0), (j_u (j_u (j_u (j_u (j_u D (404 + l) (5 * t) x) (404 + l) ((5 * t) + 1) (FP.ddiv x (FP.i2d (nI n)))) (404 + l) ((5 * t) + 2) y) (404 + l) ((5 * t) + 3) z) (404 + l) ((5 * t) + 4) (FP.i2d (nI f))), RR R) Q)
    (v4 : (eb = false) → ((nI n) = 0) → j_W 194 d 0 0 0 0 376 [some (.ref 260), some (.int (nI t)), none, none, none, none, none, none, none, none, none, none, none, none] [] w1 ((j_u (j_u (j_u (j_u (j_u I (412 + l) (5 * t) 0) (412 + l) ((5 * t) + 1) 4) (412 + l) ((5 * t) + 2) 4) (412 + l) ((5 * t) + 3) 4) (412 + l) ((5 * t) + 4) 0), (j_u (j_u (j_u (j_u (j_u D (404 + l) (5 * t) x) (404 + l) ((5 * t) + 1) FP.dconst0) (404 + l) ((5 * t) + 2) y) (404 + l) ((5 * t) + 3) z) (404 + l) ((5 * t) + 4) (FP.i2d (nI f))), RR R) Q)
    (v5 : (eb = true) → (¬ (nI n) = 0) → vf_n64 (FP.ddiv x (FP.i2d (nI n))))
    (v6 : (eb = true) → (¬ (nI n) = 0) → (eb = false) → j_W 194 d 0 0 0 0 376 [some (.ref 260), some (.int (nI t)), none, none, none, none, none, none, none, none, none, none, none, none] [] w1 ((j_u (j_u (j_u (j_u (j_u I (412 + l) (5 * t) 3) (412 + l) ((5 * t) + 1) 0) (412 + l) ((5 * t) + 2) 0) (412 + l) ((5 * t) + 3) 0) (412 + l) ((5 * t) + 4) 0), (j_u (j_u (j_u (j_u (j_u D (404 + l) (5 * t) x) (404 + l) ((5 * t) + 1) (FP.ddiv x (FP.i2d (nI n)))) (404 + l) ((5 * t) + 2) y) (404 + l) ((5 * t) + 3) z) (404 + l) ((5 * t) + 4) (FP.i2d (nI f))), RR R) Q)
    (v7 : (eb = true) → (¬ (nI n) = 0) → (eb = true) → j_W 194 d 0 0 0 0 376 [some (.ref 260), some (.int (nI t)), none, none, none, none, none, none, none, none, none, none, none, none] [] w1 ((j_u (j_u (j_u (j_u (j_u I (412 + l) (5 * t) 3) (412 + l) ((5 * t) + 1) 3) (412 + l) ((5 * t) + 2) 0) (412 + l) ((5 * t) + 3) 0) (412 + l) ((5 * t) + 4) 0), (j_u (j_u (j_u (j_u (j_u D (404 + l) (5 * t) x) (404 + l) ((5 * t) + 1) (FP.ddiv x (FP.i2d (nI n)))) (404 + l) ((5 * t) + 2) y) (404 + l) ((5 * t) + 3) z) (404 + l) ((5 * t) + 4) (FP.i2d (nI f))), RR R) Q)
    (v8 : (eb = true) → ((nI n) = 0) → j_W 194 d 0 0 0 0 376 [some (.ref 260), some (.int (nI t)), none, none, none, none, none, none, none, none, none, none, none, none] [] w1 ((j_u (j_u (j_u (j_u (j_u I (412 + l) (5 * t) 3) (412 + l) ((5 * t) + 1) 4) (412 + l) ((5 * t) + 2) 4) (412 + l) ((5 * t) + 3) 4) (412 + l) ((5 * t) + 4) 0), (j_u (j_u (j_u (j_u (j_u D (404 + l) (5 * t) x) (404 + l) ((5 * t) + 1) FP.dconst0) (404 + l) ((5 * t) + 2) y) (404 + l) ((5 * t) + 3) z) (404 + l) ((5 * t) + 4) (FP.i2d (nI f))), RR R) Q) : j_W 194 d 0 0 0 0 206 [some (.ref 260), some (.int (nI t)), some (.double x), none, some (.int (bi eb)), some (.double y), none, some (.double z), none, some (.int (nI n)), some (.int (nI f)), some (.int (nI q)), none, none] [] w1 (I, D, RR R) Q := by
  refine q_aload_n d194_206 rfl ?_
  refine q_getR (x := 403) d194_207 (fs10_87 194 rfl) rfl (lt_w1 rfl) sh260 (rs260_24 R) (by decide) ?_
  refine q_aload_n d194_210 rfl ?_
  refine q_getI d194_211 (fs10_247 194 rfl) rfl (lt_w1 rfl) sh260 ?_
  refine r_int (y := (nI l)) (show I 260 18 = (nI l) from h18) ?_
  refine q_aaload (c := 3) (a := l) (x := (404 + l)) d194_214 (lt_w1 rfl) sh403 (by decide) rfl (by omega) (rm403 R (by omega)) (lt1000 (lm403 (by omega))) ?_
  refine q_astore (L' := [some (.ref 260), some (.int (nI t)), some (.double x), none, some (.int (bi eb)), some (.double y), none, some (.double z), none, some (.int (nI n)), some (.int (nI f)), some (.int (nI q)), some (.ref (404 + l)), none]) d194_215 (Nat.le_of_ble_eq_true rfl) (Nat.ne_of_lt (Nat.lt_trans (lt1000 (lm403 (by omega))) (by decide))) rfl ?_
  refine q_aload_n d194_217 rfl ?_
  refine q_getR (x := 411) d194_218 (fs10_90 194 rfl) rfl (lt_w1 rfl) sh260 (rs260_25 R) (by decide) ?_
  refine q_aload_n d194_221 rfl ?_
  refine q_getI d194_222 (fs10_247 194 rfl) rfl (lt_w1 rfl) sh260 ?_
  refine r_int (y := (nI l)) (show I 260 18 = (nI l) from h18) ?_
  refine q_aaload (c := 4) (a := l) (x := (412 + l)) d194_225 (lt_w1 rfl) sh411 (by decide) rfl (by omega) (rm411 R (by omega)) (lt1000 (lm411 (by omega))) ?_
  refine q_astore (L' := [some (.ref 260), some (.int (nI t)), some (.double x), none, some (.int (bi eb)), some (.double y), none, some (.double z), none, some (.int (nI n)), some (.int (nI f)), some (.int (nI q)), some (.ref (404 + l)), some (.ref (412 + l))]) d194_226 (Nat.le_of_ble_eq_true rfl) (Nat.ne_of_lt (Nat.lt_trans (lt1000 (lm411 (by omega))) (by decide))) rfl ?_
  refine q_aload d194_228 rfl ?_
  refine q_iconst (v := 5) (by decide) d194_230 ?_
  refine q_iload_n d194_231 rfl ?_
  refine q_imul d194_232 ?_
  refine r_int (y := (nI (5 * t))) (pk_mul 5 t) ?_
  refine q_dload_n d194_233 rfl ?_
  refine q_dastore (a := (5 * t)) d194_234 (lm403 (by omega)) (sm403 (by omega)) rfl (by omega) ?_
  refine q_aload d194_235 rfl ?_
  refine q_iconst (v := 5) (by decide) d194_237 ?_
  refine q_iload_n d194_238 rfl ?_
  refine q_imul d194_239 ?_
  refine r_int (y := (nI (5 * t))) (pk_mul 5 t) ?_
  refine q_iload d194_240 rfl ?_
  refine q_if_eq (tgt := 249) d194_242 rfl (fun h1t => ?_) (fun h1f => ?_)
  ·
    have h1tc : eb = false := bi_0 h1t
    refine q_iconst (v := 0) (by decide) d194_249 ?_
    refine q_iastore (a := (5 * t)) d194_250 (lm411 (by omega)) (sm411 (by omega)) rfl (by omega) ?_
    refine q_aload d194_251 rfl ?_
    refine q_iconst (v := 5) (by decide) d194_253 ?_
    refine q_iload_n d194_254 rfl ?_
    refine q_imul d194_255 ?_
    refine r_int (y := (nI (5 * t))) (pk_mul 5 t) ?_
    refine q_iconst (v := 1) (by decide) d194_256 ?_
    refine q_iadd d194_257 ?_
    refine r_int (y := (nI ((5 * t) + 1))) (nI_add (5 * t) 1) ?_
    refine q_iload d194_258 rfl ?_
    refine q_if_ne (tgt := 267) d194_260 rfl (fun h2t => ?_) (fun h2f => ?_)
    ·
      refine q_dload_n d194_267 rfl ?_
      refine q_iload d194_268 rfl ?_
      refine q_i2d d194_270 ?_
      refine q_ddiv (v1 h1tc h2t) d194_271 ?_
      refine q_dastore (a := ((5 * t) + 1)) d194_272 (lm403 (by omega)) (sm403 (by omega)) rfl (by omega) ?_
      refine q_aload d194_273 rfl ?_
      refine q_iconst (v := 5) (by decide) d194_275 ?_
      refine q_iload_n d194_276 rfl ?_
      refine q_imul d194_277 ?_
      refine r_int (y := (nI (5 * t))) (pk_mul 5 t) ?_
      refine q_iconst (v := 1) (by decide) d194_278 ?_
      refine q_iadd d194_279 ?_
      refine r_int (y := (nI ((5 * t) + 1))) (nI_add (5 * t) 1) ?_
      refine q_iload d194_280 rfl ?_
      refine q_if_ne (tgt := 289) d194_282 rfl (fun h3t => ?_) (fun h3f => ?_)
      ·
        refine q_iload d194_289 rfl ?_
        refine q_if_eq (tgt := 298) d194_291 rfl (fun h4t => ?_) (fun h4f => ?_)
        ·
          have h4tc : eb = false := bi_0 h4t
          refine q_iconst (v := 0) (by decide) d194_298 ?_
          refine q_iastore (a := ((5 * t) + 1)) d194_299 (lm411 (by omega)) (sm411 (by omega)) rfl (by omega) ?_
          refine q_aload d194_300 rfl ?_
          refine q_iconst (v := 5) (by decide) d194_302 ?_
          refine q_iload_n d194_303 rfl ?_
          refine q_imul d194_304 ?_
          refine r_int (y := (nI (5 * t))) (pk_mul 5 t) ?_
          refine q_iconst (v := 2) (by decide) d194_305 ?_
          refine q_iadd d194_306 ?_
          refine r_int (y := (nI ((5 * t) + 2))) (nI_add (5 * t) 2) ?_
          refine q_dload d194_307 rfl ?_
          refine q_dastore (a := ((5 * t) + 2)) d194_309 (lm403 (by omega)) (sm403 (by omega)) rfl (by omega) ?_
          refine q_aload d194_310 rfl ?_
          refine q_iconst (v := 5) (by decide) d194_312 ?_
          refine q_iload_n d194_313 rfl ?_
          refine q_imul d194_314 ?_
          refine r_int (y := (nI (5 * t))) (pk_mul 5 t) ?_
          refine q_iconst (v := 2) (by decide) d194_315 ?_
          refine q_iadd d194_316 ?_
          refine r_int (y := (nI ((5 * t) + 2))) (nI_add (5 * t) 2) ?_
          refine q_iload d194_317 rfl ?_
          refine q_if_ne (tgt := 326) d194_319 rfl (fun h5t => ?_) (fun h5f => ?_)
          ·
            refine q_iconst (v := 0) (by decide) d194_326 ?_
            refine q_iastore (a := ((5 * t) + 2)) d194_327 (lm411 (by omega)) (sm411 (by omega)) rfl (by omega) ?_
            refine q_aload d194_328 rfl ?_
            refine q_iconst (v := 5) (by decide) d194_330 ?_
            refine q_iload_n d194_331 rfl ?_
            refine q_imul d194_332 ?_
            refine r_int (y := (nI (5 * t))) (pk_mul 5 t) ?_
            refine q_iconst (v := 3) (by decide) d194_333 ?_
            refine q_iadd d194_334 ?_
            refine r_int (y := (nI ((5 * t) + 3))) (nI_add (5 * t) 3) ?_
            refine q_dload d194_335 rfl ?_
            refine q_dastore (a := ((5 * t) + 3)) d194_337 (lm403 (by omega)) (sm403 (by omega)) rfl (by omega) ?_
            refine q_aload d194_338 rfl ?_
            refine q_iconst (v := 5) (by decide) d194_340 ?_
            refine q_iload_n d194_341 rfl ?_
            refine q_imul d194_342 ?_
            refine r_int (y := (nI (5 * t))) (pk_mul 5 t) ?_
            refine q_iconst (v := 3) (by decide) d194_343 ?_
            refine q_iadd d194_344 ?_
            refine r_int (y := (nI ((5 * t) + 3))) (nI_add (5 * t) 3) ?_
            refine q_iload d194_345 rfl ?_
            refine q_if_ne (tgt := 354) d194_347 rfl (fun h6t => ?_) (fun h6f => ?_)
            ·
              refine q_iconst (v := 0) (by decide) d194_354 ?_
              refine q_iastore (a := ((5 * t) + 3)) d194_355 (lm411 (by omega)) (sm411 (by omega)) rfl (by omega) ?_
              refine q_aload d194_356 rfl ?_
              refine q_iconst (v := 5) (by decide) d194_358 ?_
              refine q_iload_n d194_359 rfl ?_
              refine q_imul d194_360 ?_
              refine r_int (y := (nI (5 * t))) (pk_mul 5 t) ?_
              refine q_iconst (v := 4) (by decide) d194_361 ?_
              refine q_iadd d194_362 ?_
              refine r_int (y := (nI ((5 * t) + 4))) (nI_add (5 * t) 4) ?_
              refine q_iload d194_363 rfl ?_
              refine q_i2d d194_365 ?_
              refine q_dastore (a := ((5 * t) + 4)) d194_366 (lm403 (by omega)) (sm403 (by omega)) rfl (by omega) ?_
              refine q_aload d194_367 rfl ?_
              refine q_iconst (v := 5) (by decide) d194_369 ?_
              refine q_iload_n d194_370 rfl ?_
              refine q_imul d194_371 ?_
              refine r_int (y := (nI (5 * t))) (pk_mul 5 t) ?_
              refine q_iconst (v := 4) (by decide) d194_372 ?_
              refine q_iadd d194_373 ?_
              refine r_int (y := (nI ((5 * t) + 4))) (nI_add (5 * t) 4) ?_
              refine q_iconst (v := 0) (by decide) d194_374 ?_
              refine q_iastore (a := ((5 * t) + 4)) d194_375 (lm411 (by omega)) (sm411 (by omega)) rfl (by omega) ?_
              exact r_sub (L' := [some (.ref 260), some (.int (nI t)), none, none, none, none, none, none, none, none, none, none, none, none]) ⟨rfl, rfl, trivial⟩ (v2 h1tc h2t h4tc)
            ·
              exact False.elim (by first | exact absurd h6f h2t | exact absurd h2t h6f | exact (Int32.not_lt.mpr h6f) h2t | exact (Int32.not_lt.mpr h2t) h6f | exact h6f (Int32.not_le.mp h2t) | exact h2t (Int32.not_le.mp h6f) | omega)
          ·
            exact False.elim (by first | exact absurd h5f h2t | exact absurd h2t h5f | exact (Int32.not_lt.mpr h5f) h2t | exact (Int32.not_lt.mpr h2t) h5f | exact h5f (Int32.not_le.mp h2t) | exact h2t (Int32.not_le.mp h5f) | omega)
        ·
          have h4fc : eb = true := bi_1 h4f
          refine q_iconst (v := 3) (by decide) d194_294 ?_
          refine q_goto (tgt := 299) d194_295 rfl ?_
          refine q_iastore (a := ((5 * t) + 1)) d194_299 (lm411 (by omega)) (sm411 (by omega)) rfl (by omega) ?_
          refine q_aload d194_300 rfl ?_
          refine q_iconst (v := 5) (by decide) d194_302 ?_
          refine q_iload_n d194_303 rfl ?_
          refine q_imul d194_304 ?_
          refine r_int (y := (nI (5 * t))) (pk_mul 5 t) ?_
          refine q_iconst (v := 2) (by decide) d194_305 ?_
          refine q_iadd d194_306 ?_
          refine r_int (y := (nI ((5 * t) + 2))) (nI_add (5 * t) 2) ?_
          refine q_dload d194_307 rfl ?_
          refine q_dastore (a := ((5 * t) + 2)) d194_309 (lm403 (by omega)) (sm403 (by omega)) rfl (by omega) ?_
          refine q_aload d194_310 rfl ?_
          refine q_iconst (v := 5) (by decide) d194_312 ?_
          refine q_iload_n d194_313 rfl ?_
          refine q_imul d194_314 ?_
          refine r_int (y := (nI (5 * t))) (pk_mul 5 t) ?_
          refine q_iconst (v := 2) (by decide) d194_315 ?_
          refine q_iadd d194_316 ?_
          refine r_int (y := (nI ((5 * t) + 2))) (nI_add (5 * t) 2) ?_
          refine q_iload d194_317 rfl ?_
          refine q_if_ne (tgt := 326) d194_319 rfl (fun h7t => ?_) (fun h7f => ?_)
          ·
            refine q_iconst (v := 0) (by decide) d194_326 ?_
            refine q_iastore (a := ((5 * t) + 2)) d194_327 (lm411 (by omega)) (sm411 (by omega)) rfl (by omega) ?_
            refine q_aload d194_328 rfl ?_
            refine q_iconst (v := 5) (by decide) d194_330 ?_
            refine q_iload_n d194_331 rfl ?_
            refine q_imul d194_332 ?_
            refine r_int (y := (nI (5 * t))) (pk_mul 5 t) ?_
            refine q_iconst (v := 3) (by decide) d194_333 ?_
            refine q_iadd d194_334 ?_
            refine r_int (y := (nI ((5 * t) + 3))) (nI_add (5 * t) 3) ?_
            refine q_dload d194_335 rfl ?_
            refine q_dastore (a := ((5 * t) + 3)) d194_337 (lm403 (by omega)) (sm403 (by omega)) rfl (by omega) ?_
            refine q_aload d194_338 rfl ?_
            refine q_iconst (v := 5) (by decide) d194_340 ?_
            refine q_iload_n d194_341 rfl ?_
            refine q_imul d194_342 ?_
            refine r_int (y := (nI (5 * t))) (pk_mul 5 t) ?_
            refine q_iconst (v := 3) (by decide) d194_343 ?_
            refine q_iadd d194_344 ?_
            refine r_int (y := (nI ((5 * t) + 3))) (nI_add (5 * t) 3) ?_
            refine q_iload d194_345 rfl ?_
            refine q_if_ne (tgt := 354) d194_347 rfl (fun h8t => ?_) (fun h8f => ?_)
            ·
              refine q_iconst (v := 0) (by decide) d194_354 ?_
              refine q_iastore (a := ((5 * t) + 3)) d194_355 (lm411 (by omega)) (sm411 (by omega)) rfl (by omega) ?_
              refine q_aload d194_356 rfl ?_
              refine q_iconst (v := 5) (by decide) d194_358 ?_
              refine q_iload_n d194_359 rfl ?_
              refine q_imul d194_360 ?_
              refine r_int (y := (nI (5 * t))) (pk_mul 5 t) ?_
              refine q_iconst (v := 4) (by decide) d194_361 ?_
              refine q_iadd d194_362 ?_
              refine r_int (y := (nI ((5 * t) + 4))) (nI_add (5 * t) 4) ?_
              refine q_iload d194_363 rfl ?_
              refine q_i2d d194_365 ?_
              refine q_dastore (a := ((5 * t) + 4)) d194_366 (lm403 (by omega)) (sm403 (by omega)) rfl (by omega) ?_
              refine q_aload d194_367 rfl ?_
              refine q_iconst (v := 5) (by decide) d194_369 ?_
              refine q_iload_n d194_370 rfl ?_
              refine q_imul d194_371 ?_
              refine r_int (y := (nI (5 * t))) (pk_mul 5 t) ?_
              refine q_iconst (v := 4) (by decide) d194_372 ?_
              refine q_iadd d194_373 ?_
              refine r_int (y := (nI ((5 * t) + 4))) (nI_add (5 * t) 4) ?_
              refine q_iconst (v := 0) (by decide) d194_374 ?_
              refine q_iastore (a := ((5 * t) + 4)) d194_375 (lm411 (by omega)) (sm411 (by omega)) rfl (by omega) ?_
              exact r_sub (L' := [some (.ref 260), some (.int (nI t)), none, none, none, none, none, none, none, none, none, none, none, none]) ⟨rfl, rfl, trivial⟩ (v3 h1tc h2t h4fc)
            ·
              exact False.elim (by first | exact absurd h8f h2t | exact absurd h2t h8f | exact (Int32.not_lt.mpr h8f) h2t | exact (Int32.not_lt.mpr h2t) h8f | exact h8f (Int32.not_le.mp h2t) | exact h2t (Int32.not_le.mp h8f) | omega)
          ·
            exact False.elim (by first | exact absurd h7f h2t | exact absurd h2t h7f | exact (Int32.not_lt.mpr h7f) h2t | exact (Int32.not_lt.mpr h2t) h7f | exact h7f (Int32.not_le.mp h2t) | exact h2t (Int32.not_le.mp h7f) | omega)
      ·
        exact False.elim (by first | exact absurd h3f h2t | exact absurd h2t h3f | exact (Int32.not_lt.mpr h3f) h2t | exact (Int32.not_lt.mpr h2t) h3f | exact h3f (Int32.not_le.mp h2t) | exact h2t (Int32.not_le.mp h3f) | omega)
    ·
      refine q_dconst0 d194_263 ?_
      refine q_goto (tgt := 272) d194_264 rfl ?_
      refine q_dastore (a := ((5 * t) + 1)) d194_272 (lm403 (by omega)) (sm403 (by omega)) rfl (by omega) ?_
      refine q_aload d194_273 rfl ?_
      refine q_iconst (v := 5) (by decide) d194_275 ?_
      refine q_iload_n d194_276 rfl ?_
      refine q_imul d194_277 ?_
      refine r_int (y := (nI (5 * t))) (pk_mul 5 t) ?_
      refine q_iconst (v := 1) (by decide) d194_278 ?_
      refine q_iadd d194_279 ?_
      refine r_int (y := (nI ((5 * t) + 1))) (nI_add (5 * t) 1) ?_
      refine q_iload d194_280 rfl ?_
      refine q_if_ne (tgt := 289) d194_282 rfl (fun h9t => ?_) (fun h9f => ?_)
      ·
        exact False.elim (by first | exact absurd h9t h2f | exact absurd h2f h9t | exact (Int32.not_lt.mpr h9t) h2f | exact (Int32.not_lt.mpr h2f) h9t | exact h9t (Int32.not_le.mp h2f) | exact h2f (Int32.not_le.mp h9t) | omega)
      ·
        refine q_iconst (v := 4) (by decide) d194_285 ?_
        refine q_goto (tgt := 299) d194_286 rfl ?_
        refine q_iastore (a := ((5 * t) + 1)) d194_299 (lm411 (by omega)) (sm411 (by omega)) rfl (by omega) ?_
        refine q_aload d194_300 rfl ?_
        refine q_iconst (v := 5) (by decide) d194_302 ?_
        refine q_iload_n d194_303 rfl ?_
        refine q_imul d194_304 ?_
        refine r_int (y := (nI (5 * t))) (pk_mul 5 t) ?_
        refine q_iconst (v := 2) (by decide) d194_305 ?_
        refine q_iadd d194_306 ?_
        refine r_int (y := (nI ((5 * t) + 2))) (nI_add (5 * t) 2) ?_
        refine q_dload d194_307 rfl ?_
        refine q_dastore (a := ((5 * t) + 2)) d194_309 (lm403 (by omega)) (sm403 (by omega)) rfl (by omega) ?_
        refine q_aload d194_310 rfl ?_
        refine q_iconst (v := 5) (by decide) d194_312 ?_
        refine q_iload_n d194_313 rfl ?_
        refine q_imul d194_314 ?_
        refine r_int (y := (nI (5 * t))) (pk_mul 5 t) ?_
        refine q_iconst (v := 2) (by decide) d194_315 ?_
        refine q_iadd d194_316 ?_
        refine r_int (y := (nI ((5 * t) + 2))) (nI_add (5 * t) 2) ?_
        refine q_iload d194_317 rfl ?_
        refine q_if_ne (tgt := 326) d194_319 rfl (fun h10t => ?_) (fun h10f => ?_)
        ·
          exact False.elim (by first | exact absurd h10t h2f | exact absurd h2f h10t | exact (Int32.not_lt.mpr h10t) h2f | exact (Int32.not_lt.mpr h2f) h10t | exact h10t (Int32.not_le.mp h2f) | exact h2f (Int32.not_le.mp h10t) | omega)
        ·
          refine q_iconst (v := 4) (by decide) d194_322 ?_
          refine q_goto (tgt := 327) d194_323 rfl ?_
          refine q_iastore (a := ((5 * t) + 2)) d194_327 (lm411 (by omega)) (sm411 (by omega)) rfl (by omega) ?_
          refine q_aload d194_328 rfl ?_
          refine q_iconst (v := 5) (by decide) d194_330 ?_
          refine q_iload_n d194_331 rfl ?_
          refine q_imul d194_332 ?_
          refine r_int (y := (nI (5 * t))) (pk_mul 5 t) ?_
          refine q_iconst (v := 3) (by decide) d194_333 ?_
          refine q_iadd d194_334 ?_
          refine r_int (y := (nI ((5 * t) + 3))) (nI_add (5 * t) 3) ?_
          refine q_dload d194_335 rfl ?_
          refine q_dastore (a := ((5 * t) + 3)) d194_337 (lm403 (by omega)) (sm403 (by omega)) rfl (by omega) ?_
          refine q_aload d194_338 rfl ?_
          refine q_iconst (v := 5) (by decide) d194_340 ?_
          refine q_iload_n d194_341 rfl ?_
          refine q_imul d194_342 ?_
          refine r_int (y := (nI (5 * t))) (pk_mul 5 t) ?_
          refine q_iconst (v := 3) (by decide) d194_343 ?_
          refine q_iadd d194_344 ?_
          refine r_int (y := (nI ((5 * t) + 3))) (nI_add (5 * t) 3) ?_
          refine q_iload d194_345 rfl ?_
          refine q_if_ne (tgt := 354) d194_347 rfl (fun h11t => ?_) (fun h11f => ?_)
          ·
            exact False.elim (by first | exact absurd h11t h2f | exact absurd h2f h11t | exact (Int32.not_lt.mpr h11t) h2f | exact (Int32.not_lt.mpr h2f) h11t | exact h11t (Int32.not_le.mp h2f) | exact h2f (Int32.not_le.mp h11t) | omega)
          ·
            refine q_iconst (v := 4) (by decide) d194_350 ?_
            refine q_goto (tgt := 355) d194_351 rfl ?_
            refine q_iastore (a := ((5 * t) + 3)) d194_355 (lm411 (by omega)) (sm411 (by omega)) rfl (by omega) ?_
            refine q_aload d194_356 rfl ?_
            refine q_iconst (v := 5) (by decide) d194_358 ?_
            refine q_iload_n d194_359 rfl ?_
            refine q_imul d194_360 ?_
            refine r_int (y := (nI (5 * t))) (pk_mul 5 t) ?_
            refine q_iconst (v := 4) (by decide) d194_361 ?_
            refine q_iadd d194_362 ?_
            refine r_int (y := (nI ((5 * t) + 4))) (nI_add (5 * t) 4) ?_
            refine q_iload d194_363 rfl ?_
            refine q_i2d d194_365 ?_
            refine q_dastore (a := ((5 * t) + 4)) d194_366 (lm403 (by omega)) (sm403 (by omega)) rfl (by omega) ?_
            refine q_aload d194_367 rfl ?_
            refine q_iconst (v := 5) (by decide) d194_369 ?_
            refine q_iload_n d194_370 rfl ?_
            refine q_imul d194_371 ?_
            refine r_int (y := (nI (5 * t))) (pk_mul 5 t) ?_
            refine q_iconst (v := 4) (by decide) d194_372 ?_
            refine q_iadd d194_373 ?_
            refine r_int (y := (nI ((5 * t) + 4))) (nI_add (5 * t) 4) ?_
            refine q_iconst (v := 0) (by decide) d194_374 ?_
            refine q_iastore (a := ((5 * t) + 4)) d194_375 (lm411 (by omega)) (sm411 (by omega)) rfl (by omega) ?_
            exact r_sub (L' := [some (.ref 260), some (.int (nI t)), none, none, none, none, none, none, none, none, none, none, none, none]) ⟨rfl, rfl, trivial⟩ (v4 h1tc h2f)
  ·
    have h1fc : eb = true := bi_1 h1f
    refine q_iconst (v := 3) (by decide) d194_245 ?_
    refine q_goto (tgt := 250) d194_246 rfl ?_
    refine q_iastore (a := (5 * t)) d194_250 (lm411 (by omega)) (sm411 (by omega)) rfl (by omega) ?_
    refine q_aload d194_251 rfl ?_
    refine q_iconst (v := 5) (by decide) d194_253 ?_
    refine q_iload_n d194_254 rfl ?_
    refine q_imul d194_255 ?_
    refine r_int (y := (nI (5 * t))) (pk_mul 5 t) ?_
    refine q_iconst (v := 1) (by decide) d194_256 ?_
    refine q_iadd d194_257 ?_
    refine r_int (y := (nI ((5 * t) + 1))) (nI_add (5 * t) 1) ?_
    refine q_iload d194_258 rfl ?_
    refine q_if_ne (tgt := 267) d194_260 rfl (fun h12t => ?_) (fun h12f => ?_)
    ·
      refine q_dload_n d194_267 rfl ?_
      refine q_iload d194_268 rfl ?_
      refine q_i2d d194_270 ?_
      refine q_ddiv (v5 h1fc h12t) d194_271 ?_
      refine q_dastore (a := ((5 * t) + 1)) d194_272 (lm403 (by omega)) (sm403 (by omega)) rfl (by omega) ?_
      refine q_aload d194_273 rfl ?_
      refine q_iconst (v := 5) (by decide) d194_275 ?_
      refine q_iload_n d194_276 rfl ?_
      refine q_imul d194_277 ?_
      refine r_int (y := (nI (5 * t))) (pk_mul 5 t) ?_
      refine q_iconst (v := 1) (by decide) d194_278 ?_
      refine q_iadd d194_279 ?_
      refine r_int (y := (nI ((5 * t) + 1))) (nI_add (5 * t) 1) ?_
      refine q_iload d194_280 rfl ?_
      refine q_if_ne (tgt := 289) d194_282 rfl (fun h13t => ?_) (fun h13f => ?_)
      ·
        refine q_iload d194_289 rfl ?_
        refine q_if_eq (tgt := 298) d194_291 rfl (fun h14t => ?_) (fun h14f => ?_)
        ·
          have h14tc : eb = false := bi_0 h14t
          refine q_iconst (v := 0) (by decide) d194_298 ?_
          refine q_iastore (a := ((5 * t) + 1)) d194_299 (lm411 (by omega)) (sm411 (by omega)) rfl (by omega) ?_
          refine q_aload d194_300 rfl ?_
          refine q_iconst (v := 5) (by decide) d194_302 ?_
          refine q_iload_n d194_303 rfl ?_
          refine q_imul d194_304 ?_
          refine r_int (y := (nI (5 * t))) (pk_mul 5 t) ?_
          refine q_iconst (v := 2) (by decide) d194_305 ?_
          refine q_iadd d194_306 ?_
          refine r_int (y := (nI ((5 * t) + 2))) (nI_add (5 * t) 2) ?_
          refine q_dload d194_307 rfl ?_
          refine q_dastore (a := ((5 * t) + 2)) d194_309 (lm403 (by omega)) (sm403 (by omega)) rfl (by omega) ?_
          refine q_aload d194_310 rfl ?_
          refine q_iconst (v := 5) (by decide) d194_312 ?_
          refine q_iload_n d194_313 rfl ?_
          refine q_imul d194_314 ?_
          refine r_int (y := (nI (5 * t))) (pk_mul 5 t) ?_
          refine q_iconst (v := 2) (by decide) d194_315 ?_
          refine q_iadd d194_316 ?_
          refine r_int (y := (nI ((5 * t) + 2))) (nI_add (5 * t) 2) ?_
          refine q_iload d194_317 rfl ?_
          refine q_if_ne (tgt := 326) d194_319 rfl (fun h15t => ?_) (fun h15f => ?_)
          ·
            refine q_iconst (v := 0) (by decide) d194_326 ?_
            refine q_iastore (a := ((5 * t) + 2)) d194_327 (lm411 (by omega)) (sm411 (by omega)) rfl (by omega) ?_
            refine q_aload d194_328 rfl ?_
            refine q_iconst (v := 5) (by decide) d194_330 ?_
            refine q_iload_n d194_331 rfl ?_
            refine q_imul d194_332 ?_
            refine r_int (y := (nI (5 * t))) (pk_mul 5 t) ?_
            refine q_iconst (v := 3) (by decide) d194_333 ?_
            refine q_iadd d194_334 ?_
            refine r_int (y := (nI ((5 * t) + 3))) (nI_add (5 * t) 3) ?_
            refine q_dload d194_335 rfl ?_
            refine q_dastore (a := ((5 * t) + 3)) d194_337 (lm403 (by omega)) (sm403 (by omega)) rfl (by omega) ?_
            refine q_aload d194_338 rfl ?_
            refine q_iconst (v := 5) (by decide) d194_340 ?_
            refine q_iload_n d194_341 rfl ?_
            refine q_imul d194_342 ?_
            refine r_int (y := (nI (5 * t))) (pk_mul 5 t) ?_
            refine q_iconst (v := 3) (by decide) d194_343 ?_
            refine q_iadd d194_344 ?_
            refine r_int (y := (nI ((5 * t) + 3))) (nI_add (5 * t) 3) ?_
            refine q_iload d194_345 rfl ?_
            refine q_if_ne (tgt := 354) d194_347 rfl (fun h16t => ?_) (fun h16f => ?_)
            ·
              refine q_iconst (v := 0) (by decide) d194_354 ?_
              refine q_iastore (a := ((5 * t) + 3)) d194_355 (lm411 (by omega)) (sm411 (by omega)) rfl (by omega) ?_
              refine q_aload d194_356 rfl ?_
              refine q_iconst (v := 5) (by decide) d194_358 ?_
              refine q_iload_n d194_359 rfl ?_
              refine q_imul d194_360 ?_
              refine r_int (y := (nI (5 * t))) (pk_mul 5 t) ?_
              refine q_iconst (v := 4) (by decide) d194_361 ?_
              refine q_iadd d194_362 ?_
              refine r_int (y := (nI ((5 * t) + 4))) (nI_add (5 * t) 4) ?_
              refine q_iload d194_363 rfl ?_
              refine q_i2d d194_365 ?_
              refine q_dastore (a := ((5 * t) + 4)) d194_366 (lm403 (by omega)) (sm403 (by omega)) rfl (by omega) ?_
              refine q_aload d194_367 rfl ?_
              refine q_iconst (v := 5) (by decide) d194_369 ?_
              refine q_iload_n d194_370 rfl ?_
              refine q_imul d194_371 ?_
              refine r_int (y := (nI (5 * t))) (pk_mul 5 t) ?_
              refine q_iconst (v := 4) (by decide) d194_372 ?_
              refine q_iadd d194_373 ?_
              refine r_int (y := (nI ((5 * t) + 4))) (nI_add (5 * t) 4) ?_
              refine q_iconst (v := 0) (by decide) d194_374 ?_
              refine q_iastore (a := ((5 * t) + 4)) d194_375 (lm411 (by omega)) (sm411 (by omega)) rfl (by omega) ?_
              exact r_sub (L' := [some (.ref 260), some (.int (nI t)), none, none, none, none, none, none, none, none, none, none, none, none]) ⟨rfl, rfl, trivial⟩ (v6 h1fc h12t h14tc)
            ·
              exact False.elim (by first | exact absurd h16f h12t | exact absurd h12t h16f | exact (Int32.not_lt.mpr h16f) h12t | exact (Int32.not_lt.mpr h12t) h16f | exact h16f (Int32.not_le.mp h12t) | exact h12t (Int32.not_le.mp h16f) | omega)
          ·
            exact False.elim (by first | exact absurd h15f h12t | exact absurd h12t h15f | exact (Int32.not_lt.mpr h15f) h12t | exact (Int32.not_lt.mpr h12t) h15f | exact h15f (Int32.not_le.mp h12t) | exact h12t (Int32.not_le.mp h15f) | omega)
        ·
          have h14fc : eb = true := bi_1 h14f
          refine q_iconst (v := 3) (by decide) d194_294 ?_
          refine q_goto (tgt := 299) d194_295 rfl ?_
          refine q_iastore (a := ((5 * t) + 1)) d194_299 (lm411 (by omega)) (sm411 (by omega)) rfl (by omega) ?_
          refine q_aload d194_300 rfl ?_
          refine q_iconst (v := 5) (by decide) d194_302 ?_
          refine q_iload_n d194_303 rfl ?_
          refine q_imul d194_304 ?_
          refine r_int (y := (nI (5 * t))) (pk_mul 5 t) ?_
          refine q_iconst (v := 2) (by decide) d194_305 ?_
          refine q_iadd d194_306 ?_
          refine r_int (y := (nI ((5 * t) + 2))) (nI_add (5 * t) 2) ?_
          refine q_dload d194_307 rfl ?_
          refine q_dastore (a := ((5 * t) + 2)) d194_309 (lm403 (by omega)) (sm403 (by omega)) rfl (by omega) ?_
          refine q_aload d194_310 rfl ?_
          refine q_iconst (v := 5) (by decide) d194_312 ?_
          refine q_iload_n d194_313 rfl ?_
          refine q_imul d194_314 ?_
          refine r_int (y := (nI (5 * t))) (pk_mul 5 t) ?_
          refine q_iconst (v := 2) (by decide) d194_315 ?_
          refine q_iadd d194_316 ?_
          refine r_int (y := (nI ((5 * t) + 2))) (nI_add (5 * t) 2) ?_
          refine q_iload d194_317 rfl ?_
          refine q_if_ne (tgt := 326) d194_319 rfl (fun h17t => ?_) (fun h17f => ?_)
          ·
            refine q_iconst (v := 0) (by decide) d194_326 ?_
            refine q_iastore (a := ((5 * t) + 2)) d194_327 (lm411 (by omega)) (sm411 (by omega)) rfl (by omega) ?_
            refine q_aload d194_328 rfl ?_
            refine q_iconst (v := 5) (by decide) d194_330 ?_
            refine q_iload_n d194_331 rfl ?_
            refine q_imul d194_332 ?_
            refine r_int (y := (nI (5 * t))) (pk_mul 5 t) ?_
            refine q_iconst (v := 3) (by decide) d194_333 ?_
            refine q_iadd d194_334 ?_
            refine r_int (y := (nI ((5 * t) + 3))) (nI_add (5 * t) 3) ?_
            refine q_dload d194_335 rfl ?_
            refine q_dastore (a := ((5 * t) + 3)) d194_337 (lm403 (by omega)) (sm403 (by omega)) rfl (by omega) ?_
            refine q_aload d194_338 rfl ?_
            refine q_iconst (v := 5) (by decide) d194_340 ?_
            refine q_iload_n d194_341 rfl ?_
            refine q_imul d194_342 ?_
            refine r_int (y := (nI (5 * t))) (pk_mul 5 t) ?_
            refine q_iconst (v := 3) (by decide) d194_343 ?_
            refine q_iadd d194_344 ?_
            refine r_int (y := (nI ((5 * t) + 3))) (nI_add (5 * t) 3) ?_
            refine q_iload d194_345 rfl ?_
            refine q_if_ne (tgt := 354) d194_347 rfl (fun h18t => ?_) (fun h18f => ?_)
            ·
              refine q_iconst (v := 0) (by decide) d194_354 ?_
              refine q_iastore (a := ((5 * t) + 3)) d194_355 (lm411 (by omega)) (sm411 (by omega)) rfl (by omega) ?_
              refine q_aload d194_356 rfl ?_
              refine q_iconst (v := 5) (by decide) d194_358 ?_
              refine q_iload_n d194_359 rfl ?_
              refine q_imul d194_360 ?_
              refine r_int (y := (nI (5 * t))) (pk_mul 5 t) ?_
              refine q_iconst (v := 4) (by decide) d194_361 ?_
              refine q_iadd d194_362 ?_
              refine r_int (y := (nI ((5 * t) + 4))) (nI_add (5 * t) 4) ?_
              refine q_iload d194_363 rfl ?_
              refine q_i2d d194_365 ?_
              refine q_dastore (a := ((5 * t) + 4)) d194_366 (lm403 (by omega)) (sm403 (by omega)) rfl (by omega) ?_
              refine q_aload d194_367 rfl ?_
              refine q_iconst (v := 5) (by decide) d194_369 ?_
              refine q_iload_n d194_370 rfl ?_
              refine q_imul d194_371 ?_
              refine r_int (y := (nI (5 * t))) (pk_mul 5 t) ?_
              refine q_iconst (v := 4) (by decide) d194_372 ?_
              refine q_iadd d194_373 ?_
              refine r_int (y := (nI ((5 * t) + 4))) (nI_add (5 * t) 4) ?_
              refine q_iconst (v := 0) (by decide) d194_374 ?_
              refine q_iastore (a := ((5 * t) + 4)) d194_375 (lm411 (by omega)) (sm411 (by omega)) rfl (by omega) ?_
              exact r_sub (L' := [some (.ref 260), some (.int (nI t)), none, none, none, none, none, none, none, none, none, none, none, none]) ⟨rfl, rfl, trivial⟩ (v7 h1fc h12t h14fc)
            ·
              exact False.elim (by first | exact absurd h18f h12t | exact absurd h12t h18f | exact (Int32.not_lt.mpr h18f) h12t | exact (Int32.not_lt.mpr h12t) h18f | exact h18f (Int32.not_le.mp h12t) | exact h12t (Int32.not_le.mp h18f) | omega)
          ·
            exact False.elim (by first | exact absurd h17f h12t | exact absurd h12t h17f | exact (Int32.not_lt.mpr h17f) h12t | exact (Int32.not_lt.mpr h12t) h17f | exact h17f (Int32.not_le.mp h12t) | exact h12t (Int32.not_le.mp h17f) | omega)
      ·
        exact False.elim (by first | exact absurd h13f h12t | exact absurd h12t h13f | exact (Int32.not_lt.mpr h13f) h12t | exact (Int32.not_lt.mpr h12t) h13f | exact h13f (Int32.not_le.mp h12t) | exact h12t (Int32.not_le.mp h13f) | omega)
    ·
      refine q_dconst0 d194_263 ?_
      refine q_goto (tgt := 272) d194_264 rfl ?_
      refine q_dastore (a := ((5 * t) + 1)) d194_272 (lm403 (by omega)) (sm403 (by omega)) rfl (by omega) ?_
      refine q_aload d194_273 rfl ?_
      refine q_iconst (v := 5) (by decide) d194_275 ?_
      refine q_iload_n d194_276 rfl ?_
      refine q_imul d194_277 ?_
      refine r_int (y := (nI (5 * t))) (pk_mul 5 t) ?_
      refine q_iconst (v := 1) (by decide) d194_278 ?_
      refine q_iadd d194_279 ?_
      refine r_int (y := (nI ((5 * t) + 1))) (nI_add (5 * t) 1) ?_
      refine q_iload d194_280 rfl ?_
      refine q_if_ne (tgt := 289) d194_282 rfl (fun h19t => ?_) (fun h19f => ?_)
      ·
        exact False.elim (by first | exact absurd h19t h12f | exact absurd h12f h19t | exact (Int32.not_lt.mpr h19t) h12f | exact (Int32.not_lt.mpr h12f) h19t | exact h19t (Int32.not_le.mp h12f) | exact h12f (Int32.not_le.mp h19t) | omega)
      ·
        refine q_iconst (v := 4) (by decide) d194_285 ?_
        refine q_goto (tgt := 299) d194_286 rfl ?_
        refine q_iastore (a := ((5 * t) + 1)) d194_299 (lm411 (by omega)) (sm411 (by omega)) rfl (by omega) ?_
        refine q_aload d194_300 rfl ?_
        refine q_iconst (v := 5) (by decide) d194_302 ?_
        refine q_iload_n d194_303 rfl ?_
        refine q_imul d194_304 ?_
        refine r_int (y := (nI (5 * t))) (pk_mul 5 t) ?_
        refine q_iconst (v := 2) (by decide) d194_305 ?_
        refine q_iadd d194_306 ?_
        refine r_int (y := (nI ((5 * t) + 2))) (nI_add (5 * t) 2) ?_
        refine q_dload d194_307 rfl ?_
        refine q_dastore (a := ((5 * t) + 2)) d194_309 (lm403 (by omega)) (sm403 (by omega)) rfl (by omega) ?_
        refine q_aload d194_310 rfl ?_
        refine q_iconst (v := 5) (by decide) d194_312 ?_
        refine q_iload_n d194_313 rfl ?_
        refine q_imul d194_314 ?_
        refine r_int (y := (nI (5 * t))) (pk_mul 5 t) ?_
        refine q_iconst (v := 2) (by decide) d194_315 ?_
        refine q_iadd d194_316 ?_
        refine r_int (y := (nI ((5 * t) + 2))) (nI_add (5 * t) 2) ?_
        refine q_iload d194_317 rfl ?_
        refine q_if_ne (tgt := 326) d194_319 rfl (fun h20t => ?_) (fun h20f => ?_)
        ·
          exact False.elim (by first | exact absurd h20t h12f | exact absurd h12f h20t | exact (Int32.not_lt.mpr h20t) h12f | exact (Int32.not_lt.mpr h12f) h20t | exact h20t (Int32.not_le.mp h12f) | exact h12f (Int32.not_le.mp h20t) | omega)
        ·
          refine q_iconst (v := 4) (by decide) d194_322 ?_
          refine q_goto (tgt := 327) d194_323 rfl ?_
          refine q_iastore (a := ((5 * t) + 2)) d194_327 (lm411 (by omega)) (sm411 (by omega)) rfl (by omega) ?_
          refine q_aload d194_328 rfl ?_
          refine q_iconst (v := 5) (by decide) d194_330 ?_
          refine q_iload_n d194_331 rfl ?_
          refine q_imul d194_332 ?_
          refine r_int (y := (nI (5 * t))) (pk_mul 5 t) ?_
          refine q_iconst (v := 3) (by decide) d194_333 ?_
          refine q_iadd d194_334 ?_
          refine r_int (y := (nI ((5 * t) + 3))) (nI_add (5 * t) 3) ?_
          refine q_dload d194_335 rfl ?_
          refine q_dastore (a := ((5 * t) + 3)) d194_337 (lm403 (by omega)) (sm403 (by omega)) rfl (by omega) ?_
          refine q_aload d194_338 rfl ?_
          refine q_iconst (v := 5) (by decide) d194_340 ?_
          refine q_iload_n d194_341 rfl ?_
          refine q_imul d194_342 ?_
          refine r_int (y := (nI (5 * t))) (pk_mul 5 t) ?_
          refine q_iconst (v := 3) (by decide) d194_343 ?_
          refine q_iadd d194_344 ?_
          refine r_int (y := (nI ((5 * t) + 3))) (nI_add (5 * t) 3) ?_
          refine q_iload d194_345 rfl ?_
          refine q_if_ne (tgt := 354) d194_347 rfl (fun h21t => ?_) (fun h21f => ?_)
          ·
            exact False.elim (by first | exact absurd h21t h12f | exact absurd h12f h21t | exact (Int32.not_lt.mpr h21t) h12f | exact (Int32.not_lt.mpr h12f) h21t | exact h21t (Int32.not_le.mp h12f) | exact h12f (Int32.not_le.mp h21t) | omega)
          ·
            refine q_iconst (v := 4) (by decide) d194_350 ?_
            refine q_goto (tgt := 355) d194_351 rfl ?_
            refine q_iastore (a := ((5 * t) + 3)) d194_355 (lm411 (by omega)) (sm411 (by omega)) rfl (by omega) ?_
            refine q_aload d194_356 rfl ?_
            refine q_iconst (v := 5) (by decide) d194_358 ?_
            refine q_iload_n d194_359 rfl ?_
            refine q_imul d194_360 ?_
            refine r_int (y := (nI (5 * t))) (pk_mul 5 t) ?_
            refine q_iconst (v := 4) (by decide) d194_361 ?_
            refine q_iadd d194_362 ?_
            refine r_int (y := (nI ((5 * t) + 4))) (nI_add (5 * t) 4) ?_
            refine q_iload d194_363 rfl ?_
            refine q_i2d d194_365 ?_
            refine q_dastore (a := ((5 * t) + 4)) d194_366 (lm403 (by omega)) (sm403 (by omega)) rfl (by omega) ?_
            refine q_aload d194_367 rfl ?_
            refine q_iconst (v := 5) (by decide) d194_369 ?_
            refine q_iload_n d194_370 rfl ?_
            refine q_imul d194_371 ?_
            refine r_int (y := (nI (5 * t))) (pk_mul 5 t) ?_
            refine q_iconst (v := 4) (by decide) d194_372 ?_
            refine q_iadd d194_373 ?_
            refine r_int (y := (nI ((5 * t) + 4))) (nI_add (5 * t) 4) ?_
            refine q_iconst (v := 0) (by decide) d194_374 ?_
            refine q_iastore (a := ((5 * t) + 4)) d194_375 (lm411 (by omega)) (sm411 (by omega)) rfl (by omega) ?_
            exact r_sub (L' := [some (.ref 260), some (.int (nI t)), none, none, none, none, none, none, none, none, none, none, none, none]) ⟨rfl, rfl, trivial⟩ (v8 h1fc h12f)

set_option maxRecDepth 10000 in
set_option maxHeartbeats 4000000 in
theorem u194z {d : Nat} {I : Nat → Nat → Int32} {D : Nat → Nat → UInt64} {R : Nat → Nat → Option Nat} {Q : j_Po} {t : Nat} {l : Nat} (h18 : I 260 18 = nI l) (hl : l < 7) (ht : t < 6) (hd : 1 ≤ d)
    (v1 : Q none w1 ((j_u I (396 + l) t 1), D, RR R)) : j_W 194 d 0 0 0 0 376 [some (.ref 260), some (.int (nI t)), none, none, none, none, none, none, none, none, none, none, none, none] [] w1 (I, D, RR R) Q := by
  refine q_aload_n d194_376 rfl ?_
  refine q_getR (x := 395) d194_377 (fs10_84 194 rfl) rfl (lt_w1 rfl) sh260 (rs260_23 R) (by decide) ?_
  refine q_aload_n d194_380 rfl ?_
  refine q_getI d194_381 (fs10_247 194 rfl) rfl (lt_w1 rfl) sh260 ?_
  refine r_int (y := (nI l)) (show I 260 18 = (nI l) from h18) ?_
  refine q_aaload (c := 5) (a := l) (x := (396 + l)) d194_384 (lt_w1 rfl) sh395 (by decide) rfl (by omega) (rm395 R (by omega)) (lt1000 (lm395 (by omega))) ?_
  refine q_iload_n d194_385 rfl ?_
  refine q_iconst (v := 1) (by decide) d194_386 ?_
  refine q_zastore (a := t) d194_387 (Or.inr rfl) (lm395 (by omega)) (sm395 (by omega)) rfl (by omega) ?_
  exact q_ret d194_388 rfl (Nat.le_refl _) (Nat.le_refl _) v1

