/-! chance -/
set_option maxRecDepth 10000 in
set_option maxHeartbeats 4000000 in
theorem u142a {d : Nat} {I : Nat → Nat → Int32} {D : Nat → Nat → UInt64} {R : Nat → Nat → Option Nat} {Q : j_Po} {c : Nat} {s : Int32} {n : Nat} {w : Int32} {o : Nat}  {AP : (Nat → Nat → Int32) → (Nat → Nat → UInt64) → Prop} (hA : ∀ (Q : j_Po), (∀ J E, AP J E → Q none w1 (J, E, RR R)) → j_Call (d - 1) 34 [.ref 107] w1 (I, D, RR R) 0 0 Q) (hd : 1 ≤ d)
    (v1 : ∀ J1 : Nat → Nat → Int32, ∀ E2 : Nat → Nat → UInt64, (AP J1 E2) → j_W 142 d 0 0 0 0 49 [some (.ref 0), some (.int (nI c)), some (.int s), some (.int (nI n)), some (.int w), some (.int (nI o)), none, none, none] [] w1 (J1, E2, RR R) Q) : j_W 142 d 0 0 0 0 42 [some (.ref 0), some (.int (nI c)), some (.int s), some (.int (nI n)), some (.int w), some (.int (nI o)), none, none, none] [] w1 (I, D, RR R) Q := by
  refine q_aload_n d142_42 rfl ?_
  refine q_getR (x := 107) d142_43 (fs9_46 142 rfl) rfl (lt_w1 rfl) sh0 (rs0_0 R) (by decide) ?_
  refine q_invV (o := 107) (ci := 8) (av := []) (rest := []) (d' := (d - 1)) (mc' := 0) (ms' := 0) d142_46 (cv9_138 142 rfl) rfl (by decide) rfl rfl (by omega) (Nat.le_of_ble_eq_true rfl) (Nat.le_of_ble_eq_true rfl) (lt_w1 rfl) sh107 (Nat.le_refl _) (Nat.le_refl _) ?_
  refine hA _  (fun J1 E2 h3 => ?_)
  show j_W 142 d 0 0 0 0 49 [some (.ref 0), some (.int (nI c)), some (.int s), some (.int (nI n)), some (.int w), some (.int (nI o)), none, none, none] [] w1 (J1, E2, RR R) Q
  exact r_sub (L' := [some (.ref 0), some (.int (nI c)), some (.int s), some (.int (nI n)), some (.int w), some (.int (nI o)), none, none, none]) ⟨rfl, rfl, rfl, rfl, rfl, rfl, trivial⟩ (v1 J1 E2 h3)

set_option maxRecDepth 10000 in
set_option maxHeartbeats 4000000 in
theorem u142b {d : Nat} {I : Nat → Nat → Int32} {D : Nat → Nat → UInt64} {R : Nat → Nat → Option Nat} {Q : j_Po} {c : Nat} {s : Int32} {n : Nat} {w : Int32} {o : Nat}   (hd : 1 ≤ d)
    (v1 : j_W 142 d 0 0 0 0 55 [some (.ref 0), some (.int (nI c)), some (.int s), some (.int (nI n)), some (.int w), some (.int (nI o)), some (.int 0), some (.int 0), none] [] w1 (I, D, RR R) Q) : j_W 142 d 0 0 0 0 49 [some (.ref 0), some (.int (nI c)), some (.int s), some (.int (nI n)), some (.int w), some (.int (nI o)), none, none, none] [] w1 (I, D, RR R) Q := by
  refine q_iconst (v := 0) (by decide) d142_49 ?_
  refine q_istore (L' := [some (.ref 0), some (.int (nI c)), some (.int s), some (.int (nI n)), some (.int w), some (.int (nI o)), some (.int 0), none, none]) d142_50 (Nat.le_of_ble_eq_true rfl) rfl ?_
  refine q_iconst (v := 0) (by decide) d142_52 ?_
  refine q_istore (L' := [some (.ref 0), some (.int (nI c)), some (.int s), some (.int (nI n)), some (.int w), some (.int (nI o)), some (.int 0), some (.int 0), none]) d142_53 (Nat.le_of_ble_eq_true rfl) rfl ?_
  exact r_sub (L' := [some (.ref 0), some (.int (nI c)), some (.int s), some (.int (nI n)), some (.int w), some (.int (nI o)), some (.int 0), some (.int 0), none]) ⟨rfl, rfl, rfl, rfl, rfl, rfl, rfl, rfl, trivial⟩ v1

set_option maxRecDepth 10000 in
set_option maxHeartbeats 4000000 in
theorem u142h {d : Nat} {I : Nat → Nat → Int32} {D : Nat → Nat → UInt64} {R : Nat → Nat → Option Nat} {Q : j_Po} {c : Nat} {s : Int32} {n : Nat} {w : Int32} {o : Nat} {h : Nat} {i : Nat} {β : Bd} {η : VEnv} {p : Nat → Bool} (hR : WFR R) (hV : BV β) (hC : CB β I D R) (hN : NM β I) (hO : OrdB β I) (hc : c < 24) (hn : n ≤ 20) (hi : i ≤ 20) (hh : h ≤ 20) (hd : 50 ≤ d)
    (v1 : (n ≤ i) → j_W 142 d 0 0 0 0 111 [some (.ref 0), none, none, some (.int (nI n)), none, some (.int (nI o)), some (.int (nI h)), none, none] [] w1 (I, D, RR R) Q)
    (v2 : (¬ n ≤ i) → ∀ v, v < 24 → p v = bt (I 207 c) v)
    (v3 : (¬ n ≤ i) → c < 24)
    (v4 : (¬ n ≤ i) → I 107 7 = 0)
    (v5 : (¬ n ≤ i) → LE β I D 0 η)
    (v6 : (¬ n ≤ i) → 40 ≤ 40)
    (v7 : (¬ n ≤ i) → ∀ J2 : Nat → Nat → Int32, ∀ E3 : Nat → Nat → UInt64, (FRc I D J2 E3) → (J2 107 7 = 0) → (LE β J2 E3 0 (lot p β 24 0 (s + (nI i)) η)) → (LC J2 E3 0 c (val β (lot p β 24 0 (s + (nI i)) (env β)) c)) → (¬ (nI ((val β (lot p β 24 0 (s + (nI i)) (env β)) c).1)) = 0) → j_W 142 d 0 0 0 0 55 [some (.ref 0), some (.int (nI c)), some (.int s), some (.int (nI n)), some (.int w), some (.int (nI o)), some (.int (nI h)), some (.int (nI (i + 1))), none] [] w1 (J2, E3, RR R) Q)
    (v8 : (¬ n ≤ i) → ∀ J2 : Nat → Nat → Int32, ∀ E3 : Nat → Nat → UInt64, (FRc I D J2 E3) → (J2 107 7 = 0) → (LE β J2 E3 0 (lot p β 24 0 (s + (nI i)) η)) → (LC J2 E3 0 c (val β (lot p β 24 0 (s + (nI i)) (env β)) c)) → ((nI ((val β (lot p β 24 0 (s + (nI i)) (env β)) c).1)) = 0) → (dge (E3 213 c) (FP.ddiv (FP.i2d w) 4620693217682128896) = false) → j_W 142 d 0 0 0 0 55 [some (.ref 0), some (.int (nI c)), some (.int s), some (.int (nI n)), some (.int w), some (.int (nI o)), some (.int (nI h)), some (.int (nI (i + 1))), none] [] w1 (J2, E3, RR R) Q)
    (v9 : (¬ n ≤ i) → ∀ J2 : Nat → Nat → Int32, ∀ E3 : Nat → Nat → UInt64, (FRc I D J2 E3) → (J2 107 7 = 0) → (LE β J2 E3 0 (lot p β 24 0 (s + (nI i)) η)) → (LC J2 E3 0 c (val β (lot p β 24 0 (s + (nI i)) (env β)) c)) → ((nI ((val β (lot p β 24 0 (s + (nI i)) (env β)) c).1)) = 0) → (dge (E3 213 c) (FP.ddiv (FP.i2d w) 4620693217682128896) = true) → j_W 142 d 0 0 0 0 55 [some (.ref 0), some (.int (nI c)), some (.int s), some (.int (nI n)), some (.int w), some (.int (nI o)), some (.int (nI (h + 1))), some (.int (nI (i + 1))), none] [] w1 (J2, E3, RR R) Q) : j_W 142 d 0 0 0 0 55 [some (.ref 0), some (.int (nI c)), some (.int s), some (.int (nI n)), some (.int w), some (.int (nI o)), some (.int (nI h)), some (.int (nI i)), none] [] w1 (I, D, RR R) Q := by
  refine q_iload d142_55 rfl ?_
  refine q_iload_n d142_57 rfl ?_
  refine q_icmp_ge (tgt := 111) d142_58 rfl (fun h1t => ?_) (fun h1f => ?_)
  ·
    have h1tc : n ≤ i := (nI_leI (by omega) (by omega)).mp h1t
    exact r_sub (L' := [some (.ref 0), none, none, some (.int (nI n)), none, some (.int (nI o)), some (.int (nI h)), none, none]) ⟨rfl, rfl, rfl, rfl, trivial⟩ (v1 h1tc)
  ·
    have h1fc : ¬ n ≤ i := mt (nI_leI (by omega) (by omega)).mpr h1f
    refine q_aload_n d142_61 rfl ?_
    refine q_getR (x := 107) d142_62 (fs9_46 142 rfl) rfl (lt_w1 rfl) sh0 (rs0_0 R) (by decide) ?_
    refine q_iload_n d142_65 rfl ?_
    refine q_iload_n d142_66 rfl ?_
    refine q_iload d142_67 rfl ?_
    refine q_iadd d142_69 ?_
    refine q_invV (o := 107) (ci := 8) (av := [.int (nI c), .int (s + (nI i))]) (rest := []) (d' := 40) (mc' := 0) (ms' := 0) d142_70 (cv9_325 142 rfl) rfl (by decide) rfl rfl (by omega) (Nat.le_of_ble_eq_true rfl) (Nat.le_of_ble_eq_true rfl) (lt_w1 rfl) sh107 (Nat.le_refl _) (Nat.le_refl _) ?_
    refine c143 (η := η) (p := p) hR hV hC hN hO (v2 h1fc) (v3 h1fc) (v4 h1fc) (v5 h1fc) (v6 h1fc) (fun J2 E3 h4 h5 h6 h7 => ?_)
    show j_W 142 d 0 0 0 0 73 [some (.ref 0), some (.int (nI c)), some (.int s), some (.int (nI n)), some (.int w), some (.int (nI o)), some (.int (nI h)), some (.int (nI i)), none] [.int (nI ((val β (lot p β 24 0 (s + (nI i)) (env β)) c).1))] w1 (J2, E3, RR R) Q
    refine q_istore (L' := [some (.ref 0), some (.int (nI c)), some (.int s), some (.int (nI n)), some (.int w), some (.int (nI o)), some (.int (nI h)), some (.int (nI i)), some (.int (nI ((val β (lot p β 24 0 (s + (nI i)) (env β)) c).1)))]) d142_73 (Nat.le_of_ble_eq_true rfl) rfl ?_
    refine q_iload d142_75 rfl ?_
    refine q_if_ne (tgt := 105) d142_77 rfl (fun h8t => ?_) (fun h8f => ?_)
    ·
      refine q_iinc (L' := [some (.ref 0), some (.int (nI c)), some (.int s), some (.int (nI n)), some (.int w), some (.int (nI o)), some (.int (nI h)), some (.int (nI (i + 1))), some (.int (nI ((val β (lot p β 24 0 (s + (nI i)) (env β)) c).1)))]) (v := (nI (i + 1))) d142_105 rfl (nI_inc _) rfl ?_
      refine q_goto (tgt := 55) d142_108 rfl ?_
      exact r_sub (L' := [some (.ref 0), some (.int (nI c)), some (.int s), some (.int (nI n)), some (.int w), some (.int (nI o)), some (.int (nI h)), some (.int (nI (i + 1))), none]) ⟨rfl, rfl, rfl, rfl, rfl, rfl, rfl, rfl, trivial⟩ (v7 h1fc J2 E3 h4 h5 h6 h7 h8t)
    ·
      refine q_aload_n d142_80 rfl ?_
      refine q_getR (x := 107) d142_81 (fs9_46 142 rfl) rfl (lt_w1 rfl) sh0 (rs0_0 R) (by decide) ?_
      refine q_getR (x := 212) d142_84 (fs9_129 142 rfl) rfl (lt_w1 rfl) sh107 (rs107_3 R) (by decide) ?_
      refine q_iconst (v := 0) (by decide) d142_87 ?_
      refine q_aaload (c := 3) (a := 0) (x := 213) d142_88 (lt_w1 rfl) sh212 (by decide) rfl (by decide) (rm212 (k := 0) R (by decide)) (by decide) ?_
      refine q_iload_n d142_89 rfl ?_
      refine q_daload (a := c) d142_90 (lt_w1 rfl) sh213 rfl (by omega) ?_
      refine q_iload d142_91 rfl ?_
      refine q_i2d d142_93 ?_
      refine q_ldcD (v := 4620693217682128896) d142_94 (kc9_80 142 rfl) ?_
      refine q_ddiv (n64_i8 _) d142_97 ?_
      refine q_dcmp d142_98 ?_
      refine q_if_lt (tgt := 105) d142_99 rfl (fun h9t => ?_) (fun h9f => ?_)
      ·
        have h9tc : dge (E3 213 c) (FP.ddiv (FP.i2d w) 4620693217682128896) = false := dc_l_lt_t h9t
        refine q_iinc (L' := [some (.ref 0), some (.int (nI c)), some (.int s), some (.int (nI n)), some (.int w), some (.int (nI o)), some (.int (nI h)), some (.int (nI (i + 1))), some (.int (nI ((val β (lot p β 24 0 (s + (nI i)) (env β)) c).1)))]) (v := (nI (i + 1))) d142_105 rfl (nI_inc _) rfl ?_
        refine q_goto (tgt := 55) d142_108 rfl ?_
        exact r_sub (L' := [some (.ref 0), some (.int (nI c)), some (.int s), some (.int (nI n)), some (.int w), some (.int (nI o)), some (.int (nI h)), some (.int (nI (i + 1))), none]) ⟨rfl, rfl, rfl, rfl, rfl, rfl, rfl, rfl, trivial⟩ (v8 h1fc J2 E3 h4 h5 h6 h7 h8f h9tc)
      ·
        have h9fc : dge (E3 213 c) (FP.ddiv (FP.i2d w) 4620693217682128896) = true := dc_l_lt_f h9f
        refine q_iinc (L' := [some (.ref 0), some (.int (nI c)), some (.int s), some (.int (nI n)), some (.int w), some (.int (nI o)), some (.int (nI (h + 1))), some (.int (nI i)), some (.int (nI ((val β (lot p β 24 0 (s + (nI i)) (env β)) c).1)))]) (v := (nI (h + 1))) d142_102 rfl (nI_inc _) rfl ?_
        refine q_iinc (L' := [some (.ref 0), some (.int (nI c)), some (.int s), some (.int (nI n)), some (.int w), some (.int (nI o)), some (.int (nI (h + 1))), some (.int (nI (i + 1))), some (.int (nI ((val β (lot p β 24 0 (s + (nI i)) (env β)) c).1)))]) (v := (nI (i + 1))) d142_105 rfl (nI_inc _) rfl ?_
        refine q_goto (tgt := 55) d142_108 rfl ?_
        exact r_sub (L' := [some (.ref 0), some (.int (nI c)), some (.int s), some (.int (nI n)), some (.int w), some (.int (nI o)), some (.int (nI (h + 1))), some (.int (nI (i + 1))), none]) ⟨rfl, rfl, rfl, rfl, rfl, rfl, rfl, rfl, trivial⟩ (v9 h1fc J2 E3 h4 h5 h6 h7 h8f h9fc)

set_option maxRecDepth 10000 in
set_option maxHeartbeats 4000000 in
theorem u142z {d : Nat} {I : Nat → Nat → Int32} {D : Nat → Nat → UInt64} {R : Nat → Nat → Option Nat} {Q : j_Po} {n : Nat} {o : Nat} {h : Nat}  (ho : o < 2) (hg : Nat.gcd h n < 100) (hd : 1 ≤ d)
    (v1 : n ≤ 20)
    (v2 : h ≤ 20)
    (v3 : (1 ≤ (Nat.gcd h n)) → (¬ (nI o) = 0) → ¬ (nI (Nat.gcd h n)) = 0)
    (v4 : (1 ≤ (Nat.gcd h n)) → (¬ (nI o) = 0) → Q (some (.int ((nI n) / (nI (Nat.gcd h n))))) w1 (I, D, RR R))
    (v5 : (1 ≤ (Nat.gcd h n)) → ((nI o) = 0) → ¬ (nI (Nat.gcd h n)) = 0)
    (v6 : (1 ≤ (Nat.gcd h n)) → ((nI o) = 0) → Q (some (.int ((nI h) / (nI (Nat.gcd h n))))) w1 (I, D, RR R))
    (v7 : (¬ 1 ≤ (Nat.gcd h n)) → Q (some (.int (-2))) w1 (I, D, RR R)) : j_W 142 d 0 0 0 0 111 [some (.ref 0), none, none, some (.int (nI n)), none, some (.int (nI o)), some (.int (nI h)), none, none] [] w1 (I, D, RR R) Q := by
  refine q_iload_n d142_111 rfl ?_
  refine q_iload d142_112 rfl ?_
  refine q_invS (av := [.int (nI n), .int (nI h)]) (rest := []) (d' := 0) (mc' := 0) (ms' := 0) d142_114 (cv9_329 142 rfl) rfl rfl (by omega) (Nat.le_of_ble_eq_true rfl) (Nat.le_of_ble_eq_true rfl) (Nat.le_refl _) (Nat.le_refl _) ?_
  refine c144 v1 v2 ?_
  show j_W 142 d 0 0 0 0 117 [some (.ref 0), none, none, some (.int (nI n)), none, some (.int (nI o)), some (.int (nI h)), none, none] [.int (nI (Nat.gcd h n))] w1 (I, D, RR R) Q
  refine q_istore (L' := [some (.ref 0), none, none, some (.int (nI n)), none, some (.int (nI o)), some (.int (nI h)), some (.int (nI (Nat.gcd h n))), none]) d142_117 (Nat.le_of_ble_eq_true rfl) rfl ?_
  refine q_iload d142_119 rfl ?_
  refine q_iconst (v := 1) (by decide) d142_121 ?_
  refine q_icmp_ge (tgt := 128) d142_122 rfl (fun h1t => ?_) (fun h1f => ?_)
  ·
    have h1tc : 1 ≤ (Nat.gcd h n) := (nI_leI (by omega) (by omega)).mp h1t
    refine q_iload d142_128 rfl ?_
    refine q_if_ne (tgt := 138) d142_130 rfl (fun h2t => ?_) (fun h2f => ?_)
    ·
      refine q_iload_n d142_138 rfl ?_
      refine q_iload d142_139 rfl ?_
      refine q_idiv (v3 h1tc h2t) d142_141 ?_
      exact q_iret d142_142 rfl (Nat.le_refl _) (Nat.le_refl _) (v4 h1tc h2t)
    ·
      refine q_iload d142_133 rfl ?_
      refine q_goto (tgt := 139) d142_135 rfl ?_
      refine q_iload d142_139 rfl ?_
      refine q_idiv (v5 h1tc h2f) d142_141 ?_
      exact q_iret d142_142 rfl (Nat.le_refl _) (Nat.le_refl _) (v6 h1tc h2f)
  ·
    have h1fc : ¬ 1 ≤ (Nat.gcd h n) := mt (nI_leI (by omega) (by omega)).mpr h1f
    refine q_bipush (v := (-2)) (by decide) d142_125 ?_
    exact q_iret d142_127 rfl (Nat.le_refl _) (Nat.le_refl _) (v7 h1fc)

set_option maxRecDepth 10000 in
set_option maxHeartbeats 4000000 in
theorem u272a {d : Nat} {I : Nat → Nat → Int32} {D : Nat → Nat → UInt64} {R : Nat → Nat → Option Nat} {Q : j_Po} {c : Nat} {s : Int32} {n : Nat} {w : Int32} {o : Nat} {β : Bd} {rd : Nat → Int32} (hV : BV β) (hd : 50 ≤ d)
    (v1 : RdE β rd)
    (v2 : c < 24)
    (v3 : 40 ≤ 40)
    (v4 : RBN β I)
    (v5 : ∀ J1 : Nat → Nat → Int32, (∀ o, o ≠ 359 → o ≠ 360 → J1 o = I o) → (RBN β J1) → j_W 272 d 0 0 0 0 51 [some (.ref 260), some (.int (nI c)), some (.int s), some (.int (nI n)), some (.int w), some (.int (nI o)), some (.int 0), some (.int (rd c)), some (.int 0)] [] w1 (J1, D, RR R) Q) : j_W 272 d 0 0 0 0 38 [some (.ref 260), some (.int (nI c)), some (.int s), some (.int (nI n)), some (.int w), some (.int (nI o)), none, none, none] [] w1 (I, D, RR R) Q := by
  refine q_iconst (v := 0) (by decide) d272_38 ?_
  refine q_istore (L' := [some (.ref 260), some (.int (nI c)), some (.int s), some (.int (nI n)), some (.int w), some (.int (nI o)), some (.int 0), none, none]) d272_39 (Nat.le_of_ble_eq_true rfl) rfl ?_
  refine q_aload_n d272_41 rfl ?_
  refine q_iload_n d272_42 rfl ?_
  refine q_invV (o := 260) (ci := 10) (av := [.int (nI c)]) (rest := []) (d' := 40) (mc' := 0) (ms' := 0) d272_43 (cv10_323 272 rfl) rfl (by decide) rfl rfl (by omega) (Nat.le_of_ble_eq_true rfl) (Nat.le_of_ble_eq_true rfl) (lt_w1 rfl) sh260 (Nat.le_refl _) (Nat.le_refl _) ?_
  refine c177 (rd := rd) hV v1 v2 v3 v4 (fun J1 h2 h3 => ?_)
  show j_W 272 d 0 0 0 0 46 [some (.ref 260), some (.int (nI c)), some (.int s), some (.int (nI n)), some (.int w), some (.int (nI o)), some (.int 0), none, none] [.int (rd c)] w1 (J1, D, RR R) Q
  refine q_istore (L' := [some (.ref 260), some (.int (nI c)), some (.int s), some (.int (nI n)), some (.int w), some (.int (nI o)), some (.int 0), some (.int (rd c)), none]) d272_46 (Nat.le_of_ble_eq_true rfl) rfl ?_
  refine q_iconst (v := 0) (by decide) d272_48 ?_
  refine q_istore (L' := [some (.ref 260), some (.int (nI c)), some (.int s), some (.int (nI n)), some (.int w), some (.int (nI o)), some (.int 0), some (.int (rd c)), some (.int 0)]) d272_49 (Nat.le_of_ble_eq_true rfl) rfl ?_
  exact r_sub (L' := [some (.ref 260), some (.int (nI c)), some (.int s), some (.int (nI n)), some (.int w), some (.int (nI o)), some (.int 0), some (.int (rd c)), some (.int 0)]) ⟨rfl, rfl, rfl, rfl, rfl, rfl, rfl, rfl, rfl, trivial⟩ (v5 J1 h2 h3)

set_option maxRecDepth 10000 in
set_option maxHeartbeats 4000000 in
theorem u272h {d : Nat} {I : Nat → Nat → Int32} {D : Nat → Nat → UInt64} {R : Nat → Nat → Option Nat} {Q : j_Po} {c : Nat} {s : Int32} {n : Nat} {w : Int32} {o : Nat} {h : Nat} {x : Int32} {i : Nat} {β : Bd} {p : Nat → Bool} (hV : BV β) (hn : n ≤ 20) (hi : i ≤ 20) (hh : h ≤ 20) (hd : 110 ≤ d)
    (v1 : (n ≤ i) → j_W 272 d 0 0 0 0 87 [some (.ref 260), none, none, some (.int (nI n)), none, some (.int (nI o)), some (.int (nI h)), none, none] [] w1 (I, D, RR R) Q)
    (v2 : (¬ n ≤ i) → RB β I D)
    (v3 : (¬ n ≤ i) → ∀ v, v < 24 → p v = bt x v)
    (v4 : (¬ n ≤ i) → c < 24)
    (v5 : (¬ n ≤ i) → 100 ≤ 100)
    (v6 : (¬ n ≤ i) → ∀ J2 : Nat → Nat → Int32, ∀ E3 : Nat → Nat → UInt64, (FRl I D J2 E3) → ((soV (val β (lot p β 24 0 (s + (nI i)) (env β)) c) (FP.ddiv (FP.i2d w) 4620693217682128896)) = 0) → j_W 272 d 0 0 0 0 51 [some (.ref 260), some (.int (nI c)), some (.int s), some (.int (nI n)), some (.int w), some (.int (nI o)), some (.int (nI h)), some (.int x), some (.int (nI (i + 1)))] [] w1 (J2, E3, RR R) Q)
    (v7 : (¬ n ≤ i) → ∀ J2 : Nat → Nat → Int32, ∀ E3 : Nat → Nat → UInt64, (FRl I D J2 E3) → (¬ (soV (val β (lot p β 24 0 (s + (nI i)) (env β)) c) (FP.ddiv (FP.i2d w) 4620693217682128896)) = 0) → j_W 272 d 0 0 0 0 51 [some (.ref 260), some (.int (nI c)), some (.int s), some (.int (nI n)), some (.int w), some (.int (nI o)), some (.int (nI (h + 1))), some (.int x), some (.int (nI (i + 1)))] [] w1 (J2, E3, RR R) Q) : j_W 272 d 0 0 0 0 51 [some (.ref 260), some (.int (nI c)), some (.int s), some (.int (nI n)), some (.int w), some (.int (nI o)), some (.int (nI h)), some (.int x), some (.int (nI i))] [] w1 (I, D, RR R) Q := by
  refine q_iload d272_51 rfl ?_
  refine q_iload_n d272_53 rfl ?_
  refine q_icmp_ge (tgt := 87) d272_54 rfl (fun h1t => ?_) (fun h1f => ?_)
  ·
    have h1tc : n ≤ i := (nI_leI (by omega) (by omega)).mp h1t
    exact r_sub (L' := [some (.ref 260), none, none, some (.int (nI n)), none, some (.int (nI o)), some (.int (nI h)), none, none]) ⟨rfl, rfl, rfl, rfl, trivial⟩ (v1 h1tc)
  ·
    have h1fc : ¬ n ≤ i := mt (nI_leI (by omega) (by omega)).mpr h1f
    refine q_aload_n d272_57 rfl ?_
    refine q_iload_n d272_58 rfl ?_
    refine q_iload d272_59 rfl ?_
    refine q_iload_n d272_61 rfl ?_
    refine q_iload d272_62 rfl ?_
    refine q_iadd d272_64 ?_
    refine q_iload d272_65 rfl ?_
    refine q_i2d d272_67 ?_
    refine q_ldcD (v := 4620693217682128896) d272_68 (kc10_318 272 rfl) ?_
    refine q_ddiv (n64_i8 _) d272_71 ?_
    refine q_invV (o := 260) (ci := 10) (av := [.int (nI c), .int x, .int (s + (nI i)), .double (FP.ddiv (FP.i2d w) 4620693217682128896)]) (rest := []) (d' := 100) (mc' := 0) (ms' := 0) d272_72 (cv10_549 272 rfl) rfl (by decide) rfl rfl (by omega) (Nat.le_of_ble_eq_true rfl) (Nat.le_of_ble_eq_true rfl) (lt_w1 rfl) sh260 (Nat.le_refl _) (Nat.le_refl _) ?_
    refine c273 (β := β) (p := p) hV (v2 h1fc) (v3 h1fc) (v4 h1fc) (v5 h1fc) (fun J2 E3 h4 => ?_)
    show j_W 272 d 0 0 0 0 75 [some (.ref 260), some (.int (nI c)), some (.int s), some (.int (nI n)), some (.int w), some (.int (nI o)), some (.int (nI h)), some (.int x), some (.int (nI i))] [.int (soV (val β (lot p β 24 0 (s + (nI i)) (env β)) c) (FP.ddiv (FP.i2d w) 4620693217682128896))] w1 (J2, E3, RR R) Q
    refine q_if_eq (tgt := 81) d272_75 rfl (fun h5t => ?_) (fun h5f => ?_)
    ·
      refine q_iinc (L' := [some (.ref 260), some (.int (nI c)), some (.int s), some (.int (nI n)), some (.int w), some (.int (nI o)), some (.int (nI h)), some (.int x), some (.int (nI (i + 1)))]) (v := (nI (i + 1))) d272_81 rfl (nI_inc _) rfl ?_
      refine q_goto (tgt := 51) d272_84 rfl ?_
      exact r_sub (L' := [some (.ref 260), some (.int (nI c)), some (.int s), some (.int (nI n)), some (.int w), some (.int (nI o)), some (.int (nI h)), some (.int x), some (.int (nI (i + 1)))]) ⟨rfl, rfl, rfl, rfl, rfl, rfl, rfl, rfl, rfl, trivial⟩ (v6 h1fc J2 E3 h4 h5t)
    ·
      refine q_iinc (L' := [some (.ref 260), some (.int (nI c)), some (.int s), some (.int (nI n)), some (.int w), some (.int (nI o)), some (.int (nI (h + 1))), some (.int x), some (.int (nI i))]) (v := (nI (h + 1))) d272_78 rfl (nI_inc _) rfl ?_
      refine q_iinc (L' := [some (.ref 260), some (.int (nI c)), some (.int s), some (.int (nI n)), some (.int w), some (.int (nI o)), some (.int (nI (h + 1))), some (.int x), some (.int (nI (i + 1)))]) (v := (nI (i + 1))) d272_81 rfl (nI_inc _) rfl ?_
      refine q_goto (tgt := 51) d272_84 rfl ?_
      exact r_sub (L' := [some (.ref 260), some (.int (nI c)), some (.int s), some (.int (nI n)), some (.int w), some (.int (nI o)), some (.int (nI (h + 1))), some (.int x), some (.int (nI (i + 1)))]) ⟨rfl, rfl, rfl, rfl, rfl, rfl, rfl, rfl, rfl, trivial⟩ (v7 h1fc J2 E3 h4 h5f)

set_option maxRecDepth 10000 in
set_option maxHeartbeats 4000000 in
theorem u272z {d : Nat} {I : Nat → Nat → Int32} {D : Nat → Nat → UInt64} {R : Nat → Nat → Option Nat} {Q : j_Po} {n : Nat} {o : Nat} {h : Nat}  (ho : o < 2) (hd : 40 ≤ d)
    (v1 : (¬ (nI o) = 0) → n ≤ 20)
    (v2 : (¬ (nI o) = 0) → h ≤ 20)
    (v3 : (¬ (nI o) = 0) → n + 1 ≤ 30)
    (v4 : (¬ (nI o) = 0) → ¬ (nI (Nat.gcd n h)) = 0)
    (v5 : (¬ (nI o) = 0) → Q (some (.int ((nI n) / (nI (Nat.gcd n h))))) w1 (I, D, RR R))
    (v6 : ((nI o) = 0) → n ≤ 20)
    (v7 : ((nI o) = 0) → h ≤ 20)
    (v8 : ((nI o) = 0) → n + 1 ≤ 30)
    (v9 : ((nI o) = 0) → ¬ (nI (Nat.gcd n h)) = 0)
    (v10 : ((nI o) = 0) → Q (some (.int ((nI h) / (nI (Nat.gcd n h))))) w1 (I, D, RR R)) : j_W 272 d 0 0 0 0 87 [some (.ref 260), none, none, some (.int (nI n)), none, some (.int (nI o)), some (.int (nI h)), none, none] [] w1 (I, D, RR R) Q := by
  refine q_iload d272_87 rfl ?_
  refine q_if_ne (tgt := 97) d272_89 rfl (fun h1t => ?_) (fun h1f => ?_)
  ·
    refine q_iload_n d272_97 rfl ?_
    refine q_iload d272_98 rfl ?_
    refine q_iload_n d272_100 rfl ?_
    refine q_invS (av := [.int (nI h), .int (nI n)]) (rest := [.int (nI n)]) (d' := 30) (mc' := 0) (ms' := 0) d272_101 (cv10_546 272 rfl) rfl rfl (by omega) (Nat.le_of_ble_eq_true rfl) (Nat.le_of_ble_eq_true rfl) (Nat.le_refl _) (Nat.le_refl _) ?_
    refine c274 _ _ _ (v1 h1t) (v2 h1t) (v3 h1t) ?_
    show j_W 272 d 0 0 0 0 104 [some (.ref 260), none, none, some (.int (nI n)), none, some (.int (nI o)), some (.int (nI h)), none, none] [.int (nI (Nat.gcd n h)), .int (nI n)] w1 (I, D, RR R) Q
    refine q_idiv (v4 h1t) d272_104 ?_
    exact q_iret d272_105 rfl (Nat.le_refl _) (Nat.le_refl _) (v5 h1t)
  ·
    refine q_iload d272_92 rfl ?_
    refine q_goto (tgt := 98) d272_94 rfl ?_
    refine q_iload d272_98 rfl ?_
    refine q_iload_n d272_100 rfl ?_
    refine q_invS (av := [.int (nI h), .int (nI n)]) (rest := [.int (nI h)]) (d' := 30) (mc' := 0) (ms' := 0) d272_101 (cv10_546 272 rfl) rfl rfl (by omega) (Nat.le_of_ble_eq_true rfl) (Nat.le_of_ble_eq_true rfl) (Nat.le_refl _) (Nat.le_refl _) ?_
    refine c274 _ _ _ (v6 h1f) (v7 h1f) (v8 h1f) ?_
    show j_W 272 d 0 0 0 0 104 [some (.ref 260), none, none, some (.int (nI n)), none, some (.int (nI o)), some (.int (nI h)), none, none] [.int (nI (Nat.gcd n h)), .int (nI h)] w1 (I, D, RR R) Q
    refine q_idiv (v9 h1f) d272_104 ?_
    exact q_iret d272_105 rfl (Nat.le_refl _) (Nat.le_refl _) (v10 h1f)

