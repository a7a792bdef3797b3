/-! swing: walks -/
theorem c59x {β : Bd} {I : Nat → Nat → Int32} {D : Nat → Nat → UInt64} {R : Nat → Nat → Option Nat} {Q : j_Po} (hR : WFR R) (hV : BV β) (hC : CB β I D R) (hN : NM β I) (hO : OrdB β I) {d c o : Nat} {x : UInt64} {η : VEnv} (hc : c < 24) (ho : o < 24) (hx : Sm x) (h7 : I 107 7 = 0) (hE : LE β I D 0 η) (hd : 40 ≤ d) (hq : ∀ J E, FRc I D J E → J 107 7 = 0 → LE β J E 0 (fu η c (0, kp (nI (bK β c)) x)) → LC J E 0 o (val β (fu η c (0, kp (nI (bK β c)) x)) o) → Q (some (.int (nI (val β (fu η c (0, kp (nI (bK β c)) x)) o).1))) w1 (J, E, RR R)) : j_Call d 59 [.ref 107, .int (nI c), .double x, .int (nI o)] w1 (I, D, RR R) 0 0 Q := c59 hR hV hC hN hO hc ho hx h7 hE hd (fun J E h1 h2 h3 _ h5 => hq J E h1 h2 h3 h5)
theorem f57b {d : Nat} {I : Nat → Nat → Int32} {D : Nat → Nat → UInt64} {R : Nat → Nat → Option Nat} {Q : j_Po} {x : UInt64} (h1 : Fi x) (h2 : x ≠ 0x8000000000000000) (hq : Q (some (.long x.toInt64)) w1 (I, D, RR R)) : j_Call d 57 [.double x] w1 (I, D, RR R) 0 0 Q := c57 h1 h2 hq
theorem f202b {d : Nat} {I : Nat → Nat → Int32} {D : Nat → Nat → UInt64} {R : Nat → Nat → Option Nat} {Q : j_Po} {x : UInt64} (hd : 2 ≤ d) (h1 : Fi x) (hq : Q (some (.long x.toInt64)) w1 (I, D, RR R)) : j_Call d 202 [.double x] w1 (I, D, RR R) 0 0 Q := by
  refine s202 hd (fun _ => hq) (fun h2 => ?_)
  have := deq_self (fi_nn h1)
  rw [h2] at this; cases this
set_option maxRecDepth 10000 in
set_option maxHeartbeats 4000000 in
theorem u141a {d : Nat} {I : Nat → Nat → Int32} {D : Nat → Nat → UInt64} {R : Nat → Nat → Option Nat} {Q : j_Po} {o : Nat} {c : Nat} {z : UInt64} {β : Bd} (hR : WFR R) (hV : BV β) (hC : CB β I D R) (hN : NM β I) (hO : OrdB β I) (hc : c < 24) (ho : o < 24) (hd : 50 ≤ d)
    (v1 : vf_n64 (FP.dadd (D 110 c) z))
    (v2 : c < 24)
    (v3 : o < 24)
    (v4 : Sm (FP.dadd (D 110 c) z))
    (v5 : I 107 7 = 0)
    (v6 : LE β I D 0 (env β))
    (v7 : 40 ≤ 40)
    (v8 : ∀ J1 : Nat → Nat → Int32, ∀ E2 : Nat → Nat → UInt64, (FRc I D J1 E2) → (J1 107 7 = 0) → (LE β J1 E2 0 (fu (env β) c (0, kp (nI (bK β c)) (FP.dadd (D 110 c) z)))) → (LC J1 E2 0 o (val β (fu (env β) c (0, kp (nI (bK β c)) (FP.dadd (D 110 c) z))) o)) → j_W 141 d 0 0 0 0 26 [some (.ref 0), some (.int (nI o)), some (.int (nI c)), some (.double z), none, some (.double (D 110 c)), none, some (.int (nI ((val β (fu (env β) c (0, kp (nI (bK β c)) (FP.dadd (D 110 c) z))) o).1))), none, none, none, none, none] [] w1 (J1, E2, RR R) Q) : j_Call d 141 [.ref 0, .int (nI o), .int (nI c), .double z] w1 (I, D, RR R) 0 0 Q := by
  refine q_enter (L := [some (.ref 0), some (.int (nI o)), some (.int (nI c)), some (.double z), none, none, none, none, none, none, none, none, none]) j_m141 (Nat.le_of_ble_eq_true rfl) rfl ?_
  refine q_aload_n d141_0 rfl ?_
  refine q_getR (x := 108) d141_1 (fs9_53 141 rfl) rfl (lt_w1 rfl) sh0 (rs0_1 R) (by decide) ?_
  refine q_getR (x := 110) d141_4 (fs9_72 141 rfl) rfl (lt_w1 rfl) sh108 (rs108_1 R) (by decide) ?_
  refine q_iload_n d141_7 rfl ?_
  refine q_daload (a := c) d141_8 (lt_w1 rfl) sh110 rfl (by omega) ?_
  refine q_dstore (L' := [some (.ref 0), some (.int (nI o)), some (.int (nI c)), some (.double z), none, some (.double (D 110 c)), none, none, none, none, none, none, none]) d141_9 (Nat.le_of_ble_eq_true rfl) rfl ?_
  refine q_aload_n d141_11 rfl ?_
  refine q_getR (x := 107) d141_12 (fs9_46 141 rfl) rfl (lt_w1 rfl) sh0 (rs0_0 R) (by decide) ?_
  refine q_iload_n d141_15 rfl ?_
  refine q_dload d141_16 rfl ?_
  refine q_dload_n d141_18 rfl ?_
  refine q_dadd v1 d141_19 ?_
  refine q_iload_n d141_20 rfl ?_
  refine q_invV (o := 107) (ci := 8) (av := [.int (nI c), .double (FP.dadd (D 110 c) z), .int (nI o)]) (rest := []) (d' := 40) (mc' := 0) (ms' := 0) d141_21 (cv9_141 141 rfl) rfl (by decide) rfl rfl (by omega) (Nat.le_of_ble_eq_true rfl) (Nat.le_of_ble_eq_true rfl) (lt_w1 rfl) sh107 (Nat.le_refl _) (Nat.le_refl _) ?_
  refine c59x (η := (env β)) hR hV hC hN hO v2 v3 v4 v5 v6 v7 (fun J1 E2 h3 h4 h5 h6 => ?_)
  show j_W 141 d 0 0 0 0 24 [some (.ref 0), some (.int (nI o)), some (.int (nI c)), some (.double z), none, some (.double (D 110 c)), none, none, none, none, none, none, none] [.int (nI ((val β (fu (env β) c (0, kp (nI (bK β c)) (FP.dadd (D 110 c) z))) o).1))] w1 (J1, E2, RR R) Q
  refine q_istore (L' := [some (.ref 0), some (.int (nI o)), some (.int (nI c)), some (.double z), none, some (.double (D 110 c)), none, some (.int (nI ((val β (fu (env β) c (0, kp (nI (bK β c)) (FP.dadd (D 110 c) z))) o).1))), none, none, none, none, none]) d141_24 (Nat.le_of_ble_eq_true rfl) rfl ?_
  exact r_sub (L' := [some (.ref 0), some (.int (nI o)), some (.int (nI c)), some (.double z), none, some (.double (D 110 c)), none, some (.int (nI ((val β (fu (env β) c (0, kp (nI (bK β c)) (FP.dadd (D 110 c) z))) o).1))), none, none, none, none, none]) ⟨rfl, rfl, rfl, rfl, rfl, rfl, trivial⟩ (v8 J1 E2 h3 h4 h5 h6)

set_option maxRecDepth 10000 in
set_option maxHeartbeats 4000000 in
theorem u141b {d : Nat} {I : Nat → Nat → Int32} {D : Nat → Nat → UInt64} {R : Nat → Nat → Option Nat} {Q : j_Po} {o : Nat} {c : Nat} {z : UInt64} {n : UInt64} {β : Bd} {w : Nat} {η : VEnv} (hR : WFR R) (hV : BV β) (hC : CB β I D R) (hN : NM β I) (hO : OrdB β I) (hc : c < 24) (ho : o < 24) (hd : 50 ≤ d)
    (v1 : vf_n64 (FP.dsub n z))
    (v2 : c < 24)
    (v3 : o < 24)
    (v4 : Sm (FP.dsub n z))
    (v5 : I 107 7 = 0)
    (v6 : LE β I D 0 η)
    (v7 : 40 ≤ 40)
    (v8 : ∀ J1 : Nat → Nat → Int32, ∀ E2 : Nat → Nat → UInt64, (FRc I D J1 E2) → (J1 107 7 = 0) → (LE β J1 E2 0 (fu η c (0, kp (nI (bK β c)) (FP.dsub n z)))) → (LC J1 E2 0 o (val β (fu η c (0, kp (nI (bK β c)) (FP.dsub n z))) o)) → j_W 141 d 0 0 0 0 54 [some (.ref 0), some (.int (nI o)), some (.int (nI c)), some (.double z), none, some (.double n), none, some (.int (nI w)), some (.double (D 213 o)), none, some (.int (nI ((val β (fu η c (0, kp (nI (bK β c)) (FP.dsub n z))) o).1))), none, none] [] w1 (J1, E2, RR R) Q) : j_W 141 d 0 0 0 0 26 [some (.ref 0), some (.int (nI o)), some (.int (nI c)), some (.double z), none, some (.double n), none, some (.int (nI w)), none, none, none, none, none] [] w1 (I, D, RR R) Q := by
  refine q_aload_n d141_26 rfl ?_
  refine q_getR (x := 107) d141_27 (fs9_46 141 rfl) rfl (lt_w1 rfl) sh0 (rs0_0 R) (by decide) ?_
  refine q_getR (x := 212) d141_30 (fs9_129 141 rfl) rfl (lt_w1 rfl) sh107 (rs107_3 R) (by decide) ?_
  refine q_iconst (v := 0) (by decide) d141_33 ?_
  refine q_aaload (c := 3) (a := 0) (x := 213) d141_34 (lt_w1 rfl) sh212 (by decide) rfl (by decide) (rm212 (k := 0) R (by decide)) (by decide) ?_
  refine q_iload_n d141_35 rfl ?_
  refine q_daload (a := o) d141_36 (lt_w1 rfl) sh213 rfl (by omega) ?_
  refine q_dstore (L' := [some (.ref 0), some (.int (nI o)), some (.int (nI c)), some (.double z), none, some (.double n), none, some (.int (nI w)), some (.double (D 213 o)), none, none, none, none]) d141_37 (Nat.le_of_ble_eq_true rfl) rfl ?_
  refine q_aload_n d141_39 rfl ?_
  refine q_getR (x := 107) d141_40 (fs9_46 141 rfl) rfl (lt_w1 rfl) sh0 (rs0_0 R) (by decide) ?_
  refine q_iload_n d141_43 rfl ?_
  refine q_dload d141_44 rfl ?_
  refine q_dload_n d141_46 rfl ?_
  refine q_dsub v1 d141_47 ?_
  refine q_iload_n d141_48 rfl ?_
  refine q_invV (o := 107) (ci := 8) (av := [.int (nI c), .double (FP.dsub n z), .int (nI o)]) (rest := []) (d' := 40) (mc' := 0) (ms' := 0) d141_49 (cv9_141 141 rfl) rfl (by decide) rfl rfl (by omega) (Nat.le_of_ble_eq_true rfl) (Nat.le_of_ble_eq_true rfl) (lt_w1 rfl) sh107 (Nat.le_refl _) (Nat.le_refl _) ?_
  refine c59x (η := η) hR hV hC hN hO v2 v3 v4 v5 v6 v7 (fun J1 E2 h3 h4 h5 h6 => ?_)
  show j_W 141 d 0 0 0 0 52 [some (.ref 0), some (.int (nI o)), some (.int (nI c)), some (.double z), none, some (.double n), none, some (.int (nI w)), some (.double (D 213 o)), none, none, none, none] [.int (nI ((val β (fu η c (0, kp (nI (bK β c)) (FP.dsub n z))) o).1))] w1 (J1, E2, RR R) Q
  refine q_istore (L' := [some (.ref 0), some (.int (nI o)), some (.int (nI c)), some (.double z), none, some (.double n), none, some (.int (nI w)), some (.double (D 213 o)), none, some (.int (nI ((val β (fu η c (0, kp (nI (bK β c)) (FP.dsub n z))) o).1))), none, none]) d141_52 (Nat.le_of_ble_eq_true rfl) rfl ?_
  exact r_sub (L' := [some (.ref 0), some (.int (nI o)), some (.int (nI c)), some (.double z), none, some (.double n), none, some (.int (nI w)), some (.double (D 213 o)), none, some (.int (nI ((val β (fu η c (0, kp (nI (bK β c)) (FP.dsub n z))) o).1))), none, none]) ⟨rfl, rfl, rfl, rfl, rfl, rfl, rfl, rfl, trivial⟩ (v8 J1 E2 h3 h4 h5 h6)

set_option maxRecDepth 10000 in
set_option maxHeartbeats 4000000 in
theorem u141c {d : Nat} {I : Nat → Nat → Int32} {D : Nat → Nat → UInt64} {R : Nat → Nat → Option Nat} {Q : j_Po} {o : Nat} {c : Nat} {z : UInt64} {n : UInt64} {u : UInt64} {w w2 : Nat} {AP : (Nat → Nat → Int32) → (Nat → Nat → UInt64) → Prop} (hc : c < 24) (ho : o < 24) (hA : ∀ (Q : j_Po), (∀ J E, AP J E → Q none w1 (J, E, RR R)) → j_Call (d - 1) 60 [.ref 107, .int (nI c), .double n] w1 (I, D, RR R) 0 0 Q) (hd : 50 ≤ d)
    (v1 : ∀ J1 : Nat → Nat → Int32, ∀ E2 : Nat → Nat → UInt64, (AP J1 E2) → j_W 141 d 0 0 0 0 77 [some (.ref 0), some (.int (nI o)), some (.int (nI c)), some (.double z), none, none, none, some (.int (nI w)), some (.double u), none, some (.int (nI w2)), some (.double (D 213 o)), none] [] w1 (J1, E2, RR R) Q) : j_W 141 d 0 0 0 0 54 [some (.ref 0), some (.int (nI o)), some (.int (nI c)), some (.double z), none, some (.double n), none, some (.int (nI w)), some (.double u), none, some (.int (nI w2)), none, none] [] w1 (I, D, RR R) Q := by
  refine q_aload_n d141_54 rfl ?_
  refine q_getR (x := 107) d141_55 (fs9_46 141 rfl) rfl (lt_w1 rfl) sh0 (rs0_0 R) (by decide) ?_
  refine q_getR (x := 212) d141_58 (fs9_129 141 rfl) rfl (lt_w1 rfl) sh107 (rs107_3 R) (by decide) ?_
  refine q_iconst (v := 0) (by decide) d141_61 ?_
  refine q_aaload (c := 3) (a := 0) (x := 213) d141_62 (lt_w1 rfl) sh212 (by decide) rfl (by decide) (rm212 (k := 0) R (by decide)) (by decide) ?_
  refine q_iload_n d141_63 rfl ?_
  refine q_daload (a := o) d141_64 (lt_w1 rfl) sh213 rfl (by omega) ?_
  refine q_dstore (L' := [some (.ref 0), some (.int (nI o)), some (.int (nI c)), some (.double z), none, some (.double n), none, some (.int (nI w)), some (.double u), none, some (.int (nI w2)), some (.double (D 213 o)), none]) d141_65 (Nat.le_of_ble_eq_true rfl) rfl ?_
  refine q_aload_n d141_67 rfl ?_
  refine q_getR (x := 107) d141_68 (fs9_46 141 rfl) rfl (lt_w1 rfl) sh0 (rs0_0 R) (by decide) ?_
  refine q_iload_n d141_71 rfl ?_
  refine q_dload d141_72 rfl ?_
  refine q_invV (o := 107) (ci := 8) (av := [.int (nI c), .double n]) (rest := []) (d' := (d - 1)) (mc' := 0) (ms' := 0) d141_74 (cv9_453 141 rfl) rfl (by decide) rfl rfl (by omega) (Nat.le_of_ble_eq_true rfl) (Nat.le_of_ble_eq_true rfl) (lt_w1 rfl) sh107 (Nat.le_refl _) (Nat.le_refl _) ?_
  refine hA _  (fun J1 E2 h3 => ?_)
  show j_W 141 d 0 0 0 0 77 [some (.ref 0), some (.int (nI o)), some (.int (nI c)), some (.double z), none, some (.double n), none, some (.int (nI w)), some (.double u), none, some (.int (nI w2)), some (.double (D 213 o)), none] [] w1 (J1, E2, RR R) Q
  exact r_sub (L' := [some (.ref 0), some (.int (nI o)), some (.int (nI c)), some (.double z), none, none, none, some (.int (nI w)), some (.double u), none, some (.int (nI w2)), some (.double (D 213 o)), none]) ⟨rfl, rfl, rfl, rfl, rfl, rfl, rfl, rfl, trivial⟩ (v1 J1 E2 h3)

set_option maxRecDepth 10000 in
set_option maxHeartbeats 4000000 in
theorem u141d {d : Nat} {I : Nat → Nat → Int32} {D : Nat → Nat → UInt64} {R : Nat → Nat → Option Nat} {Q : j_Po} {o : Nat} {c : Nat} {z : UInt64} {u : UInt64} {v : UInt64} {w w2 : Nat} (hw : w < 200) (hw2 : w2 < 200) (hd : 2 ≤ d)
    (v1 : (¬ (nI w) = 0) → Q (some (.double 13830554455654793216)) w1 (I, D, RR R))
    (v2 : ((nI w) = 0) → ((nI w2) = 0) → (dlt u v = false) → vf_n64 (FP.dsub u v))
    (v3 : ((nI w) = 0) → ((nI w2) = 0) → (dlt u v = false) → Q (some (.double (FP.dsub u v))) w1 (I, D, RR R))
    (v4 : ((nI w) = 0) → ((nI w2) = 0) → (dlt u v = true) → vf_n64 (FP.dsub v u))
    (v5 : ((nI w) = 0) → ((nI w2) = 0) → (dlt u v = true) → Q (some (.double (FP.dsub v u))) w1 (I, D, RR R))
    (v6 : ((nI w) = 0) → (¬ (nI w2) = 0) → Q (some (.double 13830554455654793216)) w1 (I, D, RR R)) : j_W 141 d 0 0 0 0 77 [some (.ref 0), some (.int (nI o)), some (.int (nI c)), some (.double z), none, none, none, some (.int (nI w)), some (.double u), none, some (.int (nI w2)), some (.double v), none] [] w1 (I, D, RR R) Q := by
  refine q_iload d141_77 rfl ?_
  refine q_if_ne (tgt := 87) d141_79 rfl (fun h1t => ?_) (fun h1f => ?_)
  ·
    refine q_ldcD (v := 13830554455654793216) d141_87 (kc9_319 141 rfl) ?_
    exact q_dret d141_90 rfl (Nat.le_refl _) (Nat.le_refl _) (v1 h1t)
  ·
    refine q_iload d141_82 rfl ?_
    refine q_if_eq (tgt := 91) d141_84 rfl (fun h2t => ?_) (fun h2f => ?_)
    ·
      refine q_dload d141_91 rfl ?_
      refine q_dload d141_93 rfl ?_
      refine q_dcmp d141_95 ?_
      refine q_if_ge (tgt := 107) d141_96 rfl (fun h3t => ?_) (fun h3f => ?_)
      ·
        have h3tc : dlt u v = false := dc_g_ge_t h3t
        refine q_dload d141_107 rfl ?_
        refine q_dload d141_109 rfl ?_
        refine q_dsub (v2 h1f h2t h3tc) d141_111 ?_
        exact q_dret d141_112 rfl (Nat.le_refl _) (Nat.le_refl _) (v3 h1f h2t h3tc)
      ·
        have h3fc : dlt u v = true := dc_g_ge_f h3f
        refine q_dload d141_99 rfl ?_
        refine q_dload d141_101 rfl ?_
        refine q_dsub (v4 h1f h2t h3fc) d141_103 ?_
        refine q_goto (tgt := 112) d141_104 rfl ?_
        exact q_dret d141_112 rfl (Nat.le_refl _) (Nat.le_refl _) (v5 h1f h2t h3fc)
    ·
      refine q_ldcD (v := 13830554455654793216) d141_87 (kc9_319 141 rfl) ?_
      exact q_dret d141_90 rfl (Nat.le_refl _) (Nat.le_refl _) (v6 h1f h2f)

set_option maxRecDepth 10000 in
set_option maxHeartbeats 4000000 in
theorem u140r {d : Nat} {I : Nat → Nat → Int32} {D : Nat → Nat → UInt64} {R : Nat → Nat → Option Nat} {Q : j_Po} {a : Int32} {b : Int32} {p : Int32}   (hd : 2 ≤ d)
    (v1 : ∀ k1 : Nat, (k1 < 24) → (a = nI k1) → (b < 1) → Q (some (.long (-2))) w1 (I, D, RR R))
    (v2 : ∀ k1 : Nat, (k1 < 24) → (a = nI k1) → (¬ b < 1) → (80000 < b) → Q (some (.long (-2))) w1 (I, D, RR R))
    (v3 : ∀ k1 : Nat, (k1 < 24) → (a = nI k1) → (¬ b < 1) → (¬ 80000 < b) → (p < 0) → Q (some (.long (-2))) w1 (I, D, RR R))
    (v4 : ∀ k1 : Nat, (k1 < 24) → (a = nI k1) → (¬ b < 1) → (¬ 80000 < b) → (¬ p < 0) → (p ≤ 1) → j_W 140 d 0 0 0 0 31 [some (.ref 0), some (.int (nI k1)), some (.int b), some (.int p), none, none, none, none, none, none] [] w1 (I, D, RR R) Q)
    (v5 : ∀ k1 : Nat, (k1 < 24) → (a = nI k1) → (¬ b < 1) → (¬ 80000 < b) → (¬ p < 0) → (¬ p ≤ 1) → Q (some (.long (-2))) w1 (I, D, RR R))
    (v6 : (¬ (∃ k : Nat, k < 24 ∧ a = nI k)) → Q (some (.long (-2))) w1 (I, D, RR R)) : j_Call d 140 [.ref 0, .int a, .int b, .int p] w1 (I, D, RR R) 0 0 Q := by
  refine q_enter (L := [some (.ref 0), some (.int a), some (.int b), some (.int p), none, none, none, none, none, none]) j_m140 (Nat.le_of_ble_eq_true rfl) rfl ?_
  refine q_iload_n d140_0 rfl ?_
  refine q_invS (av := [.int a]) (rest := []) (d' := 0) (mc' := 0) (ms' := 0) d140_1 (cv9_60 140 rfl) rfl rfl (by omega) (Nat.le_of_ble_eq_true rfl) (Nat.le_of_ble_eq_true rfl) (Nat.le_refl _) (Nat.le_refl _) ?_
  refine r12  (fun k1 h1 h1e => ?_) (fun h1 => ?_)
  ·
    subst h1e
    show j_W 140 d 0 0 0 0 4 [some (.ref 0), some (.int (nI k1)), some (.int b), some (.int p), none, none, none, none, none, none] [.int 1] w1 (I, D, RR R) Q
    refine q_if_eq (tgt := 27) d140_4 rfl (fun h => absurd h (by decide)) (fun _ => ?_)
    refine q_iload_n d140_7 rfl ?_
    refine q_iconst (v := 1) (by decide) d140_8 ?_
    refine q_icmp_lt (tgt := 27) d140_9 rfl (fun h2t => ?_) (fun h2f => ?_)
    ·
      refine q_ldcL (v := (-2)) d140_27 (kc9_127 140 rfl) ?_
      exact q_lret d140_30 rfl (Nat.le_refl _) (Nat.le_refl _) (v1 k1 h1 rfl h2t)
    ·
      refine q_iload_n d140_12 rfl ?_
      refine q_ldcI (v := 80000) d140_13 (kc9_193 140 rfl) ?_
      refine q_icmp_gt (tgt := 27) d140_15 rfl (fun h3t => ?_) (fun h3f => ?_)
      ·
        refine q_ldcL (v := (-2)) d140_27 (kc9_127 140 rfl) ?_
        exact q_lret d140_30 rfl (Nat.le_refl _) (Nat.le_refl _) (v2 k1 h1 rfl h2f h3t)
      ·
        refine q_iload_n d140_18 rfl ?_
        refine q_if_lt (tgt := 27) d140_19 rfl (fun h4t => ?_) (fun h4f => ?_)
        ·
          refine q_ldcL (v := (-2)) d140_27 (kc9_127 140 rfl) ?_
          exact q_lret d140_30 rfl (Nat.le_refl _) (Nat.le_refl _) (v3 k1 h1 rfl h2f h3f h4t)
        ·
          refine q_iload_n d140_22 rfl ?_
          refine q_iconst (v := 1) (by decide) d140_23 ?_
          refine q_icmp_le (tgt := 31) d140_24 rfl (fun h5t => ?_) (fun h5f => ?_)
          ·
            exact r_sub (L' := [some (.ref 0), some (.int (nI k1)), some (.int b), some (.int p), none, none, none, none, none, none]) ⟨rfl, rfl, rfl, rfl, trivial⟩ (v4 k1 h1 rfl h2f h3f h4f h5t)
          ·
            refine q_ldcL (v := (-2)) d140_27 (kc9_127 140 rfl) ?_
            exact q_lret d140_30 rfl (Nat.le_refl _) (Nat.le_refl _) (v5 k1 h1 rfl h2f h3f h4f h5f)
  ·
    show j_W 140 d 0 0 0 0 4 [some (.ref 0), some (.int a), some (.int b), some (.int p), none, none, none, none, none, none] [.int 0] w1 (I, D, RR R) Q
    refine q_if_eq (tgt := 27) d140_4 rfl (fun _ => ?_) (fun h => absurd h (by decide))
    refine q_ldcL (v := (-2)) d140_27 (kc9_127 140 rfl) ?_
    exact q_lret d140_30 rfl (Nat.le_refl _) (Nat.le_refl _) (v6 h1)

set_option maxRecDepth 10000 in
set_option maxHeartbeats 4000000 in
theorem u140a {d : Nat} {I : Nat → Nat → Int32} {D : Nat → Nat → UInt64} {R : Nat → Nat → Option Nat} {Q : j_Po} {o : Nat} {b : Int32} {p : Int32}  {AP : (Nat → Nat → Int32) → (Nat → Nat → UInt64) → Prop} (hA : ∀ (Q : j_Po), (∀ J E, AP J E → Q none w1 (J, E, RR R)) → j_Call (d - 1) 34 [.ref 107] w1 (I, D, RR R) 0 0 Q) (hd : 50 ≤ d)
    (v1 : ∀ J1 : Nat → Nat → Int32, ∀ E2 : Nat → Nat → UInt64, (AP J1 E2) → j_W 140 d 0 0 0 0 38 [some (.ref 0), some (.int (nI o)), some (.int b), some (.int p), none, none, none, none, none, none] [] w1 (J1, E2, RR R) Q) : j_W 140 d 0 0 0 0 31 [some (.ref 0), some (.int (nI o)), some (.int b), some (.int p), none, none, none, none, none, none] [] w1 (I, D, RR R) Q := by
  refine q_aload_n d140_31 rfl ?_
  refine q_getR (x := 107) d140_32 (fs9_46 140 rfl) rfl (lt_w1 rfl) sh0 (rs0_0 R) (by decide) ?_
  refine q_invV (o := 107) (ci := 8) (av := []) (rest := []) (d' := (d - 1)) (mc' := 0) (ms' := 0) d140_35 (cv9_138 140 rfl) rfl (by decide) rfl rfl (by omega) (Nat.le_of_ble_eq_true rfl) (Nat.le_of_ble_eq_true rfl) (lt_w1 rfl) sh107 (Nat.le_refl _) (Nat.le_refl _) ?_
  refine hA _  (fun J1 E2 h3 => ?_)
  show j_W 140 d 0 0 0 0 38 [some (.ref 0), some (.int (nI o)), some (.int b), some (.int p), none, none, none, none, none, none] [] w1 (J1, E2, RR R) Q
  exact r_sub (L' := [some (.ref 0), some (.int (nI o)), some (.int b), some (.int p), none, none, none, none, none, none]) ⟨rfl, rfl, rfl, rfl, trivial⟩ (v1 J1 E2 h3)

set_option maxRecDepth 10000 in
set_option maxHeartbeats 4000000 in
theorem u140b {d : Nat} {I : Nat → Nat → Int32} {D : Nat → Nat → UInt64} {R : Nat → Nat → Option Nat} {Q : j_Po} {o : Nat} {b : Int32} {p : Int32}   (hd : 2 ≤ d)
    (v1 : j_W 140 d 0 0 0 0 49 [some (.ref 0), some (.int (nI o)), some (.int b), some (.int p), some (.int (-1)), some (.double 13830554455654793216), none, some (.int 0), none, none] [] w1 (I, D, RR R) Q) : j_W 140 d 0 0 0 0 38 [some (.ref 0), some (.int (nI o)), some (.int b), some (.int p), none, none, none, none, none, none] [] w1 (I, D, RR R) Q := by
  refine q_iconst (v := (-1)) (by decide) d140_38 ?_
  refine q_istore (L' := [some (.ref 0), some (.int (nI o)), some (.int b), some (.int p), some (.int (-1)), none, none, none, none, none]) d140_39 (Nat.le_of_ble_eq_true rfl) rfl ?_
  refine q_ldcD (v := 13830554455654793216) d140_41 (kc9_319 140 rfl) ?_
  refine q_dstore (L' := [some (.ref 0), some (.int (nI o)), some (.int b), some (.int p), some (.int (-1)), some (.double 13830554455654793216), none, none, none, none]) d140_44 (Nat.le_of_ble_eq_true rfl) rfl ?_
  refine q_iconst (v := 0) (by decide) d140_46 ?_
  refine q_istore (L' := [some (.ref 0), some (.int (nI o)), some (.int b), some (.int p), some (.int (-1)), some (.double 13830554455654793216), none, some (.int 0), none, none]) d140_47 (Nat.le_of_ble_eq_true rfl) rfl ?_
  exact r_sub (L' := [some (.ref 0), some (.int (nI o)), some (.int b), some (.int p), some (.int (-1)), some (.double 13830554455654793216), none, some (.int 0), none, none]) ⟨rfl, rfl, rfl, rfl, rfl, rfl, rfl, trivial⟩ v1

set_option maxRecDepth 10000 in
set_option maxHeartbeats 4000000 in
theorem u140h {d : Nat} {I : Nat → Nat → Int32} {D : Nat → Nat → UInt64} {R : Nat → Nat → Option Nat} {Q : j_Po} {o : Nat} {b : Int32} {p : Int32} {e : Int32} {y : UInt64} {k : Nat}  (ho : o < 24) (hk : k ≤ 24) (hd : 2 ≤ d)
    (v1 : (24 ≤ k) → j_W 140 d 0 0 0 0 126 [some (.ref 0), some (.int (nI o)), some (.int b), some (.int p), some (.int e), some (.double y), none, none, none, none] [] w1 (I, D, RR R) Q)
    (v2 : (¬ 24 ≤ k) → ((¬ ((I 207 o) >>> ((nI k) &&& 31)) &&& 1 = 0)) → (¬ (I 111 k) = 0) → j_W 140 d 0 0 0 0 89 [some (.ref 0), some (.int (nI o)), some (.int b), some (.int p), some (.int e), some (.double y), none, some (.int (nI k)), none, none] [] w1 (I, D, RR R) Q)
    (v3 : (¬ 24 ≤ k) → ((¬ ((I 207 o) >>> ((nI k) &&& 31)) &&& 1 = 0)) → ((I 111 k) = 0) → j_W 140 d 0 0 0 0 49 [some (.ref 0), some (.int (nI o)), some (.int b), some (.int p), some (.int e), some (.double y), none, some (.int (nI (k + 1))), none, none] [] w1 (I, D, RR R) Q)
    (v4 : (¬ 24 ≤ k) → (¬ ((¬ ((I 207 o) >>> ((nI k) &&& 31)) &&& 1 = 0))) → j_W 140 d 0 0 0 0 49 [some (.ref 0), some (.int (nI o)), some (.int b), some (.int p), some (.int e), some (.double y), none, some (.int (nI (k + 1))), none, none] [] w1 (I, D, RR R) Q) : j_W 140 d 0 0 0 0 49 [some (.ref 0), some (.int (nI o)), some (.int b), some (.int p), some (.int e), some (.double y), none, some (.int (nI k)), none, none] [] w1 (I, D, RR R) Q := by
  refine q_iload d140_49 rfl ?_
  refine q_bipush (v := 24) (by decide) d140_51 ?_
  refine q_icmp_ge (tgt := 126) d140_53 rfl (fun h1t => ?_) (fun h1f => ?_)
  ·
    have h1tc : 24 ≤ k := (nI_leI (by omega) (by omega)).mp h1t
    exact r_sub (L' := [some (.ref 0), some (.int (nI o)), some (.int b), some (.int p), some (.int e), some (.double y), none, none, none, none]) ⟨rfl, rfl, rfl, rfl, rfl, rfl, trivial⟩ (v1 h1tc)
  ·
    have h1fc : ¬ 24 ≤ k := mt (nI_leI (by omega) (by omega)).mpr h1f
    refine q_aload_n d140_56 rfl ?_
    refine q_getR (x := 204) d140_57 (fs9_58 140 rfl) rfl (lt_w1 rfl) sh0 (rs0_2 R) (by decide) ?_
    refine q_getR (x := 207) d140_60 (fs9_108 140 rfl) rfl (lt_w1 rfl) sh204 (rs204_2 R) (by decide) ?_
    refine q_iload_n d140_63 rfl ?_
    refine q_iaload (a := o) d140_64 (lt_w1 rfl) sh207 rfl (by omega) ?_
    refine q_iload d140_65 rfl ?_
    refine q_invS (av := [.int (I 207 o), .int (nI k)]) (rest := []) (d' := 0) (mc' := 0) (ms' := 0) d140_67 (cv9_177 140 rfl) rfl rfl (by omega) (Nat.le_of_ble_eq_true rfl) (Nat.le_of_ble_eq_true rfl) (Nat.le_refl _) (Nat.le_refl _) ?_
    refine p21  (fun h2 => ?_) (fun h2 => ?_)
    ·
      show j_W 140 d 0 0 0 0 70 [some (.ref 0), some (.int (nI o)), some (.int b), some (.int p), some (.int e), some (.double y), none, some (.int (nI k)), none, none] [.int 1] w1 (I, D, RR R) Q
      refine q_if_eq (tgt := 120) d140_70 rfl (fun h => absurd h (by decide)) (fun _ => ?_)
      refine q_aload_n d140_73 rfl ?_
      refine q_getR (x := 108) d140_74 (fs9_53 140 rfl) rfl (lt_w1 rfl) sh0 (rs0_1 R) (by decide) ?_
      refine q_getR (x := 111) d140_77 (fs9_86 140 rfl) rfl (lt_w1 rfl) sh108 (rs108_2 R) (by decide) ?_
      refine q_iload d140_80 rfl ?_
      refine q_zaload (a := k) d140_82 (lt_w1 rfl) sh111 rfl (by omega) ?_
      refine q_if_ne (tgt := 89) d140_83 rfl (fun h3t => ?_) (fun h3f => ?_)
      ·
        exact r_sub (L' := [some (.ref 0), some (.int (nI o)), some (.int b), some (.int p), some (.int e), some (.double y), none, some (.int (nI k)), none, none]) ⟨rfl, rfl, rfl, rfl, rfl, rfl, rfl, trivial⟩ (v2 h1fc h2 h3t)
      ·
        refine q_goto (tgt := 120) d140_86 rfl ?_
        refine q_iinc (L' := [some (.ref 0), some (.int (nI o)), some (.int b), some (.int p), some (.int e), some (.double y), none, some (.int (nI (k + 1))), none, none]) (v := (nI (k + 1))) d140_120 rfl (nI_inc _) rfl ?_
        refine q_goto (tgt := 49) d140_123 rfl ?_
        exact r_sub (L' := [some (.ref 0), some (.int (nI o)), some (.int b), some (.int p), some (.int e), some (.double y), none, some (.int (nI (k + 1))), none, none]) ⟨rfl, rfl, rfl, rfl, rfl, rfl, rfl, trivial⟩ (v3 h1fc h2 h3f)
    ·
      show j_W 140 d 0 0 0 0 70 [some (.ref 0), some (.int (nI o)), some (.int b), some (.int p), some (.int e), some (.double y), none, some (.int (nI k)), none, none] [.int 0] w1 (I, D, RR R) Q
      refine q_if_eq (tgt := 120) d140_70 rfl (fun _ => ?_) (fun h => absurd h (by decide))
      refine q_iinc (L' := [some (.ref 0), some (.int (nI o)), some (.int b), some (.int p), some (.int e), some (.double y), none, some (.int (nI (k + 1))), none, none]) (v := (nI (k + 1))) d140_120 rfl (nI_inc _) rfl ?_
      refine q_goto (tgt := 49) d140_123 rfl ?_
      exact r_sub (L' := [some (.ref 0), some (.int (nI o)), some (.int b), some (.int p), some (.int e), some (.double y), none, some (.int (nI (k + 1))), none, none]) ⟨rfl, rfl, rfl, rfl, rfl, rfl, rfl, trivial⟩ (v4 h1fc h2)

set_option maxRecDepth 10000 in
set_option maxHeartbeats 4000000 in
theorem u140c {d : Nat} {I : Nat → Nat → Int32} {D : Nat → Nat → UInt64} {R : Nat → Nat → Option Nat} {Q : j_Po} {o : Nat} {b : Int32} {p : Int32} {e : Int32} {y : UInt64} {k : Nat} {t : UInt64} {AP : (Nat → Nat → Int32) → (Nat → Nat → UInt64) → Prop} (hk : k < 24) (hA : ∀ (Q : j_Po), (∀ J E, AP J E → Q (some (.double t)) w1 (J, E, RR R)) → j_Call 55 141 [.ref 0, .int (nI o), .int (nI k), .double (FP.ddiv (FP.i2d b) 4620693217682128896)] w1 (I, D, RR R) 0 0 Q) (hd : 60 ≤ d)
    (v1 : ∀ J1 : Nat → Nat → Int32, ∀ E2 : Nat → Nat → UInt64, (AP J1 E2) → (dgt t y = false) → j_W 140 d 0 0 0 0 49 [some (.ref 0), some (.int (nI o)), some (.int b), some (.int p), some (.int e), some (.double y), none, some (.int (nI (k + 1))), none, none] [] w1 (J1, E2, RR R) Q)
    (v2 : ∀ J1 : Nat → Nat → Int32, ∀ E2 : Nat → Nat → UInt64, (AP J1 E2) → (dgt t y = true) → j_W 140 d 0 0 0 0 49 [some (.ref 0), some (.int (nI o)), some (.int b), some (.int p), some (.int (nI k)), some (.double t), none, some (.int (nI (k + 1))), none, none] [] w1 (J1, E2, RR R) Q) : j_W 140 d 0 0 0 0 89 [some (.ref 0), some (.int (nI o)), some (.int b), some (.int p), some (.int e), some (.double y), none, some (.int (nI k)), none, none] [] w1 (I, D, RR R) Q := by
  refine q_aload_n d140_89 rfl ?_
  refine q_iload_n d140_90 rfl ?_
  refine q_iload d140_91 rfl ?_
  refine q_iload_n d140_93 rfl ?_
  refine q_i2d d140_94 ?_
  refine q_ldcD (v := 4620693217682128896) d140_95 (kc9_80 140 rfl) ?_
  refine q_ddiv (n64_i8 _) d140_98 ?_
  refine q_invV (o := 0) (ci := 9) (av := [.int (nI o), .int (nI k), .double (FP.ddiv (FP.i2d b) 4620693217682128896)]) (rest := []) (d' := 55) (mc' := 0) (ms' := 0) d140_99 (cv9_321 140 rfl) rfl (by decide) rfl rfl (by omega) (Nat.le_of_ble_eq_true rfl) (Nat.le_of_ble_eq_true rfl) (lt_w1 rfl) sh0 (Nat.le_refl _) (Nat.le_refl _) ?_
  refine hA _  (fun J1 E2 h3 => ?_)
  show j_W 140 d 0 0 0 0 102 [some (.ref 0), some (.int (nI o)), some (.int b), some (.int p), some (.int e), some (.double y), none, some (.int (nI k)), none, none] [.double t] w1 (J1, E2, RR R) Q
  refine q_dstore (L' := [some (.ref 0), some (.int (nI o)), some (.int b), some (.int p), some (.int e), some (.double y), none, some (.int (nI k)), some (.double t), none]) d140_102 (Nat.le_of_ble_eq_true rfl) rfl ?_
  refine q_dload d140_104 rfl ?_
  refine q_dload d140_106 rfl ?_
  refine q_dcmp d140_108 ?_
  refine q_if_le (tgt := 120) d140_109 rfl (fun h4t => ?_) (fun h4f => ?_)
  ·
    have h4tc : dgt t y = false := dc_l_le_t h4t
    refine q_iinc (L' := [some (.ref 0), some (.int (nI o)), some (.int b), some (.int p), some (.int e), some (.double y), none, some (.int (nI (k + 1))), some (.double t), none]) (v := (nI (k + 1))) d140_120 rfl (nI_inc _) rfl ?_
    refine q_goto (tgt := 49) d140_123 rfl ?_
    exact r_sub (L' := [some (.ref 0), some (.int (nI o)), some (.int b), some (.int p), some (.int e), some (.double y), none, some (.int (nI (k + 1))), none, none]) ⟨rfl, rfl, rfl, rfl, rfl, rfl, rfl, trivial⟩ (v1 J1 E2 h3 h4tc)
  ·
    have h4fc : dgt t y = true := dc_l_le_f h4f
    refine q_dload d140_112 rfl ?_
    refine q_dstore (L' := [some (.ref 0), some (.int (nI o)), some (.int b), some (.int p), some (.int e), some (.double t), none, some (.int (nI k)), some (.double t), none]) d140_114 (Nat.le_of_ble_eq_true rfl) rfl ?_
    refine q_iload d140_116 rfl ?_
    refine q_istore (L' := [some (.ref 0), some (.int (nI o)), some (.int b), some (.int p), some (.int (nI k)), some (.double t), none, some (.int (nI k)), some (.double t), none]) d140_118 (Nat.le_of_ble_eq_true rfl) rfl ?_
    refine q_iinc (L' := [some (.ref 0), some (.int (nI o)), some (.int b), some (.int p), some (.int (nI k)), some (.double t), none, some (.int (nI (k + 1))), some (.double t), none]) (v := (nI (k + 1))) d140_120 rfl (nI_inc _) rfl ?_
    refine q_goto (tgt := 49) d140_123 rfl ?_
    exact r_sub (L' := [some (.ref 0), some (.int (nI o)), some (.int b), some (.int p), some (.int (nI k)), some (.double t), none, some (.int (nI (k + 1))), none, none]) ⟨rfl, rfl, rfl, rfl, rfl, rfl, rfl, trivial⟩ (v2 J1 E2 h3 h4fc)

set_option maxRecDepth 10000 in
set_option maxHeartbeats 4000000 in
theorem u140z {d : Nat} {I : Nat → Nat → Int32} {D : Nat → Nat → UInt64} {R : Nat → Nat → Option Nat} {Q : j_Po} {o : Nat} {b : Int32} {p : Int32} {e : Int32} {y : UInt64}   (hd : 2 ≤ d)
    (v1 : (p = 0) → Q (some (.long ((e : Int32).toInt64))) w1 (I, D, RR R))
    (v2 : (¬ p = 0) → (¬ e = (-1)) → Fi y)
    (v3 : (¬ p = 0) → (¬ e = (-1)) → y ≠ 0x8000000000000000)
    (v4 : (¬ p = 0) → (¬ e = (-1)) → Q (some (.long (y : UInt64).toInt64)) w1 (I, D, RR R))
    (v5 : (¬ p = 0) → (e = (-1)) → Q (some (.long ((e : Int32).toInt64))) w1 (I, D, RR R)) : j_W 140 d 0 0 0 0 126 [some (.ref 0), some (.int (nI o)), some (.int b), some (.int p), some (.int e), some (.double y), none, none, none, none] [] w1 (I, D, RR R) Q := by
  refine q_iload_n d140_126 rfl ?_
  refine q_if_eq (tgt := 136) d140_127 rfl (fun h1t => ?_) (fun h1f => ?_)
  ·
    refine q_iload d140_136 rfl ?_
    refine q_i2l d140_138 ?_
    exact q_lret d140_139 rfl (Nat.le_refl _) (Nat.le_refl _) (v1 h1t)
  ·
    refine q_iload d140_130 rfl ?_
    refine q_iconst (v := (-1)) (by decide) d140_132 ?_
    refine q_icmp_ne (tgt := 140) d140_133 rfl (fun h2t => ?_) (fun h2f => ?_)
    ·
      refine q_dload d140_140 rfl ?_
      refine q_invS (av := [.double y]) (rest := []) (d' := 0) (mc' := 0) (ms' := 0) d140_142 (cv9_267 140 rfl) rfl rfl (by omega) (Nat.le_of_ble_eq_true rfl) (Nat.le_of_ble_eq_true rfl) (Nat.le_refl _) (Nat.le_refl _) ?_
      refine f57b (v2 h1f h2t) (v3 h1f h2t) ?_
      show j_W 140 d 0 0 0 0 145 [some (.ref 0), some (.int (nI o)), some (.int b), some (.int p), some (.int e), some (.double y), none, none, none, none] [.long (y : UInt64).toInt64] w1 (I, D, RR R) Q
      exact q_lret d140_145 rfl (Nat.le_refl _) (Nat.le_refl _) (v4 h1f h2t)
    ·
      refine q_iload d140_136 rfl ?_
      refine q_i2l d140_138 ?_
      exact q_lret d140_139 rfl (Nat.le_refl _) (Nat.le_refl _) (v5 h1f h2f)

set_option maxRecDepth 10000 in
set_option maxHeartbeats 4000000 in
theorem u271r {d : Nat} {I : Nat → Nat → Int32} {D : Nat → Nat → UInt64} {R : Nat → Nat → Option Nat} {Q : j_Po} {a : Int32} {b : Int32} {p : Int32}   (hd : 3 ≤ d)
    (v1 : ∀ k1 : Nat, (k1 < 24) → (a = nI k1) → ((¬ b < (1 : Int32) ∧ ¬ (80000 : Int32) < b)) → ((¬ p < (0 : Int32) ∧ ¬ (1 : Int32) < p)) → j_W 271 d 0 0 0 0 31 [some (.ref 260), some (.int (nI k1)), some (.int b), some (.int p), none, none, none, none, none, none, none, none, none, none, none, none] [] w1 (I, D, RR R) Q)
    (v2 : ∀ k1 : Nat, (k1 < 24) → (a = nI k1) → ((¬ b < (1 : Int32) ∧ ¬ (80000 : Int32) < b)) → (¬ ((¬ p < (0 : Int32) ∧ ¬ (1 : Int32) < p))) → Q (some (.long (-2))) w1 (I, D, RR R))
    (v3 : ∀ k1 : Nat, (k1 < 24) → (a = nI k1) → (¬ ((¬ b < (1 : Int32) ∧ ¬ (80000 : Int32) < b))) → Q (some (.long (-2))) w1 (I, D, RR R))
    (v4 : (¬ (∃ k : Nat, k < 24 ∧ a = nI k)) → Q (some (.long (-2))) w1 (I, D, RR R)) : j_Call d 271 [.ref 260, .int a, .int b, .int p] w1 (I, D, RR R) 0 0 Q := by
  refine q_enter (L := [some (.ref 260), some (.int a), some (.int b), some (.int p), none, none, none, none, none, none, none, none, none, none, none, none]) j_m271 (Nat.le_of_ble_eq_true rfl) rfl ?_
  refine q_iload_n d271_0 rfl ?_
  refine q_invS (av := [.int a]) (rest := []) (d' := 1) (mc' := 0) (ms' := 0) d271_1 (cv10_312 271 rfl) rfl rfl (by omega) (Nat.le_of_ble_eq_true rfl) (Nat.le_of_ble_eq_true rfl) (Nat.le_refl _) (Nat.le_refl _) ?_
  refine r167 (Nat.le_refl _)  (fun k1 h1 h1e => ?_) (fun h1 => ?_)
  ·
    subst h1e
    show j_W 271 d 0 0 0 0 4 [some (.ref 260), some (.int (nI k1)), some (.int b), some (.int p), none, none, none, none, none, none, none, none, none, none, none, none] [.int 1] w1 (I, D, RR R) Q
    refine q_if_eq (tgt := 27) d271_4 rfl (fun h => absurd h (by decide)) (fun _ => ?_)
    refine q_iload_n d271_7 rfl ?_
    refine q_iconst (v := 1) (by decide) d271_8 ?_
    refine q_ldcwI (v := 80000) d271_9 (kc10_484 271 rfl) ?_
    refine q_invS (av := [.int b, .int 1, .int 80000]) (rest := []) (d' := 0) (mc' := 0) (ms' := 0) d271_12 (cv10_183 271 rfl) rfl rfl (by omega) (Nat.le_of_ble_eq_true rfl) (Nat.le_of_ble_eq_true rfl) (Nat.le_refl _) (Nat.le_refl _) ?_
    refine p168  (fun h2 => ?_) (fun h2 => ?_)
    ·
      show j_W 271 d 0 0 0 0 15 [some (.ref 260), some (.int (nI k1)), some (.int b), some (.int p), none, none, none, none, none, none, none, none, none, none, none, none] [.int 1] w1 (I, D, RR R) Q
      refine q_if_eq (tgt := 27) d271_15 rfl (fun h => absurd h (by decide)) (fun _ => ?_)
      refine q_iload_n d271_18 rfl ?_
      refine q_iconst (v := 0) (by decide) d271_19 ?_
      refine q_iconst (v := 1) (by decide) d271_20 ?_
      refine q_invS (av := [.int p, .int 0, .int 1]) (rest := []) (d' := 0) (mc' := 0) (ms' := 0) d271_21 (cv10_183 271 rfl) rfl rfl (by omega) (Nat.le_of_ble_eq_true rfl) (Nat.le_of_ble_eq_true rfl) (Nat.le_refl _) (Nat.le_refl _) ?_
      refine p168  (fun h3 => ?_) (fun h3 => ?_)
      ·
        show j_W 271 d 0 0 0 0 24 [some (.ref 260), some (.int (nI k1)), some (.int b), some (.int p), none, none, none, none, none, none, none, none, none, none, none, none] [.int 1] w1 (I, D, RR R) Q
        refine q_if_ne (tgt := 31) d271_24 rfl (fun _ => ?_) (fun h => absurd h (by decide))
        exact r_sub (L' := [some (.ref 260), some (.int (nI k1)), some (.int b), some (.int p), none, none, none, none, none, none, none, none, none, none, none, none]) ⟨rfl, rfl, rfl, rfl, trivial⟩ (v1 k1 h1 rfl h2 h3)
      ·
        show j_W 271 d 0 0 0 0 24 [some (.ref 260), some (.int (nI k1)), some (.int b), some (.int p), none, none, none, none, none, none, none, none, none, none, none, none] [.int 0] w1 (I, D, RR R) Q
        refine q_if_ne (tgt := 31) d271_24 rfl (fun h => absurd h (by decide)) (fun _ => ?_)
        refine q_ldcL (v := (-2)) d271_27 (kc10_326 271 rfl) ?_
        exact q_lret d271_30 rfl (Nat.le_refl _) (Nat.le_refl _) (v2 k1 h1 rfl h2 h3)
    ·
      show j_W 271 d 0 0 0 0 15 [some (.ref 260), some (.int (nI k1)), some (.int b), some (.int p), none, none, none, none, none, none, none, none, none, none, none, none] [.int 0] w1 (I, D, RR R) Q
      refine q_if_eq (tgt := 27) d271_15 rfl (fun _ => ?_) (fun h => absurd h (by decide))
      refine q_ldcL (v := (-2)) d271_27 (kc10_326 271 rfl) ?_
      exact q_lret d271_30 rfl (Nat.le_refl _) (Nat.le_refl _) (v3 k1 h1 rfl h2)
  ·
    show j_W 271 d 0 0 0 0 4 [some (.ref 260), some (.int a), some (.int b), some (.int p), none, none, none, none, none, none, none, none, none, none, none, none] [.int 0] w1 (I, D, RR R) Q
    refine q_if_eq (tgt := 27) d271_4 rfl (fun _ => ?_) (fun h => absurd h (by decide))
    refine q_ldcL (v := (-2)) d271_27 (kc10_326 271 rfl) ?_
    exact q_lret d271_30 rfl (Nat.le_refl _) (Nat.le_refl _) (v4 h1)

set_option maxRecDepth 10000 in
set_option maxHeartbeats 4000000 in
theorem u271a {d : Nat} {I : Nat → Nat → Int32} {D : Nat → Nat → UInt64} {R : Nat → Nat → Option Nat} {Q : j_Po} {o : Nat} {b : Int32} {p : Int32} {β : Bd} {rd : Nat → Int32} (hV : BV β) (hd : 90 ≤ d)
    (v1 : RdE β rd)
    (v2 : o < 24)
    (v3 : 40 ≤ 40)
    (v4 : RBN β I)
    (v5 : ∀ J1 : Nat → Nat → Int32, (∀ o, o ≠ 359 → o ≠ 360 → J1 o = I o) → (RBN β J1) → j_W 271 d 0 0 0 0 47 [some (.ref 260), some (.int (nI o)), some (.int b), some (.int p), some (.int (-1)), some (.double FP.dconst0), none, some (.int (rd o)), some (.int 0), none, none, none, none, none, none, none] [] w1 (J1, D, RR R) Q) : j_W 271 d 0 0 0 0 31 [some (.ref 260), some (.int (nI o)), some (.int b), some (.int p), none, none, none, none, none, none, none, none, none, none, none, none] [] w1 (I, D, RR R) Q := by
  refine q_iconst (v := (-1)) (by decide) d271_31 ?_
  refine q_istore (L' := [some (.ref 260), some (.int (nI o)), some (.int b), some (.int p), some (.int (-1)), none, none, none, none, none, none, none, none, none, none, none]) d271_32 (Nat.le_of_ble_eq_true rfl) rfl ?_
  refine q_dconst0 d271_34 ?_
  refine q_dstore (L' := [some (.ref 260), some (.int (nI o)), some (.int b), some (.int p), some (.int (-1)), some (.double FP.dconst0), none, none, none, none, none, none, none, none, none, none]) d271_35 (Nat.le_of_ble_eq_true rfl) rfl ?_
  refine q_aload_n d271_37 rfl ?_
  refine q_iload_n d271_38 rfl ?_
  refine q_invV (o := 260) (ci := 10) (av := [.int (nI o)]) (rest := []) (d' := 40) (mc' := 0) (ms' := 0) d271_39 (cv10_323 271 rfl) rfl (by decide) rfl rfl (by omega) (Nat.le_of_ble_eq_true rfl) (Nat.le_of_ble_eq_true rfl) (lt_w1 rfl) sh260 (Nat.le_refl _) (Nat.le_refl _) ?_
  refine c177 (rd := rd) hV v1 v2 v3 v4 (fun J1 h2 h3 => ?_)
  show j_W 271 d 0 0 0 0 42 [some (.ref 260), some (.int (nI o)), some (.int b), some (.int p), some (.int (-1)), some (.double FP.dconst0), none, none, none, none, none, none, none, none, none, none] [.int (rd o)] w1 (J1, D, RR R) Q
  refine q_istore (L' := [some (.ref 260), some (.int (nI o)), some (.int b), some (.int p), some (.int (-1)), some (.double FP.dconst0), none, some (.int (rd o)), none, none, none, none, none, none, none, none]) d271_42 (Nat.le_of_ble_eq_true rfl) rfl ?_
  refine q_iconst (v := 0) (by decide) d271_44 ?_
  refine q_istore (L' := [some (.ref 260), some (.int (nI o)), some (.int b), some (.int p), some (.int (-1)), some (.double FP.dconst0), none, some (.int (rd o)), some (.int 0), none, none, none, none, none, none, none]) d271_45 (Nat.le_of_ble_eq_true rfl) rfl ?_
  exact r_sub (L' := [some (.ref 260), some (.int (nI o)), some (.int b), some (.int p), some (.int (-1)), some (.double FP.dconst0), none, some (.int (rd o)), some (.int 0), none, none, none, none, none, none, none]) ⟨rfl, rfl, rfl, rfl, rfl, rfl, rfl, rfl, trivial⟩ (v5 J1 h2 h3)

set_option maxRecDepth 10000 in
set_option maxHeartbeats 4000000 in
theorem u271h {d : Nat} {I : Nat → Nat → Int32} {D : Nat → Nat → UInt64} {R : Nat → Nat → Option Nat} {Q : j_Po} {o : Nat} {b : Int32} {p : Int32} {e : Int32} {y : UInt64} {s : Int32} {k : Nat}  (hk : k ≤ 24) (hd : 2 ≤ d)
    (v1 : (24 ≤ k) → j_W 271 d 0 0 0 0 202 [some (.ref 260), some (.int (nI o)), some (.int b), some (.int p), some (.int e), some (.double y), none, none, none, none, none, none, none, none, none, none] [] w1 (I, D, RR R) Q)
    (v2 : (¬ 24 ≤ k) → (((s >>> ((nI k) &&& 31)) &&& 1) = 0) → j_W 271 d 0 0 0 0 47 [some (.ref 260), some (.int (nI o)), some (.int b), some (.int p), some (.int e), some (.double y), none, some (.int s), some (.int (nI (k + 1))), none, none, none, none, none, none, none] [] w1 (I, D, RR R) Q)
    (v3 : (¬ 24 ≤ k) → (¬ ((s >>> ((nI k) &&& 31)) &&& 1) = 0) → (¬ (I 262 k) = 0) → j_W 271 d 0 0 0 0 77 [some (.ref 260), some (.int (nI o)), some (.int b), some (.int p), some (.int e), some (.double y), none, some (.int s), some (.int (nI k)), none, none, none, none, none, none, none] [] w1 (I, D, RR R) Q)
    (v4 : (¬ 24 ≤ k) → (¬ ((s >>> ((nI k) &&& 31)) &&& 1) = 0) → ((I 262 k) = 0) → j_W 271 d 0 0 0 0 47 [some (.ref 260), some (.int (nI o)), some (.int b), some (.int p), some (.int e), some (.double y), none, some (.int s), some (.int (nI (k + 1))), none, none, none, none, none, none, none] [] w1 (I, D, RR R) Q) : j_W 271 d 0 0 0 0 47 [some (.ref 260), some (.int (nI o)), some (.int b), some (.int p), some (.int e), some (.double y), none, some (.int s), some (.int (nI k)), none, none, none, none, none, none, none] [] w1 (I, D, RR R) Q := by
  refine q_iload d271_47 rfl ?_
  refine q_bipush (v := 24) (by decide) d271_49 ?_
  refine q_icmp_ge (tgt := 202) d271_51 rfl (fun h1t => ?_) (fun h1f => ?_)
  ·
    have h1tc : 24 ≤ k := (nI_leI (by omega) (by omega)).mp h1t
    exact r_sub (L' := [some (.ref 260), some (.int (nI o)), some (.int b), some (.int p), some (.int e), some (.double y), none, none, none, none, none, none, none, none, none, none]) ⟨rfl, rfl, rfl, rfl, rfl, rfl, trivial⟩ (v1 h1tc)
  ·
    have h1fc : ¬ 24 ≤ k := mt (nI_leI (by omega) (by omega)).mpr h1f
    refine q_iload d271_54 rfl ?_
    refine q_iload d271_56 rfl ?_
    refine q_ishr d271_58 ?_
    refine q_iconst (v := 1) (by decide) d271_59 ?_
    refine q_iand d271_60 ?_
    refine q_if_eq (tgt := 196) d271_61 rfl (fun h2t => ?_) (fun h2f => ?_)
    ·
      refine q_iinc (L' := [some (.ref 260), some (.int (nI o)), some (.int b), some (.int p), some (.int e), some (.double y), none, some (.int s), some (.int (nI (k + 1))), none, none, none, none, none, none, none]) (v := (nI (k + 1))) d271_196 rfl (nI_inc _) rfl ?_
      refine q_goto (tgt := 47) d271_199 rfl ?_
      exact r_sub (L' := [some (.ref 260), some (.int (nI o)), some (.int b), some (.int p), some (.int e), some (.double y), none, some (.int s), some (.int (nI (k + 1))), none, none, none, none, none, none, none]) ⟨rfl, rfl, rfl, rfl, rfl, rfl, rfl, rfl, trivial⟩ (v2 h1fc h2t)
    ·
      refine q_aload_n d271_64 rfl ?_
      refine q_getR (x := 262) d271_65 (fs10_13 271 rfl) rfl (lt_w1 rfl) sh260 (rs260_1 R) (by decide) ?_
      refine q_iload d271_68 rfl ?_
      refine q_zaload (a := k) d271_70 (lt_w1 rfl) sh262 rfl (by omega) ?_
      refine q_if_ne (tgt := 77) d271_71 rfl (fun h3t => ?_) (fun h3f => ?_)
      ·
        exact r_sub (L' := [some (.ref 260), some (.int (nI o)), some (.int b), some (.int p), some (.int e), some (.double y), none, some (.int s), some (.int (nI k)), none, none, none, none, none, none, none]) ⟨rfl, rfl, rfl, rfl, rfl, rfl, rfl, rfl, trivial⟩ (v3 h1fc h2f h3t)
      ·
        refine q_goto (tgt := 196) d271_74 rfl ?_
        refine q_iinc (L' := [some (.ref 260), some (.int (nI o)), some (.int b), some (.int p), some (.int e), some (.double y), none, some (.int s), some (.int (nI (k + 1))), none, none, none, none, none, none, none]) (v := (nI (k + 1))) d271_196 rfl (nI_inc _) rfl ?_
        refine q_goto (tgt := 47) d271_199 rfl ?_
        exact r_sub (L' := [some (.ref 260), some (.int (nI o)), some (.int b), some (.int p), some (.int e), some (.double y), none, some (.int s), some (.int (nI (k + 1))), none, none, none, none, none, none, none]) ⟨rfl, rfl, rfl, rfl, rfl, rfl, rfl, rfl, trivial⟩ (v4 h1fc h2f h3f)

set_option maxRecDepth 10000 in
set_option maxHeartbeats 4000000 in
theorem u199s {d : Nat} {I : Nat → Nat → Int32} {D : Nat → Nat → UInt64} {R : Nat → Nat → Option Nat} {Q : j_Po} {c : Nat} {β : Bd} {η : VEnv} (hV : BV β) (hc : c < 24) (hd : 80 ≤ d)
    (v1 : RSt β I D)
    (v2 : RIn β I D η)
    (v3 : c < 24)
    (v4 : 70 ≤ 70)
    (v5 : ∀ J1 : Nat → Nat → Int32, ∀ E2 : Nat → Nat → UInt64, (FRr I D J1 E2) → (VQ (J1 380 c) (J1 388 c) (E2 372 c) (val β η c)) → (Sm (E2 372 c)) → Q (some (.double (E2 372 c))) w1 (J1, E2, RR R)) : j_Call d 199 [.ref 260, .int (nI c)] w1 (I, D, RR R) 0 0 Q := by
  refine q_enter (L := [some (.ref 260), some (.int (nI c))]) j_m199 (Nat.le_of_ble_eq_true rfl) rfl ?_
  refine q_aload_n d199_0 rfl ?_
  refine q_iload_n d199_1 rfl ?_
  refine q_invV (o := 260) (ci := 10) (av := [.int (nI c)]) (rest := []) (d' := 70) (mc' := 0) (ms' := 0) d199_2 (cv10_296 199 rfl) rfl (by decide) rfl rfl (by omega) (Nat.le_of_ble_eq_true rfl) (Nat.le_of_ble_eq_true rfl) (lt_w1 rfl) sh260 (Nat.le_refl _) (Nat.le_refl _) ?_
  refine c189s (η := η) hV v1 v2 v3 v4 (fun J1 E2 h3 h4 h5 => ?_)
  show j_W 199 d 0 0 0 0 5 [some (.ref 260), some (.int (nI c))] [] w1 (J1, E2, RR R) Q
  refine q_aload_n d199_5 rfl ?_
  refine q_getR (x := 371) d199_6 (fs10_75 199 rfl) rfl (lt_w1 rfl) sh260 (rs260_20 R) (by decide) ?_
  refine q_iconst (v := 0) (by decide) d199_9 ?_
  refine q_aaload (c := 3) (a := 0) (x := 372) d199_10 (lt_w1 rfl) sh371 (by decide) rfl (by decide) (rm371 (k := 0) R (by decide)) (by decide) ?_
  refine q_iload_n d199_11 rfl ?_
  refine q_daload (a := c) d199_12 (lt_w1 rfl) sh372 rfl (by omega) ?_
  exact q_dret d199_13 rfl (Nat.le_refl _) (Nat.le_refl _) (v5 J1 E2 h3 h4 h5)

theorem c199s {β : Bd} {I : Nat → Nat → Int32} {D : Nat → Nat → UInt64} {R : Nat → Nat → Option Nat} {Q : j_Po} (hV : BV β) (hS : RSt β I D) {η : VEnv} (hI : RIn β I D η) {d c : Nat} (hc : c < 24) (hd : 80 ≤ d) (hq : ∀ J E, FRr I D J E → VQ (J 380 c) (J 388 c) (E 372 c) (val β η c) → Sm (E 372 c) → Q (some (.double (E 372 c))) w1 (J, E, RR R)) : j_Call d 199 [.ref 260, .int (nI c)] w1 (I, D, RR R) 0 0 Q := u199s hV hc hd hS hI hc (Nat.le_refl _) hq
set_option maxRecDepth 10000 in
set_option maxHeartbeats 4000000 in
theorem u206s {d : Nat} {I : Nat → Nat → Int32} {D : Nat → Nat → UInt64} {R : Nat → Nat → Option Nat} {Q : j_Po} {c : Nat} {o : Nat} {y : UInt64} {g : Int32} {β : Bd} {η : VEnv} (hV : BV β) (hc : c < 24) (ho : o < 24) (hd : 90 ≤ d)
    (v1 : RSt β I D)
    (v2 : RIn β I D η)
    (v3 : o < 24)
    (v4 : 80 ≤ 80)
    (v5 : ∀ J1 : Nat → Nat → Int32, ∀ E2 : Nat → Nat → UInt64, (FRr I D J1 E2) → (VQ (J1 380 o) (J1 388 o) (E2 372 o) (val β η o)) → (Sm (E2 372 o)) → g = 0 ∨ g = 1)
    (v6 : ∀ J1 : Nat → Nat → Int32, ∀ E2 : Nat → Nat → UInt64, (FRr I D J1 E2) → (VQ (J1 380 o) (J1 388 o) (E2 372 o) (val β η o)) → (Sm (E2 372 o)) → Q (some (.double (E2 372 o))) w1 ((j_u J1 262 c g), (j_u E2 263 c y), RR R)) : j_W 206 d 0 0 0 0 30 [some (.ref 260), some (.int (nI c)), none, none, some (.int (nI o)), some (.double y), none, some (.int g), none, none] [] w1 (I, D, RR R) Q := by
  refine q_aload_n d206_30 rfl ?_
  refine q_iload d206_31 rfl ?_
  refine q_invV (o := 260) (ci := 10) (av := [.int (nI o)]) (rest := []) (d' := 80) (mc' := 0) (ms' := 0) d206_33 (cv10_328 206 rfl) rfl (by decide) rfl rfl (by omega) (Nat.le_of_ble_eq_true rfl) (Nat.le_of_ble_eq_true rfl) (lt_w1 rfl) sh260 (Nat.le_refl _) (Nat.le_refl _) ?_
  refine c199s (η := η) hV v1 v2 v3 v4 (fun J1 E2 h3 h4 h5 => ?_)
  show j_W 206 d 0 0 0 0 36 [some (.ref 260), some (.int (nI c)), none, none, some (.int (nI o)), some (.double y), none, some (.int g), none, none] [.double (E2 372 o)] w1 (J1, E2, RR R) Q
  refine q_dstore (L' := [some (.ref 260), some (.int (nI c)), none, none, some (.int (nI o)), some (.double y), none, some (.int g), some (.double (E2 372 o)), none]) d206_36 (Nat.le_of_ble_eq_true rfl) rfl ?_
  refine q_aload_n d206_38 rfl ?_
  refine q_getR (x := 263) d206_39 (fs10_17 206 rfl) rfl (lt_w1 rfl) sh260 (rs260_2 R) (by decide) ?_
  refine q_iload_n d206_42 rfl ?_
  refine q_dload d206_43 rfl ?_
  refine q_dastore (a := c) d206_45 (lt_w1 rfl) sh263 rfl (by omega) ?_
  refine q_aload_n d206_46 rfl ?_
  refine q_getR (x := 262) d206_47 (fs10_13 206 rfl) rfl (lt_w1 rfl) sh260 (rs260_1 R) (by decide) ?_
  refine q_iload_n d206_50 rfl ?_
  refine q_iload d206_51 rfl ?_
  refine q_zastore (a := c) d206_53 (v5 J1 E2 h3 h4 h5) (lt_w1 rfl) sh262 rfl (by omega) ?_
  refine q_dload d206_54 rfl ?_
  exact q_dret d206_56 rfl (Nat.le_refl _) (Nat.le_refl _) (v6 J1 E2 h3 h4 h5)

theorem c206s {β : Bd} {I : Nat → Nat → Int32} {D : Nat → Nat → UInt64} {R : Nat → Nat → Option Nat} {Q : j_Po} (hV : BV β) (hS : RSt β I D) {η : VEnv} (hI : RIn β I D η) {d c o : Nat} {x : UInt64} (hc : c < 24) (ho : o < 24) (hx : Sm x) (hd : 90 ≤ d) (hq : ∀ J E, FRr I D J E → VQ (J 380 o) (J 388 o) (E 372 o) (val β (fu η c (0, kp (nI (bK β c)) x)) o) → Sm (E 372 o) → Q (some (.double (E 372 o))) w1 (J, E, RR R)) : j_Call d 206 [.ref 260, .int (nI c), .double x, .int (nI o)] w1 (I, D, RR R) 0 0 Q := by
  refine u206a hc (by omega) ?_
  refine u206s (η := fu η c (0, kp (nI (bK β c)) x)) hV hc ho hd (hS.cg (fun q _ _ a => by funext i; rw [j_u_o _ _ _ a]) (fun q _ _ a => by funext i; rw [j_u_o _ _ _ a])) (fun k hk => ?_) ho (Nat.le_refl _) (fun _ _ _ _ _ => (hI c hc).1) (fun K F h1 h2 h3 => ?_)
  · by_cases e : k = c
    · subst e
      rw [j_u_same, j_u_same, fu_s]
      exact ⟨Or.inr rfl, hx, fun _ => ⟨fun h => absurd h (by decide), fun _ => rfl⟩⟩
    · rw [j_u_k _ _ e, j_u_k _ _ e, fu_n e]; exact hI k hk
  · have e1 : (j_u F 263 c (D 263 c)) 372 o = F 372 o := j_u_o _ _ _ (by decide)
    have := hq (j_u K 262 c (I 262 c)) (j_u F 263 c (D 263 c)) ⟨fun q a => ?_, fun i a1 a2 a3 a4 => ?_, fun q a => ?_⟩ (by rw [j_u_o _ _ _ (by decide), j_u_o _ _ _ (by decide), e1]; exact h2) (by rw [e1]; exact h3)
    · rw [e1] at this; exact this
    · funext i
      by_cases e : q = 262
      · subst e
        by_cases e2 : i = c
        · subst e2; rw [j_u_same]
        · rw [j_u_k _ _ e2, h1.1 262 a, j_u_k _ _ e2]
      · rw [j_u_o _ _ _ e, h1.1 q a, j_u_o _ _ _ e]
    · rw [j_u_o _ _ _ (by decide), h1.2.1 i a1 a2 a3 a4, j_u_o _ _ _ (by decide)]
    · funext i
      by_cases e : q = 263
      · subst e
        by_cases e2 : i = c
        · subst e2; rw [j_u_same]
        · rw [j_u_k _ _ e2, h1.2.2 263 a, j_u_k _ _ e2]
      · rw [j_u_o _ _ _ e, h1.2.2 q a, j_u_o _ _ _ e]
set_option maxRecDepth 10000 in
set_option maxHeartbeats 4000000 in
theorem u271b {d : Nat} {I : Nat → Nat → Int32} {D : Nat → Nat → UInt64} {R : Nat → Nat → Option Nat} {Q : j_Po} {o : Nat} {b : Int32} {p : Int32} {e : Int32} {y : UInt64} {s : Int32} {k : Nat} {β : Bd} (hV : BV β) (ho : o < 24) (hk : k < 24) (hd : 100 ≤ d)
    (v1 : vf_n64 (FP.dadd (D 263 k) (FP.ddiv (FP.i2d b) 4620693217682128896)))
    (v2 : RSt β I D)
    (v3 : RIn β I D (env β))
    (v4 : k < 24)
    (v5 : o < 24)
    (v6 : Sm (FP.dadd (D 263 k) (FP.ddiv (FP.i2d b) 4620693217682128896)))
    (v7 : 90 ≤ 90)
    (v8 : ∀ J1 : Nat → Nat → Int32, ∀ E2 : Nat → Nat → UInt64, (FRr I D J1 E2) → (VQ (J1 380 o) (J1 388 o) (E2 372 o) (val β (fu (env β) k (0, kp (nI (bK β k)) (FP.dadd (D 263 k) (FP.ddiv (FP.i2d b) 4620693217682128896)))) o)) → (Sm (E2 372 o)) → 0 ≤ 0)
    (v9 : ∀ J1 : Nat → Nat → Int32, ∀ E2 : Nat → Nat → UInt64, (FRr I D J1 E2) → (VQ (J1 380 o) (J1 388 o) (E2 372 o) (val β (fu (env β) k (0, kp (nI (bK β k)) (FP.dadd (D 263 k) (FP.ddiv (FP.i2d b) 4620693217682128896)))) o)) → (Sm (E2 372 o)) → ((J1 380 o) = 0) → j_W 271 d 0 0 0 0 115 [some (.ref 260), some (.int (nI o)), some (.int b), some (.int p), some (.int e), some (.double y), none, some (.int s), some (.int (nI k)), some (.double (E2 372 o)), none, some (.int 0), none, none, none, none] [] w1 (J1, E2, RR R) Q)
    (v10 : ∀ J1 : Nat → Nat → Int32, ∀ E2 : Nat → Nat → UInt64, (FRr I D J1 E2) → (VQ (J1 380 o) (J1 388 o) (E2 372 o) (val β (fu (env β) k (0, kp (nI (bK β k)) (FP.dadd (D 263 k) (FP.ddiv (FP.i2d b) 4620693217682128896)))) o)) → (Sm (E2 372 o)) → (¬ (J1 380 o) = 0) → j_W 271 d 0 0 0 0 115 [some (.ref 260), some (.int (nI o)), some (.int b), some (.int p), some (.int e), some (.double y), none, some (.int s), some (.int (nI k)), some (.double (E2 372 o)), none, some (.int 1), none, none, none, none] [] w1 (J1, E2, RR R) Q) : j_W 271 d 0 0 0 0 77 [some (.ref 260), some (.int (nI o)), some (.int b), some (.int p), some (.int e), some (.double y), none, some (.int s), some (.int (nI k)), none, none, none, none, none, none, none] [] w1 (I, D, RR R) Q := by
  refine q_aload_n d271_77 rfl ?_
  refine q_iload d271_78 rfl ?_
  refine q_aload_n d271_80 rfl ?_
  refine q_getR (x := 263) d271_81 (fs10_17 271 rfl) rfl (lt_w1 rfl) sh260 (rs260_2 R) (by decide) ?_
  refine q_iload d271_84 rfl ?_
  refine q_daload (a := k) d271_86 (lt_w1 rfl) sh263 rfl (by omega) ?_
  refine q_iload_n d271_87 rfl ?_
  refine q_i2d d271_88 ?_
  refine q_ldcD (v := 4620693217682128896) d271_89 (kc10_318 271 rfl) ?_
  refine q_ddiv (n64_i8 _) d271_92 ?_
  refine q_dadd v1 d271_93 ?_
  refine q_iload_n d271_94 rfl ?_
  refine q_invV (o := 260) (ci := 10) (av := [.int (nI k), .double (FP.dadd (D 263 k) (FP.ddiv (FP.i2d b) 4620693217682128896)), .int (nI o)]) (rest := []) (d' := 90) (mc' := 0) (ms' := 0) d271_95 (cv10_341 271 rfl) rfl (by decide) rfl rfl (by omega) (Nat.le_of_ble_eq_true rfl) (Nat.le_of_ble_eq_true rfl) (lt_w1 rfl) sh260 (Nat.le_refl _) (Nat.le_refl _) ?_
  refine c206s (η := env β) hV v2 v3 v4 v5 v6 v7 (fun J1 E2 h3 h4 h5 => ?_)
  show j_W 271 d 0 0 0 0 98 [some (.ref 260), some (.int (nI o)), some (.int b), some (.int p), some (.int e), some (.double y), none, some (.int s), some (.int (nI k)), none, none, none, none, none, none, none] [.double (E2 372 o)] w1 (J1, E2, RR R) Q
  refine q_dstore (L' := [some (.ref 260), some (.int (nI o)), some (.int b), some (.int p), some (.int e), some (.double y), none, some (.int s), some (.int (nI k)), some (.double (E2 372 o)), none, none, none, none, none, none]) d271_98 (Nat.le_of_ble_eq_true rfl) rfl ?_
  refine q_aload_n d271_100 rfl ?_
  refine q_iload_n d271_101 rfl ?_
  refine q_invV (o := 260) (ci := 10) (av := [.int (nI o)]) (rest := []) (d' := 0) (mc' := 0) (ms' := 0) d271_102 (cv10_332 271 rfl) rfl (by decide) rfl rfl (by omega) (Nat.le_of_ble_eq_true rfl) (Nat.le_of_ble_eq_true rfl) (lt_w1 rfl) sh260 (Nat.le_refl _) (Nat.le_refl _) ?_
  refine u200 v5 (v8 J1 E2 h3 h4 h5) ?_
  show j_W 271 d 0 0 0 0 105 [some (.ref 260), some (.int (nI o)), some (.int b), some (.int p), some (.int e), some (.double y), none, some (.int s), some (.int (nI k)), some (.double (E2 372 o)), none, none, none, none, none, none] [.int (J1 380 o)] w1 (J1, E2, RR R) Q
  refine q_if_eq (tgt := 112) d271_105 rfl (fun h6t => ?_) (fun h6f => ?_)
  ·
    refine q_iconst (v := 0) (by decide) d271_112 ?_
    refine q_istore (L' := [some (.ref 260), some (.int (nI o)), some (.int b), some (.int p), some (.int e), some (.double y), none, some (.int s), some (.int (nI k)), some (.double (E2 372 o)), none, some (.int 0), none, none, none, none]) d271_113 (Nat.le_of_ble_eq_true rfl) rfl ?_
    exact r_sub (L' := [some (.ref 260), some (.int (nI o)), some (.int b), some (.int p), some (.int e), some (.double y), none, some (.int s), some (.int (nI k)), some (.double (E2 372 o)), none, some (.int 0), none, none, none, none]) ⟨rfl, rfl, rfl, rfl, rfl, rfl, rfl, rfl, rfl, rfl, trivial⟩ (v9 J1 E2 h3 h4 h5 h6t)
  ·
    refine q_iconst (v := 1) (by decide) d271_108 ?_
    refine q_goto (tgt := 113) d271_109 rfl ?_
    refine q_istore (L' := [some (.ref 260), some (.int (nI o)), some (.int b), some (.int p), some (.int e), some (.double y), none, some (.int s), some (.int (nI k)), some (.double (E2 372 o)), none, some (.int 1), none, none, none, none]) d271_113 (Nat.le_of_ble_eq_true rfl) rfl ?_
    exact r_sub (L' := [some (.ref 260), some (.int (nI o)), some (.int b), some (.int p), some (.int e), some (.double y), none, some (.int s), some (.int (nI k)), some (.double (E2 372 o)), none, some (.int 1), none, none, none, none]) ⟨rfl, rfl, rfl, rfl, rfl, rfl, rfl, rfl, rfl, rfl, trivial⟩ (v10 J1 E2 h3 h4 h5 h6f)

set_option maxRecDepth 10000 in
set_option maxHeartbeats 4000000 in
theorem u271c {d : Nat} {I : Nat → Nat → Int32} {D : Nat → Nat → UInt64} {R : Nat → Nat → Option Nat} {Q : j_Po} {o : Nat} {b : Int32} {p : Int32} {e : Int32} {y : UInt64} {s : Int32} {k : Nat} {u : UInt64} {β : Bd} {g : Int32} (hV : BV β) (ho : o < 24) (hk : k < 24) (hd : 100 ≤ d)
    (v1 : vf_n64 (FP.dsub (D 263 k) (FP.ddiv (FP.i2d b) 4620693217682128896)))
    (v2 : RSt β I D)
    (v3 : RIn β I D (env β))
    (v4 : k < 24)
    (v5 : o < 24)
    (v6 : Sm (FP.dsub (D 263 k) (FP.ddiv (FP.i2d b) 4620693217682128896)))
    (v7 : 90 ≤ 90)
    (v8 : ∀ J1 : Nat → Nat → Int32, ∀ E2 : Nat → Nat → UInt64, (FRr I D J1 E2) → (VQ (J1 380 o) (J1 388 o) (E2 372 o) (val β (fu (env β) k (0, kp (nI (bK β k)) (FP.dsub (D 263 k) (FP.ddiv (FP.i2d b) 4620693217682128896)))) o)) → (Sm (E2 372 o)) → 0 ≤ 0)
    (v9 : ∀ J1 : Nat → Nat → Int32, ∀ E2 : Nat → Nat → UInt64, (FRr I D J1 E2) → (VQ (J1 380 o) (J1 388 o) (E2 372 o) (val β (fu (env β) k (0, kp (nI (bK β k)) (FP.dsub (D 263 k) (FP.ddiv (FP.i2d b) 4620693217682128896)))) o)) → (Sm (E2 372 o)) → ((J1 380 o) = 0) → j_W 271 d 0 0 0 0 156 [some (.ref 260), some (.int (nI o)), some (.int b), some (.int p), some (.int e), some (.double y), none, some (.int s), some (.int (nI k)), some (.double u), none, some (.int (g ||| 0)), some (.double (E2 372 o)), none, none, none] [] w1 (J1, E2, RR R) Q)
    (v10 : ∀ J1 : Nat → Nat → Int32, ∀ E2 : Nat → Nat → UInt64, (FRr I D J1 E2) → (VQ (J1 380 o) (J1 388 o) (E2 372 o) (val β (fu (env β) k (0, kp (nI (bK β k)) (FP.dsub (D 263 k) (FP.ddiv (FP.i2d b) 4620693217682128896)))) o)) → (Sm (E2 372 o)) → (¬ (J1 380 o) = 0) → j_W 271 d 0 0 0 0 156 [some (.ref 260), some (.int (nI o)), some (.int b), some (.int p), some (.int e), some (.double y), none, some (.int s), some (.int (nI k)), some (.double u), none, some (.int (g ||| 1)), some (.double (E2 372 o)), none, none, none] [] w1 (J1, E2, RR R) Q) : j_W 271 d 0 0 0 0 115 [some (.ref 260), some (.int (nI o)), some (.int b), some (.int p), some (.int e), some (.double y), none, some (.int s), some (.int (nI k)), some (.double u), none, some (.int g), none, none, none, none] [] w1 (I, D, RR R) Q := by
  refine q_aload_n d271_115 rfl ?_
  refine q_iload d271_116 rfl ?_
  refine q_aload_n d271_118 rfl ?_
  refine q_getR (x := 263) d271_119 (fs10_17 271 rfl) rfl (lt_w1 rfl) sh260 (rs260_2 R) (by decide) ?_
  refine q_iload d271_122 rfl ?_
  refine q_daload (a := k) d271_124 (lt_w1 rfl) sh263 rfl (by omega) ?_
  refine q_iload_n d271_125 rfl ?_
  refine q_i2d d271_126 ?_
  refine q_ldcD (v := 4620693217682128896) d271_127 (kc10_318 271 rfl) ?_
  refine q_ddiv (n64_i8 _) d271_130 ?_
  refine q_dsub v1 d271_131 ?_
  refine q_iload_n d271_132 rfl ?_
  refine q_invV (o := 260) (ci := 10) (av := [.int (nI k), .double (FP.dsub (D 263 k) (FP.ddiv (FP.i2d b) 4620693217682128896)), .int (nI o)]) (rest := []) (d' := 90) (mc' := 0) (ms' := 0) d271_133 (cv10_341 271 rfl) rfl (by decide) rfl rfl (by omega) (Nat.le_of_ble_eq_true rfl) (Nat.le_of_ble_eq_true rfl) (lt_w1 rfl) sh260 (Nat.le_refl _) (Nat.le_refl _) ?_
  refine c206s (η := env β) hV v2 v3 v4 v5 v6 v7 (fun J1 E2 h3 h4 h5 => ?_)
  show j_W 271 d 0 0 0 0 136 [some (.ref 260), some (.int (nI o)), some (.int b), some (.int p), some (.int e), some (.double y), none, some (.int s), some (.int (nI k)), some (.double u), none, some (.int g), none, none, none, none] [.double (E2 372 o)] w1 (J1, E2, RR R) Q
  refine q_dstore (L' := [some (.ref 260), some (.int (nI o)), some (.int b), some (.int p), some (.int e), some (.double y), none, some (.int s), some (.int (nI k)), some (.double u), none, some (.int g), some (.double (E2 372 o)), none, none, none]) d271_136 (Nat.le_of_ble_eq_true rfl) rfl ?_
  refine q_iload d271_138 rfl ?_
  refine q_aload_n d271_140 rfl ?_
  refine q_iload_n d271_141 rfl ?_
  refine q_invV (o := 260) (ci := 10) (av := [.int (nI o)]) (rest := [.int g]) (d' := 0) (mc' := 0) (ms' := 0) d271_142 (cv10_332 271 rfl) rfl (by decide) rfl rfl (by omega) (Nat.le_of_ble_eq_true rfl) (Nat.le_of_ble_eq_true rfl) (lt_w1 rfl) sh260 (Nat.le_refl _) (Nat.le_refl _) ?_
  refine u200 v5 (v8 J1 E2 h3 h4 h5) ?_
  show j_W 271 d 0 0 0 0 145 [some (.ref 260), some (.int (nI o)), some (.int b), some (.int p), some (.int e), some (.double y), none, some (.int s), some (.int (nI k)), some (.double u), none, some (.int g), some (.double (E2 372 o)), none, none, none] [.int (J1 380 o), .int g] w1 (J1, E2, RR R) Q
  refine q_if_eq (tgt := 152) d271_145 rfl (fun h6t => ?_) (fun h6f => ?_)
  ·
    refine q_iconst (v := 0) (by decide) d271_152 ?_
    refine q_ior d271_153 ?_
    refine q_istore (L' := [some (.ref 260), some (.int (nI o)), some (.int b), some (.int p), some (.int e), some (.double y), none, some (.int s), some (.int (nI k)), some (.double u), none, some (.int (g ||| 0)), some (.double (E2 372 o)), none, none, none]) d271_154 (Nat.le_of_ble_eq_true rfl) rfl ?_
    exact r_sub (L' := [some (.ref 260), some (.int (nI o)), some (.int b), some (.int p), some (.int e), some (.double y), none, some (.int s), some (.int (nI k)), some (.double u), none, some (.int (g ||| 0)), some (.double (E2 372 o)), none, none, none]) ⟨rfl, rfl, rfl, rfl, rfl, rfl, rfl, rfl, rfl, rfl, rfl, trivial⟩ (v9 J1 E2 h3 h4 h5 h6t)
  ·
    refine q_iconst (v := 1) (by decide) d271_148 ?_
    refine q_goto (tgt := 153) d271_149 rfl ?_
    refine q_ior d271_153 ?_
    refine q_istore (L' := [some (.ref 260), some (.int (nI o)), some (.int b), some (.int p), some (.int e), some (.double y), none, some (.int s), some (.int (nI k)), some (.double u), none, some (.int (g ||| 1)), some (.double (E2 372 o)), none, none, none]) d271_154 (Nat.le_of_ble_eq_true rfl) rfl ?_
    exact r_sub (L' := [some (.ref 260), some (.int (nI o)), some (.int b), some (.int p), some (.int e), some (.double y), none, some (.int s), some (.int (nI k)), some (.double u), none, some (.int (g ||| 1)), some (.double (E2 372 o)), none, none, none]) ⟨rfl, rfl, rfl, rfl, rfl, rfl, rfl, rfl, rfl, rfl, rfl, trivial⟩ (v10 J1 E2 h3 h4 h5 h6f)

set_option maxRecDepth 10000 in
set_option maxHeartbeats 4000000 in
theorem u271d {d : Nat} {I : Nat → Nat → Int32} {D : Nat → Nat → UInt64} {R : Nat → Nat → Option Nat} {Q : j_Po} {o : Nat} {b : Int32} {p : Int32} {e : Int32} {y : UInt64} {s : Int32} {k : Nat} {u : UInt64} {v : UInt64} {g : Int32} (hk : k < 24) (hd : 3 ≤ d)
    (v1 : vf_n64 (FP.dsub u v))
    (v2 : (FP.dsub u v) &&& 0x7fffffffffffffff ≤ 0x7ff0000000000000)
    (v3 : (¬ g = 0) → j_W 271 d 0 0 0 0 47 [some (.ref 260), some (.int (nI o)), some (.int b), some (.int p), some (.int e), some (.double y), none, some (.int s), some (.int (nI (k + 1))), none, none, none, none, none, none, none] [] w1 (I, D, RR R) Q)
    (v4 : (g = 0) → (e = (-1)) → j_W 271 d 0 0 0 0 47 [some (.ref 260), some (.int (nI o)), some (.int b), some (.int p), some (.int (nI k)), some (.double ((FP.dsub u v) &&& 0x7fffffffffffffff)), none, some (.int s), some (.int (nI (k + 1))), none, none, none, none, none, none, none] [] w1 (I, D, RR R) Q)
    (v5 : (g = 0) → (¬ e = (-1)) → (dle ((FP.dsub u v) &&& 0x7fffffffffffffff) y = false) → j_W 271 d 0 0 0 0 47 [some (.ref 260), some (.int (nI o)), some (.int b), some (.int p), some (.int (nI k)), some (.double ((FP.dsub u v) &&& 0x7fffffffffffffff)), none, some (.int s), some (.int (nI (k + 1))), none, none, none, none, none, none, none] [] w1 (I, D, RR R) Q)
    (v6 : (g = 0) → (¬ e = (-1)) → (dle ((FP.dsub u v) &&& 0x7fffffffffffffff) y = true) → j_W 271 d 0 0 0 0 47 [some (.ref 260), some (.int (nI o)), some (.int b), some (.int p), some (.int e), some (.double y), none, some (.int s), some (.int (nI (k + 1))), none, none, none, none, none, none, none] [] w1 (I, D, RR R) Q) : j_W 271 d 0 0 0 0 156 [some (.ref 260), some (.int (nI o)), some (.int b), some (.int p), some (.int e), some (.double y), none, some (.int s), some (.int (nI k)), some (.double u), none, some (.int g), some (.double v), none, none, none] [] w1 (I, D, RR R) Q := by
  refine q_dload d271_156 rfl ?_
  refine q_dload d271_158 rfl ?_
  refine q_dsub v1 d271_160 ?_
  refine q_dabs (b0 := prog_15_method_64_code) d271_161 (j_i8 51 rfl) (j_i8 53 rfl) (j_i8 52 rfl) (j_i1 13 rfl) v2 (by omega) (Nat.le_of_ble_eq_true rfl) ?_
  refine q_dstore (L' := [some (.ref 260), some (.int (nI o)), some (.int b), some (.int p), some (.int e), some (.double y), none, some (.int s), some (.int (nI k)), some (.double u), none, some (.int g), some (.double v), none, some (.double ((FP.dsub u v) &&& 0x7fffffffffffffff)), none]) d271_164 (Nat.le_of_ble_eq_true rfl) rfl ?_
  refine q_iload d271_166 rfl ?_
  refine q_if_ne (tgt := 196) d271_168 rfl (fun h1t => ?_) (fun h1f => ?_)
  ·
    refine q_iinc (L' := [some (.ref 260), some (.int (nI o)), some (.int b), some (.int p), some (.int e), some (.double y), none, some (.int s), some (.int (nI (k + 1))), some (.double u), none, some (.int g), some (.double v), none, some (.double ((FP.dsub u v) &&& 0x7fffffffffffffff)), none]) (v := (nI (k + 1))) d271_196 rfl (nI_inc _) rfl ?_
    refine q_goto (tgt := 47) d271_199 rfl ?_
    exact r_sub (L' := [some (.ref 260), some (.int (nI o)), some (.int b), some (.int p), some (.int e), some (.double y), none, some (.int s), some (.int (nI (k + 1))), none, none, none, none, none, none, none]) ⟨rfl, rfl, rfl, rfl, rfl, rfl, rfl, rfl, trivial⟩ (v3 h1t)
  ·
    refine q_iload d271_171 rfl ?_
    refine q_iconst (v := (-1)) (by decide) d271_173 ?_
    refine q_icmp_eq (tgt := 188) d271_174 rfl (fun h2t => ?_) (fun h2f => ?_)
    ·
      refine q_iload d271_188 rfl ?_
      refine q_istore (L' := [some (.ref 260), some (.int (nI o)), some (.int b), some (.int p), some (.int (nI k)), some (.double y), none, some (.int s), some (.int (nI k)), some (.double u), none, some (.int g), some (.double v), none, some (.double ((FP.dsub u v) &&& 0x7fffffffffffffff)), none]) d271_190 (Nat.le_of_ble_eq_true rfl) rfl ?_
      refine q_dload d271_192 rfl ?_
      refine q_dstore (L' := [some (.ref 260), some (.int (nI o)), some (.int b), some (.int p), some (.int (nI k)), some (.double ((FP.dsub u v) &&& 0x7fffffffffffffff)), none, some (.int s), some (.int (nI k)), some (.double u), none, some (.int g), some (.double v), none, some (.double ((FP.dsub u v) &&& 0x7fffffffffffffff)), none]) d271_194 (Nat.le_of_ble_eq_true rfl) rfl ?_
      refine q_iinc (L' := [some (.ref 260), some (.int (nI o)), some (.int b), some (.int p), some (.int (nI k)), some (.double ((FP.dsub u v) &&& 0x7fffffffffffffff)), none, some (.int s), some (.int (nI (k + 1))), some (.double u), none, some (.int g), some (.double v), none, some (.double ((FP.dsub u v) &&& 0x7fffffffffffffff)), none]) (v := (nI (k + 1))) d271_196 rfl (nI_inc _) rfl ?_
      refine q_goto (tgt := 47) d271_199 rfl ?_
      exact r_sub (L' := [some (.ref 260), some (.int (nI o)), some (.int b), some (.int p), some (.int (nI k)), some (.double ((FP.dsub u v) &&& 0x7fffffffffffffff)), none, some (.int s), some (.int (nI (k + 1))), none, none, none, none, none, none, none]) ⟨rfl, rfl, rfl, rfl, rfl, rfl, rfl, rfl, trivial⟩ (v4 h1f h2t)
    ·
      refine q_dload d271_177 rfl ?_
      refine q_dload d271_179 rfl ?_
      refine q_dcmp d271_181 ?_
      refine q_if_gt (tgt := 188) d271_182 rfl (fun h3t => ?_) (fun h3f => ?_)
      ·
        have h3tc : dle ((FP.dsub u v) &&& 0x7fffffffffffffff) y = false := dc_g_gt_t h3t
        refine q_iload d271_188 rfl ?_
        refine q_istore (L' := [some (.ref 260), some (.int (nI o)), some (.int b), some (.int p), some (.int (nI k)), some (.double y), none, some (.int s), some (.int (nI k)), some (.double u), none, some (.int g), some (.double v), none, some (.double ((FP.dsub u v) &&& 0x7fffffffffffffff)), none]) d271_190 (Nat.le_of_ble_eq_true rfl) rfl ?_
        refine q_dload d271_192 rfl ?_
        refine q_dstore (L' := [some (.ref 260), some (.int (nI o)), some (.int b), some (.int p), some (.int (nI k)), some (.double ((FP.dsub u v) &&& 0x7fffffffffffffff)), none, some (.int s), some (.int (nI k)), some (.double u), none, some (.int g), some (.double v), none, some (.double ((FP.dsub u v) &&& 0x7fffffffffffffff)), none]) d271_194 (Nat.le_of_ble_eq_true rfl) rfl ?_
        refine q_iinc (L' := [some (.ref 260), some (.int (nI o)), some (.int b), some (.int p), some (.int (nI k)), some (.double ((FP.dsub u v) &&& 0x7fffffffffffffff)), none, some (.int s), some (.int (nI (k + 1))), some (.double u), none, some (.int g), some (.double v), none, some (.double ((FP.dsub u v) &&& 0x7fffffffffffffff)), none]) (v := (nI (k + 1))) d271_196 rfl (nI_inc _) rfl ?_
        refine q_goto (tgt := 47) d271_199 rfl ?_
        exact r_sub (L' := [some (.ref 260), some (.int (nI o)), some (.int b), some (.int p), some (.int (nI k)), some (.double ((FP.dsub u v) &&& 0x7fffffffffffffff)), none, some (.int s), some (.int (nI (k + 1))), none, none, none, none, none, none, none]) ⟨rfl, rfl, rfl, rfl, rfl, rfl, rfl, rfl, trivial⟩ (v5 h1f h2f h3tc)
      ·
        have h3fc : dle ((FP.dsub u v) &&& 0x7fffffffffffffff) y = true := dc_g_gt_f h3f
        refine q_goto (tgt := 196) d271_185 rfl ?_
        refine q_iinc (L' := [some (.ref 260), some (.int (nI o)), some (.int b), some (.int p), some (.int e), some (.double y), none, some (.int s), some (.int (nI (k + 1))), some (.double u), none, some (.int g), some (.double v), none, some (.double ((FP.dsub u v) &&& 0x7fffffffffffffff)), none]) (v := (nI (k + 1))) d271_196 rfl (nI_inc _) rfl ?_
        refine q_goto (tgt := 47) d271_199 rfl ?_
        exact r_sub (L' := [some (.ref 260), some (.int (nI o)), some (.int b), some (.int p), some (.int e), some (.double y), none, some (.int s), some (.int (nI (k + 1))), none, none, none, none, none, none, none]) ⟨rfl, rfl, rfl, rfl, rfl, rfl, rfl, rfl, trivial⟩ (v6 h1f h2f h3fc)

set_option maxRecDepth 10000 in
set_option maxHeartbeats 4000000 in
theorem u271z {d : Nat} {I : Nat → Nat → Int32} {D : Nat → Nat → UInt64} {R : Nat → Nat → Option Nat} {Q : j_Po} {o : Nat} {b : Int32} {p : Int32} {e : Int32} {y : UInt64}   (hd : 3 ≤ d)
    (v1 : (p = 0) → Q (some (.long ((e : Int32).toInt64))) w1 (I, D, RR R))
    (v2 : (¬ p = 0) → (¬ e = (-1)) → Fi y)
    (v3 : (¬ p = 0) → (¬ e = (-1)) → Q (some (.long (y : UInt64).toInt64)) w1 (I, D, RR R))
    (v4 : (¬ p = 0) → (e = (-1)) → Q (some (.long ((e : Int32).toInt64))) w1 (I, D, RR R)) : j_W 271 d 0 0 0 0 202 [some (.ref 260), some (.int (nI o)), some (.int b), some (.int p), some (.int e), some (.double y), none, none, none, none, none, none, none, none, none, none] [] w1 (I, D, RR R) Q := by
  refine q_iload_n d271_202 rfl ?_
  refine q_if_eq (tgt := 212) d271_203 rfl (fun h1t => ?_) (fun h1f => ?_)
  ·
    refine q_iload d271_212 rfl ?_
    refine q_i2l d271_214 ?_
    refine q_goto (tgt := 223) d271_215 rfl ?_
    exact q_lret d271_223 rfl (Nat.le_refl _) (Nat.le_refl _) (v1 h1t)
  ·
    refine q_iload d271_206 rfl ?_
    refine q_iconst (v := (-1)) (by decide) d271_208 ?_
    refine q_icmp_ne (tgt := 218) d271_209 rfl (fun h2t => ?_) (fun h2f => ?_)
    ·
      refine q_dload d271_218 rfl ?_
      refine q_invS (av := [.double y]) (rest := []) (d' := 2) (mc' := 0) (ms' := 0) d271_220 (cv10_305 271 rfl) rfl rfl (by omega) (Nat.le_of_ble_eq_true rfl) (Nat.le_of_ble_eq_true rfl) (Nat.le_refl _) (Nat.le_refl _) ?_
      refine f202b (Nat.le_refl 2) (v2 h1f h2t) ?_
      show j_W 271 d 0 0 0 0 223 [some (.ref 260), some (.int (nI o)), some (.int b), some (.int p), some (.int e), some (.double y), none, none, none, none, none, none, none, none, none, none] [.long (y : UInt64).toInt64] w1 (I, D, RR R) Q
      exact q_lret d271_223 rfl (Nat.le_refl _) (Nat.le_refl _) (v3 h1f h2t)
    ·
      refine q_iload d271_212 rfl ?_
      refine q_i2l d271_214 ?_
      refine q_goto (tgt := 223) d271_215 rfl ?_
      exact q_lret d271_223 rfl (Nat.le_refl _) (Nat.le_refl _) (v4 h1f h2f)

