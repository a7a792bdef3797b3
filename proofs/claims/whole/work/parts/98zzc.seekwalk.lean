/-! seek: the class, walks -/
set_option maxRecDepth 10000 in
set_option maxHeartbeats 4000000 in
theorem u132a {d : Nat} {I : Nat → Nat → Int32} {D : Nat → Nat → UInt64} {R : Nat → Nat → Option Nat} {Q : j_Po} {i : Nat} {c : Nat}  {AP : (Nat → Nat → Int32) → (Nat → Nat → UInt64) → Prop} (hA : ∀ (Q : j_Po), (∀ J E, AP J E → Q none w1 (J, E, RR R)) → j_Call (d - 1) 34 [.ref 107] w1 (I, D, RR R) 0 0 Q) (hd : 50 ≤ d)
    (v1 : ∀ J1 : Nat → Nat → Int32, ∀ E2 : Nat → Nat → UInt64, (AP J1 E2) → j_W 132 d 0 0 0 0 7 [some (.ref 0), some (.int (nI i)), some (.int (nI c)), none, none, none, none, none, none] [] w1 (J1, E2, RR R) Q) : j_Call d 132 [.ref 0, .int (nI i), .int (nI c)] w1 (I, D, RR R) 0 0 Q := by
  refine q_enter (L := [some (.ref 0), some (.int (nI i)), some (.int (nI c)), none, none, none, none, none, none]) j_m132 (Nat.le_of_ble_eq_true rfl) rfl ?_
  refine q_aload_n d132_0 rfl ?_
  refine q_getR (x := 107) d132_1 (fs9_46 132 rfl) rfl (lt_w1 rfl) sh0 (rs0_0 R) (by decide) ?_
  refine q_invV (o := 107) (ci := 8) (av := []) (rest := []) (d' := (d - 1)) (mc' := 0) (ms' := 0) d132_4 (cv9_138 132 rfl) rfl (by decide) rfl rfl (by omega) (Nat.le_of_ble_eq_true rfl) (Nat.le_of_ble_eq_true rfl) (lt_w1 rfl) sh107 (Nat.le_refl _) (Nat.le_refl _) ?_
  refine hA _  (fun J1 E2 h3 => ?_)
  show j_W 132 d 0 0 0 0 7 [some (.ref 0), some (.int (nI i)), some (.int (nI c)), none, none, none, none, none, none] [] w1 (J1, E2, RR R) Q
  exact r_sub (L' := [some (.ref 0), some (.int (nI i)), some (.int (nI c)), none, none, none, none, none, none]) ⟨rfl, rfl, rfl, trivial⟩ (v1 J1 E2 h3)

set_option maxRecDepth 10000 in
set_option maxHeartbeats 4000000 in
theorem u132b {d : Nat} {I : Nat → Nat → Int32} {D : Nat → Nat → UInt64} {R : Nat → Nat → Option Nat} {Q : j_Po} {i : Nat} {c : Nat}   (hd : 1 ≤ d)
    (v1 : j_W 132 d 0 0 0 0 15 [some (.ref 0), some (.int (nI i)), some (.int (nI c)), none, none, none, none, none, none] [] w1 ((j_u I 106 5 1), D, RR R) Q) : j_W 132 d 0 0 0 0 7 [some (.ref 0), some (.int (nI i)), some (.int (nI c)), none, none, none, none, none, none] [] w1 (I, D, RR R) Q := by
  refine q_aload_n d132_7 rfl ?_
  refine q_getR (x := 106) d132_8 (fs9_39 132 rfl) rfl (lt_w1 rfl) sh0 (rs0_8 R) (by decide) ?_
  refine q_iconst (v := 1) (by decide) d132_11 ?_
  refine q_putI d132_12 (fs9_305 132 rfl) (Or.inl rfl) rfl (lt_w1 rfl) sh106 ?_
  exact r_sub (L' := [some (.ref 0), some (.int (nI i)), some (.int (nI c)), none, none, none, none, none, none]) ⟨rfl, rfl, rfl, trivial⟩ v1

set_option maxRecDepth 10000 in
set_option maxHeartbeats 4000000 in
theorem u132c {d : Nat} {I : Nat → Nat → Int32} {D : Nat → Nat → UInt64} {R : Nat → Nat → Option Nat} {Q : j_Po} {i : Nat} {c : Nat} {β : Bd} {η : VEnv} (hR : WFR R) (hV : BV β) (hC : CB β I D R) (hN : NM β I) (hO : OrdB β I) (hi : i < 24) (hc : c < 24) (hd : 50 ≤ d)
    (v1 : i < 24)
    (v2 : c < 24)
    (v3 : Sm (D 106 0))
    (v4 : I 107 7 = 0)
    (v5 : LE β I D 0 η)
    (v6 : 40 ≤ 40)
    (v7 : ∀ J1 : Nat → Nat → Int32, ∀ E2 : Nat → Nat → UInt64, (FRc I D J1 E2) → (J1 107 7 = 0) → (LE β J1 E2 0 (fu η i (0, kp (nI (bK β i)) (D 106 0)))) → (LC J1 E2 0 c (val β (fu η i (0, kp (nI (bK β i)) (D 106 0))) c)) → ((nI ((val β (fu η i (0, kp (nI (bK β i)) (D 106 0))) c).1)) = 0) → j_W 132 d 0 0 0 0 35 [some (.ref 0), some (.int (nI i)), some (.int (nI c)), none, none, none, none, none, none] [] w1 (J1, E2, RR R) Q)
    (v8 : ∀ J1 : Nat → Nat → Int32, ∀ E2 : Nat → Nat → UInt64, (FRc I D J1 E2) → (J1 107 7 = 0) → (LE β J1 E2 0 (fu η i (0, kp (nI (bK β i)) (D 106 0)))) → (LC J1 E2 0 c (val β (fu η i (0, kp (nI (bK β i)) (D 106 0))) c)) → (¬ (nI ((val β (fu η i (0, kp (nI (bK β i)) (D 106 0))) c).1)) = 0) → Q none w1 (J1, E2, RR R)) : j_W 132 d 0 0 0 0 15 [some (.ref 0), some (.int (nI i)), some (.int (nI c)), none, none, none, none, none, none] [] w1 (I, D, RR R) Q := by
  refine q_aload_n d132_15 rfl ?_
  refine q_getR (x := 107) d132_16 (fs9_46 132 rfl) rfl (lt_w1 rfl) sh0 (rs0_0 R) (by decide) ?_
  refine q_iload_n d132_19 rfl ?_
  refine q_aload_n d132_20 rfl ?_
  refine q_getR (x := 106) d132_21 (fs9_39 132 rfl) rfl (lt_w1 rfl) sh0 (rs0_8 R) (by decide) ?_
  refine q_getD d132_24 (fs9_413 132 rfl) rfl (lt_w1 rfl) sh106 ?_
  refine q_iload_n d132_27 rfl ?_
  refine q_invV (o := 107) (ci := 8) (av := [.int (nI i), .double (D 106 0), .int (nI c)]) (rest := []) (d' := 40) (mc' := 0) (ms' := 0) d132_28 (cv9_141 132 rfl) rfl (by decide) rfl rfl (by omega) (Nat.le_of_ble_eq_true rfl) (Nat.le_of_ble_eq_true rfl) (lt_w1 rfl) sh107 (Nat.le_refl _) (Nat.le_refl _) ?_
  refine c59x (η := η) hR hV hC hN hO v1 v2 v3 v4 v5 v6 (fun J1 E2 h3 h4 h5 h6 => ?_)
  show j_W 132 d 0 0 0 0 31 [some (.ref 0), some (.int (nI i)), some (.int (nI c)), none, none, none, none, none, none] [.int (nI ((val β (fu η i (0, kp (nI (bK β i)) (D 106 0))) c).1))] w1 (J1, E2, RR R) Q
  refine q_if_eq (tgt := 35) d132_31 rfl (fun h7t => ?_) (fun h7f => ?_)
  ·
    exact r_sub (L' := [some (.ref 0), some (.int (nI i)), some (.int (nI c)), none, none, none, none, none, none]) ⟨rfl, rfl, rfl, trivial⟩ (v7 J1 E2 h3 h4 h5 h6 h7t)
  ·
    exact q_ret d132_34 rfl (Nat.le_refl _) (Nat.le_refl _) (v8 J1 E2 h3 h4 h5 h6 h7f)

set_option maxRecDepth 10000 in
set_option maxHeartbeats 4000000 in
theorem u132d {d : Nat} {I : Nat → Nat → Int32} {D : Nat → Nat → UInt64} {R : Nat → Nat → Option Nat} {Q : j_Po} {i : Nat} {c : Nat}  (hi : i < 24) (hc : c < 24) (hd : 1 ≤ d)
    (v1 : j_W 132 d 0 0 0 0 61 [some (.ref 0), some (.int (nI i)), some (.int (nI c)), none, none, none, none, none, none] [] w1 ((j_u I 106 5 2), (j_u D 106 3 (D 213 c)), RR R) Q) : j_W 132 d 0 0 0 0 35 [some (.ref 0), some (.int (nI i)), some (.int (nI c)), none, none, none, none, none, none] [] w1 (I, D, RR R) Q := by
  refine q_aload_n d132_35 rfl ?_
  refine q_getR (x := 106) d132_36 (fs9_39 132 rfl) rfl (lt_w1 rfl) sh0 (rs0_8 R) (by decide) ?_
  refine q_aload_n d132_39 rfl ?_
  refine q_getR (x := 107) d132_40 (fs9_46 132 rfl) rfl (lt_w1 rfl) sh0 (rs0_0 R) (by decide) ?_
  refine q_getR (x := 212) d132_43 (fs9_129 132 rfl) rfl (lt_w1 rfl) sh107 (rs107_3 R) (by decide) ?_
  refine q_iconst (v := 0) (by decide) d132_46 ?_
  refine q_aaload (c := 3) (a := 0) (x := 213) d132_47 (lt_w1 rfl) sh212 (by decide) rfl (by decide) (rm212 (k := 0) R (by decide)) (by decide) ?_
  refine q_iload_n d132_48 rfl ?_
  refine q_daload (a := c) d132_49 (lt_w1 rfl) sh213 rfl (by omega) ?_
  refine q_putD d132_50 (fs9_416 132 rfl) (Or.inl rfl) rfl (lt_w1 rfl) sh106 ?_
  refine q_aload_n d132_53 rfl ?_
  refine q_getR (x := 106) d132_54 (fs9_39 132 rfl) rfl (lt_w1 rfl) sh0 (rs0_8 R) (by decide) ?_
  refine q_iconst (v := 2) (by decide) d132_57 ?_
  refine q_putI d132_58 (fs9_305 132 rfl) (Or.inl rfl) rfl (lt_w1 rfl) sh106 ?_
  exact r_sub (L' := [some (.ref 0), some (.int (nI i)), some (.int (nI c)), none, none, none, none, none, none]) ⟨rfl, rfl, rfl, trivial⟩ v1

set_option maxRecDepth 10000 in
set_option maxHeartbeats 4000000 in
theorem u132e {d : Nat} {I : Nat → Nat → Int32} {D : Nat → Nat → UInt64} {R : Nat → Nat → Option Nat} {Q : j_Po} {i : Nat} {c : Nat} {β : Bd} {η : VEnv} (hR : WFR R) (hV : BV β) (hC : CB β I D R) (hN : NM β I) (hO : OrdB β I) (hi : i < 24) (hc : c < 24) (hd : 50 ≤ d)
    (v1 : i < 24)
    (v2 : c < 24)
    (v3 : Sm (D 106 1))
    (v4 : I 107 7 = 0)
    (v5 : LE β I D 0 η)
    (v6 : 40 ≤ 40)
    (v7 : ∀ J1 : Nat → Nat → Int32, ∀ E2 : Nat → Nat → UInt64, (FRc I D J1 E2) → (J1 107 7 = 0) → (LE β J1 E2 0 (fu η i (0, kp (nI (bK β i)) (D 106 1)))) → (LC J1 E2 0 c (val β (fu η i (0, kp (nI (bK β i)) (D 106 1))) c)) → ((nI ((val β (fu η i (0, kp (nI (bK β i)) (D 106 1))) c).1)) = 0) → j_W 132 d 0 0 0 0 81 [some (.ref 0), some (.int (nI i)), some (.int (nI c)), none, none, none, none, none, none] [] w1 (J1, E2, RR R) Q)
    (v8 : ∀ J1 : Nat → Nat → Int32, ∀ E2 : Nat → Nat → UInt64, (FRc I D J1 E2) → (J1 107 7 = 0) → (LE β J1 E2 0 (fu η i (0, kp (nI (bK β i)) (D 106 1)))) → (LC J1 E2 0 c (val β (fu η i (0, kp (nI (bK β i)) (D 106 1))) c)) → (¬ (nI ((val β (fu η i (0, kp (nI (bK β i)) (D 106 1))) c).1)) = 0) → Q none w1 (J1, E2, RR R)) : j_W 132 d 0 0 0 0 61 [some (.ref 0), some (.int (nI i)), some (.int (nI c)), none, none, none, none, none, none] [] w1 (I, D, RR R) Q := by
  refine q_aload_n d132_61 rfl ?_
  refine q_getR (x := 107) d132_62 (fs9_46 132 rfl) rfl (lt_w1 rfl) sh0 (rs0_0 R) (by decide) ?_
  refine q_iload_n d132_65 rfl ?_
  refine q_aload_n d132_66 rfl ?_
  refine q_getR (x := 106) d132_67 (fs9_39 132 rfl) rfl (lt_w1 rfl) sh0 (rs0_8 R) (by decide) ?_
  refine q_getD d132_70 (fs9_419 132 rfl) rfl (lt_w1 rfl) sh106 ?_
  refine q_iload_n d132_73 rfl ?_
  refine q_invV (o := 107) (ci := 8) (av := [.int (nI i), .double (D 106 1), .int (nI c)]) (rest := []) (d' := 40) (mc' := 0) (ms' := 0) d132_74 (cv9_141 132 rfl) rfl (by decide) rfl rfl (by omega) (Nat.le_of_ble_eq_true rfl) (Nat.le_of_ble_eq_true rfl) (lt_w1 rfl) sh107 (Nat.le_refl _) (Nat.le_refl _) ?_
  refine c59x (η := η) hR hV hC hN hO v1 v2 v3 v4 v5 v6 (fun J1 E2 h3 h4 h5 h6 => ?_)
  show j_W 132 d 0 0 0 0 77 [some (.ref 0), some (.int (nI i)), some (.int (nI c)), none, none, none, none, none, none] [.int (nI ((val β (fu η i (0, kp (nI (bK β i)) (D 106 1))) c).1))] w1 (J1, E2, RR R) Q
  refine q_if_eq (tgt := 81) d132_77 rfl (fun h7t => ?_) (fun h7f => ?_)
  ·
    exact r_sub (L' := [some (.ref 0), some (.int (nI i)), some (.int (nI c)), none, none, none, none, none, none]) ⟨rfl, rfl, rfl, trivial⟩ (v7 J1 E2 h3 h4 h5 h6 h7t)
  ·
    exact q_ret d132_80 rfl (Nat.le_refl _) (Nat.le_refl _) (v8 J1 E2 h3 h4 h5 h6 h7f)

set_option maxRecDepth 10000 in
set_option maxHeartbeats 4000000 in
theorem u132f {d : Nat} {I : Nat → Nat → Int32} {D : Nat → Nat → UInt64} {R : Nat → Nat → Option Nat} {Q : j_Po} {i : Nat} {c : Nat}  (hi : i < 24) (hc : c < 24) (hd : 2 ≤ d)
    (v1 : j_W 132 d 0 0 0 0 99 [some (.ref 0), some (.int (nI i)), some (.int (nI c)), none, none, none, none, none, none] [] w1 (I, (j_u D 106 4 (D 213 c)), RR R) Q) : j_W 132 d 0 0 0 0 81 [some (.ref 0), some (.int (nI i)), some (.int (nI c)), none, none, none, none, none, none] [] w1 (I, D, RR R) Q := by
  refine q_aload_n d132_81 rfl ?_
  refine q_getR (x := 106) d132_82 (fs9_39 132 rfl) rfl (lt_w1 rfl) sh0 (rs0_8 R) (by decide) ?_
  refine q_aload_n d132_85 rfl ?_
  refine q_getR (x := 107) d132_86 (fs9_46 132 rfl) rfl (lt_w1 rfl) sh0 (rs0_0 R) (by decide) ?_
  refine q_getR (x := 212) d132_89 (fs9_129 132 rfl) rfl (lt_w1 rfl) sh107 (rs107_3 R) (by decide) ?_
  refine q_iconst (v := 0) (by decide) d132_92 ?_
  refine q_aaload (c := 3) (a := 0) (x := 213) d132_93 (lt_w1 rfl) sh212 (by decide) rfl (by decide) (rm212 (k := 0) R (by decide)) (by decide) ?_
  refine q_iload_n d132_94 rfl ?_
  refine q_daload (a := c) d132_95 (lt_w1 rfl) sh213 rfl (by omega) ?_
  refine q_putD d132_96 (fs9_422 132 rfl) (Or.inl rfl) rfl (lt_w1 rfl) sh106 ?_
  exact r_sub (L' := [some (.ref 0), some (.int (nI i)), some (.int (nI c)), none, none, none, none, none, none]) ⟨rfl, rfl, rfl, trivial⟩ v1

set_option maxRecDepth 10000 in
set_option maxHeartbeats 4000000 in
theorem u132g {d : Nat} {I : Nat → Nat → Int32} {D : Nat → Nat → UInt64} {R : Nat → Nat → Option Nat} {Q : j_Po} {i : Nat} {c : Nat}   (hd : 3 ≤ d)
    (v1 : (deq (D 106 3) (D 106 2) = false) → (deq (D 106 4) (D 106 2) = false) → (I 106 6) = 0 ∨ (I 106 6) = 1)
    (v2 : (deq (D 106 3) (D 106 2) = false) → (deq (D 106 4) (D 106 2) = false) → (¬ (I 106 6) = 0) → Q none w1 (I, D, RR R))
    (v3 : (deq (D 106 3) (D 106 2) = false) → (deq (D 106 4) (D 106 2) = false) → ((I 106 6) = 0) → (dlt (D 106 3) (D 106 2) = false) → (dlt (D 106 4) (D 106 2) = false) → Q none w1 (I, D, RR R))
    (v4 : (deq (D 106 3) (D 106 2) = false) → (deq (D 106 4) (D 106 2) = false) → ((I 106 6) = 0) → (dlt (D 106 3) (D 106 2) = false) → (dlt (D 106 4) (D 106 2) = true) → (dlt (D 106 2) (D 106 3) = false) → Q none w1 (I, D, RR R))
    (v5 : (deq (D 106 3) (D 106 2) = false) → (deq (D 106 4) (D 106 2) = false) → ((I 106 6) = 0) → (dlt (D 106 3) (D 106 2) = false) → (dlt (D 106 4) (D 106 2) = true) → (dlt (D 106 2) (D 106 3) = true) → j_W 132 d 0 0 0 0 125 [some (.ref 0), some (.int (nI i)), some (.int (nI c)), some (.int 0), some (.int 0), none, none, none, none] [] w1 (I, D, RR R) Q)
    (v6 : (deq (D 106 3) (D 106 2) = false) → (deq (D 106 4) (D 106 2) = false) → ((I 106 6) = 0) → (dlt (D 106 3) (D 106 2) = true) → (dlt (D 106 2) (D 106 4) = true) → j_W 132 d 0 0 0 0 125 [some (.ref 0), some (.int (nI i)), some (.int (nI c)), some (.int 0), some (.int 0), none, none, none, none] [] w1 (I, D, RR R) Q)
    (v7 : (deq (D 106 3) (D 106 2) = false) → (deq (D 106 4) (D 106 2) = false) → ((I 106 6) = 0) → (dlt (D 106 3) (D 106 2) = true) → (dlt (D 106 2) (D 106 4) = false) → (dlt (D 106 4) (D 106 2) = false) → Q none w1 (I, D, RR R))
    (v8 : (deq (D 106 3) (D 106 2) = false) → (deq (D 106 4) (D 106 2) = false) → ((I 106 6) = 0) → (dlt (D 106 3) (D 106 2) = true) → (dlt (D 106 2) (D 106 4) = false) → (dlt (D 106 4) (D 106 2) = true) → (dlt (D 106 2) (D 106 3) = false) → Q none w1 (I, D, RR R))
    (v9 : (deq (D 106 3) (D 106 2) = false) → (deq (D 106 4) (D 106 2) = false) → ((I 106 6) = 0) → (dlt (D 106 3) (D 106 2) = true) → (dlt (D 106 2) (D 106 4) = false) → (dlt (D 106 4) (D 106 2) = true) → (dlt (D 106 2) (D 106 3) = true) → j_W 132 d 0 0 0 0 125 [some (.ref 0), some (.int (nI i)), some (.int (nI c)), some (.int 0), some (.int 0), none, none, none, none] [] w1 (I, D, RR R) Q)
    (v10 : (deq (D 106 3) (D 106 2) = false) → (deq (D 106 4) (D 106 2) = true) → Q none w1 ((j_u I 106 6 1), (j_u (j_u D 106 7 (D 106 1)) 106 8 (D 106 4)), RR R))
    (v11 : (deq (D 106 3) (D 106 2) = true) → Q none w1 ((j_u I 106 6 1), (j_u (j_u D 106 7 (D 106 0)) 106 8 (D 106 3)), RR R)) : j_W 132 d 0 0 0 0 99 [some (.ref 0), some (.int (nI i)), some (.int (nI c)), none, none, none, none, none, none] [] w1 (I, D, RR R) Q := by
  refine q_aload_n d132_99 rfl ?_
  refine q_getR (x := 106) d132_100 (fs9_39 132 rfl) rfl (lt_w1 rfl) sh0 (rs0_8 R) (by decide) ?_
  refine q_invV (o := 106) (ci := 1) (av := []) (rest := []) (d' := 1) (mc' := 0) (ms' := 0) d132_103 (cv9_425 132 rfl) rfl (by decide) rfl rfl (by omega) (Nat.le_of_ble_eq_true rfl) (Nat.le_of_ble_eq_true rfl) (lt_w1 rfl) sh106 (Nat.le_refl _) (Nat.le_refl _) ?_
  refine u133   (Nat.le_refl _) (fun c1 c2 => ?_) v1 (fun c5 c6 => ?_) (fun c7 => ?_)
  ·
    show j_W 132 d 0 0 0 0 106 [some (.ref 0), some (.int (nI i)), some (.int (nI c)), none, none, none, none, none, none] [.int (I 106 6)] w1 (I, D, RR R) Q
    refine q_if_ne (tgt := 119) d132_106 rfl (fun h8t => ?_) (fun h8f => ?_)
    ·
      exact q_ret d132_119 rfl (Nat.le_refl _) (Nat.le_refl _) (v2 c1 c2 h8t)
    ·
      refine q_aload_n d132_109 rfl ?_
      refine q_getR (x := 106) d132_110 (fs9_39 132 rfl) rfl (lt_w1 rfl) sh0 (rs0_8 R) (by decide) ?_
      refine q_invV (o := 106) (ci := 1) (av := []) (rest := []) (d' := 0) (mc' := 0) (ms' := 0) d132_113 (cv9_428 132 rfl) rfl (by decide) rfl rfl (by omega) (Nat.le_of_ble_eq_true rfl) (Nat.le_of_ble_eq_true rfl) (lt_w1 rfl) sh106 (Nat.le_refl _) (Nat.le_refl _) ?_
      refine u135   (Nat.le_refl _) (fun c9 c10 => ?_) (fun c11 c12 c13 => ?_) (fun c14 c15 c16 => ?_) (fun c17 c18 => ?_) (fun c19 c20 c21 => ?_) (fun c22 c23 c24 c25 => ?_) (fun c26 c27 c28 c29 => ?_)
      ·
        show j_W 132 d 0 0 0 0 116 [some (.ref 0), some (.int (nI i)), some (.int (nI c)), none, none, none, none, none, none] [.int 0] w1 (I, D, RR R) Q
        refine q_if_ne (tgt := 120) d132_116 rfl (fun h => absurd h (by decide)) (fun _ => ?_)
        exact q_ret d132_119 rfl (Nat.le_refl _) (Nat.le_refl _) (v3 c1 c2 h8f c9 c10)
      ·
        show j_W 132 d 0 0 0 0 116 [some (.ref 0), some (.int (nI i)), some (.int (nI c)), none, none, none, none, none, none] [.int 0] w1 (I, D, RR R) Q
        refine q_if_ne (tgt := 120) d132_116 rfl (fun h => absurd h (by decide)) (fun _ => ?_)
        exact q_ret d132_119 rfl (Nat.le_refl _) (Nat.le_refl _) (v4 c1 c2 h8f c11 c12 c13)
      ·
        show j_W 132 d 0 0 0 0 116 [some (.ref 0), some (.int (nI i)), some (.int (nI c)), none, none, none, none, none, none] [.int 1] w1 (I, D, RR R) Q
        refine q_if_ne (tgt := 120) d132_116 rfl (fun _ => ?_) (fun h => absurd h (by decide))
        refine q_iconst (v := 0) (by decide) d132_120 ?_
        refine q_istore_n (L' := [some (.ref 0), some (.int (nI i)), some (.int (nI c)), some (.int 0), none, none, none, none, none]) d132_121 (Nat.le_of_ble_eq_true rfl) rfl ?_
        refine q_iconst (v := 0) (by decide) d132_122 ?_
        refine q_istore (L' := [some (.ref 0), some (.int (nI i)), some (.int (nI c)), some (.int 0), some (.int 0), none, none, none, none]) d132_123 (Nat.le_of_ble_eq_true rfl) rfl ?_
        exact r_sub (L' := [some (.ref 0), some (.int (nI i)), some (.int (nI c)), some (.int 0), some (.int 0), none, none, none, none]) ⟨rfl, rfl, rfl, rfl, rfl, trivial⟩ (v5 c1 c2 h8f c14 c15 c16)
      ·
        show j_W 132 d 0 0 0 0 116 [some (.ref 0), some (.int (nI i)), some (.int (nI c)), none, none, none, none, none, none] [.int 1] w1 (I, D, RR R) Q
        refine q_if_ne (tgt := 120) d132_116 rfl (fun _ => ?_) (fun h => absurd h (by decide))
        refine q_iconst (v := 0) (by decide) d132_120 ?_
        refine q_istore_n (L' := [some (.ref 0), some (.int (nI i)), some (.int (nI c)), some (.int 0), none, none, none, none, none]) d132_121 (Nat.le_of_ble_eq_true rfl) rfl ?_
        refine q_iconst (v := 0) (by decide) d132_122 ?_
        refine q_istore (L' := [some (.ref 0), some (.int (nI i)), some (.int (nI c)), some (.int 0), some (.int 0), none, none, none, none]) d132_123 (Nat.le_of_ble_eq_true rfl) rfl ?_
        exact r_sub (L' := [some (.ref 0), some (.int (nI i)), some (.int (nI c)), some (.int 0), some (.int 0), none, none, none, none]) ⟨rfl, rfl, rfl, rfl, rfl, trivial⟩ (v6 c1 c2 h8f c17 c18)
      ·
        show j_W 132 d 0 0 0 0 116 [some (.ref 0), some (.int (nI i)), some (.int (nI c)), none, none, none, none, none, none] [.int 0] w1 (I, D, RR R) Q
        refine q_if_ne (tgt := 120) d132_116 rfl (fun h => absurd h (by decide)) (fun _ => ?_)
        exact q_ret d132_119 rfl (Nat.le_refl _) (Nat.le_refl _) (v7 c1 c2 h8f c19 c20 c21)
      ·
        show j_W 132 d 0 0 0 0 116 [some (.ref 0), some (.int (nI i)), some (.int (nI c)), none, none, none, none, none, none] [.int 0] w1 (I, D, RR R) Q
        refine q_if_ne (tgt := 120) d132_116 rfl (fun h => absurd h (by decide)) (fun _ => ?_)
        exact q_ret d132_119 rfl (Nat.le_refl _) (Nat.le_refl _) (v8 c1 c2 h8f c22 c23 c24 c25)
      ·
        show j_W 132 d 0 0 0 0 116 [some (.ref 0), some (.int (nI i)), some (.int (nI c)), none, none, none, none, none, none] [.int 1] w1 (I, D, RR R) Q
        refine q_if_ne (tgt := 120) d132_116 rfl (fun _ => ?_) (fun h => absurd h (by decide))
        refine q_iconst (v := 0) (by decide) d132_120 ?_
        refine q_istore_n (L' := [some (.ref 0), some (.int (nI i)), some (.int (nI c)), some (.int 0), none, none, none, none, none]) d132_121 (Nat.le_of_ble_eq_true rfl) rfl ?_
        refine q_iconst (v := 0) (by decide) d132_122 ?_
        refine q_istore (L' := [some (.ref 0), some (.int (nI i)), some (.int (nI c)), some (.int 0), some (.int 0), none, none, none, none]) d132_123 (Nat.le_of_ble_eq_true rfl) rfl ?_
        exact r_sub (L' := [some (.ref 0), some (.int (nI i)), some (.int (nI c)), some (.int 0), some (.int 0), none, none, none, none]) ⟨rfl, rfl, rfl, rfl, rfl, trivial⟩ (v9 c1 c2 h8f c26 c27 c28 c29)
  ·
    show j_W 132 d 0 0 0 0 106 [some (.ref 0), some (.int (nI i)), some (.int (nI c)), none, none, none, none, none, none] [.int 1] w1 ((j_u I 106 6 1), (j_u (j_u D 106 7 (D 106 1)) 106 8 (D 106 4)), RR R) Q
    refine q_if_ne (tgt := 119) d132_106 rfl (fun _ => ?_) (fun h => absurd h (by decide))
    exact q_ret d132_119 rfl (Nat.le_refl _) (Nat.le_refl _) (v10 c5 c6)
  ·
    show j_W 132 d 0 0 0 0 106 [some (.ref 0), some (.int (nI i)), some (.int (nI c)), none, none, none, none, none, none] [.int 1] w1 ((j_u I 106 6 1), (j_u (j_u D 106 7 (D 106 0)) 106 8 (D 106 3)), RR R) Q
    refine q_if_ne (tgt := 119) d132_106 rfl (fun _ => ?_) (fun h => absurd h (by decide))
    exact q_ret d132_119 rfl (Nat.le_refl _) (Nat.le_refl _) (v11 c7)

set_option maxRecDepth 10000 in
set_option maxHeartbeats 4000000 in
theorem u132h {d : Nat} {I : Nat → Nat → Int32} {D : Nat → Nat → UInt64} {R : Nat → Nat → Option Nat} {Q : j_Po} {i : Nat} {c : Nat} {k : Nat} {b : Bool} (hk : k ≤ 40) (hd : 3 ≤ d)
    (v1 : (40 ≤ k) → j_W 132 d 0 0 0 0 241 [some (.ref 0), none, none, none, none, none, none, none, none] [] w1 (I, D, RR R) Q)
    (v2 : (¬ 40 ≤ k) → skI (D 106 0) (D 106 1) (D 106 3) (D 106 4) (D 106 2))
    (v3 : (¬ 40 ≤ k) → ((dgt (mid (D 106 0) (D 106 1) (D 106 3) (D 106 4) (D 106 2) b) (D 106 0) = true ∧ dlt (mid (D 106 0) (D 106 1) (D 106 3) (D 106 4) (D 106 2) b) (D 106 1) = true)) → j_W 132 d 0 0 0 0 157 [some (.ref 0), some (.int (nI i)), some (.int (nI c)), none, some (.int (nI k)), some (.double (mid (D 106 0) (D 106 1) (D 106 3) (D 106 4) (D 106 2) b)), none, none, none] [] w1 (I, D, RR R) Q)
    (v4 : (¬ 40 ≤ k) → (¬ (dgt (mid (D 106 0) (D 106 1) (D 106 3) (D 106 4) (D 106 2) b) (D 106 0) = true ∧ dlt (mid (D 106 0) (D 106 1) (D 106 3) (D 106 4) (D 106 2) b) (D 106 1) = true)) → j_W 132 d 0 0 0 0 241 [some (.ref 0), none, none, none, none, none, none, none, none] [] w1 (I, D, RR R) Q) : j_W 132 d 0 0 0 0 125 [some (.ref 0), some (.int (nI i)), some (.int (nI c)), some (.int (bi b)), some (.int (nI k)), none, none, none, none] [] w1 (I, D, RR R) Q := by
  refine q_iload d132_125 rfl ?_
  refine q_bipush (v := 40) (by decide) d132_127 ?_
  refine q_icmp_ge (tgt := 241) d132_129 rfl (fun h1t => ?_) (fun h1f => ?_)
  ·
    have h1tc : 40 ≤ k := (nI_leI (by omega) (by omega)).mp h1t
    exact r_sub (L' := [some (.ref 0), none, none, none, none, none, none, none, none]) ⟨rfl, trivial⟩ (v1 h1tc)
  ·
    have h1fc : ¬ 40 ≤ k := mt (nI_leI (by omega) (by omega)).mpr h1f
    refine q_aload_n d132_132 rfl ?_
    refine q_getR (x := 106) d132_133 (fs9_39 132 rfl) rfl (lt_w1 rfl) sh0 (rs0_8 R) (by decide) ?_
    refine q_iload_n d132_136 rfl ?_
    refine q_invV (o := 106) (ci := 1) (av := [.int (bi b)]) (rest := []) (d' := 1) (mc' := 0) (ms' := 0) d132_137 (cv9_431 132 rfl) rfl (by decide) rfl rfl (by omega) (Nat.le_of_ble_eq_true rfl) (Nat.le_of_ble_eq_true rfl) (lt_w1 rfl) sh106 (Nat.le_refl _) (Nat.le_refl _) ?_
    refine c136 (Nat.le_refl 1) (v2 h1fc) ?_
    show j_W 132 d 0 0 0 0 140 [some (.ref 0), some (.int (nI i)), some (.int (nI c)), some (.int (bi b)), some (.int (nI k)), none, none, none, none] [.double (mid (D 106 0) (D 106 1) (D 106 3) (D 106 4) (D 106 2) b)] w1 (I, D, RR R) Q
    refine q_dstore (L' := [some (.ref 0), some (.int (nI i)), some (.int (nI c)), some (.int (bi b)), some (.int (nI k)), some (.double (mid (D 106 0) (D 106 1) (D 106 3) (D 106 4) (D 106 2) b)), none, none, none]) d132_140 (Nat.le_of_ble_eq_true rfl) rfl ?_
    refine q_aload_n d132_142 rfl ?_
    refine q_getR (x := 106) d132_143 (fs9_39 132 rfl) rfl (lt_w1 rfl) sh0 (rs0_8 R) (by decide) ?_
    refine q_dload d132_146 rfl ?_
    refine q_invV (o := 106) (ci := 1) (av := [.double (mid (D 106 0) (D 106 1) (D 106 3) (D 106 4) (D 106 2) b)]) (rest := []) (d' := 0) (mc' := 0) (ms' := 0) d132_148 (cv9_435 132 rfl) rfl (by decide) rfl rfl (by omega) (Nat.le_of_ble_eq_true rfl) (Nat.le_of_ble_eq_true rfl) (lt_w1 rfl) sh106 (Nat.le_refl _) (Nat.le_refl _) ?_
    refine c137  (fun h2 => ?_) (fun h2 => ?_)
    ·
      show j_W 132 d 0 0 0 0 151 [some (.ref 0), some (.int (nI i)), some (.int (nI c)), some (.int (bi b)), some (.int (nI k)), some (.double (mid (D 106 0) (D 106 1) (D 106 3) (D 106 4) (D 106 2) b)), none, none, none] [.int 1] w1 (I, D, RR R) Q
      refine q_if_ne (tgt := 157) d132_151 rfl (fun _ => ?_) (fun h => absurd h (by decide))
      exact r_sub (L' := [some (.ref 0), some (.int (nI i)), some (.int (nI c)), none, some (.int (nI k)), some (.double (mid (D 106 0) (D 106 1) (D 106 3) (D 106 4) (D 106 2) b)), none, none, none]) ⟨rfl, rfl, rfl, rfl, rfl, trivial⟩ (v3 h1fc h2)
    ·
      show j_W 132 d 0 0 0 0 151 [some (.ref 0), some (.int (nI i)), some (.int (nI c)), some (.int (bi b)), some (.int (nI k)), some (.double (mid (D 106 0) (D 106 1) (D 106 3) (D 106 4) (D 106 2) b)), none, none, none] [.int 0] w1 (I, D, RR R) Q
      refine q_if_ne (tgt := 157) d132_151 rfl (fun h => absurd h (by decide)) (fun _ => ?_)
      refine q_goto (tgt := 241) d132_154 rfl ?_
      exact r_sub (L' := [some (.ref 0), none, none, none, none, none, none, none, none]) ⟨rfl, trivial⟩ (v4 h1fc h2)

set_option maxRecDepth 10000 in
set_option maxHeartbeats 4000000 in
theorem u132i {d : Nat} {I : Nat → Nat → Int32} {D : Nat → Nat → UInt64} {R : Nat → Nat → Option Nat} {Q : j_Po} {i : Nat} {c : Nat} {k : Nat} {y : UInt64} {n : Nat} (h5 : I 106 5 = nI n) (hd : 1 ≤ d)
    (v1 : j_W 132 d 0 0 0 0 170 [some (.ref 0), some (.int (nI i)), some (.int (nI c)), none, some (.int (nI k)), some (.double y), none, none, none] [] w1 ((j_u I 106 5 (nI (n + 1))), D, RR R) Q) : j_W 132 d 0 0 0 0 157 [some (.ref 0), some (.int (nI i)), some (.int (nI c)), none, some (.int (nI k)), some (.double y), none, none, none] [] w1 (I, D, RR R) Q := by
  refine q_aload_n d132_157 rfl ?_
  refine q_getR (x := 106) d132_158 (fs9_39 132 rfl) rfl (lt_w1 rfl) sh0 (rs0_8 R) (by decide) ?_
  refine q_dup rfl d132_161 ?_
  refine q_getI d132_162 (fs9_305 132 rfl) rfl (lt_w1 rfl) sh106 ?_
  refine r_int (y := (nI n)) (show I 106 5 = (nI n) from h5) ?_
  refine q_iconst (v := 1) (by decide) d132_165 ?_
  refine q_iadd d132_166 ?_
  refine r_int (y := (nI (n + 1))) (nI_add n 1) ?_
  refine q_putI d132_167 (fs9_305 132 rfl) (Or.inl rfl) rfl (lt_w1 rfl) sh106 ?_
  exact r_sub (L' := [some (.ref 0), some (.int (nI i)), some (.int (nI c)), none, some (.int (nI k)), some (.double y), none, none, none]) ⟨rfl, rfl, rfl, rfl, rfl, trivial⟩ v1

set_option maxRecDepth 10000 in
set_option maxHeartbeats 4000000 in
theorem u132j {d : Nat} {I : Nat → Nat → Int32} {D : Nat → Nat → UInt64} {R : Nat → Nat → Option Nat} {Q : j_Po} {i : Nat} {c : Nat} {k : Nat} {y : UInt64} {β : Bd} {η : VEnv} (hR : WFR R) (hV : BV β) (hC : CB β I D R) (hN : NM β I) (hO : OrdB β I) (hi : i < 24) (hc : c < 24) (hd : 50 ≤ d)
    (v1 : i < 24)
    (v2 : c < 24)
    (v3 : Sm y)
    (v4 : I 107 7 = 0)
    (v5 : LE β I D 0 η)
    (v6 : 40 ≤ 40)
    (v7 : ∀ J1 : Nat → Nat → Int32, ∀ E2 : Nat → Nat → UInt64, (FRc I D J1 E2) → (J1 107 7 = 0) → (LE β J1 E2 0 (fu η i (0, kp (nI (bK β i)) y))) → (LC J1 E2 0 c (val β (fu η i (0, kp (nI (bK β i)) y)) c)) → ((nI ((val β (fu η i (0, kp (nI (bK β i)) y)) c).1)) = 0) → j_W 132 d 0 0 0 0 185 [some (.ref 0), some (.int (nI i)), some (.int (nI c)), none, some (.int (nI k)), some (.double y), none, none, none] [] w1 (J1, E2, RR R) Q)
    (v8 : ∀ J1 : Nat → Nat → Int32, ∀ E2 : Nat → Nat → UInt64, (FRc I D J1 E2) → (J1 107 7 = 0) → (LE β J1 E2 0 (fu η i (0, kp (nI (bK β i)) y))) → (LC J1 E2 0 c (val β (fu η i (0, kp (nI (bK β i)) y)) c)) → (¬ (nI ((val β (fu η i (0, kp (nI (bK β i)) y)) c).1)) = 0) → Q none w1 (J1, E2, RR R)) : j_W 132 d 0 0 0 0 170 [some (.ref 0), some (.int (nI i)), some (.int (nI c)), none, some (.int (nI k)), some (.double y), none, none, none] [] w1 (I, D, RR R) Q := by
  refine q_aload_n d132_170 rfl ?_
  refine q_getR (x := 107) d132_171 (fs9_46 132 rfl) rfl (lt_w1 rfl) sh0 (rs0_0 R) (by decide) ?_
  refine q_iload_n d132_174 rfl ?_
  refine q_dload d132_175 rfl ?_
  refine q_iload_n d132_177 rfl ?_
  refine q_invV (o := 107) (ci := 8) (av := [.int (nI i), .double y, .int (nI c)]) (rest := []) (d' := 40) (mc' := 0) (ms' := 0) d132_178 (cv9_141 132 rfl) rfl (by decide) rfl rfl (by omega) (Nat.le_of_ble_eq_true rfl) (Nat.le_of_ble_eq_true rfl) (lt_w1 rfl) sh107 (Nat.le_refl _) (Nat.le_refl _) ?_
  refine c59x (η := η) hR hV hC hN hO v1 v2 v3 v4 v5 v6 (fun J1 E2 h3 h4 h5 h6 => ?_)
  show j_W 132 d 0 0 0 0 181 [some (.ref 0), some (.int (nI i)), some (.int (nI c)), none, some (.int (nI k)), some (.double y), none, none, none] [.int (nI ((val β (fu η i (0, kp (nI (bK β i)) y)) c).1))] w1 (J1, E2, RR R) Q
  refine q_if_eq (tgt := 185) d132_181 rfl (fun h7t => ?_) (fun h7f => ?_)
  ·
    exact r_sub (L' := [some (.ref 0), some (.int (nI i)), some (.int (nI c)), none, some (.int (nI k)), some (.double y), none, none, none]) ⟨rfl, rfl, rfl, rfl, rfl, trivial⟩ (v7 J1 E2 h3 h4 h5 h6 h7t)
  ·
    exact q_ret d132_184 rfl (Nat.le_refl _) (Nat.le_refl _) (v8 J1 E2 h3 h4 h5 h6 h7f)

set_option maxRecDepth 10000 in
set_option maxHeartbeats 4000000 in
theorem u132k {d : Nat} {I : Nat → Nat → Int32} {D : Nat → Nat → UInt64} {R : Nat → Nat → Option Nat} {Q : j_Po} {i : Nat} {c : Nat} {k : Nat} {y : UInt64}  (hi : i < 24) (hc : c < 24) (hd : 2 ≤ d)
    (v1 : (deq (D 213 c) (D 106 2) = false) → skI (D 106 0) (D 106 1) (D 106 3) (D 106 4) (D 106 2))
    (v2 : (deq (D 213 c) (D 106 2) = false) → Sm y)
    (v3 : (deq (D 213 c) (D 106 2) = false) → (dlt (D 213 c) (D 106 2) = dlt (D 106 3) (D 106 2)) → j_W 132 d 0 0 0 0 125 [some (.ref 0), some (.int (nI i)), some (.int (nI c)), some (.int (bi (dle (FP.dsub (D 106 1) y) (FP.ddiv (FP.dsub (D 106 1) (D 106 0)) 4611686018427387904)))), some (.int (nI (k + 1))), none, none, none, none] [] w1 (I, (j_u (j_u D 106 0 y) 106 3 (D 213 c)), RR R) Q)
    (v4 : (deq (D 213 c) (D 106 2) = false) → (¬ dlt (D 213 c) (D 106 2) = dlt (D 106 3) (D 106 2)) → j_W 132 d 0 0 0 0 125 [some (.ref 0), some (.int (nI i)), some (.int (nI c)), some (.int (bi (dle (FP.dsub y (D 106 0)) (FP.ddiv (FP.dsub (D 106 1) (D 106 0)) 4611686018427387904)))), some (.int (nI (k + 1))), none, none, none, none] [] w1 (I, (j_u (j_u D 106 1 y) 106 4 (D 213 c)), RR R) Q)
    (v5 : (deq (D 213 c) (D 106 2) = true) → Q none w1 ((j_u I 106 6 1), (j_u (j_u D 106 7 y) 106 8 (D 213 c)), RR R)) : j_W 132 d 0 0 0 0 185 [some (.ref 0), some (.int (nI i)), some (.int (nI c)), none, some (.int (nI k)), some (.double y), none, none, none] [] w1 (I, D, RR R) Q := by
  refine q_aload_n d132_185 rfl ?_
  refine q_getR (x := 107) d132_186 (fs9_46 132 rfl) rfl (lt_w1 rfl) sh0 (rs0_0 R) (by decide) ?_
  refine q_getR (x := 212) d132_189 (fs9_129 132 rfl) rfl (lt_w1 rfl) sh107 (rs107_3 R) (by decide) ?_
  refine q_iconst (v := 0) (by decide) d132_192 ?_
  refine q_aaload (c := 3) (a := 0) (x := 213) d132_193 (lt_w1 rfl) sh212 (by decide) rfl (by decide) (rm212 (k := 0) R (by decide)) (by decide) ?_
  refine q_iload_n d132_194 rfl ?_
  refine q_daload (a := c) d132_195 (lt_w1 rfl) sh213 rfl (by omega) ?_
  refine q_dstore (L' := [some (.ref 0), some (.int (nI i)), some (.int (nI c)), none, some (.int (nI k)), some (.double y), none, some (.double (D 213 c)), none]) d132_196 (Nat.le_of_ble_eq_true rfl) rfl ?_
  refine q_dload d132_198 rfl ?_
  refine q_aload_n d132_200 rfl ?_
  refine q_getR (x := 106) d132_201 (fs9_39 132 rfl) rfl (lt_w1 rfl) sh0 (rs0_8 R) (by decide) ?_
  refine q_getD d132_204 (fs9_439 132 rfl) rfl (lt_w1 rfl) sh106 ?_
  refine q_dcmp d132_207 ?_
  refine q_if_ne (tgt := 223) d132_208 rfl (fun h1t => ?_) (fun h1f => ?_)
  ·
    have h1tc : deq (D 213 c) (D 106 2) = false := dc_l_ne_t h1t
    refine q_aload_n d132_223 rfl ?_
    refine q_getR (x := 106) d132_224 (fs9_39 132 rfl) rfl (lt_w1 rfl) sh0 (rs0_8 R) (by decide) ?_
    refine q_dload d132_227 rfl ?_
    refine q_dload d132_229 rfl ?_
    refine q_invV (o := 106) (ci := 1) (av := [.double y, .double (D 213 c)]) (rest := []) (d' := 1) (mc' := 0) (ms' := 0) d132_231 (cv9_446 132 rfl) rfl (by decide) rfl rfl (by omega) (Nat.le_of_ble_eq_true rfl) (Nat.le_of_ble_eq_true rfl) (lt_w1 rfl) sh106 (Nat.le_refl _) (Nat.le_refl _) ?_
    refine c138 (v1 h1tc) (v2 h1tc) (fun h2 => ?_) (fun h2 => ?_)
    ·
      show j_W 132 d 0 0 0 0 234 [some (.ref 0), some (.int (nI i)), some (.int (nI c)), none, some (.int (nI k)), some (.double y), none, some (.double (D 213 c)), none] [.int (bi (dle (FP.dsub (D 106 1) y) (FP.ddiv (FP.dsub (D 106 1) (D 106 0)) 4611686018427387904)))] w1 (I, (j_u (j_u D 106 0 y) 106 3 (D 213 c)), RR R) Q
      refine q_istore_n (L' := [some (.ref 0), some (.int (nI i)), some (.int (nI c)), some (.int (bi (dle (FP.dsub (D 106 1) y) (FP.ddiv (FP.dsub (D 106 1) (D 106 0)) 4611686018427387904)))), some (.int (nI k)), some (.double y), none, some (.double (D 213 c)), none]) d132_234 (Nat.le_of_ble_eq_true rfl) rfl ?_
      refine q_iinc (L' := [some (.ref 0), some (.int (nI i)), some (.int (nI c)), some (.int (bi (dle (FP.dsub (D 106 1) y) (FP.ddiv (FP.dsub (D 106 1) (D 106 0)) 4611686018427387904)))), some (.int (nI (k + 1))), some (.double y), none, some (.double (D 213 c)), none]) (v := (nI (k + 1))) d132_235 rfl (nI_inc _) rfl ?_
      refine q_goto (tgt := 125) d132_238 rfl ?_
      exact r_sub (L' := [some (.ref 0), some (.int (nI i)), some (.int (nI c)), some (.int (bi (dle (FP.dsub (D 106 1) y) (FP.ddiv (FP.dsub (D 106 1) (D 106 0)) 4611686018427387904)))), some (.int (nI (k + 1))), none, none, none, none]) ⟨rfl, rfl, rfl, rfl, rfl, trivial⟩ (v3 h1tc h2)
    ·
      show j_W 132 d 0 0 0 0 234 [some (.ref 0), some (.int (nI i)), some (.int (nI c)), none, some (.int (nI k)), some (.double y), none, some (.double (D 213 c)), none] [.int (bi (dle (FP.dsub y (D 106 0)) (FP.ddiv (FP.dsub (D 106 1) (D 106 0)) 4611686018427387904)))] w1 (I, (j_u (j_u D 106 1 y) 106 4 (D 213 c)), RR R) Q
      refine q_istore_n (L' := [some (.ref 0), some (.int (nI i)), some (.int (nI c)), some (.int (bi (dle (FP.dsub y (D 106 0)) (FP.ddiv (FP.dsub (D 106 1) (D 106 0)) 4611686018427387904)))), some (.int (nI k)), some (.double y), none, some (.double (D 213 c)), none]) d132_234 (Nat.le_of_ble_eq_true rfl) rfl ?_
      refine q_iinc (L' := [some (.ref 0), some (.int (nI i)), some (.int (nI c)), some (.int (bi (dle (FP.dsub y (D 106 0)) (FP.ddiv (FP.dsub (D 106 1) (D 106 0)) 4611686018427387904)))), some (.int (nI (k + 1))), some (.double y), none, some (.double (D 213 c)), none]) (v := (nI (k + 1))) d132_235 rfl (nI_inc _) rfl ?_
      refine q_goto (tgt := 125) d132_238 rfl ?_
      exact r_sub (L' := [some (.ref 0), some (.int (nI i)), some (.int (nI c)), some (.int (bi (dle (FP.dsub y (D 106 0)) (FP.ddiv (FP.dsub (D 106 1) (D 106 0)) 4611686018427387904)))), some (.int (nI (k + 1))), none, none, none, none]) ⟨rfl, rfl, rfl, rfl, rfl, trivial⟩ (v4 h1tc h2)
  ·
    have h1fc : deq (D 213 c) (D 106 2) = true := dc_l_ne_f h1f
    refine q_aload_n d132_211 rfl ?_
    refine q_getR (x := 106) d132_212 (fs9_39 132 rfl) rfl (lt_w1 rfl) sh0 (rs0_8 R) (by decide) ?_
    refine q_dload d132_215 rfl ?_
    refine q_dload d132_217 rfl ?_
    refine q_invV (o := 106) (ci := 1) (av := [.double y, .double (D 213 c)]) (rest := []) (d' := 0) (mc' := 0) (ms' := 0) d132_219 (cv9_442 132 rfl) rfl (by decide) rfl rfl (by omega) (Nat.le_of_ble_eq_true rfl) (Nat.le_of_ble_eq_true rfl) (lt_w1 rfl) sh106 (Nat.le_refl _) (Nat.le_refl _) ?_
    refine u134   (Nat.le_refl _) ?_
    show j_W 132 d 0 0 0 0 222 [some (.ref 0), some (.int (nI i)), some (.int (nI c)), none, some (.int (nI k)), some (.double y), none, some (.double (D 213 c)), none] [] w1 ((j_u I 106 6 1), (j_u (j_u D 106 7 y) 106 8 (D 213 c)), RR R) Q
    exact q_ret d132_222 rfl (Nat.le_refl _) (Nat.le_refl _) (v5 h1fc)

set_option maxRecDepth 10000 in
set_option maxHeartbeats 4000000 in
theorem u132l {d : Nat} {I : Nat → Nat → Int32} {D : Nat → Nat → UInt64} {R : Nat → Nat → Option Nat} {Q : j_Po}    (hd : 3 ≤ d)
    (v1 : skI (D 106 0) (D 106 1) (D 106 3) (D 106 4) (D 106 2))
    (v2 : Q none w1 ((j_u I 106 6 1), (j_u (j_u D 106 7 (near (D 106 0) (D 106 1) (D 106 3) (D 106 4) (D 106 2)).1) 106 8 (near (D 106 0) (D 106 1) (D 106 3) (D 106 4) (D 106 2)).2), RR R)) : j_W 132 d 0 0 0 0 241 [some (.ref 0), none, none, none, none, none, none, none, none] [] w1 (I, D, RR R) Q := by
  refine q_aload_n d132_241 rfl ?_
  refine q_getR (x := 106) d132_242 (fs9_39 132 rfl) rfl (lt_w1 rfl) sh0 (rs0_8 R) (by decide) ?_
  refine q_invV (o := 106) (ci := 1) (av := []) (rest := []) (d' := 1) (mc' := 0) (ms' := 0) d132_245 (cv9_450 132 rfl) rfl (by decide) rfl rfl (by omega) (Nat.le_of_ble_eq_true rfl) (Nat.le_of_ble_eq_true rfl) (lt_w1 rfl) sh106 (Nat.le_refl _) (Nat.le_refl _) ?_
  refine c139 (Nat.le_refl 1) v1 ?_
  show j_W 132 d 0 0 0 0 248 [some (.ref 0), none, none, none, none, none, none, none, none] [] w1 ((j_u I 106 6 1), (j_u (j_u D 106 7 (near (D 106 0) (D 106 1) (D 106 3) (D 106 4) (D 106 2)).1) 106 8 (near (D 106 0) (D 106 1) (D 106 3) (D 106 4) (D 106 2)).2), RR R) Q
  exact q_ret d132_248 rfl (Nat.le_refl _) (Nat.le_refl _) v2

set_option maxRecDepth 10000 in
set_option maxHeartbeats 4000000 in
theorem u130r {d : Nat} {I : Nat → Nat → Int32} {D : Nat → Nat → UInt64} {R : Nat → Nat → Option Nat} {Q : j_Po} {a : Int32} {b : Int32} {e : Int32} {f : Int32} {g : Int32} {p : Int32}  (hR : WFR R) (hd : 2 ≤ d)
    (v1 : ∀ k1 : Nat, (k1 < 24) → (a = nI k1) → ∀ k2 : Nat, (k2 < 24) → (b = nI k2) → (p < 0) → Q (some (.long (-2))) w1 (I, D, RR R))
    (v2 : ∀ k1 : Nat, (k1 < 24) → (a = nI k1) → ∀ k2 : Nat, (k2 < 24) → (b = nI k2) → (¬ p < 0) → (p ≤ 2) → ((¬ e < -(80000 : Int32) ∧ ¬ (80000 : Int32) < e)) → ((¬ f < -(80000 : Int32) ∧ ¬ (80000 : Int32) < f)) → (f ≤ e) → Q (some (.long (-2))) w1 (I, D, RR R))
    (v3 : ∀ k1 : Nat, (k1 < 24) → (a = nI k1) → ∀ k2 : Nat, (k2 < 24) → (b = nI k2) → (¬ p < 0) → (p ≤ 2) → ((¬ e < -(80000 : Int32) ∧ ¬ (80000 : Int32) < e)) → ((¬ f < -(80000 : Int32) ∧ ¬ (80000 : Int32) < f)) → (¬ f ≤ e) → ((¬ g < -(80000 : Int32) ∧ ¬ (80000 : Int32) < g)) → ((I ((R 112 k1).getD 0) 1) ≤ 0) → j_W 130 d 0 0 0 0 83 [some (.ref 0), some (.int (nI k1)), some (.int (nI k2)), some (.int e), some (.int f), some (.int g), some (.int p)] [] w1 (I, D, RR R) Q)
    (v4 : ∀ k1 : Nat, (k1 < 24) → (a = nI k1) → ∀ k2 : Nat, (k2 < 24) → (b = nI k2) → (¬ p < 0) → (p ≤ 2) → ((¬ e < -(80000 : Int32) ∧ ¬ (80000 : Int32) < e)) → ((¬ f < -(80000 : Int32) ∧ ¬ (80000 : Int32) < f)) → (¬ f ≤ e) → ((¬ g < -(80000 : Int32) ∧ ¬ (80000 : Int32) < g)) → (¬ (I ((R 112 k1).getD 0) 1) ≤ 0) → Q (some (.long (-3))) w1 (I, D, RR R))
    (v5 : ∀ k1 : Nat, (k1 < 24) → (a = nI k1) → ∀ k2 : Nat, (k2 < 24) → (b = nI k2) → (¬ p < 0) → (p ≤ 2) → ((¬ e < -(80000 : Int32) ∧ ¬ (80000 : Int32) < e)) → ((¬ f < -(80000 : Int32) ∧ ¬ (80000 : Int32) < f)) → (¬ f ≤ e) → (¬ ((¬ g < -(80000 : Int32) ∧ ¬ (80000 : Int32) < g))) → Q (some (.long (-2))) w1 (I, D, RR R))
    (v6 : ∀ k1 : Nat, (k1 < 24) → (a = nI k1) → ∀ k2 : Nat, (k2 < 24) → (b = nI k2) → (¬ p < 0) → (p ≤ 2) → ((¬ e < -(80000 : Int32) ∧ ¬ (80000 : Int32) < e)) → (¬ ((¬ f < -(80000 : Int32) ∧ ¬ (80000 : Int32) < f))) → Q (some (.long (-2))) w1 (I, D, RR R))
    (v7 : ∀ k1 : Nat, (k1 < 24) → (a = nI k1) → ∀ k2 : Nat, (k2 < 24) → (b = nI k2) → (¬ p < 0) → (p ≤ 2) → (¬ ((¬ e < -(80000 : Int32) ∧ ¬ (80000 : Int32) < e))) → Q (some (.long (-2))) w1 (I, D, RR R))
    (v8 : ∀ k1 : Nat, (k1 < 24) → (a = nI k1) → ∀ k2 : Nat, (k2 < 24) → (b = nI k2) → (¬ p < 0) → (¬ p ≤ 2) → Q (some (.long (-2))) w1 (I, D, RR R))
    (v9 : ∀ k1 : Nat, (k1 < 24) → (a = nI k1) → (¬ (∃ k : Nat, k < 24 ∧ b = nI k)) → Q (some (.long (-2))) w1 (I, D, RR R))
    (v10 : (¬ (∃ k : Nat, k < 24 ∧ a = nI k)) → Q (some (.long (-2))) w1 (I, D, RR R)) : j_Call d 130 [.ref 0, .int a, .int b, .int e, .int f, .int g, .int p] w1 (I, D, RR R) 0 0 Q := by
  refine q_enter (L := [some (.ref 0), some (.int a), some (.int b), some (.int e), some (.int f), some (.int g), some (.int p)]) j_m130 (Nat.le_of_ble_eq_true rfl) rfl ?_
  refine q_iload_n d130_0 rfl ?_
  refine q_invS (av := [.int a]) (rest := []) (d' := 0) (mc' := 0) (ms' := 0) d130_1 (cv9_60 130 rfl) rfl rfl (by omega) (Nat.le_of_ble_eq_true rfl) (Nat.le_of_ble_eq_true rfl) (Nat.le_refl _) (Nat.le_refl _) ?_
  refine r12  (fun k1 h1 h1e => ?_) (fun h1 => ?_)
  ·
    subst h1e
    show j_W 130 d 0 0 0 0 4 [some (.ref 0), some (.int (nI k1)), some (.int b), some (.int e), some (.int f), some (.int g), some (.int p)] [.int 1] w1 (I, D, RR R) Q
    refine q_if_eq (tgt := 25) d130_4 rfl (fun h => absurd h (by decide)) (fun _ => ?_)
    refine q_iload_n d130_7 rfl ?_
    refine q_invS (av := [.int b]) (rest := []) (d' := 0) (mc' := 0) (ms' := 0) d130_8 (cv9_60 130 rfl) rfl rfl (by omega) (Nat.le_of_ble_eq_true rfl) (Nat.le_of_ble_eq_true rfl) (Nat.le_refl _) (Nat.le_refl _) ?_
    refine r12  (fun k2 h2 h2e => ?_) (fun h2 => ?_)
    ·
      subst h2e
      show j_W 130 d 0 0 0 0 11 [some (.ref 0), some (.int (nI k1)), some (.int (nI k2)), some (.int e), some (.int f), some (.int g), some (.int p)] [.int 1] w1 (I, D, RR R) Q
      refine q_if_eq (tgt := 25) d130_11 rfl (fun h => absurd h (by decide)) (fun _ => ?_)
      refine q_iload d130_14 rfl ?_
      refine q_if_lt (tgt := 25) d130_16 rfl (fun h3t => ?_) (fun h3f => ?_)
      ·
        refine q_ldcL (v := (-2)) d130_25 (kc9_127 130 rfl) ?_
        exact q_lret d130_28 rfl (Nat.le_refl _) (Nat.le_refl _) (v1 k1 h1 rfl k2 h2 rfl h3t)
      ·
        refine q_iload d130_19 rfl ?_
        refine q_iconst (v := 2) (by decide) d130_21 ?_
        refine q_icmp_le (tgt := 29) d130_22 rfl (fun h4t => ?_) (fun h4f => ?_)
        ·
          refine q_iload_n d130_29 rfl ?_
          refine q_ldcI (v := 80000) d130_30 (kc9_193 130 rfl) ?_
          refine q_invS (av := [.int e, .int 80000]) (rest := []) (d' := 0) (mc' := 0) (ms' := 0) d130_32 (cv9_65 130 rfl) rfl rfl (by omega) (Nat.le_of_ble_eq_true rfl) (Nat.le_of_ble_eq_true rfl) (Nat.le_refl _) (Nat.le_refl _) ?_
          refine p13  (fun h5 => ?_) (fun h5 => ?_)
          ·
            show j_W 130 d 0 0 0 0 35 [some (.ref 0), some (.int (nI k1)), some (.int (nI k2)), some (.int e), some (.int f), some (.int g), some (.int p)] [.int 1] w1 (I, D, RR R) Q
            refine q_if_eq (tgt := 64) d130_35 rfl (fun h => absurd h (by decide)) (fun _ => ?_)
            refine q_iload d130_38 rfl ?_
            refine q_ldcI (v := 80000) d130_40 (kc9_193 130 rfl) ?_
            refine q_invS (av := [.int f, .int 80000]) (rest := []) (d' := 0) (mc' := 0) (ms' := 0) d130_42 (cv9_65 130 rfl) rfl rfl (by omega) (Nat.le_of_ble_eq_true rfl) (Nat.le_of_ble_eq_true rfl) (Nat.le_refl _) (Nat.le_refl _) ?_
            refine p13  (fun h6 => ?_) (fun h6 => ?_)
            ·
              show j_W 130 d 0 0 0 0 45 [some (.ref 0), some (.int (nI k1)), some (.int (nI k2)), some (.int e), some (.int f), some (.int g), some (.int p)] [.int 1] w1 (I, D, RR R) Q
              refine q_if_eq (tgt := 64) d130_45 rfl (fun h => absurd h (by decide)) (fun _ => ?_)
              refine q_iload_n d130_48 rfl ?_
              refine q_iload d130_49 rfl ?_
              refine q_icmp_ge (tgt := 64) d130_51 rfl (fun h7t => ?_) (fun h7f => ?_)
              ·
                refine q_ldcL (v := (-2)) d130_64 (kc9_127 130 rfl) ?_
                exact q_lret d130_67 rfl (Nat.le_refl _) (Nat.le_refl _) (v2 k1 h1 rfl k2 h2 rfl h3f h4t h5 h6 h7t)
              ·
                refine q_iload d130_54 rfl ?_
                refine q_ldcI (v := 80000) d130_56 (kc9_193 130 rfl) ?_
                refine q_invS (av := [.int g, .int 80000]) (rest := []) (d' := 0) (mc' := 0) (ms' := 0) d130_58 (cv9_65 130 rfl) rfl rfl (by omega) (Nat.le_of_ble_eq_true rfl) (Nat.le_of_ble_eq_true rfl) (Nat.le_refl _) (Nat.le_refl _) ?_
                refine p13  (fun h8 => ?_) (fun h8 => ?_)
                ·
                  show j_W 130 d 0 0 0 0 61 [some (.ref 0), some (.int (nI k1)), some (.int (nI k2)), some (.int e), some (.int f), some (.int g), some (.int p)] [.int 1] w1 (I, D, RR R) Q
                  refine q_if_ne (tgt := 68) d130_61 rfl (fun _ => ?_) (fun h => absurd h (by decide))
                  refine q_aload_n d130_68 rfl ?_
                  refine q_getR (x := 108) d130_69 (fs9_53 130 rfl) rfl (lt_w1 rfl) sh0 (rs0_1 R) (by decide) ?_
                  refine q_iload_n d130_72 rfl ?_
                  refine q_invV (o := 108) (ci := 0) (av := [.int (nI k1)]) (rest := []) (d' := 0) (mc' := 0) (ms' := 0) d130_73 (cv9_69 130 rfl) rfl (by decide) rfl rfl (by omega) (Nat.le_of_ble_eq_true rfl) (Nat.le_of_ble_eq_true rfl) (lt_w1 rfl) sh108 (Nat.le_refl _) (Nat.le_refl _) ?_
                  refine u14 (k := k1) hR (by first | omega | decide) (Nat.le_refl _) (fun c9 => ?_) (fun c10 => ?_)
                  ·
                    show j_W 130 d 0 0 0 0 76 [some (.ref 0), some (.int (nI k1)), some (.int (nI k2)), some (.int e), some (.int f), some (.int g), some (.int p)] [.int 0] w1 (I, D, RR R) Q
                    refine q_if_eq (tgt := 83) d130_76 rfl (fun _ => ?_) (fun h => absurd h (by decide))
                    exact r_sub (L' := [some (.ref 0), some (.int (nI k1)), some (.int (nI k2)), some (.int e), some (.int f), some (.int g), some (.int p)]) ⟨rfl, rfl, rfl, rfl, rfl, rfl, rfl, trivial⟩ (v3 k1 h1 rfl k2 h2 rfl h3f h4t h5 h6 h7f h8 c9)
                  ·
                    show j_W 130 d 0 0 0 0 76 [some (.ref 0), some (.int (nI k1)), some (.int (nI k2)), some (.int e), some (.int f), some (.int g), some (.int p)] [.int 1] w1 (I, D, RR R) Q
                    refine q_if_eq (tgt := 83) d130_76 rfl (fun h => absurd h (by decide)) (fun _ => ?_)
                    refine q_ldcL (v := (-3)) d130_79 (kc9_136 130 rfl) ?_
                    exact q_lret d130_82 rfl (Nat.le_refl _) (Nat.le_refl _) (v4 k1 h1 rfl k2 h2 rfl h3f h4t h5 h6 h7f h8 c10)
                ·
                  show j_W 130 d 0 0 0 0 61 [some (.ref 0), some (.int (nI k1)), some (.int (nI k2)), some (.int e), some (.int f), some (.int g), some (.int p)] [.int 0] w1 (I, D, RR R) Q
                  refine q_if_ne (tgt := 68) d130_61 rfl (fun h => absurd h (by decide)) (fun _ => ?_)
                  refine q_ldcL (v := (-2)) d130_64 (kc9_127 130 rfl) ?_
                  exact q_lret d130_67 rfl (Nat.le_refl _) (Nat.le_refl _) (v5 k1 h1 rfl k2 h2 rfl h3f h4t h5 h6 h7f h8)
            ·
              show j_W 130 d 0 0 0 0 45 [some (.ref 0), some (.int (nI k1)), some (.int (nI k2)), some (.int e), some (.int f), some (.int g), some (.int p)] [.int 0] w1 (I, D, RR R) Q
              refine q_if_eq (tgt := 64) d130_45 rfl (fun _ => ?_) (fun h => absurd h (by decide))
              refine q_ldcL (v := (-2)) d130_64 (kc9_127 130 rfl) ?_
              exact q_lret d130_67 rfl (Nat.le_refl _) (Nat.le_refl _) (v6 k1 h1 rfl k2 h2 rfl h3f h4t h5 h6)
          ·
            show j_W 130 d 0 0 0 0 35 [some (.ref 0), some (.int (nI k1)), some (.int (nI k2)), some (.int e), some (.int f), some (.int g), some (.int p)] [.int 0] w1 (I, D, RR R) Q
            refine q_if_eq (tgt := 64) d130_35 rfl (fun _ => ?_) (fun h => absurd h (by decide))
            refine q_ldcL (v := (-2)) d130_64 (kc9_127 130 rfl) ?_
            exact q_lret d130_67 rfl (Nat.le_refl _) (Nat.le_refl _) (v7 k1 h1 rfl k2 h2 rfl h3f h4t h5)
        ·
          refine q_ldcL (v := (-2)) d130_25 (kc9_127 130 rfl) ?_
          exact q_lret d130_28 rfl (Nat.le_refl _) (Nat.le_refl _) (v8 k1 h1 rfl k2 h2 rfl h3f h4f)
    ·
      show j_W 130 d 0 0 0 0 11 [some (.ref 0), some (.int (nI k1)), some (.int b), some (.int e), some (.int f), some (.int g), some (.int p)] [.int 0] w1 (I, D, RR R) Q
      refine q_if_eq (tgt := 25) d130_11 rfl (fun _ => ?_) (fun h => absurd h (by decide))
      refine q_ldcL (v := (-2)) d130_25 (kc9_127 130 rfl) ?_
      exact q_lret d130_28 rfl (Nat.le_refl _) (Nat.le_refl _) (v9 k1 h1 rfl h2)
  ·
    show j_W 130 d 0 0 0 0 4 [some (.ref 0), some (.int a), some (.int b), some (.int e), some (.int f), some (.int g), some (.int p)] [.int 0] w1 (I, D, RR R) Q
    refine q_if_eq (tgt := 25) d130_4 rfl (fun _ => ?_) (fun h => absurd h (by decide))
    refine q_ldcL (v := (-2)) d130_25 (kc9_127 130 rfl) ?_
    exact q_lret d130_28 rfl (Nat.le_refl _) (Nat.le_refl _) (v10 h1)

set_option maxRecDepth 10000 in
set_option maxHeartbeats 4000000 in
theorem u130a {d : Nat} {I : Nat → Nat → Int32} {D : Nat → Nat → UInt64} {R : Nat → Nat → Option Nat} {Q : j_Po} {i : Nat} {c : Nat} {e : Int32} {f : Int32} {g : Int32} {p : Int32}   (hd : 2 ≤ d)
    (v1 : j_W 130 d 0 0 0 0 110 [some (.ref 0), some (.int (nI i)), some (.int (nI c)), none, none, none, some (.int p)] [] w1 ((j_u (j_u I 106 5 0) 106 6 0), (j_u (j_u (j_u D 106 0 (FP.ddiv (FP.i2d e) 4620693217682128896)) 106 1 (FP.ddiv (FP.i2d f) 4620693217682128896)) 106 2 (FP.ddiv (FP.i2d g) 4620693217682128896)), RR R) Q) : j_W 130 d 0 0 0 0 83 [some (.ref 0), some (.int (nI i)), some (.int (nI c)), some (.int e), some (.int f), some (.int g), some (.int p)] [] w1 (I, D, RR R) Q := by
  refine q_aload_n d130_83 rfl ?_
  refine q_getR (x := 106) d130_84 (fs9_39 130 rfl) rfl (lt_w1 rfl) sh0 (rs0_8 R) (by decide) ?_
  refine q_iload_n d130_87 rfl ?_
  refine q_i2d d130_88 ?_
  refine q_ldcD (v := 4620693217682128896) d130_89 (kc9_80 130 rfl) ?_
  refine q_ddiv (n64_i8 _) d130_92 ?_
  refine q_iload d130_93 rfl ?_
  refine q_i2d d130_95 ?_
  refine q_ldcD (v := 4620693217682128896) d130_96 (kc9_80 130 rfl) ?_
  refine q_ddiv (n64_i8 _) d130_99 ?_
  refine q_iload d130_100 rfl ?_
  refine q_i2d d130_102 ?_
  refine q_ldcD (v := 4620693217682128896) d130_103 (kc9_80 130 rfl) ?_
  refine q_ddiv (n64_i8 _) d130_106 ?_
  refine q_invV (o := 106) (ci := 1) (av := [.double (FP.ddiv (FP.i2d e) 4620693217682128896), .double (FP.ddiv (FP.i2d f) 4620693217682128896), .double (FP.ddiv (FP.i2d g) 4620693217682128896)]) (rest := []) (d' := 0) (mc' := 0) (ms' := 0) d130_107 (cv9_298 130 rfl) rfl (by decide) rfl rfl (by omega) (Nat.le_of_ble_eq_true rfl) (Nat.le_of_ble_eq_true rfl) (lt_w1 rfl) sh106 (Nat.le_refl _) (Nat.le_refl _) ?_
  refine u131   (Nat.le_refl _) ?_
  show j_W 130 d 0 0 0 0 110 [some (.ref 0), some (.int (nI i)), some (.int (nI c)), some (.int e), some (.int f), some (.int g), some (.int p)] [] w1 ((j_u (j_u I 106 5 0) 106 6 0), (j_u (j_u (j_u D 106 0 (FP.ddiv (FP.i2d e) 4620693217682128896)) 106 1 (FP.ddiv (FP.i2d f) 4620693217682128896)) 106 2 (FP.ddiv (FP.i2d g) 4620693217682128896)), RR R) Q
  exact r_sub (L' := [some (.ref 0), some (.int (nI i)), some (.int (nI c)), none, none, none, some (.int p)]) ⟨rfl, rfl, rfl, rfl, trivial⟩ v1

set_option maxRecDepth 10000 in
set_option maxHeartbeats 4000000 in
theorem u130b {d : Nat} {I : Nat → Nat → Int32} {D : Nat → Nat → UInt64} {R : Nat → Nat → Option Nat} {Q : j_Po} {i : Nat} {c : Nat} {p : Int32}  {AP : (Nat → Nat → Int32) → (Nat → Nat → UInt64) → Prop} (hA : ∀ (Q : j_Po), (∀ J E, AP J E → Q none w1 (J, E, RR R)) → j_Call (d - 1) 132 [.ref 0, .int (nI i), .int (nI c)] w1 (I, D, RR R) 0 0 Q) (hd : 60 ≤ d)
    (v1 : ∀ J1 : Nat → Nat → Int32, ∀ E2 : Nat → Nat → UInt64, (AP J1 E2) → j_W 130 d 0 0 0 0 116 [some (.ref 0), none, none, none, none, none, some (.int p)] [] w1 (J1, E2, RR R) Q) : j_W 130 d 0 0 0 0 110 [some (.ref 0), some (.int (nI i)), some (.int (nI c)), none, none, none, some (.int p)] [] w1 (I, D, RR R) Q := by
  refine q_aload_n d130_110 rfl ?_
  refine q_iload_n d130_111 rfl ?_
  refine q_iload_n d130_112 rfl ?_
  refine q_invV (o := 0) (ci := 9) (av := [.int (nI i), .int (nI c)]) (rest := []) (d' := (d - 1)) (mc' := 0) (ms' := 0) d130_113 (cv9_302 130 rfl) rfl (by decide) rfl rfl (by omega) (Nat.le_of_ble_eq_true rfl) (Nat.le_of_ble_eq_true rfl) (lt_w1 rfl) sh0 (Nat.le_refl _) (Nat.le_refl _) ?_
  refine hA _  (fun J1 E2 h3 => ?_)
  show j_W 130 d 0 0 0 0 116 [some (.ref 0), some (.int (nI i)), some (.int (nI c)), none, none, none, some (.int p)] [] w1 (J1, E2, RR R) Q
  exact r_sub (L' := [some (.ref 0), none, none, none, none, none, some (.int p)]) ⟨rfl, rfl, trivial⟩ (v1 J1 E2 h3)

set_option maxRecDepth 10000 in
set_option maxHeartbeats 4000000 in
theorem u130z {d : Nat} {I : Nat → Nat → Int32} {D : Nat → Nat → UInt64} {R : Nat → Nat → Option Nat} {Q : j_Po} {p : Int32}   (hd : 2 ≤ d)
    (v1 : (¬ p = 2) → (¬ (I 106 6) = 0) → (¬ p = 0) → Fi (D 106 8))
    (v2 : (¬ p = 2) → (¬ (I 106 6) = 0) → (¬ p = 0) → (D 106 8) ≠ 0x8000000000000000)
    (v3 : (¬ p = 2) → (¬ (I 106 6) = 0) → (¬ p = 0) → Q (some (.long ((D 106 8) : UInt64).toInt64)) w1 (I, D, RR R))
    (v4 : (¬ p = 2) → (¬ (I 106 6) = 0) → (p = 0) → Fi (D 106 7))
    (v5 : (¬ p = 2) → (¬ (I 106 6) = 0) → (p = 0) → (D 106 7) ≠ 0x8000000000000000)
    (v6 : (¬ p = 2) → (¬ (I 106 6) = 0) → (p = 0) → Q (some (.long ((D 106 7) : UInt64).toInt64)) w1 (I, D, RR R))
    (v7 : (¬ p = 2) → ((I 106 6) = 0) → Q (some (.long (-1))) w1 (I, D, RR R))
    (v8 : (p = 2) → Q (some (.long (((I 106 5) : Int32).toInt64))) w1 (I, D, RR R)) : j_W 130 d 0 0 0 0 116 [some (.ref 0), none, none, none, none, none, some (.int p)] [] w1 (I, D, RR R) Q := by
  refine q_iload d130_116 rfl ?_
  refine q_iconst (v := 2) (by decide) d130_118 ?_
  refine q_icmp_ne (tgt := 131) d130_119 rfl (fun h1t => ?_) (fun h1f => ?_)
  ·
    refine q_aload_n d130_131 rfl ?_
    refine q_getR (x := 106) d130_132 (fs9_39 130 rfl) rfl (lt_w1 rfl) sh0 (rs0_8 R) (by decide) ?_
    refine q_getI d130_135 (fs9_308 130 rfl) rfl (lt_w1 rfl) sh106 ?_
    refine q_if_ne (tgt := 145) d130_138 rfl (fun h2t => ?_) (fun h2f => ?_)
    ·
      refine q_iload d130_145 rfl ?_
      refine q_if_ne (tgt := 160) d130_147 rfl (fun h3t => ?_) (fun h3f => ?_)
      ·
        refine q_aload_n d130_160 rfl ?_
        refine q_getR (x := 106) d130_161 (fs9_39 130 rfl) rfl (lt_w1 rfl) sh0 (rs0_8 R) (by decide) ?_
        refine q_getD d130_164 (fs9_316 130 rfl) rfl (lt_w1 rfl) sh106 ?_
        refine q_invS (av := [.double (D 106 8)]) (rest := []) (d' := 0) (mc' := 0) (ms' := 0) d130_167 (cv9_267 130 rfl) rfl rfl (by omega) (Nat.le_of_ble_eq_true rfl) (Nat.le_of_ble_eq_true rfl) (Nat.le_refl _) (Nat.le_refl _) ?_
        refine f57b (v1 h1t h2t h3t) (v2 h1t h2t h3t) ?_
        show j_W 130 d 0 0 0 0 170 [some (.ref 0), none, none, none, none, none, some (.int p)] [.long ((D 106 8) : UInt64).toInt64] w1 (I, D, RR R) Q
        exact q_lret d130_170 rfl (Nat.le_refl _) (Nat.le_refl _) (v3 h1t h2t h3t)
      ·
        refine q_aload_n d130_150 rfl ?_
        refine q_getR (x := 106) d130_151 (fs9_39 130 rfl) rfl (lt_w1 rfl) sh0 (rs0_8 R) (by decide) ?_
        refine q_getD d130_154 (fs9_313 130 rfl) rfl (lt_w1 rfl) sh106 ?_
        refine q_goto (tgt := 167) d130_157 rfl ?_
        refine q_invS (av := [.double (D 106 7)]) (rest := []) (d' := 0) (mc' := 0) (ms' := 0) d130_167 (cv9_267 130 rfl) rfl rfl (by omega) (Nat.le_of_ble_eq_true rfl) (Nat.le_of_ble_eq_true rfl) (Nat.le_refl _) (Nat.le_refl _) ?_
        refine f57b (v4 h1t h2t h3f) (v5 h1t h2t h3f) ?_
        show j_W 130 d 0 0 0 0 170 [some (.ref 0), none, none, none, none, none, some (.int p)] [.long ((D 106 7) : UInt64).toInt64] w1 (I, D, RR R) Q
        exact q_lret d130_170 rfl (Nat.le_refl _) (Nat.le_refl _) (v6 h1t h2t h3f)
    ·
      refine q_ldcL (v := (-1)) d130_141 (kc9_311 130 rfl) ?_
      exact q_lret d130_144 rfl (Nat.le_refl _) (Nat.le_refl _) (v7 h1t h2f)
  ·
    refine q_aload_n d130_122 rfl ?_
    refine q_getR (x := 106) d130_123 (fs9_39 130 rfl) rfl (lt_w1 rfl) sh0 (rs0_8 R) (by decide) ?_
    refine q_getI d130_126 (fs9_305 130 rfl) rfl (lt_w1 rfl) sh106 ?_
    refine q_i2l d130_129 ?_
    exact q_lret d130_130 rfl (Nat.le_refl _) (Nat.le_refl _) (v8 h1f)

