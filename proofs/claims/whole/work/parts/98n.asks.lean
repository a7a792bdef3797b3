/-! asking the tellers: walks -/
set_option maxRecDepth 10000 in
set_option maxHeartbeats 4000000 in
theorem u33a {d : Nat} {I : Nat → Nat → Int32} {D : Nat → Nat → UInt64} {R : Nat → Nat → Option Nat} {Q : j_Po} {c : Nat}  {AP : (Nat → Nat → Int32) → (Nat → Nat → UInt64) → Prop} (hA : ∀ (Q : j_Po), (∀ J E, AP J E → Q none w1 (J, E, RR R)) → j_Call (d - 1) 34 [.ref 107] w1 (I, D, RR R) 0 0 Q) (hd : 1 ≤ d)
    (v1 : ∀ J1 : Nat → Nat → Int32, ∀ E2 : Nat → Nat → UInt64, (AP J1 E2) → j_W 33 d 0 0 0 0 7 [some (.ref 0), some (.int (nI c))] [] w1 (J1, E2, RR R) Q) : j_Call d 33 [.ref 0, .int (nI c)] w1 (I, D, RR R) 0 0 Q := by
  refine q_enter (L := [some (.ref 0), some (.int (nI c))]) j_m33 (Nat.le_of_ble_eq_true rfl) rfl ?_
  refine q_aload_n d33_0 rfl ?_
  refine q_getR (x := 107) d33_1 (fs9_46 33 rfl) rfl (lt_w1 rfl) sh0 (rs0_0 R) (by decide) ?_
  refine q_invV (o := 107) (ci := 8) (av := []) (rest := []) (d' := (d - 1)) (mc' := 0) (ms' := 0) d33_4 (cv9_138 33 rfl) rfl (by decide) rfl rfl (by omega) (Nat.le_of_ble_eq_true rfl) (Nat.le_of_ble_eq_true rfl) (lt_w1 rfl) sh107 (Nat.le_refl _) (Nat.le_refl _) ?_
  refine hA _  (fun J1 E2 h3 => ?_)
  show j_W 33 d 0 0 0 0 7 [some (.ref 0), some (.int (nI c))] [] w1 (J1, E2, RR R) Q
  exact r_sub (L' := [some (.ref 0), some (.int (nI c))]) ⟨rfl, rfl, trivial⟩ (v1 J1 E2 h3)

set_option maxRecDepth 10000 in
set_option maxHeartbeats 4000000 in
theorem u33b {d : Nat} {I : Nat → Nat → Int32} {D : Nat → Nat → UInt64} {R : Nat → Nat → Option Nat} {Q : j_Po} {c : Nat}  {AP : (Nat → Nat → Int32) → (Nat → Nat → UInt64) → Prop} (hc : c < 24) (hA : ∀ (Q : j_Po), (∀ J E, AP J E → Q none w1 (J, E, RR R)) → j_Call (d - 1) 36 [.ref 107, .int 0, .int (I 206 c)] w1 (I, D, RR R) 0 0 Q) (hd : 1 ≤ d)
    (v1 : ∀ J1 : Nat → Nat → Int32, ∀ E2 : Nat → Nat → UInt64, (AP J1 E2) → j_W 33 d 0 0 0 0 24 [some (.ref 0), some (.int (nI c))] [] w1 (J1, E2, RR R) Q) : j_W 33 d 0 0 0 0 7 [some (.ref 0), some (.int (nI c))] [] w1 (I, D, RR R) Q := by
  refine q_aload_n d33_7 rfl ?_
  refine q_getR (x := 107) d33_8 (fs9_46 33 rfl) rfl (lt_w1 rfl) sh0 (rs0_0 R) (by decide) ?_
  refine q_iconst (v := 0) (by decide) d33_11 ?_
  refine q_aload_n d33_12 rfl ?_
  refine q_getR (x := 204) d33_13 (fs9_58 33 rfl) rfl (lt_w1 rfl) sh0 (rs0_2 R) (by decide) ?_
  refine q_getR (x := 206) d33_16 (fs9_111 33 rfl) rfl (lt_w1 rfl) sh204 (rs204_1 R) (by decide) ?_
  refine q_iload_n d33_19 rfl ?_
  refine q_iaload (a := c) d33_20 (lt_w1 rfl) sh206 rfl (by omega) ?_
  refine q_invVN (o := 107) (ci := 8) (av := [.int 0, .int (I 206 c)]) (rest := []) (d' := (d - 1)) (mc' := 0) (ms' := 0) d33_21 (nv9_382 33 rfl) rfl (by decide) rfl rfl (by omega) (Nat.le_of_ble_eq_true rfl) (Nat.le_of_ble_eq_true rfl) (lt_w1 rfl) sh107 (Nat.le_refl _) (Nat.le_refl _) ?_
  refine hA _  (fun J1 E2 h3 => ?_)
  show j_W 33 d 0 0 0 0 24 [some (.ref 0), some (.int (nI c))] [] w1 (J1, E2, RR R) Q
  exact r_sub (L' := [some (.ref 0), some (.int (nI c))]) ⟨rfl, rfl, trivial⟩ (v1 J1 E2 h3)

set_option maxRecDepth 10000 in
set_option maxHeartbeats 4000000 in
theorem u33c {d : Nat} {I : Nat → Nat → Int32} {D : Nat → Nat → UInt64} {R : Nat → Nat → Option Nat} {Q : j_Po} {c : Nat}  (hc : c < 24) (hd : 1 ≤ d)
    (v1 : Q (some (.int (I 221 c))) w1 (I, D, RR R)) : j_W 33 d 0 0 0 0 24 [some (.ref 0), some (.int (nI c))] [] w1 (I, D, RR R) Q := by
  refine q_aload_n d33_24 rfl ?_
  refine q_getR (x := 107) d33_25 (fs9_46 33 rfl) rfl (lt_w1 rfl) sh0 (rs0_0 R) (by decide) ?_
  refine q_getR (x := 220) d33_28 (fs9_385 33 rfl) rfl (lt_w1 rfl) sh107 (rs107_4 R) (by decide) ?_
  refine q_iconst (v := 0) (by decide) d33_31 ?_
  refine q_aaload (c := 4) (a := 0) (x := 221) d33_32 (lt_w1 rfl) sh220 (by decide) rfl (by decide) (rm220 (k := 0) R (by decide)) (by decide) ?_
  refine q_iload_n d33_33 rfl ?_
  refine q_iaload (a := c) d33_34 (lt_w1 rfl) sh221 rfl (by omega) ?_
  exact q_iret d33_35 rfl (Nat.le_refl _) (Nat.le_refl _) v1

set_option maxRecDepth 10000 in
set_option maxHeartbeats 4000000 in
theorem u59a {d : Nat} {I : Nat → Nat → Int32} {D : Nat → Nat → UInt64} {R : Nat → Nat → Option Nat} {Q : j_Po} {c : Nat} {x : UInt64} {o : Nat}  {AP : (Nat → Nat → Int32) → (Nat → Nat → UInt64) → Prop} (hA : ∀ (Q : j_Po), (∀ J E, AP J E → Q none w1 (J, E, RR R)) → j_Call (d - 1) 60 [.ref 107, .int (nI c), .double x] w1 (I, D, RR R) 0 0 Q) (hd : 1 ≤ d)
    (v1 : ∀ J1 : Nat → Nat → Int32, ∀ E2 : Nat → Nat → UInt64, (AP J1 E2) → j_W 59 d 0 0 0 0 6 [some (.ref 107), none, none, none, some (.int (nI o))] [] w1 (J1, E2, RR R) Q) : j_Call d 59 [.ref 107, .int (nI c), .double x, .int (nI o)] w1 (I, D, RR R) 0 0 Q := by
  refine q_enter (L := [some (.ref 107), some (.int (nI c)), some (.double x), none, some (.int (nI o))]) j_m59 (Nat.le_of_ble_eq_true rfl) rfl ?_
  refine q_aload_n d59_0 rfl ?_
  refine q_iload_n d59_1 rfl ?_
  refine q_dload_n d59_2 rfl ?_
  refine q_invV (o := 107) (ci := 8) (av := [.int (nI c), .double x]) (rest := []) (d' := (d - 1)) (mc' := 0) (ms' := 0) d59_3 (cv8_71 59 rfl) rfl (by decide) rfl rfl (by omega) (Nat.le_of_ble_eq_true rfl) (Nat.le_of_ble_eq_true rfl) (lt_w1 rfl) sh107 (Nat.le_refl _) (Nat.le_refl _) ?_
  refine hA _  (fun J1 E2 h3 => ?_)
  show j_W 59 d 0 0 0 0 6 [some (.ref 107), some (.int (nI c)), some (.double x), none, some (.int (nI o))] [] w1 (J1, E2, RR R) Q
  exact r_sub (L' := [some (.ref 107), none, none, none, some (.int (nI o))]) ⟨rfl, rfl, trivial⟩ (v1 J1 E2 h3)

set_option maxRecDepth 10000 in
set_option maxHeartbeats 4000000 in
theorem u59b {d : Nat} {I : Nat → Nat → Int32} {D : Nat → Nat → UInt64} {R : Nat → Nat → Option Nat} {Q : j_Po} {o : Nat}  {AP : (Nat → Nat → Int32) → (Nat → Nat → UInt64) → Prop} (ho : o < 24) (hA : ∀ (Q : j_Po), (∀ J E, AP J E → Q none w1 (J, E, RR R)) → j_Call (d - 1) 36 [.ref 107, .int 0, .int (I 206 o)] w1 (I, D, RR R) 0 0 Q) (hd : 1 ≤ d)
    (v1 : ∀ J1 : Nat → Nat → Int32, ∀ E2 : Nat → Nat → UInt64, (AP J1 E2) → j_W 59 d 0 0 0 0 21 [some (.ref 107), none, none, none, some (.int (nI o))] [] w1 (J1, E2, RR R) Q) : j_W 59 d 0 0 0 0 6 [some (.ref 107), none, none, none, some (.int (nI o))] [] w1 (I, D, RR R) Q := by
  refine q_aload_n d59_6 rfl ?_
  refine q_iconst (v := 0) (by decide) d59_7 ?_
  refine q_aload_n d59_8 rfl ?_
  refine q_getR (x := 204) d59_9 (fs8_21 59 rfl) rfl (lt_w1 rfl) sh107 (rs107_1 R) (by decide) ?_
  refine q_getR (x := 206) d59_12 (fs8_75 59 rfl) rfl (lt_w1 rfl) sh204 (rs204_1 R) (by decide) ?_
  refine q_iload d59_15 rfl ?_
  refine q_iaload (a := o) d59_17 (lt_w1 rfl) sh206 rfl (by omega) ?_
  refine q_invV (o := 107) (ci := 8) (av := [.int 0, .int (I 206 o)]) (rest := []) (d' := (d - 1)) (mc' := 0) (ms' := 0) d59_18 (cv8_78 59 rfl) rfl (by decide) rfl rfl (by omega) (Nat.le_of_ble_eq_true rfl) (Nat.le_of_ble_eq_true rfl) (lt_w1 rfl) sh107 (Nat.le_refl _) (Nat.le_refl _) ?_
  refine hA _  (fun J1 E2 h3 => ?_)
  show j_W 59 d 0 0 0 0 21 [some (.ref 107), none, none, none, some (.int (nI o))] [] w1 (J1, E2, RR R) Q
  exact r_sub (L' := [some (.ref 107), none, none, none, some (.int (nI o))]) ⟨rfl, rfl, trivial⟩ (v1 J1 E2 h3)

set_option maxRecDepth 10000 in
set_option maxHeartbeats 4000000 in
theorem u59c {d : Nat} {I : Nat → Nat → Int32} {D : Nat → Nat → UInt64} {R : Nat → Nat → Option Nat} {Q : j_Po} {o : Nat}  (ho : o < 24) (hd : 1 ≤ d)
    (v1 : Q (some (.int (I 221 o))) w1 (I, D, RR R)) : j_W 59 d 0 0 0 0 21 [some (.ref 107), none, none, none, some (.int (nI o))] [] w1 (I, D, RR R) Q := by
  refine q_aload_n d59_21 rfl ?_
  refine q_getR (x := 220) d59_22 (fs8_38 59 rfl) rfl (lt_w1 rfl) sh107 (rs107_4 R) (by decide) ?_
  refine q_iconst (v := 0) (by decide) d59_25 ?_
  refine q_aaload (c := 4) (a := 0) (x := 221) d59_26 (lt_w1 rfl) sh220 (by decide) rfl (by decide) (rm220 (k := 0) R (by decide)) (by decide) ?_
  refine q_iload d59_27 rfl ?_
  refine q_iaload (a := o) d59_29 (lt_w1 rfl) sh221 rfl (by omega) ?_
  exact q_iret d59_30 rfl (Nat.le_refl _) (Nat.le_refl _) v1

set_option maxRecDepth 10000 in
set_option maxHeartbeats 4000000 in
theorem u119e {d : Nat} {I : Nat → Nat → Int32} {D : Nat → Nat → UInt64} {R : Nat → Nat → Option Nat} {Q : j_Po} {t : Nat} {i : Int32} {j : Int32}  (hR : WFR R) (ht : t < 6) (hd : 1 ≤ d)
    (v1 : j_W 119 d 0 0 0 0 11 [some (.ref 0), some (.int (nI t)), some (.int i), some (.int j), some (.ref ((R 113 t).getD 0))] [] w1 (I, D, RR R) Q) : j_Call d 119 [.ref 0, .int (nI t), .int i, .int j] w1 (I, D, RR R) 0 0 Q := by
  refine q_enter (L := [some (.ref 0), some (.int (nI t)), some (.int i), some (.int j), none]) j_m119 (Nat.le_of_ble_eq_true rfl) rfl ?_
  refine q_aload_n d119_0 rfl ?_
  refine q_getR (x := 108) d119_1 (fs9_53 119 rfl) rfl (lt_w1 rfl) sh0 (rs0_1 R) (by decide) ?_
  refine q_getR (x := 113) d119_4 (fs9_197 119 rfl) rfl (lt_w1 rfl) sh108 (rs108_4 R) (by decide) ?_
  refine q_iload_n d119_7 rfl ?_
  have g2 := hR.g t (by omega)
  refine q_aaload (c := 7) (a := t) (x := ((R 113 t).getD 0)) d119_8 (lt_w1 rfl) sh113 (by decide) rfl (by omega) ((RR_d rfl).trans g2.1) (lt1000 (isG_lt g2.2)) ?_
  refine q_astore (L' := [some (.ref 0), some (.int (nI t)), some (.int i), some (.int j), some (.ref ((R 113 t).getD 0))]) d119_9 (Nat.le_of_ble_eq_true rfl) (Nat.ne_of_lt (Nat.lt_trans (lt1000 (isG_lt g2.2)) (by decide))) rfl ?_
  exact r_sub (L' := [some (.ref 0), some (.int (nI t)), some (.int i), some (.int j), some (.ref ((R 113 t).getD 0))]) ⟨rfl, rfl, rfl, rfl, rfl, trivial⟩ v1

set_option maxRecDepth 10000 in
set_option maxHeartbeats 4000000 in
theorem u119a {d : Nat} {I : Nat → Nat → Int32} {D : Nat → Nat → UInt64} {R : Nat → Nat → Option Nat} {Q : j_Po} {t : Nat} {i : Nat} {j : Nat}  {AP : (Nat → Nat → Int32) → (Nat → Nat → UInt64) → Prop} (hg : isG (go R t)) (hA : ∀ (Q : j_Po), (∀ J E, AP J E → Q none w1 (J, E, RR R)) → j_Call (d - 1) 34 [.ref 107] w1 (I, D, RR R) 0 0 Q) (hd : 1 ≤ d)
    (v1 : ∀ J1 : Nat → Nat → Int32, ∀ E2 : Nat → Nat → UInt64, (AP J1 E2) → j_W 119 d 0 0 0 0 18 [some (.ref 0), some (.int (nI t)), some (.int (nI i)), some (.int (nI j)), some (.ref (go R t))] [] w1 (J1, E2, RR R) Q) : j_W 119 d 0 0 0 0 11 [some (.ref 0), some (.int (nI t)), some (.int (nI i)), some (.int (nI j)), some (.ref (go R t))] [] w1 (I, D, RR R) Q := by
  refine q_aload_n d119_11 rfl ?_
  refine q_getR (x := 107) d119_12 (fs9_46 119 rfl) rfl (lt_w1 rfl) sh0 (rs0_0 R) (by decide) ?_
  refine q_invV (o := 107) (ci := 8) (av := []) (rest := []) (d' := (d - 1)) (mc' := 0) (ms' := 0) d119_15 (cv9_138 119 rfl) rfl (by decide) rfl rfl (by omega) (Nat.le_of_ble_eq_true rfl) (Nat.le_of_ble_eq_true rfl) (lt_w1 rfl) sh107 (Nat.le_refl _) (Nat.le_refl _) ?_
  refine hA _  (fun J1 E2 h3 => ?_)
  show j_W 119 d 0 0 0 0 18 [some (.ref 0), some (.int (nI t)), some (.int (nI i)), some (.int (nI j)), some (.ref (go R t))] [] w1 (J1, E2, RR R) Q
  exact r_sub (L' := [some (.ref 0), some (.int (nI t)), some (.int (nI i)), some (.int (nI j)), some (.ref (go R t))]) ⟨rfl, rfl, rfl, rfl, rfl, trivial⟩ (v1 J1 E2 h3)

set_option maxRecDepth 10000 in
set_option maxHeartbeats 4000000 in
theorem u119b {d : Nat} {I : Nat → Nat → Int32} {D : Nat → Nat → UInt64} {R : Nat → Nat → Option Nat} {Q : j_Po} {t : Nat} {i : Nat} {j : Nat}  {AP : (Nat → Nat → Int32) → (Nat → Nat → UInt64) → Prop} (hg : isG (go R t)) (hA : ∀ (Q : j_Po), (∀ J E, AP J E → Q none w1 (J, E, RR R)) → j_Call (d - 1) 43 [.ref 107, .int 1] w1 (I, D, RR R) 0 0 Q) (hd : 1 ≤ d)
    (v1 : ∀ J1 : Nat → Nat → Int32, ∀ E2 : Nat → Nat → UInt64, (AP J1 E2) → j_W 119 d 0 0 0 0 26 [some (.ref 0), some (.int (nI t)), some (.int (nI i)), some (.int (nI j)), some (.ref (go R t))] [] w1 (J1, E2, RR R) Q) : j_W 119 d 0 0 0 0 18 [some (.ref 0), some (.int (nI t)), some (.int (nI i)), some (.int (nI j)), some (.ref (go R t))] [] w1 (I, D, RR R) Q := by
  refine q_aload_n d119_18 rfl ?_
  refine q_getR (x := 107) d119_19 (fs9_46 119 rfl) rfl (lt_w1 rfl) sh0 (rs0_0 R) (by decide) ?_
  refine q_iconst (v := 1) (by decide) d119_22 ?_
  refine q_invV (o := 107) (ci := 8) (av := [.int 1]) (rest := []) (d' := (d - 1)) (mc' := 0) (ms' := 0) d119_23 (cv9_399 119 rfl) rfl (by decide) rfl rfl (by omega) (Nat.le_of_ble_eq_true rfl) (Nat.le_of_ble_eq_true rfl) (lt_w1 rfl) sh107 (Nat.le_refl _) (Nat.le_refl _) ?_
  refine hA _  (fun J1 E2 h3 => ?_)
  show j_W 119 d 0 0 0 0 26 [some (.ref 0), some (.int (nI t)), some (.int (nI i)), some (.int (nI j)), some (.ref (go R t))] [] w1 (J1, E2, RR R) Q
  exact r_sub (L' := [some (.ref 0), some (.int (nI t)), some (.int (nI i)), some (.int (nI j)), some (.ref (go R t))]) ⟨rfl, rfl, rfl, rfl, rfl, trivial⟩ (v1 J1 E2 h3)

set_option maxRecDepth 10000 in
set_option maxHeartbeats 4000000 in
theorem u119c {d : Nat} {I : Nat → Nat → Int32} {D : Nat → Nat → UInt64} {R : Nat → Nat → Option Nat} {Q : j_Po} {t : Nat} {i : Nat} {j : Nat}  {AP : (Nat → Nat → Int32) → (Nat → Nat → UInt64) → Prop} (hg : isG (go R t)) (hA : ∀ (Q : j_Po), (∀ J E, AP J E → Q none w1 (J, E, RR R)) → j_Call (d - 1) 45 [.ref 107, .int 1, .ref (go R t), .int (nI i), .int (nI j)] w1 (I, D, RR R) 0 0 Q) (hd : 1 ≤ d)
    (v1 : ∀ J1 : Nat → Nat → Int32, ∀ E2 : Nat → Nat → UInt64, (AP J1 E2) → j_W 119 d 0 0 0 0 38 [some (.ref 0), none, none, none, some (.ref (go R t))] [] w1 (J1, E2, RR R) Q) : j_W 119 d 0 0 0 0 26 [some (.ref 0), some (.int (nI t)), some (.int (nI i)), some (.int (nI j)), some (.ref (go R t))] [] w1 (I, D, RR R) Q := by
  refine q_aload_n d119_26 rfl ?_
  refine q_getR (x := 107) d119_27 (fs9_46 119 rfl) rfl (lt_w1 rfl) sh0 (rs0_0 R) (by decide) ?_
  refine q_iconst (v := 1) (by decide) d119_30 ?_
  refine q_aload d119_31 rfl ?_
  refine q_iload_n d119_33 rfl ?_
  refine q_iload_n d119_34 rfl ?_
  refine q_invV (o := 107) (ci := 8) (av := [.int 1, .ref (go R t), .int (nI i), .int (nI j)]) (rest := []) (d' := (d - 1)) (mc' := 0) (ms' := 0) d119_35 (cv9_402 119 rfl) rfl (by decide) rfl rfl (by omega) (Nat.le_of_ble_eq_true rfl) (Nat.le_of_ble_eq_true rfl) (lt_w1 rfl) sh107 (Nat.le_refl _) (Nat.le_refl _) ?_
  refine hA _  (fun J1 E2 h3 => ?_)
  show j_W 119 d 0 0 0 0 38 [some (.ref 0), some (.int (nI t)), some (.int (nI i)), some (.int (nI j)), some (.ref (go R t))] [] w1 (J1, E2, RR R) Q
  exact r_sub (L' := [some (.ref 0), none, none, none, some (.ref (go R t))]) ⟨rfl, rfl, trivial⟩ (v1 J1 E2 h3)

set_option maxRecDepth 10000 in
set_option maxHeartbeats 4000000 in
theorem u119d {d : Nat} {I : Nat → Nat → Int32} {D : Nat → Nat → UInt64} {R : Nat → Nat → Option Nat} {Q : j_Po}  {o t : Nat} {AP : (Nat → Nat → Int32) → (Nat → Nat → UInt64) → Prop} (hg : isG (go R t)) (ho1 : I (go R t) 1 = nI o) (ho : o < 24) (hA : ∀ (Q : j_Po), (∀ J E, AP J E → Q none w1 (J, E, RR R)) → j_Call (d - 1) 36 [.ref 107, .int 1, .int (I 206 o)] w1 (I, D, RR R) 0 0 Q) (hd : 1 ≤ d)
    (v1 : ∀ J1 : Nat → Nat → Int32, ∀ E2 : Nat → Nat → UInt64, (AP J1 E2) → j_W 119 d 0 0 0 0 59 [some (.ref 0), none, none, none, some (.ref (go R t))] [] w1 (J1, E2, RR R) Q) : j_W 119 d 0 0 0 0 38 [some (.ref 0), none, none, none, some (.ref (go R t))] [] w1 (I, D, RR R) Q := by
  refine q_aload_n d119_38 rfl ?_
  refine q_getR (x := 107) d119_39 (fs9_46 119 rfl) rfl (lt_w1 rfl) sh0 (rs0_0 R) (by decide) ?_
  refine q_iconst (v := 1) (by decide) d119_42 ?_
  refine q_aload_n d119_43 rfl ?_
  refine q_getR (x := 204) d119_44 (fs9_58 119 rfl) rfl (lt_w1 rfl) sh0 (rs0_2 R) (by decide) ?_
  refine q_getR (x := 206) d119_47 (fs9_111 119 rfl) rfl (lt_w1 rfl) sh204 (rs204_1 R) (by decide) ?_
  refine q_aload d119_50 rfl ?_
  refine q_getI d119_52 (fs9_242 119 rfl) rfl (isG_lt hg) (isG_sh hg) ?_
  refine r_int (y := (nI o)) (show I (go R t) 1 = (nI o) from ho1) ?_
  refine q_iaload (a := o) d119_55 (lt_w1 rfl) sh206 rfl (by omega) ?_
  refine q_invVN (o := 107) (ci := 8) (av := [.int 1, .int (I 206 o)]) (rest := []) (d' := (d - 1)) (mc' := 0) (ms' := 0) d119_56 (nv9_382 119 rfl) rfl (by decide) rfl rfl (by omega) (Nat.le_of_ble_eq_true rfl) (Nat.le_of_ble_eq_true rfl) (lt_w1 rfl) sh107 (Nat.le_refl _) (Nat.le_refl _) ?_
  refine hA _  (fun J1 E2 h3 => ?_)
  show j_W 119 d 0 0 0 0 59 [some (.ref 0), none, none, none, some (.ref (go R t))] [] w1 (J1, E2, RR R) Q
  exact r_sub (L' := [some (.ref 0), none, none, none, some (.ref (go R t))]) ⟨rfl, rfl, trivial⟩ (v1 J1 E2 h3)

set_option maxRecDepth 10000 in
set_option maxHeartbeats 4000000 in
theorem u119f {d : Nat} {I : Nat → Nat → Int32} {D : Nat → Nat → UInt64} {R : Nat → Nat → Option Nat} {Q : j_Po}  {o t : Nat} (hg : isG (go R t)) (ho1 : I (go R t) 1 = nI o) (ho : o < 24) (hd : 1 ≤ d)
    (v1 : Q (some (.int (I 222 o))) w1 (I, D, RR R)) : j_W 119 d 0 0 0 0 59 [some (.ref 0), none, none, none, some (.ref (go R t))] [] w1 (I, D, RR R) Q := by
  refine q_aload_n d119_59 rfl ?_
  refine q_getR (x := 107) d119_60 (fs9_46 119 rfl) rfl (lt_w1 rfl) sh0 (rs0_0 R) (by decide) ?_
  refine q_getR (x := 220) d119_63 (fs9_385 119 rfl) rfl (lt_w1 rfl) sh107 (rs107_4 R) (by decide) ?_
  refine q_iconst (v := 1) (by decide) d119_66 ?_
  refine q_aaload (c := 4) (a := 1) (x := 222) d119_67 (lt_w1 rfl) sh220 (by decide) rfl (by decide) (rm220 (k := 1) R (by decide)) (by decide) ?_
  refine q_aload d119_68 rfl ?_
  refine q_getI d119_70 (fs9_242 119 rfl) rfl (isG_lt hg) (isG_sh hg) ?_
  refine r_int (y := (nI o)) (show I (go R t) 1 = (nI o) from ho1) ?_
  refine q_iaload (a := o) d119_73 (lt_w1 rfl) sh222 rfl (by omega) ?_
  exact q_iret d119_74 rfl (Nat.le_refl _) (Nat.le_refl _) v1

set_option maxRecDepth 10000 in
set_option maxHeartbeats 4000000 in
theorem u122a {d : Nat} {I : Nat → Nat → Int32} {D : Nat → Nat → UInt64} {R : Nat → Nat → Option Nat} {Q : j_Po} {t : Nat}  {AP : (Nat → Nat → Int32) → (Nat → Nat → UInt64) → Prop} (hA : ∀ (Q : j_Po), (∀ J E, AP J E → Q none w1 (J, E, RR R)) → j_Call (d - 1) 34 [.ref 107] w1 (I, D, RR R) 0 0 Q) (hd : 1 ≤ d)
    (v1 : ∀ J1 : Nat → Nat → Int32, ∀ E2 : Nat → Nat → UInt64, (AP J1 E2) → j_W 122 d 0 0 0 0 7 [some (.ref 0), some (.int (nI t))] [] w1 (J1, E2, RR R) Q) : j_Call d 122 [.ref 0, .int (nI t)] w1 (I, D, RR R) 0 0 Q := by
  refine q_enter (L := [some (.ref 0), some (.int (nI t))]) j_m122 (Nat.le_of_ble_eq_true rfl) rfl ?_
  refine q_aload_n d122_0 rfl ?_
  refine q_getR (x := 107) d122_1 (fs9_46 122 rfl) rfl (lt_w1 rfl) sh0 (rs0_0 R) (by decide) ?_
  refine q_invV (o := 107) (ci := 8) (av := []) (rest := []) (d' := (d - 1)) (mc' := 0) (ms' := 0) d122_4 (cv9_138 122 rfl) rfl (by decide) rfl rfl (by omega) (Nat.le_of_ble_eq_true rfl) (Nat.le_of_ble_eq_true rfl) (lt_w1 rfl) sh107 (Nat.le_refl _) (Nat.le_refl _) ?_
  refine hA _  (fun J1 E2 h3 => ?_)
  show j_W 122 d 0 0 0 0 7 [some (.ref 0), some (.int (nI t))] [] w1 (J1, E2, RR R) Q
  exact r_sub (L' := [some (.ref 0), some (.int (nI t))]) ⟨rfl, rfl, trivial⟩ (v1 J1 E2 h3)

set_option maxRecDepth 10000 in
set_option maxHeartbeats 4000000 in
theorem u122b {d : Nat} {I : Nat → Nat → Int32} {D : Nat → Nat → UInt64} {R : Nat → Nat → Option Nat} {Q : j_Po} {t : Nat}  {AP : (Nat → Nat → Int32) → (Nat → Nat → UInt64) → Prop} (hA : ∀ (Q : j_Po), (∀ J E, AP J E → Q none w1 (J, E, RR R)) → j_Call (d - 1) 41 [.ref 107, .int 0, .int (nI t)] w1 (I, D, RR R) 0 0 Q) (hd : 1 ≤ d)
    (v1 : ∀ J1 : Nat → Nat → Int32, ∀ E2 : Nat → Nat → UInt64, (AP J1 E2) → j_W 122 d 0 0 0 0 16 [some (.ref 0), some (.int (nI t))] [] w1 (J1, E2, RR R) Q) : j_W 122 d 0 0 0 0 7 [some (.ref 0), some (.int (nI t))] [] w1 (I, D, RR R) Q := by
  refine q_aload_n d122_7 rfl ?_
  refine q_getR (x := 107) d122_8 (fs9_46 122 rfl) rfl (lt_w1 rfl) sh0 (rs0_0 R) (by decide) ?_
  refine q_iconst (v := 0) (by decide) d122_11 ?_
  refine q_iload_n d122_12 rfl ?_
  refine q_invVN (o := 107) (ci := 8) (av := [.int 0, .int (nI t)]) (rest := []) (d' := (d - 1)) (mc' := 0) (ms' := 0) d122_13 (nv9_389 122 rfl) rfl (by decide) rfl rfl (by omega) (Nat.le_of_ble_eq_true rfl) (Nat.le_of_ble_eq_true rfl) (lt_w1 rfl) sh107 (Nat.le_refl _) (Nat.le_refl _) ?_
  refine hA _  (fun J1 E2 h3 => ?_)
  show j_W 122 d 0 0 0 0 16 [some (.ref 0), some (.int (nI t))] [] w1 (J1, E2, RR R) Q
  exact r_sub (L' := [some (.ref 0), some (.int (nI t))]) ⟨rfl, rfl, trivial⟩ (v1 J1 E2 h3)

set_option maxRecDepth 10000 in
set_option maxHeartbeats 4000000 in
theorem u122c {d : Nat} {I : Nat → Nat → Int32} {D : Nat → Nat → UInt64} {R : Nat → Nat → Option Nat} {Q : j_Po} {t : Nat}  (ht : t < 6) (hd : 1 ≤ d)
    (v1 : Q (some (.ref (230 + 3 * t))) w1 (I, D, RR R)) : j_W 122 d 0 0 0 0 16 [some (.ref 0), some (.int (nI t))] [] w1 (I, D, RR R) Q := by
  refine q_aload_n d122_16 rfl ?_
  refine q_getR (x := 107) d122_17 (fs9_46 122 rfl) rfl (lt_w1 rfl) sh0 (rs0_0 R) (by decide) ?_
  refine q_getR (x := 211) d122_20 (fs9_392 122 rfl) rfl (lt_w1 rfl) sh107 (rs107_2 R) (by decide) ?_
  refine q_iload_n d122_23 rfl ?_
  refine q_aaload (c := 9) (a := t) (x := (230 + 3 * t)) d122_24 (lt_w1 rfl) sh211 (by decide) rfl (by omega) (rl211 R (by omega)) (lt1000 (isTl_lt (isTl_k _ (by omega)))) ?_
  exact q_aret d122_25 rfl (lt1000 (isTl_lt (isTl_k _ (by omega)))) (Nat.le_refl _) (Nat.le_refl _) v1

set_option maxRecDepth 10000 in
set_option maxHeartbeats 4000000 in
theorem u53 {d : Nat} {I : Nat → Nat → Int32} {D : Nat → Nat → UInt64} {R : Nat → Nat → Option Nat} {Q : j_Po} {w : Nat}   (hd : 0 ≤ d)
    (v1 : Q (some (.int ((nI w) / 32))) w1 (I, D, RR R)) : j_Call d 53 [.int (nI w)] w1 (I, D, RR R) 0 0 Q := by
  refine q_enter (L := [some (.int (nI w))]) j_m53 (Nat.le_of_ble_eq_true rfl) rfl ?_
  refine q_iload_n d53_0 rfl ?_
  refine q_bipush (v := 32) (by decide) d53_1 ?_
  refine q_idiv (by decide) d53_3 ?_
  exact q_iret d53_4 rfl (Nat.le_refl _) (Nat.le_refl _) v1

set_option maxRecDepth 10000 in
set_option maxHeartbeats 4000000 in
theorem u54 {d : Nat} {I : Nat → Nat → Int32} {D : Nat → Nat → UInt64} {R : Nat → Nat → Option Nat} {Q : j_Po} {w : Nat}   (hd : 0 ≤ d)
    (v1 : (¬ (nI w) = 0) → Q (some (.int ((nI w) - (nI w) / 32 * 32))) w1 (I, D, RR R))
    (v2 : ((nI w) = 0) → Q (some (.int (-1))) w1 (I, D, RR R)) : j_Call d 54 [.int (nI w)] w1 (I, D, RR R) 0 0 Q := by
  refine q_enter (L := [some (.int (nI w))]) j_m54 (Nat.le_of_ble_eq_true rfl) rfl ?_
  refine q_iload_n d54_0 rfl ?_
  refine q_if_ne (tgt := 8) d54_1 rfl (fun h1t => ?_) (fun h1f => ?_)
  ·
    refine q_iload_n d54_8 rfl ?_
    refine q_bipush (v := 32) (by decide) d54_9 ?_
    refine q_irem (by decide) d54_11 ?_
    exact q_iret d54_12 rfl (Nat.le_refl _) (Nat.le_refl _) (v1 h1t)
  ·
    refine q_iconst (v := (-1)) (by decide) d54_4 ?_
    refine q_goto (tgt := 12) d54_5 rfl ?_
    exact q_iret d54_12 rfl (Nat.le_refl _) (Nat.le_refl _) (v2 h1f)

set_option maxRecDepth 10000 in
set_option maxHeartbeats 4000000 in
theorem u189 {d : Nat} {I : Nat → Nat → Int32} {D : Nat → Nat → UInt64} {R : Nat → Nat → Option Nat} {Q : j_Po} {c : Nat}   (hd : 1 ≤ d)
    (v1 : j_W 189 d 0 0 0 0 10 [some (.ref 260), some (.int (nI c))] [] w1 ((j_u (j_u I 260 18 0) 260 26 0), D, RR R) Q) : j_Call d 189 [.ref 260, .int (nI c)] w1 (I, D, RR R) 0 0 Q := by
  refine q_enter (L := [some (.ref 260), some (.int (nI c))]) j_m189 (Nat.le_of_ble_eq_true rfl) rfl ?_
  refine q_aload_n d189_0 rfl ?_
  refine q_iconst (v := 0) (by decide) d189_1 ?_
  refine q_putI d189_2 (fs10_247 189 rfl) (Or.inl rfl) rfl (lt_w1 rfl) sh260 ?_
  refine q_aload_n d189_5 rfl ?_
  refine q_iconst (v := 0) (by decide) d189_6 ?_
  refine q_putI d189_7 (fs10_243 189 rfl) (Or.inl rfl) rfl (lt_w1 rfl) sh260 ?_
  exact r_sub (L' := [some (.ref 260), some (.int (nI c))]) ⟨rfl, rfl, trivial⟩ v1

set_option maxRecDepth 10000 in
set_option maxHeartbeats 4000000 in
theorem u189b {d : Nat} {I : Nat → Nat → Int32} {D : Nat → Nat → UInt64} {R : Nat → Nat → Option Nat} {Q : j_Po} {c : Nat}  {AP : (Nat → Nat → Int32) → (Nat → Nat → UInt64) → Prop} (hA : ∀ (Q : j_Po), (∀ J E, AP J E → Q none w1 (J, E, RR R)) → j_Call (d - 1) 190 [.ref 260] w1 (I, D, RR R) 0 0 Q) (hd : 1 ≤ d)
    (v1 : ∀ J1 : Nat → Nat → Int32, ∀ E2 : Nat → Nat → UInt64, (AP J1 E2) → j_W 189 d 0 0 0 0 14 [some (.ref 260), some (.int (nI c))] [] w1 (J1, E2, RR R) Q) : j_W 189 d 0 0 0 0 10 [some (.ref 260), some (.int (nI c))] [] w1 (I, D, RR R) Q := by
  refine q_aload_n d189_10 rfl ?_
  refine q_invV (o := 260) (ci := 10) (av := []) (rest := []) (d' := (d - 1)) (mc' := 0) (ms' := 0) d189_11 (cv10_279 189 rfl) rfl (by decide) rfl rfl (by omega) (Nat.le_of_ble_eq_true rfl) (Nat.le_of_ble_eq_true rfl) (lt_w1 rfl) sh260 (Nat.le_refl _) (Nat.le_refl _) ?_
  refine hA _  (fun J1 E2 h3 => ?_)
  show j_W 189 d 0 0 0 0 14 [some (.ref 260), some (.int (nI c))] [] w1 (J1, E2, RR R) Q
  exact r_sub (L' := [some (.ref 260), some (.int (nI c))]) ⟨rfl, rfl, trivial⟩ (v1 J1 E2 h3)

set_option maxRecDepth 10000 in
set_option maxHeartbeats 4000000 in
theorem u189c {d : Nat} {I : Nat → Nat → Int32} {D : Nat → Nat → UInt64} {R : Nat → Nat → Option Nat} {Q : j_Po} {c : Nat}  {AP : (Nat → Nat → Int32) → (Nat → Nat → UInt64) → Prop} (hA : ∀ (Q : j_Po), (∀ J E, AP J E → Q none w1 (J, E, RR R)) → j_Call (d - 1) 191 [.ref 260, .int (nI c)] w1 (I, D, RR R) 0 0 Q) (hd : 1 ≤ d)
    (v1 : ∀ J1 : Nat → Nat → Int32, ∀ E2 : Nat → Nat → UInt64, (AP J1 E2) → Q none w1 (J1, E2, RR R)) : j_W 189 d 0 0 0 0 14 [some (.ref 260), some (.int (nI c))] [] w1 (I, D, RR R) Q := by
  refine q_aload_n d189_14 rfl ?_
  refine q_iload_n d189_15 rfl ?_
  refine q_invV (o := 260) (ci := 10) (av := [.int (nI c)]) (rest := []) (d' := (d - 1)) (mc' := 0) (ms' := 0) d189_16 (cv10_258 189 rfl) rfl (by decide) rfl rfl (by omega) (Nat.le_of_ble_eq_true rfl) (Nat.le_of_ble_eq_true rfl) (lt_w1 rfl) sh260 (Nat.le_refl _) (Nat.le_refl _) ?_
  refine hA _  (fun J1 E2 h3 => ?_)
  show j_W 189 d 0 0 0 0 19 [some (.ref 260), some (.int (nI c))] [] w1 (J1, E2, RR R) Q
  exact q_ret d189_19 rfl (Nat.le_refl _) (Nat.le_refl _) (v1 J1 E2 h3)

set_option maxRecDepth 10000 in
set_option maxHeartbeats 4000000 in
theorem u257 {d : Nat} {I : Nat → Nat → Int32} {D : Nat → Nat → UInt64} {R : Nat → Nat → Option Nat} {Q : j_Po} {t : Nat} {i : Nat} {j : Nat}   (hd : 1 ≤ d)
    (v1 : j_W 257 d 0 0 0 0 10 [some (.ref 260), some (.int (nI t)), some (.int (nI i)), some (.int (nI j))] [] w1 ((j_u (j_u I 260 18 0) 260 26 0), D, RR R) Q) : j_Call d 257 [.ref 260, .int (nI t), .int (nI i), .int (nI j)] w1 (I, D, RR R) 0 0 Q := by
  refine q_enter (L := [some (.ref 260), some (.int (nI t)), some (.int (nI i)), some (.int (nI j))]) j_m257 (Nat.le_of_ble_eq_true rfl) rfl ?_
  refine q_aload_n d257_0 rfl ?_
  refine q_iconst (v := 0) (by decide) d257_1 ?_
  refine q_putI d257_2 (fs10_247 257 rfl) (Or.inl rfl) rfl (lt_w1 rfl) sh260 ?_
  refine q_aload_n d257_5 rfl ?_
  refine q_iconst (v := 0) (by decide) d257_6 ?_
  refine q_putI d257_7 (fs10_243 257 rfl) (Or.inl rfl) rfl (lt_w1 rfl) sh260 ?_
  exact r_sub (L' := [some (.ref 260), some (.int (nI t)), some (.int (nI i)), some (.int (nI j))]) ⟨rfl, rfl, rfl, rfl, trivial⟩ v1

set_option maxRecDepth 10000 in
set_option maxHeartbeats 4000000 in
theorem u257b {d : Nat} {I : Nat → Nat → Int32} {D : Nat → Nat → UInt64} {R : Nat → Nat → Option Nat} {Q : j_Po} {t : Nat} {i : Nat} {j : Nat}  {AP : (Nat → Nat → Int32) → (Nat → Nat → UInt64) → Prop} (hA : ∀ (Q : j_Po), (∀ J E, AP J E → Q none w1 (J, E, RR R)) → j_Call (d - 1) 195 [.ref 260, .int (nI t), .int (nI i), .int (nI j)] w1 (I, D, RR R) 0 0 Q) (hd : 1 ≤ d)
    (v1 : ∀ J1 : Nat → Nat → Int32, ∀ E2 : Nat → Nat → UInt64, (AP J1 E2) → Q none w1 (J1, E2, RR R)) : j_W 257 d 0 0 0 0 10 [some (.ref 260), some (.int (nI t)), some (.int (nI i)), some (.int (nI j))] [] w1 (I, D, RR R) Q := by
  refine q_aload_n d257_10 rfl ?_
  refine q_iload_n d257_11 rfl ?_
  refine q_iload_n d257_12 rfl ?_
  refine q_iload_n d257_13 rfl ?_
  refine q_invV (o := 260) (ci := 10) (av := [.int (nI t), .int (nI i), .int (nI j)]) (rest := []) (d' := (d - 1)) (mc' := 0) (ms' := 0) d257_14 (cv10_292 257 rfl) rfl (by decide) rfl rfl (by omega) (Nat.le_of_ble_eq_true rfl) (Nat.le_of_ble_eq_true rfl) (lt_w1 rfl) sh260 (Nat.le_refl _) (Nat.le_refl _) ?_
  refine hA _  (fun J1 E2 h3 => ?_)
  show j_W 257 d 0 0 0 0 17 [some (.ref 260), some (.int (nI t)), some (.int (nI i)), some (.int (nI j))] [] w1 (J1, E2, RR R) Q
  exact q_ret d257_17 rfl (Nat.le_refl _) (Nat.le_refl _) (v1 J1 E2 h3)

set_option maxRecDepth 10000 in
set_option maxHeartbeats 4000000 in
theorem u206a {d : Nat} {I : Nat → Nat → Int32} {D : Nat → Nat → UInt64} {R : Nat → Nat → Option Nat} {Q : j_Po} {c : Nat} {x : UInt64} {o : Nat}  (hc : c < 24) (hd : 1 ≤ d)
    (v1 : j_W 206 d 0 0 0 0 30 [some (.ref 260), some (.int (nI c)), none, none, some (.int (nI o)), some (.double (D 263 c)), none, some (.int (I 262 c)), none, none] [] w1 ((j_u I 262 c 1), (j_u D 263 c x), RR R) Q) : j_Call d 206 [.ref 260, .int (nI c), .double x, .int (nI o)] w1 (I, D, RR R) 0 0 Q := by
  refine q_enter (L := [some (.ref 260), some (.int (nI c)), some (.double x), none, some (.int (nI o)), none, none, none, none, none]) j_m206 (Nat.le_of_ble_eq_true rfl) rfl ?_
  refine q_aload_n d206_0 rfl ?_
  refine q_getR (x := 263) d206_1 (fs10_17 206 rfl) rfl (lt_w1 rfl) sh260 (rs260_2 R) (by decide) ?_
  refine q_iload_n d206_4 rfl ?_
  refine q_daload (a := c) d206_5 (lt_w1 rfl) sh263 rfl (by omega) ?_
  refine q_dstore (L' := [some (.ref 260), some (.int (nI c)), some (.double x), none, some (.int (nI o)), some (.double (D 263 c)), none, none, none, none]) d206_6 (Nat.le_of_ble_eq_true rfl) rfl ?_
  refine q_aload_n d206_8 rfl ?_
  refine q_getR (x := 262) d206_9 (fs10_13 206 rfl) rfl (lt_w1 rfl) sh260 (rs260_1 R) (by decide) ?_
  refine q_iload_n d206_12 rfl ?_
  refine q_zaload (a := c) d206_13 (lt_w1 rfl) sh262 rfl (by omega) ?_
  refine q_istore (L' := [some (.ref 260), some (.int (nI c)), some (.double x), none, some (.int (nI o)), some (.double (D 263 c)), none, some (.int (I 262 c)), none, none]) d206_14 (Nat.le_of_ble_eq_true rfl) rfl ?_
  refine q_aload_n d206_16 rfl ?_
  refine q_getR (x := 263) d206_17 (fs10_17 206 rfl) rfl (lt_w1 rfl) sh260 (rs260_2 R) (by decide) ?_
  refine q_iload_n d206_20 rfl ?_
  refine q_dload_n d206_21 rfl ?_
  refine q_dastore (a := c) d206_22 (lt_w1 rfl) sh263 rfl (by omega) ?_
  refine q_aload_n d206_23 rfl ?_
  refine q_getR (x := 262) d206_24 (fs10_13 206 rfl) rfl (lt_w1 rfl) sh260 (rs260_1 R) (by decide) ?_
  refine q_iload_n d206_27 rfl ?_
  refine q_iconst (v := 1) (by decide) d206_28 ?_
  refine q_zastore (a := c) d206_29 (Or.inr rfl) (lt_w1 rfl) sh262 rfl (by omega) ?_
  exact r_sub (L' := [some (.ref 260), some (.int (nI c)), none, none, some (.int (nI o)), some (.double (D 263 c)), none, some (.int (I 262 c)), none, none]) ⟨rfl, rfl, rfl, rfl, rfl, trivial⟩ v1

