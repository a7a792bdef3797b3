/-! the class reads parts -/
def CRt (T : Nat → Nat) (n : Nat) (R : Nat → Nat → Option Nat) (D : Nat → Nat → UInt64) (I0 : Nat → Nat → Int32) (i c dd dep : Nat) (av : List Value) : Prop := ∀ (d : Nat) (I : Nat → Nat → Int32) (s : PSt) (Q : j_Po), dd ≤ d → okP n s → pz s ≤ pb s → tkK (ptk s) → RC T n (fm R) I0 I s → (ptk s).1 = c → (∀ J o, PP T n 0 dep 0 0 s o → RCo T n (fm R) I0 J o → Q none w1 (J, D, RR R)) → j_Call d i av w1 (I, D, RR R) 0 0 Q
set_option maxRecDepth 10000 in
set_option maxHeartbeats 4000000 in
theorem s93e {d : Nat} {I : Nat → Nat → Int32} {D : Nat → Nat → UInt64} {R : Nat → Nat → Option Nat} {Q : j_Po} {p : Nat} {q : Nat} {T : Nat → Nat} {n : Nat} {I0 : Nat → Nat → Int32} {s : PSt} {t : Nat} (hR : WFR R) (h5 : I 97 5 = nI t) (ht : t < 300) (hp : p ≤ 4) (hd : (6 + 6 * (4 - p)) ≤ d)
    (v1 : (4 ≤ p) → okP n s)
    (v2 : (4 ≤ p) → pz s ≤ 96)
    (v3 : (4 ≤ p) → RC T n (fm R) I0 I s)
    (v4 : (4 ≤ p) → ∀ J2 : Nat → Nat → Int32, (RCf T n (fm R) I0 J2 (pb s)) → Q none w1 (J2, D, RR R))
    (v5 : (¬ 4 ≤ p) → (t = 40) → j_W 93 d 0 0 0 0 19 [some (.ref 97), some (.int (nI p)), some (.int (nI q)), none] [] w1 (I, D, RR R) Q)
    (v6 : (¬ 4 ≤ p) → (¬ t = 40) → okP n s)
    (v7 : (¬ 4 ≤ p) → (¬ t = 40) → pz s ≤ 96)
    (v8 : (¬ 4 ≤ p) → (¬ t = 40) → RC T n (fm R) I0 I s)
    (v9 : (¬ 4 ≤ p) → (¬ t = 40) → ∀ J5 : Nat → Nat → Int32, (RCf T n (fm R) I0 J5 (pb s)) → Q none w1 (J5, D, RR R)) : j_Call d 93 [.ref 97, .int (nI p), .int (nI q)] w1 (I, D, RR R) 0 0 Q := by
  refine q_enter (L := [some (.ref 97), some (.int (nI p)), some (.int (nI q)), none]) j_m93 (Nat.le_of_ble_eq_true rfl) rfl ?_
  refine q_iload_n d93_0 rfl ?_
  refine q_iconst (v := 4) (by decide) d93_1 ?_
  refine q_icmp_ge (tgt := 14) d93_2 rfl (fun h1t => ?_) (fun h1f => ?_)
  ·
    have h1tc : 4 ≤ p := (nI_leI (by omega) (by omega)).mp h1t
    refine q_aload_n d93_14 rfl ?_
    refine q_invV (o := 97) (ci := 5) (av := []) (rest := []) (d' := 0) (mc' := 0) (ms' := 0) d93_15 (cv5_45 93 rfl) rfl (by decide) rfl rfl (by omega) (Nat.le_of_ble_eq_true rfl) (Nat.le_of_ble_eq_true rfl) (lt_w1 rfl) sh97 (Nat.le_refl _) (Nat.le_refl _) ?_
    refine rc_stop (T := T) (n := n) (o := fm R) (I0 := I0) (s := s) (v1 h1tc) (v2 h1tc) (v3 h1tc) (fun J2 h3 => ?_)
    show j_W 93 d 0 0 0 0 18 [some (.ref 97), some (.int (nI p)), some (.int (nI q)), none] [] w1 (J2, D, RR R) Q
    exact q_ret d93_18 rfl (Nat.le_refl _) (Nat.le_refl _) (v4 h1tc J2 h3)
  ·
    have h1fc : ¬ 4 ≤ p := mt (nI_leI (by omega) (by omega)).mpr h1f
    refine q_aload_n d93_5 rfl ?_
    refine q_getI d93_6 (fs5_42 93 rfl) rfl (lt_w1 rfl) sh97 ?_
    refine r_int (y := (nI t)) (show I 97 5 = (nI t) from h5) ?_
    refine q_bipush (v := 40) (by decide) d93_9 ?_
    refine q_icmp_eq (tgt := 19) d93_11 rfl (fun h4t => ?_) (fun h4f => ?_)
    ·
      have h4tc : t = 40 := (nI_eqN (by omega) (by omega)).mp h4t
      exact r_sub (L' := [some (.ref 97), some (.int (nI p)), some (.int (nI q)), none]) ⟨rfl, rfl, rfl, trivial⟩ (v5 h1fc h4tc)
    ·
      have h4fc : ¬ t = 40 := mt (nI_eqN (by omega) (by omega)).mpr h4f
      refine q_aload_n d93_14 rfl ?_
      refine q_invV (o := 97) (ci := 5) (av := []) (rest := []) (d' := 0) (mc' := 0) (ms' := 0) d93_15 (cv5_45 93 rfl) rfl (by decide) rfl rfl (by omega) (Nat.le_of_ble_eq_true rfl) (Nat.le_of_ble_eq_true rfl) (lt_w1 rfl) sh97 (Nat.le_refl _) (Nat.le_refl _) ?_
      refine rc_stop (T := T) (n := n) (o := fm R) (I0 := I0) (s := s) (v6 h1fc h4fc) (v7 h1fc h4fc) (v8 h1fc h4fc) (fun J5 h6 => ?_)
      show j_W 93 d 0 0 0 0 18 [some (.ref 97), some (.int (nI p)), some (.int (nI q)), none] [] w1 (J5, D, RR R) Q
      exact q_ret d93_18 rfl (Nat.le_refl _) (Nat.le_refl _) (v9 h1fc h4fc J5 h6)

set_option maxRecDepth 10000 in
set_option maxHeartbeats 4000000 in
theorem s93i {d : Nat} {I : Nat → Nat → Int32} {D : Nat → Nat → UInt64} {R : Nat → Nat → Option Nat} {Q : j_Po} {p : Nat} {q : Nat} (hR : WFR R) (hd : 0 ≤ d)
    (v1 : j_W 93 d 0 0 0 0 21 [some (.ref 97), some (.int (nI p)), some (.int (nI q)), some (.int 0)] [] w1 (I, D, RR R) Q) : j_W 93 d 0 0 0 0 19 [some (.ref 97), some (.int (nI p)), some (.int (nI q)), none] [] w1 (I, D, RR R) Q := by
  refine q_iconst (v := 0) (by decide) d93_19 ?_
  refine q_istore_n (L' := [some (.ref 97), some (.int (nI p)), some (.int (nI q)), some (.int 0)]) d93_20 (Nat.le_of_ble_eq_true rfl) rfl ?_
  exact r_sub (L' := [some (.ref 97), some (.int (nI p)), some (.int (nI q)), some (.int 0)]) ⟨rfl, rfl, rfl, rfl, trivial⟩ v1

set_option maxRecDepth 10000 in
set_option maxHeartbeats 4000000 in
theorem s93g {d : Nat} {I : Nat → Nat → Int32} {D : Nat → Nat → UInt64} {R : Nat → Nat → Option Nat} {Q : j_Po} {p : Nat} {q : Nat} {j : Nat} (hR : WFR R) (h7 : I 97 7 = -1) (hq3 : q ≤ 3) (hj : j ≤ q) (hd : 0 ≤ d)
    (v1 : (q ≤ j) → j_W 93 d 0 0 0 0 84 [some (.ref 97), some (.int (nI p)), some (.int (nI q)), some (.int (nI j))] [] w1 (I, D, RR R) Q)
    (v2 : (¬ q ≤ j) → (¬ (I 97 7) = (-1)) → j_W 93 d 0 0 0 0 84 [some (.ref 97), some (.int (nI p)), some (.int (nI q)), some (.int (nI j))] [] w1 (I, D, RR R) Q)
    (v3 : (¬ q ≤ j) → ((I 97 7) = (-1)) → j_W 93 d 0 0 0 0 34 [some (.ref 97), some (.int (nI p)), some (.int (nI q)), some (.int (nI j))] [] w1 (I, D, RR R) Q) : j_W 93 d 0 0 0 0 21 [some (.ref 97), some (.int (nI p)), some (.int (nI q)), some (.int (nI j))] [] w1 (I, D, RR R) Q := by
  refine q_iload_n d93_21 rfl ?_
  refine q_iload_n d93_22 rfl ?_
  refine q_icmp_ge (tgt := 84) d93_23 rfl (fun h1t => ?_) (fun h1f => ?_)
  ·
    have h1tc : q ≤ j := (nI_leI (by omega) (by omega)).mp h1t
    exact r_sub (L' := [some (.ref 97), some (.int (nI p)), some (.int (nI q)), some (.int (nI j))]) ⟨rfl, rfl, rfl, rfl, trivial⟩ (v1 h1tc)
  ·
    have h1fc : ¬ q ≤ j := mt (nI_leI (by omega) (by omega)).mpr h1f
    refine q_aload_n d93_26 rfl ?_
    refine q_getI d93_27 (fs5_29 93 rfl) rfl (lt_w1 rfl) sh97 ?_
    refine q_iconst (v := (-1)) (by decide) d93_30 ?_
    refine q_icmp_ne (tgt := 84) d93_31 rfl (fun h2t => ?_) (fun h2f => ?_)
    ·
      exact r_sub (L' := [some (.ref 97), some (.int (nI p)), some (.int (nI q)), some (.int (nI j))]) ⟨rfl, rfl, rfl, rfl, trivial⟩ (v2 h1fc h2t)
    ·
      exact r_sub (L' := [some (.ref 97), some (.int (nI p)), some (.int (nI q)), some (.int (nI j))]) ⟨rfl, rfl, rfl, rfl, trivial⟩ (v3 h1fc h2f)

set_option maxRecDepth 10000 in
set_option maxHeartbeats 4000000 in
theorem s93f {d : Nat} {I : Nat → Nat → Int32} {D : Nat → Nat → UInt64} {R : Nat → Nat → Option Nat} {Q : j_Po} {p : Nat} {q : Nat} {j : Nat} {f : Nat} (hR : WFR R) (hF : I 97 7 = nI f) (hf : f < 97) (hq3 : q ≤ 3) (hj : j ≤ q) (hd : 0 ≤ d)
    (v1 : (q ≤ j) → (¬ (nI f) = (-1)) → Q none w1 (I, D, RR R))
    (v2 : (q ≤ j) → ((nI f) = (-1)) → j_W 93 d 0 0 0 0 92 [some (.ref 97), some (.int (nI p)), some (.int (nI q)), some (.int (nI j))] [] w1 (I, D, RR R) Q)
    (v3 : (¬ q ≤ j) → (¬ (nI f) = (-1)) → Q none w1 (I, D, RR R))
    (v4 : (¬ q ≤ j) → ((nI f) = (-1)) → j_W 93 d 0 0 0 0 34 [some (.ref 97), some (.int (nI p)), some (.int (nI q)), some (.int (nI j))] [] w1 (I, D, RR R) Q) : j_W 93 d 0 0 0 0 21 [some (.ref 97), some (.int (nI p)), some (.int (nI q)), some (.int (nI j))] [] w1 (I, D, RR R) Q := by
  refine q_iload_n d93_21 rfl ?_
  refine q_iload_n d93_22 rfl ?_
  refine q_icmp_ge (tgt := 84) d93_23 rfl (fun h1t => ?_) (fun h1f => ?_)
  ·
    have h1tc : q ≤ j := (nI_leI (by omega) (by omega)).mp h1t
    refine q_aload_n d93_84 rfl ?_
    refine q_getI d93_85 (fs5_29 93 rfl) rfl (lt_w1 rfl) sh97 ?_
    refine r_int (y := (nI f)) (show I 97 7 = (nI f) from hF) ?_
    refine q_iconst (v := (-1)) (by decide) d93_88 ?_
    refine q_icmp_ne (tgt := 96) d93_89 rfl (fun h2t => ?_) (fun h2f => ?_)
    ·
      exact q_ret d93_96 rfl (Nat.le_refl _) (Nat.le_refl _) (v1 h1tc h2t)
    ·
      exact r_sub (L' := [some (.ref 97), some (.int (nI p)), some (.int (nI q)), some (.int (nI j))]) ⟨rfl, rfl, rfl, rfl, trivial⟩ (v2 h1tc h2f)
  ·
    have h1fc : ¬ q ≤ j := mt (nI_leI (by omega) (by omega)).mpr h1f
    refine q_aload_n d93_26 rfl ?_
    refine q_getI d93_27 (fs5_29 93 rfl) rfl (lt_w1 rfl) sh97 ?_
    refine r_int (y := (nI f)) (show I 97 7 = (nI f) from hF) ?_
    refine q_iconst (v := (-1)) (by decide) d93_30 ?_
    refine q_icmp_ne (tgt := 84) d93_31 rfl (fun h3t => ?_) (fun h3f => ?_)
    ·
      refine q_aload_n d93_84 rfl ?_
      refine q_getI d93_85 (fs5_29 93 rfl) rfl (lt_w1 rfl) sh97 ?_
      refine r_int (y := (nI f)) (show I 97 7 = (nI f) from hF) ?_
      refine q_iconst (v := (-1)) (by decide) d93_88 ?_
      refine q_icmp_ne (tgt := 96) d93_89 rfl (fun h4t => ?_) (fun h4f => ?_)
      ·
        exact q_ret d93_96 rfl (Nat.le_refl _) (Nat.le_refl _) (v3 h1fc h3t)
      ·
        exact False.elim (by first | exact absurd h4f h3t | exact absurd h3t h4f | exact (Int32.not_lt.mpr h4f) h3t | exact (Int32.not_lt.mpr h3t) h4f | exact h4f (Int32.not_le.mp h3t) | exact h3t (Int32.not_le.mp h4f) | omega)
    ·
      exact r_sub (L' := [some (.ref 97), some (.int (nI p)), some (.int (nI q)), some (.int (nI j))]) ⟨rfl, rfl, rfl, rfl, trivial⟩ (v4 h1fc h3f)

set_option maxRecDepth 10000 in
set_option maxHeartbeats 4000000 in
theorem s93l {d : Nat} {I : Nat → Nat → Int32} {D : Nat → Nat → UInt64} {R : Nat → Nat → Option Nat} {Q : j_Po} {p : Nat} {q : Nat} {j : Nat} {T : Nat → Nat} {n : Nat} {I0 : Nat → Nat → Int32} {s : PSt} (hR : WFR R) (h7 : I 97 7 = -1) (hd : 7 ≤ d)
    (v1 : (¬ (I 97 7) = (-1)) → Q none w1 (I, D, RR R))
    (v2 : ((I 97 7) = (-1)) → okP n s)
    (v3 : ((I 97 7) = (-1)) → RC T n (fm R) I0 I s)
    (v4 : ((I 97 7) = (-1)) → 6 ≤ 6)
    (v5 : ((I 97 7) = (-1)) → ∀ J2 : Nat → Nat → Int32, ∀ t3 : PSt, (nxP T n s t3) → (okP n t3) → (pe s ≤ pb t3) → (RC T n (fm R) I0 J2 t3) → Q none w1 (J2, D, RR R)) : j_W 93 d 0 0 0 0 84 [some (.ref 97), some (.int (nI p)), some (.int (nI q)), some (.int (nI j))] [] w1 (I, D, RR R) Q := by
  refine q_aload_n d93_84 rfl ?_
  refine q_getI d93_85 (fs5_29 93 rfl) rfl (lt_w1 rfl) sh97 ?_
  refine q_iconst (v := (-1)) (by decide) d93_88 ?_
  refine q_icmp_ne (tgt := 96) d93_89 rfl (fun h1t => ?_) (fun h1f => ?_)
  ·
    exact q_ret d93_96 rfl (Nat.le_refl _) (Nat.le_refl _) (v1 h1t)
  ·
    refine q_aload_n d93_92 rfl ?_
    refine q_invV (o := 97) (ci := 5) (av := []) (rest := []) (d' := 6) (mc' := 0) (ms' := 0) d93_93 (cv5_35 93 rfl) rfl (by decide) rfl rfl (by omega) (Nat.le_of_ble_eq_true rfl) (Nat.le_of_ble_eq_true rfl) (lt_w1 rfl) sh97 (Nat.le_refl _) (Nat.le_refl _) ?_
    refine rc_look (T := T) (n := n) (o := fm R) (I0 := I0) (s := s) hR.2.2.1.2 (v2 h1f) (v3 h1f) (v4 h1f) (fun J2 t3 h4 h5 h6 h7 => ?_)
    show j_W 93 d 0 0 0 0 96 [some (.ref 97), some (.int (nI p)), some (.int (nI q)), some (.int (nI j))] [] w1 (J2, D, RR R) Q
    exact q_ret d93_96 rfl (Nat.le_refl _) (Nat.le_refl _) (v5 h1f J2 t3 h4 h5 h6 h7)

set_option maxRecDepth 10000 in
set_option maxHeartbeats 4000000 in
theorem s93h {d : Nat} {I : Nat → Nat → Int32} {D : Nat → Nat → UInt64} {R : Nat → Nat → Option Nat} {Q : j_Po} {p : Nat} {q : Nat} {j : Nat} {T : Nat → Nat} {n : Nat} {I0 : Nat → Nat → Int32} {s : PSt} (hR : WFR R) (hp : p < 4) (hC : CR T n R D I0 86 5 (5 + 6 * (4 - p)) (p + 1) 0 [.ref 97, .int (nI (p + 1))]) (hd : (6 + 6 * (4 - p)) ≤ d)
    (v1 : okP n s)
    (v2 : RC T n (fm R) I0 I s)
    (v3 : 6 ≤ 6)
    (v4 : ∀ J1 : Nat → Nat → Int32, ∀ t2 : PSt, (nxP T n s t2) → (okP n t2) → (pe s ≤ pb t2) → (RC T n (fm R) I0 J1 t2) → okP n t2)
    (v5 : ∀ J1 : Nat → Nat → Int32, ∀ t2 : PSt, (nxP T n s t2) → (okP n t2) → (pe s ≤ pb t2) → (RC T n (fm R) I0 J1 t2) → pz t2 ≤ pb t2)
    (v6 : ∀ J1 : Nat → Nat → Int32, ∀ t2 : PSt, (nxP T n s t2) → (okP n t2) → (pe s ≤ pb t2) → (RC T n (fm R) I0 J1 t2) → tkK (ptk t2))
    (v7 : ∀ J1 : Nat → Nat → Int32, ∀ t2 : PSt, (nxP T n s t2) → (okP n t2) → (pe s ≤ pb t2) → (RC T n (fm R) I0 J1 t2) → RC T n (fm R) I0 J1 t2)
    (v8 : ∀ J1 : Nat → Nat → Int32, ∀ t2 : PSt, (nxP T n s t2) → (okP n t2) → (pe s ≤ pb t2) → (RC T n (fm R) I0 J1 t2) → ∀ J7 : Nat → Nat → Int32, ∀ o8 : POut, (PP T n 5 (p + 1) 0 0 t2 o8) → (RCo T n (fm R) I0 J7 o8) → j_W 93 d 0 0 0 0 45 [some (.ref 97), some (.int (nI p)), some (.int (nI q)), some (.int (nI j))] [] w1 (J7, D, RR R) Q) : j_W 93 d 0 0 0 0 34 [some (.ref 97), some (.int (nI p)), some (.int (nI q)), some (.int (nI j))] [] w1 (I, D, RR R) Q := by
  refine q_aload_n d93_34 rfl ?_
  refine q_invV (o := 97) (ci := 5) (av := []) (rest := []) (d' := 6) (mc' := 0) (ms' := 0) d93_35 (cv5_35 93 rfl) rfl (by decide) rfl rfl (by omega) (Nat.le_of_ble_eq_true rfl) (Nat.le_of_ble_eq_true rfl) (lt_w1 rfl) sh97 (Nat.le_refl _) (Nat.le_refl _) ?_
  refine rc_look (T := T) (n := n) (o := fm R) (I0 := I0) (s := s) hR.2.2.1.2 v1 v2 v3 (fun J1 t2 h3 h4 h5 h6 => ?_)
  show j_W 93 d 0 0 0 0 38 [some (.ref 97), some (.int (nI p)), some (.int (nI q)), some (.int (nI j))] [] w1 (J1, D, RR R) Q
  refine q_aload_n d93_38 rfl ?_
  refine q_iload_n d93_39 rfl ?_
  refine q_iconst (v := 1) (by decide) d93_40 ?_
  refine q_iadd d93_41 ?_
  refine r_int (y := (nI (p + 1))) (nI_add p 1) ?_
  refine q_invV (o := 97) (ci := 5) (av := [.int (nI (p + 1))]) (rest := []) (d' := (5 + 6 * (4 - p))) (mc' := 0) (ms' := 0) d93_42 (cv5_38 93 rfl) rfl (by decide) rfl rfl (by omega) (Nat.le_of_ble_eq_true rfl) (Nat.le_of_ble_eq_true rfl) (lt_w1 rfl) sh97 (Nat.le_refl _) (Nat.le_refl _) ?_
  refine hC _ _ t2 _ (Nat.le_refl _) (v4 J1 t2 h3 h4 h5 h6) (v5 J1 t2 h3 h4 h5 h6) (v6 J1 t2 h3 h4 h5 h6) (v7 J1 t2 h3 h4 h5 h6) (fun J7 o8 h9 h10 => ?_)
  show j_W 93 d 0 0 0 0 45 [some (.ref 97), some (.int (nI p)), some (.int (nI q)), some (.int (nI j))] [] w1 (J7, D, RR R) Q
  exact r_sub (L' := [some (.ref 97), some (.int (nI p)), some (.int (nI q)), some (.int (nI j))]) ⟨rfl, rfl, rfl, rfl, trivial⟩ (v8 J1 t2 h3 h4 h5 h6 J7 o8 h9 h10)

set_option maxRecDepth 10000 in
set_option maxHeartbeats 4000000 in
theorem s93x {d : Nat} {I : Nat → Nat → Int32} {D : Nat → Nat → UInt64} {R : Nat → Nat → Option Nat} {Q : j_Po} {p : Nat} {q : Nat} {j : Nat} {f : Nat} (hR : WFR R) (hF : I 97 7 = nI f) (hf : f < 97) (hq3 : q ≤ 3) (hj : j < q) (hd : 0 ≤ d)
    (v1 : (¬ (nI f) = (-1)) → j_W 93 d 0 0 0 0 21 [some (.ref 97), some (.int (nI p)), some (.int (nI q)), some (.int (nI (j + 1)))] [] w1 (I, D, RR R) Q)
    (v2 : ((nI f) = (-1)) → j_W 93 d 0 0 0 0 53 [some (.ref 97), some (.int (nI p)), some (.int (nI q)), some (.int (nI j))] [] w1 (I, D, RR R) Q) : j_W 93 d 0 0 0 0 45 [some (.ref 97), some (.int (nI p)), some (.int (nI q)), some (.int (nI j))] [] w1 (I, D, RR R) Q := by
  refine q_aload_n d93_45 rfl ?_
  refine q_getI d93_46 (fs5_29 93 rfl) rfl (lt_w1 rfl) sh97 ?_
  refine r_int (y := (nI f)) (show I 97 7 = (nI f) from hF) ?_
  refine q_iconst (v := (-1)) (by decide) d93_49 ?_
  refine q_icmp_ne (tgt := 78) d93_50 rfl (fun h1t => ?_) (fun h1f => ?_)
  ·
    refine q_iinc (L' := [some (.ref 97), some (.int (nI p)), some (.int (nI q)), some (.int (nI (j + 1)))]) (v := (nI (j + 1))) d93_78 rfl (nI_inc _) rfl ?_
    refine q_goto (tgt := 21) d93_81 rfl ?_
    exact r_sub (L' := [some (.ref 97), some (.int (nI p)), some (.int (nI q)), some (.int (nI (j + 1)))]) ⟨rfl, rfl, rfl, rfl, trivial⟩ (v1 h1t)
  ·
    exact r_sub (L' := [some (.ref 97), some (.int (nI p)), some (.int (nI q)), some (.int (nI j))]) ⟨rfl, rfl, rfl, rfl, trivial⟩ (v2 h1f)

set_option maxRecDepth 10000 in
set_option maxHeartbeats 4000000 in
theorem s93y {d : Nat} {I : Nat → Nat → Int32} {D : Nat → Nat → UInt64} {R : Nat → Nat → Option Nat} {Q : j_Po} {p : Nat} {q : Nat} {j : Nat} {T : Nat → Nat} {n : Nat} {I0 : Nat → Nat → Int32} {s : PSt} {t : Nat} (hR : WFR R) (h7 : I 97 7 = -1) (h5 : I 97 5 = nI t) (ht : t < 300) (hq3 : q ≤ 3) (hj : j < q) (hd : 1 ≤ d)
    (v1 : (¬ (I 97 7) = (-1)) → j_W 93 d 0 0 0 0 21 [some (.ref 97), some (.int (nI p)), some (.int (nI q)), some (.int (nI (j + 1)))] [] w1 (I, D, RR R) Q)
    (v2 : ((I 97 7) = (-1)) → (((nI q) - 1) ≤ (nI j)) → (t = 41) → j_W 93 d 0 0 0 0 21 [some (.ref 97), some (.int (nI p)), some (.int (nI q)), some (.int (nI (j + 1)))] [] w1 (I, D, RR R) Q)
    (v3 : ((I 97 7) = (-1)) → (((nI q) - 1) ≤ (nI j)) → (¬ t = 41) → okP n s)
    (v4 : ((I 97 7) = (-1)) → (((nI q) - 1) ≤ (nI j)) → (¬ t = 41) → pz s ≤ 96)
    (v5 : ((I 97 7) = (-1)) → (((nI q) - 1) ≤ (nI j)) → (¬ t = 41) → RC T n (fm R) I0 I s)
    (v6 : ((I 97 7) = (-1)) → (((nI q) - 1) ≤ (nI j)) → (¬ t = 41) → ∀ J4 : Nat → Nat → Int32, (RCf T n (fm R) I0 J4 (pb s)) → j_W 93 d 0 0 0 0 21 [some (.ref 97), some (.int (nI p)), some (.int (nI q)), some (.int (nI (j + 1)))] [] w1 (J4, D, RR R) Q)
    (v7 : ((I 97 7) = (-1)) → (¬ ((nI q) - 1) ≤ (nI j)) → (t = 44) → j_W 93 d 0 0 0 0 21 [some (.ref 97), some (.int (nI p)), some (.int (nI q)), some (.int (nI (j + 1)))] [] w1 (I, D, RR R) Q)
    (v8 : ((I 97 7) = (-1)) → (¬ ((nI q) - 1) ≤ (nI j)) → (¬ t = 44) → okP n s)
    (v9 : ((I 97 7) = (-1)) → (¬ ((nI q) - 1) ≤ (nI j)) → (¬ t = 44) → pz s ≤ 96)
    (v10 : ((I 97 7) = (-1)) → (¬ ((nI q) - 1) ≤ (nI j)) → (¬ t = 44) → RC T n (fm R) I0 I s)
    (v11 : ((I 97 7) = (-1)) → (¬ ((nI q) - 1) ≤ (nI j)) → (¬ t = 44) → ∀ J7 : Nat → Nat → Int32, (RCf T n (fm R) I0 J7 (pb s)) → j_W 93 d 0 0 0 0 21 [some (.ref 97), some (.int (nI p)), some (.int (nI q)), some (.int (nI (j + 1)))] [] w1 (J7, D, RR R) Q) : j_W 93 d 0 0 0 0 45 [some (.ref 97), some (.int (nI p)), some (.int (nI q)), some (.int (nI j))] [] w1 (I, D, RR R) Q := by
  refine q_aload_n d93_45 rfl ?_
  refine q_getI d93_46 (fs5_29 93 rfl) rfl (lt_w1 rfl) sh97 ?_
  refine q_iconst (v := (-1)) (by decide) d93_49 ?_
  refine q_icmp_ne (tgt := 78) d93_50 rfl (fun h1t => ?_) (fun h1f => ?_)
  ·
    refine q_iinc (L' := [some (.ref 97), some (.int (nI p)), some (.int (nI q)), some (.int (nI (j + 1)))]) (v := (nI (j + 1))) d93_78 rfl (nI_inc _) rfl ?_
    refine q_goto (tgt := 21) d93_81 rfl ?_
    exact r_sub (L' := [some (.ref 97), some (.int (nI p)), some (.int (nI q)), some (.int (nI (j + 1)))]) ⟨rfl, rfl, rfl, rfl, trivial⟩ (v1 h1t)
  ·
    refine q_aload_n d93_53 rfl ?_
    refine q_getI d93_54 (fs5_42 93 rfl) rfl (lt_w1 rfl) sh97 ?_
    refine r_int (y := (nI t)) (show I 97 5 = (nI t) from h5) ?_
    refine q_iload_n d93_57 rfl ?_
    refine q_iload_n d93_58 rfl ?_
    refine q_iconst (v := 1) (by decide) d93_59 ?_
    refine q_isub d93_60 ?_
    refine q_icmp_ge (tgt := 69) d93_61 rfl (fun h2t => ?_) (fun h2f => ?_)
    ·
      refine q_bipush (v := 41) (by decide) d93_69 ?_
      refine q_icmp_eq (tgt := 78) d93_71 rfl (fun h3t => ?_) (fun h3f => ?_)
      ·
        have h3tc : t = 41 := (nI_eqN (by omega) (by omega)).mp h3t
        refine q_iinc (L' := [some (.ref 97), some (.int (nI p)), some (.int (nI q)), some (.int (nI (j + 1)))]) (v := (nI (j + 1))) d93_78 rfl (nI_inc _) rfl ?_
        refine q_goto (tgt := 21) d93_81 rfl ?_
        exact r_sub (L' := [some (.ref 97), some (.int (nI p)), some (.int (nI q)), some (.int (nI (j + 1)))]) ⟨rfl, rfl, rfl, rfl, trivial⟩ (v2 h1f h2t h3tc)
      ·
        have h3fc : ¬ t = 41 := mt (nI_eqN (by omega) (by omega)).mpr h3f
        refine q_aload_n d93_74 rfl ?_
        refine q_invV (o := 97) (ci := 5) (av := []) (rest := []) (d' := 0) (mc' := 0) (ms' := 0) d93_75 (cv5_45 93 rfl) rfl (by decide) rfl rfl (by omega) (Nat.le_of_ble_eq_true rfl) (Nat.le_of_ble_eq_true rfl) (lt_w1 rfl) sh97 (Nat.le_refl _) (Nat.le_refl _) ?_
        refine rc_stop (T := T) (n := n) (o := fm R) (I0 := I0) (s := s) (v3 h1f h2t h3fc) (v4 h1f h2t h3fc) (v5 h1f h2t h3fc) (fun J4 h5 => ?_)
        show j_W 93 d 0 0 0 0 78 [some (.ref 97), some (.int (nI p)), some (.int (nI q)), some (.int (nI j))] [] w1 (J4, D, RR R) Q
        refine q_iinc (L' := [some (.ref 97), some (.int (nI p)), some (.int (nI q)), some (.int (nI (j + 1)))]) (v := (nI (j + 1))) d93_78 rfl (nI_inc _) rfl ?_
        refine q_goto (tgt := 21) d93_81 rfl ?_
        exact r_sub (L' := [some (.ref 97), some (.int (nI p)), some (.int (nI q)), some (.int (nI (j + 1)))]) ⟨rfl, rfl, rfl, rfl, trivial⟩ (v6 h1f h2t h3fc J4 h5)
    ·
      refine q_bipush (v := 44) (by decide) d93_64 ?_
      refine q_goto (tgt := 71) d93_66 rfl ?_
      refine q_icmp_eq (tgt := 78) d93_71 rfl (fun h6t => ?_) (fun h6f => ?_)
      ·
        have h6tc : t = 44 := (nI_eqN (by omega) (by omega)).mp h6t
        refine q_iinc (L' := [some (.ref 97), some (.int (nI p)), some (.int (nI q)), some (.int (nI (j + 1)))]) (v := (nI (j + 1))) d93_78 rfl (nI_inc _) rfl ?_
        refine q_goto (tgt := 21) d93_81 rfl ?_
        exact r_sub (L' := [some (.ref 97), some (.int (nI p)), some (.int (nI q)), some (.int (nI (j + 1)))]) ⟨rfl, rfl, rfl, rfl, trivial⟩ (v7 h1f h2f h6tc)
      ·
        have h6fc : ¬ t = 44 := mt (nI_eqN (by omega) (by omega)).mpr h6f
        refine q_aload_n d93_74 rfl ?_
        refine q_invV (o := 97) (ci := 5) (av := []) (rest := []) (d' := 0) (mc' := 0) (ms' := 0) d93_75 (cv5_45 93 rfl) rfl (by decide) rfl rfl (by omega) (Nat.le_of_ble_eq_true rfl) (Nat.le_of_ble_eq_true rfl) (lt_w1 rfl) sh97 (Nat.le_refl _) (Nat.le_refl _) ?_
        refine rc_stop (T := T) (n := n) (o := fm R) (I0 := I0) (s := s) (v8 h1f h2f h6fc) (v9 h1f h2f h6fc) (v10 h1f h2f h6fc) (fun J7 h8 => ?_)
        show j_W 93 d 0 0 0 0 78 [some (.ref 97), some (.int (nI p)), some (.int (nI q)), some (.int (nI j))] [] w1 (J7, D, RR R) Q
        refine q_iinc (L' := [some (.ref 97), some (.int (nI p)), some (.int (nI q)), some (.int (nI (j + 1)))]) (v := (nI (j + 1))) d93_78 rfl (nI_inc _) rfl ?_
        refine q_goto (tgt := 21) d93_81 rfl ?_
        exact r_sub (L' := [some (.ref 97), some (.int (nI p)), some (.int (nI q)), some (.int (nI (j + 1)))]) ⟨rfl, rfl, rfl, rfl, trivial⟩ (v11 h1f h2f h6fc J7 h8)

set_option maxRecDepth 10000 in
set_option maxHeartbeats 4000000 in
theorem s92a {d : Nat} {I : Nat → Nat → Int32} {D : Nat → Nat → UInt64} {R : Nat → Nat → Option Nat} {Q : j_Po} {p : Nat} {T : Nat → Nat} {n : Nat} {I0 : Nat → Nat → Int32} {s : PSt} {w : Nat} (hR : WFR R) (h6 : I 97 6 = nI w) (hw : w < 13) (hC2 : CR T n R D I0 93 6 (6 + 6 * (4 - p)) p 2 [.ref 97, .int (nI p), .int 2]) (hC3 : CR T n R D I0 93 6 (6 + 6 * (4 - p)) p 3 [.ref 97, .int (nI p), .int 3]) (hd : (7 + 6 * (4 - p)) ≤ d)
    (v1 : okP n s)
    (v2 : RC T n (fm R) I0 I s)
    (v3 : 6 ≤ 6)
    (v4 : ∀ J1 : Nat → Nat → Int32, ∀ t2 : PSt, (nxP T n s t2) → (okP n t2) → (pe s ≤ pb t2) → (RC T n (fm R) I0 J1 t2) → (¬ w = 12) → okP n t2)
    (v5 : ∀ J1 : Nat → Nat → Int32, ∀ t2 : PSt, (nxP T n s t2) → (okP n t2) → (pe s ≤ pb t2) → (RC T n (fm R) I0 J1 t2) → (¬ w = 12) → pz t2 ≤ pb t2)
    (v6 : ∀ J1 : Nat → Nat → Int32, ∀ t2 : PSt, (nxP T n s t2) → (okP n t2) → (pe s ≤ pb t2) → (RC T n (fm R) I0 J1 t2) → (¬ w = 12) → tkK (ptk t2))
    (v7 : ∀ J1 : Nat → Nat → Int32, ∀ t2 : PSt, (nxP T n s t2) → (okP n t2) → (pe s ≤ pb t2) → (RC T n (fm R) I0 J1 t2) → (¬ w = 12) → RC T n (fm R) I0 J1 t2)
    (v8 : ∀ J1 : Nat → Nat → Int32, ∀ t2 : PSt, (nxP T n s t2) → (okP n t2) → (pe s ≤ pb t2) → (RC T n (fm R) I0 J1 t2) → (¬ w = 12) → ∀ J8 : Nat → Nat → Int32, ∀ o9 : POut, (PP T n 6 p 2 0 t2 o9) → (RCo T n (fm R) I0 J8 o9) → j_W 92 d 0 0 0 0 25 [some (.ref 97), some (.int (nI p)), some (.int (nI w))] [] w1 (J8, D, RR R) Q)
    (v9 : ∀ J1 : Nat → Nat → Int32, ∀ t2 : PSt, (nxP T n s t2) → (okP n t2) → (pe s ≤ pb t2) → (RC T n (fm R) I0 J1 t2) → (w = 12) → okP n t2)
    (v10 : ∀ J1 : Nat → Nat → Int32, ∀ t2 : PSt, (nxP T n s t2) → (okP n t2) → (pe s ≤ pb t2) → (RC T n (fm R) I0 J1 t2) → (w = 12) → pz t2 ≤ pb t2)
    (v11 : ∀ J1 : Nat → Nat → Int32, ∀ t2 : PSt, (nxP T n s t2) → (okP n t2) → (pe s ≤ pb t2) → (RC T n (fm R) I0 J1 t2) → (w = 12) → tkK (ptk t2))
    (v12 : ∀ J1 : Nat → Nat → Int32, ∀ t2 : PSt, (nxP T n s t2) → (okP n t2) → (pe s ≤ pb t2) → (RC T n (fm R) I0 J1 t2) → (w = 12) → RC T n (fm R) I0 J1 t2)
    (v13 : ∀ J1 : Nat → Nat → Int32, ∀ t2 : PSt, (nxP T n s t2) → (okP n t2) → (pe s ≤ pb t2) → (RC T n (fm R) I0 J1 t2) → (w = 12) → ∀ J12 : Nat → Nat → Int32, ∀ o13 : POut, (PP T n 6 p 3 0 t2 o13) → (RCo T n (fm R) I0 J12 o13) → j_W 92 d 0 0 0 0 25 [some (.ref 97), some (.int (nI p)), some (.int (nI w))] [] w1 (J12, D, RR R) Q) : j_Call d 92 [.ref 97, .int (nI p)] w1 (I, D, RR R) 0 0 Q := by
  refine q_enter (L := [some (.ref 97), some (.int (nI p)), none]) j_m92 (Nat.le_of_ble_eq_true rfl) rfl ?_
  refine q_aload_n d92_0 rfl ?_
  refine q_getI d92_1 (fs5_68 92 rfl) rfl (lt_w1 rfl) sh97 ?_
  refine r_int (y := (nI w)) (show I 97 6 = (nI w) from h6) ?_
  refine q_istore_n (L' := [some (.ref 97), some (.int (nI p)), some (.int (nI w))]) d92_4 (Nat.le_of_ble_eq_true rfl) rfl ?_
  refine q_aload_n d92_5 rfl ?_
  refine q_invV (o := 97) (ci := 5) (av := []) (rest := []) (d' := 6) (mc' := 0) (ms' := 0) d92_6 (cv5_35 92 rfl) rfl (by decide) rfl rfl (by omega) (Nat.le_of_ble_eq_true rfl) (Nat.le_of_ble_eq_true rfl) (lt_w1 rfl) sh97 (Nat.le_refl _) (Nat.le_refl _) ?_
  refine rc_look (T := T) (n := n) (o := fm R) (I0 := I0) (s := s) hR.2.2.1.2 v1 v2 v3 (fun J1 t2 h3 h4 h5 h6 => ?_)
  show j_W 92 d 0 0 0 0 9 [some (.ref 97), some (.int (nI p)), some (.int (nI w))] [] w1 (J1, D, RR R) Q
  refine q_aload_n d92_9 rfl ?_
  refine q_iload_n d92_10 rfl ?_
  refine q_iload_n d92_11 rfl ?_
  refine q_bipush (v := 12) (by decide) d92_12 ?_
  refine q_icmp_ne (tgt := 21) d92_14 rfl (fun h7t => ?_) (fun h7f => ?_)
  ·
    have h7tc : ¬ w = 12 := mt (nI_eqN (by omega) (by omega)).mpr h7t
    refine q_iconst (v := 2) (by decide) d92_21 ?_
    refine q_invV (o := 97) (ci := 5) (av := [.int (nI p), .int 2]) (rest := []) (d' := (6 + 6 * (4 - p))) (mc' := 0) (ms' := 0) d92_22 (cv5_83 92 rfl) rfl (by decide) rfl rfl (by omega) (Nat.le_of_ble_eq_true rfl) (Nat.le_of_ble_eq_true rfl) (lt_w1 rfl) sh97 (Nat.le_refl _) (Nat.le_refl _) ?_
    refine hC2 _ _ t2 _ (Nat.le_refl _) (v4 J1 t2 h3 h4 h5 h6 h7tc) (v5 J1 t2 h3 h4 h5 h6 h7tc) (v6 J1 t2 h3 h4 h5 h6 h7tc) (v7 J1 t2 h3 h4 h5 h6 h7tc) (fun J8 o9 h10 h11 => ?_)
    show j_W 92 d 0 0 0 0 25 [some (.ref 97), some (.int (nI p)), some (.int (nI w))] [] w1 (J8, D, RR R) Q
    exact r_sub (L' := [some (.ref 97), some (.int (nI p)), some (.int (nI w))]) ⟨rfl, rfl, rfl, trivial⟩ (v8 J1 t2 h3 h4 h5 h6 h7tc J8 o9 h10 h11)
  ·
    have h7fc : w = 12 := (nI_eqN (by omega) (by omega)).mp h7f
    refine q_iconst (v := 3) (by decide) d92_17 ?_
    refine q_goto (tgt := 22) d92_18 rfl ?_
    refine q_invV (o := 97) (ci := 5) (av := [.int (nI p), .int 3]) (rest := []) (d' := (6 + 6 * (4 - p))) (mc' := 0) (ms' := 0) d92_22 (cv5_83 92 rfl) rfl (by decide) rfl rfl (by omega) (Nat.le_of_ble_eq_true rfl) (Nat.le_of_ble_eq_true rfl) (lt_w1 rfl) sh97 (Nat.le_refl _) (Nat.le_refl _) ?_
    refine hC3 _ _ t2 _ (Nat.le_refl _) (v9 J1 t2 h3 h4 h5 h6 h7fc) (v10 J1 t2 h3 h4 h5 h6 h7fc) (v11 J1 t2 h3 h4 h5 h6 h7fc) (v12 J1 t2 h3 h4 h5 h6 h7fc) (fun J12 o13 h14 h15 => ?_)
    show j_W 92 d 0 0 0 0 25 [some (.ref 97), some (.int (nI p)), some (.int (nI w))] [] w1 (J12, D, RR R) Q
    exact r_sub (L' := [some (.ref 97), some (.int (nI p)), some (.int (nI w))]) ⟨rfl, rfl, rfl, trivial⟩ (v13 J1 t2 h3 h4 h5 h6 h7fc J12 o13 h14 h15)

set_option maxRecDepth 10000 in
set_option maxHeartbeats 4000000 in
theorem s92x {d : Nat} {I : Nat → Nat → Int32} {D : Nat → Nat → UInt64} {R : Nat → Nat → Option Nat} {Q : j_Po} {p : Nat} {T : Nat → Nat} {n : Nat} {I0 : Nat → Nat → Int32} {s : PSt} {w : Nat} (hR : WFR R) (hw : w < 13) (hd : 1 ≤ d)
    (v1 : pz s < 96)
    (v2 : RC T n (fm R) I0 I s)
    (v3 : w ≠ 1)
    (v4 : w < 13)
    (v5 : 0 < 16777216)
    (v6 : ∀ J3 : Nat → Nat → Int32, (RC T n (fm R) I0 J3 (addP s w 0)) → Q none w1 (J3, D, RR R)) : j_W 92 d 0 0 0 0 25 [some (.ref 97), some (.int (nI p)), some (.int (nI w))] [] w1 (I, D, RR R) Q := by
  refine q_aload_n d92_25 rfl ?_
  have g2 := hR.m
  refine q_getR (x := ((R 97 2).getD 0)) d92_26 (fs5_18 92 rfl) rfl (lt_w1 rfl) sh97 ((RR_d rfl).trans g2.1) (lt1000 (isF_lt g2.2)) ?_
  refine q_iload_n d92_29 rfl ?_
  refine q_iconst (v := 0) (by decide) d92_30 ?_
  refine q_invV (o := ((R 97 2).getD 0)) (ci := 2) (av := [.int (nI w), .int 0]) (rest := []) (d' := 0) (mc' := 0) (ms' := 0) d92_31 (cv5_54 92 rfl) rfl (by decide) rfl rfl (by omega) (Nat.le_of_ble_eq_true rfl) (Nat.le_of_ble_eq_true rfl) (isF_lt g2.2) (isF_sh g2.2) (Nat.le_refl _) (Nat.le_refl _) ?_
  refine rc_add (a := w) (w := 0) (T := T) (n := n) (o := fm R) (I0 := I0) (s := s) hR.2.2.1.2 v1 v2 v3 v4 v5 (fun J3 h4 => ?_)
  show j_W 92 d 0 0 0 0 34 [some (.ref 97), some (.int (nI p)), some (.int (nI w))] [] w1 (J3, D, RR R) Q
  exact q_ret d92_34 rfl (Nat.le_refl _) (Nat.le_refl _) (v6 J3 h4)

set_option maxRecDepth 10000 in
set_option maxHeartbeats 4000000 in
theorem s92y {d : Nat} {I : Nat → Nat → Int32} {D : Nat → Nat → UInt64} {R : Nat → Nat → Option Nat} {Q : j_Po} {p : Nat} {T : Nat → Nat} {n : Nat} {I0 : Nat → Nat → Int32} {w f : Nat} (hR : WFR R) (hw : w < 13) (hd : 1 ≤ d)
    (v1 : RCf T n (fm R) I0 I f)
    (v2 : ∀ J3 : Nat → Nat → Int32, (RCf T n (fm R) I0 J3 f) → Q none w1 (J3, D, RR R)) : j_W 92 d 0 0 0 0 25 [some (.ref 97), some (.int (nI p)), some (.int (nI w))] [] w1 (I, D, RR R) Q := by
  refine q_aload_n d92_25 rfl ?_
  have g2 := hR.m
  refine q_getR (x := ((R 97 2).getD 0)) d92_26 (fs5_18 92 rfl) rfl (lt_w1 rfl) sh97 ((RR_d rfl).trans g2.1) (lt1000 (isF_lt g2.2)) ?_
  refine q_iload_n d92_29 rfl ?_
  refine q_iconst (v := 0) (by decide) d92_30 ?_
  refine q_invV (o := ((R 97 2).getD 0)) (ci := 2) (av := [.int (nI w), .int 0]) (rest := []) (d' := 0) (mc' := 0) (ms' := 0) d92_31 (cv5_54 92 rfl) rfl (by decide) rfl rfl (by omega) (Nat.le_of_ble_eq_true rfl) (Nat.le_of_ble_eq_true rfl) (isF_lt g2.2) (isF_sh g2.2) (Nat.le_refl _) (Nat.le_refl _) ?_
  refine rc_addj (T := T) (n := n) (o := fm R) (I0 := I0) (f := f) hR.2.2.1.2 v1 (fun J3 h4 => ?_)
  show j_W 92 d 0 0 0 0 34 [some (.ref 97), some (.int (nI p)), some (.int (nI w))] [] w1 (J3, D, RR R) Q
  exact q_ret d92_34 rfl (Nat.le_refl _) (Nat.le_refl _) (v2 J3 h4)

set_option maxRecDepth 10000 in
set_option maxHeartbeats 4000000 in
theorem s97e {d : Nat} {I : Nat → Nat → Int32} {D : Nat → Nat → UInt64} {R : Nat → Nat → Option Nat} {Q : j_Po} {p : Nat} {T : Nat → Nat} {n : Nat} {I0 : Nat → Nat → Int32} {s : PSt} (hR : WFR R) (hp : p ≤ 4) (hd : 1 ≤ d)
    (v1 : (p < 4) → j_W 97 d 0 0 0 0 10 [some (.ref 97), some (.int (nI p))] [] w1 (I, D, RR R) Q)
    (v2 : (¬ p < 4) → okP n s)
    (v3 : (¬ p < 4) → pz s ≤ 96)
    (v4 : (¬ p < 4) → RC T n (fm R) I0 I s)
    (v5 : (¬ p < 4) → ∀ J2 : Nat → Nat → Int32, (RCf T n (fm R) I0 J2 (pb s)) → Q none w1 (J2, D, RR R)) : j_Call d 97 [.ref 97, .int (nI p)] w1 (I, D, RR R) 0 0 Q := by
  refine q_enter (L := [some (.ref 97), some (.int (nI p))]) j_m97 (Nat.le_of_ble_eq_true rfl) rfl ?_
  refine q_iload_n d97_0 rfl ?_
  refine q_iconst (v := 4) (by decide) d97_1 ?_
  refine q_icmp_lt (tgt := 10) d97_2 rfl (fun h1t => ?_) (fun h1f => ?_)
  ·
    have h1tc : p < 4 := (nI_ltI (by omega) (by omega)).mp h1t
    exact r_sub (L' := [some (.ref 97), some (.int (nI p))]) ⟨rfl, rfl, trivial⟩ (v1 h1tc)
  ·
    have h1fc : ¬ p < 4 := mt (nI_ltI (by omega) (by omega)).mpr h1f
    refine q_aload_n d97_5 rfl ?_
    refine q_invV (o := 97) (ci := 5) (av := []) (rest := []) (d' := 0) (mc' := 0) (ms' := 0) d97_6 (cv5_45 97 rfl) rfl (by decide) rfl rfl (by omega) (Nat.le_of_ble_eq_true rfl) (Nat.le_of_ble_eq_true rfl) (lt_w1 rfl) sh97 (Nat.le_refl _) (Nat.le_refl _) ?_
    refine rc_stop (T := T) (n := n) (o := fm R) (I0 := I0) (s := s) (v2 h1fc) (v3 h1fc) (v4 h1fc) (fun J2 h3 => ?_)
    show j_W 97 d 0 0 0 0 9 [some (.ref 97), some (.int (nI p))] [] w1 (J2, D, RR R) Q
    exact q_ret d97_9 rfl (Nat.le_refl _) (Nat.le_refl _) (v5 h1fc J2 h3)

set_option maxRecDepth 10000 in
set_option maxHeartbeats 4000000 in
theorem s97a {d : Nat} {I : Nat → Nat → Int32} {D : Nat → Nat → UInt64} {R : Nat → Nat → Option Nat} {Q : j_Po} {p : Nat} {T : Nat → Nat} {n : Nat} {I0 : Nat → Nat → Int32} {s : PSt} (hR : WFR R) (hp : p < 4) (hC : CR T n R D I0 89 0 (2 + 6 * (4 - p)) (p + 1) 0 [.ref 97, .int (nI (p + 1))]) (hd : (7 + 6 * (4 - p)) ≤ d)
    (v1 : okP n s)
    (v2 : RC T n (fm R) I0 I s)
    (v3 : 6 ≤ 6)
    (v4 : ∀ J1 : Nat → Nat → Int32, ∀ t2 : PSt, (nxP T n s t2) → (okP n t2) → (pe s ≤ pb t2) → (RC T n (fm R) I0 J1 t2) → okP n t2)
    (v5 : ∀ J1 : Nat → Nat → Int32, ∀ t2 : PSt, (nxP T n s t2) → (okP n t2) → (pe s ≤ pb t2) → (RC T n (fm R) I0 J1 t2) → pz t2 ≤ pb t2)
    (v6 : ∀ J1 : Nat → Nat → Int32, ∀ t2 : PSt, (nxP T n s t2) → (okP n t2) → (pe s ≤ pb t2) → (RC T n (fm R) I0 J1 t2) → tkK (ptk t2))
    (v7 : ∀ J1 : Nat → Nat → Int32, ∀ t2 : PSt, (nxP T n s t2) → (okP n t2) → (pe s ≤ pb t2) → (RC T n (fm R) I0 J1 t2) → RC T n (fm R) I0 J1 t2)
    (v8 : ∀ J1 : Nat → Nat → Int32, ∀ t2 : PSt, (nxP T n s t2) → (okP n t2) → (pe s ≤ pb t2) → (RC T n (fm R) I0 J1 t2) → ∀ J7 : Nat → Nat → Int32, ∀ o8 : POut, (PP T n 0 (p + 1) 0 0 t2 o8) → (RCo T n (fm R) I0 J7 o8) → j_W 97 d 0 0 0 0 21 [some (.ref 97), some (.int (nI p))] [] w1 (J7, D, RR R) Q) : j_W 97 d 0 0 0 0 10 [some (.ref 97), some (.int (nI p))] [] w1 (I, D, RR R) Q := by
  refine q_aload_n d97_10 rfl ?_
  refine q_invV (o := 97) (ci := 5) (av := []) (rest := []) (d' := 6) (mc' := 0) (ms' := 0) d97_11 (cv5_35 97 rfl) rfl (by decide) rfl rfl (by omega) (Nat.le_of_ble_eq_true rfl) (Nat.le_of_ble_eq_true rfl) (lt_w1 rfl) sh97 (Nat.le_refl _) (Nat.le_refl _) ?_
  refine rc_look (T := T) (n := n) (o := fm R) (I0 := I0) (s := s) hR.2.2.1.2 v1 v2 v3 (fun J1 t2 h3 h4 h5 h6 => ?_)
  show j_W 97 d 0 0 0 0 14 [some (.ref 97), some (.int (nI p))] [] w1 (J1, D, RR R) Q
  refine q_aload_n d97_14 rfl ?_
  refine q_iload_n d97_15 rfl ?_
  refine q_iconst (v := 1) (by decide) d97_16 ?_
  refine q_iadd d97_17 ?_
  refine r_int (y := (nI (p + 1))) (nI_add p 1) ?_
  refine q_invV (o := 97) (ci := 5) (av := [.int (nI (p + 1))]) (rest := []) (d' := (2 + 6 * (4 - p))) (mc' := 0) (ms' := 0) d97_18 (cv5_61 97 rfl) rfl (by decide) rfl rfl (by omega) (Nat.le_of_ble_eq_true rfl) (Nat.le_of_ble_eq_true rfl) (lt_w1 rfl) sh97 (Nat.le_refl _) (Nat.le_refl _) ?_
  refine hC _ _ t2 _ (Nat.le_refl _) (v4 J1 t2 h3 h4 h5 h6) (v5 J1 t2 h3 h4 h5 h6) (v6 J1 t2 h3 h4 h5 h6) (v7 J1 t2 h3 h4 h5 h6) (fun J7 o8 h9 h10 => ?_)
  show j_W 97 d 0 0 0 0 21 [some (.ref 97), some (.int (nI p))] [] w1 (J7, D, RR R) Q
  exact r_sub (L' := [some (.ref 97), some (.int (nI p))]) ⟨rfl, rfl, trivial⟩ (v8 J1 t2 h3 h4 h5 h6 J7 o8 h9 h10)

set_option maxRecDepth 10000 in
set_option maxHeartbeats 4000000 in
theorem s97x {d : Nat} {I : Nat → Nat → Int32} {D : Nat → Nat → UInt64} {R : Nat → Nat → Option Nat} {Q : j_Po} {p : Nat} {T : Nat → Nat} {n : Nat} {I0 : Nat → Nat → Int32} {s : PSt} (hR : WFR R) (hd : 1 ≤ d)
    (v1 : pz s < 96)
    (v2 : RC T n (fm R) I0 I s)
    (v3 : 2 ≠ 1)
    (v4 : 2 < 13)
    (v5 : 0 < 16777216)
    (v6 : ∀ J3 : Nat → Nat → Int32, (RC T n (fm R) I0 J3 (addP s 2 0)) → Q none w1 (J3, D, RR R)) : j_W 97 d 0 0 0 0 21 [some (.ref 97), some (.int (nI p))] [] w1 (I, D, RR R) Q := by
  refine q_aload_n d97_21 rfl ?_
  have g2 := hR.m
  refine q_getR (x := ((R 97 2).getD 0)) d97_22 (fs5_18 97 rfl) rfl (lt_w1 rfl) sh97 ((RR_d rfl).trans g2.1) (lt1000 (isF_lt g2.2)) ?_
  refine q_iconst (v := 2) (by decide) d97_25 ?_
  refine q_iconst (v := 0) (by decide) d97_26 ?_
  refine q_invV (o := ((R 97 2).getD 0)) (ci := 2) (av := [.int 2, .int 0]) (rest := []) (d' := 0) (mc' := 0) (ms' := 0) d97_27 (cv5_54 97 rfl) rfl (by decide) rfl rfl (by omega) (Nat.le_of_ble_eq_true rfl) (Nat.le_of_ble_eq_true rfl) (isF_lt g2.2) (isF_sh g2.2) (Nat.le_refl _) (Nat.le_refl _) ?_
  refine rc_add (a := 2) (w := 0) (T := T) (n := n) (o := fm R) (I0 := I0) (s := s) hR.2.2.1.2 v1 v2 v3 v4 v5 (fun J3 h4 => ?_)
  show j_W 97 d 0 0 0 0 30 [some (.ref 97), some (.int (nI p))] [] w1 (J3, D, RR R) Q
  exact q_ret d97_30 rfl (Nat.le_refl _) (Nat.le_refl _) (v6 J3 h4)

set_option maxRecDepth 10000 in
set_option maxHeartbeats 4000000 in
theorem s97y {d : Nat} {I : Nat → Nat → Int32} {D : Nat → Nat → UInt64} {R : Nat → Nat → Option Nat} {Q : j_Po} {p : Nat} {T : Nat → Nat} {n : Nat} {I0 : Nat → Nat → Int32} {f : Nat} (hR : WFR R) (hd : 1 ≤ d)
    (v1 : RCf T n (fm R) I0 I f)
    (v2 : ∀ J3 : Nat → Nat → Int32, (RCf T n (fm R) I0 J3 f) → Q none w1 (J3, D, RR R)) : j_W 97 d 0 0 0 0 21 [some (.ref 97), some (.int (nI p))] [] w1 (I, D, RR R) Q := by
  refine q_aload_n d97_21 rfl ?_
  have g2 := hR.m
  refine q_getR (x := ((R 97 2).getD 0)) d97_22 (fs5_18 97 rfl) rfl (lt_w1 rfl) sh97 ((RR_d rfl).trans g2.1) (lt1000 (isF_lt g2.2)) ?_
  refine q_iconst (v := 2) (by decide) d97_25 ?_
  refine q_iconst (v := 0) (by decide) d97_26 ?_
  refine q_invV (o := ((R 97 2).getD 0)) (ci := 2) (av := [.int 2, .int 0]) (rest := []) (d' := 0) (mc' := 0) (ms' := 0) d97_27 (cv5_54 97 rfl) rfl (by decide) rfl rfl (by omega) (Nat.le_of_ble_eq_true rfl) (Nat.le_of_ble_eq_true rfl) (isF_lt g2.2) (isF_sh g2.2) (Nat.le_refl _) (Nat.le_refl _) ?_
  refine rc_addj (T := T) (n := n) (o := fm R) (I0 := I0) (f := f) hR.2.2.1.2 v1 (fun J3 h4 => ?_)
  show j_W 97 d 0 0 0 0 30 [some (.ref 97), some (.int (nI p))] [] w1 (J3, D, RR R) Q
  exact q_ret d97_30 rfl (Nat.le_refl _) (Nat.le_refl _) (v2 J3 h4)

set_option maxRecDepth 10000 in
set_option maxHeartbeats 4000000 in
theorem s95a {d : Nat} {I : Nat → Nat → Int32} {D : Nat → Nat → UInt64} {R : Nat → Nat → Option Nat} {Q : j_Po}  {T : Nat → Nat} {n : Nat} {I0 : Nat → Nat → Int32} {s : PSt} {w : Nat} (hR : WFR R) (h6 : I 97 6 = nI w) (hw : w < 13) (hd : 7 ≤ d)
    (v1 : okP n s)
    (v2 : RC T n (fm R) I0 I s)
    (v3 : 6 ≤ 6)
    (v4 : ∀ J1 : Nat → Nat → Int32, ∀ t2 : PSt, (nxP T n s t2) → (okP n t2) → (pe s ≤ pb t2) → (RC T n (fm R) I0 J1 t2) → j_W 95 d 0 0 0 0 9 [some (.ref 97), some (.int (nI w)), none] [] w1 (J1, D, RR R) Q) : j_Call d 95 [.ref 97] w1 (I, D, RR R) 0 0 Q := by
  refine q_enter (L := [some (.ref 97), none, none]) j_m95 (Nat.le_of_ble_eq_true rfl) rfl ?_
  refine q_aload_n d95_0 rfl ?_
  refine q_getI d95_1 (fs5_68 95 rfl) rfl (lt_w1 rfl) sh97 ?_
  refine r_int (y := (nI w)) (show I 97 6 = (nI w) from h6) ?_
  refine q_istore_n (L' := [some (.ref 97), some (.int (nI w)), none]) d95_4 (Nat.le_of_ble_eq_true rfl) rfl ?_
  refine q_aload_n d95_5 rfl ?_
  refine q_invV (o := 97) (ci := 5) (av := []) (rest := []) (d' := 6) (mc' := 0) (ms' := 0) d95_6 (cv5_35 95 rfl) rfl (by decide) rfl rfl (by omega) (Nat.le_of_ble_eq_true rfl) (Nat.le_of_ble_eq_true rfl) (lt_w1 rfl) sh97 (Nat.le_refl _) (Nat.le_refl _) ?_
  refine rc_look (T := T) (n := n) (o := fm R) (I0 := I0) (s := s) hR.2.2.1.2 v1 v2 v3 (fun J1 t2 h3 h4 h5 h6 => ?_)
  show j_W 95 d 0 0 0 0 9 [some (.ref 97), some (.int (nI w)), none] [] w1 (J1, D, RR R) Q
  exact r_sub (L' := [some (.ref 97), some (.int (nI w)), none]) ⟨rfl, rfl, trivial⟩ (v4 J1 t2 h3 h4 h5 h6)

set_option maxRecDepth 10000 in
set_option maxHeartbeats 4000000 in
theorem s95b {d : Nat} {I : Nat → Nat → Int32} {D : Nat → Nat → UInt64} {R : Nat → Nat → Option Nat} {Q : j_Po} {T : Nat → Nat} {n : Nat} {I0 : Nat → Nat → Int32} {s : PSt} {w t : Nat} (hR : WFR R) (h5 : I 97 5 = nI t) (ht : t < 300) (hd : 1 ≤ d)
    (v1 : (¬ t = 257) → okP n s)
    (v2 : (¬ t = 257) → pz s ≤ 96)
    (v3 : (¬ t = 257) → RC T n (fm R) I0 I s)
    (v4 : (¬ t = 257) → ∀ J2 : Nat → Nat → Int32, (RCf T n (fm R) I0 J2 (pb s)) → Q none w1 (J2, D, RR R))
    (v5 : (t = 257) → j_W 95 d 0 0 0 0 19 [some (.ref 97), some (.int (nI w)), none] [] w1 (I, D, RR R) Q) : j_W 95 d 0 0 0 0 9 [some (.ref 97), some (.int (nI w)), none] [] w1 (I, D, RR R) Q := by
  refine q_aload_n d95_9 rfl ?_
  refine q_getI d95_10 (fs5_42 95 rfl) rfl (lt_w1 rfl) sh97 ?_
  refine r_int (y := (nI t)) (show I 97 5 = (nI t) from h5) ?_
  refine q_sipush (v := 257) (by decide) d95_13 ?_
  refine q_icmp_ne (tgt := 29) d95_16 rfl (fun h1t => ?_) (fun h1f => ?_)
  ·
    have h1tc : ¬ t = 257 := mt (nI_eqN (by omega) (by omega)).mpr h1t
    refine q_aload_n d95_29 rfl ?_
    refine q_invV (o := 97) (ci := 5) (av := []) (rest := []) (d' := 0) (mc' := 0) (ms' := 0) d95_30 (cv5_45 95 rfl) rfl (by decide) rfl rfl (by omega) (Nat.le_of_ble_eq_true rfl) (Nat.le_of_ble_eq_true rfl) (lt_w1 rfl) sh97 (Nat.le_refl _) (Nat.le_refl _) ?_
    refine rc_stop (T := T) (n := n) (o := fm R) (I0 := I0) (s := s) (v1 h1tc) (v2 h1tc) (v3 h1tc) (fun J2 h3 => ?_)
    show j_W 95 d 0 0 0 0 33 [some (.ref 97), some (.int (nI w)), none] [] w1 (J2, D, RR R) Q
    exact q_ret d95_33 rfl (Nat.le_refl _) (Nat.le_refl _) (v4 h1tc J2 h3)
  ·
    have h1fc : t = 257 := (nI_eqN (by omega) (by omega)).mp h1f
    exact r_sub (L' := [some (.ref 97), some (.int (nI w)), none]) ⟨rfl, rfl, trivial⟩ (v5 h1fc)

set_option maxRecDepth 10000 in
set_option maxHeartbeats 4000000 in
theorem s95c {d : Nat} {I : Nat → Nat → Int32} {D : Nat → Nat → UInt64} {R : Nat → Nat → Option Nat} {Q : j_Po} {T : Nat → Nat} {n : Nat} {I0 : Nat → Nat → Int32} {s : PSt} {w v : Nat} (hR : WFR R) (h6 : I 97 6 = nI v) (hv : v < 10000000) (hw : w ≤ 4) (hd : 1 ≤ d)
    (v1 : (v ≤ 5000) → j_W 95 d 0 0 0 0 34 [some (.ref 97), some (.int (nI w)), none] [] w1 (I, D, RR R) Q)
    (v2 : (¬ v ≤ 5000) → okP n s)
    (v3 : (¬ v ≤ 5000) → pz s ≤ 96)
    (v4 : (¬ v ≤ 5000) → RC T n (fm R) I0 I s)
    (v5 : (¬ v ≤ 5000) → ∀ J2 : Nat → Nat → Int32, (RCf T n (fm R) I0 J2 (pb s)) → Q none w1 (J2, D, RR R)) : j_W 95 d 0 0 0 0 19 [some (.ref 97), some (.int (nI w)), none] [] w1 (I, D, RR R) Q := by
  refine q_aload_n d95_19 rfl ?_
  refine q_getI d95_20 (fs5_68 95 rfl) rfl (lt_w1 rfl) sh97 ?_
  refine r_int (y := (nI v)) (show I 97 6 = (nI v) from h6) ?_
  refine q_sipush (v := 5000) (by decide) d95_23 ?_
  refine q_icmp_le (tgt := 34) d95_26 rfl (fun h1t => ?_) (fun h1f => ?_)
  ·
    have h1tc : v ≤ 5000 := (nI_leI (by omega) (by omega)).mp h1t
    exact r_sub (L' := [some (.ref 97), some (.int (nI w)), none]) ⟨rfl, rfl, trivial⟩ (v1 h1tc)
  ·
    have h1fc : ¬ v ≤ 5000 := mt (nI_leI (by omega) (by omega)).mpr h1f
    refine q_aload_n d95_29 rfl ?_
    refine q_invV (o := 97) (ci := 5) (av := []) (rest := []) (d' := 0) (mc' := 0) (ms' := 0) d95_30 (cv5_45 95 rfl) rfl (by decide) rfl rfl (by omega) (Nat.le_of_ble_eq_true rfl) (Nat.le_of_ble_eq_true rfl) (lt_w1 rfl) sh97 (Nat.le_refl _) (Nat.le_refl _) ?_
    refine rc_stop (T := T) (n := n) (o := fm R) (I0 := I0) (s := s) (v2 h1fc) (v3 h1fc) (v4 h1fc) (fun J2 h3 => ?_)
    show j_W 95 d 0 0 0 0 33 [some (.ref 97), some (.int (nI w)), none] [] w1 (J2, D, RR R) Q
    exact q_ret d95_33 rfl (Nat.le_refl _) (Nat.le_refl _) (v5 h1fc J2 h3)

set_option maxRecDepth 10000 in
set_option maxHeartbeats 4000000 in
theorem s95d {d : Nat} {I : Nat → Nat → Int32} {D : Nat → Nat → UInt64} {R : Nat → Nat → Option Nat} {Q : j_Po} {w v : Nat} (hR : WFR R) (h6 : I 97 6 = nI v) (hv : v ≤ 5000) (hw : w ≤ 4) (hd : 0 ≤ d)
    (v1 : j_W 95 d 0 0 0 0 43 [some (.ref 97), some (.int (nI w)), some (.int ((nI v) / 1000))] [] w1 (I, D, RR R) Q) : j_W 95 d 0 0 0 0 34 [some (.ref 97), some (.int (nI w)), none] [] w1 (I, D, RR R) Q := by
  refine q_aload_n d95_34 rfl ?_
  refine q_getI d95_35 (fs5_68 95 rfl) rfl (lt_w1 rfl) sh97 ?_
  refine r_int (y := (nI v)) (show I 97 6 = (nI v) from h6) ?_
  refine q_sipush (v := 1000) (by decide) d95_38 ?_
  refine q_idiv (by decide) d95_41 ?_
  refine q_istore_n (L' := [some (.ref 97), some (.int (nI w)), some (.int ((nI v) / 1000))]) d95_42 (Nat.le_of_ble_eq_true rfl) rfl ?_
  exact r_sub (L' := [some (.ref 97), some (.int (nI w)), some (.int ((nI v) / 1000))]) ⟨rfl, rfl, rfl, trivial⟩ v1

set_option maxRecDepth 10000 in
set_option maxHeartbeats 4000000 in
theorem s95e {d : Nat} {I : Nat → Nat → Int32} {D : Nat → Nat → UInt64} {R : Nat → Nat → Option Nat} {Q : j_Po} {T : Nat → Nat} {n : Nat} {I0 : Nat → Nat → Int32} {s : PSt} {w u : Nat} (hR : WFR R) (hu : u < 6) (hw : w ≤ 4) (hd : 7 ≤ d)
    (v1 : pz s < 96)
    (v2 : RC T n (fm R) I0 I s)
    (v3 : (13 + w) ≤ 17)
    (v4 : u < 16777216)
    (v5 : ∀ J3 : Nat → Nat → Int32, (RCx T n (fm R) I0 J3 s (13 + w) u) → u < 6)
    (v6 : ∀ J3 : Nat → Nat → Int32, (RCx T n (fm R) I0 J3 s (13 + w) u) → 13 ≤ 13 + w)
    (v7 : ∀ J3 : Nat → Nat → Int32, (RCx T n (fm R) I0 J3 s (13 + w) u) → RCx T n (fm R) I0 J3 s (13 + w) u)
    (v8 : ∀ J3 : Nat → Nat → Int32, (RCx T n (fm R) I0 J3 s (13 + w) u) → ∀ J7 : Nat → Nat → Int32, (RC T n (fm R) I0 J7 (addP s (13 + w) u)) → okP n (addP s (13 + w) u))
    (v9 : ∀ J3 : Nat → Nat → Int32, (RCx T n (fm R) I0 J3 s (13 + w) u) → ∀ J7 : Nat → Nat → Int32, (RC T n (fm R) I0 J7 (addP s (13 + w) u)) → RC T n (fm R) I0 J7 (addP s (13 + w) u))
    (v10 : ∀ J3 : Nat → Nat → Int32, (RCx T n (fm R) I0 J3 s (13 + w) u) → ∀ J7 : Nat → Nat → Int32, (RC T n (fm R) I0 J7 (addP s (13 + w) u)) → 6 ≤ 6)
    (v11 : ∀ J3 : Nat → Nat → Int32, (RCx T n (fm R) I0 J3 s (13 + w) u) → ∀ J7 : Nat → Nat → Int32, (RC T n (fm R) I0 J7 (addP s (13 + w) u)) → ∀ J9 : Nat → Nat → Int32, ∀ t10 : PSt, (nxP T n (addP s (13 + w) u) t10) → (okP n t10) → (pe (addP s (13 + w) u) ≤ pb t10) → (RC T n (fm R) I0 J9 t10) → Q none w1 (J9, D, RR R)) : j_W 95 d 0 0 0 0 43 [some (.ref 97), some (.int (nI w)), some (.int (nI u))] [] w1 (I, D, RR R) Q := by
  refine q_aload_n d95_43 rfl ?_
  have g2 := hR.m
  refine q_getR (x := ((R 97 2).getD 0)) d95_44 (fs5_18 95 rfl) rfl (lt_w1 rfl) sh97 ((RR_d rfl).trans g2.1) (lt1000 (isF_lt g2.2)) ?_
  refine q_bipush (v := 13) (by decide) d95_47 ?_
  refine q_iload_n d95_49 rfl ?_
  refine q_iadd d95_50 ?_
  refine r_int (y := (nI (13 + w))) (nI_add 13 w) ?_
  refine q_iload_n d95_51 rfl ?_
  refine q_invV (o := ((R 97 2).getD 0)) (ci := 2) (av := [.int (nI (13 + w)), .int (nI u)]) (rest := []) (d' := 0) (mc' := 0) (ms' := 0) d95_52 (cv5_54 95 rfl) rfl (by decide) rfl rfl (by omega) (Nat.le_of_ble_eq_true rfl) (Nat.le_of_ble_eq_true rfl) (isF_lt g2.2) (isF_sh g2.2) (Nat.le_refl _) (Nat.le_refl _) ?_
  refine rc_addx (a := (13 + w)) (w := u) (T := T) (n := n) (o := fm R) (I0 := I0) (s := s) hR.2.2.1.2 v1 v2 v3 v4 (fun J3 h4 => ?_)
  show j_W 95 d 0 0 0 0 55 [some (.ref 97), some (.int (nI w)), some (.int (nI u))] [] w1 (J3, D, RR R) Q
  refine q_aload_n d95_55 rfl ?_
  have g6 := hR.m
  refine q_getR (x := ((R 97 2).getD 0)) d95_56 (fs5_18 95 rfl) rfl (lt_w1 rfl) sh97 ((RR_d rfl).trans g6.1) (lt1000 (isF_lt g6.2)) ?_
  refine q_iload_n d95_59 rfl ?_
  refine q_invV (o := ((R 97 2).getD 0)) (ci := 2) (av := [.int (nI u)]) (rest := []) (d' := 0) (mc' := 0) (ms' := 0) d95_60 (cv5_86 95 rfl) rfl (by decide) rfl rfl (by omega) (Nat.le_of_ble_eq_true rfl) (Nat.le_of_ble_eq_true rfl) (isF_lt g6.2) (isF_sh g6.2) (Nat.le_refl _) (Nat.le_refl _) ?_
  refine rc_table (a := 13 + w) (w := u) (T := T) (n := n) (o := fm R) (I0 := I0) (s := s) hR.2.2.1.2 (v5 J3 h4) (v6 J3 h4) (v7 J3 h4) (fun J7 h8 => ?_)
  show j_W 95 d 0 0 0 0 63 [some (.ref 97), some (.int (nI w)), some (.int (nI u))] [] w1 (J7, D, RR R) Q
  refine q_aload_n d95_63 rfl ?_
  refine q_invV (o := 97) (ci := 5) (av := []) (rest := []) (d' := 6) (mc' := 0) (ms' := 0) d95_64 (cv5_35 95 rfl) rfl (by decide) rfl rfl (by omega) (Nat.le_of_ble_eq_true rfl) (Nat.le_of_ble_eq_true rfl) (lt_w1 rfl) sh97 (Nat.le_refl _) (Nat.le_refl _) ?_
  refine rc_look (T := T) (n := n) (o := fm R) (I0 := I0) (s := (addP s (13 + w) u)) hR.2.2.1.2 (v8 J3 h4 J7 h8) (v9 J3 h4 J7 h8) (v10 J3 h4 J7 h8) (fun J9 t10 h11 h12 h13 h14 => ?_)
  show j_W 95 d 0 0 0 0 67 [some (.ref 97), some (.int (nI w)), some (.int (nI u))] [] w1 (J9, D, RR R) Q
  exact q_ret d95_67 rfl (Nat.le_refl _) (Nat.le_refl _) (v11 J3 h4 J7 h8 J9 t10 h11 h12 h13 h14)

set_option maxRecDepth 10000 in
set_option maxHeartbeats 4000000 in
theorem s89c {d : Nat} {I : Nat → Nat → Int32} {D : Nat → Nat → UInt64} {R : Nat → Nat → Option Nat} {Q : j_Po} {p : Nat} {T : Nat → Nat} {n : Nat} {I0 : Nat → Nat → Int32} {s : PSt} (hR : WFR R) (hC : CRt T n R D I0 92 260 (7 + 6 * (4 - p)) p [.ref 97, .int (nI p)]) (hd : (8 + 6 * (4 - p)) ≤ d)
    (v1 : okP n s)
    (v2 : pz s ≤ pb s)
    (v3 : tkK (ptk s))
    (v4 : RC T n (fm R) I0 I s)
    (v5 : (ptk s).1 = 260)
    (v6 : ∀ J1 : Nat → Nat → Int32, ∀ o2 : POut, (PP T n 0 p 0 0 s o2) → (RCo T n (fm R) I0 J1 o2) → Q none w1 (J1, D, RR R)) : j_W 89 d 0 0 0 0 121 [some (.ref 97), some (.int (nI p))] [] w1 (I, D, RR R) Q := by
  refine q_aload_n d89_121 rfl ?_
  refine q_iload_n d89_122 rfl ?_
  refine q_invV (o := 97) (ci := 5) (av := [.int (nI p)]) (rest := []) (d' := (7 + 6 * (4 - p))) (mc' := 0) (ms' := 0) d89_123 (cv5_74 89 rfl) rfl (by decide) rfl rfl (by omega) (Nat.le_of_ble_eq_true rfl) (Nat.le_of_ble_eq_true rfl) (lt_w1 rfl) sh97 (Nat.le_refl _) (Nat.le_refl _) ?_
  refine hC _ _ s _ (Nat.le_refl _) v1 v2 v3 v4 v5 (fun J1 o2 h3 h4 => ?_)
  show j_W 89 d 0 0 0 0 126 [some (.ref 97), some (.int (nI p))] [] w1 (J1, D, RR R) Q
  refine q_goto (tgt := 157) d89_126 rfl ?_
  exact q_ret d89_157 rfl (Nat.le_refl _) (Nat.le_refl _) (v6 J1 o2 h3 h4)

set_option maxRecDepth 10000 in
set_option maxHeartbeats 4000000 in
theorem s89q {d : Nat} {I : Nat → Nat → Int32} {D : Nat → Nat → UInt64} {R : Nat → Nat → Option Nat} {Q : j_Po} {p : Nat} {T : Nat → Nat} {n : Nat} {I0 : Nat → Nat → Int32} {s : PSt} (hR : WFR R) (hC : CRt T n R D I0 95 261 7 p [.ref 97]) (hd : (8 + 6 * (4 - p)) ≤ d)
    (v1 : okP n s)
    (v2 : pz s ≤ pb s)
    (v3 : tkK (ptk s))
    (v4 : RC T n (fm R) I0 I s)
    (v5 : (ptk s).1 = 261)
    (v6 : ∀ J1 : Nat → Nat → Int32, ∀ o2 : POut, (PP T n 0 p 0 0 s o2) → (RCo T n (fm R) I0 J1 o2) → Q none w1 (J1, D, RR R)) : j_W 89 d 0 0 0 0 129 [some (.ref 97), some (.int (nI p))] [] w1 (I, D, RR R) Q := by
  refine q_aload_n d89_129 rfl ?_
  refine q_invV (o := 97) (ci := 5) (av := []) (rest := []) (d' := 7) (mc' := 0) (ms' := 0) d89_130 (cv5_77 89 rfl) rfl (by decide) rfl rfl (by omega) (Nat.le_of_ble_eq_true rfl) (Nat.le_of_ble_eq_true rfl) (lt_w1 rfl) sh97 (Nat.le_refl _) (Nat.le_refl _) ?_
  refine hC _ _ s _ (Nat.le_refl _) v1 v2 v3 v4 v5 (fun J1 o2 h3 h4 => ?_)
  show j_W 89 d 0 0 0 0 133 [some (.ref 97), some (.int (nI p))] [] w1 (J1, D, RR R) Q
  refine q_goto (tgt := 157) d89_133 rfl ?_
  exact q_ret d89_157 rfl (Nat.le_refl _) (Nat.le_refl _) (v6 J1 o2 h3 h4)

set_option maxRecDepth 10000 in
set_option maxHeartbeats 4000000 in
theorem s89m {d : Nat} {I : Nat → Nat → Int32} {D : Nat → Nat → UInt64} {R : Nat → Nat → Option Nat} {Q : j_Po} {p : Nat} {T : Nat → Nat} {n : Nat} {I0 : Nat → Nat → Int32} {s : PSt} (hR : WFR R) (hC : CRt T n R D I0 97 45 (7 + 6 * (4 - p)) p [.ref 97, .int (nI p)]) (hd : (8 + 6 * (4 - p)) ≤ d)
    (v1 : okP n s)
    (v2 : pz s ≤ pb s)
    (v3 : tkK (ptk s))
    (v4 : RC T n (fm R) I0 I s)
    (v5 : (ptk s).1 = 45)
    (v6 : ∀ J1 : Nat → Nat → Int32, ∀ o2 : POut, (PP T n 0 p 0 0 s o2) → (RCo T n (fm R) I0 J1 o2) → Q none w1 (J1, D, RR R)) : j_W 89 d 0 0 0 0 136 [some (.ref 97), some (.int (nI p))] [] w1 (I, D, RR R) Q := by
  refine q_aload_n d89_136 rfl ?_
  refine q_iload_n d89_137 rfl ?_
  refine q_invV (o := 97) (ci := 5) (av := [.int (nI p)]) (rest := []) (d' := (7 + 6 * (4 - p))) (mc' := 0) (ms' := 0) d89_138 (cv5_80 89 rfl) rfl (by decide) rfl rfl (by omega) (Nat.le_of_ble_eq_true rfl) (Nat.le_of_ble_eq_true rfl) (lt_w1 rfl) sh97 (Nat.le_refl _) (Nat.le_refl _) ?_
  refine hC _ _ s _ (Nat.le_refl _) v1 v2 v3 v4 v5 (fun J1 o2 h3 h4 => ?_)
  show j_W 89 d 0 0 0 0 141 [some (.ref 97), some (.int (nI p))] [] w1 (J1, D, RR R) Q
  refine q_goto (tgt := 157) d89_141 rfl ?_
  exact q_ret d89_157 rfl (Nat.le_refl _) (Nat.le_refl _) (v6 J1 o2 h3 h4)

set_option maxRecDepth 10000 in
set_option maxHeartbeats 4000000 in
theorem s89p {d : Nat} {I : Nat → Nat → Int32} {D : Nat → Nat → UInt64} {R : Nat → Nat → Option Nat} {Q : j_Po} {p : Nat} {T : Nat → Nat} {n : Nat} {I0 : Nat → Nat → Int32} {s : PSt} (hR : WFR R) (hC : CR T n R D I0 93 6 (6 + 6 * (4 - p)) p 1 [.ref 97, .int (nI p), .int 1]) (hd : (8 + 6 * (4 - p)) ≤ d)
    (v1 : okP n s)
    (v2 : pz s ≤ pb s)
    (v3 : tkK (ptk s))
    (v4 : RC T n (fm R) I0 I s)
    (v5 : ∀ J1 : Nat → Nat → Int32, ∀ o2 : POut, (PP T n 6 p 1 0 s o2) → (RCo T n (fm R) I0 J1 o2) → Q none w1 (J1, D, RR R)) : j_W 89 d 0 0 0 0 144 [some (.ref 97), some (.int (nI p))] [] w1 (I, D, RR R) Q := by
  refine q_aload_n d89_144 rfl ?_
  refine q_iload_n d89_145 rfl ?_
  refine q_iconst (v := 1) (by decide) d89_146 ?_
  refine q_invV (o := 97) (ci := 5) (av := [.int (nI p), .int 1]) (rest := []) (d' := (6 + 6 * (4 - p))) (mc' := 0) (ms' := 0) d89_147 (cv5_83 89 rfl) rfl (by decide) rfl rfl (by omega) (Nat.le_of_ble_eq_true rfl) (Nat.le_of_ble_eq_true rfl) (lt_w1 rfl) sh97 (Nat.le_refl _) (Nat.le_refl _) ?_
  refine hC _ _ s _ (Nat.le_refl _) v1 v2 v3 v4 (fun J1 o2 h3 h4 => ?_)
  show j_W 89 d 0 0 0 0 150 [some (.ref 97), some (.int (nI p))] [] w1 (J1, D, RR R) Q
  refine q_goto (tgt := 157) d89_150 rfl ?_
  exact q_ret d89_157 rfl (Nat.le_refl _) (Nat.le_refl _) (v5 J1 o2 h3 h4)

set_option maxRecDepth 10000 in
set_option maxHeartbeats 4000000 in
theorem s89s {d : Nat} {I : Nat → Nat → Int32} {D : Nat → Nat → UInt64} {R : Nat → Nat → Option Nat} {Q : j_Po} {p : Nat} {T : Nat → Nat} {n : Nat} {I0 : Nat → Nat → Int32} {s : PSt} (hR : WFR R) (hd : 1 ≤ d)
    (v1 : okP n s)
    (v2 : pz s ≤ 96)
    (v3 : RC T n (fm R) I0 I s)
    (v4 : ∀ J1 : Nat → Nat → Int32, (RCf T n (fm R) I0 J1 (pb s)) → Q none w1 (J1, D, RR R)) : j_W 89 d 0 0 0 0 153 [some (.ref 97), some (.int (nI p))] [] w1 (I, D, RR R) Q := by
  refine q_aload_n d89_153 rfl ?_
  refine q_invV (o := 97) (ci := 5) (av := []) (rest := []) (d' := 0) (mc' := 0) (ms' := 0) d89_154 (cv5_45 89 rfl) rfl (by decide) rfl rfl (by omega) (Nat.le_of_ble_eq_true rfl) (Nat.le_of_ble_eq_true rfl) (lt_w1 rfl) sh97 (Nat.le_refl _) (Nat.le_refl _) ?_
  refine rc_stop (T := T) (n := n) (o := fm R) (I0 := I0) (s := s) v1 v2 v3 (fun J1 h2 => ?_)
  show j_W 89 d 0 0 0 0 157 [some (.ref 97), some (.int (nI p))] [] w1 (J1, D, RR R) Q
  exact q_ret d89_157 rfl (Nat.le_refl _) (Nat.le_refl _) (v4 J1 h2)

section RP
variable {D : Nat → Nat → UInt64} {R : Nat → Nat → Option Nat} {p : Nat} {T : Nat → Nat} {n : Nat} {I0 : Nat → Nat → Int32}
theorem nI_prd {q j : Nat} (hq : 1 ≤ q) (h3 : q ≤ 3) (hj : j < q) : ((nI q) - 1) ≤ (nI j) ↔ ¬ j + 1 < q := by
  have : ∀ q, q < 4 → ∀ j, j < q → 1 ≤ q → (((nI q) - 1) ≤ (nI j) ↔ ¬ j + 1 < q) := by decide +kernel
  exact this q (by omega) j hj hq
theorem l93 {Q : j_Po} {d q : Nat} (hR : WFR R) (hn : n ≤ 96) (hp : p < 4) (hq3 : q ≤ 3) (hd : 6 + 6 * (4 - p) ≤ d) (hC : CR T n R D I0 86 5 (5 + 6 * (4 - p)) (p + 1) 0 [.ref 97, .int (nI (p + 1))]) : ∀ (m j : Nat) (s : PSt) (I : Nat → Nat → Int32), q - j ≤ m → j ≤ q → okP n s → pz s ≤ pb s → tkK (ptk s) → RC T n (fm R) I0 I s → (∀ J o, PP T n 7 p q j s o → RCo T n (fm R) I0 J o → Q none w1 (J, D, RR R)) → j_W 93 d 0 0 0 0 21 [some (.ref 97), some (.int (nI p)), some (.int (nI q)), some (.int (nI j))] [] w1 (I, D, RR R) Q
  | m, j, s, I, hm, hj, hs, hz, hk, hS, hq => by
    have h7 := hS.2.2.1
    have hTT := fun k hk => (hS.2.1.2.2 k hk).1
    have end_ : ∀ (j : Nat) (s : PSt) (I : Nat → Nat → Int32), j = q → okP n s → RC T n (fm R) I0 I s → (∀ J o, PP T n 7 p q j s o → RCo T n (fm R) I0 J o → Q none w1 (J, D, RR R)) → j_W 93 d 0 0 0 0 21 [some (.ref 97), some (.int (nI p)), some (.int (nI q)), some (.int (nI j))] [] w1 (I, D, RR R) Q := by
      intro j s I hj hs hS hq
      subst hj
      refine s93g hR hS.2.2.1 hq3 (Nat.le_refl _) (by omega) (fun _ => ?_) (fun h => absurd (Nat.le_refl _) h) (fun h => absurd (Nat.le_refl _) h)
      exact s93l hR hS.2.2.1 (by omega) (fun h => absurd hS.2.2.1 h) (fun _ => hs) (fun _ => hS) (fun _ => Nat.le_refl _) (fun _ J t h1 h2 h3 h4 => hq J (.inr t) (PP3.2.2.2.2.2.1 p j s t h1) h4)
    by_cases hjq : j = q
    · exact end_ j s I hjq hs hS hq
    have hjl : j < q := by omega
    refine s93g hR h7 hq3 hj (by omega) (fun h => by omega) (fun _ h => absurd h7 h) (fun _ _ => ?_)
    refine s93h hR (by omega) hC hd hs hS (Nat.le_refl _) (fun J1 t2 h3 h4 h5 h6 => h4) (fun J1 t2 h3 h4 h5 h6 => (by have := h3.2.1; have := h4.1; have := hs.1; omega)) (fun J1 t2 h3 h4 h5 h6 => h3.1.K hTT) (fun J1 t2 h3 h4 h5 h6 => h6) (fun J1 t2 h3 h4 h5 h6 J7 o8 h9 h10 => ?_)
    have hz2 : pz t2 ≤ pb t2 := by have := h3.2.1; have := h4.1; have := hs.1; omega
    have flt : ∀ (J : Nat → Nat → Int32) (f : Nat), f ≤ n → PP T n 7 p q j s (.inl f) → RCf T n (fm R) I0 J f → j_W 93 d 0 0 0 0 21 [some (.ref 97), some (.int (nI p)), some (.int (nI q)), some (.int (nI (j + 1)))] [] w1 (J, D, RR R) Q := by
      intro J f hf h1 h2
      exact s93f hR h2.2.2.1 (by omega) hq3 (by omega) (by omega) (fun _ _ => hq J (.inl f) h1 h2) (fun _ h => absurd h (nI_ne_m1 (by omega))) (fun _ _ => hq J (.inl f) h1 h2) (fun _ h => absurd h (nI_ne_m1 (by omega)))
    cases o8 with
    | inl f =>
      have hf : f ≤ n := h9.g h4
      exact s93x hR h10.2.2.1 (by omega) hq3 hjl (by omega) (fun _ => flt J7 f hf (PP3.2.2.2.2.2.2.1 p q j s t2 f hjl h3 h9) h10) (fun h => absurd h (nI_ne_m1 (by omega)))
    | inr s2 =>
      obtain ⟨k1, k2, k3, k4, k5, k6⟩ := h9.g h4
      have k7 := k5 ⟨by decide, by decide⟩
      have k9 := k1.1
      have k10 := k1.2.1
      have k11 := h4.1
      have hk2 := h9.k hTT (h3.1.K hTT)
      have g7 := h10.2.2.1
      have hpr := nI_prd (by omega : 1 ≤ q) hq3 hjl
      have go : (ptk s2).1 = (if j + 1 < q then 44 else 41) → j_W 93 d 0 0 0 0 21 [some (.ref 97), some (.int (nI p)), some (.int (nI q)), some (.int (nI (j + 1)))] [] w1 (J7, D, RR R) Q := by
        intro ht
        match m, hm with
        | 0, hm => omega
        | m + 1, hm => exact l93 hR hn hp hq3 hd hC m (j + 1) s2 J7 (by omega) hjl k1 (by omega) hk2 h10 (fun J o ho hr => hq J o (PP3.2.2.2.2.2.2.2.2 p q j s t2 s2 o hjl h3 h9 ht ho) hr)
      have bad : ∀ (J : Nat → Nat → Int32), (ptk s2).1 ≠ (if j + 1 < q then 44 else 41) → RCf T n (fm R) I0 J (pb s2) → j_W 93 d 0 0 0 0 21 [some (.ref 97), some (.int (nI p)), some (.int (nI q)), some (.int (nI (j + 1)))] [] w1 (J, D, RR R) Q := fun J hne h => flt J (pb s2) (by omega) (PP3.2.2.2.2.2.2.2.1 p q j s t2 s2 hjl h3 h9 hne) h
      refine s93y hR g7 h10.2.2.2.2.2.1 hk2.2 hq3 hjl (by omega) (fun h => absurd g7 h) (fun _ a b => go (by rw [if_neg (hpr.mp a)]; exact b)) (fun _ _ _ => k1) (fun _ _ _ => by omega) (fun _ _ _ => h10) (fun _ a b J h => bad J (by rw [if_neg (hpr.mp a)]; exact b) h) (fun _ a b => go (by rw [if_pos (Decidable.byContradiction fun h => a (hpr.mpr h))]; exact b)) (fun _ _ _ => k1) (fun _ _ _ => by omega) (fun _ _ _ => h10) (fun _ a b J h => bad J (by rw [if_pos (Decidable.byContradiction fun h => a (hpr.mpr h))]; exact b) h)
theorem c93 {k : Nat} (hR : WFR R) (hn : n ≤ 96) (hp : p ≤ 4) (hk3 : k ≤ 3) (hC : p < 4 → CR T n R D I0 86 5 (5 + 6 * (4 - p)) (p + 1) 0 [.ref 97, .int (nI (p + 1))]) : CR T n R D I0 93 6 (6 + 6 * (4 - p)) p k [.ref 97, .int (nI p), .int (nI k)] := by
  intro d I s Q hd hs hz hk hS hq
  have hz9 : pz s ≤ 96 := by have := hs.1; have := hs.2.1; omega
  refine s93e hR hS.2.2.2.2.2.1 hk.2 hp hd (fun _ => hs) (fun _ => hz9) (fun _ => hS) (fun h J h1 => hq J (.inl (pb s)) (PP3.2.2.2.1 p k s (Or.inl h)) h1) (fun h h4 => ?_) (fun _ _ => hs) (fun _ _ => hz9) (fun _ _ => hS) (fun _ h J h1 => hq J (.inl (pb s)) (PP3.2.2.2.1 p k s (Or.inr h)) h1)
  exact s93i hR (by omega) (l93 hR hn (by omega) hk3 hd (hC (by omega)) k 0 s I (by omega) (by omega) hs hz hk hS (fun J o ho hr => hq J o (PP3.2.2.2.2.1 p k s o (by omega) h4 ho) hr))
theorem c92 (hR : WFR R) (hn : n ≤ 96) (hC : ∀ k, k ≤ 3 → CR T n R D I0 93 6 (6 + 6 * (4 - p)) p k [.ref 97, .int (nI p), .int (nI k)]) : CRt T n R D I0 92 260 (7 + 6 * (4 - p)) p [.ref 97, .int (nI p)] := by
  intro d I s Q hd hs hz hk hS hc hq
  have hTT := fun k hk => (hS.2.1.2.2 k hk).1
  have hlt : pb s < pe s := hs.2.2 (by omega)
  have hw := hk.1.2.2.1 hc
  have fin : ∀ (J1 : Nat → Nat → Int32) (t2 : PSt) (k : Nat), nxP T n s t2 → okP n t2 → pe s ≤ pb t2 → k = (if (ptk s).2 = 12 then 3 else 2) → ∀ (J8 : Nat → Nat → Int32) (o9 : POut), PP T n 6 p k 0 t2 o9 → RCo T n (fm R) I0 J8 o9 → j_W 92 d 0 0 0 0 25 [some (.ref 97), some (.int (nI p)), some (.int (nI (ptk s).2))] [] w1 (J8, D, RR R) Q := by
    intro J1 t2 k h3 h4 h5 hkk J8 o9 h9 h10
    subst hkk
    cases o9 with
    | inl f => exact s92y hR (by omega) (by omega) h10 (fun J3 h => hq J3 (.inl f) (PP0.2.2.1 p s t2 (.inl f) hc h3 h9) h)
    | inr s2 =>
      obtain ⟨m1, m2, m3, m4, m5, m6⟩ := h9.g h4
      have m7 := m5 ⟨by decide, by decide⟩
      have m8 := m1.1
      have m9 := m1.2.1
      have m10 := h3.2.1
      have m11 := h4.1
      exact s92x hR (by omega) (by omega) (by omega) h10 (by omega) (by omega) (by decide) (fun J3 h => hq J3 (.inr (addP s2 (ptk s).2 0)) (PP0.2.2.1 p s t2 (.inr s2) hc h3 h9) h)
  exact s92a (w := (ptk s).2) hR (hS.2.2.2.2.2.2.1 (by omega) (by omega)) (by omega) (hC 2 (by decide)) (hC 3 (by decide)) hd hs hS (Nat.le_refl _) (fun J1 t2 h3 h4 h5 h6 _ => h4) (fun J1 t2 h3 h4 h5 h6 _ => (by have := h3.2.1; have := h4.1; omega)) (fun J1 t2 h3 h4 h5 h6 _ => h3.1.K hTT) (fun J1 t2 h3 h4 h5 h6 _ => h6) (fun J1 t2 h3 h4 h5 h6 hne J8 o9 h9 h10 => fin J1 t2 2 h3 h4 h5 (by rw [if_neg hne]) J8 o9 h9 h10) (fun J1 t2 h3 h4 h5 h6 _ => h4) (fun J1 t2 h3 h4 h5 h6 _ => (by have := h3.2.1; have := h4.1; omega)) (fun J1 t2 h3 h4 h5 h6 _ => h3.1.K hTT) (fun J1 t2 h3 h4 h5 h6 _ => h6) (fun J1 t2 h3 h4 h5 h6 he J8 o9 h9 h10 => fin J1 t2 3 h3 h4 h5 (by rw [if_pos he]) J8 o9 h9 h10)
theorem c97 (hR : WFR R) (hn : n ≤ 96) (hp : p ≤ 4) (hC : p < 4 → CR T n R D I0 89 0 (2 + 6 * (4 - p)) (p + 1) 0 [.ref 97, .int (nI (p + 1))]) : CRt T n R D I0 97 45 (7 + 6 * (4 - p)) p [.ref 97, .int (nI p)] := by
  intro d I s Q hd hs hz hk hS hc hq
  have hTT := fun k hk => (hS.2.1.2.2 k hk).1
  have hlt : pb s < pe s := hs.2.2 (by omega)
  have hz9 : pz s ≤ 96 := by have := hs.1; have := hs.2.1; omega
  refine s97e hR hp (by omega) (fun hlt4 => ?_) (fun _ => hs) (fun _ => hz9) (fun _ => hS) (fun h J h1 => hq J (.inl (pb s)) (PP0.2.2.2.2.2.1 p s hc (by omega)) h1)
  refine s97a hR hlt4 (hC hlt4) hd hs hS (Nat.le_refl _) (fun J1 t2 h3 h4 h5 h6 => h4) (fun J1 t2 h3 h4 h5 h6 => (by have := h3.2.1; have := h4.1; omega)) (fun J1 t2 h3 h4 h5 h6 => h3.1.K hTT) (fun J1 t2 h3 h4 h5 h6 => h6) (fun J1 t2 h3 h4 h5 h6 J7 o8 h9 h10 => ?_)
  cases o8 with
  | inl f => exact s97y hR (by omega) h10 (fun J3 h => hq J3 (.inl f) (PP0.2.2.2.2.2.2.1 p s t2 (.inl f) hc hlt4 h3 h9) h)
  | inr s2 =>
    obtain ⟨m1, m2, m3, m4, m5, m6⟩ := h9.g h4
    have m7 := m5 ⟨by decide, by decide⟩
    have m8 := m1.1
    have m9 := m1.2.1
    have m10 := h3.2.1
    have m11 := h4.1
    exact s97x hR (by omega) (by omega) h10 (by decide) (by decide) (by decide) (fun J3 h => hq J3 (.inr (addP s2 2 0)) (PP0.2.2.2.2.2.2.1 p s t2 (.inr s2) hc hlt4 h3 h9) h)
theorem nI_k {v : Nat} (hv : v ≤ 5000) : (nI v) / 1000 = nI (v / 1000) := by
  exact pk_div (a := v) (d := 1000) (by omega) (by decide) (by decide)
theorem c95 (hR : WFR R) (hn : n ≤ 96) : CRt T n R D I0 95 261 7 p [.ref 97] := by
  intro d I s Q hd hs hz hk hS hc hq
  have hTT := fun k hk => (hS.2.1.2.2 k hk).1
  have hlt : pb s < pe s := hs.2.2 (by omega)
  have hw := hk.1.2.2.2 hc
  have hz9 : pz s ≤ 96 := by have := hs.1; have := hs.2.1; omega
  refine s95a (w := (ptk s).2) hR (hS.2.2.2.2.2.2.1 (by omega) (by omega)) (by omega) hd hs hS (Nat.le_refl _) (fun J1 t2 h3 h4 h5 h6 => ?_)
  have hk2 := h3.1.K hTT
  have e1 := h4.1
  have e2 := h4.2.1
  have e3 := h3.2.1
  refine s95b hR h6.2.2.2.2.2.1 hk2.2 (by omega) (fun _ => h4) (fun _ => by omega) (fun _ => h6) (fun hne J h => hq J (.inl (pb t2)) (PP0.2.2.2.2.1 p s t2 hc h3 (fun h => hne h.1)) h) (fun he => ?_)
  have hlt2 : pb t2 < pe t2 := h4.2.2 (by omega)
  have g6 := h6.2.2.2.2.2.2.1 (by omega) (by omega)
  refine s95c (v := (ptk t2).2) hR g6 (hk2.1.1 (Or.inl he)) hw (by omega) (fun hv => ?_) (fun _ => h4) (fun _ => by omega) (fun _ => h6) (fun hne J h => hq J (.inl (pb t2)) (PP0.2.2.2.2.1 p s t2 hc h3 (fun h => hne h.2)) h)
  refine s95d (v := (ptk t2).2) hR g6 hv hw (by omega) ?_
  rw [nI_k hv]
  refine s95e (s := t2) hR (by omega) hw hd (by omega) h6 (by omega) (by omega) (fun J3 h => by omega) (fun J3 h => by omega) (fun J3 h => h) (fun J3 h J7 h' => h4) (fun J3 h J7 h' => h') (fun J3 h J7 h' => Nat.le_refl _) (fun J3 h J7 h' J9 t10 h11 h12 h13 h14 => ?_)
  exact hq J9 (.inr t10) (PP0.2.2.2.1 p s t2 t10 hc h3 he hv h11) h14
theorem c89 (hR : WFR R) (hn : n ≤ 96) (hp : p ≤ 4) (hC1 : p < 4 → CR T n R D I0 86 5 (5 + 6 * (4 - p)) (p + 1) 0 [.ref 97, .int (nI (p + 1))]) (hC2 : p < 4 → CR T n R D I0 89 0 (2 + 6 * (4 - p)) (p + 1) 0 [.ref 97, .int (nI (p + 1))]) : CR T n R D I0 89 0 (8 + 6 * (4 - p)) p 0 [.ref 97, .int (nI p)] := by
  intro d I s Q hd hs hz hk hS hq
  have hTT := fun k hk => (hS.2.1.2.2 k hk).1
  have hz9 : pz s ≤ 96 := by have := hs.1; have := hs.2.1; omega
  have h5 := hS.2.2.2.2.2.1
  have C93 := fun k hk3 => c93 (k := k) hR hn hp hk3 hC1
  refine s89e (by omega) ?_
  rw [h5]
  refine sw89 hk.2 (fun hc => ?_) (fun hc => ?_) (fun hc => ?_) (fun hc => ?_) (fun hc => ?_) (fun hc => ?_) (fun a b c e f g h => ?_)
  · exact s89p hR (C93 1 (by decide)) hd hs hz hk hS (fun J o h1 h2 => hq J o (PP0.2.2.2.2.2.2.2.1 p s o hc h1) h2)
  · exact s89m hR (c97 hR hn hp hC2) hd hs hz hk hS hc hq
  · have hlt : pb s < pe s := hs.2.2 (by omega)
    have hen := hs.2.1
    exact s89n (w := (ptk s).2) hR (hS.2.2.2.2.2.2.1 (by omega) (by omega)) (by omega) (by omega) hS (by decide) (by decide) (by have := hk.1.1 hc; omega) (fun _ h => hs) (fun _ h => h) (fun _ _ => Nat.le_refl _) (fun J3 h J5 t6 h7 h8 h9 h10 => hq J5 (.inr t6) (PP0.1 p s t6 hc h7) h10)
  · have hlt : pb s < pe s := hs.2.2 (by omega)
    have hen := hs.2.1
    exact s89i (w := (ptk s).2) hR (hS.2.2.2.2.2.2.1 (by omega) (by omega)) (fun J h => (h.2.2.2.2.2.2.1 (by omega) (by omega))) (by omega) (by omega) hS (by decide) (by have := hk.1.2.1 hc; omega) (fun _ h => hk.1.2.1 hc) (fun _ h => h) (fun _ _ _ _ => hs) (fun _ _ _ h => h) (fun _ _ _ _ => Nat.le_refl _) (fun J3 h J7 h' J9 t10 h11 h12 h13 h14 => hq J9 (.inr t10) (PP0.2.1 p s t10 hc h11) h14)
  · exact s89c hR (c92 hR hn C93) hd hs hz hk hS hc hq
  · exact s89q hR (c95 hR hn) hd hs hz hk hS hc hq
  · exact s89s hR (by omega) hs hz9 hS (fun J h1 => hq J (.inl (pb s)) (PP0.2.2.2.2.2.2.2.2 p s a b c e f g h) h1)
theorem c89all (hR : WFR R) (hn : n ≤ 96) : ∀ (m p : Nat), p ≤ 4 → 4 - p ≤ m → CR T n R D I0 89 0 (8 + 6 * (4 - p)) p 0 [.ref 97, .int (nI p)] ∧ CR T n R D I0 86 5 (11 + 6 * (4 - p)) p 0 [.ref 97, .int (nI p)]
  | m, p, hp, hm => by
    have h1 : CR T n R D I0 89 0 (8 + 6 * (4 - p)) p 0 [.ref 97, .int (nI p)] := by
      match m, hm with
      | 0, hm => exact c89 hR hn hp (fun h => by omega) (fun h => by omega)
      | m + 1, hm =>
        refine c89 hR hn hp (fun h => ?_) (fun h => ?_)
        · have := (c89all hR hn m (p + 1) (by omega) (by omega)).2
          rw [show 5 + 6 * (4 - p) = 11 + 6 * (4 - (p + 1)) from by omega]; exact this
        · have := (c89all hR hn m (p + 1) (by omega) (by omega)).1
          rw [show 2 + 6 * (4 - p) = 8 + 6 * (4 - (p + 1)) from by omega]; exact this
    exact ⟨h1, c86 hR hn (c87 hR hn (c88 hR hn h1))⟩
end RP
