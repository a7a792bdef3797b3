/-! read -/
set_option maxRecDepth 10000 in
set_option maxHeartbeats 4000000 in
theorem s66a {d : Nat} {I : Nat → Nat → Int32} {D : Nat → Nat → UInt64} {R : Nat → Nat → Option Nat} {Q : j_Po}  {T : Nat → Nat} {n : Nat} (hR : WFR R) (hd : 7 ≤ d)
    (v1 : ∀ J3 : Nat → Nat → Int32, (∀ o, o ≠ fm R → o ≠ fm R + 2 → J3 o = I o) → (J3 (fm R) 1 = 0) → (J3 (fm R) 2 = 0) → (∀ t, t < 6 → J3 (fm R + 2) t = 0) → TC T n (j_u (j_u J3 97 7 (-1)) 97 4 0))
    (v2 : ∀ J3 : Nat → Nat → Int32, (∀ o, o ≠ fm R → o ≠ fm R + 2 → J3 o = I o) → (J3 (fm R) 1 = 0) → (J3 (fm R) 2 = 0) → (∀ t, t < 6 → J3 (fm R + 2) t = 0) → (j_u (j_u J3 97 7 (-1)) 97 4 0) 97 4 = nI 0)
    (v3 : ∀ J3 : Nat → Nat → Int32, (∀ o, o ≠ fm R → o ≠ fm R + 2 → J3 o = I o) → (J3 (fm R) 1 = 0) → (J3 (fm R) 2 = 0) → (∀ t, t < 6 → J3 (fm R + 2) t = 0) → 0 ≤ n)
    (v4 : ∀ J3 : Nat → Nat → Int32, (∀ o, o ≠ fm R → o ≠ fm R + 2 → J3 o = I o) → (J3 (fm R) 1 = 0) → (J3 (fm R) 2 = 0) → (∀ t, t < 6 → J3 (fm R + 2) t = 0) → 6 ≤ 6)
    (v5 : ∀ J3 : Nat → Nat → Int32, (∀ o, o ≠ fm R → o ≠ fm R + 2 → J3 o = I o) → (J3 (fm R) 1 = 0) → (J3 (fm R) 2 = 0) → (∀ t, t < 6 → J3 (fm R + 2) t = 0) → ∀ J8 : Nat → Nat → Int32, ∀ b9 : Nat, ∀ e10 : Nat, ∀ t11 : Nat × Nat, (Lx T n 0 b9 e10 t11) → (RdS (j_u (j_u J3 97 7 (-1)) 97 4 0) J8 b9 e10 t11) → j_W 66 d 0 0 0 0 21 [some (.ref 97)] [] w1 (J8, D, RR R) Q) : j_Call d 66 [.ref 97] w1 (I, D, RR R) 0 0 Q := by
  refine q_enter (L := [some (.ref 97)]) j_m66 (Nat.le_of_ble_eq_true rfl) rfl ?_
  refine q_aload_n d66_0 rfl ?_
  have g2 := hR.m
  refine q_getR (x := ((R 97 2).getD 0)) d66_1 (fs5_18 66 rfl) rfl (lt_w1 rfl) sh97 ((RR_d rfl).trans g2.1) (lt1000 (isF_lt g2.2)) ?_
  refine q_invV (o := ((R 97 2).getD 0)) (ci := 2) (av := []) (rest := []) (d' := 0) (mc' := 0) (ms' := 0) d66_4 (cv5_26 66 rfl) rfl (by decide) rfl rfl (by omega) (Nat.le_of_ble_eq_true rfl) (Nat.le_of_ble_eq_true rfl) (isF_lt g2.2) (isF_sh g2.2) (Nat.le_refl _) (Nat.le_refl _) ?_
  refine cFG (isBF_F hR.2.2.1.2)  (fun J3 h4 h5 h6 h7 => ?_)
  show j_W 66 d 0 0 0 0 7 [some (.ref 97)] [] w1 (J3, D, RR R) Q
  refine q_aload_n d66_7 rfl ?_
  refine q_iconst (v := (-1)) (by decide) d66_8 ?_
  refine q_putI d66_9 (fs5_29 66 rfl) (Or.inl rfl) rfl (lt_w1 rfl) sh97 ?_
  refine q_aload_n d66_12 rfl ?_
  refine q_iconst (v := 0) (by decide) d66_13 ?_
  refine q_putI d66_14 (fs5_32 66 rfl) (Or.inl rfl) rfl (lt_w1 rfl) sh97 ?_
  refine q_aload_n d66_17 rfl ?_
  refine q_invV (o := 97) (ci := 5) (av := []) (rest := []) (d' := 6) (mc' := 0) (ms' := 0) d66_18 (cv5_35 66 rfl) rfl (by decide) rfl rfl (by omega) (Nat.le_of_ble_eq_true rfl) (Nat.le_of_ble_eq_true rfl) (lt_w1 rfl) sh97 (Nat.le_refl _) (Nat.le_refl _) ?_
  refine c67 (T := T) (n := n) (p := 0) (v1 J3 h4 h5 h6 h7) (v2 J3 h4 h5 h6 h7) (v3 J3 h4 h5 h6 h7) (v4 J3 h4 h5 h6 h7) (fun J8 b9 e10 t11 h12 h13 => ?_)
  show j_W 66 d 0 0 0 0 21 [some (.ref 97)] [] w1 (J8, D, RR R) Q
  exact r_sub (L' := [some (.ref 97)]) ⟨rfl, trivial⟩ (v5 J3 h4 h5 h6 h7 J8 b9 e10 t11 h12 h13)

set_option maxRecDepth 10000 in
set_option maxHeartbeats 4000000 in
theorem s66b {d : Nat} {I : Nat → Nat → Int32} {D : Nat → Nat → UInt64} {R : Nat → Nat → Option Nat} {Q : j_Po}  {T : Nat → Nat} {n : Nat} {I0 : Nat → Nat → Int32} {s : PSt} (hR : WFR R) (hC : CR T n R D I0 86 5 (11 + 6 * (4 - 0)) 0 0 [.ref 97, .int (nI 0)]) (hd : 36 ≤ d)
    (v1 : okP n s)
    (v2 : pz s ≤ pb s)
    (v3 : tkK (ptk s))
    (v4 : RC T n (fm R) I0 I s)
    (v5 : ∀ J1 : Nat → Nat → Int32, ∀ o2 : POut, (PP T n 5 0 0 0 s o2) → (RCo T n (fm R) I0 J1 o2) → j_W 66 d 0 0 0 0 26 [some (.ref 97)] [] w1 (J1, D, RR R) Q) : j_W 66 d 0 0 0 0 21 [some (.ref 97)] [] w1 (I, D, RR R) Q := by
  refine q_aload_n d66_21 rfl ?_
  refine q_iconst (v := 0) (by decide) d66_22 ?_
  refine q_invV (o := 97) (ci := 5) (av := [.int 0]) (rest := []) (d' := (11 + 6 * (4 - 0))) (mc' := 0) (ms' := 0) d66_23 (cv5_38 66 rfl) rfl (by decide) rfl rfl (by omega) (Nat.le_of_ble_eq_true rfl) (Nat.le_of_ble_eq_true rfl) (lt_w1 rfl) sh97 (Nat.le_refl _) (Nat.le_refl _) ?_
  refine hC _ _ s _ (Nat.le_refl _) v1 v2 v3 v4 (fun J1 o2 h3 h4 => ?_)
  show j_W 66 d 0 0 0 0 26 [some (.ref 97)] [] w1 (J1, D, RR R) Q
  exact r_sub (L' := [some (.ref 97)]) ⟨rfl, trivial⟩ (v5 J1 o2 h3 h4)

set_option maxRecDepth 10000 in
set_option maxHeartbeats 4000000 in
theorem s66g {d : Nat} {I : Nat → Nat → Int32} {D : Nat → Nat → UInt64} {R : Nat → Nat → Option Nat} {Q : j_Po}  {T : Nat → Nat} {n : Nat} {I0 : Nat → Nat → Int32} {s : PSt} {t : Nat} (h5 : I 97 5 = nI t) (ht : t < 300) (hd : 1 ≤ d)
    (v1 : (t = 256) → Q (some (.int (I 97 7))) w1 (I, D, RR R))
    (v2 : (¬ t = 256) → okP n s)
    (v3 : (¬ t = 256) → pz s ≤ 96)
    (v4 : (¬ t = 256) → RC T n (fm R) I0 I s)
    (v5 : (¬ t = 256) → ∀ J2 : Nat → Nat → Int32, (RCf T n (fm R) I0 J2 (pb s)) → Q (some (.int (J2 97 7))) w1 (J2, D, RR R)) : j_W 66 d 0 0 0 0 26 [some (.ref 97)] [] w1 (I, D, RR R) Q := by
  refine q_aload_n d66_26 rfl ?_
  refine q_getI d66_27 (fs5_42 66 rfl) rfl (lt_w1 rfl) sh97 ?_
  refine r_int (y := (nI t)) (show I 97 5 = (nI t) from h5) ?_
  refine q_sipush (v := 256) (by decide) d66_30 ?_
  refine q_icmp_eq (tgt := 40) d66_33 rfl (fun h1t => ?_) (fun h1f => ?_)
  ·
    have h1tc : t = 256 := (nI_eqN (by omega) (by omega)).mp h1t
    refine q_aload_n d66_40 rfl ?_
    refine q_getI d66_41 (fs5_29 66 rfl) rfl (lt_w1 rfl) sh97 ?_
    exact q_iret d66_44 rfl (Nat.le_refl _) (Nat.le_refl _) (v1 h1tc)
  ·
    have h1fc : ¬ t = 256 := mt (nI_eqN (by omega) (by omega)).mpr h1f
    refine q_aload_n d66_36 rfl ?_
    refine q_invV (o := 97) (ci := 5) (av := []) (rest := []) (d' := 0) (mc' := 0) (ms' := 0) d66_37 (cv5_45 66 rfl) rfl (by decide) rfl rfl (by omega) (Nat.le_of_ble_eq_true rfl) (Nat.le_of_ble_eq_true rfl) (lt_w1 rfl) sh97 (Nat.le_refl _) (Nat.le_refl _) ?_
    refine rc_stop (T := T) (n := n) (o := fm R) (I0 := I0) (s := s) (v2 h1fc) (v3 h1fc) (v4 h1fc) (fun J2 h3 => ?_)
    show j_W 66 d 0 0 0 0 40 [some (.ref 97)] [] w1 (J2, D, RR R) Q
    refine q_aload_n d66_40 rfl ?_
    refine q_getI d66_41 (fs5_29 66 rfl) rfl (lt_w1 rfl) sh97 ?_
    exact q_iret d66_44 rfl (Nat.le_refl _) (Nat.le_refl _) (v5 h1fc J2 h3)

theorem c94f {d : Nat} {I : Nat → Nat → Int32} {D : Nat → Nat → UInt64} {R : Nat → Nat → Option Nat} {Q : j_Po} (h : ¬ I 97 7 = -1) (hq : Q none w1 (I, D, RR R)) : j_Call d 94 [.ref 97] w1 (I, D, RR R) 0 0 Q := s94 (Nat.zero_le _) (fun _ => hq) (fun h2 => absurd h2 h)
set_option maxRecDepth 10000 in
set_option maxHeartbeats 4000000 in
theorem s66f {d : Nat} {I : Nat → Nat → Int32} {D : Nat → Nat → UInt64} {R : Nat → Nat → Option Nat} {Q : j_Po}   (hd : 1 ≤ d)
    (v1 : ((I 97 5) = 256) → Q (some (.int (I 97 7))) w1 (I, D, RR R))
    (v2 : (¬ (I 97 5) = 256) → ¬ I 97 7 = -1)
    (v3 : (¬ (I 97 5) = 256) → Q (some (.int (I 97 7))) w1 (I, D, RR R)) : j_W 66 d 0 0 0 0 26 [some (.ref 97)] [] w1 (I, D, RR R) Q := by
  refine q_aload_n d66_26 rfl ?_
  refine q_getI d66_27 (fs5_42 66 rfl) rfl (lt_w1 rfl) sh97 ?_
  refine q_sipush (v := 256) (by decide) d66_30 ?_
  refine q_icmp_eq (tgt := 40) d66_33 rfl (fun h1t => ?_) (fun h1f => ?_)
  ·
    refine q_aload_n d66_40 rfl ?_
    refine q_getI d66_41 (fs5_29 66 rfl) rfl (lt_w1 rfl) sh97 ?_
    exact q_iret d66_44 rfl (Nat.le_refl _) (Nat.le_refl _) (v1 h1t)
  ·
    refine q_aload_n d66_36 rfl ?_
    refine q_invV (o := 97) (ci := 5) (av := []) (rest := []) (d' := 0) (mc' := 0) (ms' := 0) d66_37 (cv5_45 66 rfl) rfl (by decide) rfl rfl (by omega) (Nat.le_of_ble_eq_true rfl) (Nat.le_of_ble_eq_true rfl) (lt_w1 rfl) sh97 (Nat.le_refl _) (Nat.le_refl _) ?_
    refine c94f (v2 h1f) ?_
    show j_W 66 d 0 0 0 0 40 [some (.ref 97)] [] w1 (I, D, RR R) Q
    refine q_aload_n d66_40 rfl ?_
    refine q_getI d66_41 (fs5_29 66 rfl) rfl (lt_w1 rfl) sh97 ?_
    exact q_iret d66_44 rfl (Nat.le_refl _) (Nat.le_refl _) (v3 h1f)

set_option maxRecDepth 10000 in
set_option maxHeartbeats 4000000 in
theorem s211a {d : Nat} {I : Nat → Nat → Int32} {D : Nat → Nat → UInt64} {R : Nat → Nat → Option Nat} {Q : j_Po}  {T : Nat → Nat} {n : Nat}  (hd : 7 ≤ d)
    (v1 : TR T n (j_u (j_u (j_u (j_u (j_u I 260 39 0) 260 37 0) 260 38 0) 260 45 0) 260 46 0))
    (v2 : (j_u (j_u (j_u (j_u (j_u I 260 39 0) 260 37 0) 260 38 0) 260 45 0) 260 46 0) 260 39 = nI 0)
    (v3 : 0 ≤ n)
    (v4 : (j_u (j_u (j_u (j_u (j_u I 260 39 0) 260 37 0) 260 38 0) 260 45 0) 260 46 0) 260 46 = 0)
    (v5 : 6 ≤ 6)
    (v6 : ∀ J1 : Nat → Nat → Int32, ∀ b2 : Nat, ∀ e3 : Nat, ∀ t4 : Nat × Nat, (Lx T n 0 b2 e3 t4) → (RNx (j_u (j_u (j_u (j_u (j_u I 260 39 0) 260 37 0) 260 38 0) 260 45 0) 260 46 0) J1 b2 e3 t4) → j_W 211 d 0 0 0 0 29 [some (.ref 260)] [] w1 (J1, D, RR R) Q) : j_Call d 211 [.ref 260] w1 (I, D, RR R) 0 0 Q := by
  refine q_enter (L := [some (.ref 260)]) j_m211 (Nat.le_of_ble_eq_true rfl) rfl ?_
  refine q_aload_n d211_0 rfl ?_
  refine q_iconst (v := 0) (by decide) d211_1 ?_
  refine q_putI d211_2 (fs10_351 211 rfl) (Or.inl rfl) rfl (lt_w1 rfl) sh260 ?_
  refine q_aload_n d211_5 rfl ?_
  refine q_iconst (v := 0) (by decide) d211_6 ?_
  refine q_putI d211_7 (fs10_424 211 rfl) (Or.inl rfl) rfl (lt_w1 rfl) sh260 ?_
  refine q_aload_n d211_10 rfl ?_
  refine q_iconst (v := 0) (by decide) d211_11 ?_
  refine q_putI d211_12 (fs10_450 211 rfl) (Or.inl rfl) rfl (lt_w1 rfl) sh260 ?_
  refine q_aload_n d211_15 rfl ?_
  refine q_iconst (v := 0) (by decide) d211_16 ?_
  refine q_putI d211_17 (fs10_438 211 rfl) (Or.inl rfl) rfl (lt_w1 rfl) sh260 ?_
  refine q_aload_n d211_20 rfl ?_
  refine q_iconst (v := 0) (by decide) d211_21 ?_
  refine q_putZ d211_22 (fs10_357 211 rfl) (Or.inl rfl) rfl (Or.inl rfl) (lt_w1 rfl) sh260 ?_
  refine q_aload_n d211_25 rfl ?_
  refine q_invV (o := 260) (ci := 10) (av := []) (rest := []) (d' := 6) (mc' := 0) (ms' := 0) d211_26 (cv10_421 211 rfl) rfl (by decide) rfl rfl (by omega) (Nat.le_of_ble_eq_true rfl) (Nat.le_of_ble_eq_true rfl) (lt_w1 rfl) sh260 (Nat.le_refl _) (Nat.le_refl _) ?_
  refine c212 (T := T) (n := n) (p := 0) v1 v2 v3 v4 v5 (fun J1 b2 e3 t4 h5 h6 => ?_)
  show j_W 211 d 0 0 0 0 29 [some (.ref 260)] [] w1 (J1, D, RR R) Q
  exact r_sub (L' := [some (.ref 260)]) ⟨rfl, trivial⟩ (v6 J1 b2 e3 t4 h5 h6)

set_option maxRecDepth 10000 in
set_option maxHeartbeats 4000000 in
theorem s211b {d : Nat} {I : Nat → Nat → Int32} {D : Nat → Nat → UInt64} {R : Nat → Nat → Option Nat} {Q : j_Po}  {T : Nat → Nat} {n : Nat} {s : PSt} {o : POut} (hC : RKc T n R 31 0 234 [.ref 260] s o) (hd : 32 ≤ d)
    (v1 : okP n s)
    (v2 : pz s ≤ pb s)
    (v3 : tkK (ptk s))
    (v4 : RRs T n 0 s I D)
    (v5 : ∀ J1 : Nat → Nat → Int32, ∀ E2 : Nat → Nat → UInt64, (RRo T n 0 o J1 E2) → (RRg I D J1 E2) → j_W 211 d 0 0 0 0 33 [some (.ref 260)] [] w1 (J1, E2, RR R) Q) : j_W 211 d 0 0 0 0 29 [some (.ref 260)] [] w1 (I, D, RR R) Q := by
  refine q_aload_n d211_29 rfl ?_
  refine q_invV (o := 260) (ci := 10) (av := []) (rest := []) (d' := 31) (mc' := 0) (ms' := 0) d211_30 (cv10_447 211 rfl) rfl (by decide) rfl rfl (by omega) (Nat.le_of_ble_eq_true rfl) (Nat.le_of_ble_eq_true rfl) (lt_w1 rfl) sh260 (Nat.le_refl _) (Nat.le_refl _) ?_
  refine hC _ _ _ _ (Nat.le_refl _) v1 v2 v3 v4 (fun J1 E2 h3 h4 => ?_)
  show j_W 211 d 0 0 0 0 33 [some (.ref 260)] [] w1 (J1, E2, RR R) Q
  exact r_sub (L' := [some (.ref 260)]) ⟨rfl, trivial⟩ (v5 J1 E2 h3 h4)

set_option maxRecDepth 10000 in
set_option maxHeartbeats 4000000 in
theorem s211c {d : Nat} {I : Nat → Nat → Int32} {D : Nat → Nat → UInt64} {R : Nat → Nat → Option Nat} {Q : j_Po}   (hd : 0 ≤ d)
    (v1 : ((I 260 41) = 0) → ((I 260 46) ||| 0) = 0 ∨ ((I 260 46) ||| 0) = 1)
    (v2 : ((I 260 41) = 0) → (¬ ((I 260 46) ||| 0) = 0) → Q (some (.int 0)) w1 ((j_u I 260 46 ((I 260 46) ||| 0)), D, RR R))
    (v3 : ((I 260 41) = 0) → (((I 260 46) ||| 0) = 0) → Q (some (.int 1)) w1 ((j_u I 260 46 ((I 260 46) ||| 0)), D, RR R))
    (v4 : (¬ (I 260 41) = 0) → ((I 260 46) ||| 1) = 0 ∨ ((I 260 46) ||| 1) = 1)
    (v5 : (¬ (I 260 41) = 0) → (¬ ((I 260 46) ||| 1) = 0) → Q (some (.int 0)) w1 ((j_u I 260 46 ((I 260 46) ||| 1)), D, RR R))
    (v6 : (¬ (I 260 41) = 0) → (((I 260 46) ||| 1) = 0) → Q (some (.int 1)) w1 ((j_u I 260 46 ((I 260 46) ||| 1)), D, RR R)) : j_W 211 d 0 0 0 0 33 [some (.ref 260)] [] w1 (I, D, RR R) Q := by
  refine q_aload_n d211_33 rfl ?_
  refine q_dup rfl d211_34 ?_
  refine q_getI d211_35 (fs10_357 211 rfl) rfl (lt_w1 rfl) sh260 ?_
  refine q_aload_n d211_38 rfl ?_
  refine q_getI d211_39 (fs10_364 211 rfl) rfl (lt_w1 rfl) sh260 ?_
  refine q_if_eq (tgt := 49) d211_42 rfl (fun h1t => ?_) (fun h1f => ?_)
  ·
    refine q_iconst (v := 0) (by decide) d211_49 ?_
    refine q_ior d211_50 ?_
    refine q_putZ d211_51 (fs10_357 211 rfl) (Or.inl rfl) rfl (v1 h1t) (lt_w1 rfl) sh260 ?_
    refine q_aload_n d211_54 rfl ?_
    refine q_getI d211_55 (fs10_357 211 rfl) rfl (lt_w1 rfl) sh260 ?_
    refine r_int (y := ((I 260 46) ||| 0)) (show (j_u I 260 46 ((I 260 46) ||| 0)) 260 46 = ((I 260 46) ||| 0) from (j_u_same _ _ _ _)) ?_
    refine q_if_ne (tgt := 65) d211_58 rfl (fun h2t => ?_) (fun h2f => ?_)
    ·
      refine q_iconst (v := 0) (by decide) d211_65 ?_
      exact q_zret d211_66 rfl (Or.inl rfl) (Nat.le_refl _) (Nat.le_refl _) (v2 h1t h2t)
    ·
      refine q_iconst (v := 1) (by decide) d211_61 ?_
      refine q_goto (tgt := 66) d211_62 rfl ?_
      exact q_zret d211_66 rfl (Or.inr rfl) (Nat.le_refl _) (Nat.le_refl _) (v3 h1t h2f)
  ·
    refine q_iconst (v := 1) (by decide) d211_45 ?_
    refine q_goto (tgt := 50) d211_46 rfl ?_
    refine q_ior d211_50 ?_
    refine q_putZ d211_51 (fs10_357 211 rfl) (Or.inl rfl) rfl (v4 h1f) (lt_w1 rfl) sh260 ?_
    refine q_aload_n d211_54 rfl ?_
    refine q_getI d211_55 (fs10_357 211 rfl) rfl (lt_w1 rfl) sh260 ?_
    refine r_int (y := ((I 260 46) ||| 1)) (show (j_u I 260 46 ((I 260 46) ||| 1)) 260 46 = ((I 260 46) ||| 1) from (j_u_same _ _ _ _)) ?_
    refine q_if_ne (tgt := 65) d211_58 rfl (fun h3t => ?_) (fun h3f => ?_)
    ·
      refine q_iconst (v := 0) (by decide) d211_65 ?_
      exact q_zret d211_66 rfl (Or.inl rfl) (Nat.le_refl _) (Nat.le_refl _) (v5 h1f h3t)
    ·
      refine q_iconst (v := 1) (by decide) d211_61 ?_
      refine q_goto (tgt := 66) d211_62 rfl ?_
      exact q_zret d211_66 rfl (Or.inr rfl) (Nat.le_refl _) (Nat.le_refl _) (v6 h1f h3f)

set_option maxRecDepth 10000 in
set_option maxHeartbeats 4000000 in
theorem s245e {d : Nat} {I : Nat → Nat → Int32} {D : Nat → Nat → UInt64} {R : Nat → Nat → Option Nat} {Q : j_Po}    (hd : 0 ≤ d)
    (v1 : j_W 245 d 0 0 0 0 4 [some (.ref 260), some (.int 0), some (.int 0)] [] w1 (I, D, RR R) Q) : j_Call d 245 [.ref 260] w1 (I, D, RR R) 0 0 Q := by
  refine q_enter (L := [some (.ref 260), none, none]) j_m245 (Nat.le_of_ble_eq_true rfl) rfl ?_
  refine q_iconst (v := 0) (by decide) d245_0 ?_
  refine q_istore_n (L' := [some (.ref 260), some (.int 0), none]) d245_1 (Nat.le_of_ble_eq_true rfl) rfl ?_
  refine q_iconst (v := 0) (by decide) d245_2 ?_
  refine q_istore_n (L' := [some (.ref 260), some (.int 0), some (.int 0)]) d245_3 (Nat.le_of_ble_eq_true rfl) rfl ?_
  exact r_sub (L' := [some (.ref 260), some (.int 0), some (.int 0)]) ⟨rfl, rfl, rfl, trivial⟩ v1

set_option maxRecDepth 10000 in
set_option maxHeartbeats 4000000 in
theorem s245h {d : Nat} {I : Nat → Nat → Int32} {D : Nat → Nat → UInt64} {R : Nat → Nat → Option Nat} {Q : j_Po} {x : Int32} {k : Nat} {z : Nat} (h37 : I 260 37 = nI z) (hz9 : z ≤ 96) (hk : k ≤ 96) (hd : 0 ≤ d)
    (v1 : (z ≤ k) → Q (some (.int x)) w1 (I, D, RR R))
    (v2 : (¬ z ≤ k) → (24 ≤ (I 423 k)) → ((I 423 k) < 300) → j_W 245 d 0 0 0 0 4 [some (.ref 260), some (.int x), some (.int (nI (k + 1)))] [] w1 (I, D, RR R) Q)
    (v3 : (¬ z ≤ k) → (24 ≤ (I 423 k)) → (¬ (I 423 k) < 300) → j_W 245 d 0 0 0 0 4 [some (.ref 260), some (.int (x ||| (1 <<< ((24 + ((I 423 k) - (I 423 k) / 10 * 10)) &&& 31)))), some (.int (nI (k + 1)))] [] w1 (I, D, RR R) Q)
    (v4 : (¬ z ≤ k) → (¬ 24 ≤ (I 423 k)) → ((I 423 k) < 300) → j_W 245 d 0 0 0 0 4 [some (.ref 260), some (.int (x ||| (1 <<< ((I 423 k) &&& 31)))), some (.int (nI (k + 1)))] [] w1 (I, D, RR R) Q)
    (v5 : (¬ z ≤ k) → (¬ 24 ≤ (I 423 k)) → (¬ (I 423 k) < 300) → j_W 245 d 0 0 0 0 4 [some (.ref 260), some (.int ((x ||| (1 <<< ((I 423 k) &&& 31))) ||| (1 <<< ((24 + ((I 423 k) - (I 423 k) / 10 * 10)) &&& 31)))), some (.int (nI (k + 1)))] [] w1 (I, D, RR R) Q) : j_W 245 d 0 0 0 0 4 [some (.ref 260), some (.int x), some (.int (nI k))] [] w1 (I, D, RR R) Q := by
  refine q_iload_n d245_4 rfl ?_
  refine q_aload_n d245_5 rfl ?_
  refine q_getI d245_6 (fs10_424 245 rfl) rfl (lt_w1 rfl) sh260 ?_
  refine r_int (y := (nI z)) (show I 260 37 = (nI z) from h37) ?_
  refine q_icmp_ge (tgt := 69) d245_9 rfl (fun h1t => ?_) (fun h1f => ?_)
  ·
    have h1tc : z ≤ k := (nI_leI (by omega) (by omega)).mp h1t
    refine q_iload_n d245_69 rfl ?_
    exact q_iret d245_70 rfl (Nat.le_refl _) (Nat.le_refl _) (v1 h1tc)
  ·
    have h1fc : ¬ z ≤ k := mt (nI_leI (by omega) (by omega)).mpr h1f
    refine q_aload_n d245_12 rfl ?_
    refine q_getR (x := 423) d245_13 (fs10_105 245 rfl) rfl (lt_w1 rfl) sh260 (rs260_35 R) (by decide) ?_
    refine q_iload_n d245_16 rfl ?_
    refine q_iaload (a := k) d245_17 (lt_w1 rfl) sh423 rfl (by omega) ?_
    refine q_bipush (v := 24) (by decide) d245_18 ?_
    refine q_icmp_ge (tgt := 34) d245_20 rfl (fun h2t => ?_) (fun h2f => ?_)
    ·
      refine q_aload_n d245_34 rfl ?_
      refine q_getR (x := 423) d245_35 (fs10_105 245 rfl) rfl (lt_w1 rfl) sh260 (rs260_35 R) (by decide) ?_
      refine q_iload_n d245_38 rfl ?_
      refine q_iaload (a := k) d245_39 (lt_w1 rfl) sh423 rfl (by omega) ?_
      refine q_sipush (v := 300) (by decide) d245_40 ?_
      refine q_icmp_lt (tgt := 63) d245_43 rfl (fun h3t => ?_) (fun h3f => ?_)
      ·
        refine q_iinc (L' := [some (.ref 260), some (.int x), some (.int (nI (k + 1)))]) (v := (nI (k + 1))) d245_63 rfl (nI_inc _) rfl ?_
        refine q_goto (tgt := 4) d245_66 rfl ?_
        exact r_sub (L' := [some (.ref 260), some (.int x), some (.int (nI (k + 1)))]) ⟨rfl, rfl, rfl, trivial⟩ (v2 h1fc h2t h3t)
      ·
        refine q_iload_n d245_46 rfl ?_
        refine q_iconst (v := 1) (by decide) d245_47 ?_
        refine q_bipush (v := 24) (by decide) d245_48 ?_
        refine q_aload_n d245_50 rfl ?_
        refine q_getR (x := 423) d245_51 (fs10_105 245 rfl) rfl (lt_w1 rfl) sh260 (rs260_35 R) (by decide) ?_
        refine q_iload_n d245_54 rfl ?_
        refine q_iaload (a := k) d245_55 (lt_w1 rfl) sh423 rfl (by omega) ?_
        refine q_bipush (v := 10) (by decide) d245_56 ?_
        refine q_irem (by decide) d245_58 ?_
        refine q_iadd d245_59 ?_
        refine q_ishl d245_60 ?_
        refine q_ior d245_61 ?_
        refine q_istore_n (L' := [some (.ref 260), some (.int (x ||| (1 <<< ((24 + ((I 423 k) - (I 423 k) / 10 * 10)) &&& 31)))), some (.int (nI k))]) d245_62 (Nat.le_of_ble_eq_true rfl) rfl ?_
        refine q_iinc (L' := [some (.ref 260), some (.int (x ||| (1 <<< ((24 + ((I 423 k) - (I 423 k) / 10 * 10)) &&& 31)))), some (.int (nI (k + 1)))]) (v := (nI (k + 1))) d245_63 rfl (nI_inc _) rfl ?_
        refine q_goto (tgt := 4) d245_66 rfl ?_
        exact r_sub (L' := [some (.ref 260), some (.int (x ||| (1 <<< ((24 + ((I 423 k) - (I 423 k) / 10 * 10)) &&& 31)))), some (.int (nI (k + 1)))]) ⟨rfl, rfl, rfl, trivial⟩ (v3 h1fc h2t h3f)
    ·
      refine q_iload_n d245_23 rfl ?_
      refine q_iconst (v := 1) (by decide) d245_24 ?_
      refine q_aload_n d245_25 rfl ?_
      refine q_getR (x := 423) d245_26 (fs10_105 245 rfl) rfl (lt_w1 rfl) sh260 (rs260_35 R) (by decide) ?_
      refine q_iload_n d245_29 rfl ?_
      refine q_iaload (a := k) d245_30 (lt_w1 rfl) sh423 rfl (by omega) ?_
      refine q_ishl d245_31 ?_
      refine q_ior d245_32 ?_
      refine q_istore_n (L' := [some (.ref 260), some (.int (x ||| (1 <<< ((I 423 k) &&& 31)))), some (.int (nI k))]) d245_33 (Nat.le_of_ble_eq_true rfl) rfl ?_
      refine q_aload_n d245_34 rfl ?_
      refine q_getR (x := 423) d245_35 (fs10_105 245 rfl) rfl (lt_w1 rfl) sh260 (rs260_35 R) (by decide) ?_
      refine q_iload_n d245_38 rfl ?_
      refine q_iaload (a := k) d245_39 (lt_w1 rfl) sh423 rfl (by omega) ?_
      refine q_sipush (v := 300) (by decide) d245_40 ?_
      refine q_icmp_lt (tgt := 63) d245_43 rfl (fun h4t => ?_) (fun h4f => ?_)
      ·
        refine q_iinc (L' := [some (.ref 260), some (.int (x ||| (1 <<< ((I 423 k) &&& 31)))), some (.int (nI (k + 1)))]) (v := (nI (k + 1))) d245_63 rfl (nI_inc _) rfl ?_
        refine q_goto (tgt := 4) d245_66 rfl ?_
        exact r_sub (L' := [some (.ref 260), some (.int (x ||| (1 <<< ((I 423 k) &&& 31)))), some (.int (nI (k + 1)))]) ⟨rfl, rfl, rfl, trivial⟩ (v4 h1fc h2f h4t)
      ·
        refine q_iload_n d245_46 rfl ?_
        refine q_iconst (v := 1) (by decide) d245_47 ?_
        refine q_bipush (v := 24) (by decide) d245_48 ?_
        refine q_aload_n d245_50 rfl ?_
        refine q_getR (x := 423) d245_51 (fs10_105 245 rfl) rfl (lt_w1 rfl) sh260 (rs260_35 R) (by decide) ?_
        refine q_iload_n d245_54 rfl ?_
        refine q_iaload (a := k) d245_55 (lt_w1 rfl) sh423 rfl (by omega) ?_
        refine q_bipush (v := 10) (by decide) d245_56 ?_
        refine q_irem (by decide) d245_58 ?_
        refine q_iadd d245_59 ?_
        refine q_ishl d245_60 ?_
        refine q_ior d245_61 ?_
        refine q_istore_n (L' := [some (.ref 260), some (.int ((x ||| (1 <<< ((I 423 k) &&& 31))) ||| (1 <<< ((24 + ((I 423 k) - (I 423 k) / 10 * 10)) &&& 31)))), some (.int (nI k))]) d245_62 (Nat.le_of_ble_eq_true rfl) rfl ?_
        refine q_iinc (L' := [some (.ref 260), some (.int ((x ||| (1 <<< ((I 423 k) &&& 31))) ||| (1 <<< ((24 + ((I 423 k) - (I 423 k) / 10 * 10)) &&& 31)))), some (.int (nI (k + 1)))]) (v := (nI (k + 1))) d245_63 rfl (nI_inc _) rfl ?_
        refine q_goto (tgt := 4) d245_66 rfl ?_
        exact r_sub (L' := [some (.ref 260), some (.int ((x ||| (1 <<< ((I 423 k) &&& 31))) ||| (1 <<< ((24 + ((I 423 k) - (I 423 k) / 10 * 10)) &&& 31)))), some (.int (nI (k + 1)))]) ⟨rfl, rfl, rfl, trivial⟩ (v5 h1fc h2f h4f)

set_option maxRecDepth 10000 in
set_option maxHeartbeats 4000000 in
theorem s100nn {d : Nat} {I : Nat → Nat → Int32} {D : Nat → Nat → UInt64} {R : Nat → Nat → Option Nat} {Q : j_Po} {g : Nat} {c : Nat}  (hg : isG g) (hd : 0 ≤ d)
    (v1 : ((I g 0) = 0) → Q (some (.int 0)) w1 (I, D, RR R))
    (v2 : (¬ (I g 0) = 0) → ((I g 2) = (nI c)) → Q (some (.int 1)) w1 (I, D, RR R))
    (v3 : (¬ (I g 0) = 0) → (¬ (I g 2) = (nI c)) → (¬ (I g 3) = (nI c)) → Q (some (.int 0)) w1 (I, D, RR R))
    (v4 : (¬ (I g 0) = 0) → (¬ (I g 2) = (nI c)) → ((I g 3) = (nI c)) → Q (some (.int 1)) w1 (I, D, RR R)) : j_Call d 100 [.ref g, .int (nI c)] w1 (I, D, RR R) 0 0 Q := by
  refine q_enter (L := [some (.ref g), some (.int (nI c))]) j_m100 (Nat.le_of_ble_eq_true rfl) rfl ?_
  refine q_aload_n d100_0 rfl ?_
  refine q_getI d100_1 (fs3_18 100 rfl) rfl (isG_lt hg) (isG_sh hg) ?_
  refine q_if_eq (tgt := 27) d100_4 rfl (fun h1t => ?_) (fun h1f => ?_)
  ·
    refine q_iconst (v := 0) (by decide) d100_27 ?_
    exact q_zret d100_28 rfl (Or.inl rfl) (Nat.le_refl _) (Nat.le_refl _) (v1 h1t)
  ·
    refine q_aload_n d100_7 rfl ?_
    refine q_getI d100_8 (fs3_26 100 rfl) rfl (isG_lt hg) (isG_sh hg) ?_
    refine q_iload_n d100_11 rfl ?_
    refine q_icmp_eq (tgt := 23) d100_12 rfl (fun h2t => ?_) (fun h2f => ?_)
    ·
      refine q_iconst (v := 1) (by decide) d100_23 ?_
      refine q_goto (tgt := 28) d100_24 rfl ?_
      exact q_zret d100_28 rfl (Or.inr rfl) (Nat.le_refl _) (Nat.le_refl _) (v2 h1f h2t)
    ·
      refine q_aload_n d100_15 rfl ?_
      refine q_getI d100_16 (fs3_29 100 rfl) rfl (isG_lt hg) (isG_sh hg) ?_
      refine q_iload_n d100_19 rfl ?_
      refine q_icmp_ne (tgt := 27) d100_20 rfl (fun h3t => ?_) (fun h3f => ?_)
      ·
        refine q_iconst (v := 0) (by decide) d100_27 ?_
        exact q_zret d100_28 rfl (Or.inl rfl) (Nat.le_refl _) (Nat.le_refl _) (v3 h1f h2f h3t)
      ·
        refine q_iconst (v := 1) (by decide) d100_23 ?_
        refine q_goto (tgt := 28) d100_24 rfl ?_
        exact q_zret d100_28 rfl (Or.inr rfl) (Nat.le_refl _) (Nat.le_refl _) (v4 h1f h2f h3f)

set_option maxRecDepth 10000 in
set_option maxHeartbeats 4000000 in
theorem s99e {d : Nat} {I : Nat → Nat → Int32} {D : Nat → Nat → UInt64} {R : Nat → Nat → Option Nat} {Q : j_Po} {c : Nat}  (hR : WFR R) (hd : 1 ≤ d)
    (v1 : j_W 99 d 0 0 0 0 2 [some (.ref 108), some (.int (nI c)), some (.int 0)] [] w1 (I, D, RR R) Q) : j_Call d 99 [.ref 108, .int (nI c)] w1 (I, D, RR R) 0 0 Q := by
  refine q_enter (L := [some (.ref 108), some (.int (nI c)), none]) j_m99 (Nat.le_of_ble_eq_true rfl) rfl ?_
  refine q_iconst (v := 0) (by decide) d99_0 ?_
  refine q_istore_n (L' := [some (.ref 108), some (.int (nI c)), some (.int 0)]) d99_1 (Nat.le_of_ble_eq_true rfl) rfl ?_
  exact r_sub (L' := [some (.ref 108), some (.int (nI c)), some (.int 0)]) ⟨rfl, rfl, rfl, trivial⟩ v1

set_option maxRecDepth 10000 in
set_option maxHeartbeats 4000000 in
theorem s99h {d : Nat} {I : Nat → Nat → Int32} {D : Nat → Nat → UInt64} {R : Nat → Nat → Option Nat} {Q : j_Po} {c : Nat} {t : Nat}  (hR : WFR R) (ht : t ≤ 6) (hd : 1 ≤ d)
    (v1 : (6 ≤ t) → Q (some (.int 0)) w1 (I, D, RR R))
    (v2 : (¬ 6 ≤ t) → ((I ((R 113 t).getD 0) 0) = 0) → j_W 99 d 0 0 0 0 2 [some (.ref 108), some (.int (nI c)), some (.int (nI (t + 1)))] [] w1 (I, D, RR R) Q)
    (v3 : (¬ 6 ≤ t) → (¬ (I ((R 113 t).getD 0) 0) = 0) → ((I ((R 113 t).getD 0) 2) = (nI c)) → Q (some (.int 1)) w1 (I, D, RR R))
    (v4 : (¬ 6 ≤ t) → (¬ (I ((R 113 t).getD 0) 0) = 0) → (¬ (I ((R 113 t).getD 0) 2) = (nI c)) → (¬ (I ((R 113 t).getD 0) 3) = (nI c)) → j_W 99 d 0 0 0 0 2 [some (.ref 108), some (.int (nI c)), some (.int (nI (t + 1)))] [] w1 (I, D, RR R) Q)
    (v5 : (¬ 6 ≤ t) → (¬ (I ((R 113 t).getD 0) 0) = 0) → (¬ (I ((R 113 t).getD 0) 2) = (nI c)) → ((I ((R 113 t).getD 0) 3) = (nI c)) → Q (some (.int 1)) w1 (I, D, RR R)) : j_W 99 d 0 0 0 0 2 [some (.ref 108), some (.int (nI c)), some (.int (nI t))] [] w1 (I, D, RR R) Q := by
  refine q_iload_n d99_2 rfl ?_
  refine q_bipush (v := 6) (by decide) d99_3 ?_
  refine q_icmp_ge (tgt := 29) d99_5 rfl (fun h1t => ?_) (fun h1f => ?_)
  ·
    have h1tc : 6 ≤ t := (nI_leI (by omega) (by omega)).mp h1t
    refine q_iconst (v := 0) (by decide) d99_29 ?_
    exact q_zret d99_30 rfl (Or.inl rfl) (Nat.le_refl _) (Nat.le_refl _) (v1 h1tc)
  ·
    have h1fc : ¬ 6 ≤ t := mt (nI_leI (by omega) (by omega)).mpr h1f
    refine q_aload_n d99_8 rfl ?_
    refine q_getR (x := 113) d99_9 (fs0_31 99 rfl) rfl (lt_w1 rfl) sh108 (rs108_4 R) (by decide) ?_
    refine q_iload_n d99_12 rfl ?_
    have g3 := hR.g t (by omega)
    refine q_aaload (c := 7) (a := t) (x := ((R 113 t).getD 0)) d99_13 (lt_w1 rfl) sh113 (by decide) rfl (by omega) ((RR_d rfl).trans g3.1) (lt1000 (isG_lt g3.2)) ?_
    refine q_iload_n d99_14 rfl ?_
    refine q_invV (o := ((R 113 t).getD 0)) (ci := 3) (av := [.int (nI c)]) (rest := []) (d' := 0) (mc' := 0) (ms' := 0) d99_15 (cv0_54 99 rfl) rfl (by decide) rfl rfl (by omega) (Nat.le_of_ble_eq_true rfl) (Nat.le_of_ble_eq_true rfl) (isG_lt g3.2) (isG_sh g3.2) (Nat.le_refl _) (Nat.le_refl _) ?_
    refine s100nn (g := ((R 113 t).getD 0)) (c := c) g3.2 (Nat.le_refl _) (fun c4 => ?_) (fun c5 c6 => ?_) (fun c7 c8 c9 => ?_) (fun c10 c11 c12 => ?_)
    ·
      show j_W 99 d 0 0 0 0 18 [some (.ref 108), some (.int (nI c)), some (.int (nI t))] [.int 0] w1 (I, D, RR R) Q
      refine q_if_eq (tgt := 23) d99_18 rfl (fun _ => ?_) (fun h => absurd h (by decide))
      refine q_iinc (L' := [some (.ref 108), some (.int (nI c)), some (.int (nI (t + 1)))]) (v := (nI (t + 1))) d99_23 rfl (nI_inc _) rfl ?_
      refine q_goto (tgt := 2) d99_26 rfl ?_
      exact r_sub (L' := [some (.ref 108), some (.int (nI c)), some (.int (nI (t + 1)))]) ⟨rfl, rfl, rfl, trivial⟩ (v2 h1fc c4)
    ·
      show j_W 99 d 0 0 0 0 18 [some (.ref 108), some (.int (nI c)), some (.int (nI t))] [.int 1] w1 (I, D, RR R) Q
      refine q_if_eq (tgt := 23) d99_18 rfl (fun h => absurd h (by decide)) (fun _ => ?_)
      refine q_iconst (v := 1) (by decide) d99_21 ?_
      exact q_zret d99_22 rfl (Or.inr rfl) (Nat.le_refl _) (Nat.le_refl _) (v3 h1fc c5 c6)
    ·
      show j_W 99 d 0 0 0 0 18 [some (.ref 108), some (.int (nI c)), some (.int (nI t))] [.int 0] w1 (I, D, RR R) Q
      refine q_if_eq (tgt := 23) d99_18 rfl (fun _ => ?_) (fun h => absurd h (by decide))
      refine q_iinc (L' := [some (.ref 108), some (.int (nI c)), some (.int (nI (t + 1)))]) (v := (nI (t + 1))) d99_23 rfl (nI_inc _) rfl ?_
      refine q_goto (tgt := 2) d99_26 rfl ?_
      exact r_sub (L' := [some (.ref 108), some (.int (nI c)), some (.int (nI (t + 1)))]) ⟨rfl, rfl, rfl, trivial⟩ (v4 h1fc c7 c8 c9)
    ·
      show j_W 99 d 0 0 0 0 18 [some (.ref 108), some (.int (nI c)), some (.int (nI t))] [.int 1] w1 (I, D, RR R) Q
      refine q_if_eq (tgt := 23) d99_18 rfl (fun h => absurd h (by decide)) (fun _ => ?_)
      refine q_iconst (v := 1) (by decide) d99_21 ?_
      exact q_zret d99_22 rfl (Or.inr rfl) (Nat.le_refl _) (Nat.le_refl _) (v5 h1fc c10 c11 c12)

set_option maxRecDepth 10000 in
set_option maxHeartbeats 4000000 in
theorem s244e {d : Nat} {I : Nat → Nat → Int32} {D : Nat → Nat → UInt64} {R : Nat → Nat → Option Nat} {Q : j_Po} {c : Nat}  (hc : c < 24) (hd : 1 ≤ d)
    (v1 : j_W 244 d 0 0 0 0 2 [some (.ref 260), some (.int (nI c)), some (.int 0)] [] w1 (I, D, RR R) Q) : j_Call d 244 [.ref 260, .int (nI c)] w1 (I, D, RR R) 0 0 Q := by
  refine q_enter (L := [some (.ref 260), some (.int (nI c)), none]) j_m244 (Nat.le_of_ble_eq_true rfl) rfl ?_
  refine q_iconst (v := 0) (by decide) d244_0 ?_
  refine q_istore_n (L' := [some (.ref 260), some (.int (nI c)), some (.int 0)]) d244_1 (Nat.le_of_ble_eq_true rfl) rfl ?_
  exact r_sub (L' := [some (.ref 260), some (.int (nI c)), some (.int 0)]) ⟨rfl, rfl, rfl, trivial⟩ v1

set_option maxRecDepth 10000 in
set_option maxHeartbeats 4000000 in
theorem s244h {d : Nat} {I : Nat → Nat → Int32} {D : Nat → Nat → UInt64} {R : Nat → Nat → Option Nat} {Q : j_Po} {c : Nat} {t : Nat}  (hc : c < 24) (ht : t ≤ 6) (hd : 1 ≤ d)
    (v1 : (6 ≤ t) → Q (some (.int 0)) w1 (I, D, RR R))
    (v2 : (¬ 6 ≤ t) → ((I 315 t) = 0) → j_W 244 d 0 0 0 0 2 [some (.ref 260), some (.int (nI c)), some (.int (nI (t + 1)))] [] w1 (I, D, RR R) Q)
    (v3 : (¬ 6 ≤ t) → (¬ (I 315 t) = 0) → (¬ (((rvy I t) >>> ((nI c) &&& 31)) &&& 1) = 1) → j_W 244 d 0 0 0 0 2 [some (.ref 260), some (.int (nI c)), some (.int (nI (t + 1)))] [] w1 (I, D, RR R) Q)
    (v4 : (¬ 6 ≤ t) → (¬ (I 315 t) = 0) → ((((rvy I t) >>> ((nI c) &&& 31)) &&& 1) = 1) → Q (some (.int 1)) w1 (I, D, RR R)) : j_W 244 d 0 0 0 0 2 [some (.ref 260), some (.int (nI c)), some (.int (nI t))] [] w1 (I, D, RR R) Q := by
  refine q_iload_n d244_2 rfl ?_
  refine q_bipush (v := 6) (by decide) d244_3 ?_
  refine q_icmp_ge (tgt := 38) d244_5 rfl (fun h1t => ?_) (fun h1f => ?_)
  ·
    have h1tc : 6 ≤ t := (nI_leI (by omega) (by omega)).mp h1t
    refine q_iconst (v := 0) (by decide) d244_38 ?_
    exact q_zret d244_39 rfl (Or.inl rfl) (Nat.le_refl _) (Nat.le_refl _) (v1 h1tc)
  ·
    have h1fc : ¬ 6 ≤ t := mt (nI_leI (by omega) (by omega)).mpr h1f
    refine q_aload_n d244_8 rfl ?_
    refine q_getR (x := 315) d244_9 (fs10_34 244 rfl) rfl (lt_w1 rfl) sh260 (rs260_6 R) (by decide) ?_
    refine q_iload_n d244_12 rfl ?_
    refine q_zaload (a := t) d244_13 (lt_w1 rfl) sh315 rfl (by omega) ?_
    refine q_if_eq (tgt := 32) d244_14 rfl (fun h2t => ?_) (fun h2f => ?_)
    ·
      refine q_iinc (L' := [some (.ref 260), some (.int (nI c)), some (.int (nI (t + 1)))]) (v := (nI (t + 1))) d244_32 rfl (nI_inc _) rfl ?_
      refine q_goto (tgt := 2) d244_35 rfl ?_
      exact r_sub (L' := [some (.ref 260), some (.int (nI c)), some (.int (nI (t + 1)))]) ⟨rfl, rfl, rfl, trivial⟩ (v2 h1fc h2t)
    ·
      refine q_aload_n d244_17 rfl ?_
      refine q_iload_n d244_18 rfl ?_
      refine q_invV (o := 260) (ci := 10) (av := [.int (nI t)]) (rest := []) (d' := 0) (mc' := 0) (ms' := 0) d244_19 (cv10_211 244 rfl) rfl (by decide) rfl rfl (by omega) (Nat.le_of_ble_eq_true rfl) (Nat.le_of_ble_eq_true rfl) (lt_w1 rfl) sh260 (Nat.le_refl _) (Nat.le_refl _) ?_
      refine c181 (by omega)  ?_
      show j_W 244 d 0 0 0 0 22 [some (.ref 260), some (.int (nI c)), some (.int (nI t))] [.int (rvy I t)] w1 (I, D, RR R) Q
      refine q_iload_n d244_22 rfl ?_
      refine q_ishr d244_23 ?_
      refine q_iconst (v := 1) (by decide) d244_24 ?_
      refine q_iand d244_25 ?_
      refine q_iconst (v := 1) (by decide) d244_26 ?_
      refine q_icmp_ne (tgt := 32) d244_27 rfl (fun h3t => ?_) (fun h3f => ?_)
      ·
        refine q_iinc (L' := [some (.ref 260), some (.int (nI c)), some (.int (nI (t + 1)))]) (v := (nI (t + 1))) d244_32 rfl (nI_inc _) rfl ?_
        refine q_goto (tgt := 2) d244_35 rfl ?_
        exact r_sub (L' := [some (.ref 260), some (.int (nI c)), some (.int (nI (t + 1)))]) ⟨rfl, rfl, rfl, trivial⟩ (v3 h1fc h2f h3t)
      ·
        refine q_iconst (v := 1) (by decide) d244_30 ?_
        exact q_zret d244_31 rfl (Or.inr rfl) (Nat.le_refl _) (Nat.le_refl _) (v4 h1fc h2f h3f)

/-- the place of the fault of a whole -/
def pF : POut → Option Nat
  | .inl f => some f
  | .inr s => if (ptk s).1 = 256 then none else some (pb s)
def s00 (b e : Nat) (tk : Nat × Nat) : PSt := (b, e, tk, 0, fun _ => (0, 0))
section RD
variable {d : Nat} {I : Nat → Nat → Int32} {D : Nat → Nat → UInt64} {R : Nat → Nat → Option Nat} {Q : j_Po} {T : Nat → Nat} {n : Nat}
theorem s00_ok {b e : Nat} {tk : Nat × Nat} (hx : Lx T n 0 b e tk) : okP n (s00 b e tk) := by
  obtain ⟨-, h1, h2, h3⟩ := hx.le (Nat.zero_le n)
  exact ⟨h1, h2, h3⟩
theorem bt_z {v : Nat} : bt (0 : Int32) v = false := b_0 v
/-- the class reads -/
theorem c66 (hR : WFR R) (hT : TC T n I) (hd : 40 ≤ d)
    (h1 : ∀ J b e tk o f, Lx T n 0 b e tk → PP T n 5 0 0 0 (s00 b e tk) o → pF o = some f → f ≤ 96 → RCg (fm R) I J → Q (some (.int (nI f))) w1 (J, D, RR R))
    (h0 : ∀ J b e tk s', Lx T n 0 b e tk → PP T n 5 0 0 0 (s00 b e tk) (.inr s') → (ptk s').1 = 256 → RCg (fm R) I J → FR (pz s') (pS s') J (fm R) → Q (some (.int (-1))) w1 (J, D, RR R)) : j_Call d 66 [.ref 97] w1 (I, D, RR R) 0 0 Q := by
  have hn := hT.1
  have ho := rc_o hR.2.2.1.2
  have hTT : ∀ k, k < n → T k < 256 := fun k hk => (hT.2.2 k hk).1
  refine s66a (T := T) (n := n) hR (by omega) (fun J a1 a2 a3 a4 => ?_) (fun J a1 a2 a3 a4 => by rw [j_u_same]; rfl) (fun J a1 a2 a3 a4 => Nat.zero_le _) (fun J a1 a2 a3 a4 => Nat.le_refl _) (fun J a1 a2 a3 a4 J8 b e tk hx hr => ?_)
  · refine hT.cg ?_ ?_
    · rw [j_u_k _ _ (by decide), j_u_k _ _ (by decide), a1 97 (by omega) (by omega)]
    · funext i; rw [j_u_o _ _ _ (by decide), j_u_o _ _ _ (by decide), a1 98 (by omega) (by omega)]
  have hs := s00_ok hx
  obtain ⟨r1, r2, r3, r4, r5, r6⟩ := hr
  have eo : ∀ q, q ≠ 97 → q ≠ fm R → q ≠ fm R + 2 → J8 q = I q := fun q q1 q2 q3 => by
    rw [r1 q q1]; funext i; rw [j_u_o _ _ _ q1, j_u_o _ _ _ q1, a1 q q2 q3]
  have ef : ∀ q, q ≠ 97 → J8 q = J q := fun q q1 => by
    rw [r1 q q1]; funext i; rw [j_u_o _ _ _ q1, j_u_o _ _ _ q1]
  have e7 : ∀ i, i ≠ 3 → i ≠ 4 → i ≠ 5 → i ≠ 6 → i ≠ 7 → J8 97 i = I 97 i := fun i i3 i4 i5 i6 i7 => by
    rw [r2 i i3 i4 i5 i6, j_u_k _ _ i4, j_u_k _ _ i7, a1 97 (by omega) (by omega)]
  have hRC : RC T n (fm R) I J8 (s00 b e tk) := by
    refine ⟨⟨fun q q1 q2 q3 q4 => eo q q1 q2 q4, fun i hi => e7 i (by omega) (by omega) (by omega) (by omega) (by omega)⟩, hT.cg (e7 1 (by decide) (by decide) (by decide) (by decide) (by decide)) (eo 98 (by decide) (by omega) (by omega)), ?_, r3, r4, r5, r6, ?_⟩
    · rw [r2 7 (by decide) (by decide) (by decide) (by decide), j_u_k _ _ (by decide), j_u_same]
    · refine ⟨by rw [ef _ (by omega)]; exact a2, fun k hk => absurd hk (Nat.not_lt_zero k), fun v hv => ?_, fun t ht => ?_⟩
      · rw [ef _ (by omega), a3, b_0]; rfl
      · rw [ef _ (by omega), a4 t ht]; rfl
  refine s66b hR (c89all hR hn 4 0 (by decide) (by decide)).2 (by omega) hs (Nat.zero_le _) (hx.K hTT) hRC (fun J1 o hP hO => ?_)
  cases o with
  | inl f =>
    have hf : f ≤ n := hP.g hs
    have hne : ¬ J1 97 7 = -1 := by rw [hO.2.2.1]; exact nI_ne_m1 (by omega)
    have hQ := h1 J1 b e tk (.inl f) f hx hP rfl (by omega) hO.1
    rw [← hO.2.2.1] at hQ
    exact s66f (by omega) (fun _ => hQ) (fun _ => hne) (fun _ => hQ)
  | inr s' =>
    have hO : RC T n (fm R) I J1 s' := hO
    obtain ⟨z1, z2⟩ := hP.z hs (Nat.zero_le _)
    have z3 := z1.1
    have z4 := z1.2.1
    refine s66g (s := s') (T := T) (n := n) (I0 := I) hO.2.2.2.2.2.1 (hP.k hTT (hx.K hTT)).2 (by omega) (fun ht => ?_) (fun _ => z1) (fun _ => by omega) (fun _ => hO) (fun ht J2 hf => ?_)
    · rw [hO.2.2.1]; exact h0 J1 b e tk s' hx hP ht hO.1 hO.2.2.2.2.2.2.2
    · rw [hf.2.2.1]; exact h1 J2 b e tk (.inr s') (pb s') hx hP (if_neg ht) (by omega) hf.1
/-- the reference reads -/
theorem c211 {b e : Nat} {tk : Nat × Nat} {o : POut} (hT : TR T n I) (hx : Lx T n 0 b e tk) (hP : PP T n 5 0 0 0 (s00 b e tk) o) (hd : 40 ≤ d)
    (h1 : ∀ J E f, pF o = some f → J 260 40 = nI f → RRg I D J E → Q (some (.int 0)) w1 (J, E, RR R))
    (h0 : ∀ J E s', o = .inr s' → (ptk s').1 = 256 → RMk (pz s') (pS s') J E → RRg I D J E → Q (some (.int 1)) w1 (J, E, RR R)) : j_Call d 211 [.ref 260] w1 (I, D, RR R) 0 0 Q := by
  have hTt : ∀ k, k < n → T k < 256 := fun k hk => (hT.2.2 k hk).1
  refine s211a (T := T) (n := n) (by omega) ?_ (by simp (disch := decide) only [j_u_k, j_u_same]; rfl) (Nat.zero_le _) (by rw [j_u_same]) (Nat.le_refl _) (fun J1 b' e' t' hx' hr => ?_)
  · exact hT.cg (by simp (disch := decide) only [j_u_k]) (by funext i; simp (disch := decide) only [j_u_o])
  obtain ⟨q1, q2, q3⟩ := hx.det hx'
  subst q1 q2 q3
  have hs := s00_ok hx
  obtain ⟨r1, r2, r3, r4⟩ := hr
  have hg1 : RRg I D J1 D := ⟨fun q q1 _ => by rw [r1.1 q q1]; funext i; simp (disch := assumption) only [j_u_o], fun i hi => by rw [r1.2 i (by omega) (by omega) (by omega) (by omega) (by omega) (by omega) (by omega)]; simp (disch := omega) only [j_u_k], fun _ _ => rfl⟩
  have g38 : ∀ i, i = 37 ∨ i = 38 ∨ i = 45 → J1 260 i = 0 := fun i hi => by
    rw [r1.2 i (by omega) (by omega) (by omega) (by omega) (by omega) (by omega) (by omega)]
    rcases hi with rfl | rfl | rfl <;> simp (disch := decide) only [j_u_k, j_u_same]
  have hT1 : TR T n J1 := hT.cg (hg1.2.1 34 (by decide)) (hg1.1 422 (by decide) (by decide))
  have hS : RRs T n 0 (s00 b' e' t') J1 D := by
    refine ⟨fun ht => ⟨hT1, r2, r3 ht⟩, fun ht => ?_⟩
    obtain ⟨k1, k2, k3⟩ := r4 ht
    exact ⟨hT1, r2, k1, k2, k3, hx.W hTt, g38 45 (by decide), g38 37 (by decide), 0, Nat.le_refl _, g38 38 (by decide), fun k hk => absurd hk (Nat.not_lt_zero k)⟩
  refine s211b (o := o) (hP.ref.2 (by decide)) (by omega) hs (Nat.zero_le _) (hx.K hTt) hS (fun J E hO hg => ?_)
  have hgg := hg1.tr hg
  have w0 : ∀ x : Int32, RRg I D (j_u J 260 46 x) E := fun x => hgg.tr (RRg.u (by decide) (by decide))
  have wrong : ∀ f, pF o = some f → RRf T n f J → j_W 211 d 0 0 0 0 33 [some (.ref 260)] [] w1 (J, E, RR R) Q := by
    intro f hf hr
    have e0 : (J 260 46 ||| 0) = 1 := by rw [hr.2.2]; decide
    have e1 : (J 260 46 ||| 1) = 1 := by rw [hr.2.2]; decide
    have g40 : ∀ x : Int32, j_u J 260 46 x 260 40 = nI f := fun x => by rw [j_u_k _ _ (by decide)]; exact hr.2.1
    refine s211c (by omega) (fun _ => Or.inr e0) (fun _ _ => h1 _ E f hf (g40 _) (w0 _)) (fun _ h => absurd (e0.symm.trans h) (by decide)) (fun _ => Or.inr e1) (fun _ _ => h1 _ E f hf (g40 _) (w0 _)) (fun _ h => absurd (e1.symm.trans h) (by decide))
  cases o with
  | inl f => exact wrong f rfl hO
  | inr s' =>
    have hO : RRs T n 0 s' J E := hO
    by_cases e : (ptk s').1 = 262
    · exact wrong (pb s') (if_neg (by omega)) (hO.1 e)
    · have hG := hO.2 e
      have h46 := hG.2.2.1
      by_cases e6 : (ptk s').1 = 256
      · have h41 : J 260 41 = 0 := by
          rcases hG.2.2.2.2.1 with ⟨-, h⟩ | ⟨g1, g2, h⟩ | ⟨-, v, -, -, ⟨g, -⟩ | ⟨f, -, g, -⟩⟩ | ⟨g, h, -⟩
          · exact h
          · omega
          · rw [g] at e6; exact absurd e6 (by simp only; omega)
          · rw [g] at e6; exact absurd e6 (by simp only; omega)
          · omega
        have e0 : (J 260 46 ||| 0) = 0 := by rw [h46]; decide
        refine s211c (by omega) (fun _ => Or.inl e0) (fun _ h => absurd e0 h) (fun _ _ => ?_) (fun h => absurd h41 h) (fun h => absurd h41 h) (fun h => absurd h41 h)
        rw [e0, ju_id h46]
        exact h0 J E s' rfl e6 hG.2.2.2.2.2.2.2 hgg
      · have h41 : ¬ J 260 41 = 0 := by
          rcases hG.2.2.2.2.1 with ⟨g, h⟩ | ⟨g1, g2, h⟩ | ⟨h, -⟩ | ⟨g, h, -⟩
          · exact absurd g e6
          · rw [h]; decide
          · rw [h]; decide
          · rw [h]; decide
        have e1 : (J 260 46 ||| 1) = 1 := by rw [h46]; decide
        have g40 : j_u J 260 46 (J 260 46 ||| 1) 260 40 = nI (pb s') := by rw [j_u_k _ _ (by decide)]; exact hG.2.1
        exact s211c (by omega) (fun h => absurd h h41) (fun h => absurd h h41) (fun h => absurd h h41) (fun _ => Or.inr e1) (fun _ _ => h1 _ E (pb s') (if_neg e6) g40 (w0 _)) (fun _ h => absurd (e1.symm.trans h) (by decide))
/-- what the marks name -/
theorem c245 {z : Nat} {f : Nat → Nat × Nat} (hz9 : z ≤ 96) (hs : ∀ k, k < z → stV (f k)) (hM : RMk z f I D) (hq : ∀ x, (∀ v, v < 32 → bt x v = nmB z f v) → Q (some (.int x)) w1 (I, D, RR R)) : j_Call d 245 [.ref 260] w1 (I, D, RR R) 0 0 Q := by
  obtain ⟨h37, m, m1, m2, m3⟩ := hM
  have key : ∀ (r k : Nat) (x : Int32), r + k = z → (∀ v, v < 32 → bt x v = nmB k f v) → j_W 245 d 0 0 0 0 4 [some (.ref 260), some (.int x), some (.int (nI k))] [] w1 (I, D, RR R) Q := by
    have ge24 : ∀ n, n < 2 ^ 31 → ((24 : Int32) ≤ nI n ↔ 24 ≤ n) := fun n hn => nI_leI (a := 24) (by decide) hn
    have lt300 : ∀ n, n < 2 ^ 31 → (nI n < (300 : Int32) ↔ n < 300) := fun n hn => nI_ltI (b := 300) hn (by decide)
    intro r
    induction r with
    | zero =>
      intro k x hk hx
      have : k = z := by omega
      subst this
      exact s245h h37 hz9 hz9 (Nat.zero_le _) (fun _ => hq x hx) (fun h => absurd (Nat.le_refl _) h) (fun h => absurd (Nat.le_refl _) h) (fun h => absurd (Nat.le_refl _) h) (fun h => absurd (Nat.le_refl _) h)
    | succ r ih =>
      intro k x hk hx
      have hkz : k < z := by omega
      obtain ⟨q0, q1, q2, q3⟩ := m3 k hkz
      obtain ⟨v0, v1, v2, v3, v4⟩ := hs k hkz
      have nop : (∀ v, stN (f k) v = false) → j_W 245 d 0 0 0 0 4 [some (.ref 260), some (.int x), some (.int (nI (k + 1)))] [] w1 (I, D, RR R) Q := fun h => ih (k + 1) x (by omega) (fun v hv => by rw [nmB, h v, Bool.or_false]; exact hx v hv)
      by_cases a0 : (f k).1 = 0 ∨ (2 ≤ (f k).1 ∧ (f k).1 ≤ 12)
      · obtain ⟨n', hn1, hn2, hn3⟩ : ∃ n', 24 ≤ n' ∧ n' < 300 ∧ I 423 k = nI n' := by
          rcases a0 with a0 | ⟨a0, a1⟩
          · obtain ⟨j, j1, j2, -⟩ := q0 a0
            exact ⟨100 + j, by omega, by omega, j2⟩
          · exact ⟨198 + (f k).1, by omega, by omega, q2 a0 a1⟩
        have st : ∀ v, stN (f k) v = false := fun v => by
          unfold stN
          rw [decide_eq_false (by omega), decide_eq_false (by omega)]; rfl
        have g24 : (24 : Int32) ≤ I 423 k := by rw [hn3]; exact (ge24 n' (by omega)).mpr hn1
        have g300 : I 423 k < (300 : Int32) := by rw [hn3]; exact (lt300 n' (by omega)).mpr hn2
        exact s245h h37 hz9 (by omega) (Nat.zero_le _) (fun h => absurd h (by omega)) (fun _ _ _ => nop st) (fun _ _ h => absurd g300 h) (fun _ h => absurd g24 h) (fun _ h => absurd g24 h)
      · by_cases a1 : (f k).1 = 1
        · have hw := v2 a1
          have e := q1 a1
          have g24 : ¬ (24 : Int32) ≤ I 423 k := by rw [e]; exact mt (ge24 _ (by omega)).mp (by omega)
          have g300 : I 423 k < (300 : Int32) := by rw [e]; exact (lt300 _ (by omega)).mpr (by omega)
          refine s245h h37 hz9 (by omega) (Nat.zero_le _) (fun h => absurd h (by omega)) (fun _ h => absurd h g24) (fun _ h => absurd h g24) (fun _ _ _ => ih (k + 1) _ (by omega) (fun v hv => ?_)) (fun _ _ h => absurd g300 h)
          rw [b_or, hx v hv, e, bt_one (by omega) hv, nmB]
          unfold stN
          rw [decide_eq_false (show ¬ (13 ≤ (f k).1 ∧ (f k).2 + 24 = v) by omega), Bool.or_false]
          by_cases ev : v = (f k).2
          · rw [decide_eq_true ev, decide_eq_true (show (f k).1 = 1 ∧ (f k).2 = v from ⟨a1, ev.symm⟩)]
          · rw [decide_eq_false ev, decide_eq_false (show ¬ ((f k).1 = 1 ∧ (f k).2 = v) by omega)]
        · have a13 : 13 ≤ (f k).1 := by omega
          have hw := v4 a13
          have e := q3 a13
          have g24 : (24 : Int32) ≤ I 423 k := by rw [e]; exact (ge24 _ (by omega)).mpr (by omega)
          have g300 : ¬ I 423 k < (300 : Int32) := by rw [e]; exact mt (lt300 _ (by omega)).mp (by omega)
          have em : (24 : Int32) + (I 423 k - I 423 k / 10 * 10) = nI (24 + (f k).2) := by
            rw [e, nI_mod10 (by omega), show (300 + 10 * ((f k).1 - 13) + (f k).2) % 10 = (f k).2 by omega]
            exact nI_add 24 _
          refine s245h h37 hz9 (by omega) (Nat.zero_le _) (fun h => absurd h (by omega)) (fun _ _ h => absurd h g300) (fun _ _ _ => ?_) (fun _ h => absurd g24 h) (fun _ h => absurd g24 h)
          rw [em]
          refine ih (k + 1) _ (by omega) (fun v hv => ?_)
          rw [b_or, hx v hv, bt_one (by omega) hv, nmB]
          unfold stN
          rw [decide_eq_false (show ¬ ((f k).1 = 1 ∧ (f k).2 = v) by omega), Bool.false_or]
          by_cases ev : v = 24 + (f k).2
          · rw [decide_eq_true ev, decide_eq_true (show 13 ≤ (f k).1 ∧ (f k).2 + 24 = v from ⟨a13, by omega⟩)]
          · rw [decide_eq_false ev, decide_eq_false (show ¬ (13 ≤ (f k).1 ∧ (f k).2 + 24 = v) by omega)]
  exact s245e (Nat.zero_le _) (key z 0 0 rfl (fun v hv => by rw [b_0]; rfl))
/-- is a table varying it -/
def vrB (β : Bd) (c : Nat) : Bool := anyB 6 fun t => bL β t && vr β t c
theorem vrB_t {β : Bd} {c t : Nat} (ht : t < 6) (h1 : bL β t = true) (h2 : vr β t c = true) : vrB β c = true := anyB_iff.mpr ⟨t, ht, by rw [h1, h2]; rfl⟩
theorem c99 {β : Bd} {c : Nat} (hR : WFR R) (hV : BV β) (hC : CB β I D R) (hc : c < 24) (hd : 1 ≤ d) (h1 : vrB β c = true → Q (some (.int 1)) w1 (I, D, RR R)) (h0 : vrB β c = false → Q (some (.int 0)) w1 (I, D, RR R)) : j_Call d 99 [.ref 108, .int (nI c)] w1 (I, D, RR R) 0 0 Q := by
  have key : ∀ (r t : Nat), r + t = 6 → (∀ u, u < t → (bL β u && vr β u c) = false) → j_W 99 d 0 0 0 0 2 [some (.ref 108), some (.int (nI c)), some (.int (nI t))] [] w1 (I, D, RR R) Q := by
    intro r
    induction r with
    | zero =>
      intro t ht hu
      have : t = 6 := by omega
      subst this
      have hb : vrB β c = false := by
        rw [Bool.eq_false_iff]
        intro h
        obtain ⟨k, k1, k2⟩ := anyB_iff.mp h
        rw [hu k k1] at k2; cases k2
      exact s99h hR (by decide) hd (fun _ => h0 hb) (fun h => absurd (Nat.le_refl _) h) (fun h => absurd (Nat.le_refl _) h) (fun h => absurd (Nat.le_refl _) h) (fun h => absurd (Nat.le_refl _) h)
    | succ r ih =>
      intro t ht hu
      have ht6 : t < 6 := by omega
      obtain ⟨g0, g1⟩ := hC.2 t ht6
      have nxt : (bL β t && vr β t c) = false → j_W 99 d 0 0 0 0 2 [some (.ref 108), some (.int (nI c)), some (.int (nI (t + 1)))] [] w1 (I, D, RR R) Q := fun h => ih (t + 1) (by omega) (fun u hu2 => by
        by_cases e : u = t
        · subst e; exact h
        · exact hu u (by omega))
      cases hl : bL β t with
      | false =>
        rw [hl] at g0
        exact s99h hR (by omega) hd (fun h => absurd h (by omega)) (fun _ _ => nxt (by rw [hl]; rfl)) (fun _ h => absurd g0 h) (fun _ h => absurd g0 h) (fun _ h => absurd g0 h)
      | true =>
        rw [hl] at g0
        obtain ⟨a1, a2, a3, -⟩ := g1 hl
        obtain ⟨w1, w2, w3, w4, -⟩ := hV.2.1 t ht6 hl
        have n0 : ¬ I ((R 113 t).getD 0) 0 = 0 := fun h => absurd (g0.symm.trans h) (by decide)
        have e1 : I ((R 113 t).getD 0) 2 = nI c ↔ c = b1 β t := by
          show I (go R t) 2 = nI c ↔ _
          rw [a2]; exact ⟨fun h => ((nI_eq (by omega) (by omega)).mp h).symm, fun h => by rw [h]⟩
        have e2 : I ((R 113 t).getD 0) 3 = nI c ↔ b2 β t = some c := by
          show I (go R t) 3 = nI c ↔ _
          rw [a3]
          cases hb : b2 β t with
          | none => exact ⟨fun h => absurd h.symm (nI_nm1 hc), fun h => by cases h⟩
          | some o =>
            have := (w4 o hb).1
            exact ⟨fun h => by rw [(nI_eq (by omega) (by omega)).mp h], fun h => by cases h; rfl⟩
        exact s99h hR (by omega) hd (fun h => absurd h (by omega)) (fun _ h => absurd h n0) (fun _ _ h => h1 (vrB_t ht6 hl (by unfold vr; rw [decide_eq_true (e1.mp h)]; rfl))) (fun _ _ h h3 => nxt (by unfold vr; rw [decide_eq_false (mt e1.mpr h), decide_eq_false (mt e2.mpr h3)]; exact Bool.and_false _)) (fun _ _ _ h3 => h1 (vrB_t ht6 hl (by unfold vr; rw [decide_eq_true (e2.mp h3)]; exact Bool.or_true _)))
  exact s99e hR hd (key 6 0 rfl (fun u hu => absurd hu (Nat.not_lt_zero u)))
theorem c244 {β : Bd} {c : Nat} (hV : BV β) (hN : RBN β I) (hc : c < 24) (hd : 1 ≤ d) (h1 : vrB β c = true → Q (some (.int 1)) w1 (I, D, RR R)) (h0 : vrB β c = false → Q (some (.int 0)) w1 (I, D, RR R)) : j_Call d 244 [.ref 260, .int (nI c)] w1 (I, D, RR R) 0 0 Q := by
  have key : ∀ (r t : Nat), r + t = 6 → (∀ u, u < t → (bL β u && vr β u c) = false) → j_W 244 d 0 0 0 0 2 [some (.ref 260), some (.int (nI c)), some (.int (nI t))] [] w1 (I, D, RR R) Q := by
    intro r
    induction r with
    | zero =>
      intro t ht hu
      have : t = 6 := by omega
      subst this
      have hb : vrB β c = false := by
        rw [Bool.eq_false_iff]
        intro h
        obtain ⟨k, k1, k2⟩ := anyB_iff.mp h
        rw [hu k k1] at k2; cases k2
      exact s244h hc (by decide) hd (fun _ => h0 hb) (fun h => absurd (Nat.le_refl _) h) (fun h => absurd (Nat.le_refl _) h) (fun h => absurd (Nat.le_refl _) h)
    | succ r ih =>
      intro t ht hu
      have ht6 : t < 6 := by omega
      have g0 := (hN.2 t ht6).1
      have nxt : (bL β t && vr β t c) = false → j_W 244 d 0 0 0 0 2 [some (.ref 260), some (.int (nI c)), some (.int (nI (t + 1)))] [] w1 (I, D, RR R) Q := fun h => ih (t + 1) (by omega) (fun u hu2 => by
        by_cases e : u = t
        · subst e; exact h
        · exact hu u (by omega))
      cases hl : bL β t with
      | false =>
        rw [hl] at g0
        exact s244h hc (by omega) hd (fun h => absurd h (by omega)) (fun _ _ => nxt (by rw [hl]; rfl)) (fun _ h => absurd g0 h) (fun _ h => absurd g0 h)
      | true =>
        rw [hl] at g0
        have n0 : ¬ I 315 t = 0 := fun h => absurd (g0.symm.trans h) (by decide)
        have hr := rvy_b hV hN ht6 hl (v := c) (by omega)
        exact s244h hc (by omega) hd (fun h => absurd h (by omega)) (fun _ h => absurd h n0) (fun _ _ h => nxt (by rw [← hr, n1_f (by omega) h]; exact Bool.and_false _)) (fun _ _ h => h1 (vrB_t ht6 hl (by rw [← hr]; exact (hn_1 (by omega)).mp h)))
  exact s244e hc hd (key 6 0 rfl (fun u hu => absurd hu (Nat.not_lt_zero u)))
end RD
