/-! a table laid, a formula taken, unless it is too heavy -/
set_option maxRecDepth 10000 in
set_option maxHeartbeats 4000000 in
theorem s106 {d : Nat} {I : Nat → Nat → Int32} {D : Nat → Nat → UInt64} {R : Nat → Nat → Option Nat} {Q : j_Po} {t : Nat} {β β2 : Bd} (hR : WFR R) (ht : t < 6) (hd : 4 ≤ d)
    (v1 : WFR (j_u R 113 t (some ((R 0 6).getD 0))))
    (v2 : 3 ≤ d - 1)
    (v3 : BV β2)
    (v4 : CB β2 I D (j_u R 113 t (some ((R 0 6).getD 0))))
    (v5 : NB I)
    (v6 : ∀ J5 : Nat → Nat → Int32, (∀ o', (o' < 205 ∨ 211 ≤ o') → J5 o' = I o') → (NM β2 J5) → (OrdB β2 J5) → (∃ v, v < 30 ∧ ¬ J5 208 v ≤ 2000) → WFR (j_u (j_u R 113 t (some ((R 0 6).getD 0))) 113 t (some ((R 113 t).getD 0))))
    (v7 : ∀ J5 : Nat → Nat → Int32, (∀ o', (o' < 205 ∨ 211 ≤ o') → J5 o' = I o') → (NM β2 J5) → (OrdB β2 J5) → (∃ v, v < 30 ∧ ¬ J5 208 v ≤ 2000) → BV β)
    (v8 : ∀ J5 : Nat → Nat → Int32, (∀ o', (o' < 205 ∨ 211 ≤ o') → J5 o' = I o') → (NM β2 J5) → (OrdB β2 J5) → (∃ v, v < 30 ∧ ¬ J5 208 v ≤ 2000) → CB β J5 D (j_u (j_u R 113 t (some ((R 0 6).getD 0))) 113 t (some ((R 113 t).getD 0))))
    (v9 : ∀ J5 : Nat → Nat → Int32, (∀ o', (o' < 205 ∨ 211 ≤ o') → J5 o' = I o') → (NM β2 J5) → (OrdB β2 J5) → (∃ v, v < 30 ∧ ¬ J5 208 v ≤ 2000) → NB J5)
    (v10 : ∀ J5 : Nat → Nat → Int32, (∀ o', (o' < 205 ∨ 211 ≤ o') → J5 o' = I o') → (NM β2 J5) → (OrdB β2 J5) → (∃ v, v < 30 ∧ ¬ J5 208 v ≤ 2000) → ∀ J10 : Nat → Nat → Int32, (∀ o', (o' < 205 ∨ 211 ≤ o') → J10 o' = J5 o') → (NM β J10) → (OrdB β J10) → Q (some (.int 0)) w1 (J10, D, RR (j_u (j_u R 113 t (some ((R 0 6).getD 0))) 113 t (some ((R 113 t).getD 0)))))
    (v11 : ∀ J5 : Nat → Nat → Int32, (∀ o', (o' < 205 ∨ 211 ≤ o') → J5 o' = I o') → (NM β2 J5) → (OrdB β2 J5) → (∀ v, v < 30 → J5 208 v ≤ 2000) → Q (some (.int 1)) w1 (J5, D, RR (j_u (j_u R 113 t (some ((R 0 6).getD 0))) 0 6 (some ((R 113 t).getD 0))))) : j_Call d 106 [.ref 0, .int (nI t)] w1 (I, D, RR R) 0 0 Q := by
  refine q_enter (L := [some (.ref 0), some (.int (nI t)), none]) j_m106 (Nat.le_of_ble_eq_true rfl) rfl ?_
  refine q_aload_n d106_0 rfl ?_
  refine q_getR (x := 108) d106_1 (fs9_53 106 rfl) rfl (lt_w1 rfl) sh0 (rs0_1 R) (by decide) ?_
  refine q_getR (x := 113) d106_4 (fs9_197 106 rfl) rfl (lt_w1 rfl) sh108 (rs108_4 R) (by decide) ?_
  refine q_iload_n d106_7 rfl ?_
  have g2 := hR.g t (by omega)
  refine q_aaload (c := 7) (a := t) (x := ((R 113 t).getD 0)) d106_8 (lt_w1 rfl) sh113 (by decide) rfl (by omega) ((RR_d rfl).trans g2.1) (lt1000 (isG_lt g2.2)) ?_
  refine q_astore_n (L' := [some (.ref 0), some (.int (nI t)), some (.ref ((R 113 t).getD 0))]) d106_9 (Nat.le_of_ble_eq_true rfl) (Nat.ne_of_lt (Nat.lt_trans (lt1000 (isG_lt g2.2)) (by decide))) rfl ?_
  refine q_aload_n d106_10 rfl ?_
  refine q_getR (x := 108) d106_11 (fs9_53 106 rfl) rfl (lt_w1 rfl) sh0 (rs0_1 R) (by decide) ?_
  refine q_getR (x := 113) d106_14 (fs9_197 106 rfl) rfl (lt_w1 rfl) sh108 (rs108_4 R) (by decide) ?_
  refine q_iload_n d106_17 rfl ?_
  refine q_aload_n d106_18 rfl ?_
  have g4 := hR.s
  refine q_getR (x := ((R 0 6).getD 0)) d106_19 (fs9_26 106 rfl) rfl (lt_w1 rfl) sh0 ((RR_d rfl).trans g4.1) (lt1000 (isG_lt g4.2)) ?_
  refine r_aastore (c := 7) (a := t) d106_22 (lt_w1 rfl) sh113 (by decide) rfl (by omega) (isG_lt g4.2) (isG_sh g4.2) rfl ?_
  refine q_aload_n d106_23 rfl ?_
  refine q_getR (x := 204) d106_24 (fs9_58 106 rfl) rfl (lt_w1 rfl) sh0 (rs0_2 (j_u R 113 t (some ((R 0 6).getD 0)))) (by decide) ?_
  refine q_aload_n d106_27 rfl ?_
  refine q_getR (x := 108) d106_28 (fs9_53 106 rfl) rfl (lt_w1 rfl) sh0 (rs0_1 (j_u R 113 t (some ((R 0 6).getD 0)))) (by decide) ?_
  refine q_invV (o := 204) (ci := 4) (av := [.ref 108]) (rest := []) (d' := (d - 1)) (mc' := 0) (ms' := 0) d106_31 (cv9_99 106 rfl) rfl (by decide) rfl rfl (by omega) (Nat.le_of_ble_eq_true rfl) (Nat.le_of_ble_eq_true rfl) (lt_w1 rfl) sh204 (Nat.le_refl _) (Nat.le_refl _) ?_
  refine c19 (β := β2) v1 v2 v3 v4 v5 (fun J5 j6 j7 j8 => ?_)
  show j_W 106 d 0 0 0 0 34 [some (.ref 0), some (.int (nI t)), some (.ref ((R 113 t).getD 0))] [] w1 (J5, D, RR (j_u R 113 t (some ((R 0 6).getD 0)))) Q
  refine q_aload_n d106_34 rfl ?_
  refine q_getR (x := 204) d106_35 (fs9_58 106 rfl) rfl (lt_w1 rfl) sh0 (rs0_2 (j_u R 113 t (some ((R 0 6).getD 0)))) (by decide) ?_
  refine q_invV (o := 204) (ci := 4) (av := []) (rest := []) (d' := 0) (mc' := 0) (ms' := 0) d106_38 (cv9_406 106 rfl) rfl (by decide) rfl rfl (by omega) (Nat.le_of_ble_eq_true rfl) (Nat.le_of_ble_eq_true rfl) (lt_w1 rfl) sh204 (Nat.le_refl _) (Nat.le_refl _) ?_
  refine c103  (fun h9 => ?_) (fun h9 => ?_)
  ·
    show j_W 106 d 0 0 0 0 41 [some (.ref 0), some (.int (nI t)), some (.ref ((R 113 t).getD 0))] [.int 1] w1 (J5, D, RR (j_u R 113 t (some ((R 0 6).getD 0)))) Q
    refine q_if_eq (tgt := 67) d106_41 rfl (fun h => absurd h (by decide)) (fun _ => ?_)
    refine q_aload_n d106_44 rfl ?_
    refine q_getR (x := 108) d106_45 (fs9_53 106 rfl) rfl (lt_w1 rfl) sh0 (rs0_1 (j_u R 113 t (some ((R 0 6).getD 0)))) (by decide) ?_
    refine q_getR (x := 113) d106_48 (fs9_197 106 rfl) rfl (lt_w1 rfl) sh108 (rs108_4 (j_u R 113 t (some ((R 0 6).getD 0)))) (by decide) ?_
    refine q_iload_n d106_51 rfl ?_
    refine q_aload_n d106_52 rfl ?_
    refine r_aastore (c := 7) (a := t) d106_53 (lt_w1 rfl) sh113 (by decide) rfl (by omega) (isG_lt g2.2) (isG_sh g2.2) rfl ?_
    refine q_aload_n d106_54 rfl ?_
    refine q_getR (x := 204) d106_55 (fs9_58 106 rfl) rfl (lt_w1 rfl) sh0 (rs0_2 (j_u (j_u R 113 t (some ((R 0 6).getD 0))) 113 t (some ((R 113 t).getD 0)))) (by decide) ?_
    refine q_aload_n d106_58 rfl ?_
    refine q_getR (x := 108) d106_59 (fs9_53 106 rfl) rfl (lt_w1 rfl) sh0 (rs0_1 (j_u (j_u R 113 t (some ((R 0 6).getD 0))) 113 t (some ((R 113 t).getD 0)))) (by decide) ?_
    refine q_invV (o := 204) (ci := 4) (av := [.ref 108]) (rest := []) (d' := (d - 1)) (mc' := 0) (ms' := 0) d106_62 (cv9_99 106 rfl) rfl (by decide) rfl rfl (by omega) (Nat.le_of_ble_eq_true rfl) (Nat.le_of_ble_eq_true rfl) (lt_w1 rfl) sh204 (Nat.le_refl _) (Nat.le_refl _) ?_
    refine c19 (β := β) (v6 J5 j6 j7 j8 h9) v2 (v7 J5 j6 j7 j8 h9) (v8 J5 j6 j7 j8 h9) (v9 J5 j6 j7 j8 h9) (fun J10 j11 j12 j13 => ?_)
    show j_W 106 d 0 0 0 0 65 [some (.ref 0), some (.int (nI t)), some (.ref ((R 113 t).getD 0))] [] w1 (J10, D, RR (j_u (j_u R 113 t (some ((R 0 6).getD 0))) 113 t (some ((R 113 t).getD 0)))) Q
    refine q_iconst (v := 0) (by decide) d106_65 ?_
    exact q_zret d106_66 rfl (Or.inl rfl) (Nat.le_refl _) (Nat.le_refl _) (v10 J5 j6 j7 j8 h9 J10 j11 j12 j13)
  ·
    show j_W 106 d 0 0 0 0 41 [some (.ref 0), some (.int (nI t)), some (.ref ((R 113 t).getD 0))] [.int 0] w1 (J5, D, RR (j_u R 113 t (some ((R 0 6).getD 0)))) Q
    refine q_if_eq (tgt := 67) d106_41 rfl (fun _ => ?_) (fun h => absurd h (by decide))
    refine q_aload_n d106_67 rfl ?_
    refine q_aload_n d106_68 rfl ?_
    refine r_putR d106_69 (fs9_26 106 rfl) (Or.inl rfl) (Or.inl ⟨_, rfl⟩) (lt1000 (isG_lt g2.2)) rfl (lt_w1 rfl) sh0 ?_
    refine q_iconst (v := 1) (by decide) d106_72 ?_
    exact q_zret d106_73 rfl (Or.inr rfl) (Nat.le_refl _) (Nat.le_refl _) (v11 J5 j6 j7 j8 h9)

set_option maxRecDepth 10000 in
set_option maxHeartbeats 4000000 in
theorem s102 {d : Nat} {I : Nat → Nat → Int32} {D : Nat → Nat → UInt64} {R : Nat → Nat → Option Nat} {Q : j_Po} {c : Nat} {β β2 : Bd} (hR : WFR R) (hc : c < 24) (hd : 4 ≤ d)
    (v1 : WFR (j_u R 112 c (some ((R 97 2).getD 0))))
    (v2 : 3 ≤ d - 1)
    (v3 : BV β2)
    (v4 : CB β2 I D (j_u R 112 c (some ((R 97 2).getD 0))))
    (v5 : NB I)
    (v6 : ∀ J5 : Nat → Nat → Int32, (∀ o', (o' < 205 ∨ 211 ≤ o') → J5 o' = I o') → (NM β2 J5) → (OrdB β2 J5) → (∃ v, v < 30 ∧ ¬ J5 208 v ≤ 2000) → WFR (j_u (j_u R 112 c (some ((R 97 2).getD 0))) 112 c (some ((R 112 c).getD 0))))
    (v7 : ∀ J5 : Nat → Nat → Int32, (∀ o', (o' < 205 ∨ 211 ≤ o') → J5 o' = I o') → (NM β2 J5) → (OrdB β2 J5) → (∃ v, v < 30 ∧ ¬ J5 208 v ≤ 2000) → BV β)
    (v8 : ∀ J5 : Nat → Nat → Int32, (∀ o', (o' < 205 ∨ 211 ≤ o') → J5 o' = I o') → (NM β2 J5) → (OrdB β2 J5) → (∃ v, v < 30 ∧ ¬ J5 208 v ≤ 2000) → CB β J5 D (j_u (j_u R 112 c (some ((R 97 2).getD 0))) 112 c (some ((R 112 c).getD 0))))
    (v9 : ∀ J5 : Nat → Nat → Int32, (∀ o', (o' < 205 ∨ 211 ≤ o') → J5 o' = I o') → (NM β2 J5) → (OrdB β2 J5) → (∃ v, v < 30 ∧ ¬ J5 208 v ≤ 2000) → NB J5)
    (v10 : ∀ J5 : Nat → Nat → Int32, (∀ o', (o' < 205 ∨ 211 ≤ o') → J5 o' = I o') → (NM β2 J5) → (OrdB β2 J5) → (∃ v, v < 30 ∧ ¬ J5 208 v ≤ 2000) → ∀ J10 : Nat → Nat → Int32, (∀ o', (o' < 205 ∨ 211 ≤ o') → J10 o' = J5 o') → (NM β J10) → (OrdB β J10) → Q (some (.int 0)) w1 (J10, D, RR (j_u (j_u R 112 c (some ((R 97 2).getD 0))) 112 c (some ((R 112 c).getD 0)))))
    (v11 : ∀ J5 : Nat → Nat → Int32, (∀ o', (o' < 205 ∨ 211 ≤ o') → J5 o' = I o') → (NM β2 J5) → (OrdB β2 J5) → (∀ v, v < 30 → J5 208 v ≤ 2000) → Q (some (.int 1)) w1 (J5, D, RR (j_u (j_u R 112 c (some ((R 97 2).getD 0))) 97 2 (some ((R 112 c).getD 0))))) : j_Call d 102 [.ref 0, .int (nI c)] w1 (I, D, RR R) 0 0 Q := by
  refine q_enter (L := [some (.ref 0), some (.int (nI c)), none]) j_m102 (Nat.le_of_ble_eq_true rfl) rfl ?_
  refine q_aload_n d102_0 rfl ?_
  refine q_getR (x := 108) d102_1 (fs9_53 102 rfl) rfl (lt_w1 rfl) sh0 (rs0_1 R) (by decide) ?_
  refine q_getR (x := 112) d102_4 (fs9_90 102 rfl) rfl (lt_w1 rfl) sh108 (rs108_3 R) (by decide) ?_
  refine q_iload_n d102_7 rfl ?_
  have g2 := hR.f c (by omega)
  refine q_aaload (c := 6) (a := c) (x := ((R 112 c).getD 0)) d102_8 (lt_w1 rfl) sh112 (by decide) rfl (by omega) ((RR_d rfl).trans g2.1) (lt1000 (isF_lt g2.2)) ?_
  refine q_astore_n (L' := [some (.ref 0), some (.int (nI c)), some (.ref ((R 112 c).getD 0))]) d102_9 (Nat.le_of_ble_eq_true rfl) (Nat.ne_of_lt (Nat.lt_trans (lt1000 (isF_lt g2.2)) (by decide))) rfl ?_
  refine q_aload_n d102_10 rfl ?_
  refine q_getR (x := 108) d102_11 (fs9_53 102 rfl) rfl (lt_w1 rfl) sh0 (rs0_1 R) (by decide) ?_
  refine q_getR (x := 112) d102_14 (fs9_90 102 rfl) rfl (lt_w1 rfl) sh108 (rs108_3 R) (by decide) ?_
  refine q_iload_n d102_17 rfl ?_
  refine q_aload_n d102_18 rfl ?_
  refine q_getR (x := 97) d102_19 (fs9_19 102 rfl) rfl (lt_w1 rfl) sh0 (rs0_5 R) (by decide) ?_
  have g4 := hR.m
  refine q_getR (x := ((R 97 2).getD 0)) d102_22 (fs9_166 102 rfl) rfl (lt_w1 rfl) sh97 ((RR_d rfl).trans g4.1) (lt1000 (isF_lt g4.2)) ?_
  refine r_aastore (c := 6) (a := c) d102_25 (lt_w1 rfl) sh112 (by decide) rfl (by omega) (isF_lt g4.2) (isF_sh g4.2) rfl ?_
  refine q_aload_n d102_26 rfl ?_
  refine q_getR (x := 204) d102_27 (fs9_58 102 rfl) rfl (lt_w1 rfl) sh0 (rs0_2 (j_u R 112 c (some ((R 97 2).getD 0)))) (by decide) ?_
  refine q_aload_n d102_30 rfl ?_
  refine q_getR (x := 108) d102_31 (fs9_53 102 rfl) rfl (lt_w1 rfl) sh0 (rs0_1 (j_u R 112 c (some ((R 97 2).getD 0)))) (by decide) ?_
  refine q_invV (o := 204) (ci := 4) (av := [.ref 108]) (rest := []) (d' := (d - 1)) (mc' := 0) (ms' := 0) d102_34 (cv9_99 102 rfl) rfl (by decide) rfl rfl (by omega) (Nat.le_of_ble_eq_true rfl) (Nat.le_of_ble_eq_true rfl) (lt_w1 rfl) sh204 (Nat.le_refl _) (Nat.le_refl _) ?_
  refine c19 (β := β2) v1 v2 v3 v4 v5 (fun J5 j6 j7 j8 => ?_)
  show j_W 102 d 0 0 0 0 37 [some (.ref 0), some (.int (nI c)), some (.ref ((R 112 c).getD 0))] [] w1 (J5, D, RR (j_u R 112 c (some ((R 97 2).getD 0)))) Q
  refine q_aload_n d102_37 rfl ?_
  refine q_getR (x := 204) d102_38 (fs9_58 102 rfl) rfl (lt_w1 rfl) sh0 (rs0_2 (j_u R 112 c (some ((R 97 2).getD 0)))) (by decide) ?_
  refine q_invV (o := 204) (ci := 4) (av := []) (rest := []) (d' := 0) (mc' := 0) (ms' := 0) d102_41 (cv9_406 102 rfl) rfl (by decide) rfl rfl (by omega) (Nat.le_of_ble_eq_true rfl) (Nat.le_of_ble_eq_true rfl) (lt_w1 rfl) sh204 (Nat.le_refl _) (Nat.le_refl _) ?_
  refine c103  (fun h9 => ?_) (fun h9 => ?_)
  ·
    show j_W 102 d 0 0 0 0 44 [some (.ref 0), some (.int (nI c)), some (.ref ((R 112 c).getD 0))] [.int 1] w1 (J5, D, RR (j_u R 112 c (some ((R 97 2).getD 0)))) Q
    refine q_if_eq (tgt := 70) d102_44 rfl (fun h => absurd h (by decide)) (fun _ => ?_)
    refine q_aload_n d102_47 rfl ?_
    refine q_getR (x := 108) d102_48 (fs9_53 102 rfl) rfl (lt_w1 rfl) sh0 (rs0_1 (j_u R 112 c (some ((R 97 2).getD 0)))) (by decide) ?_
    refine q_getR (x := 112) d102_51 (fs9_90 102 rfl) rfl (lt_w1 rfl) sh108 (rs108_3 (j_u R 112 c (some ((R 97 2).getD 0)))) (by decide) ?_
    refine q_iload_n d102_54 rfl ?_
    refine q_aload_n d102_55 rfl ?_
    refine r_aastore (c := 6) (a := c) d102_56 (lt_w1 rfl) sh112 (by decide) rfl (by omega) (isF_lt g2.2) (isF_sh g2.2) rfl ?_
    refine q_aload_n d102_57 rfl ?_
    refine q_getR (x := 204) d102_58 (fs9_58 102 rfl) rfl (lt_w1 rfl) sh0 (rs0_2 (j_u (j_u R 112 c (some ((R 97 2).getD 0))) 112 c (some ((R 112 c).getD 0)))) (by decide) ?_
    refine q_aload_n d102_61 rfl ?_
    refine q_getR (x := 108) d102_62 (fs9_53 102 rfl) rfl (lt_w1 rfl) sh0 (rs0_1 (j_u (j_u R 112 c (some ((R 97 2).getD 0))) 112 c (some ((R 112 c).getD 0)))) (by decide) ?_
    refine q_invV (o := 204) (ci := 4) (av := [.ref 108]) (rest := []) (d' := (d - 1)) (mc' := 0) (ms' := 0) d102_65 (cv9_99 102 rfl) rfl (by decide) rfl rfl (by omega) (Nat.le_of_ble_eq_true rfl) (Nat.le_of_ble_eq_true rfl) (lt_w1 rfl) sh204 (Nat.le_refl _) (Nat.le_refl _) ?_
    refine c19 (β := β) (v6 J5 j6 j7 j8 h9) v2 (v7 J5 j6 j7 j8 h9) (v8 J5 j6 j7 j8 h9) (v9 J5 j6 j7 j8 h9) (fun J10 j11 j12 j13 => ?_)
    show j_W 102 d 0 0 0 0 68 [some (.ref 0), some (.int (nI c)), some (.ref ((R 112 c).getD 0))] [] w1 (J10, D, RR (j_u (j_u R 112 c (some ((R 97 2).getD 0))) 112 c (some ((R 112 c).getD 0)))) Q
    refine q_iconst (v := 0) (by decide) d102_68 ?_
    exact q_zret d102_69 rfl (Or.inl rfl) (Nat.le_refl _) (Nat.le_refl _) (v10 J5 j6 j7 j8 h9 J10 j11 j12 j13)
  ·
    show j_W 102 d 0 0 0 0 44 [some (.ref 0), some (.int (nI c)), some (.ref ((R 112 c).getD 0))] [.int 0] w1 (J5, D, RR (j_u R 112 c (some ((R 97 2).getD 0)))) Q
    refine q_if_eq (tgt := 70) d102_44 rfl (fun _ => ?_) (fun h => absurd h (by decide))
    refine q_aload_n d102_70 rfl ?_
    refine q_getR (x := 97) d102_71 (fs9_19 102 rfl) rfl (lt_w1 rfl) sh0 (rs0_5 (j_u R 112 c (some ((R 97 2).getD 0)))) (by decide) ?_
    refine q_aload_n d102_74 rfl ?_
    refine r_putR d102_75 (fs9_166 102 rfl) (Or.inl rfl) (Or.inl ⟨_, rfl⟩) (lt1000 (isF_lt g2.2)) rfl (lt_w1 rfl) sh97 ?_
    refine q_iconst (v := 1) (by decide) d102_78 ?_
    exact q_zret d102_79 rfl (Or.inr rfl) (Nat.le_refl _) (Nat.le_refl _) (v11 J5 j6 j7 j8 h9)

theorem j_u_u {α : Type} (f : Nat → Nat → α) (o k : Nat) (v v' : α) : j_u (j_u f o k v) o k v' = j_u f o k v' := by
  funext o' i
  unfold j_u
  by_cases e : o' = o
  · rw [if_pos e, if_pos e]
    by_cases e2 : i = k
    · rw [if_pos e2, if_pos e2]
    · rw [if_neg e2, if_neg e2, if_pos rfl, if_neg e2]
  · rw [if_neg e, if_neg e, if_neg e]
theorem j_u_back {α : Type} (f : Nat → Nat → α) (o k : Nat) (v v' : α) (h : f o k = v') : j_u (j_u f o k v) o k v' = f := by rw [j_u_u, ← h, j_u_id]
theorem lessB.rf {β : Bd} : lessB β β := ⟨fun c hc => Or.inr ⟨rfl, rfl⟩, fun t ht hl => ⟨hl, rfl, rfl⟩⟩
theorem nb_le {I : Nat → Nat → Int32} (h : NB I) {v : Nat} (hv : v < 30) : I 208 v ≤ 2000 ↔ bu I v ≤ 2000 := by
  obtain ⟨h1, h2⟩ := h.1 v hv
  have e : nI (bu I v) ≤ (2000 : Int32) ↔ bu I v ≤ 2000 := nI_leI (b := 2000) (by omega) (by decide)
  rw [← e, ← h1]
theorem WFR.u113 {R : Nat → Nat → Option Nat} (h : WFR R) {t x : Nat} (hx : isBG x) : WFR (j_u R 113 t (some x)) := by
  refine ⟨fun c hc => ?_, fun u hu => ?_, ?_, ?_⟩
  · unfold fo; rw [j_u_o _ _ _ (by decide)]; exact h.1 c hc
  · unfold go
    by_cases e : u = t
    · subst e; rw [j_u_same]; exact ⟨rfl, hx⟩
    · rw [j_u_k _ _ e]; exact h.2.1 u hu
  · unfold fm; rw [j_u_o _ _ _ (by decide)]; exact h.2.2.1
  · unfold gs; rw [j_u_o _ _ _ (by decide)]; exact h.2.2.2
theorem WFR.u112 {R : Nat → Nat → Option Nat} (h : WFR R) {c x : Nat} (hx : isBF x) : WFR (j_u R 112 c (some x)) := by
  refine ⟨fun u hu => ?_, fun u hu => ?_, ?_, ?_⟩
  · unfold fo
    by_cases e : u = c
    · subst e; rw [j_u_same]; exact ⟨rfl, hx⟩
    · rw [j_u_k _ _ e]; exact h.1 u hu
  · unfold go; rw [j_u_o _ _ _ (by decide)]; exact h.2.1 u hu
  · unfold fm; rw [j_u_o _ _ _ (by decide)]; exact h.2.2.1
  · unfold gs; rw [j_u_o _ _ _ (by decide)]; exact h.2.2.2
theorem WFR.sw113 {R : Nat → Nat → Option Nat} (h : WFR R) {t : Nat} (ht : t < 6) : WFR (j_u (j_u R 113 t (some (gs R))) 0 6 (some (go R t))) := by
  have h1 := h.u113 (t := t) h.2.2.2.2
  refine ⟨fun u hu => ?_, fun u hu => ?_, ?_, ?_⟩
  · unfold fo; rw [j_u_o _ _ _ (by decide)]; exact h1.1 u hu
  · unfold go; rw [j_u_o _ _ _ (by decide)]; exact h1.2.1 u hu
  · unfold fm; rw [j_u_o _ _ _ (by decide)]; exact h1.2.2.1
  · unfold gs; rw [j_u_same]; exact ⟨rfl, (h.2.1 t ht).2⟩
theorem WFD.sw113 {R : Nat → Nat → Option Nat} (h : WFD R) {t : Nat} (ht : t < 6) : WFD (j_u (j_u R 113 t (some (gs R))) 0 6 (some (go R t))) := by
  have hf : ∀ c, fo (j_u (j_u R 113 t (some (gs R))) 0 6 (some (go R t))) c = fo R c := fun c => by
    unfold fo; rw [j_u_o _ _ _ (by decide), j_u_o _ _ _ (by decide)]
  have hm : fm (j_u (j_u R 113 t (some (gs R))) 0 6 (some (go R t))) = fm R := by
    unfold fm; rw [j_u_o _ _ _ (by decide), j_u_o _ _ _ (by decide)]
  have hg : ∀ u, go (j_u (j_u R 113 t (some (gs R))) 0 6 (some (go R t))) u = if u = t then gs R else go R u := fun u => by
    show (j_u (j_u R 113 t (some (gs R))) 0 6 (some (go R t)) 113 u).getD 0 = _
    rw [j_u_o _ _ _ (by decide)]
    by_cases e : u = t
    · subst e; rw [j_u_same, if_pos rfl]; rfl
    · rw [j_u_k _ _ e, if_neg e]
  have hs : gs (j_u (j_u R 113 t (some (gs R))) 0 6 (some (go R t))) = go R t := by
    show (j_u (j_u R 113 t (some (gs R))) 0 6 (some (go R t)) 0 6).getD 0 = _
    rw [j_u_same]; rfl
  obtain ⟨a1, a2, a3, a4⟩ := h
  refine ⟨fun c c' hc hc' e => ?_, fun c hc => ?_, fun u u' hu hu' e => ?_, fun u hu => ?_⟩
  · rw [hf, hf] at e; exact a1 c c' hc hc' e
  · rw [hf, hm]; exact a2 c hc
  · rw [hg, hg] at e
    by_cases e1 : u = t
    · by_cases e2 : u' = t
      · rw [e1, e2]
      · rw [if_pos e1, if_neg e2] at e; exact absurd e.symm (a4 u' hu')
    · by_cases e2 : u' = t
      · rw [if_neg e1, if_pos e2] at e; exact absurd e (a4 u hu)
      · rw [if_neg e1, if_neg e2] at e; exact a3 u u' hu hu' e
  · rw [hg, hs]
    by_cases e1 : u = t
    · rw [if_pos e1]; exact fun e => a4 t ht e.symm
    · rw [if_neg e1]; exact fun e => e1 (a3 u t hu ht e)
theorem WFR.sw112 {R : Nat → Nat → Option Nat} (h : WFR R) {t : Nat} (ht : t < 24) : WFR (j_u (j_u R 112 t (some (fm R))) 97 2 (some (fo R t))) := by
  have h1 := h.u112 (c := t) h.2.2.1.2
  refine ⟨fun u hu => ?_, fun u hu => ?_, ?_, ?_⟩
  · unfold fo; rw [j_u_o _ _ _ (by decide)]; exact h1.1 u hu
  · unfold go; rw [j_u_o _ _ _ (by decide)]; exact h1.2.1 u hu
  · unfold fm; rw [j_u_same]; exact ⟨rfl, (h.1 t ht).2⟩
  · unfold gs; rw [j_u_o _ _ _ (by decide)]; exact h1.2.2.2
theorem WFD.sw112 {R : Nat → Nat → Option Nat} (h : WFD R) {t : Nat} (ht : t < 24) : WFD (j_u (j_u R 112 t (some (fm R))) 97 2 (some (fo R t))) := by
  have hf : ∀ c, go (j_u (j_u R 112 t (some (fm R))) 97 2 (some (fo R t))) c = go R c := fun c => by
    unfold go; rw [j_u_o _ _ _ (by decide), j_u_o _ _ _ (by decide)]
  have hm : gs (j_u (j_u R 112 t (some (fm R))) 97 2 (some (fo R t))) = gs R := by
    unfold gs; rw [j_u_o _ _ _ (by decide), j_u_o _ _ _ (by decide)]
  have hg : ∀ u, fo (j_u (j_u R 112 t (some (fm R))) 97 2 (some (fo R t))) u = if u = t then fm R else fo R u := fun u => by
    show (j_u (j_u R 112 t (some (fm R))) 97 2 (some (fo R t)) 112 u).getD 0 = _
    rw [j_u_o _ _ _ (by decide)]
    by_cases e : u = t
    · subst e; rw [j_u_same, if_pos rfl]; rfl
    · rw [j_u_k _ _ e, if_neg e]
  have hs : fm (j_u (j_u R 112 t (some (fm R))) 97 2 (some (fo R t))) = fo R t := by
    show (j_u (j_u R 112 t (some (fm R))) 97 2 (some (fo R t)) 97 2).getD 0 = _
    rw [j_u_same]; rfl
  obtain ⟨a3, a4, a1, a2⟩ := h
  refine ⟨fun u u' hu hu' e => ?_, fun u hu => ?_, fun c c' hc hc' e => ?_, fun c hc => ?_⟩
  · rw [hg, hg] at e
    by_cases e1 : u = t
    · by_cases e2 : u' = t
      · rw [e1, e2]
      · rw [if_pos e1, if_neg e2] at e; exact absurd e.symm (a4 u' hu')
    · by_cases e2 : u' = t
      · rw [if_neg e1, if_pos e2] at e; exact absurd e (a4 u hu)
      · rw [if_neg e1, if_neg e2] at e; exact a3 u u' hu hu' e
  · rw [hg, hs]
    by_cases e1 : u = t
    · rw [if_pos e1]; exact fun e => a4 t ht e.symm
    · rw [if_neg e1]; exact fun e => e1 (a3 u t hu ht e)
  · rw [hf, hf] at e; exact a1 c c' hc hc' e
  · rw [hf, hm]; exact a2 c hc
section LS
variable {d : Nat} {I : Nat → Nat → Int32} {D : Nat → Nat → UInt64} {R : Nat → Nat → Option Nat} {Q : j_Po} {β β2 : Bd}
theorem NB.cg {I J : Nat → Nat → Int32} (h : NB I) (h8 : J 208 = I 208) (h9 : J 209 = I 209) : NB J := by
  unfold NB bu shr at h ⊢; rw [h8, h9]; exact h
theorem c106 {t : Nat} (hR : WFR R) (ht : t < 6) (hd : 5 ≤ d) (hV : BV β) (hC : CB β I D R) (hB : NB I) (hV2 : BV β2) (hC2 : CB β2 I D (j_u R 113 t (some (gs R))))
    (hok : ∀ J, (∀ o', (o' < 205 ∨ 211 ≤ o') → J o' = I o') → NM β2 J → OrdB β2 J → (∀ v, v < 30 → bu J v ≤ 2000) → Q (some (.int 1)) w1 (J, D, RR (j_u (j_u R 113 t (some (gs R))) 0 6 (some (go R t)))))
    (hno : ∀ J, (∀ o', (o' < 205 ∨ 211 ≤ o') → J o' = I o') → NM β J → OrdB β J → (∃ J', NM β2 J' ∧ ∃ v, v < 30 ∧ 2000 < bu J' v) → Q (some (.int 0)) w1 (J, D, RR R)) : j_Call d 106 [.ref 0, .int (nI t)] w1 (I, D, RR R) 0 0 Q := by
  have eR : j_u (j_u R 113 t (some ((R 0 6).getD 0))) 113 t (some ((R 113 t).getD 0)) = R := j_u_back _ _ _ _ _ (hR.2.1 t ht).1
  refine s106 (β := β) (β2 := β2) hR ht (by omega) (hR.u113 hR.2.2.2.2) (by omega) hV2 hC2 hB (fun J j1 j2 j3 j4 => by rw [eR]; exact hR) (fun J j1 j2 j3 j4 => hV) (fun J j1 j2 j3 j4 => by rw [eR]; exact hC.cg hR (fun o ho => j1 o (by unfold CBP at ho; omega)) (fun _ _ => rfl)) (fun J j1 j2 j3 j4 => j2.nb) (fun J j1 j2 j3 j4 K k1 k2 k3 => ?_) (fun J j1 j2 j3 j4 => hok J j1 j2 j3 fun v hv => (nb_le j2.nb hv).mp (j4 v hv))
  rw [eR]
  obtain ⟨v, hv, h9⟩ := j4
  exact hno K (fun o ho => (k1 o ho).trans (j1 o ho)) k2 k3 ⟨J, j2, v, hv, Nat.lt_of_not_le fun hc => h9 ((nb_le j2.nb hv).mpr hc)⟩
theorem c102 {c : Nat} (hR : WFR R) (hc : c < 24) (hd : 5 ≤ d) (hV : BV β) (hC : CB β I D R) (hB : NB I) (hV2 : BV β2) (hC2 : CB β2 I D (j_u R 112 c (some (fm R))))
    (hok : ∀ J, (∀ o', (o' < 205 ∨ 211 ≤ o') → J o' = I o') → NM β2 J → OrdB β2 J → (∀ v, v < 30 → bu J v ≤ 2000) → Q (some (.int 1)) w1 (J, D, RR (j_u (j_u R 112 c (some (fm R))) 97 2 (some (fo R c)))))
    (hno : ∀ J, (∀ o', (o' < 205 ∨ 211 ≤ o') → J o' = I o') → NM β J → OrdB β J → (∃ J', NM β2 J' ∧ ∃ v, v < 30 ∧ 2000 < bu J' v) → Q (some (.int 0)) w1 (J, D, RR R)) : j_Call d 102 [.ref 0, .int (nI c)] w1 (I, D, RR R) 0 0 Q := by
  have eR : j_u (j_u R 112 c (some ((R 97 2).getD 0))) 112 c (some ((R 112 c).getD 0)) = R := j_u_back _ _ _ _ _ (hR.1 c hc).1
  refine s102 (β := β) (β2 := β2) hR hc (by omega) (hR.u112 hR.2.2.1.2) (by omega) hV2 hC2 hB (fun J j1 j2 j3 j4 => by rw [eR]; exact hR) (fun J j1 j2 j3 j4 => hV) (fun J j1 j2 j3 j4 => by rw [eR]; exact hC.cg hR (fun o ho => j1 o (by unfold CBP at ho; omega)) (fun _ _ => rfl)) (fun J j1 j2 j3 j4 => j2.nb) (fun J j1 j2 j3 j4 K k1 k2 k3 => ?_) (fun J j1 j2 j3 j4 => hok J j1 j2 j3 fun v hv => (nb_le j2.nb hv).mp (j4 v hv))
  rw [eR]
  obtain ⟨v, hv, h9⟩ := j4
  exact hno K (fun o ho => (k1 o ho).trans (j1 o ho)) k2 k3 ⟨J, j2, v, hv, Nat.lt_of_not_le fun hc => h9 ((nb_le j2.nb hv).mpr hc)⟩
end LS
/-- one node names what does not come to it -/
theorem acyc_add {β β2 : Bd} {x : Int32} {n : Nat} (hA : acyc β) (h1 : ∀ u v, u < 30 → v < 30 → u ≠ n → ed β2 u v = true → ed β u v = true) (h2 : ∀ v, v < 30 → ed β2 n v = true → bt x v = true) (hx : ∀ u, u < 30 → bt x u = true → ∀ v, v < 32 → ed β u v = true → bt x v = true) (hn : bt x n = false) : acyc β2 := by
  obtain ⟨ρ, hb, hρ⟩ := rank_b hA
  refine ⟨fun v => if bt x v = true then ρ v else ρ v + 30, fun u v hu hv he => ?_⟩
  show (if bt x v = true then ρ v else ρ v + 30) < (if bt x u = true then ρ u else ρ u + 30)
  by_cases e : u = n
  · subst e
    rw [if_pos (h2 v hv he), hn, if_neg (by decide)]
    have := hb v hv; omega
  · have h3 := h1 u v hu hv e he
    have h4 := hρ u v hu hv h3
    have h5 := hb v hv
    cases hu2 : bt x u with
    | true => rw [if_pos (hx u hu hu2 v (by omega) h3), if_pos rfl]; exact h4
    | false =>
      rw [if_neg (show ¬ false = true by decide)]
      split <;> omega
