/-! formula, walked -/
set_option maxRecDepth 10000 in
set_option maxHeartbeats 4000000 in
theorem s65r {d : Nat} {I : Nat → Nat → Int32} {D : Nat → Nat → UInt64} {R : Nat → Nat → Option Nat} {Q : j_Po} {a : Int32}  (hR : WFR R) (hd : 50 ≤ d)
    (v1 : ∀ k1 : Nat, (k1 < 24) → (a = nI k1) → j_W 65 d 0 0 0 0 10 [none, none, none] [] w1 (I, D, RR R) Q)
    (v2 : (¬ (∃ k : Nat, k < 24 ∧ a = nI k)) → Q (some (.int (-2))) w1 (I, D, RR R)) : j_Call d 65 [.ref 0, .int a] w1 (I, D, RR R) 0 0 Q := by
  refine q_enter (L := [some (.ref 0), some (.int a), none]) j_m65 (Nat.le_of_ble_eq_true rfl) rfl ?_
  refine q_iload_n d65_0 rfl ?_
  refine q_invS (av := [.int a]) (rest := []) (d' := 0) (mc' := 0) (ms' := 0) d65_1 (cv9_60 65 rfl) rfl rfl (by omega) (Nat.le_of_ble_eq_true rfl) (Nat.le_of_ble_eq_true rfl) (Nat.le_refl _) (Nat.le_refl _) ?_
  refine r12  (fun k1 h1 h1e => ?_) (fun h1 => ?_)
  ·
    subst h1e
    show j_W 65 d 0 0 0 0 4 [some (.ref 0), some (.int (nI k1)), none] [.int 1] w1 (I, D, RR R) Q
    refine q_if_ne (tgt := 10) d65_4 rfl (fun _ => ?_) (fun h => absurd h (by decide))
    exact r_sub (L' := [none, none, none]) trivial (v1 k1 h1 rfl)
  ·
    show j_W 65 d 0 0 0 0 4 [some (.ref 0), some (.int a), none] [.int 0] w1 (I, D, RR R) Q
    refine q_if_ne (tgt := 10) d65_4 rfl (fun h => absurd h (by decide)) (fun _ => ?_)
    refine q_bipush (v := (-2)) (by decide) d65_7 ?_
    exact q_iret d65_9 rfl (Nat.le_refl _) (Nat.le_refl _) (v2 h1)

set_option maxRecDepth 10000 in
set_option maxHeartbeats 4000000 in
theorem s210r {d : Nat} {I : Nat → Nat → Int32} {D : Nat → Nat → UInt64} {R : Nat → Nat → Option Nat} {Q : j_Po} {a : Int32}   (hd : 82 ≤ d)
    (v1 : ∀ k1 : Nat, (k1 < 24) → (a = nI k1) → j_W 210 d 0 0 0 0 10 [none, none, none, none] [] w1 (I, D, RR R) Q)
    (v2 : (¬ (∃ k : Nat, k < 24 ∧ a = nI k)) → Q (some (.int (-2))) w1 (I, D, RR R)) : j_Call d 210 [.ref 260, .int a] w1 (I, D, RR R) 0 0 Q := by
  refine q_enter (L := [some (.ref 260), some (.int a), none, none]) j_m210 (Nat.le_of_ble_eq_true rfl) rfl ?_
  refine q_iload_n d210_0 rfl ?_
  refine q_invS (av := [.int a]) (rest := []) (d' := 1) (mc' := 0) (ms' := 0) d210_1 (cv10_312 210 rfl) rfl rfl (by omega) (Nat.le_of_ble_eq_true rfl) (Nat.le_of_ble_eq_true rfl) (Nat.le_refl _) (Nat.le_refl _) ?_
  refine r167 (Nat.le_refl _)  (fun k1 h1 h1e => ?_) (fun h1 => ?_)
  ·
    subst h1e
    show j_W 210 d 0 0 0 0 4 [some (.ref 260), some (.int (nI k1)), none, none] [.int 1] w1 (I, D, RR R) Q
    refine q_if_ne (tgt := 10) d210_4 rfl (fun _ => ?_) (fun h => absurd h (by decide))
    exact r_sub (L' := [none, none, none, none]) trivial (v1 k1 h1 rfl)
  ·
    show j_W 210 d 0 0 0 0 4 [some (.ref 260), some (.int a), none, none] [.int 0] w1 (I, D, RR R) Q
    refine q_if_ne (tgt := 10) d210_4 rfl (fun h => absurd h (by decide)) (fun _ => ?_)
    refine q_bipush (v := (-2)) (by decide) d210_7 ?_
    exact q_iret d210_9 rfl (Nat.le_refl _) (Nat.le_refl _) (v2 h1)

set_option maxRecDepth 10000 in
set_option maxHeartbeats 4000000 in
theorem s65a {d : Nat} {I : Nat → Nat → Int32} {D : Nat → Nat → UInt64} {R : Nat → Nat → Option Nat} {Q : j_Po} {c : Nat} {T : Nat → Nat} {n : Nat} (hR : WFR R) (hc : c < 24) (hd : 50 ≤ d)
    (v1 : TC T n I)
    (v2 : 40 ≤ 40)
    (v3 : ∀ J1 : Nat → Nat → Int32, ∀ b2 : Nat, ∀ e3 : Nat, ∀ t4 : Nat × Nat, ∀ o5 : POut, ∀ f6 : Nat, (Lx T n 0 b2 e3 t4) → (PP T n 5 0 0 0 (s00 b2 e3 t4) o5) → (pF o5 = some f6) → (f6 ≤ 96) → (RCg (fm R) I J1) → ((nI f6) = (-1)) → j_W 65 d 0 0 0 0 36 [some (.ref 0), some (.int (nI c)), none] [] w1 ((j_u J1 97 1 0), D, RR R) Q)
    (v4 : ∀ J1 : Nat → Nat → Int32, ∀ b2 : Nat, ∀ e3 : Nat, ∀ t4 : Nat × Nat, ∀ o5 : POut, ∀ f6 : Nat, (Lx T n 0 b2 e3 t4) → (PP T n 5 0 0 0 (s00 b2 e3 t4) o5) → (pF o5 = some f6) → (f6 ≤ 96) → (RCg (fm R) I J1) → (¬ (nI f6) = (-1)) → Q (some (.int ((-100) - (nI f6)))) w1 ((j_u J1 97 1 0), D, RR R))
    (v5 : ∀ J1 : Nat → Nat → Int32, ∀ b2 : Nat, ∀ e3 : Nat, ∀ t4 : Nat × Nat, ∀ o5 : PSt, (Lx T n 0 b2 e3 t4) → (PP T n 5 0 0 0 (s00 b2 e3 t4) (.inr o5)) → ((ptk o5).1 = 256) → (RCg (fm R) I J1) → (FR (pz o5) (pS o5) J1 (fm R)) → j_W 65 d 0 0 0 0 36 [some (.ref 0), some (.int (nI c)), none] [] w1 ((j_u J1 97 1 0), D, RR R) Q) : j_Call d 65 [.ref 0, .int (nI c)] w1 (I, D, RR R) 0 0 Q := by
  refine q_enter (L := [some (.ref 0), some (.int (nI c)), none]) j_m65 (Nat.le_of_ble_eq_true rfl) rfl ?_
  refine q_iload_n d65_0 rfl ?_
  refine q_invS (av := [.int (nI c)]) (rest := []) (d' := 0) (mc' := 0) (ms' := 0) d65_1 (cv9_60 65 rfl) rfl rfl (by omega) (Nat.le_of_ble_eq_true rfl) (Nat.le_of_ble_eq_true rfl) (Nat.le_refl _) (Nat.le_refl _) ?_
  refine r12t (by first | omega | decide)  ?_
  show j_W 65 d 0 0 0 0 4 [some (.ref 0), some (.int (nI c)), none] [.int 1] w1 (I, D, RR R) Q
  refine q_if_ne (tgt := 10) d65_4 rfl (fun _ => ?_) (fun h => absurd h (by decide))
  refine q_aload_n d65_10 rfl ?_
  refine q_getR (x := 97) d65_11 (fs9_19 65 rfl) rfl (lt_w1 rfl) sh0 (rs0_5 R) (by decide) ?_
  refine q_invV (o := 97) (ci := 5) (av := []) (rest := []) (d' := 40) (mc' := 0) (ms' := 0) d65_14 (cv9_159 65 rfl) rfl (by decide) rfl rfl (by omega) (Nat.le_of_ble_eq_true rfl) (Nat.le_of_ble_eq_true rfl) (lt_w1 rfl) sh97 (Nat.le_refl _) (Nat.le_refl _) ?_
  refine c66 (T := T) (n := n) hR v1 v2 (fun J1 b2 e3 t4 o5 f6 h7 h8 h9 h10 h11 => ?_) (fun J1 b2 e3 t4 o5 h7 h8 h9 h10 h11 => ?_)
  ·
    show j_W 65 d 0 0 0 0 17 [some (.ref 0), some (.int (nI c)), none] [.int (nI f6)] w1 (J1, D, RR R) Q
    refine q_istore_n (L' := [some (.ref 0), some (.int (nI c)), some (.int (nI f6))]) d65_17 (Nat.le_of_ble_eq_true rfl) rfl ?_
    refine q_aload_n d65_18 rfl ?_
    refine q_getR (x := 97) d65_19 (fs9_19 65 rfl) rfl (lt_w1 rfl) sh0 (rs0_5 R) (by decide) ?_
    refine q_iconst (v := 0) (by decide) d65_22 ?_
    refine q_putI d65_23 (fs9_151 65 rfl) (Or.inl rfl) rfl (lt_w1 rfl) sh97 ?_
    refine q_iload_n d65_26 rfl ?_
    refine q_iconst (v := (-1)) (by decide) d65_27 ?_
    refine q_icmp_eq (tgt := 36) d65_28 rfl (fun h12t => ?_) (fun h12f => ?_)
    ·
      exact r_sub (L' := [some (.ref 0), some (.int (nI c)), none]) ⟨rfl, rfl, trivial⟩ (v3 J1 b2 e3 t4 o5 f6 h7 h8 h9 h10 h11 h12t)
    ·
      refine q_bipush (v := (-100)) (by decide) d65_31 ?_
      refine q_iload_n d65_33 rfl ?_
      refine q_isub d65_34 ?_
      exact q_iret d65_35 rfl (Nat.le_refl _) (Nat.le_refl _) (v4 J1 b2 e3 t4 o5 f6 h7 h8 h9 h10 h11 h12f)
  ·
    show j_W 65 d 0 0 0 0 17 [some (.ref 0), some (.int (nI c)), none] [.int (-1)] w1 (J1, D, RR R) Q
    refine q_istore_n (L' := [some (.ref 0), some (.int (nI c)), some (.int (-1))]) d65_17 (Nat.le_of_ble_eq_true rfl) rfl ?_
    refine q_aload_n d65_18 rfl ?_
    refine q_getR (x := 97) d65_19 (fs9_19 65 rfl) rfl (lt_w1 rfl) sh0 (rs0_5 R) (by decide) ?_
    refine q_iconst (v := 0) (by decide) d65_22 ?_
    refine q_putI d65_23 (fs9_151 65 rfl) (Or.inl rfl) rfl (lt_w1 rfl) sh97 ?_
    refine q_iload_n d65_26 rfl ?_
    refine q_iconst (v := (-1)) (by decide) d65_27 ?_
    refine q_icmp_eq (tgt := 36) d65_28 rfl (fun _ => ?_) (fun h => absurd h (by decide))
    exact r_sub (L' := [some (.ref 0), some (.int (nI c)), none]) ⟨rfl, rfl, trivial⟩ (v5 J1 b2 e3 t4 o5 h7 h8 h9 h10 h11)

set_option maxRecDepth 10000 in
set_option maxHeartbeats 4000000 in
theorem s65b {d : Nat} {I : Nat → Nat → Int32} {D : Nat → Nat → UInt64} {R : Nat → Nat → Option Nat} {Q : j_Po} {c : Nat} {β β2 : Bd} {S : Nat → Bool} (hR : WFR R) (hc : c < 24) (hd : 50 ≤ d)
    (v1 : BV β)
    (v2 : CB β I D R)
    (v3 : c < 24)
    (v4 : 1 ≤ 1)
    (v5 : (vrB β c = true) → Q (some (.int (-3))) w1 (I, D, RR R))
    (v6 : (vrB β c = false) → ∀ u, u < 30 → ∀ v, v < 32 → bt (nby I R u) v = ed β u v)
    (v7 : (vrB β c = false) → ∀ u v, u < 30 → ed β u v = true → v < 30)
    (v8 : (vrB β c = false) → ∀ v, v < 32 → bt (I ((R 97 2).getD 0) 2) v = S v)
    (v9 : (vrB β c = false) → ∀ v, v < 32 → S v = true → v < 30)
    (v10 : (vrB β c = false) → ∀ x4 : Int32, (Clo (ed β) S x4) → ((¬ (x4 >>> ((nI c) &&& 31)) &&& 1 = 0)) → Q (some (.int (-5))) w1 (I, D, RR R))
    (v11 : (vrB β c = false) → ∀ x4 : Int32, (Clo (ed β) S x4) → (¬ ((¬ (x4 >>> ((nI c) &&& 31)) &&& 1 = 0))) → 5 ≤ d - 1)
    (v12 : (vrB β c = false) → ∀ x4 : Int32, (Clo (ed β) S x4) → (¬ ((¬ (x4 >>> ((nI c) &&& 31)) &&& 1 = 0))) → BVw β)
    (v13 : (vrB β c = false) → ∀ x4 : Int32, (Clo (ed β) S x4) → (¬ ((¬ (x4 >>> ((nI c) &&& 31)) &&& 1 = 0))) → NB I)
    (v14 : (vrB β c = false) → ∀ x4 : Int32, (Clo (ed β) S x4) → (¬ ((¬ (x4 >>> ((nI c) &&& 31)) &&& 1 = 0))) → BVw β2)
    (v15 : (vrB β c = false) → ∀ x4 : Int32, (Clo (ed β) S x4) → (¬ ((¬ (x4 >>> ((nI c) &&& 31)) &&& 1 = 0))) → CB β2 I D (j_u R 112 c (some (fm R))))
    (v16 : (vrB β c = false) → ∀ x4 : Int32, (Clo (ed β) S x4) → (¬ ((¬ (x4 >>> ((nI c) &&& 31)) &&& 1 = 0))) → ∀ J7 : Nat → Nat → Int32, (∀ o', (o' < 205 ∨ 211 ≤ o') → J7 o' = I o') → (NM β2 J7) → (OrdB β2 J7) → (∀ v, v < 30 → bu J7 v ≤ 2000) → Q (some (.int 1)) w1 ((j_u J7 111 c 0), D, RR (j_u (j_u R 112 c (some (fm R))) 97 2 (some (fo R c)))))
    (v17 : (vrB β c = false) → ∀ x4 : Int32, (Clo (ed β) S x4) → (¬ ((¬ (x4 >>> ((nI c) &&& 31)) &&& 1 = 0))) → ∀ J7 : Nat → Nat → Int32, (∀ o', (o' < 205 ∨ 211 ≤ o') → J7 o' = I o') → (NM β J7) → (OrdB β J7) → (∃ J', NM β2 J' ∧ ∃ v, v < 30 ∧ 2000 < bu J' v) → Q (some (.int (-4))) w1 (J7, D, RR R)) : j_W 65 d 0 0 0 0 36 [some (.ref 0), some (.int (nI c)), none] [] w1 (I, D, RR R) Q := by
  refine q_aload_n d65_36 rfl ?_
  refine q_getR (x := 108) d65_37 (fs9_53 65 rfl) rfl (lt_w1 rfl) sh0 (rs0_1 R) (by decide) ?_
  refine q_iload_n d65_40 rfl ?_
  refine q_invV (o := 108) (ci := 0) (av := [.int (nI c)]) (rest := []) (d' := 1) (mc' := 0) (ms' := 0) d65_41 (cv9_163 65 rfl) rfl (by decide) rfl rfl (by omega) (Nat.le_of_ble_eq_true rfl) (Nat.le_of_ble_eq_true rfl) (lt_w1 rfl) sh108 (Nat.le_refl _) (Nat.le_refl _) ?_
  refine c99 (β := β) hR v1 v2 v3 v4 (fun h1 => ?_) (fun h1 => ?_)
  ·
    show j_W 65 d 0 0 0 0 44 [some (.ref 0), some (.int (nI c)), none] [.int 1] w1 (I, D, RR R) Q
    refine q_if_eq (tgt := 50) d65_44 rfl (fun h => absurd h (by decide)) (fun _ => ?_)
    refine q_bipush (v := (-3)) (by decide) d65_47 ?_
    exact q_iret d65_49 rfl (Nat.le_refl _) (Nat.le_refl _) (v5 h1)
  ·
    show j_W 65 d 0 0 0 0 44 [some (.ref 0), some (.int (nI c)), none] [.int 0] w1 (I, D, RR R) Q
    refine q_if_eq (tgt := 50) d65_44 rfl (fun _ => ?_) (fun h => absurd h (by decide))
    refine q_aload_n d65_50 rfl ?_
    refine q_getR (x := 204) d65_51 (fs9_58 65 rfl) rfl (lt_w1 rfl) sh0 (rs0_2 R) (by decide) ?_
    refine q_aload_n d65_54 rfl ?_
    refine q_getR (x := 108) d65_55 (fs9_53 65 rfl) rfl (lt_w1 rfl) sh0 (rs0_1 R) (by decide) ?_
    refine q_aload_n d65_58 rfl ?_
    refine q_getR (x := 97) d65_59 (fs9_19 65 rfl) rfl (lt_w1 rfl) sh0 (rs0_5 R) (by decide) ?_
    have g3 := hR.m
    refine q_getR (x := ((R 97 2).getD 0)) d65_62 (fs9_166 65 rfl) rfl (lt_w1 rfl) sh97 ((RR_d rfl).trans g3.1) (lt1000 (isF_lt g3.2)) ?_
    refine q_getI d65_65 (fs9_170 65 rfl) rfl (isF_lt g3.2) (isF_sh g3.2) ?_
    refine q_invV (o := 204) (ci := 4) (av := [.ref 108, .int (I ((R 97 2).getD 0) 2)]) (rest := []) (d' := 1) (mc' := 0) (ms' := 0) d65_68 (cv9_173 65 rfl) rfl (by decide) rfl rfl (by omega) (Nat.le_of_ble_eq_true rfl) (Nat.le_of_ble_eq_true rfl) (lt_w1 rfl) sh204 (Nat.le_refl _) (Nat.le_refl _) ?_
    refine c101 (E := ed β) (S := S) hR (Nat.le_refl _) (v6 h1) (v7 h1) (v8 h1) (v9 h1) (fun x4 h5 => ?_)
    show j_W 65 d 0 0 0 0 71 [some (.ref 0), some (.int (nI c)), none] [.int x4] w1 (I, D, RR R) Q
    refine q_iload_n d65_71 rfl ?_
    refine q_invS (av := [.int x4, .int (nI c)]) (rest := []) (d' := 0) (mc' := 0) (ms' := 0) d65_72 (cv9_177 65 rfl) rfl rfl (by omega) (Nat.le_of_ble_eq_true rfl) (Nat.le_of_ble_eq_true rfl) (Nat.le_refl _) (Nat.le_refl _) ?_
    refine p21  (fun h6 => ?_) (fun h6 => ?_)
    ·
      show j_W 65 d 0 0 0 0 75 [some (.ref 0), some (.int (nI c)), none] [.int 1] w1 (I, D, RR R) Q
      refine q_if_eq (tgt := 81) d65_75 rfl (fun h => absurd h (by decide)) (fun _ => ?_)
      refine q_bipush (v := (-5)) (by decide) d65_78 ?_
      exact q_iret d65_80 rfl (Nat.le_refl _) (Nat.le_refl _) (v10 h1 x4 h5 h6)
    ·
      show j_W 65 d 0 0 0 0 75 [some (.ref 0), some (.int (nI c)), none] [.int 0] w1 (I, D, RR R) Q
      refine q_if_eq (tgt := 81) d65_75 rfl (fun _ => ?_) (fun h => absurd h (by decide))
      refine q_aload_n d65_81 rfl ?_
      refine q_iload_n d65_82 rfl ?_
      refine q_invV (o := 0) (ci := 9) (av := [.int (nI c)]) (rest := []) (d' := (d - 1)) (mc' := 0) (ms' := 0) d65_83 (cv9_180 65 rfl) rfl (by decide) rfl rfl (by omega) (Nat.le_of_ble_eq_true rfl) (Nat.le_of_ble_eq_true rfl) (lt_w1 rfl) sh0 (Nat.le_refl _) (Nat.le_refl _) ?_
      refine c102w (β := β) (β2 := β2) hR v3 (v11 h1 x4 h5 h6) (v12 h1 x4 h5 h6) v2 (v13 h1 x4 h5 h6) (v14 h1 x4 h5 h6) (v15 h1 x4 h5 h6) (fun J7 h8 h9 h10 h11 => ?_) (fun J7 h8 h9 h10 h11 => ?_)
      ·
        show j_W 65 d 0 0 0 0 86 [some (.ref 0), some (.int (nI c)), none] [.int 1] w1 (J7, D, RR (j_u (j_u R 112 c (some (fm R))) 97 2 (some (fo R c)))) Q
        refine q_if_ne (tgt := 92) d65_86 rfl (fun _ => ?_) (fun h => absurd h (by decide))
        refine q_aload_n d65_92 rfl ?_
        refine q_getR (x := 108) d65_93 (fs9_53 65 rfl) rfl (lt_w1 rfl) sh0 (rs0_1 (j_u (j_u R 112 c (some (fm R))) 97 2 (some (fo R c)))) (by decide) ?_
        refine q_getR (x := 111) d65_96 (fs9_86 65 rfl) rfl (lt_w1 rfl) sh108 (rs108_2 (j_u (j_u R 112 c (some (fm R))) 97 2 (some (fo R c)))) (by decide) ?_
        refine q_iload_n d65_99 rfl ?_
        refine q_iconst (v := 0) (by decide) d65_100 ?_
        refine q_zastore (a := c) d65_101 (Or.inl rfl) (lt_w1 rfl) sh111 rfl (by omega) ?_
        refine q_iconst (v := 1) (by decide) d65_102 ?_
        exact q_iret d65_103 rfl (Nat.le_refl _) (Nat.le_refl _) (v16 h1 x4 h5 h6 J7 h8 h9 h10 h11)
      ·
        show j_W 65 d 0 0 0 0 86 [some (.ref 0), some (.int (nI c)), none] [.int 0] w1 (J7, D, RR R) Q
        refine q_if_ne (tgt := 92) d65_86 rfl (fun h => absurd h (by decide)) (fun _ => ?_)
        refine q_bipush (v := (-4)) (by decide) d65_89 ?_
        exact q_iret d65_91 rfl (Nat.le_refl _) (Nat.le_refl _) (v17 h1 x4 h5 h6 J7 h8 h9 h10 h11)

set_option maxRecDepth 10000 in
set_option maxHeartbeats 4000000 in
theorem s210a {d : Nat} {I : Nat → Nat → Int32} {D : Nat → Nat → UInt64} {R : Nat → Nat → Option Nat} {Q : j_Po} {c : Nat} {β : Bd} {S : Nat → Bool} {T : Nat → Nat} {n b e z : Nat} {tk : Nat × Nat} {o : POut} {st : Nat → Nat × Nat} (hc : c < 24) (hd : 82 ≤ d)
    (v1 : TR T n I)
    (v2 : Lx T n 0 b e tk)
    (v3 : PP T n 5 0 0 0 (s00 b e tk) o)
    (v4 : 40 ≤ 40)
    (v5 : ∀ J1 : Nat → Nat → Int32, ∀ E2 : Nat → Nat → UInt64, ∀ f3 : Nat, (pF o = some f3) → (J1 260 40 = nI f3) → (RRg I D J1 E2) → Q (some (.int ((-100) - (J1 260 40)))) w1 ((j_u J1 260 34 0), E2, RR R))
    (v6 : ∀ J1 : Nat → Nat → Int32, ∀ E2 : Nat → Nat → UInt64, ∀ s8 : PSt, (o = .inr s8) → ((ptk s8).1 = 256) → (RMk (pz s8) (pS s8) J1 E2) → (RRg I D J1 E2) → BV β)
    (v7 : ∀ J1 : Nat → Nat → Int32, ∀ E2 : Nat → Nat → UInt64, ∀ s8 : PSt, (o = .inr s8) → ((ptk s8).1 = 256) → (RMk (pz s8) (pS s8) J1 E2) → (RRg I D J1 E2) → RBN β (j_u J1 260 34 0))
    (v8 : ∀ J1 : Nat → Nat → Int32, ∀ E2 : Nat → Nat → UInt64, ∀ s8 : PSt, (o = .inr s8) → ((ptk s8).1 = 256) → (RMk (pz s8) (pS s8) J1 E2) → (RRg I D J1 E2) → c < 24)
    (v9 : ∀ J1 : Nat → Nat → Int32, ∀ E2 : Nat → Nat → UInt64, ∀ s8 : PSt, (o = .inr s8) → ((ptk s8).1 = 256) → (RMk (pz s8) (pS s8) J1 E2) → (RRg I D J1 E2) → 1 ≤ 1)
    (v10 : ∀ J1 : Nat → Nat → Int32, ∀ E2 : Nat → Nat → UInt64, ∀ s8 : PSt, (o = .inr s8) → ((ptk s8).1 = 256) → (RMk (pz s8) (pS s8) J1 E2) → (RRg I D J1 E2) → (vrB β c = true) → Q (some (.int (-3))) w1 ((j_u J1 260 34 0), E2, RR R))
    (v11 : ∀ J1 : Nat → Nat → Int32, ∀ E2 : Nat → Nat → UInt64, ∀ s8 : PSt, (o = .inr s8) → ((ptk s8).1 = 256) → (RMk (pz s8) (pS s8) J1 E2) → (RRg I D J1 E2) → (vrB β c = false) → z ≤ 96)
    (v12 : ∀ J1 : Nat → Nat → Int32, ∀ E2 : Nat → Nat → UInt64, ∀ s8 : PSt, (o = .inr s8) → ((ptk s8).1 = 256) → (RMk (pz s8) (pS s8) J1 E2) → (RRg I D J1 E2) → (vrB β c = false) → ∀ k, k < z → stV (st k))
    (v13 : ∀ J1 : Nat → Nat → Int32, ∀ E2 : Nat → Nat → UInt64, ∀ s8 : PSt, (o = .inr s8) → ((ptk s8).1 = 256) → (RMk (pz s8) (pS s8) J1 E2) → (RRg I D J1 E2) → (vrB β c = false) → RMk z st (j_u J1 260 34 0) E2)
    (v14 : ∀ J1 : Nat → Nat → Int32, ∀ E2 : Nat → Nat → UInt64, ∀ s8 : PSt, (o = .inr s8) → ((ptk s8).1 = 256) → (RMk (pz s8) (pS s8) J1 E2) → (RRg I D J1 E2) → (vrB β c = false) → ∀ x10 : Int32, (∀ v, v < 32 → bt x10 v = nmB z st v) → ∀ v, v < 32 → bt x10 v = S v)
    (v15 : ∀ J1 : Nat → Nat → Int32, ∀ E2 : Nat → Nat → UInt64, ∀ s8 : PSt, (o = .inr s8) → ((ptk s8).1 = 256) → (RMk (pz s8) (pS s8) J1 E2) → (RRg I D J1 E2) → (vrB β c = false) → ∀ x10 : Int32, (∀ v, v < 32 → bt x10 v = nmB z st v) → ∀ v, v < 32 → S v = true → v < 30)
    (v16 : ∀ J1 : Nat → Nat → Int32, ∀ E2 : Nat → Nat → UInt64, ∀ s8 : PSt, (o = .inr s8) → ((ptk s8).1 = 256) → (RMk (pz s8) (pS s8) J1 E2) → (RRg I D J1 E2) → (vrB β c = false) → ∀ x10 : Int32, (∀ v, v < 32 → bt x10 v = nmB z st v) → ∀ x12 : Int32, (Clo (ed β) S x12) → (¬ ((x12 >>> ((nI c) &&& 31)) &&& 1) = 1) → j_W 210 d 0 0 0 0 62 [some (.ref 260), some (.int (nI c)), none, none] [] w1 ((j_u J1 260 34 0), E2, RR R) Q)
    (v17 : ∀ J1 : Nat → Nat → Int32, ∀ E2 : Nat → Nat → UInt64, ∀ s8 : PSt, (o = .inr s8) → ((ptk s8).1 = 256) → (RMk (pz s8) (pS s8) J1 E2) → (RRg I D J1 E2) → (vrB β c = false) → ∀ x10 : Int32, (∀ v, v < 32 → bt x10 v = nmB z st v) → ∀ x12 : Int32, (Clo (ed β) S x12) → (((x12 >>> ((nI c) &&& 31)) &&& 1) = 1) → Q (some (.int (-5))) w1 ((j_u J1 260 34 0), E2, RR R)) : j_Call d 210 [.ref 260, .int (nI c)] w1 (I, D, RR R) 0 0 Q := by
  refine q_enter (L := [some (.ref 260), some (.int (nI c)), none, none]) j_m210 (Nat.le_of_ble_eq_true rfl) rfl ?_
  refine q_iload_n d210_0 rfl ?_
  refine q_invS (av := [.int (nI c)]) (rest := []) (d' := 1) (mc' := 0) (ms' := 0) d210_1 (cv10_312 210 rfl) rfl rfl (by omega) (Nat.le_of_ble_eq_true rfl) (Nat.le_of_ble_eq_true rfl) (Nat.le_refl _) (Nat.le_refl _) ?_
  refine r167t (by first | omega | decide) (Nat.le_refl _)  ?_
  show j_W 210 d 0 0 0 0 4 [some (.ref 260), some (.int (nI c)), none, none] [.int 1] w1 (I, D, RR R) Q
  refine q_if_ne (tgt := 10) d210_4 rfl (fun _ => ?_) (fun h => absurd h (by decide))
  refine q_aload_n d210_10 rfl ?_
  refine q_invV (o := 260) (ci := 10) (av := []) (rest := []) (d' := 40) (mc' := 0) (ms' := 0) d210_11 (cv10_459 210 rfl) rfl (by decide) rfl rfl (by omega) (Nat.le_of_ble_eq_true rfl) (Nat.le_of_ble_eq_true rfl) (lt_w1 rfl) sh260 (Nat.le_refl _) (Nat.le_refl _) ?_
  refine c211 (T := T) (n := n) (b := b) (e := e) (tk := tk) (o := o) v1 v2 v3 v4 (fun J1 E2 f3 h4 h5 h6 => ?_) (fun J1 E2 s8 h4 h5 h6 h7 => ?_)
  ·
    show j_W 210 d 0 0 0 0 14 [some (.ref 260), some (.int (nI c)), none, none] [.int 0] w1 (J1, E2, RR R) Q
    refine q_istore_n (L' := [some (.ref 260), some (.int (nI c)), some (.int 0), none]) d210_14 (Nat.le_of_ble_eq_true rfl) rfl ?_
    refine q_aload_n d210_15 rfl ?_
    refine q_iconst (v := 0) (by decide) d210_16 ?_
    refine q_putI d210_17 (fs10_348 210 rfl) (Or.inl rfl) rfl (lt_w1 rfl) sh260 ?_
    refine q_iload_n d210_20 rfl ?_
    refine q_if_ne (tgt := 32) d210_21 rfl (fun h => absurd h (by decide)) (fun _ => ?_)
    refine q_bipush (v := (-100)) (by decide) d210_24 ?_
    refine q_aload_n d210_26 rfl ?_
    refine q_getI d210_27 (fs10_361 210 rfl) rfl (lt_w1 rfl) sh260 ?_
    refine r_int (y := (J1 260 40)) (show (j_u J1 260 34 0) 260 40 = (J1 260 40) from (j_u_k _ _ (by decide))) ?_
    refine q_isub d210_30 ?_
    exact q_iret d210_31 rfl (Nat.le_refl _) (Nat.le_refl _) (v5 J1 E2 f3 h4 h5 h6)
  ·
    show j_W 210 d 0 0 0 0 14 [some (.ref 260), some (.int (nI c)), none, none] [.int 1] w1 (J1, E2, RR R) Q
    refine q_istore_n (L' := [some (.ref 260), some (.int (nI c)), some (.int 1), none]) d210_14 (Nat.le_of_ble_eq_true rfl) rfl ?_
    refine q_aload_n d210_15 rfl ?_
    refine q_iconst (v := 0) (by decide) d210_16 ?_
    refine q_putI d210_17 (fs10_348 210 rfl) (Or.inl rfl) rfl (lt_w1 rfl) sh260 ?_
    refine q_iload_n d210_20 rfl ?_
    refine q_if_ne (tgt := 32) d210_21 rfl (fun _ => ?_) (fun h => absurd h (by decide))
    refine q_aload_n d210_32 rfl ?_
    refine q_iload_n d210_33 rfl ?_
    refine q_invV (o := 260) (ci := 10) (av := [.int (nI c)]) (rest := []) (d' := 1) (mc' := 0) (ms' := 0) d210_34 (cv10_462 210 rfl) rfl (by decide) rfl rfl (by omega) (Nat.le_of_ble_eq_true rfl) (Nat.le_of_ble_eq_true rfl) (lt_w1 rfl) sh260 (Nat.le_refl _) (Nat.le_refl _) ?_
    refine c244 (β := β) (v6 J1 E2 s8 h4 h5 h6 h7) (v7 J1 E2 s8 h4 h5 h6 h7) (v8 J1 E2 s8 h4 h5 h6 h7) (v9 J1 E2 s8 h4 h5 h6 h7) (fun h9 => ?_) (fun h9 => ?_)
    ·
      show j_W 210 d 0 0 0 0 37 [some (.ref 260), some (.int (nI c)), some (.int 1), none] [.int 1] w1 ((j_u J1 260 34 0), E2, RR R) Q
      refine q_if_eq (tgt := 43) d210_37 rfl (fun h => absurd h (by decide)) (fun _ => ?_)
      refine q_bipush (v := (-3)) (by decide) d210_40 ?_
      exact q_iret d210_42 rfl (Nat.le_refl _) (Nat.le_refl _) (v10 J1 E2 s8 h4 h5 h6 h7 h9)
    ·
      show j_W 210 d 0 0 0 0 37 [some (.ref 260), some (.int (nI c)), some (.int 1), none] [.int 0] w1 ((j_u J1 260 34 0), E2, RR R) Q
      refine q_if_eq (tgt := 43) d210_37 rfl (fun _ => ?_) (fun h => absurd h (by decide))
      refine q_aload_n d210_43 rfl ?_
      refine q_aload_n d210_44 rfl ?_
      refine q_invV (o := 260) (ci := 10) (av := []) (rest := [.ref 260]) (d' := 0) (mc' := 0) (ms' := 0) d210_45 (cv10_465 210 rfl) rfl (by decide) rfl rfl (by omega) (Nat.le_of_ble_eq_true rfl) (Nat.le_of_ble_eq_true rfl) (lt_w1 rfl) sh260 (Nat.le_refl _) (Nat.le_refl _) ?_
      refine c245 (z := z) (f := st) (v11 J1 E2 s8 h4 h5 h6 h7 h9) (v12 J1 E2 s8 h4 h5 h6 h7 h9) (v13 J1 E2 s8 h4 h5 h6 h7 h9) (fun x10 h11 => ?_)
      show j_W 210 d 0 0 0 0 48 [some (.ref 260), some (.int (nI c)), some (.int 1), none] [.int x10, .ref 260] w1 ((j_u J1 260 34 0), E2, RR R) Q
      refine q_invV (o := 260) (ci := 10) (av := [.int x10]) (rest := []) (d' := 1) (mc' := 0) (ms' := 0) d210_48 (cv10_468 210 rfl) rfl (by decide) rfl rfl (by omega) (Nat.le_of_ble_eq_true rfl) (Nat.le_of_ble_eq_true rfl) (lt_w1 rfl) sh260 (Nat.le_refl _) (Nat.le_refl _) ?_
      refine c246 (β := β) (S := S) (Nat.le_refl _) (v6 J1 E2 s8 h4 h5 h6 h7) (v7 J1 E2 s8 h4 h5 h6 h7) (v14 J1 E2 s8 h4 h5 h6 h7 h9 x10 h11) (v15 J1 E2 s8 h4 h5 h6 h7 h9 x10 h11) (fun x12 h13 => ?_)
      show j_W 210 d 0 0 0 0 51 [some (.ref 260), some (.int (nI c)), some (.int 1), none] [.int x12] w1 ((j_u J1 260 34 0), E2, RR R) Q
      refine q_iload_n d210_51 rfl ?_
      refine q_ishr d210_52 ?_
      refine q_iconst (v := 1) (by decide) d210_53 ?_
      refine q_iand d210_54 ?_
      refine q_iconst (v := 1) (by decide) d210_55 ?_
      refine q_icmp_ne (tgt := 62) d210_56 rfl (fun h14t => ?_) (fun h14f => ?_)
      ·
        exact r_sub (L' := [some (.ref 260), some (.int (nI c)), none, none]) ⟨rfl, rfl, trivial⟩ (v16 J1 E2 s8 h4 h5 h6 h7 h9 x10 h11 x12 h13 h14t)
      ·
        refine q_bipush (v := (-5)) (by decide) d210_59 ?_
        exact q_iret d210_61 rfl (Nat.le_refl _) (Nat.le_refl _) (v17 J1 E2 s8 h4 h5 h6 h7 h9 x10 h11 x12 h13 h14f)

set_option maxRecDepth 10000 in
set_option maxHeartbeats 4000000 in
theorem s210b {d : Nat} {I : Nat → Nat → Int32} {D : Nat → Nat → UInt64} {R : Nat → Nat → Option Nat} {Q : j_Po} {c : Nat} (hc : c < 24) (hd : 1 ≤ d)
    (v1 : j_W 210 d 0 0 0 0 147 [some (.ref 260), some (.int (nI c)), none, some (.int (I 264 c))] [] w1 ((j_u (j_uo (j_uo I 425 (va_cpy (I (266 + c)) (I 425) 0 0 96)) (266 + c) (va_cpy ((j_uo I 425 (va_cpy (I (266 + c)) (I 425) 0 0 96)) 423) ((j_uo I 425 (va_cpy (I (266 + c)) (I 425) 0 0 96)) (266 + c)) 0 0 96)) 264 c ((j_uo (j_uo I 425 (va_cpy (I (266 + c)) (I 425) 0 0 96)) (266 + c) (va_cpy ((j_uo I 425 (va_cpy (I (266 + c)) (I 425) 0 0 96)) 423) ((j_uo I 425 (va_cpy (I (266 + c)) (I 425) 0 0 96)) (266 + c)) 0 0 96)) 260 37)), (j_uo (j_uo D 426 (va_cpy (D (291 + c)) (D 426) 0 0 96)) (291 + c) (va_cpy ((j_uo D 426 (va_cpy (D (291 + c)) (D 426) 0 0 96)) 424) ((j_uo D 426 (va_cpy (D (291 + c)) (D 426) 0 0 96)) (291 + c)) 0 0 96)), RR R) Q) : j_W 210 d 0 0 0 0 62 [some (.ref 260), some (.int (nI c)), none, none] [] w1 (I, D, RR R) Q := by
  refine q_aload_n d210_62 rfl ?_
  refine q_getR (x := 264) d210_63 (fs10_21 210 rfl) rfl (lt_w1 rfl) sh260 (rs260_3 R) (by decide) ?_
  refine q_iload_n d210_66 rfl ?_
  refine q_iaload (a := c) d210_67 (lt_w1 rfl) sh264 rfl (by omega) ?_
  refine q_istore_n (L' := [some (.ref 260), some (.int (nI c)), none, some (.int (I 264 c))]) d210_68 (Nat.le_of_ble_eq_true rfl) rfl ?_
  refine q_aload_n d210_69 rfl ?_
  refine q_getR (x := 265) d210_70 (fs10_26 210 rfl) rfl (lt_w1 rfl) sh260 (rs260_4 R) (by decide) ?_
  refine q_iload_n d210_73 rfl ?_
  refine q_aaload (c := 4) (a := c) (x := (266 + c)) d210_74 (lt_w1 rfl) sh265 (by decide) rfl (by omega) (rm265 R (by omega)) (lt1000 (lm265 (by omega))) ?_
  refine q_iconst (v := 0) (by decide) d210_75 ?_
  refine q_aload_n d210_76 rfl ?_
  refine q_getR (x := 425) d210_77 (fs10_111 210 rfl) rfl (lt_w1 rfl) sh260 (rs260_47 R) (by decide) ?_
  refine q_iconst (v := 0) (by decide) d210_80 ?_
  refine q_bipush (v := 96) (by decide) d210_81 ?_
  refine r_copyI (a := 0) (b := 0) (m0 := 96) d210_83 (by exact j_i7 197 rfl) (lm265 (by omega)) (sm265 (by omega)) (lt_w1 rfl) sh425 rfl rfl rfl (by omega) (by omega) (by omega) (Nat.le_of_ble_eq_true rfl) ?_
  refine q_aload_n d210_86 rfl ?_
  refine q_getR (x := 290) d210_87 (fs10_31 210 rfl) rfl (lt_w1 rfl) sh260 (rs260_5 R) (by decide) ?_
  refine q_iload_n d210_90 rfl ?_
  refine q_aaload (c := 3) (a := c) (x := (291 + c)) d210_91 (lt_w1 rfl) sh290 (by decide) rfl (by omega) (rm290 R (by omega)) (lt1000 (lm290 (by omega))) ?_
  refine q_iconst (v := 0) (by decide) d210_92 ?_
  refine q_aload_n d210_93 rfl ?_
  refine q_getR (x := 426) d210_94 (fs10_114 210 rfl) rfl (lt_w1 rfl) sh260 (rs260_48 R) (by decide) ?_
  refine q_iconst (v := 0) (by decide) d210_97 ?_
  refine q_bipush (v := 96) (by decide) d210_98 ?_
  refine r_copyD (a := 0) (b := 0) (m0 := 96) d210_100 (by exact j_i7 197 rfl) (lm290 (by omega)) (sm290 (by omega)) (lt_w1 rfl) sh426 rfl rfl rfl (by omega) (by omega) (by omega) (Nat.le_of_ble_eq_true rfl) ?_
  refine q_aload_n d210_103 rfl ?_
  refine q_getR (x := 423) d210_104 (fs10_105 210 rfl) rfl (lt_w1 rfl) sh260 (rs260_35 R) (by decide) ?_
  refine q_iconst (v := 0) (by decide) d210_107 ?_
  refine q_aload_n d210_108 rfl ?_
  refine q_getR (x := 265) d210_109 (fs10_26 210 rfl) rfl (lt_w1 rfl) sh260 (rs260_4 R) (by decide) ?_
  refine q_iload_n d210_112 rfl ?_
  refine q_aaload (c := 4) (a := c) (x := (266 + c)) d210_113 (lt_w1 rfl) sh265 (by decide) rfl (by omega) (rm265 R (by omega)) (lt1000 (lm265 (by omega))) ?_
  refine q_iconst (v := 0) (by decide) d210_114 ?_
  refine q_bipush (v := 96) (by decide) d210_115 ?_
  refine r_copyI (a := 0) (b := 0) (m0 := 96) d210_117 (by exact j_i7 197 rfl) (lt_w1 rfl) sh423 (lm265 (by omega)) (sm265 (by omega)) rfl rfl rfl (by omega) (by omega) (by omega) (Nat.le_of_ble_eq_true rfl) ?_
  refine q_aload_n d210_120 rfl ?_
  refine q_getR (x := 424) d210_121 (fs10_108 210 rfl) rfl (lt_w1 rfl) sh260 (rs260_36 R) (by decide) ?_
  refine q_iconst (v := 0) (by decide) d210_124 ?_
  refine q_aload_n d210_125 rfl ?_
  refine q_getR (x := 290) d210_126 (fs10_31 210 rfl) rfl (lt_w1 rfl) sh260 (rs260_5 R) (by decide) ?_
  refine q_iload_n d210_129 rfl ?_
  refine q_aaload (c := 3) (a := c) (x := (291 + c)) d210_130 (lt_w1 rfl) sh290 (by decide) rfl (by omega) (rm290 R (by omega)) (lt1000 (lm290 (by omega))) ?_
  refine q_iconst (v := 0) (by decide) d210_131 ?_
  refine q_bipush (v := 96) (by decide) d210_132 ?_
  refine r_copyD (a := 0) (b := 0) (m0 := 96) d210_134 (by exact j_i7 197 rfl) (lt_w1 rfl) sh424 (lm290 (by omega)) (sm290 (by omega)) rfl rfl rfl (by omega) (by omega) (by omega) (Nat.le_of_ble_eq_true rfl) ?_
  refine q_aload_n d210_137 rfl ?_
  refine q_getR (x := 264) d210_138 (fs10_21 210 rfl) rfl (lt_w1 rfl) sh260 (rs260_3 R) (by decide) ?_
  refine q_iload_n d210_141 rfl ?_
  refine q_aload_n d210_142 rfl ?_
  refine q_getI d210_143 (fs10_424 210 rfl) rfl (lt_w1 rfl) sh260 ?_
  refine q_iastore (a := c) d210_146 (lt_w1 rfl) sh264 rfl (by omega) ?_
  exact r_sub (L' := [some (.ref 260), some (.int (nI c)), none, some (.int (I 264 c))]) ⟨rfl, rfl, rfl, trivial⟩ v1

set_option maxRecDepth 10000 in
set_option maxHeartbeats 4000000 in
theorem s210c {d : Nat} {I : Nat → Nat → Int32} {D : Nat → Nat → UInt64} {R : Nat → Nat → Option Nat} {Q : j_Po} {c : Nat} {y : Int32} {β2 : Bd} {X : Nat → Nat → Bool} {bv : Nat → Nat} {z : Nat} {o : POut} {st : Nat → Nat × Nat} (hc : c < 24) (hd : 82 ≤ d)
    (v1 : c < 24)
    (v2 : z ≤ 96)
    (v3 : I 264 c = nI z)
    (v4 : ∀ k, k < z → stV (st k))
    (v5 : ∀ k, k < z → MR (st k) (I (266 + c) k) (D (291 + c)))
    (v6 : ∀ J1 : Nat → Nat → Int32, (TnI I c st z J1) → BV β2)
    (v7 : ∀ J1 : Nat → Nat → Int32, (TnI I c st z J1) → RcE β2 X)
    (v8 : ∀ J1 : Nat → Nat → Int32, (TnI I c st z J1) → BuE β2 X bv)
    (v9 : ∀ J1 : Nat → Nat → Int32, (TnI I c st z J1) → 80 ≤ d - 1)
    (v10 : ∀ J1 : Nat → Nat → Int32, (TnI I c st z J1) → RBN β2 J1)
    (v11 : ∀ J1 : Nat → Nat → Int32, (TnI I c st z J1) → (∃ v, v < 30 ∧ 2000 < bv v) → ∀ K3 : Nat → Nat → Int32, (∀ o, o ≠ 361 → o ≠ 362 → K3 o = J1 o) → (RBN β2 K3) → j_W 210 d 0 0 0 0 159 [some (.ref 260), some (.int (nI c)), none, some (.int y)] [] w1 (K3, D, RR R) Q)
    (v12 : ∀ J1 : Nat → Nat → Int32, (TnI I c st z J1) → (∀ v, v < 30 → bv v ≤ 2000) → ∀ K3 : Nat → Nat → Int32, (∀ o, o ≠ 361 → o ≠ 362 → K3 o = J1 o) → (RBN β2 K3) → j_W 210 d 0 0 0 0 208 [some (.ref 260), some (.int (nI c)), none, none] [] w1 (K3, D, RR R) Q) : j_W 210 d 0 0 0 0 147 [some (.ref 260), some (.int (nI c)), none, some (.int y)] [] w1 (I, D, RR R) Q := by
  refine q_aload_n d210_147 rfl ?_
  refine q_iload_n d210_148 rfl ?_
  refine q_invV (o := 260) (ci := 10) (av := [.int (nI c)]) (rest := []) (d' := 0) (mc' := 0) (ms' := 0) d210_149 (cv10_320 210 rfl) rfl (by decide) rfl rfl (by omega) (Nat.le_of_ble_eq_true rfl) (Nat.le_of_ble_eq_true rfl) (lt_w1 rfl) sh260 (Nat.le_refl _) (Nat.le_refl _) ?_
  refine c174 (z := z) (s := st) (F := D (291 + c)) v1 v2 v3 v4 v5 (fun J1 h2 => ?_)
  show j_W 210 d 0 0 0 0 152 [some (.ref 260), some (.int (nI c)), none, some (.int y)] [] w1 (J1, D, RR R) Q
  refine q_aload_n d210_152 rfl ?_
  refine q_invV (o := 260) (ci := 10) (av := []) (rest := []) (d' := (d - 1)) (mc' := 0) (ms' := 0) d210_153 (cv10_477 210 rfl) rfl (by decide) rfl rfl (by omega) (Nat.le_of_ble_eq_true rfl) (Nat.le_of_ble_eq_true rfl) (lt_w1 rfl) sh260 (Nat.le_refl _) (Nat.le_refl _) ?_
  refine c247 (β := β2) (X := X) (bv := bv) (v6 J1 h2) (v7 J1 h2) (v8 J1 h2) (v9 J1 h2) (v10 J1 h2) (fun h4 K3 h5 h6 => ?_) (fun h4 K3 h5 h6 => ?_)
  ·
    show j_W 210 d 0 0 0 0 156 [some (.ref 260), some (.int (nI c)), none, some (.int y)] [.int 1] w1 (K3, D, RR R) Q
    refine q_if_eq (tgt := 208) d210_156 rfl (fun h => absurd h (by decide)) (fun _ => ?_)
    exact r_sub (L' := [some (.ref 260), some (.int (nI c)), none, some (.int y)]) ⟨rfl, rfl, rfl, trivial⟩ (v11 J1 h2 h4 K3 h5 h6)
  ·
    show j_W 210 d 0 0 0 0 156 [some (.ref 260), some (.int (nI c)), none, some (.int y)] [.int 0] w1 (K3, D, RR R) Q
    refine q_if_eq (tgt := 208) d210_156 rfl (fun _ => ?_) (fun h => absurd h (by decide))
    exact r_sub (L' := [some (.ref 260), some (.int (nI c)), none, none]) ⟨rfl, rfl, trivial⟩ (v12 J1 h2 h4 K3 h5 h6)

set_option maxRecDepth 10000 in
set_option maxHeartbeats 4000000 in
theorem s210d {d : Nat} {I : Nat → Nat → Int32} {D : Nat → Nat → UInt64} {R : Nat → Nat → Option Nat} {Q : j_Po} {c : Nat} {y : Int32} (hc : c < 24) (hd : 82 ≤ d)
    (v1 : j_W 210 d 0 0 0 0 200 [some (.ref 260), some (.int (nI c)), none, none] [] w1 ((j_uo (j_u I 264 c y) (266 + c) (va_cpy ((j_u I 264 c y) 425) ((j_u I 264 c y) (266 + c)) 0 0 96)), (j_uo D (291 + c) (va_cpy (D 426) (D (291 + c)) 0 0 96)), RR R) Q) : j_W 210 d 0 0 0 0 159 [some (.ref 260), some (.int (nI c)), none, some (.int y)] [] w1 (I, D, RR R) Q := by
  refine q_aload_n d210_159 rfl ?_
  refine q_getR (x := 264) d210_160 (fs10_21 210 rfl) rfl (lt_w1 rfl) sh260 (rs260_3 R) (by decide) ?_
  refine q_iload_n d210_163 rfl ?_
  refine q_iload_n d210_164 rfl ?_
  refine q_iastore (a := c) d210_165 (lt_w1 rfl) sh264 rfl (by omega) ?_
  refine q_aload_n d210_166 rfl ?_
  refine q_getR (x := 425) d210_167 (fs10_111 210 rfl) rfl (lt_w1 rfl) sh260 (rs260_47 R) (by decide) ?_
  refine q_iconst (v := 0) (by decide) d210_170 ?_
  refine q_aload_n d210_171 rfl ?_
  refine q_getR (x := 265) d210_172 (fs10_26 210 rfl) rfl (lt_w1 rfl) sh260 (rs260_4 R) (by decide) ?_
  refine q_iload_n d210_175 rfl ?_
  refine q_aaload (c := 4) (a := c) (x := (266 + c)) d210_176 (lt_w1 rfl) sh265 (by decide) rfl (by omega) (rm265 R (by omega)) (lt1000 (lm265 (by omega))) ?_
  refine q_iconst (v := 0) (by decide) d210_177 ?_
  refine q_bipush (v := 96) (by decide) d210_178 ?_
  refine r_copyI (a := 0) (b := 0) (m0 := 96) d210_180 (by exact j_i7 197 rfl) (lt_w1 rfl) sh425 (lm265 (by omega)) (sm265 (by omega)) rfl rfl rfl (by omega) (by omega) (by omega) (Nat.le_of_ble_eq_true rfl) ?_
  refine q_aload_n d210_183 rfl ?_
  refine q_getR (x := 426) d210_184 (fs10_114 210 rfl) rfl (lt_w1 rfl) sh260 (rs260_48 R) (by decide) ?_
  refine q_iconst (v := 0) (by decide) d210_187 ?_
  refine q_aload_n d210_188 rfl ?_
  refine q_getR (x := 290) d210_189 (fs10_31 210 rfl) rfl (lt_w1 rfl) sh260 (rs260_5 R) (by decide) ?_
  refine q_iload_n d210_192 rfl ?_
  refine q_aaload (c := 3) (a := c) (x := (291 + c)) d210_193 (lt_w1 rfl) sh290 (by decide) rfl (by omega) (rm290 R (by omega)) (lt1000 (lm290 (by omega))) ?_
  refine q_iconst (v := 0) (by decide) d210_194 ?_
  refine q_bipush (v := 96) (by decide) d210_195 ?_
  refine r_copyD (a := 0) (b := 0) (m0 := 96) d210_197 (by exact j_i7 197 rfl) (lt_w1 rfl) sh426 (lm290 (by omega)) (sm290 (by omega)) rfl rfl rfl (by omega) (by omega) (by omega) (Nat.le_of_ble_eq_true rfl) ?_
  exact r_sub (L' := [some (.ref 260), some (.int (nI c)), none, none]) ⟨rfl, rfl, trivial⟩ v1

set_option maxRecDepth 10000 in
set_option maxHeartbeats 4000000 in
theorem s210e {d : Nat} {I : Nat → Nat → Int32} {D : Nat → Nat → UInt64} {R : Nat → Nat → Option Nat} {Q : j_Po} {c : Nat} {z0 : Nat} {st0 : Nat → Nat × Nat} (hc : c < 24) (hd : 82 ≤ d)
    (v1 : c < 24)
    (v2 : z0 ≤ 96)
    (v3 : I 264 c = nI z0)
    (v4 : ∀ k, k < z0 → stV (st0 k))
    (v5 : ∀ k, k < z0 → MR (st0 k) (I (266 + c) k) (D (291 + c)))
    (v6 : ∀ J1 : Nat → Nat → Int32, (TnI I c st0 z0 J1) → Q (some (.int (-4))) w1 (J1, D, RR R)) : j_W 210 d 0 0 0 0 200 [some (.ref 260), some (.int (nI c)), none, none] [] w1 (I, D, RR R) Q := by
  refine q_aload_n d210_200 rfl ?_
  refine q_iload_n d210_201 rfl ?_
  refine q_invV (o := 260) (ci := 10) (av := [.int (nI c)]) (rest := []) (d' := 0) (mc' := 0) (ms' := 0) d210_202 (cv10_320 210 rfl) rfl (by decide) rfl rfl (by omega) (Nat.le_of_ble_eq_true rfl) (Nat.le_of_ble_eq_true rfl) (lt_w1 rfl) sh260 (Nat.le_refl _) (Nat.le_refl _) ?_
  refine c174 (z := z0) (s := st0) (F := D (291 + c)) v1 v2 v3 v4 v5 (fun J1 h2 => ?_)
  show j_W 210 d 0 0 0 0 205 [some (.ref 260), some (.int (nI c)), none, none] [] w1 (J1, D, RR R) Q
  refine q_bipush (v := (-4)) (by decide) d210_205 ?_
  exact q_iret d210_207 rfl (Nat.le_refl _) (Nat.le_refl _) (v6 J1 h2)

set_option maxRecDepth 10000 in
set_option maxHeartbeats 4000000 in
theorem s210f {d : Nat} {I : Nat → Nat → Int32} {D : Nat → Nat → UInt64} {R : Nat → Nat → Option Nat} {Q : j_Po} {c : Nat} (hc : c < 24) (hd : 82 ≤ d)
    (v1 : Q (some (.int 1)) w1 ((j_u I 262 c 0), (j_u D 263 c FP.dconst0), RR R)) : j_W 210 d 0 0 0 0 208 [some (.ref 260), some (.int (nI c)), none, none] [] w1 (I, D, RR R) Q := by
  refine q_aload_n d210_208 rfl ?_
  refine q_getR (x := 262) d210_209 (fs10_13 210 rfl) rfl (lt_w1 rfl) sh260 (rs260_1 R) (by decide) ?_
  refine q_iload_n d210_212 rfl ?_
  refine q_iconst (v := 0) (by decide) d210_213 ?_
  refine q_zastore (a := c) d210_214 (Or.inl rfl) (lt_w1 rfl) sh262 rfl (by omega) ?_
  refine q_aload_n d210_215 rfl ?_
  refine q_getR (x := 263) d210_216 (fs10_17 210 rfl) rfl (lt_w1 rfl) sh260 (rs260_2 R) (by decide) ?_
  refine q_iload_n d210_219 rfl ?_
  refine q_dconst0 d210_220 ?_
  refine q_dastore (a := c) d210_221 (lt_w1 rfl) sh263 rfl (by omega) ?_
  refine q_iconst (v := 1) (by decide) d210_222 ?_
  exact q_iret d210_223 rfl (Nat.le_refl _) (Nat.le_refl _) v1

