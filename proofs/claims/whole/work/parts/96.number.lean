/-! the reference: numbers -/
set_option maxRecDepth 10000 in
set_option maxHeartbeats 4000000 in
theorem s217e {d : Nat} {I : Nat → Nat → Int32} {D : Nat → Nat → UInt64} {R : Nat → Nat → Option Nat} {Q : j_Po}    (hd : 2 ≤ d)
    (v1 : j_W 217 d 0 0 0 0 10 [some (.ref 260), none, none, none] [] w1 ((j_u (j_u I 260 43 0) 260 44 (-1)), D, RR R) Q) : j_Call d 217 [.ref 260] w1 (I, D, RR R) 0 0 Q := by
  refine q_enter (L := [some (.ref 260), none, none, none]) j_m217 (Nat.le_of_ble_eq_true rfl) rfl ?_
  refine q_aload_n d217_0 rfl ?_
  refine q_iconst (v := 0) (by decide) d217_1 ?_
  refine q_putI d217_2 (fs10_388 217 rfl) (Or.inl rfl) rfl (lt_w1 rfl) sh260 ?_
  refine q_aload_n d217_5 rfl ?_
  refine q_iconst (v := (-1)) (by decide) d217_6 ?_
  refine q_putI d217_7 (fs10_391 217 rfl) (Or.inl rfl) rfl (lt_w1 rfl) sh260 ?_
  exact r_sub (L' := [some (.ref 260), none, none, none]) ⟨rfl, trivial⟩ v1

set_option maxRecDepth 10000 in
set_option maxHeartbeats 4000000 in
theorem s217a {d : Nat} {I : Nat → Nat → Int32} {D : Nat → Nat → UInt64} {R : Nat → Nat → Option Nat} {Q : j_Po}  {T : Nat → Nat} {n p : Nat} (hT : TR T n I) (hp : I 260 39 = nI p) (hpn : p ≤ n) (hn9 : n ≤ 96) (hd : 2 ≤ d)
    (v1 : TR T n I)
    (v2 : I 260 39 = nI p)
    (v3 : p ≤ n)
    (v4 : 1 ≤ 1)
    (v5 : (p < n) → (isDg (T p)) → p < 200)
    (v6 : (p < n) → (isDg (T p)) → (p < n) → ((((10 * (I 260 43)) + (nI (T p))) - 48) < (100000 : Int32)) → j_W 217 d 0 0 0 0 10 [some (.ref 260), none, none, none] [] w1 ((j_u (j_u I 260 43 (((10 * (I 260 43)) + (nI (T p))) - 48)) 260 39 (nI (p + 1))), D, RR R) Q)
    (v7 : (p < n) → (isDg (T p)) → (p < n) → (¬ (((10 * (I 260 43)) + (nI (T p))) - 48) < (100000 : Int32)) → j_W 217 d 0 0 0 0 10 [some (.ref 260), none, none, none] [] w1 ((j_u (j_u I 260 43 100000) 260 39 (nI (p + 1))), D, RR R) Q)
    (v8 : (p < n) → (isDg (T p)) → (¬ p < n) → ((((10 * (I 260 43)) + (-1)) - 48) < (100000 : Int32)) → j_W 217 d 0 0 0 0 10 [some (.ref 260), none, none, none] [] w1 ((j_u (j_u I 260 43 (((10 * (I 260 43)) + (-1)) - 48)) 260 39 (nI (p + 1))), D, RR R) Q)
    (v9 : (p < n) → (isDg (T p)) → (¬ p < n) → (¬ (((10 * (I 260 43)) + (-1)) - 48) < (100000 : Int32)) → j_W 217 d 0 0 0 0 10 [some (.ref 260), none, none, none] [] w1 ((j_u (j_u I 260 43 100000) 260 39 (nI (p + 1))), D, RR R) Q)
    (v10 : (¬ (p < n ∧ isDg (T p))) → j_W 217 d 0 0 0 0 59 [some (.ref 260), none, none, none] [] w1 (I, D, RR R) Q) : j_W 217 d 0 0 0 0 10 [some (.ref 260), none, none, none] [] w1 (I, D, RR R) Q := by
  refine q_aload_n d217_10 rfl ?_
  refine q_invV (o := 260) (ci := 10) (av := []) (rest := []) (d' := 1) (mc' := 0) (ms' := 0) d217_11 (cv10_371 217 rfl) rfl (by decide) rfl rfl (by omega) (Nat.le_of_ble_eq_true rfl) (Nat.le_of_ble_eq_true rfl) (lt_w1 rfl) sh260 (Nat.le_refl _) (Nat.le_refl _) ?_
  refine c216 (T := T) (n := n) (p := p) v1 v2 v3 v4 (fun h1 h2 => ?_) (fun h1 => ?_)
  ·
    show j_W 217 d 0 0 0 0 14 [some (.ref 260), none, none, none] [.int 1] w1 (I, D, RR R) Q
    refine q_if_eq (tgt := 59) d217_14 rfl (fun h => absurd h (by decide)) (fun _ => ?_)
    refine q_aload_n d217_17 rfl ?_
    refine q_ldcwI (v := 100000) d217_18 (kc10_394 217 rfl) ?_
    refine q_bipush (v := 10) (by decide) d217_21 ?_
    refine q_aload_n d217_23 rfl ?_
    refine q_getI d217_24 (fs10_388 217 rfl) rfl (lt_w1 rfl) sh260 ?_
    refine q_imul d217_27 ?_
    refine q_aload_n d217_28 rfl ?_
    refine q_aload_n d217_29 rfl ?_
    refine q_getI d217_30 (fs10_351 217 rfl) rfl (lt_w1 rfl) sh260 ?_
    refine r_int (y := (nI p)) (show I 260 39 = (nI p) from hp) ?_
    refine q_invV (o := 260) (ci := 10) (av := [.int (nI p)]) (rest := [.int (10 * (I 260 43)), .int 100000, .ref 260]) (d' := 0) (mc' := 0) (ms' := 0) d217_33 (cv10_354 217 rfl) rfl (by decide) rfl rfl (by omega) (Nat.le_of_ble_eq_true rfl) (Nat.le_of_ble_eq_true rfl) (lt_w1 rfl) sh260 (Nat.le_refl _) (Nat.le_refl _) ?_
    refine c213 (T := T) (n := n) v1 (v5 h1 h2) (fun h3 => ?_) (fun h3 => ?_)
    ·
      show j_W 217 d 0 0 0 0 36 [some (.ref 260), none, none, none] [.int (nI (T p)), .int (10 * (I 260 43)), .int 100000, .ref 260] w1 (I, D, RR R) Q
      refine q_iadd d217_36 ?_
      refine q_bipush (v := 48) (by decide) d217_37 ?_
      refine q_isub d217_39 ?_
      refine q_invS (av := [.int 100000, .int (((10 * (I 260 43)) + (nI (T p))) - 48)]) (rest := [.ref 260]) (d' := 0) (mc' := 0) (ms' := 0) d217_40 (cv10_235 217 rfl) rfl rfl (by omega) (Nat.le_of_ble_eq_true rfl) (Nat.le_of_ble_eq_true rfl) (Nat.le_refl _) (Nat.le_refl _) ?_
      refine s187   (Nat.le_refl _) (fun c4 => ?_) (fun c5 => ?_)
      ·
        show j_W 217 d 0 0 0 0 43 [some (.ref 260), none, none, none] [.int (((10 * (I 260 43)) + (nI (T p))) - 48), .ref 260] w1 (I, D, RR R) Q
        refine q_putI d217_43 (fs10_388 217 rfl) (Or.inl rfl) rfl (lt_w1 rfl) sh260 ?_
        refine q_aload_n d217_46 rfl ?_
        refine q_dup rfl d217_47 ?_
        refine q_getI d217_48 (fs10_351 217 rfl) rfl (lt_w1 rfl) sh260 ?_
        refine r_int (y := (nI p)) (show (j_u I 260 43 (((10 * (I 260 43)) + (nI (T p))) - 48)) 260 39 = (nI p) from ((j_u_k _ _ (by decide)).trans hp)) ?_
        refine q_iconst (v := 1) (by decide) d217_51 ?_
        refine q_iadd d217_52 ?_
        refine r_int (y := (nI (p + 1))) (nI_add p 1) ?_
        refine q_putI d217_53 (fs10_351 217 rfl) (Or.inl rfl) rfl (lt_w1 rfl) sh260 ?_
        refine q_goto (tgt := 10) d217_56 rfl ?_
        exact r_sub (L' := [some (.ref 260), none, none, none]) ⟨rfl, trivial⟩ (v6 h1 h2 h3 c4)
      ·
        show j_W 217 d 0 0 0 0 43 [some (.ref 260), none, none, none] [.int 100000, .ref 260] w1 (I, D, RR R) Q
        refine q_putI d217_43 (fs10_388 217 rfl) (Or.inl rfl) rfl (lt_w1 rfl) sh260 ?_
        refine q_aload_n d217_46 rfl ?_
        refine q_dup rfl d217_47 ?_
        refine q_getI d217_48 (fs10_351 217 rfl) rfl (lt_w1 rfl) sh260 ?_
        refine r_int (y := (nI p)) (show (j_u I 260 43 100000) 260 39 = (nI p) from ((j_u_k _ _ (by decide)).trans hp)) ?_
        refine q_iconst (v := 1) (by decide) d217_51 ?_
        refine q_iadd d217_52 ?_
        refine r_int (y := (nI (p + 1))) (nI_add p 1) ?_
        refine q_putI d217_53 (fs10_351 217 rfl) (Or.inl rfl) rfl (lt_w1 rfl) sh260 ?_
        refine q_goto (tgt := 10) d217_56 rfl ?_
        exact r_sub (L' := [some (.ref 260), none, none, none]) ⟨rfl, trivial⟩ (v7 h1 h2 h3 c5)
    ·
      show j_W 217 d 0 0 0 0 36 [some (.ref 260), none, none, none] [.int (-1), .int (10 * (I 260 43)), .int 100000, .ref 260] w1 (I, D, RR R) Q
      refine q_iadd d217_36 ?_
      refine q_bipush (v := 48) (by decide) d217_37 ?_
      refine q_isub d217_39 ?_
      refine q_invS (av := [.int 100000, .int (((10 * (I 260 43)) + (-1)) - 48)]) (rest := [.ref 260]) (d' := 0) (mc' := 0) (ms' := 0) d217_40 (cv10_235 217 rfl) rfl rfl (by omega) (Nat.le_of_ble_eq_true rfl) (Nat.le_of_ble_eq_true rfl) (Nat.le_refl _) (Nat.le_refl _) ?_
      refine s187   (Nat.le_refl _) (fun c6 => ?_) (fun c7 => ?_)
      ·
        show j_W 217 d 0 0 0 0 43 [some (.ref 260), none, none, none] [.int (((10 * (I 260 43)) + (-1)) - 48), .ref 260] w1 (I, D, RR R) Q
        refine q_putI d217_43 (fs10_388 217 rfl) (Or.inl rfl) rfl (lt_w1 rfl) sh260 ?_
        refine q_aload_n d217_46 rfl ?_
        refine q_dup rfl d217_47 ?_
        refine q_getI d217_48 (fs10_351 217 rfl) rfl (lt_w1 rfl) sh260 ?_
        refine r_int (y := (nI p)) (show (j_u I 260 43 (((10 * (I 260 43)) + (-1)) - 48)) 260 39 = (nI p) from ((j_u_k _ _ (by decide)).trans hp)) ?_
        refine q_iconst (v := 1) (by decide) d217_51 ?_
        refine q_iadd d217_52 ?_
        refine r_int (y := (nI (p + 1))) (nI_add p 1) ?_
        refine q_putI d217_53 (fs10_351 217 rfl) (Or.inl rfl) rfl (lt_w1 rfl) sh260 ?_
        refine q_goto (tgt := 10) d217_56 rfl ?_
        exact r_sub (L' := [some (.ref 260), none, none, none]) ⟨rfl, trivial⟩ (v8 h1 h2 h3 c6)
      ·
        show j_W 217 d 0 0 0 0 43 [some (.ref 260), none, none, none] [.int 100000, .ref 260] w1 (I, D, RR R) Q
        refine q_putI d217_43 (fs10_388 217 rfl) (Or.inl rfl) rfl (lt_w1 rfl) sh260 ?_
        refine q_aload_n d217_46 rfl ?_
        refine q_dup rfl d217_47 ?_
        refine q_getI d217_48 (fs10_351 217 rfl) rfl (lt_w1 rfl) sh260 ?_
        refine r_int (y := (nI p)) (show (j_u I 260 43 100000) 260 39 = (nI p) from ((j_u_k _ _ (by decide)).trans hp)) ?_
        refine q_iconst (v := 1) (by decide) d217_51 ?_
        refine q_iadd d217_52 ?_
        refine r_int (y := (nI (p + 1))) (nI_add p 1) ?_
        refine q_putI d217_53 (fs10_351 217 rfl) (Or.inl rfl) rfl (lt_w1 rfl) sh260 ?_
        refine q_goto (tgt := 10) d217_56 rfl ?_
        exact r_sub (L' := [some (.ref 260), none, none, none]) ⟨rfl, trivial⟩ (v9 h1 h2 h3 c7)
  ·
    show j_W 217 d 0 0 0 0 14 [some (.ref 260), none, none, none] [.int 0] w1 (I, D, RR R) Q
    refine q_if_eq (tgt := 59) d217_14 rfl (fun _ => ?_) (fun h => absurd h (by decide))
    exact r_sub (L' := [some (.ref 260), none, none, none]) ⟨rfl, trivial⟩ (v10 h1)

set_option maxRecDepth 10000 in
set_option maxHeartbeats 4000000 in
theorem s217b {d : Nat} {I : Nat → Nat → Int32} {D : Nat → Nat → UInt64} {R : Nat → Nat → Option Nat} {Q : j_Po}  {T : Nat → Nat} {n p b : Nat} (hT : TR T n I) (hp : I 260 39 = nI p) (hpn : p ≤ n) (hn9 : n ≤ 96) (hb : I 260 40 = nI b) (hbp : b ≤ p) (hTp : p < n → T p < 256) (hd : 2 ≤ d)
    (v1 : (((nI p) - (nI b)) ≤ 4) → TR T n (j_u I 260 46 0))
    (v2 : (((nI p) - (nI b)) ≤ 4) → p < 200)
    (v3 : (((nI p) - (nI b)) ≤ 4) → (p < n) → ((T p) = 46) → j_W 217 d 0 0 0 0 115 [some (.ref 260), some (.int (nI (p + 1))), none, none] [] w1 ((j_u (j_u (j_u I 260 46 0) 260 39 (nI (p + 1))) 260 44 0), D, RR R) Q)
    (v4 : (((nI p) - (nI b)) ≤ 4) → (p < n) → (¬ (T p) = 46) → Q none w1 ((j_u I 260 46 0), D, RR R))
    (v5 : (((nI p) - (nI b)) ≤ 4) → (¬ p < n) → Q none w1 ((j_u I 260 46 0), D, RR R))
    (v6 : (¬ ((nI p) - (nI b)) ≤ 4) → TR T n (j_u I 260 46 1))
    (v7 : (¬ ((nI p) - (nI b)) ≤ 4) → p < 200)
    (v8 : (¬ ((nI p) - (nI b)) ≤ 4) → (p < n) → ((T p) = 46) → j_W 217 d 0 0 0 0 115 [some (.ref 260), some (.int (nI (p + 1))), none, none] [] w1 ((j_u (j_u (j_u I 260 46 1) 260 39 (nI (p + 1))) 260 44 0), D, RR R) Q)
    (v9 : (¬ ((nI p) - (nI b)) ≤ 4) → (p < n) → (¬ (T p) = 46) → Q none w1 ((j_u I 260 46 1), D, RR R))
    (v10 : (¬ ((nI p) - (nI b)) ≤ 4) → (¬ p < n) → Q none w1 ((j_u I 260 46 1), D, RR R)) : j_W 217 d 0 0 0 0 59 [some (.ref 260), none, none, none] [] w1 (I, D, RR R) Q := by
  refine q_aload_n d217_59 rfl ?_
  refine q_aload_n d217_60 rfl ?_
  refine q_getI d217_61 (fs10_351 217 rfl) rfl (lt_w1 rfl) sh260 ?_
  refine r_int (y := (nI p)) (show I 260 39 = (nI p) from hp) ?_
  refine q_aload_n d217_64 rfl ?_
  refine q_getI d217_65 (fs10_361 217 rfl) rfl (lt_w1 rfl) sh260 ?_
  refine r_int (y := (nI b)) (show I 260 40 = (nI b) from hb) ?_
  refine q_isub d217_68 ?_
  refine q_iconst (v := 4) (by decide) d217_69 ?_
  refine q_icmp_le (tgt := 77) d217_70 rfl (fun h1t => ?_) (fun h1f => ?_)
  ·
    refine q_iconst (v := 0) (by decide) d217_77 ?_
    refine q_putZ d217_78 (fs10_357 217 rfl) (Or.inl rfl) rfl (Or.inl rfl) (lt_w1 rfl) sh260 ?_
    refine q_aload_n d217_81 rfl ?_
    refine q_aload_n d217_82 rfl ?_
    refine q_getI d217_83 (fs10_351 217 rfl) rfl (lt_w1 rfl) sh260 ?_
    refine r_int (y := (nI p)) (show (j_u I 260 46 0) 260 39 = (nI p) from ((j_u_k _ _ (by decide)).trans hp)) ?_
    refine q_invV (o := 260) (ci := 10) (av := [.int (nI p)]) (rest := []) (d' := 0) (mc' := 0) (ms' := 0) d217_86 (cv10_354 217 rfl) rfl (by decide) rfl rfl (by omega) (Nat.le_of_ble_eq_true rfl) (Nat.le_of_ble_eq_true rfl) (lt_w1 rfl) sh260 (Nat.le_refl _) (Nat.le_refl _) ?_
    refine c213 (T := T) (n := n) (v1 h1t) (v2 h1t) (fun h2 => ?_) (fun h2 => ?_)
    ·
      show j_W 217 d 0 0 0 0 89 [some (.ref 260), none, none, none] [.int (nI (T p))] w1 ((j_u I 260 46 0), D, RR R) Q
      refine q_bipush (v := 46) (by decide) d217_89 ?_
      refine q_icmp_eq (tgt := 95) d217_91 rfl (fun h3t => ?_) (fun h3f => ?_)
      ·
        have h3tc : (T p) = 46 := (nI_eqN (by omega) (by omega)).mp h3t
        refine q_aload_n d217_95 rfl ?_
        refine q_dup rfl d217_96 ?_
        refine q_getI d217_97 (fs10_351 217 rfl) rfl (lt_w1 rfl) sh260 ?_
        refine r_int (y := (nI p)) (show (j_u I 260 46 0) 260 39 = (nI p) from ((j_u_k _ _ (by decide)).trans hp)) ?_
        refine q_iconst (v := 1) (by decide) d217_100 ?_
        refine q_iadd d217_101 ?_
        refine r_int (y := (nI (p + 1))) (nI_add p 1) ?_
        refine q_putI d217_102 (fs10_351 217 rfl) (Or.inl rfl) rfl (lt_w1 rfl) sh260 ?_
        refine q_aload_n d217_105 rfl ?_
        refine q_getI d217_106 (fs10_351 217 rfl) rfl (lt_w1 rfl) sh260 ?_
        refine r_int (y := (nI (p + 1))) (show (j_u (j_u I 260 46 0) 260 39 (nI (p + 1))) 260 39 = (nI (p + 1)) from (j_u_same _ _ _ _)) ?_
        refine q_istore_n (L' := [some (.ref 260), some (.int (nI (p + 1))), none, none]) d217_109 (Nat.le_of_ble_eq_true rfl) rfl ?_
        refine q_aload_n d217_110 rfl ?_
        refine q_iconst (v := 0) (by decide) d217_111 ?_
        refine q_putI d217_112 (fs10_391 217 rfl) (Or.inl rfl) rfl (lt_w1 rfl) sh260 ?_
        exact r_sub (L' := [some (.ref 260), some (.int (nI (p + 1))), none, none]) ⟨rfl, rfl, trivial⟩ (v3 h1t h2 h3tc)
      ·
        have h3fc : ¬ (T p) = 46 := mt (nI_eqN (by omega) (by omega)).mpr h3f
        exact q_ret d217_94 rfl (Nat.le_refl _) (Nat.le_refl _) (v4 h1t h2 h3fc)
    ·
      show j_W 217 d 0 0 0 0 89 [some (.ref 260), none, none, none] [.int (-1)] w1 ((j_u I 260 46 0), D, RR R) Q
      refine q_bipush (v := 46) (by decide) d217_89 ?_
      refine q_icmp_eq (tgt := 95) d217_91 rfl (fun h => absurd h (by decide)) (fun _ => ?_)
      exact q_ret d217_94 rfl (Nat.le_refl _) (Nat.le_refl _) (v5 h1t h2)
  ·
    refine q_iconst (v := 1) (by decide) d217_73 ?_
    refine q_goto (tgt := 78) d217_74 rfl ?_
    refine q_putZ d217_78 (fs10_357 217 rfl) (Or.inl rfl) rfl (Or.inr rfl) (lt_w1 rfl) sh260 ?_
    refine q_aload_n d217_81 rfl ?_
    refine q_aload_n d217_82 rfl ?_
    refine q_getI d217_83 (fs10_351 217 rfl) rfl (lt_w1 rfl) sh260 ?_
    refine r_int (y := (nI p)) (show (j_u I 260 46 1) 260 39 = (nI p) from ((j_u_k _ _ (by decide)).trans hp)) ?_
    refine q_invV (o := 260) (ci := 10) (av := [.int (nI p)]) (rest := []) (d' := 0) (mc' := 0) (ms' := 0) d217_86 (cv10_354 217 rfl) rfl (by decide) rfl rfl (by omega) (Nat.le_of_ble_eq_true rfl) (Nat.le_of_ble_eq_true rfl) (lt_w1 rfl) sh260 (Nat.le_refl _) (Nat.le_refl _) ?_
    refine c213 (T := T) (n := n) (v6 h1f) (v7 h1f) (fun h4 => ?_) (fun h4 => ?_)
    ·
      show j_W 217 d 0 0 0 0 89 [some (.ref 260), none, none, none] [.int (nI (T p))] w1 ((j_u I 260 46 1), D, RR R) Q
      refine q_bipush (v := 46) (by decide) d217_89 ?_
      refine q_icmp_eq (tgt := 95) d217_91 rfl (fun h5t => ?_) (fun h5f => ?_)
      ·
        have h5tc : (T p) = 46 := (nI_eqN (by omega) (by omega)).mp h5t
        refine q_aload_n d217_95 rfl ?_
        refine q_dup rfl d217_96 ?_
        refine q_getI d217_97 (fs10_351 217 rfl) rfl (lt_w1 rfl) sh260 ?_
        refine r_int (y := (nI p)) (show (j_u I 260 46 1) 260 39 = (nI p) from ((j_u_k _ _ (by decide)).trans hp)) ?_
        refine q_iconst (v := 1) (by decide) d217_100 ?_
        refine q_iadd d217_101 ?_
        refine r_int (y := (nI (p + 1))) (nI_add p 1) ?_
        refine q_putI d217_102 (fs10_351 217 rfl) (Or.inl rfl) rfl (lt_w1 rfl) sh260 ?_
        refine q_aload_n d217_105 rfl ?_
        refine q_getI d217_106 (fs10_351 217 rfl) rfl (lt_w1 rfl) sh260 ?_
        refine r_int (y := (nI (p + 1))) (show (j_u (j_u I 260 46 1) 260 39 (nI (p + 1))) 260 39 = (nI (p + 1)) from (j_u_same _ _ _ _)) ?_
        refine q_istore_n (L' := [some (.ref 260), some (.int (nI (p + 1))), none, none]) d217_109 (Nat.le_of_ble_eq_true rfl) rfl ?_
        refine q_aload_n d217_110 rfl ?_
        refine q_iconst (v := 0) (by decide) d217_111 ?_
        refine q_putI d217_112 (fs10_391 217 rfl) (Or.inl rfl) rfl (lt_w1 rfl) sh260 ?_
        exact r_sub (L' := [some (.ref 260), some (.int (nI (p + 1))), none, none]) ⟨rfl, rfl, trivial⟩ (v8 h1f h4 h5tc)
      ·
        have h5fc : ¬ (T p) = 46 := mt (nI_eqN (by omega) (by omega)).mpr h5f
        exact q_ret d217_94 rfl (Nat.le_refl _) (Nat.le_refl _) (v9 h1f h4 h5fc)
    ·
      show j_W 217 d 0 0 0 0 89 [some (.ref 260), none, none, none] [.int (-1)] w1 ((j_u I 260 46 1), D, RR R) Q
      refine q_bipush (v := 46) (by decide) d217_89 ?_
      refine q_icmp_eq (tgt := 95) d217_91 rfl (fun h => absurd h (by decide)) (fun _ => ?_)
      exact q_ret d217_94 rfl (Nat.le_refl _) (Nat.le_refl _) (v10 h1f h4)

set_option maxRecDepth 10000 in
set_option maxHeartbeats 4000000 in
theorem s217c {d : Nat} {I : Nat → Nat → Int32} {D : Nat → Nat → UInt64} {R : Nat → Nat → Option Nat} {Q : j_Po} {c : Nat} {T : Nat → Nat} {n p : Nat} (hT : TR T n I) (hp : I 260 39 = nI p) (hpn : p ≤ n) (hn9 : n ≤ 96) (hcp : c ≤ p) (hd : 2 ≤ d)
    (v1 : TR T n I)
    (v2 : I 260 39 = nI p)
    (v3 : p ≤ n)
    (v4 : 1 ≤ 1)
    (v5 : (p < n) → (isDg (T p)) → (3 ≤ ((nI p) - (nI c))) → j_W 217 d 0 0 0 0 115 [some (.ref 260), some (.int (nI c)), none, none] [] w1 ((j_u I 260 39 (nI (p + 1))), D, RR R) Q)
    (v6 : (p < n) → (isDg (T p)) → (¬ 3 ≤ ((nI p) - (nI c))) → p < 200)
    (v7 : (p < n) → (isDg (T p)) → (¬ 3 ≤ ((nI p) - (nI c))) → (p < n) → j_W 217 d 0 0 0 0 115 [some (.ref 260), some (.int (nI c)), none, none] [] w1 ((j_u (j_u I 260 44 (((10 * (I 260 44)) + (nI (T p))) - 48)) 260 39 (nI (p + 1))), D, RR R) Q)
    (v8 : (p < n) → (isDg (T p)) → (¬ 3 ≤ ((nI p) - (nI c))) → (¬ p < n) → j_W 217 d 0 0 0 0 115 [some (.ref 260), some (.int (nI c)), none, none] [] w1 ((j_u (j_u I 260 44 (((10 * (I 260 44)) + (-1)) - 48)) 260 39 (nI (p + 1))), D, RR R) Q)
    (v9 : (¬ (p < n ∧ isDg (T p))) → j_W 217 d 0 0 0 0 168 [some (.ref 260), some (.int (nI c)), none, none] [] w1 (I, D, RR R) Q) : j_W 217 d 0 0 0 0 115 [some (.ref 260), some (.int (nI c)), none, none] [] w1 (I, D, RR R) Q := by
  refine q_aload_n d217_115 rfl ?_
  refine q_invV (o := 260) (ci := 10) (av := []) (rest := []) (d' := 1) (mc' := 0) (ms' := 0) d217_116 (cv10_371 217 rfl) rfl (by decide) rfl rfl (by omega) (Nat.le_of_ble_eq_true rfl) (Nat.le_of_ble_eq_true rfl) (lt_w1 rfl) sh260 (Nat.le_refl _) (Nat.le_refl _) ?_
  refine c216 (T := T) (n := n) (p := p) v1 v2 v3 v4 (fun h1 h2 => ?_) (fun h1 => ?_)
  ·
    show j_W 217 d 0 0 0 0 119 [some (.ref 260), some (.int (nI c)), none, none] [.int 1] w1 (I, D, RR R) Q
    refine q_if_eq (tgt := 168) d217_119 rfl (fun h => absurd h (by decide)) (fun _ => ?_)
    refine q_aload_n d217_122 rfl ?_
    refine q_getI d217_123 (fs10_351 217 rfl) rfl (lt_w1 rfl) sh260 ?_
    refine r_int (y := (nI p)) (show I 260 39 = (nI p) from hp) ?_
    refine q_iload_n d217_126 rfl ?_
    refine q_isub d217_127 ?_
    refine q_iconst (v := 3) (by decide) d217_128 ?_
    refine q_icmp_ge (tgt := 155) d217_129 rfl (fun h3t => ?_) (fun h3f => ?_)
    ·
      refine q_aload_n d217_155 rfl ?_
      refine q_dup rfl d217_156 ?_
      refine q_getI d217_157 (fs10_351 217 rfl) rfl (lt_w1 rfl) sh260 ?_
      refine r_int (y := (nI p)) (show I 260 39 = (nI p) from hp) ?_
      refine q_iconst (v := 1) (by decide) d217_160 ?_
      refine q_iadd d217_161 ?_
      refine r_int (y := (nI (p + 1))) (nI_add p 1) ?_
      refine q_putI d217_162 (fs10_351 217 rfl) (Or.inl rfl) rfl (lt_w1 rfl) sh260 ?_
      refine q_goto (tgt := 115) d217_165 rfl ?_
      exact r_sub (L' := [some (.ref 260), some (.int (nI c)), none, none]) ⟨rfl, rfl, trivial⟩ (v5 h1 h2 h3t)
    ·
      refine q_aload_n d217_132 rfl ?_
      refine q_bipush (v := 10) (by decide) d217_133 ?_
      refine q_aload_n d217_135 rfl ?_
      refine q_getI d217_136 (fs10_391 217 rfl) rfl (lt_w1 rfl) sh260 ?_
      refine q_imul d217_139 ?_
      refine q_aload_n d217_140 rfl ?_
      refine q_aload_n d217_141 rfl ?_
      refine q_getI d217_142 (fs10_351 217 rfl) rfl (lt_w1 rfl) sh260 ?_
      refine r_int (y := (nI p)) (show I 260 39 = (nI p) from hp) ?_
      refine q_invV (o := 260) (ci := 10) (av := [.int (nI p)]) (rest := [.int (10 * (I 260 44)), .ref 260]) (d' := 0) (mc' := 0) (ms' := 0) d217_145 (cv10_354 217 rfl) rfl (by decide) rfl rfl (by omega) (Nat.le_of_ble_eq_true rfl) (Nat.le_of_ble_eq_true rfl) (lt_w1 rfl) sh260 (Nat.le_refl _) (Nat.le_refl _) ?_
      refine c213 (T := T) (n := n) v1 (v6 h1 h2 h3f) (fun h4 => ?_) (fun h4 => ?_)
      ·
        show j_W 217 d 0 0 0 0 148 [some (.ref 260), some (.int (nI c)), none, none] [.int (nI (T p)), .int (10 * (I 260 44)), .ref 260] w1 (I, D, RR R) Q
        refine q_iadd d217_148 ?_
        refine q_bipush (v := 48) (by decide) d217_149 ?_
        refine q_isub d217_151 ?_
        refine q_putI d217_152 (fs10_391 217 rfl) (Or.inl rfl) rfl (lt_w1 rfl) sh260 ?_
        refine q_aload_n d217_155 rfl ?_
        refine q_dup rfl d217_156 ?_
        refine q_getI d217_157 (fs10_351 217 rfl) rfl (lt_w1 rfl) sh260 ?_
        refine r_int (y := (nI p)) (show (j_u I 260 44 (((10 * (I 260 44)) + (nI (T p))) - 48)) 260 39 = (nI p) from ((j_u_k _ _ (by decide)).trans hp)) ?_
        refine q_iconst (v := 1) (by decide) d217_160 ?_
        refine q_iadd d217_161 ?_
        refine r_int (y := (nI (p + 1))) (nI_add p 1) ?_
        refine q_putI d217_162 (fs10_351 217 rfl) (Or.inl rfl) rfl (lt_w1 rfl) sh260 ?_
        refine q_goto (tgt := 115) d217_165 rfl ?_
        exact r_sub (L' := [some (.ref 260), some (.int (nI c)), none, none]) ⟨rfl, rfl, trivial⟩ (v7 h1 h2 h3f h4)
      ·
        show j_W 217 d 0 0 0 0 148 [some (.ref 260), some (.int (nI c)), none, none] [.int (-1), .int (10 * (I 260 44)), .ref 260] w1 (I, D, RR R) Q
        refine q_iadd d217_148 ?_
        refine q_bipush (v := 48) (by decide) d217_149 ?_
        refine q_isub d217_151 ?_
        refine q_putI d217_152 (fs10_391 217 rfl) (Or.inl rfl) rfl (lt_w1 rfl) sh260 ?_
        refine q_aload_n d217_155 rfl ?_
        refine q_dup rfl d217_156 ?_
        refine q_getI d217_157 (fs10_351 217 rfl) rfl (lt_w1 rfl) sh260 ?_
        refine r_int (y := (nI p)) (show (j_u I 260 44 (((10 * (I 260 44)) + (-1)) - 48)) 260 39 = (nI p) from ((j_u_k _ _ (by decide)).trans hp)) ?_
        refine q_iconst (v := 1) (by decide) d217_160 ?_
        refine q_iadd d217_161 ?_
        refine r_int (y := (nI (p + 1))) (nI_add p 1) ?_
        refine q_putI d217_162 (fs10_351 217 rfl) (Or.inl rfl) rfl (lt_w1 rfl) sh260 ?_
        refine q_goto (tgt := 115) d217_165 rfl ?_
        exact r_sub (L' := [some (.ref 260), some (.int (nI c)), none, none]) ⟨rfl, rfl, trivial⟩ (v8 h1 h2 h3f h4)
  ·
    show j_W 217 d 0 0 0 0 119 [some (.ref 260), some (.int (nI c)), none, none] [.int 0] w1 (I, D, RR R) Q
    refine q_if_eq (tgt := 168) d217_119 rfl (fun _ => ?_) (fun h => absurd h (by decide))
    exact r_sub (L' := [some (.ref 260), some (.int (nI c)), none, none]) ⟨rfl, rfl, trivial⟩ (v9 h1)

set_option maxRecDepth 10000 in
set_option maxHeartbeats 4000000 in
theorem s217d {d : Nat} {I : Nat → Nat → Int32} {D : Nat → Nat → UInt64} {R : Nat → Nat → Option Nat} {Q : j_Po} {c : Nat} {T : Nat → Nat} {n p : Nat} (hT : TR T n I) (hp : I 260 39 = nI p) (hpn : p ≤ n) (hn9 : n ≤ 96) (hcp : c ≤ p) (hd : 2 ≤ d)
    (v1 : ((¬ ((nI p) - (nI c)) < (1 : Int32) ∧ ¬ (3 : Int32) < ((nI p) - (nI c)))) → ((I 260 46) ||| 0) = 0 ∨ ((I 260 46) ||| 0) = 1)
    (v2 : ((¬ ((nI p) - (nI c)) < (1 : Int32) ∧ ¬ (3 : Int32) < ((nI p) - (nI c)))) → j_W 217 d 0 0 0 0 200 [some (.ref 260), none, some (.int ((nI p) - (nI c))), some (.int ((nI p) - (nI c)))] [] w1 ((j_u I 260 46 ((I 260 46) ||| 0)), D, RR R) Q)
    (v3 : (¬ ((¬ ((nI p) - (nI c)) < (1 : Int32) ∧ ¬ (3 : Int32) < ((nI p) - (nI c))))) → ((I 260 46) ||| 1) = 0 ∨ ((I 260 46) ||| 1) = 1)
    (v4 : (¬ ((¬ ((nI p) - (nI c)) < (1 : Int32) ∧ ¬ (3 : Int32) < ((nI p) - (nI c))))) → j_W 217 d 0 0 0 0 200 [some (.ref 260), none, some (.int ((nI p) - (nI c))), some (.int ((nI p) - (nI c)))] [] w1 ((j_u I 260 46 ((I 260 46) ||| 1)), D, RR R) Q) : j_W 217 d 0 0 0 0 168 [some (.ref 260), some (.int (nI c)), none, none] [] w1 (I, D, RR R) Q := by
  refine q_aload_n d217_168 rfl ?_
  refine q_getI d217_169 (fs10_351 217 rfl) rfl (lt_w1 rfl) sh260 ?_
  refine r_int (y := (nI p)) (show I 260 39 = (nI p) from hp) ?_
  refine q_iload_n d217_172 rfl ?_
  refine q_isub d217_173 ?_
  refine q_istore_n (L' := [some (.ref 260), some (.int (nI c)), some (.int ((nI p) - (nI c))), none]) d217_174 (Nat.le_of_ble_eq_true rfl) rfl ?_
  refine q_aload_n d217_175 rfl ?_
  refine q_dup rfl d217_176 ?_
  refine q_getI d217_177 (fs10_357 217 rfl) rfl (lt_w1 rfl) sh260 ?_
  refine q_iload_n d217_180 rfl ?_
  refine q_iconst (v := 1) (by decide) d217_181 ?_
  refine q_iconst (v := 3) (by decide) d217_182 ?_
  refine q_invS (av := [.int ((nI p) - (nI c)), .int 1, .int 3]) (rest := [.int (I 260 46), .ref 260]) (d' := 0) (mc' := 0) (ms' := 0) d217_183 (cv10_183 217 rfl) rfl rfl (by omega) (Nat.le_of_ble_eq_true rfl) (Nat.le_of_ble_eq_true rfl) (Nat.le_refl _) (Nat.le_refl _) ?_
  refine p168  (fun h2 => ?_) (fun h2 => ?_)
  ·
    show j_W 217 d 0 0 0 0 186 [some (.ref 260), some (.int (nI c)), some (.int ((nI p) - (nI c))), none] [.int 1, .int (I 260 46), .ref 260] w1 (I, D, RR R) Q
    refine q_if_ne (tgt := 193) d217_186 rfl (fun _ => ?_) (fun h => absurd h (by decide))
    refine q_iconst (v := 0) (by decide) d217_193 ?_
    refine q_ior d217_194 ?_
    refine q_putZ d217_195 (fs10_357 217 rfl) (Or.inl rfl) rfl (v1 h2) (lt_w1 rfl) sh260 ?_
    refine q_iload_n d217_198 rfl ?_
    refine q_istore_n (L' := [some (.ref 260), some (.int (nI c)), some (.int ((nI p) - (nI c))), some (.int ((nI p) - (nI c)))]) d217_199 (Nat.le_of_ble_eq_true rfl) rfl ?_
    exact r_sub (L' := [some (.ref 260), none, some (.int ((nI p) - (nI c))), some (.int ((nI p) - (nI c)))]) ⟨rfl, rfl, rfl, trivial⟩ (v2 h2)
  ·
    show j_W 217 d 0 0 0 0 186 [some (.ref 260), some (.int (nI c)), some (.int ((nI p) - (nI c))), none] [.int 0, .int (I 260 46), .ref 260] w1 (I, D, RR R) Q
    refine q_if_ne (tgt := 193) d217_186 rfl (fun h => absurd h (by decide)) (fun _ => ?_)
    refine q_iconst (v := 1) (by decide) d217_189 ?_
    refine q_goto (tgt := 194) d217_190 rfl ?_
    refine q_ior d217_194 ?_
    refine q_putZ d217_195 (fs10_357 217 rfl) (Or.inl rfl) rfl (v3 h2) (lt_w1 rfl) sh260 ?_
    refine q_iload_n d217_198 rfl ?_
    refine q_istore_n (L' := [some (.ref 260), some (.int (nI c)), some (.int ((nI p) - (nI c))), some (.int ((nI p) - (nI c)))]) d217_199 (Nat.le_of_ble_eq_true rfl) rfl ?_
    exact r_sub (L' := [some (.ref 260), none, some (.int ((nI p) - (nI c))), some (.int ((nI p) - (nI c)))]) ⟨rfl, rfl, rfl, trivial⟩ (v4 h2)

set_option maxRecDepth 10000 in
set_option maxHeartbeats 4000000 in
theorem s217p {d : Nat} {I : Nat → Nat → Int32} {D : Nat → Nat → UInt64} {R : Nat → Nat → Option Nat} {Q : j_Po} {f : Nat} {k : Nat}  (hk : k ≤ 96) (hd : 2 ≤ d)
    (v1 : (3 ≤ k) → Q none w1 (I, D, RR R))
    (v2 : (¬ 3 ≤ k) → j_W 217 d 0 0 0 0 200 [some (.ref 260), none, some (.int (nI f)), some (.int (nI (k + 1)))] [] w1 ((j_u I 260 44 ((I 260 44) * 10)), D, RR R) Q) : j_W 217 d 0 0 0 0 200 [some (.ref 260), none, some (.int (nI f)), some (.int (nI k))] [] w1 (I, D, RR R) Q := by
  refine q_iload_n d217_200 rfl ?_
  refine q_iconst (v := 3) (by decide) d217_201 ?_
  refine q_icmp_ge (tgt := 222) d217_202 rfl (fun h1t => ?_) (fun h1f => ?_)
  ·
    have h1tc : 3 ≤ k := (nI_leI (by omega) (by omega)).mp h1t
    exact q_ret d217_222 rfl (Nat.le_refl _) (Nat.le_refl _) (v1 h1tc)
  ·
    have h1fc : ¬ 3 ≤ k := mt (nI_leI (by omega) (by omega)).mpr h1f
    refine q_aload_n d217_205 rfl ?_
    refine q_dup rfl d217_206 ?_
    refine q_getI d217_207 (fs10_391 217 rfl) rfl (lt_w1 rfl) sh260 ?_
    refine q_bipush (v := 10) (by decide) d217_210 ?_
    refine q_imul d217_212 ?_
    refine q_putI d217_213 (fs10_391 217 rfl) (Or.inl rfl) rfl (lt_w1 rfl) sh260 ?_
    refine q_iinc (L' := [some (.ref 260), none, some (.int (nI f)), some (.int (nI (k + 1)))]) (v := (nI (k + 1))) d217_216 rfl (nI_inc _) rfl ?_
    refine q_goto (tgt := 200) d217_219 rfl ?_
    exact r_sub (L' := [some (.ref 260), none, some (.int (nI f)), some (.int (nI (k + 1)))]) ⟨rfl, rfl, rfl, trivial⟩ (v2 h1fc)

def RNf (I J : Nat → Nat → Int32) : Prop := (∀ o, o ≠ 260 → J o = I o) ∧ (∀ i, i ≠ 39 → i ≠ 43 → i ≠ 44 → i ≠ 46 → J 260 i = I 260 i)
/-- the reference behind a number -/
def RNm (I J : Nat → Nat → Int32) (e : Nat) (tk : Nat × Nat) : Prop := RNf I J ∧ (tk.1 = 262 → J 260 46 = 1) ∧ (tk.1 ≠ 262 → J 260 46 = 0 ∧ J 260 39 = nI e ∧ ∃ v, v < 10000 ∧ J 260 43 = nI v ∧ ((tk = (257, 1000 * v) ∧ J 260 44 = -1) ∨ ∃ f, f < 1000 ∧ tk = (258, 1000 * v + f) ∧ J 260 44 = nI f))
theorem TR.cg {T : Nat → Nat} {n : Nat} {I J : Nat → Nat → Int32} (h : TR T n I) (h1 : J 260 34 = I 260 34) (h2 : J 422 = I 422) : TR T n J := ⟨h.1, by rw [h1]; exact h.2.1, fun k hk => by rw [h2]; exact h.2.2 k hk⟩
theorem RNf.tr {T : Nat → Nat} {n : Nat} {I J : Nat → Nat → Int32} (h : RNf I J) (hT : TR T n I) : TR T n J := hT.cg (h.2 34 (by decide) (by decide) (by decide) (by decide)) (h.1 422 (by decide))
theorem RNf.u {I J : Nat → Nat → Int32} (h : RNf I J) {k : Nat} (v : Int32) (hk : k = 39 ∨ k = 43 ∨ k = 44 ∨ k = 46) : RNf I (j_u J 260 k v) := ⟨fun o ho => by rw [← h.1 o ho]; funext i; rw [j_u_o _ _ _ ho], fun i a b c f => by rw [j_u_k _ _ (by omega)]; exact h.2 i a b c f⟩
theorem dg_eq {v c : Nat} (h : 48 ≤ c) : ((10 * (nI v)) + (nI c)) - 48 = nI (10 * v + (c - 48)) := by
  rw [show (10 : Int32) = nI 10 from rfl, show (48 : Int32) = nI 48 from rfl, pk_mul, nI_add, pk_sub (by omega)]
  congr 1; omega
theorem sb_le {b m k : Nat} (hb : b + m < 2 ^ 31) (hk : k < 2 ^ 31) : ((nI (b + m)) - (nI b)) ≤ nI k ↔ m ≤ k := by
  rw [pk_sub (by omega), nI_leI (by omega) hk]; omega
section NR
variable {d : Nat} {I : Nat → Nat → Int32} {D : Nat → Nat → UInt64} {R : Nat → Nat → Option Nat} {Q : j_Po} {T : Nat → Nat} {n b : Nat}
/-- the pad -/
theorem p217 {c f : Nat} (hf : f ≤ 96) (hd : 2 ≤ d) (hq : ∀ J, RNf I J → (∀ i, i ≠ 44 → J 260 i = I 260 i) → (f ≤ 3 → ∀ v, I 260 44 = nI v → J 260 44 = nI (v * 10 ^ (3 - f))) → Q none w1 (J, D, RR R)) : j_W 217 d 0 0 0 0 200 [some (.ref 260), none, some (.int (nI f)), some (.int (nI f))] [] w1 (I, D, RR R) Q := by
  have loop : ∀ z k J, k ≤ 96 → f ≤ k → 3 - k = z → RNf I J → (∀ i, i ≠ 44 → J 260 i = I 260 i) → (k ≤ 3 → ∀ v, I 260 44 = nI v → J 260 44 = nI (v * 10 ^ (k - f))) → (3 < k → k = f) → j_W 217 d 0 0 0 0 200 [some (.ref 260), none, some (.int (nI f)), some (.int (nI k))] [] w1 (J, D, RR R) Q := fun z => by
    induction z with
    | zero =>
      intro k J hk hfk hz h1 h2 h3 h4
      refine s217p hk hd (fun _ => hq J h1 h2 (fun hf3 v hv => ?_)) (fun h => by omega)
      have : k = 3 := by omega
      subst this
      exact h3 (by decide) v hv
    | succ z ih =>
      intro k J hk hfk hz h1 h2 h3 h4
      refine s217p hk hd (fun h => by omega) (fun _ => ih (k + 1) _ (by omega) (by omega) (by omega) (h1.u _ (by decide)) (fun i hi => by rw [j_u_k _ _ hi]; exact h2 i hi) (fun _ v hv => ?_) (fun h => by omega))
      rw [j_u_same, h3 (by omega) v hv, show (10 : Int32) = nI 10 from rfl, pk_mul, Nat.mul_assoc, ← Nat.pow_succ, show k + 1 - f = (k - f) + 1 by omega]
  exact loop _ f I hf (Nat.le_refl _) rfl ⟨fun _ _ => rfl, fun _ _ _ _ _ => rfl⟩ (fun _ _ => rfl) (fun _ v hv => by rw [Nat.sub_self, Nat.pow_zero, Nat.mul_one]; exact hv) (fun _ => rfl)
/-- behind the point -/
theorem f217 (hT : TR T n I) {c m g : Nat} (hbn : b < n) (hdg : isDg (T b)) (hc : dgR T n b c) (hcn : c < n) (hc46 : T c = 46) (hm : m = c - b) (hg : g = if m ≤ 4 then 0 else 1) {v : Nat} (hd : 2 ≤ d) (hq : ∀ J e tk, LxN T n b e tk → RNm I J e tk → Q none w1 (J, D, RR R)) (z : Nat) : ∀ f J, (c + 1) + f ≤ n → n - ((c + 1) + f) = z → (∀ j, j < f → isDg (T ((c + 1) + j))) → RNf I J → J 260 39 = nI ((c + 1) + f) → (m ≤ 4 → J 260 43 = nI (dvl T b m)) → J 260 44 = nI (dvl T (c + 1) (min f 3)) → J 260 46 = nI g → j_W 217 d 0 0 0 0 115 [some (.ref 260), some (.int (nI (c + 1))), none, none] [] w1 (J, D, RR R) Q := by
  have hn9 := hT.1
  have hfin : ∀ f J, (c + 1) + f ≤ n → (∀ j, j < f → isDg (T ((c + 1) + j))) → RNf I J → J 260 39 = nI ((c + 1) + f) → (m ≤ 4 → J 260 43 = nI (dvl T b m)) → J 260 44 = nI (dvl T (c + 1) (min f 3)) → J 260 46 = nI g → ¬ ((c + 1) + f < n ∧ isDg (T ((c + 1) + f))) → j_W 217 d 0 0 0 0 168 [some (.ref 260), some (.int (nI (c + 1))), none, none] [] w1 (J, D, RR R) Q := fun f J hk hz hF h39 h43 h44 h46 hx => by
    have hr : dgR T n (c + 1) ((c + 1) + f) := ⟨by omega, fun j h1 h2 => ⟨by omega, by have := hz (j - (c + 1)) (by omega); rw [show (c + 1) + (j - (c + 1)) = j by omega] at this; exact this⟩, hx⟩
    have hef : (c + 1) + f - (c + 1) = f := by omega
    have hg2 : g = 0 ∨ g = 1 := by rw [hg]; split <;> omega
    have esub : (nI ((c + 1) + f)) - (nI (c + 1)) = nI f := by rw [pk_sub (by omega), hef]
    have hin : (¬ ((nI ((c + 1) + f)) - (nI (c + 1))) < (1 : Int32) ∧ ¬ (3 : Int32) < ((nI ((c + 1) + f)) - (nI (c + 1)))) ↔ (1 ≤ f ∧ f ≤ 3) := by
      rw [esub, show (1 : Int32) = nI 1 from rfl, show (3 : Int32) = nI 3 from rfl, nI_ltI (by omega) (by omega), nI_ltI (by omega) (by omega)]; omega
    refine s217d (hF.tr hT) h39 hk hn9 (by omega) hd (fun h => ?_) (fun h => ?_) (fun h => ?_) (fun h => ?_)
    · rw [h46]; rcases hg2 with e | e <;> rw [e] <;> decide
    · have h13 := hin.mp h
      rw [esub]
      refine p217 (c := c) (by omega) hd (fun K k1 k2 k3 => hq K ((c + 1) + f) (if m ≤ 4 then (258, 1000 * dvl T b (c - b) + gvl T (c + 1) f) else (262, 0)) ?_ ?_)
      · refine ⟨hbn, hdg, c, hc, Or.inr ⟨⟨hcn, hc46⟩, hr, ?_⟩⟩
        by_cases h4 : m ≤ 4
        · rw [if_pos h4, hef]; exact Or.inr ⟨by omega, rfl⟩
        · rw [if_neg h4]; exact Or.inl ⟨by omega, rfl⟩
      · have hKF : RNf I K := ⟨fun o ho => (k1.1 o ho).trans (by rw [← hF.1 o ho]; funext i; rw [j_u_o _ _ _ ho]), fun i a b2 c2 e2 => (k1.2 i a b2 c2 e2).trans (by rw [j_u_k _ _ e2]; exact hF.2 i a b2 c2 e2)⟩
        have e46 : K 260 46 = nI g := by
          rw [k2 46 (by decide), j_u_same, h46]; rcases hg2 with e | e <;> rw [e] <;> decide
        by_cases h4 : m ≤ 4
        · rw [if_pos h4]
          refine ⟨hKF, fun h => absurd h (by show ¬ (258 : Nat) = 262; decide), fun _ => ⟨by rw [e46, hg, if_pos h4]; rfl, ?_, dvl T b m, ?_, ?_, Or.inr ⟨gvl T (c + 1) f, gvl_lt hz, by rw [hm], ?_⟩⟩⟩
          · rw [k2 39 (by decide), j_u_k _ _ (by decide)]; exact h39
          · exact dvl_lt (fun j hj => (hc.2.1 (b + j) (by omega) (by omega)).2) h4
          · rw [k2 43 (by decide), j_u_k _ _ (by decide)]; exact h43 h4
          · rw [k3 h13.2 _ (by rw [j_u_k _ _ (by decide)]; exact h44)]
            congr 1
            have hf3 : f = 1 ∨ f = 2 ∨ f = 3 := by omega
            rcases hf3 with rfl | rfl | rfl <;> simp [gvl]
        · rw [if_neg h4]
          exact ⟨hKF, fun _ => by rw [e46, hg, if_neg h4]; rfl, fun h => absurd rfl h⟩
    · rw [h46]; rcases hg2 with e | e <;> rw [e] <;> decide
    · have h13 := mt hin.mpr h
      rw [esub]
      refine p217 (c := c) (by omega) hd (fun K k1 k2 k3 => hq K ((c + 1) + f) (262, 0) ⟨hbn, hdg, c, hc, Or.inr ⟨⟨hcn, hc46⟩, hr, Or.inl ⟨by omega, rfl⟩⟩⟩ ⟨?_, fun _ => ?_, fun h => absurd rfl h⟩)
      · exact ⟨fun o ho => (k1.1 o ho).trans (by rw [← hF.1 o ho]; funext i; rw [j_u_o _ _ _ ho]), fun i a b2 c2 e2 => (k1.2 i a b2 c2 e2).trans (by rw [j_u_k _ _ e2]; exact hF.2 i a b2 c2 e2)⟩
      · rw [k2 46 (by decide), j_u_same, h46]; rcases hg2 with e | e <;> rw [e] <;> decide
  induction z with
  | zero =>
    intro f J hk hz9 hz hF h39 h43 h44 h46
    exact s217c (hF.tr hT) h39 hk hn9 (by omega) hd (hF.tr hT) h39 hk (Nat.le_refl _) (fun h => by omega) (fun h => by omega) (fun h => by omega) (fun h => by omega) (fun h => hfin f J hk hz hF h39 h43 h44 h46 h)
  | succ z ih =>
    intro f J hk hz9 hz hF h39 h43 h44 h46
    have hz2 : isDg (T ((c + 1) + f)) → ∀ j, j < f + 1 → isDg (T ((c + 1) + j)) := fun h j hj => by
      by_cases e : j = f
      · subst e; exact h
      · exact hz j (by omega)
    have h3 : (3 : Int32) ≤ ((nI ((c + 1) + f)) - (nI (c + 1))) ↔ 3 ≤ f := by
      rw [pk_sub (by omega), show (3 : Int32) = nI 3 from rfl, nI_leI (by omega) (by omega)]; omega
    refine s217c (hF.tr hT) h39 hk hn9 (by omega) hd (hF.tr hT) h39 hk (Nat.le_refl _) (fun _ hdg2 hf3 => ?_) (fun _ _ _ => by omega) (fun _ hdg2 hf3 _ => ?_) (fun h _ _ h2 => absurd h h2) (fun h => hfin f J hk hz hF h39 h43 h44 h46 h)
    · have h3' := h3.mp hf3
      refine ih (f + 1) _ (by omega) (by omega) (hz2 hdg2) (hF.u _ (by decide)) (j_u_same _ _ _ _) (fun h => by rw [j_u_k _ _ (by decide)]; exact h43 h) ?_ (by rw [j_u_k _ _ (by decide)]; exact h46)
      rw [j_u_k _ _ (by decide), h44, Nat.min_eq_right h3', Nat.min_eq_right (by omega)]
    · have h3' := mt h3.mpr hf3
      refine ih (f + 1) _ (by omega) (by omega) (hz2 hdg2) ((hF.u _ (by decide)).u _ (by decide)) (j_u_same _ _ _ _) (fun h => by rw [j_u_k _ _ (by decide), j_u_k _ _ (by decide)]; exact h43 h) ?_ (by rw [j_u_k _ _ (by decide), j_u_k _ _ (by decide)]; exact h46)
      rw [j_u_k _ _ (by decide), j_u_same, h44, Nat.min_eq_left (by omega), Nat.min_eq_left (by omega), dg_eq hdg2.1]
      rfl
theorem c217 (hT : TR T n I) (hp : I 260 39 = nI b) (hb : I 260 40 = nI b) (hbn : b < n) (hdg : isDg (T b)) (hd : 2 ≤ d) (hq : ∀ J e tk, LxN T n b e tk → RNm I J e tk → Q none w1 (J, D, RR R)) : j_Call d 217 [.ref 260] w1 (I, D, RR R) 0 0 Q := by
  have hn9 := hT.1
  have fin : ∀ m J, b + m ≤ n → (∀ j, j < m → isDg (T (b + j))) → RNf I J → J 260 39 = nI (b + m) → (m ≤ 4 → J 260 43 = nI (dvl T b m)) → J 260 44 = -1 → ¬ (b + m < n ∧ isDg (T (b + m))) → j_W 217 d 0 0 0 0 59 [some (.ref 260), none, none, none] [] w1 (J, D, RR R) Q := fun m J hk hz hF h39 h43 h44 hx => by
    have hr : dgR T n b (b + m) := ⟨by omega, fun j h1 h2 => ⟨by omega, by have := hz (j - b) (by omega); rw [show b + (j - b) = j by omega] at this; exact this⟩, hx⟩
    have h4 : ((nI (b + m)) - (nI b)) ≤ 4 ↔ m ≤ 4 := sb_le (k := 4) (by omega) (by decide)
    have hTJ := hF.tr hT
    have hbJ : J 260 40 = nI b := by rw [hF.2 40 (by decide) (by decide) (by decide) (by decide)]; exact hb
    have done : ∀ g : Nat, g = (if m ≤ 4 then 0 else 1) → ¬ (b + m < n ∧ T (b + m) = 46) → Q none w1 (j_u J 260 46 (nI g), D, RR R) := fun g hg hno => by
      refine hq _ (b + m) (if m ≤ 4 then (257, 1000 * dvl T b m) else (262, 0)) ⟨hbn, hdg, b + m, hr, Or.inl ⟨hno, rfl, ?_⟩⟩ ?_
      · by_cases hm4 : m ≤ 4
        · rw [if_pos hm4]; exact Or.inr ⟨by omega, by rw [show b + m - b = m by omega]⟩
        · rw [if_neg hm4]; exact Or.inl ⟨by omega, rfl⟩
      · by_cases hm4 : m ≤ 4
        · rw [if_pos hm4]
          refine ⟨hF.u _ (by decide), fun h => absurd h (by show ¬ (257 : Nat) = 262; decide), fun _ => ⟨by rw [j_u_same, hg, if_pos hm4]; rfl, by rw [j_u_k _ _ (by decide)]; exact h39, dvl T b m, dvl_lt hz hm4, by rw [j_u_k _ _ (by decide)]; exact h43 hm4, Or.inl ⟨rfl, by rw [j_u_k _ _ (by decide)]; exact h44⟩⟩⟩
        · rw [if_neg hm4]
          exact ⟨hF.u _ (by decide), fun _ => by rw [j_u_same, hg, if_neg hm4]; rfl, fun h => absurd rfl h⟩
    have dot : ∀ g : Nat, g = (if m ≤ 4 then 0 else 1) → b + m < n → T (b + m) = 46 → j_W 217 d 0 0 0 0 115 [some (.ref 260), some (.int (nI (b + m + 1))), none, none] [] w1 ((j_u (j_u (j_u J 260 46 (nI g)) 260 39 (nI (b + m + 1))) 260 44 0), D, RR R) Q := fun g hg hlt h46 => by
      refine f217 (v := 0) hT hbn hdg hr hlt h46 (m := m) (by omega) hg hd hq _ 0 _ (by omega) rfl (fun j hj => absurd hj (Nat.not_lt_zero _)) (((hF.u _ (by decide)).u _ (by decide)).u _ (by decide)) ?_ (fun hm4 => ?_) ?_ ?_
      · rw [j_u_k _ _ (by decide), j_u_same]
      · rw [j_u_k _ _ (by decide), j_u_k _ _ (by decide), j_u_k _ _ (by decide)]; exact h43 hm4
      · rw [j_u_same]; rfl
      · rw [j_u_k _ _ (by decide), j_u_k _ _ (by decide), j_u_same]
    refine s217b hTJ h39 hk hn9 hbJ (by omega) (fun h => (hT.2.2 _ h).1) hd (fun _ => (hF.u 0 (by decide)).tr hT) (fun _ => by omega) (fun h h1 h2 => ?_) (fun h h1 h2 => ?_) (fun h h1 => ?_) (fun _ => (hF.u 1 (by decide)).tr hT) (fun _ => by omega) (fun h h1 h2 => ?_) (fun h h1 h2 => ?_) (fun h h1 => ?_)
    · exact dot 0 (by rw [if_pos (h4.mp h)]) h1 h2
    · exact done 0 (by rw [if_pos (h4.mp h)]) (fun q => h2 q.2)
    · exact done 0 (by rw [if_pos (h4.mp h)]) (fun q => h1 q.1)
    · exact dot 1 (by rw [if_neg (mt h4.mpr h)]) h1 h2
    · exact done 1 (by rw [if_neg (mt h4.mpr h)]) (fun q => h2 q.2)
    · exact done 1 (by rw [if_neg (mt h4.mpr h)]) (fun q => h1 q.1)
  have loop : ∀ z m J, b + m ≤ n → n - (b + m) = z → (∀ j, j < m → isDg (T (b + j))) → RNf I J → J 260 39 = nI (b + m) → (m ≤ 4 → J 260 43 = nI (dvl T b m)) → J 260 44 = -1 → j_W 217 d 0 0 0 0 10 [some (.ref 260), none, none, none] [] w1 (J, D, RR R) Q := fun z => by
    induction z with
    | zero =>
      intro m J hk hz9 hz hF h39 h43 h44
      exact s217a (hF.tr hT) h39 hk hn9 hd (hF.tr hT) h39 hk (Nat.le_refl _) (fun h => by omega) (fun h => by omega) (fun h => by omega) (fun h => by omega) (fun h => by omega) (fun h => fin m J hk hz hF h39 h43 h44 h)
    | succ z ih =>
      intro m J hk hz9 hz hF h39 h43 h44
      have hz2 : isDg (T (b + m)) → ∀ j, j < m + 1 → isDg (T (b + j)) := fun h j hj => by
        by_cases e : j = m
        · subst e; exact h
        · exact hz j (by omega)
      have go : ∀ x : Int32, isDg (T (b + m)) → (m + 1 ≤ 4 → x = nI (dvl T b (m + 1))) → j_W 217 d 0 0 0 0 10 [some (.ref 260), none, none, none] [] w1 ((j_u (j_u J 260 43 x) 260 39 (nI (b + m + 1))), D, RR R) Q := fun x hx hv => by
        refine ih (m + 1) _ (by omega) (by omega) (hz2 hx) ((hF.u _ (by decide)).u _ (by decide)) (j_u_same _ _ _ _) (fun h => ?_) ?_
        · rw [j_u_k _ _ (by decide), j_u_same]; exact hv h
        · rw [j_u_k _ _ (by decide), j_u_k _ _ (by decide)]; exact h44
      have val : isDg (T (b + m)) → m + 1 ≤ 4 → (((10 * (J 260 43)) + (nI (T (b + m)))) - 48) = nI (dvl T b (m + 1)) := fun hx hm4 => by
        rw [h43 (by omega), dg_eq hx.1]; rfl
      refine s217a (hF.tr hT) h39 hk hn9 hd (hF.tr hT) h39 hk (Nat.le_refl _) (fun _ _ => by omega) (fun _ hx _ _ => go _ hx (fun hm4 => val hx hm4)) (fun _ hx _ h => go _ hx (fun hm4 => absurd ?_ h)) (fun h _ h2 => absurd h h2) (fun h _ h2 => absurd h h2) (fun h => fin m J hk hz hF h39 h43 h44 h)
      rw [val hx hm4, show (100000 : Int32) = nI 100000 from rfl, nI_ltI (by have := dvl_lt (hz2 hx) hm4; omega) (by decide)]
      have := dvl_lt (hz2 hx) hm4
      omega
  refine s217e hd (loop _ 0 _ (by omega) rfl (fun j hj => absurd hj (Nat.not_lt_zero _)) ⟨fun o ho => ?_, fun i a1 a2 a3 a4 => ?_⟩ ?_ (fun _ => ?_) ?_)
  · funext i; rw [j_u_o _ _ _ ho, j_u_o _ _ _ ho]
  · rw [j_u_k _ _ a3, j_u_k _ _ a2]
  · rw [j_u_k _ _ (by decide), j_u_k _ _ (by decide)]; exact hp
  · rw [j_u_k _ _ (by decide), j_u_same]; rfl
  · rw [j_u_same]
end NR
