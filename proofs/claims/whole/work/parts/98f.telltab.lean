/-! the class tells tables -/
theorem c25 {d g w : Nat} {I : Nat → Nat → Int32} {D : Nat → Nat → UInt64} {R : Nat → Nat → Option Nat} {Q : j_Po} (hg : isG g) (hw : (I g 5 ≤ 0 ∧ w = 1) ∨ (I g 5 = nI w ∧ 1 ≤ w ∧ w ≤ 8)) (hq : Q (some (.int (nI w))) w1 (I, D, RR R)) : j_Call d 25 [.ref g] w1 (I, D, RR R) 0 0 Q := by
  refine tcol hg (Nat.zero_le _) (fun h => ?_) (fun h => ?_)
  · rcases hw with ⟨-, e⟩ | ⟨e, h1, h2⟩
    · subst e; exact hq
    · rw [e, show (0 : Int32) = nI 0 from rfl, nI_leI (by omega) (by decide)] at h; omega
  · rcases hw with ⟨h2, -⟩ | ⟨e, h1, h2⟩
    · exact absurd h2 h
    · rw [e]; exact hq
set_option maxRecDepth 10000 in
set_option maxHeartbeats 4000000 in
theorem t36e {d : Nat} {I : Nat → Nat → Int32} {D : Nat → Nat → UInt64} {R : Nat → Nat → Option Nat} {Q : j_Po} {L : Nat} {x : Int32}   (hd : 0 ≤ d)
    (v1 : j_W 36 d 0 0 0 0 2 [some (.ref 107), some (.int (nI L)), some (.int x), some (.int 0), none] [] w1 (I, D, RR R) Q) : j_Call d 36 [.ref 107, .int (nI L), .int x] w1 (I, D, RR R) 0 0 Q := by
  refine q_enter (L := [some (.ref 107), some (.int (nI L)), some (.int x), none, none]) j_m36 (Nat.le_of_ble_eq_true rfl) rfl ?_
  refine q_iconst (v := 0) (by decide) d36_0 ?_
  refine q_istore_n (L' := [some (.ref 107), some (.int (nI L)), some (.int x), some (.int 0), none]) d36_1 (Nat.le_of_ble_eq_true rfl) rfl ?_
  exact r_sub (L' := [some (.ref 107), some (.int (nI L)), some (.int x), some (.int 0), none]) ⟨rfl, rfl, rfl, rfl, trivial⟩ v1

set_option maxRecDepth 10000 in
set_option maxHeartbeats 4000000 in
theorem t36h {d : Nat} {I : Nat → Nat → Int32} {D : Nat → Nat → UInt64} {R : Nat → Nat → Option Nat} {Q : j_Po} {L : Nat} {x : Int32} {k : Nat} {n : Nat} (hR : WFR R) (hk : k ≤ 30) (hn : k < 30 → I 205 k = nI n) (hn30 : n < 30) (hd : 1 ≤ d)
    (v1 : (30 ≤ k) → Q none w1 (I, D, RR R))
    (v2 : (¬ 30 ≤ k) → (24 ≤ n) → j_W 36 d 0 0 0 0 2 [some (.ref 107), some (.int (nI L)), some (.int x), some (.int (nI (k + 1))), none] [] w1 (I, D, RR R) Q)
    (v3 : (¬ 30 ≤ k) → (¬ 24 ≤ n) → ((¬ (x >>> ((nI n) &&& 31)) &&& 1 = 0)) → ((I ((R 112 n).getD 0) 1) ≤ 0) → j_W 36 d 0 0 0 0 2 [some (.ref 107), some (.int (nI L)), some (.int x), some (.int (nI (k + 1))), none] [] w1 (I, D, RR R) Q)
    (v4 : (¬ 30 ≤ k) → (¬ 24 ≤ n) → ((¬ (x >>> ((nI n) &&& 31)) &&& 1 = 0)) → (¬ (I ((R 112 n).getD 0) 1) ≤ 0) → j_W 36 d 0 0 0 0 47 [some (.ref 107), some (.int (nI L)), some (.int x), some (.int (nI k)), some (.int (nI n))] [] w1 (I, D, RR R) Q)
    (v5 : (¬ 30 ≤ k) → (¬ 24 ≤ n) → (¬ ((¬ (x >>> ((nI n) &&& 31)) &&& 1 = 0))) → j_W 36 d 0 0 0 0 2 [some (.ref 107), some (.int (nI L)), some (.int x), some (.int (nI (k + 1))), none] [] w1 (I, D, RR R) Q) : j_W 36 d 0 0 0 0 2 [some (.ref 107), some (.int (nI L)), some (.int x), some (.int (nI k)), none] [] w1 (I, D, RR R) Q := by
  refine q_iload_n d36_2 rfl ?_
  refine q_bipush (v := 30) (by decide) d36_3 ?_
  refine q_icmp_ge (tgt := 60) d36_5 rfl (fun h1t => ?_) (fun h1f => ?_)
  ·
    have h1tc : 30 ≤ k := (nI_leI (by omega) (by omega)).mp h1t
    exact q_ret d36_60 rfl (Nat.le_refl _) (Nat.le_refl _) (v1 h1tc)
  ·
    have h1fc : ¬ 30 ≤ k := mt (nI_leI (by omega) (by omega)).mpr h1f
    refine q_aload_n d36_8 rfl ?_
    refine q_getR (x := 204) d36_9 (fs8_21 36 rfl) rfl (lt_w1 rfl) sh107 (rs107_1 R) (by decide) ?_
    refine q_getR (x := 205) d36_12 (fs8_92 36 rfl) rfl (lt_w1 rfl) sh204 (rs204_0 R) (by decide) ?_
    refine q_iload_n d36_15 rfl ?_
    refine q_iaload (a := k) d36_16 (lt_w1 rfl) sh205 rfl (by omega) ?_
    refine r_int (y := nI n) (hn (by omega)) ?_
    refine q_istore (L' := [some (.ref 107), some (.int (nI L)), some (.int x), some (.int (nI k)), some (.int (nI n))]) d36_17 (Nat.le_of_ble_eq_true rfl) rfl ?_
    refine q_iload d36_19 rfl ?_
    refine q_bipush (v := 24) (by decide) d36_21 ?_
    refine q_icmp_ge (tgt := 54) d36_23 rfl (fun h2t => ?_) (fun h2f => ?_)
    ·
      have h2tc : 24 ≤ n := (nI_leI (by omega) (by omega)).mp h2t
      refine q_iinc (L' := [some (.ref 107), some (.int (nI L)), some (.int x), some (.int (nI (k + 1))), some (.int (nI n))]) (v := (nI (k + 1))) d36_54 rfl (nI_inc _) rfl ?_
      refine q_goto (tgt := 2) d36_57 rfl ?_
      exact r_sub (L' := [some (.ref 107), some (.int (nI L)), some (.int x), some (.int (nI (k + 1))), none]) ⟨rfl, rfl, rfl, rfl, trivial⟩ (v2 h1fc h2tc)
    ·
      have h2fc : ¬ 24 ≤ n := mt (nI_leI (by omega) (by omega)).mpr h2f
      refine q_iload_n d36_26 rfl ?_
      refine q_iload d36_27 rfl ?_
      refine q_invSN (av := [.int x, .int (nI n)]) (rest := []) (d' := 0) (mc' := 0) (ms' := 0) d36_29 (nv8_85 36 rfl) rfl rfl (by omega) (Nat.le_of_ble_eq_true rfl) (Nat.le_of_ble_eq_true rfl) (Nat.le_refl _) (Nat.le_refl _) ?_
      refine p21  (fun h3 => ?_) (fun h3 => ?_)
      ·
        show j_W 36 d 0 0 0 0 32 [some (.ref 107), some (.int (nI L)), some (.int x), some (.int (nI k)), some (.int (nI n))] [.int 1] w1 (I, D, RR R) Q
        refine q_if_eq (tgt := 54) d36_32 rfl (fun h => absurd h (by decide)) (fun _ => ?_)
        refine q_aload_n d36_35 rfl ?_
        refine q_getR (x := 108) d36_36 (fs8_12 36 rfl) rfl (lt_w1 rfl) sh107 (rs107_0 R) (by decide) ?_
        refine q_iload d36_39 rfl ?_
        refine q_invV (o := 108) (ci := 0) (av := [.int (nI n)]) (rest := []) (d' := 0) (mc' := 0) (ms' := 0) d36_41 (cv8_95 36 rfl) rfl (by decide) rfl rfl (by omega) (Nat.le_of_ble_eq_true rfl) (Nat.le_of_ble_eq_true rfl) (lt_w1 rfl) sh108 (Nat.le_refl _) (Nat.le_refl _) ?_
        refine s14 (k := n) hR (by first | omega | decide) (Nat.le_refl _) (fun c4 => ?_) (fun c5 => ?_)
        ·
          show j_W 36 d 0 0 0 0 44 [some (.ref 107), some (.int (nI L)), some (.int x), some (.int (nI k)), some (.int (nI n))] [.int 0] w1 (I, D, RR R) Q
          refine q_if_eq (tgt := 54) d36_44 rfl (fun _ => ?_) (fun h => absurd h (by decide))
          refine q_iinc (L' := [some (.ref 107), some (.int (nI L)), some (.int x), some (.int (nI (k + 1))), some (.int (nI n))]) (v := (nI (k + 1))) d36_54 rfl (nI_inc _) rfl ?_
          refine q_goto (tgt := 2) d36_57 rfl ?_
          exact r_sub (L' := [some (.ref 107), some (.int (nI L)), some (.int x), some (.int (nI (k + 1))), none]) ⟨rfl, rfl, rfl, rfl, trivial⟩ (v3 h1fc h2fc h3 c4)
        ·
          show j_W 36 d 0 0 0 0 44 [some (.ref 107), some (.int (nI L)), some (.int x), some (.int (nI k)), some (.int (nI n))] [.int 1] w1 (I, D, RR R) Q
          refine q_if_eq (tgt := 54) d36_44 rfl (fun h => absurd h (by decide)) (fun _ => ?_)
          exact r_sub (L' := [some (.ref 107), some (.int (nI L)), some (.int x), some (.int (nI k)), some (.int (nI n))]) ⟨rfl, rfl, rfl, rfl, rfl, trivial⟩ (v4 h1fc h2fc h3 c5)
      ·
        show j_W 36 d 0 0 0 0 32 [some (.ref 107), some (.int (nI L)), some (.int x), some (.int (nI k)), some (.int (nI n))] [.int 0] w1 (I, D, RR R) Q
        refine q_if_eq (tgt := 54) d36_32 rfl (fun _ => ?_) (fun h => absurd h (by decide))
        refine q_iinc (L' := [some (.ref 107), some (.int (nI L)), some (.int x), some (.int (nI (k + 1))), some (.int (nI n))]) (v := (nI (k + 1))) d36_54 rfl (nI_inc _) rfl ?_
        refine q_goto (tgt := 2) d36_57 rfl ?_
        exact r_sub (L' := [some (.ref 107), some (.int (nI L)), some (.int x), some (.int (nI (k + 1))), none]) ⟨rfl, rfl, rfl, rfl, trivial⟩ (v5 h1fc h2fc h3)

set_option maxRecDepth 10000 in
set_option maxHeartbeats 4000000 in
theorem t36c {d : Nat} {I : Nat → Nat → Int32} {D : Nat → Nat → UInt64} {R : Nat → Nat → Option Nat} {Q : j_Po} {L : Nat} {x : Int32} {k : Nat} {n : Nat} {AP : (Nat → Nat → Int32) → (Nat → Nat → UInt64) → Prop} (hk : k < 30) (hA : ∀ (Q : j_Po), (∀ J E, AP J E → Q none w1 (J, E, RR R)) → j_Call (d - 1) 37 [.ref 107, .int (nI L), .int (nI n)] w1 (I, D, RR R) 0 0 Q) (hd : 1 ≤ d)
    (v1 : ∀ J1 : Nat → Nat → Int32, ∀ E2 : Nat → Nat → UInt64, (AP J1 E2) → j_W 36 d 0 0 0 0 2 [some (.ref 107), some (.int (nI L)), some (.int x), some (.int (nI (k + 1))), none] [] w1 (J1, E2, RR R) Q) : j_W 36 d 0 0 0 0 47 [some (.ref 107), some (.int (nI L)), some (.int x), some (.int (nI k)), some (.int (nI n))] [] w1 (I, D, RR R) Q := by
  refine q_aload_n d36_47 rfl ?_
  refine q_iload_n d36_48 rfl ?_
  refine q_iload d36_49 rfl ?_
  refine q_invV (o := 107) (ci := 8) (av := [.int (nI L), .int (nI n)]) (rest := []) (d' := (d - 1)) (mc' := 0) (ms' := 0) d36_51 (cv8_99 36 rfl) rfl (by decide) rfl rfl (by omega) (Nat.le_of_ble_eq_true rfl) (Nat.le_of_ble_eq_true rfl) (lt_w1 rfl) sh107 (Nat.le_refl _) (Nat.le_refl _) ?_
  refine hA _  (fun J1 E2 h3 => ?_)
  show j_W 36 d 0 0 0 0 54 [some (.ref 107), some (.int (nI L)), some (.int x), some (.int (nI k)), some (.int (nI n))] [] w1 (J1, E2, RR R) Q
  refine q_iinc (L' := [some (.ref 107), some (.int (nI L)), some (.int x), some (.int (nI (k + 1))), some (.int (nI n))]) (v := (nI (k + 1))) d36_54 rfl (nI_inc _) rfl ?_
  refine q_goto (tgt := 2) d36_57 rfl ?_
  exact r_sub (L' := [some (.ref 107), some (.int (nI L)), some (.int x), some (.int (nI (k + 1))), none]) ⟨rfl, rfl, rfl, rfl, trivial⟩ (v1 J1 E2 h3)

set_option maxRecDepth 10000 in
set_option maxHeartbeats 4000000 in
theorem t41a {d : Nat} {I : Nat → Nat → Int32} {D : Nat → Nat → UInt64} {R : Nat → Nat → Option Nat} {Q : j_Po} {L : Nat} {t : Nat} {v : Nat → Vl} (hR : WFR R) (ht : t < 6) (hd : 1 ≤ d)
    (v1 : ∀ J3 : Nat → Nat → Int32, ∀ E4 : Nat → Nat → UInt64, (TLR J3 E4 (230 + 3 * t) 0 v) → (FT (230 + 3 * t) I D J3 E4) → j_W 41 d 0 0 0 0 23 [some (.ref 107), some (.int (nI L)), some (.int (nI t)), some (.ref ((R 113 t).getD 0)), some (.ref (230 + 3 * t)), none, none, none, none, none] [] w1 (J3, E4, RR R) Q) : j_Call d 41 [.ref 107, .int (nI L), .int (nI t)] w1 (I, D, RR R) 0 0 Q := by
  refine q_enter (L := [some (.ref 107), some (.int (nI L)), some (.int (nI t)), none, none, none, none, none, none, none]) j_m41 (Nat.le_of_ble_eq_true rfl) rfl ?_
  refine q_aload_n d41_0 rfl ?_
  refine q_getR (x := 108) d41_1 (fs8_12 41 rfl) rfl (lt_w1 rfl) sh107 (rs107_0 R) (by decide) ?_
  refine q_getR (x := 113) d41_4 (fs8_148 41 rfl) rfl (lt_w1 rfl) sh108 (rs108_4 R) (by decide) ?_
  refine q_iload_n d41_7 rfl ?_
  have g2 := hR.g t (by omega)
  refine q_aaload (c := 7) (a := t) (x := ((R 113 t).getD 0)) d41_8 (lt_w1 rfl) sh113 (by decide) rfl (by omega) ((RR_d rfl).trans g2.1) (lt1000 (isG_lt g2.2)) ?_
  refine q_astore_n (L' := [some (.ref 107), some (.int (nI L)), some (.int (nI t)), some (.ref ((R 113 t).getD 0)), none, none, none, none, none, none]) d41_9 (Nat.le_of_ble_eq_true rfl) (Nat.ne_of_lt (Nat.lt_trans (lt1000 (isG_lt g2.2)) (by decide))) rfl ?_
  refine q_aload_n d41_10 rfl ?_
  refine q_getR (x := 211) d41_11 (fs8_27 41 rfl) rfl (lt_w1 rfl) sh107 (rs107_2 R) (by decide) ?_
  refine q_iload_n d41_14 rfl ?_
  refine q_aaload (c := 9) (a := t) (x := (230 + 3 * t)) d41_15 (lt_w1 rfl) sh211 (by decide) rfl (by omega) (rl211 R (by omega)) (lt1000 (isTl_lt (isTl_k _ (by omega)))) ?_
  refine q_astore (L' := [some (.ref 107), some (.int (nI L)), some (.int (nI t)), some (.ref ((R 113 t).getD 0)), some (.ref (230 + 3 * t)), none, none, none, none, none]) d41_16 (Nat.le_of_ble_eq_true rfl) (Nat.ne_of_lt (Nat.lt_trans (lt1000 (isTl_lt (isTl_k _ (by omega)))) (by decide))) rfl ?_
  refine q_aload d41_18 rfl ?_
  refine q_invV (o := (230 + 3 * t)) (ci := 7) (av := []) (rest := []) (d' := 0) (mc' := 0) (ms' := 0) d41_20 (cv8_169 41 rfl) rfl (by decide) rfl rfl (by omega) (Nat.le_of_ble_eq_true rfl) (Nat.le_of_ble_eq_true rfl) (isTl_lt (isTl_k _ (by omega))) (isTl_sh (isTl_k _ (by omega))) (Nat.le_refl _) (Nat.le_refl _) ?_
  refine c42 (v := v) (isTl_k t ht)  (fun J3 E4 h5 h6 => ?_)
  show j_W 41 d 0 0 0 0 23 [some (.ref 107), some (.int (nI L)), some (.int (nI t)), some (.ref ((R 113 t).getD 0)), some (.ref (230 + 3 * t)), none, none, none, none, none] [] w1 (J3, E4, RR R) Q
  exact r_sub (L' := [some (.ref 107), some (.int (nI L)), some (.int (nI t)), some (.ref ((R 113 t).getD 0)), some (.ref (230 + 3 * t)), none, none, none, none, none]) ⟨rfl, rfl, rfl, rfl, rfl, trivial⟩ (v1 J3 E4 h5 h6)

set_option maxRecDepth 10000 in
set_option maxHeartbeats 4000000 in
theorem t41b {d : Nat} {I : Nat → Nat → Int32} {D : Nat → Nat → UInt64} {R : Nat → Nat → Option Nat} {Q : j_Po} {L : Nat} {t : Nat} {g : Nat} {o : Nat}  (hg : isG g) (ho : isTl o) (hL : L < 6) (hd : 2 ≤ d)
    (v1 : ((L + 1) < 7) → 1 ≤ (L + 1))
    (v2 : ((L + 1) < 7) → (L + 1) < 7)
    (v3 : ((L + 1) < 7) → 1 ≤ 1)
    (v4 : ((L + 1) < 7) → ∀ J2 : Nat → Nat → Int32, ∀ E3 : Nat → Nat → UInt64, (FL (L + 1) I D J2 E3) → (∀ c, c < 24 → J2 (221 + (L + 1)) c = I (221 + ((L + 1) - 1)) c ∧ E3 (213 + (L + 1)) c = D (213 + ((L + 1) - 1)) c) → j_W 41 d 0 0 0 0 42 [some (.ref 107), some (.int (nI L)), some (.int (nI t)), some (.ref g), some (.ref o), some (.int (nI (L + 1))), none, none, none, none] [] w1 (J2, E3, RR R) Q)
    (v5 : (¬ (L + 1) < 7) → Q none w1 (I, D, RR R)) : j_W 41 d 0 0 0 0 23 [some (.ref 107), some (.int (nI L)), some (.int (nI t)), some (.ref g), some (.ref o), none, none, none, none, none] [] w1 (I, D, RR R) Q := by
  refine q_iload_n d41_23 rfl ?_
  refine q_iconst (v := 1) (by decide) d41_24 ?_
  refine q_iadd d41_25 ?_
  refine r_int (y := (nI (L + 1))) (nI_add L 1) ?_
  refine q_istore (L' := [some (.ref 107), some (.int (nI L)), some (.int (nI t)), some (.ref g), some (.ref o), some (.int (nI (L + 1))), none, none, none, none]) d41_26 (Nat.le_of_ble_eq_true rfl) rfl ?_
  refine q_iload d41_28 rfl ?_
  refine q_bipush (v := 7) (by decide) d41_30 ?_
  refine q_icmp_lt (tgt := 36) d41_32 rfl (fun h1t => ?_) (fun h1f => ?_)
  ·
    have h1tc : (L + 1) < 7 := (nI_ltI (by omega) (by omega)).mp h1t
    refine q_aload_n d41_36 rfl ?_
    refine q_iload d41_37 rfl ?_
    refine q_invV (o := 107) (ci := 8) (av := [.int (nI (L + 1))]) (rest := []) (d' := 1) (mc' := 0) (ms' := 0) d41_39 (cv8_172 41 rfl) rfl (by decide) rfl rfl (by omega) (Nat.le_of_ble_eq_true rfl) (Nat.le_of_ble_eq_true rfl) (lt_w1 rfl) sh107 (Nat.le_refl _) (Nat.le_refl _) ?_
    refine c43 (L := (L + 1)) (v1 h1tc) (v2 h1tc) (v3 h1tc) (fun J2 E3 h4 h5 => ?_)
    show j_W 41 d 0 0 0 0 42 [some (.ref 107), some (.int (nI L)), some (.int (nI t)), some (.ref g), some (.ref o), some (.int (nI (L + 1))), none, none, none, none] [] w1 (J2, E3, RR R) Q
    exact r_sub (L' := [some (.ref 107), some (.int (nI L)), some (.int (nI t)), some (.ref g), some (.ref o), some (.int (nI (L + 1))), none, none, none, none]) ⟨rfl, rfl, rfl, rfl, rfl, rfl, trivial⟩ (v4 h1tc J2 E3 h4 h5)
  ·
    have h1fc : ¬ (L + 1) < 7 := mt (nI_ltI (by omega) (by omega)).mpr h1f
    exact q_ret d41_35 rfl (Nat.le_refl _) (Nat.le_refl _) (v5 h1fc)

set_option maxRecDepth 10000 in
set_option maxHeartbeats 4000000 in
theorem t41c {d : Nat} {I : Nat → Nat → Int32} {D : Nat → Nat → UInt64} {R : Nat → Nat → Option Nat} {Q : j_Po} {L : Nat} {t : Nat} {g : Nat} {o : Nat} {l : Nat} {β : Bd} {a : Nat} (hR : WFR R) (hg : isG g) (ho : isTl o) (h1 : I g 1 = nI a) (ha : a < 24) (hd : 2 ≤ d)
    (v1 : BV β)
    (v2 : CB β I D R)
    (v3 : t < 6)
    (v4 : bL β t = true)
    (v5 : 1 ≤ 1)
    (v6 : ∀ x1 : Int32, (∀ c, c < 24 → bt x1 c = slB β I t c) → (∀ c, 24 ≤ c → c < 32 → bt x1 c = false) → j_W 41 d 0 0 0 0 73 [some (.ref 107), some (.int (nI L)), some (.int (nI t)), some (.ref g), some (.ref o), some (.int (nI l)), some (.int (I 206 a)), some (.int x1), some (.int 0), none] [] w1 (I, D, RR R) Q) : j_W 41 d 0 0 0 0 42 [some (.ref 107), some (.int (nI L)), some (.int (nI t)), some (.ref g), some (.ref o), some (.int (nI l)), none, none, none, none] [] w1 (I, D, RR R) Q := by
  refine q_aload_n d41_42 rfl ?_
  refine q_getR (x := 204) d41_43 (fs8_21 41 rfl) rfl (lt_w1 rfl) sh107 (rs107_1 R) (by decide) ?_
  refine q_getR (x := 206) d41_46 (fs8_75 41 rfl) rfl (lt_w1 rfl) sh204 (rs204_1 R) (by decide) ?_
  refine q_aload_n d41_49 rfl ?_
  refine q_getI d41_50 (fs8_176 41 rfl) rfl (isG_lt hg) (isG_sh hg) ?_
  refine r_int (y := (nI a)) (show I g 1 = (nI a) from h1) ?_
  refine q_iaload (a := a) d41_53 (lt_w1 rfl) sh206 rfl (by omega) ?_
  refine q_istore (L' := [some (.ref 107), some (.int (nI L)), some (.int (nI t)), some (.ref g), some (.ref o), some (.int (nI l)), some (.int (I 206 a)), none, none, none]) d41_54 (Nat.le_of_ble_eq_true rfl) rfl ?_
  refine q_aload_n d41_56 rfl ?_
  refine q_getR (x := 204) d41_57 (fs8_21 41 rfl) rfl (lt_w1 rfl) sh107 (rs107_1 R) (by decide) ?_
  refine q_aload_n d41_60 rfl ?_
  refine q_getR (x := 108) d41_61 (fs8_12 41 rfl) rfl (lt_w1 rfl) sh107 (rs107_0 R) (by decide) ?_
  refine q_iload_n d41_64 rfl ?_
  refine q_invV (o := 204) (ci := 4) (av := [.ref 108, .int (nI t)]) (rest := []) (d' := 1) (mc' := 0) (ms' := 0) d41_65 (cv8_179 41 rfl) rfl (by decide) rfl rfl (by omega) (Nat.le_of_ble_eq_true rfl) (Nat.le_of_ble_eq_true rfl) (lt_w1 rfl) sh204 (Nat.le_refl _) (Nat.le_refl _) ?_
  refine c44 (β := β) hR v1 v2 v3 v4 v5 (fun x1 h2 h3 => ?_)
  show j_W 41 d 0 0 0 0 68 [some (.ref 107), some (.int (nI L)), some (.int (nI t)), some (.ref g), some (.ref o), some (.int (nI l)), some (.int (I 206 a)), none, none, none] [.int x1] w1 (I, D, RR R) Q
  refine q_istore (L' := [some (.ref 107), some (.int (nI L)), some (.int (nI t)), some (.ref g), some (.ref o), some (.int (nI l)), some (.int (I 206 a)), some (.int x1), none, none]) d41_68 (Nat.le_of_ble_eq_true rfl) rfl ?_
  refine q_iconst (v := 0) (by decide) d41_70 ?_
  refine q_istore (L' := [some (.ref 107), some (.int (nI L)), some (.int (nI t)), some (.ref g), some (.ref o), some (.int (nI l)), some (.int (I 206 a)), some (.int x1), some (.int 0), none]) d41_71 (Nat.le_of_ble_eq_true rfl) rfl ?_
  exact r_sub (L' := [some (.ref 107), some (.int (nI L)), some (.int (nI t)), some (.ref g), some (.ref o), some (.int (nI l)), some (.int (I 206 a)), some (.int x1), some (.int 0), none]) ⟨rfl, rfl, rfl, rfl, rfl, rfl, rfl, rfl, rfl, trivial⟩ (v6 x1 h2 h3)

set_option maxRecDepth 10000 in
set_option maxHeartbeats 4000000 in
theorem t41i {d : Nat} {I : Nat → Nat → Int32} {D : Nat → Nat → UInt64} {R : Nat → Nat → Option Nat} {Q : j_Po} {L : Nat} {t : Nat} {g : Nat} {o : Nat} {l : Nat} {x : Int32} {y : Int32} {i : Nat} {m : Nat} (hg : isG g) (ho : isTl o) (h4 : I g 4 = nI m) (hm : m ≤ 8) (hi : i ≤ 8) (hd : 1 ≤ d)
    (v1 : (m ≤ i) → Q none w1 (I, D, RR R))
    (v2 : (¬ m ≤ i) → j_W 41 d 0 0 0 0 85 [some (.ref 107), some (.int (nI L)), some (.int (nI t)), some (.ref g), some (.ref o), some (.int (nI l)), some (.int x), some (.int y), some (.int (nI i)), some (.int 0)] [] w1 (I, D, RR R) Q) : j_W 41 d 0 0 0 0 73 [some (.ref 107), some (.int (nI L)), some (.int (nI t)), some (.ref g), some (.ref o), some (.int (nI l)), some (.int x), some (.int y), some (.int (nI i)), none] [] w1 (I, D, RR R) Q := by
  refine q_iload d41_73 rfl ?_
  refine q_aload_n d41_75 rfl ?_
  refine q_getI d41_76 (fs8_183 41 rfl) rfl (isG_lt hg) (isG_sh hg) ?_
  refine r_int (y := (nI m)) (show I g 4 = (nI m) from h4) ?_
  refine q_icmp_ge (tgt := 158) d41_79 rfl (fun h1t => ?_) (fun h1f => ?_)
  ·
    have h1tc : m ≤ i := (nI_leI (by omega) (by omega)).mp h1t
    exact q_ret d41_158 rfl (Nat.le_refl _) (Nat.le_refl _) (v1 h1tc)
  ·
    have h1fc : ¬ m ≤ i := mt (nI_leI (by omega) (by omega)).mpr h1f
    refine q_iconst (v := 0) (by decide) d41_82 ?_
    refine q_istore (L' := [some (.ref 107), some (.int (nI L)), some (.int (nI t)), some (.ref g), some (.ref o), some (.int (nI l)), some (.int x), some (.int y), some (.int (nI i)), some (.int 0)]) d41_83 (Nat.le_of_ble_eq_true rfl) rfl ?_
    exact r_sub (L' := [some (.ref 107), some (.int (nI L)), some (.int (nI t)), some (.ref g), some (.ref o), some (.int (nI l)), some (.int x), some (.int y), some (.int (nI i)), some (.int 0)]) ⟨rfl, rfl, rfl, rfl, rfl, rfl, rfl, rfl, rfl, rfl, trivial⟩ (v2 h1fc)

set_option maxRecDepth 10000 in
set_option maxHeartbeats 4000000 in
theorem t41j {d : Nat} {I : Nat → Nat → Int32} {D : Nat → Nat → UInt64} {R : Nat → Nat → Option Nat} {Q : j_Po} {L : Nat} {t : Nat} {g : Nat} {o : Nat} {l : Nat} {x : Int32} {y : Int32} {i : Nat} {j : Nat} {w : Nat} (hg : isG g) (ho : isTl o) (hw : w ≤ 8) (hi : i ≤ 8) (hj : j ≤ 8) (hd : 1 ≤ d)
    (v1 : (I g 5 ≤ 0 ∧ w = 1) ∨ (I g 5 = nI w ∧ 1 ≤ w ∧ w ≤ 8))
    (v2 : (w ≤ j) → j_W 41 d 0 0 0 0 73 [some (.ref 107), some (.int (nI L)), some (.int (nI t)), some (.ref g), some (.ref o), some (.int (nI l)), some (.int x), some (.int y), some (.int (nI (i + 1))), none] [] w1 (I, D, RR R) Q)
    (v3 : (¬ w ≤ j) → j_W 41 d 0 0 0 0 94 [some (.ref 107), some (.int (nI L)), some (.int (nI t)), some (.ref g), some (.ref o), some (.int (nI l)), some (.int x), some (.int y), some (.int (nI i)), some (.int (nI j))] [] w1 (I, D, RR R) Q) : j_W 41 d 0 0 0 0 85 [some (.ref 107), some (.int (nI L)), some (.int (nI t)), some (.ref g), some (.ref o), some (.int (nI l)), some (.int x), some (.int y), some (.int (nI i)), some (.int (nI j))] [] w1 (I, D, RR R) Q := by
  refine q_iload d41_85 rfl ?_
  refine q_aload_n d41_87 rfl ?_
  refine q_invV (o := g) (ci := 3) (av := []) (rest := [.int (nI j)]) (d' := 0) (mc' := 0) (ms' := 0) d41_88 (cv8_186 41 rfl) rfl (by decide) rfl rfl (by omega) (Nat.le_of_ble_eq_true rfl) (Nat.le_of_ble_eq_true rfl) (isG_lt hg) (isG_sh hg) (Nat.le_refl _) (Nat.le_refl _) ?_
  refine c25 (w := w) hg v1 ?_
  show j_W 41 d 0 0 0 0 91 [some (.ref 107), some (.int (nI L)), some (.int (nI t)), some (.ref g), some (.ref o), some (.int (nI l)), some (.int x), some (.int y), some (.int (nI i)), some (.int (nI j))] [.int (nI w), .int (nI j)] w1 (I, D, RR R) Q
  refine q_icmp_ge (tgt := 152) d41_91 rfl (fun h1t => ?_) (fun h1f => ?_)
  ·
    have h1tc : w ≤ j := (nI_leI (by omega) (by omega)).mp h1t
    refine q_iinc (L' := [some (.ref 107), some (.int (nI L)), some (.int (nI t)), some (.ref g), some (.ref o), some (.int (nI l)), some (.int x), some (.int y), some (.int (nI (i + 1))), some (.int (nI j))]) (v := (nI (i + 1))) d41_152 rfl (nI_inc _) rfl ?_
    refine q_goto (tgt := 73) d41_155 rfl ?_
    exact r_sub (L' := [some (.ref 107), some (.int (nI L)), some (.int (nI t)), some (.ref g), some (.ref o), some (.int (nI l)), some (.int x), some (.int y), some (.int (nI (i + 1))), none]) ⟨rfl, rfl, rfl, rfl, rfl, rfl, rfl, rfl, rfl, trivial⟩ (v2 h1tc)
  ·
    have h1fc : ¬ w ≤ j := mt (nI_leI (by omega) (by omega)).mpr h1f
    exact r_sub (L' := [some (.ref 107), some (.int (nI L)), some (.int (nI t)), some (.ref g), some (.ref o), some (.int (nI l)), some (.int x), some (.int y), some (.int (nI i)), some (.int (nI j))]) ⟨rfl, rfl, rfl, rfl, rfl, rfl, rfl, rfl, rfl, rfl, trivial⟩ (v3 h1fc)

set_option maxRecDepth 10000 in
set_option maxHeartbeats 4000000 in
theorem t41s {d : Nat} {I : Nat → Nat → Int32} {D : Nat → Nat → UInt64} {R : Nat → Nat → Option Nat} {Q : j_Po} {L : Nat} {t : Nat} {g : Nat} {o : Nat} {l : Nat} {x : Int32} {y : Int32} {i : Nat} {j : Nat} {AP : (Nat → Nat → Int32) → (Nat → Nat → UInt64) → Prop} (hg : isG g) (ho : isTl o) (hA : ∀ (Q : j_Po), (∀ J E, AP J E → Q none w1 (J, E, RR R)) → j_Call (d - 1) 45 [.ref 107, .int (nI l), .ref g, .int (nI i), .int (nI j)] w1 (I, D, RR R) 0 0 Q) (hd : 1 ≤ d)
    (v1 : ∀ J1 : Nat → Nat → Int32, ∀ E2 : Nat → Nat → UInt64, (AP J1 E2) → j_W 41 d 0 0 0 0 105 [some (.ref 107), some (.int (nI L)), some (.int (nI t)), some (.ref g), some (.ref o), some (.int (nI l)), some (.int x), some (.int y), some (.int (nI i)), some (.int (nI j))] [] w1 (J1, E2, RR R) Q) : j_W 41 d 0 0 0 0 94 [some (.ref 107), some (.int (nI L)), some (.int (nI t)), some (.ref g), some (.ref o), some (.int (nI l)), some (.int x), some (.int y), some (.int (nI i)), some (.int (nI j))] [] w1 (I, D, RR R) Q := by
  refine q_aload_n d41_94 rfl ?_
  refine q_iload d41_95 rfl ?_
  refine q_aload_n d41_97 rfl ?_
  refine q_iload d41_98 rfl ?_
  refine q_iload d41_100 rfl ?_
  refine q_invV (o := 107) (ci := 8) (av := [.int (nI l), .ref g, .int (nI i), .int (nI j)]) (rest := []) (d' := (d - 1)) (mc' := 0) (ms' := 0) d41_102 (cv8_190 41 rfl) rfl (by decide) rfl rfl (by omega) (Nat.le_of_ble_eq_true rfl) (Nat.le_of_ble_eq_true rfl) (lt_w1 rfl) sh107 (Nat.le_refl _) (Nat.le_refl _) ?_
  refine hA _  (fun J1 E2 h3 => ?_)
  show j_W 41 d 0 0 0 0 105 [some (.ref 107), some (.int (nI L)), some (.int (nI t)), some (.ref g), some (.ref o), some (.int (nI l)), some (.int x), some (.int y), some (.int (nI i)), some (.int (nI j))] [] w1 (J1, E2, RR R) Q
  exact r_sub (L' := [some (.ref 107), some (.int (nI L)), some (.int (nI t)), some (.ref g), some (.ref o), some (.int (nI l)), some (.int x), some (.int y), some (.int (nI i)), some (.int (nI j))]) ⟨rfl, rfl, rfl, rfl, rfl, rfl, rfl, rfl, rfl, rfl, trivial⟩ (v1 J1 E2 h3)

set_option maxRecDepth 10000 in
set_option maxHeartbeats 4000000 in
theorem t41t {d : Nat} {I : Nat → Nat → Int32} {D : Nat → Nat → UInt64} {R : Nat → Nat → Option Nat} {Q : j_Po} {L : Nat} {t : Nat} {g : Nat} {o : Nat} {l : Nat} {x : Int32} {y : Int32} {i : Nat} {j : Nat} {AP : (Nat → Nat → Int32) → (Nat → Nat → UInt64) → Prop} (hg : isG g) (ho : isTl o) (hA : ∀ (Q : j_Po), (∀ J E, AP J E → Q none w1 (J, E, RR R)) → j_Call (d - 1) 36 [.ref 107, .int (nI l), .int x] w1 (I, D, RR R) 0 0 Q) (hd : 1 ≤ d)
    (v1 : ∀ J1 : Nat → Nat → Int32, ∀ E2 : Nat → Nat → UInt64, (AP J1 E2) → j_W 41 d 0 0 0 0 113 [some (.ref 107), some (.int (nI L)), some (.int (nI t)), some (.ref g), some (.ref o), some (.int (nI l)), some (.int x), some (.int y), some (.int (nI i)), some (.int (nI j))] [] w1 (J1, E2, RR R) Q) : j_W 41 d 0 0 0 0 105 [some (.ref 107), some (.int (nI L)), some (.int (nI t)), some (.ref g), some (.ref o), some (.int (nI l)), some (.int x), some (.int y), some (.int (nI i)), some (.int (nI j))] [] w1 (I, D, RR R) Q := by
  refine q_aload_n d41_105 rfl ?_
  refine q_iload d41_106 rfl ?_
  refine q_iload d41_108 rfl ?_
  refine q_invV (o := 107) (ci := 8) (av := [.int (nI l), .int x]) (rest := []) (d' := (d - 1)) (mc' := 0) (ms' := 0) d41_110 (cv8_78 41 rfl) rfl (by decide) rfl rfl (by omega) (Nat.le_of_ble_eq_true rfl) (Nat.le_of_ble_eq_true rfl) (lt_w1 rfl) sh107 (Nat.le_refl _) (Nat.le_refl _) ?_
  refine hA _  (fun J1 E2 h3 => ?_)
  show j_W 41 d 0 0 0 0 113 [some (.ref 107), some (.int (nI L)), some (.int (nI t)), some (.ref g), some (.ref o), some (.int (nI l)), some (.int x), some (.int y), some (.int (nI i)), some (.int (nI j))] [] w1 (J1, E2, RR R) Q
  exact r_sub (L' := [some (.ref 107), some (.int (nI L)), some (.int (nI t)), some (.ref g), some (.ref o), some (.int (nI l)), some (.int x), some (.int y), some (.int (nI i)), some (.int (nI j))]) ⟨rfl, rfl, rfl, rfl, rfl, rfl, rfl, rfl, rfl, rfl, trivial⟩ (v1 J1 E2 h3)

set_option maxRecDepth 10000 in
set_option maxHeartbeats 4000000 in
theorem t41u {d : Nat} {I : Nat → Nat → Int32} {D : Nat → Nat → UInt64} {R : Nat → Nat → Option Nat} {Q : j_Po} {L : Nat} {t : Nat} {g : Nat} {o : Nat} {l : Nat} {x : Int32} {y : Int32} {i : Nat} {j : Nat} {a n : Nat} {v : Nat → Vl} (hg : isG g) (ho : isTl o) (hl : l < 7) (h1 : I g 1 = nI a) (ha : a < 24) (hj : j < 8) (hw1 : I (221 + l) a = nI (v n).1) (hd : 2 ≤ d)
    (v1 : n < 64)
    (v2 : ∀ k, k < n → (v k).1 = 0 → Sm (v k).2)
    (v3 : TLR I D o n v)
    (v4 : VR (nI (v n).1) (D (213 + l) a) (v n))
    (v5 : 1 ≤ 1)
    (v6 : ∀ J1 : Nat → Nat → Int32, ∀ E2 : Nat → Nat → UInt64, (TLR J1 E2 o (n + 1) v) → (FT o I D J1 E2) → j_W 41 d 0 0 0 0 85 [some (.ref 107), some (.int (nI L)), some (.int (nI t)), some (.ref g), some (.ref o), some (.int (nI l)), some (.int y), some (.int y), some (.int (nI i)), some (.int (nI (j + 1)))] [] w1 (J1, E2, RR R) Q) : j_W 41 d 0 0 0 0 113 [some (.ref 107), some (.int (nI L)), some (.int (nI t)), some (.ref g), some (.ref o), some (.int (nI l)), some (.int x), some (.int y), some (.int (nI i)), some (.int (nI j))] [] w1 (I, D, RR R) Q := by
  refine q_aload d41_113 rfl ?_
  refine q_aload_n d41_115 rfl ?_
  refine q_getR (x := 212) d41_116 (fs8_33 41 rfl) rfl (lt_w1 rfl) sh107 (rs107_3 R) (by decide) ?_
  refine q_iload d41_119 rfl ?_
  refine q_aaload (c := 3) (a := l) (x := (213 + l)) d41_121 (lt_w1 rfl) sh212 (by decide) rfl (by omega) (rm212 R (by omega)) (lt1000 (lm212 (by omega))) ?_
  refine q_aload_n d41_122 rfl ?_
  refine q_getI d41_123 (fs8_176 41 rfl) rfl (isG_lt hg) (isG_sh hg) ?_
  refine r_int (y := (nI a)) (show I g 1 = (nI a) from h1) ?_
  refine q_daload (a := a) d41_126 (lm212 (by omega)) (sm212 (by omega)) rfl (by omega) ?_
  refine q_aload_n d41_127 rfl ?_
  refine q_getR (x := 220) d41_128 (fs8_38 41 rfl) rfl (lt_w1 rfl) sh107 (rs107_4 R) (by decide) ?_
  refine q_iload d41_131 rfl ?_
  refine q_aaload (c := 4) (a := l) (x := (221 + l)) d41_133 (lt_w1 rfl) sh220 (by decide) rfl (by omega) (rm220 R (by omega)) (lt1000 (lm220 (by omega))) ?_
  refine q_aload_n d41_134 rfl ?_
  refine q_getI d41_135 (fs8_176 41 rfl) rfl (isG_lt hg) (isG_sh hg) ?_
  refine r_int (y := (nI a)) (show I g 1 = (nI a) from h1) ?_
  refine q_iaload (a := a) d41_138 (lm220 (by omega)) (sm220 (by omega)) rfl (by omega) ?_
  refine r_int (y := nI ((v n).1)) hw1 ?_
  refine q_invV (o := o) (ci := 7) (av := [.double (D (213 + l) a), .int (nI ((v n).1))]) (rest := []) (d' := 1) (mc' := 0) (ms' := 0) d41_139 (cv8_194 41 rfl) rfl (by decide) rfl rfl (by omega) (Nat.le_of_ble_eq_true rfl) (Nat.le_of_ble_eq_true rfl) (isTl_lt ho) (isTl_sh ho) (Nat.le_refl _) (Nat.le_refl _) ?_
  refine c46 (n := n) (v := v) ho v1 v2 v3 v4 v5 (fun J1 E2 h3 h4 => ?_)
  show j_W 41 d 0 0 0 0 142 [some (.ref 107), some (.int (nI L)), some (.int (nI t)), some (.ref g), some (.ref o), some (.int (nI l)), some (.int x), some (.int y), some (.int (nI i)), some (.int (nI j))] [] w1 (J1, E2, RR R) Q
  refine q_iload d41_142 rfl ?_
  refine q_istore (L' := [some (.ref 107), some (.int (nI L)), some (.int (nI t)), some (.ref g), some (.ref o), some (.int (nI l)), some (.int y), some (.int y), some (.int (nI i)), some (.int (nI j))]) d41_144 (Nat.le_of_ble_eq_true rfl) rfl ?_
  refine q_iinc (L' := [some (.ref 107), some (.int (nI L)), some (.int (nI t)), some (.ref g), some (.ref o), some (.int (nI l)), some (.int y), some (.int y), some (.int (nI i)), some (.int (nI (j + 1)))]) (v := (nI (j + 1))) d41_146 rfl (nI_inc _) rfl ?_
  refine q_goto (tgt := 85) d41_149 rfl ?_
  exact r_sub (L' := [some (.ref 107), some (.int (nI L)), some (.int (nI t)), some (.ref g), some (.ref o), some (.int (nI l)), some (.int y), some (.int y), some (.int (nI i)), some (.int (nI (j + 1)))]) ⟨rfl, rfl, rfl, rfl, rfl, rfl, rfl, rfl, rfl, rfl, trivial⟩ (v6 J1 E2 h3 h4)

