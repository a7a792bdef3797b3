/-! tells: walks -/
set_option maxRecDepth 10000 in
set_option maxHeartbeats 4000000 in
theorem u149e {d : Nat} {I : Nat → Nat → Int32} {D : Nat → Nat → UInt64} {R : Nat → Nat → Option Nat} {Q : j_Po} {g : Nat} {o : Nat}  (hg : isRw g) (ho : isTl o) (hd : 1 ≤ d)
    (v1 : j_W 149 d 0 0 0 0 2 [some (.ref g), some (.ref o), some (.int 0), none] [] w1 (I, D, RR R) Q) : j_Call d 149 [.ref g, .ref o] w1 (I, D, RR R) 0 0 Q := by
  refine q_enter (L := [some (.ref g), some (.ref o), none, none]) j_m149 (Nat.le_of_ble_eq_true rfl) rfl ?_
  refine q_iconst (v := 0) (by decide) d149_0 ?_
  refine q_istore_n (L' := [some (.ref g), some (.ref o), some (.int 0), none]) d149_1 (Nat.le_of_ble_eq_true rfl) rfl ?_
  exact r_sub (L' := [some (.ref g), some (.ref o), some (.int 0), none]) ⟨rfl, rfl, rfl, trivial⟩ v1

set_option maxRecDepth 10000 in
set_option maxHeartbeats 4000000 in
theorem u149h {d : Nat} {I : Nat → Nat → Int32} {D : Nat → Nat → UInt64} {R : Nat → Nat → Option Nat} {Q : j_Po} {g : Nat} {o : Nat} {k : Nat} {n : Nat} (hg : isRw g) (ho : isTl o) (hn : I g 1 = nI n) (hn2 : I o 0 = nI n) (hk : k ≤ 64) (h64 : n ≤ 64) (hd : 1 ≤ d)
    (v1 : (n ≤ k) → Q (some (.int (-1))) w1 (I, D, RR R))
    (v2 : (¬ n ≤ k) → ((I (o + 2) k) = 0) → (¬ (I (g + 2) k) = 0) → Q (some (.int (nI k))) w1 (I, D, RR R))
    (v3 : (¬ n ≤ k) → ((I (o + 2) k) = 0) → ((I (g + 2) k) = 0) → (deq (D (g + 1) k) (D (o + 1) k) = true) → j_W 149 d 0 0 0 0 2 [some (.ref g), some (.ref o), some (.int (nI (k + 1))), none] [] w1 (I, D, RR R) Q)
    (v4 : (¬ n ≤ k) → ((I (o + 2) k) = 0) → ((I (g + 2) k) = 0) → (deq (D (g + 1) k) (D (o + 1) k) = false) → Q (some (.int (nI k))) w1 (I, D, RR R))
    (v5 : (¬ n ≤ k) → (¬ (I (o + 2) k) = 0) → (¬ (I (g + 2) k) = 1) → Q (some (.int (nI k))) w1 (I, D, RR R))
    (v6 : (¬ n ≤ k) → (¬ (I (o + 2) k) = 0) → ((I (g + 2) k) = 1) → j_W 149 d 0 0 0 0 2 [some (.ref g), some (.ref o), some (.int (nI (k + 1))), none] [] w1 (I, D, RR R) Q) : j_W 149 d 0 0 0 0 2 [some (.ref g), some (.ref o), some (.int (nI k)), none] [] w1 (I, D, RR R) Q := by
  refine q_iload_n d149_2 rfl ?_
  refine q_aload_n d149_3 rfl ?_
  refine q_getI d149_4 (fs6_23 149 rfl) rfl (isRw_lt hg) (isRw_sh hg) ?_
  refine r_int (y := (nI n)) (show I g 1 = (nI n) from hn) ?_
  refine q_icmp_ge (tgt := 71) d149_7 rfl (fun h1t => ?_) (fun h1f => ?_)
  ·
    have h1tc : n ≤ k := (nI_leI (by omega) (by omega)).mp h1t
    refine q_iconst (v := (-1)) (by decide) d149_71 ?_
    exact q_iret d149_72 rfl (Nat.le_refl _) (Nat.le_refl _) (v1 h1tc)
  ·
    have h1fc : ¬ n ≤ k := mt (nI_leI (by omega) (by omega)).mpr h1f
    refine q_iload_n d149_10 rfl ?_
    refine q_aload_n d149_11 rfl ?_
    refine q_getI d149_12 (fs6_26 149 rfl) rfl (isTl_lt ho) (isTl_sh ho) ?_
    refine r_int (y := (nI n)) (show I o 0 = (nI n) from hn2) ?_
    refine q_icmp_ge (tgt := 71) d149_15 rfl (fun h2t => ?_) (fun h2f => ?_)
    ·
      have h2tc : n ≤ k := (nI_leI (by omega) (by omega)).mp h2t
      exact False.elim (by first | exact absurd h2tc h1fc | exact absurd h1fc h2tc | exact (Int32.not_lt.mpr h2tc) h1fc | exact (Int32.not_lt.mpr h1fc) h2tc | exact h2tc (Int32.not_le.mp h1fc) | exact h1fc (Int32.not_le.mp h2tc) | omega)
    ·
      have h2fc : ¬ n ≤ k := mt (nI_leI (by omega) (by omega)).mpr h2f
      refine q_aload_n d149_18 rfl ?_
      refine q_getR (x := (o + 2)) d149_19 (fs6_38 149 rfl) rfl (isTl_lt ho) (isTl_sh ho) (isTl_r2 R ho) (lt1000 (isTl_lt2 ho)) ?_
      refine q_iload_n d149_22 rfl ?_
      refine q_iaload (a := k) d149_23 (isTl_lt2 ho) (isTl_sh2 ho) rfl (by omega) ?_
      refine q_if_eq (tgt := 31) d149_24 rfl (fun h3t => ?_) (fun h3f => ?_)
      ·
        refine q_iconst (v := 0) (by decide) d149_31 ?_
        refine q_istore_n (L' := [some (.ref g), some (.ref o), some (.int (nI k)), some (.int 0)]) d149_32 (Nat.le_of_ble_eq_true rfl) rfl ?_
        refine q_aload_n d149_33 rfl ?_
        refine q_getR (x := (g + 2)) d149_34 (fs6_19 149 rfl) rfl (isRw_lt hg) (isRw_sh hg) (isRw_r2 R hg) (lt1000 (isRw_lt2 hg)) ?_
        refine q_iload_n d149_37 rfl ?_
        refine q_zaload (a := k) d149_38 (isRw_lt2 hg) (isRw_sh2 hg) rfl (by omega) ?_
        refine q_iload_n d149_39 rfl ?_
        refine q_icmp_ne (tgt := 63) d149_40 rfl (fun h4t => ?_) (fun h4f => ?_)
        ·
          refine q_iload_n d149_63 rfl ?_
          exact q_iret d149_64 rfl (Nat.le_refl _) (Nat.le_refl _) (v2 h1fc h3t h4t)
        ·
          refine q_iload_n d149_43 rfl ?_
          refine q_if_ne (tgt := 65) d149_44 rfl (fun h => absurd h (by decide)) (fun _ => ?_)
          refine q_aload_n d149_47 rfl ?_
          refine q_getR (x := (g + 1)) d149_48 (fs6_15 149 rfl) rfl (isRw_lt hg) (isRw_sh hg) (isRw_r1 R hg) (lt1000 (isRw_lt1 hg)) ?_
          refine q_iload_n d149_51 rfl ?_
          refine q_daload (a := k) d149_52 (isRw_lt1 hg) (isRw_sh1 hg) rfl (by omega) ?_
          refine q_aload_n d149_53 rfl ?_
          refine q_getR (x := (o + 1)) d149_54 (fs6_35 149 rfl) rfl (isTl_lt ho) (isTl_sh ho) (isTl_r1 R ho) (lt1000 (isTl_lt1 ho)) ?_
          refine q_iload_n d149_57 rfl ?_
          refine q_daload (a := k) d149_58 (isTl_lt1 ho) (isTl_sh1 ho) rfl (by omega) ?_
          refine q_dcmp d149_59 ?_
          refine q_if_eq (tgt := 65) d149_60 rfl (fun h5t => ?_) (fun h5f => ?_)
          ·
            have h5tc : deq (D (g + 1) k) (D (o + 1) k) = true := dc_l_eq_t h5t
            refine q_iinc (L' := [some (.ref g), some (.ref o), some (.int (nI (k + 1))), some (.int 0)]) (v := (nI (k + 1))) d149_65 rfl (nI_inc _) rfl ?_
            refine q_goto (tgt := 2) d149_68 rfl ?_
            exact r_sub (L' := [some (.ref g), some (.ref o), some (.int (nI (k + 1))), none]) ⟨rfl, rfl, rfl, trivial⟩ (v3 h1fc h3t h4f h5tc)
          ·
            have h5fc : deq (D (g + 1) k) (D (o + 1) k) = false := dc_l_eq_f h5f
            refine q_iload_n d149_63 rfl ?_
            exact q_iret d149_64 rfl (Nat.le_refl _) (Nat.le_refl _) (v4 h1fc h3t h4f h5fc)
      ·
        refine q_iconst (v := 1) (by decide) d149_27 ?_
        refine q_goto (tgt := 32) d149_28 rfl ?_
        refine q_istore_n (L' := [some (.ref g), some (.ref o), some (.int (nI k)), some (.int 1)]) d149_32 (Nat.le_of_ble_eq_true rfl) rfl ?_
        refine q_aload_n d149_33 rfl ?_
        refine q_getR (x := (g + 2)) d149_34 (fs6_19 149 rfl) rfl (isRw_lt hg) (isRw_sh hg) (isRw_r2 R hg) (lt1000 (isRw_lt2 hg)) ?_
        refine q_iload_n d149_37 rfl ?_
        refine q_zaload (a := k) d149_38 (isRw_lt2 hg) (isRw_sh2 hg) rfl (by omega) ?_
        refine q_iload_n d149_39 rfl ?_
        refine q_icmp_ne (tgt := 63) d149_40 rfl (fun h6t => ?_) (fun h6f => ?_)
        ·
          refine q_iload_n d149_63 rfl ?_
          exact q_iret d149_64 rfl (Nat.le_refl _) (Nat.le_refl _) (v5 h1fc h3f h6t)
        ·
          refine q_iload_n d149_43 rfl ?_
          refine q_if_ne (tgt := 65) d149_44 rfl (fun _ => ?_) (fun h => absurd h (by decide))
          refine q_iinc (L' := [some (.ref g), some (.ref o), some (.int (nI (k + 1))), some (.int 1)]) (v := (nI (k + 1))) d149_65 rfl (nI_inc _) rfl ?_
          refine q_goto (tgt := 2) d149_68 rfl ?_
          exact r_sub (L' := [some (.ref g), some (.ref o), some (.int (nI (k + 1))), none]) ⟨rfl, rfl, rfl, trivial⟩ (v6 h1fc h3f h6f)

set_option maxRecDepth 10000 in
set_option maxHeartbeats 4000000 in
theorem u277a {d : Nat} {I : Nat → Nat → Int32} {D : Nat → Nat → UInt64} {R : Nat → Nat → Option Nat} {Q : j_Po} {t : Nat} {r : Nat}  (ht : t < 6) (hd : 1 ≤ d)
    (v1 : (¬ (I 318 t) = (-1)) → j_W 277 d 0 0 0 0 25 [some (.ref 260), some (.int (nI t)), some (.int (nI r)), some (.int (I 319 ((2 * t) + 1))), none] [] w1 (I, D, RR R) Q)
    (v2 : ((I 318 t) = (-1)) → j_W 277 d 0 0 0 0 25 [some (.ref 260), some (.int (nI t)), some (.int (nI r)), some (.int 1), none] [] w1 (I, D, RR R) Q) : j_Call d 277 [.ref 260, .int (nI t), .int (nI r)] w1 (I, D, RR R) 0 0 Q := by
  refine q_enter (L := [some (.ref 260), some (.int (nI t)), some (.int (nI r)), none, none]) j_m277 (Nat.le_of_ble_eq_true rfl) rfl ?_
  refine q_aload_n d277_0 rfl ?_
  refine q_getR (x := 318) d277_1 (fs10_43 277 rfl) rfl (lt_w1 rfl) sh260 (rs260_9 R) (by decide) ?_
  refine q_iload_n d277_4 rfl ?_
  refine q_iaload (a := t) d277_5 (lt_w1 rfl) sh318 rfl (by omega) ?_
  refine q_iconst (v := (-1)) (by decide) d277_6 ?_
  refine q_icmp_ne (tgt := 14) d277_7 rfl (fun h1t => ?_) (fun h1f => ?_)
  ·
    refine q_aload_n d277_14 rfl ?_
    refine q_getR (x := 319) d277_15 (fs10_46 277 rfl) rfl (lt_w1 rfl) sh260 (rs260_10 R) (by decide) ?_
    refine q_iconst (v := 2) (by decide) d277_18 ?_
    refine q_iload_n d277_19 rfl ?_
    refine q_imul d277_20 ?_
    refine r_int (y := (nI (2 * t))) (pk_mul 2 t) ?_
    refine q_iconst (v := 1) (by decide) d277_21 ?_
    refine q_iadd d277_22 ?_
    refine r_int (y := (nI ((2 * t) + 1))) (nI_add (2 * t) 1) ?_
    refine q_iaload (a := ((2 * t) + 1)) d277_23 (lt_w1 rfl) sh319 rfl (by omega) ?_
    refine q_istore_n (L' := [some (.ref 260), some (.int (nI t)), some (.int (nI r)), some (.int (I 319 ((2 * t) + 1))), none]) d277_24 (Nat.le_of_ble_eq_true rfl) rfl ?_
    exact r_sub (L' := [some (.ref 260), some (.int (nI t)), some (.int (nI r)), some (.int (I 319 ((2 * t) + 1))), none]) ⟨rfl, rfl, rfl, rfl, trivial⟩ (v1 h1t)
  ·
    refine q_iconst (v := 1) (by decide) d277_10 ?_
    refine q_goto (tgt := 24) d277_11 rfl ?_
    refine q_istore_n (L' := [some (.ref 260), some (.int (nI t)), some (.int (nI r)), some (.int 1), none]) d277_24 (Nat.le_of_ble_eq_true rfl) rfl ?_
    exact r_sub (L' := [some (.ref 260), some (.int (nI t)), some (.int (nI r)), some (.int 1), none]) ⟨rfl, rfl, rfl, rfl, trivial⟩ (v2 h1f)

set_option maxRecDepth 10000 in
set_option maxHeartbeats 4000000 in
theorem u277b {d : Nat} {I : Nat → Nat → Int32} {D : Nat → Nat → UInt64} {R : Nat → Nat → Option Nat} {Q : j_Po} {t : Nat} {r : Nat} {w : Nat}   (hd : 1 ≤ d)
    (v1 : j_W 277 d 0 0 0 0 28 [some (.ref 260), some (.int (nI t)), some (.int (nI r)), some (.int (nI w)), some (.int 0)] [] w1 (I, D, RR R) Q) : j_W 277 d 0 0 0 0 25 [some (.ref 260), some (.int (nI t)), some (.int (nI r)), some (.int (nI w)), none] [] w1 (I, D, RR R) Q := by
  refine q_iconst (v := 0) (by decide) d277_25 ?_
  refine q_istore (L' := [some (.ref 260), some (.int (nI t)), some (.int (nI r)), some (.int (nI w)), some (.int 0)]) d277_26 (Nat.le_of_ble_eq_true rfl) rfl ?_
  exact r_sub (L' := [some (.ref 260), some (.int (nI t)), some (.int (nI r)), some (.int (nI w)), some (.int 0)]) ⟨rfl, rfl, rfl, rfl, rfl, trivial⟩ v1

set_option maxRecDepth 10000 in
set_option maxHeartbeats 4000000 in
theorem u277h {d : Nat} {I : Nat → Nat → Int32} {D : Nat → Nat → UInt64} {R : Nat → Nat → Option Nat} {Q : j_Po} {t : Nat} {r : Nat} {w : Nat} {i : Nat} {n : Nat} (hr : r < 4) (h504 : I 504 r = nI n) (hn : n ≤ 64) (hi : i ≤ 64) (hd : 5 ≤ d)
    (v1 : (n ≤ i) → Q (some (.int (-1))) w1 (I, D, RR R))
    (v2 : (¬ n ≤ i) → j_W 277 d 0 0 0 0 39 [some (.ref 260), some (.int (nI t)), some (.int (nI r)), some (.int (nI w)), some (.int (nI i))] [] w1 (I, D, RR R) Q) : j_W 277 d 0 0 0 0 28 [some (.ref 260), some (.int (nI t)), some (.int (nI r)), some (.int (nI w)), some (.int (nI i))] [] w1 (I, D, RR R) Q := by
  refine q_iload d277_28 rfl ?_
  refine q_aload_n d277_30 rfl ?_
  refine q_getR (x := 504) d277_31 (fs10_168 277 rfl) rfl (lt_w1 rfl) sh260 (rs260_71 R) (by decide) ?_
  refine q_iload_n d277_34 rfl ?_
  refine q_iaload (a := r) d277_35 (lt_w1 rfl) sh504 rfl (by omega) ?_
  refine r_int (y := nI n) h504 ?_
  refine q_icmp_ge (tgt := 109) d277_36 rfl (fun h1t => ?_) (fun h1f => ?_)
  ·
    have h1tc : n ≤ i := (nI_leI (by omega) (by omega)).mp h1t
    refine q_iconst (v := (-1)) (by decide) d277_109 ?_
    exact q_iret d277_110 rfl (Nat.le_refl _) (Nat.le_refl _) (v1 h1tc)
  ·
    have h1fc : ¬ n ≤ i := mt (nI_leI (by omega) (by omega)).mpr h1f
    exact r_sub (L' := [some (.ref 260), some (.int (nI t)), some (.int (nI r)), some (.int (nI w)), some (.int (nI i))]) ⟨rfl, rfl, rfl, rfl, rfl, trivial⟩ (v2 h1fc)

set_option maxRecDepth 10000 in
set_option maxHeartbeats 4000000 in
theorem u277c {d : Nat} {I : Nat → Nat → Int32} {D : Nat → Nat → UInt64} {R : Nat → Nat → Option Nat} {Q : j_Po} {t : Nat} {r : Nat} {w : Nat} {i : Nat}  {AP : (Nat → Nat → Int32) → (Nat → Nat → UInt64) → Prop} (hA : ∀ (Q : j_Po), (∀ J E, AP J E → Q none w1 (J, E, RR R)) → j_Call (d - 1) 257 [.ref 260, .int (nI t), .int ((nI i) / (nI w)), .int ((nI i) - (nI i) / (nI w) * (nI w))] w1 (I, D, RR R) 0 0 Q) (hw : ¬ nI w = 0) (hd : 5 ≤ d)
    (v1 : ¬ (nI w) = 0)
    (v2 : ∀ J1 : Nat → Nat → Int32, ∀ E2 : Nat → Nat → UInt64, (AP J1 E2) → j_W 277 d 0 0 0 0 52 [some (.ref 260), some (.int (nI t)), some (.int (nI r)), some (.int (nI w)), some (.int (nI i))] [] w1 (J1, E2, RR R) Q) : j_W 277 d 0 0 0 0 39 [some (.ref 260), some (.int (nI t)), some (.int (nI r)), some (.int (nI w)), some (.int (nI i))] [] w1 (I, D, RR R) Q := by
  refine q_aload_n d277_39 rfl ?_
  refine q_iload_n d277_40 rfl ?_
  refine q_iload d277_41 rfl ?_
  refine q_iload_n d277_43 rfl ?_
  refine q_idiv v1 d277_44 ?_
  refine q_iload d277_45 rfl ?_
  refine q_iload_n d277_47 rfl ?_
  refine q_irem v1 d277_48 ?_
  refine q_invV (o := 260) (ci := 10) (av := [.int (nI t), .int ((nI i) / (nI w)), .int ((nI i) - (nI i) / (nI w) * (nI w))]) (rest := []) (d' := (d - 1)) (mc' := 0) (ms' := 0) d277_49 (cv10_495 277 rfl) rfl (by decide) rfl rfl (by omega) (Nat.le_of_ble_eq_true rfl) (Nat.le_of_ble_eq_true rfl) (lt_w1 rfl) sh260 (Nat.le_refl _) (Nat.le_refl _) ?_
  refine hA _  (fun J1 E2 h3 => ?_)
  show j_W 277 d 0 0 0 0 52 [some (.ref 260), some (.int (nI t)), some (.int (nI r)), some (.int (nI w)), some (.int (nI i))] [] w1 (J1, E2, RR R) Q
  exact r_sub (L' := [some (.ref 260), some (.int (nI t)), some (.int (nI r)), some (.int (nI w)), some (.int (nI i))]) ⟨rfl, rfl, rfl, rfl, rfl, trivial⟩ (v2 J1 E2 h3)

set_option maxRecDepth 10000 in
set_option maxHeartbeats 4000000 in
theorem u277d {d : Nat} {I : Nat → Nat → Int32} {D : Nat → Nat → UInt64} {R : Nat → Nat → Option Nat} {Q : j_Po} {t : Nat} {r : Nat} {w : Nat} {i : Nat}  (hr : r < 4) (hi : i < 64) (hd : 5 ≤ d)
    (v1 : ((I 260 31) = 0) → (¬ (I (511 + r) i) = 0) → Q (some (.int (nI i))) w1 (I, D, RR R))
    (v2 : ((I 260 31) = 0) → ((I (511 + r) i) = 0) → (deq (D 260 30) (D (506 + r) i) = true) → j_W 277 d 0 0 0 0 28 [some (.ref 260), some (.int (nI t)), some (.int (nI r)), some (.int (nI w)), some (.int (nI (i + 1)))] [] w1 (I, D, RR R) Q)
    (v3 : ((I 260 31) = 0) → ((I (511 + r) i) = 0) → (deq (D 260 30) (D (506 + r) i) = false) → Q (some (.int (nI i))) w1 (I, D, RR R))
    (v4 : (¬ (I 260 31) = 0) → (¬ (I (511 + r) i) = 1) → Q (some (.int (nI i))) w1 (I, D, RR R))
    (v5 : (¬ (I 260 31) = 0) → ((I (511 + r) i) = 1) → j_W 277 d 0 0 0 0 28 [some (.ref 260), some (.int (nI t)), some (.int (nI r)), some (.int (nI w)), some (.int (nI (i + 1)))] [] w1 (I, D, RR R) Q) : j_W 277 d 0 0 0 0 52 [some (.ref 260), some (.int (nI t)), some (.int (nI r)), some (.int (nI w)), some (.int (nI i))] [] w1 (I, D, RR R) Q := by
  refine q_aload_n d277_52 rfl ?_
  refine q_getR (x := 510) d277_53 (fs10_174 277 rfl) rfl (lt_w1 rfl) sh260 (rs260_73 R) (by decide) ?_
  refine q_iload_n d277_56 rfl ?_
  refine q_aaload (c := 5) (a := r) (x := (511 + r)) d277_57 (lt_w1 rfl) sh510 (by decide) rfl (by omega) (rm510 R (by omega)) (lt1000 (lm510 (by omega))) ?_
  refine q_iload d277_58 rfl ?_
  refine q_zaload (a := i) d277_60 (lm510 (by omega)) (sm510 (by omega)) rfl (by omega) ?_
  refine q_aload_n d277_61 rfl ?_
  refine q_getI d277_62 (fs10_286 277 rfl) rfl (lt_w1 rfl) sh260 ?_
  refine q_if_eq (tgt := 72) d277_65 rfl (fun h1t => ?_) (fun h1f => ?_)
  ·
    refine q_iconst (v := 0) (by decide) d277_72 ?_
    refine q_icmp_ne (tgt := 100) d277_73 rfl (fun h2t => ?_) (fun h2f => ?_)
    ·
      refine q_iload d277_100 rfl ?_
      exact q_iret d277_102 rfl (Nat.le_refl _) (Nat.le_refl _) (v1 h1t h2t)
    ·
      refine q_aload_n d277_76 rfl ?_
      refine q_getI d277_77 (fs10_286 277 rfl) rfl (lt_w1 rfl) sh260 ?_
      refine q_if_ne (tgt := 103) d277_80 rfl (fun h3t => ?_) (fun h3f => ?_)
      ·
        exact False.elim (by first | exact absurd h3t h1t | exact absurd h1t h3t | exact (Int32.not_lt.mpr h3t) h1t | exact (Int32.not_lt.mpr h1t) h3t | exact h3t (Int32.not_le.mp h1t) | exact h1t (Int32.not_le.mp h3t) | omega)
      ·
        refine q_aload_n d277_83 rfl ?_
        refine q_getD d277_84 (fs10_282 277 rfl) rfl (lt_w1 rfl) sh260 ?_
        refine q_aload_n d277_87 rfl ?_
        refine q_getR (x := 505) d277_88 (fs10_171 277 rfl) rfl (lt_w1 rfl) sh260 (rs260_72 R) (by decide) ?_
        refine q_iload_n d277_91 rfl ?_
        refine q_aaload (c := 3) (a := r) (x := (506 + r)) d277_92 (lt_w1 rfl) sh505 (by decide) rfl (by omega) (rm505 R (by omega)) (lt1000 (lm505 (by omega))) ?_
        refine q_iload d277_93 rfl ?_
        refine q_daload (a := i) d277_95 (lm505 (by omega)) (sm505 (by omega)) rfl (by omega) ?_
        refine q_dcmp d277_96 ?_
        refine q_if_eq (tgt := 103) d277_97 rfl (fun h4t => ?_) (fun h4f => ?_)
        ·
          have h4tc : deq (D 260 30) (D (506 + r) i) = true := dc_l_eq_t h4t
          refine q_iinc (L' := [some (.ref 260), some (.int (nI t)), some (.int (nI r)), some (.int (nI w)), some (.int (nI (i + 1)))]) (v := (nI (i + 1))) d277_103 rfl (nI_inc _) rfl ?_
          refine q_goto (tgt := 28) d277_106 rfl ?_
          exact r_sub (L' := [some (.ref 260), some (.int (nI t)), some (.int (nI r)), some (.int (nI w)), some (.int (nI (i + 1)))]) ⟨rfl, rfl, rfl, rfl, rfl, trivial⟩ (v2 h1t h2f h4tc)
        ·
          have h4fc : deq (D 260 30) (D (506 + r) i) = false := dc_l_eq_f h4f
          refine q_iload d277_100 rfl ?_
          exact q_iret d277_102 rfl (Nat.le_refl _) (Nat.le_refl _) (v3 h1t h2f h4fc)
  ·
    refine q_iconst (v := 1) (by decide) d277_68 ?_
    refine q_goto (tgt := 73) d277_69 rfl ?_
    refine q_icmp_ne (tgt := 100) d277_73 rfl (fun h5t => ?_) (fun h5f => ?_)
    ·
      refine q_iload d277_100 rfl ?_
      exact q_iret d277_102 rfl (Nat.le_refl _) (Nat.le_refl _) (v4 h1f h5t)
    ·
      refine q_aload_n d277_76 rfl ?_
      refine q_getI d277_77 (fs10_286 277 rfl) rfl (lt_w1 rfl) sh260 ?_
      refine q_if_ne (tgt := 103) d277_80 rfl (fun h6t => ?_) (fun h6f => ?_)
      ·
        refine q_iinc (L' := [some (.ref 260), some (.int (nI t)), some (.int (nI r)), some (.int (nI w)), some (.int (nI (i + 1)))]) (v := (nI (i + 1))) d277_103 rfl (nI_inc _) rfl ?_
        refine q_goto (tgt := 28) d277_106 rfl ?_
        exact r_sub (L' := [some (.ref 260), some (.int (nI t)), some (.int (nI r)), some (.int (nI w)), some (.int (nI (i + 1)))]) ⟨rfl, rfl, rfl, rfl, rfl, trivial⟩ (v5 h1f h5f)
      ·
        exact False.elim (by first | exact absurd h6f h1f | exact absurd h1f h6f | exact (Int32.not_lt.mpr h6f) h1f | exact (Int32.not_lt.mpr h1f) h6f | exact h6f (Int32.not_le.mp h1f) | exact h1f (Int32.not_le.mp h6f) | omega)

