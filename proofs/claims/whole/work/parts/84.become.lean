/-! image and back: the boards -/
set_option maxRecDepth 10000 in
set_option maxHeartbeats 4000000 in
theorem s154 {d : Nat} {I : Nat → Nat → Int32} {D : Nat → Nat → UInt64} {R : Nat → Nat → Option Nat} {Q : j_Po} {g : Nat} {g2 : Nat} {z : Nat} (hg : isF g) (hg2 : isF g2) (hz : I g2 1 = nI z) (hz9 : z ≤ 96) (hd : 1 ≤ d)
    (v1 : Q none w1 ((j_u (j_u (j_uo (j_uo I (g + 1) (va_cpy (I (g2 + 1)) (I (g + 1)) 0 0 z)) (g + 2) (va_cpy ((j_uo I (g + 1) (va_cpy (I (g2 + 1)) (I (g + 1)) 0 0 z)) (g2 + 2)) ((j_uo I (g + 1) (va_cpy (I (g2 + 1)) (I (g + 1)) 0 0 z)) (g + 2)) 0 0 6)) g 1 ((j_uo (j_uo I (g + 1) (va_cpy (I (g2 + 1)) (I (g + 1)) 0 0 z)) (g + 2) (va_cpy ((j_uo I (g + 1) (va_cpy (I (g2 + 1)) (I (g + 1)) 0 0 z)) (g2 + 2)) ((j_uo I (g + 1) (va_cpy (I (g2 + 1)) (I (g + 1)) 0 0 z)) (g + 2)) 0 0 6)) g2 1)) g 2 ((j_u (j_uo (j_uo I (g + 1) (va_cpy (I (g2 + 1)) (I (g + 1)) 0 0 z)) (g + 2) (va_cpy ((j_uo I (g + 1) (va_cpy (I (g2 + 1)) (I (g + 1)) 0 0 z)) (g2 + 2)) ((j_uo I (g + 1) (va_cpy (I (g2 + 1)) (I (g + 1)) 0 0 z)) (g + 2)) 0 0 6)) g 1 ((j_uo (j_uo I (g + 1) (va_cpy (I (g2 + 1)) (I (g + 1)) 0 0 z)) (g + 2) (va_cpy ((j_uo I (g + 1) (va_cpy (I (g2 + 1)) (I (g + 1)) 0 0 z)) (g2 + 2)) ((j_uo I (g + 1) (va_cpy (I (g2 + 1)) (I (g + 1)) 0 0 z)) (g + 2)) 0 0 6)) g2 1)) g2 2)), D, RR R)) : j_Call d 154 [.ref g, .ref g2] w1 (I, D, RR R) 0 0 Q := by
  refine q_enter (L := [some (.ref g), some (.ref g2)]) j_m154 (Nat.le_of_ble_eq_true rfl) rfl ?_
  refine q_aload_n d154_0 rfl ?_
  refine q_getR (x := (g2 + 1)) d154_1 (fs2_9 154 rfl) rfl (isF_lt hg2) (isF_sh hg2) (isF_r1 R hg2) (lt1000 (isF_lt1 hg2)) ?_
  refine q_iconst (v := 0) (by decide) d154_4 ?_
  refine q_aload_n d154_5 rfl ?_
  refine q_getR (x := (g + 1)) d154_6 (fs2_9 154 rfl) rfl (isF_lt hg) (isF_sh hg) (isF_r1 R hg) (lt1000 (isF_lt1 hg)) ?_
  refine q_iconst (v := 0) (by decide) d154_9 ?_
  refine q_aload_n d154_10 rfl ?_
  refine q_getI d154_11 (fs2_18 154 rfl) rfl (isF_lt hg2) (isF_sh hg2) ?_
  refine r_int (y := (nI z)) (show I g2 1 = (nI z) from hz) ?_
  refine r_copyI (a := 0) (b := 0) (m0 := z) d154_14 (by exact j_i5 58 rfl) (isF_lt1 hg2) (isF_sh1 hg2) (isF_lt1 hg) (isF_sh1 hg) rfl rfl rfl (by omega) (by omega) (by omega) (Nat.le_of_ble_eq_true rfl) ?_
  refine q_aload_n d154_17 rfl ?_
  refine q_getR (x := (g2 + 2)) d154_18 (fs2_15 154 rfl) rfl (isF_lt hg2) (isF_sh hg2) (isF_r2 R hg2) (lt1000 (isF_lt2 hg2)) ?_
  refine q_iconst (v := 0) (by decide) d154_21 ?_
  refine q_aload_n d154_22 rfl ?_
  refine q_getR (x := (g + 2)) d154_23 (fs2_15 154 rfl) rfl (isF_lt hg) (isF_sh hg) (isF_r2 R hg) (lt1000 (isF_lt2 hg)) ?_
  refine q_iconst (v := 0) (by decide) d154_26 ?_
  refine q_bipush (v := 6) (by decide) d154_27 ?_
  refine r_copyI (a := 0) (b := 0) (m0 := 6) d154_29 (by exact j_i5 58 rfl) (isF_lt2 hg2) (isF_sh2 hg2) (isF_lt2 hg) (isF_sh2 hg) rfl rfl rfl (by omega) (by omega) (by omega) (Nat.le_of_ble_eq_true rfl) ?_
  refine q_aload_n d154_32 rfl ?_
  refine q_aload_n d154_33 rfl ?_
  refine q_getI d154_34 (fs2_18 154 rfl) rfl (isF_lt hg2) (isF_sh hg2) ?_
  refine q_putI d154_37 (fs2_18 154 rfl) (Or.inl rfl) rfl (isF_lt hg) (isF_sh hg) ?_
  refine q_aload_n d154_40 rfl ?_
  refine q_aload_n d154_41 rfl ?_
  refine q_getI d154_42 (fs2_22 154 rfl) rfl (isF_lt hg2) (isF_sh hg2) ?_
  refine q_putI d154_45 (fs2_22 154 rfl) (Or.inl rfl) rfl (isF_lt hg) (isF_sh hg) ?_
  exact q_ret d154_48 rfl (Nat.le_refl _) (Nat.le_refl _) v1

theorem c154 {d : Nat} {I : Nat → Nat → Int32} {D : Nat → Nat → UInt64} {R : Nat → Nat → Option Nat} {Q : j_Po} {g g2 z : Nat} {s : Nat → Nat × Nat} (hg : isF g) (hg2 : isF g2) (hd : 1 ≤ d) (hne : ∀ i j, i ≤ 2 → j ≤ 2 → g + i ≠ g2 + j) (hz9 : z ≤ 96) (hF : FR z s I g2) (hq : ∀ J, (∀ o, o ≠ g → o ≠ g + 1 → o ≠ g + 2 → J o = I o) → FR z s J g → Q none w1 (J, D, RR R)) : j_Call d 154 [.ref g, .ref g2] w1 (I, D, RR R) 0 0 Q := by
  obtain ⟨a1, a2, a3, a4⟩ := hF
  have d00 := hne 0 0 (by omega) (by omega)
  have d01 := hne 0 1 (by omega) (by omega)
  have d02 := hne 0 2 (by omega) (by omega)
  have d10 := hne 1 0 (by omega) (by omega)
  have d11 := hne 1 1 (by omega) (by omega)
  have d12 := hne 1 2 (by omega) (by omega)
  have d20 := hne 2 0 (by omega) (by omega)
  have d21 := hne 2 1 (by omega) (by omega)
  have d22 := hne 2 2 (by omega) (by omega)
  rw [Nat.add_zero] at d00 d01 d02 d10 d20
  rw [Nat.add_zero] at d00
  refine s154 hg hg2 a1 hz9 hd (hq _ (fun o h1 h2 h3 => ?_) ⟨?_, fun k hk => ?_, fun v hv => ?_, fun t ht => ?_⟩)
  · funext i
    simp only [j_u_o _ _ _ h1, j_uo_ne _ _ h3, j_uo_ne _ _ h2]
  · simp (disch := omega) only [j_u_k, j_u_same, j_u_o, j_uo_ne]
    exact a1
  · simp (disch := omega) only [j_u_k, j_u_same, j_u_o, j_uo_ne, j_uo_same, va_cpy_in]
    rw [Nat.sub_zero, Nat.zero_add]
    exact a2 k hk
  · simp (disch := omega) only [j_u_k, j_u_same, j_u_o, j_uo_ne]
    exact a3 v hv
  · simp (disch := omega) only [j_u_k, j_u_same, j_u_o, j_uo_ne, j_uo_same, va_cpy_in]
    rw [Nat.sub_zero, Nat.zero_add]
    exact a4 t ht
set_option maxRecDepth 10000 in
set_option maxHeartbeats 4000000 in
theorem s153i {d : Nat} {I : Nat → Nat → Int32} {D : Nat → Nat → UInt64} {R : Nat → Nat → Option Nat} {Q : j_Po}   (hR : WFR R) (hd : 2 ≤ d)
    (v1 : ∀ q, q < 24 → (j_uo I 2 (va_cpy (I 109) (I 2) 0 0 24)) 111 (0 + q) = 0 ∨ (j_uo I 2 (va_cpy (I 109) (I 2) 0 0 24)) 111 (0 + q) = 1)
    (v2 : j_W 153 d 0 0 0 0 47 [some (.ref 1), some (.ref 108), some (.int 0)] [] w1 ((j_uo (j_uo I 2 (va_cpy (I 109) (I 2) 0 0 24)) 4 (va_cpy ((j_uo I 2 (va_cpy (I 109) (I 2) 0 0 24)) 111) ((j_uo I 2 (va_cpy (I 109) (I 2) 0 0 24)) 4) 0 0 24)), (j_uo D 3 (va_cpy (D 110) (D 3) 0 0 24)), RR R) Q) : j_Call d 153 [.ref 1, .ref 108] w1 (I, D, RR R) 0 0 Q := by
  refine q_enter (L := [some (.ref 1), some (.ref 108), none]) j_m153 (Nat.le_of_ble_eq_true rfl) rfl ?_
  refine q_aload_n d153_0 rfl ?_
  refine q_getR (x := 109) d153_1 (fs0_9 153 rfl) rfl (lt_w1 rfl) sh108 (rs108_0 R) (by decide) ?_
  refine q_iconst (v := 0) (by decide) d153_4 ?_
  refine q_aload_n d153_5 rfl ?_
  refine q_getR (x := 2) d153_6 (fs0_9 153 rfl) rfl (lt_w1 rfl) sh1 (rs1_0 R) (by decide) ?_
  refine q_iconst (v := 0) (by decide) d153_9 ?_
  refine q_bipush (v := 24) (by decide) d153_10 ?_
  refine r_copyI (a := 0) (b := 0) (m0 := 24) d153_12 (by exact j_i5 53 rfl) (lt_w1 rfl) sh109 (lt_w1 rfl) sh2 rfl rfl rfl (by omega) (by omega) (by omega) (Nat.le_of_ble_eq_true rfl) ?_
  refine q_aload_n d153_15 rfl ?_
  refine q_getR (x := 110) d153_16 (fs0_15 153 rfl) rfl (lt_w1 rfl) sh108 (rs108_1 R) (by decide) ?_
  refine q_iconst (v := 0) (by decide) d153_19 ?_
  refine q_aload_n d153_20 rfl ?_
  refine q_getR (x := 3) d153_21 (fs0_15 153 rfl) rfl (lt_w1 rfl) sh1 (rs1_1 R) (by decide) ?_
  refine q_iconst (v := 0) (by decide) d153_24 ?_
  refine q_bipush (v := 24) (by decide) d153_25 ?_
  refine r_copyD (a := 0) (b := 0) (m0 := 24) d153_27 (by exact j_i5 53 rfl) (lt_w1 rfl) sh110 (lt_w1 rfl) sh3 rfl rfl rfl (by omega) (by omega) (by omega) (Nat.le_of_ble_eq_true rfl) ?_
  refine q_aload_n d153_30 rfl ?_
  refine q_getR (x := 111) d153_31 (fs0_19 153 rfl) rfl (lt_w1 rfl) sh108 (rs108_2 R) (by decide) ?_
  refine q_iconst (v := 0) (by decide) d153_34 ?_
  refine q_aload_n d153_35 rfl ?_
  refine q_getR (x := 4) d153_36 (fs0_19 153 rfl) rfl (lt_w1 rfl) sh1 (rs1_2 R) (by decide) ?_
  refine q_iconst (v := 0) (by decide) d153_39 ?_
  refine q_bipush (v := 24) (by decide) d153_40 ?_
  refine r_copyZ (a := 0) (b := 0) (m0 := 24) d153_42 (by exact j_i5 53 rfl) (lt_w1 rfl) sh111 (lt_w1 rfl) sh4 rfl rfl rfl (by omega) (by omega) v1 (by omega) (Nat.le_of_ble_eq_true rfl) ?_
  refine q_iconst (v := 0) (by decide) d153_45 ?_
  refine q_istore_n (L' := [some (.ref 1), some (.ref 108), some (.int 0)]) d153_46 (Nat.le_of_ble_eq_true rfl) rfl ?_
  exact r_sub (L' := [some (.ref 1), some (.ref 108), some (.int 0)]) ⟨rfl, rfl, rfl, trivial⟩ v2

set_option maxRecDepth 10000 in
set_option maxHeartbeats 4000000 in
theorem s153if {d : Nat} {I : Nat → Nat → Int32} {D : Nat → Nat → UInt64} {R : Nat → Nat → Option Nat} {Q : j_Po} {k : Nat} {β : Bd} (hR : WFR R) (hk : k ≤ 24) (hd : 2 ≤ d)
    (v1 : (24 ≤ k) → j_W 153 d 0 0 0 0 76 [some (.ref 1), some (.ref 108), some (.int 0)] [] w1 (I, D, RR R) Q)
    (v2 : (¬ 24 ≤ k) → ∀ i j, i ≤ 2 → j ≤ 2 → (7 + 3 * k) + i ≠ ((R 112 k).getD 0) + j)
    (v3 : (¬ 24 ≤ k) → bZ β k ≤ 96)
    (v4 : (¬ 24 ≤ k) → FR (bZ β k) (bS β k) I ((R 112 k).getD 0))
    (v5 : (¬ 24 ≤ k) → ∀ J4 : Nat → Nat → Int32, (∀ o, o ≠ (7 + 3 * k) → o ≠ (7 + 3 * k) + 1 → o ≠ (7 + 3 * k) + 2 → J4 o = I o) → (FR (bZ β k) (bS β k) J4 (7 + 3 * k)) → j_W 153 d 0 0 0 0 47 [some (.ref 1), some (.ref 108), some (.int (nI (k + 1)))] [] w1 (J4, D, RR R) Q) : j_W 153 d 0 0 0 0 47 [some (.ref 1), some (.ref 108), some (.int (nI k))] [] w1 (I, D, RR R) Q := by
  refine q_iload_n d153_47 rfl ?_
  refine q_bipush (v := 24) (by decide) d153_48 ?_
  refine q_icmp_ge (tgt := 74) d153_50 rfl (fun h1t => ?_) (fun h1f => ?_)
  ·
    have h1tc : 24 ≤ k := (nI_leI (by omega) (by omega)).mp h1t
    refine q_iconst (v := 0) (by decide) d153_74 ?_
    refine q_istore_n (L' := [some (.ref 1), some (.ref 108), some (.int 0)]) d153_75 (Nat.le_of_ble_eq_true rfl) rfl ?_
    exact r_sub (L' := [some (.ref 1), some (.ref 108), some (.int 0)]) ⟨rfl, rfl, rfl, trivial⟩ (v1 h1tc)
  ·
    have h1fc : ¬ 24 ≤ k := mt (nI_leI (by omega) (by omega)).mpr h1f
    refine q_aload_n d153_53 rfl ?_
    refine q_getR (x := 5) d153_54 (fs0_25 153 rfl) rfl (lt_w1 rfl) sh1 (rs1_3 R) (by decide) ?_
    refine q_iload_n d153_57 rfl ?_
    refine q_aaload (c := 6) (a := k) (x := (7 + 3 * k)) d153_58 (lt_w1 rfl) sh5 (by decide) rfl (by omega) (rl5 R (by omega)) (lt1000 (isF_lt (isF_k _ (by omega)))) ?_
    refine q_aload_n d153_59 rfl ?_
    refine q_getR (x := 112) d153_60 (fs0_25 153 rfl) rfl (lt_w1 rfl) sh108 (rs108_3 R) (by decide) ?_
    refine q_iload_n d153_63 rfl ?_
    have g3 := hR.f k (by omega)
    refine q_aaload (c := 6) (a := k) (x := ((R 112 k).getD 0)) d153_64 (lt_w1 rfl) sh112 (by decide) rfl (by omega) ((RR_d rfl).trans g3.1) (lt1000 (isF_lt g3.2)) ?_
    refine q_invV (o := (7 + 3 * k)) (ci := 2) (av := [.ref ((R 112 k).getD 0)]) (rest := []) (d' := 1) (mc' := 0) (ms' := 0) d153_65 (cv0_43 153 rfl) rfl (by decide) rfl rfl (by omega) (Nat.le_of_ble_eq_true rfl) (Nat.le_of_ble_eq_true rfl) (isF_lt (isF_k _ (by omega))) (isF_sh (isF_k _ (by omega))) (Nat.le_refl _) (Nat.le_refl _) ?_
    refine c154 (isF_k _ (by omega)) g3.2 (Nat.le_refl _) (z := bZ β k) (s := bS β k) (v2 h1fc) (v3 h1fc) (v4 h1fc) (fun J4 h5 h6 => ?_)
    show j_W 153 d 0 0 0 0 68 [some (.ref 1), some (.ref 108), some (.int (nI k))] [] w1 (J4, D, RR R) Q
    refine q_iinc (L' := [some (.ref 1), some (.ref 108), some (.int (nI (k + 1)))]) (v := (nI (k + 1))) d153_68 rfl (nI_inc _) rfl ?_
    refine q_goto (tgt := 47) d153_71 rfl ?_
    exact r_sub (L' := [some (.ref 1), some (.ref 108), some (.int (nI (k + 1)))]) ⟨rfl, rfl, rfl, trivial⟩ (v5 h1fc J4 h5 h6)

set_option maxRecDepth 10000 in
set_option maxHeartbeats 4000000 in
theorem s153ig {d : Nat} {I : Nat → Nat → Int32} {D : Nat → Nat → UInt64} {R : Nat → Nat → Option Nat} {Q : j_Po} {k : Nat} {β : Bd} (hR : WFR R) (hk : k ≤ 6) (hd : 2 ≤ d)
    (v1 : (6 ≤ k) → Q none w1 (I, D, RR R))
    (v2 : (¬ 6 ≤ k) → ∀ i j, i ≤ 2 → j ≤ 2 → (79 + 3 * k) + i ≠ ((R 113 k).getD 0) + j)
    (v3 : (¬ 6 ≤ k) → I ((R 113 k).getD 0) 0 = 0 ∨ I ((R 113 k).getD 0) 0 = 1)
    (v4 : (¬ 6 ≤ k) → ∀ J4 : Nat → Nat → Int32, ∀ E5 : Nat → Nat → UInt64, (∀ o, o ≠ (79 + 3 * k) → J4 o = I o) → (∀ i, i < 6 → J4 (79 + 3 * k) i = I ((R 113 k).getD 0) i) → (∀ o, o ≠ (79 + 3 * k) + 1 → o ≠ (79 + 3 * k) + 2 → E5 o = D o) → (∀ q, q < 8 → E5 ((79 + 3 * k) + 1) q = D (((R 113 k).getD 0) + 1) q) → (∀ q, q < 8 → E5 ((79 + 3 * k) + 2) q = D (((R 113 k).getD 0) + 2) q) → j_W 153 d 0 0 0 0 76 [some (.ref 1), some (.ref 108), some (.int (nI (k + 1)))] [] w1 (J4, E5, RR R) Q) : j_W 153 d 0 0 0 0 76 [some (.ref 1), some (.ref 108), some (.int (nI k))] [] w1 (I, D, RR R) Q := by
  refine q_iload_n d153_76 rfl ?_
  refine q_bipush (v := 6) (by decide) d153_77 ?_
  refine q_icmp_ge (tgt := 103) d153_79 rfl (fun h1t => ?_) (fun h1f => ?_)
  ·
    have h1tc : 6 ≤ k := (nI_leI (by omega) (by omega)).mp h1t
    exact q_ret d153_103 rfl (Nat.le_refl _) (Nat.le_refl _) (v1 h1tc)
  ·
    have h1fc : ¬ 6 ≤ k := mt (nI_leI (by omega) (by omega)).mpr h1f
    refine q_aload_n d153_82 rfl ?_
    refine q_getR (x := 6) d153_83 (fs0_31 153 rfl) rfl (lt_w1 rfl) sh1 (rs1_4 R) (by decide) ?_
    refine q_iload_n d153_86 rfl ?_
    refine q_aaload (c := 7) (a := k) (x := (79 + 3 * k)) d153_87 (lt_w1 rfl) sh6 (by decide) rfl (by omega) (rl6 R (by omega)) (lt1000 (isG_lt (isG_k _ (by omega)))) ?_
    refine q_aload_n d153_88 rfl ?_
    refine q_getR (x := 113) d153_89 (fs0_31 153 rfl) rfl (lt_w1 rfl) sh108 (rs108_4 R) (by decide) ?_
    refine q_iload_n d153_92 rfl ?_
    have g3 := hR.g k (by omega)
    refine q_aaload (c := 7) (a := k) (x := ((R 113 k).getD 0)) d153_93 (lt_w1 rfl) sh113 (by decide) rfl (by omega) ((RR_d rfl).trans g3.1) (lt1000 (isG_lt g3.2)) ?_
    refine q_invV (o := (79 + 3 * k)) (ci := 3) (av := [.ref ((R 113 k).getD 0)]) (rest := []) (d' := 1) (mc' := 0) (ms' := 0) d153_94 (cv0_47 153 rfl) rfl (by decide) rfl rfl (by omega) (Nat.le_of_ble_eq_true rfl) (Nat.le_of_ble_eq_true rfl) (isG_lt (isG_k _ (by omega))) (isG_sh (isG_k _ (by omega))) (Nat.le_refl _) (Nat.le_refl _) ?_
    refine c109 (isG_k _ (by omega)) g3.2 (Nat.le_refl _) (v2 h1fc) (v3 h1fc) (fun J4 E5 h6 h7 h8 h9 h10 => ?_)
    show j_W 153 d 0 0 0 0 97 [some (.ref 1), some (.ref 108), some (.int (nI k))] [] w1 (J4, E5, RR R) Q
    refine q_iinc (L' := [some (.ref 1), some (.ref 108), some (.int (nI (k + 1)))]) (v := (nI (k + 1))) d153_97 rfl (nI_inc _) rfl ?_
    refine q_goto (tgt := 76) d153_100 rfl ?_
    exact r_sub (L' := [some (.ref 1), some (.ref 108), some (.int (nI (k + 1)))]) ⟨rfl, rfl, rfl, trivial⟩ (v4 h1fc J4 E5 h6 h7 h8 h9 h10)

set_option maxRecDepth 10000 in
set_option maxHeartbeats 4000000 in
theorem s153k {d : Nat} {I : Nat → Nat → Int32} {D : Nat → Nat → UInt64} {R : Nat → Nat → Option Nat} {Q : j_Po}   (hR : WFR R) (hd : 2 ≤ d)
    (v1 : ∀ q, q < 24 → (j_uo I 109 (va_cpy (I 2) (I 109) 0 0 24)) 4 (0 + q) = 0 ∨ (j_uo I 109 (va_cpy (I 2) (I 109) 0 0 24)) 4 (0 + q) = 1)
    (v2 : j_W 153 d 0 0 0 0 47 [some (.ref 108), some (.ref 1), some (.int 0)] [] w1 ((j_uo (j_uo I 109 (va_cpy (I 2) (I 109) 0 0 24)) 111 (va_cpy ((j_uo I 109 (va_cpy (I 2) (I 109) 0 0 24)) 4) ((j_uo I 109 (va_cpy (I 2) (I 109) 0 0 24)) 111) 0 0 24)), (j_uo D 110 (va_cpy (D 3) (D 110) 0 0 24)), RR R) Q) : j_Call d 153 [.ref 108, .ref 1] w1 (I, D, RR R) 0 0 Q := by
  refine q_enter (L := [some (.ref 108), some (.ref 1), none]) j_m153 (Nat.le_of_ble_eq_true rfl) rfl ?_
  refine q_aload_n d153_0 rfl ?_
  refine q_getR (x := 2) d153_1 (fs0_9 153 rfl) rfl (lt_w1 rfl) sh1 (rs1_0 R) (by decide) ?_
  refine q_iconst (v := 0) (by decide) d153_4 ?_
  refine q_aload_n d153_5 rfl ?_
  refine q_getR (x := 109) d153_6 (fs0_9 153 rfl) rfl (lt_w1 rfl) sh108 (rs108_0 R) (by decide) ?_
  refine q_iconst (v := 0) (by decide) d153_9 ?_
  refine q_bipush (v := 24) (by decide) d153_10 ?_
  refine r_copyI (a := 0) (b := 0) (m0 := 24) d153_12 (by exact j_i5 53 rfl) (lt_w1 rfl) sh2 (lt_w1 rfl) sh109 rfl rfl rfl (by omega) (by omega) (by omega) (Nat.le_of_ble_eq_true rfl) ?_
  refine q_aload_n d153_15 rfl ?_
  refine q_getR (x := 3) d153_16 (fs0_15 153 rfl) rfl (lt_w1 rfl) sh1 (rs1_1 R) (by decide) ?_
  refine q_iconst (v := 0) (by decide) d153_19 ?_
  refine q_aload_n d153_20 rfl ?_
  refine q_getR (x := 110) d153_21 (fs0_15 153 rfl) rfl (lt_w1 rfl) sh108 (rs108_1 R) (by decide) ?_
  refine q_iconst (v := 0) (by decide) d153_24 ?_
  refine q_bipush (v := 24) (by decide) d153_25 ?_
  refine r_copyD (a := 0) (b := 0) (m0 := 24) d153_27 (by exact j_i5 53 rfl) (lt_w1 rfl) sh3 (lt_w1 rfl) sh110 rfl rfl rfl (by omega) (by omega) (by omega) (Nat.le_of_ble_eq_true rfl) ?_
  refine q_aload_n d153_30 rfl ?_
  refine q_getR (x := 4) d153_31 (fs0_19 153 rfl) rfl (lt_w1 rfl) sh1 (rs1_2 R) (by decide) ?_
  refine q_iconst (v := 0) (by decide) d153_34 ?_
  refine q_aload_n d153_35 rfl ?_
  refine q_getR (x := 111) d153_36 (fs0_19 153 rfl) rfl (lt_w1 rfl) sh108 (rs108_2 R) (by decide) ?_
  refine q_iconst (v := 0) (by decide) d153_39 ?_
  refine q_bipush (v := 24) (by decide) d153_40 ?_
  refine r_copyZ (a := 0) (b := 0) (m0 := 24) d153_42 (by exact j_i5 53 rfl) (lt_w1 rfl) sh4 (lt_w1 rfl) sh111 rfl rfl rfl (by omega) (by omega) v1 (by omega) (Nat.le_of_ble_eq_true rfl) ?_
  refine q_iconst (v := 0) (by decide) d153_45 ?_
  refine q_istore_n (L' := [some (.ref 108), some (.ref 1), some (.int 0)]) d153_46 (Nat.le_of_ble_eq_true rfl) rfl ?_
  exact r_sub (L' := [some (.ref 108), some (.ref 1), some (.int 0)]) ⟨rfl, rfl, rfl, trivial⟩ v2

set_option maxRecDepth 10000 in
set_option maxHeartbeats 4000000 in
theorem s153kf {d : Nat} {I : Nat → Nat → Int32} {D : Nat → Nat → UInt64} {R : Nat → Nat → Option Nat} {Q : j_Po} {k : Nat} {β : Bd} (hR : WFR R) (hk : k ≤ 24) (hd : 2 ≤ d)
    (v1 : (24 ≤ k) → j_W 153 d 0 0 0 0 76 [some (.ref 108), some (.ref 1), some (.int 0)] [] w1 (I, D, RR R) Q)
    (v2 : (¬ 24 ≤ k) → ∀ i j, i ≤ 2 → j ≤ 2 → ((R 112 k).getD 0) + i ≠ (7 + 3 * k) + j)
    (v3 : (¬ 24 ≤ k) → bZ β k ≤ 96)
    (v4 : (¬ 24 ≤ k) → FR (bZ β k) (bS β k) I (7 + 3 * k))
    (v5 : (¬ 24 ≤ k) → ∀ J4 : Nat → Nat → Int32, (∀ o, o ≠ ((R 112 k).getD 0) → o ≠ ((R 112 k).getD 0) + 1 → o ≠ ((R 112 k).getD 0) + 2 → J4 o = I o) → (FR (bZ β k) (bS β k) J4 ((R 112 k).getD 0)) → j_W 153 d 0 0 0 0 47 [some (.ref 108), some (.ref 1), some (.int (nI (k + 1)))] [] w1 (J4, D, RR R) Q) : j_W 153 d 0 0 0 0 47 [some (.ref 108), some (.ref 1), some (.int (nI k))] [] w1 (I, D, RR R) Q := by
  refine q_iload_n d153_47 rfl ?_
  refine q_bipush (v := 24) (by decide) d153_48 ?_
  refine q_icmp_ge (tgt := 74) d153_50 rfl (fun h1t => ?_) (fun h1f => ?_)
  ·
    have h1tc : 24 ≤ k := (nI_leI (by omega) (by omega)).mp h1t
    refine q_iconst (v := 0) (by decide) d153_74 ?_
    refine q_istore_n (L' := [some (.ref 108), some (.ref 1), some (.int 0)]) d153_75 (Nat.le_of_ble_eq_true rfl) rfl ?_
    exact r_sub (L' := [some (.ref 108), some (.ref 1), some (.int 0)]) ⟨rfl, rfl, rfl, trivial⟩ (v1 h1tc)
  ·
    have h1fc : ¬ 24 ≤ k := mt (nI_leI (by omega) (by omega)).mpr h1f
    refine q_aload_n d153_53 rfl ?_
    refine q_getR (x := 112) d153_54 (fs0_25 153 rfl) rfl (lt_w1 rfl) sh108 (rs108_3 R) (by decide) ?_
    refine q_iload_n d153_57 rfl ?_
    have g3 := hR.f k (by omega)
    refine q_aaload (c := 6) (a := k) (x := ((R 112 k).getD 0)) d153_58 (lt_w1 rfl) sh112 (by decide) rfl (by omega) ((RR_d rfl).trans g3.1) (lt1000 (isF_lt g3.2)) ?_
    refine q_aload_n d153_59 rfl ?_
    refine q_getR (x := 5) d153_60 (fs0_25 153 rfl) rfl (lt_w1 rfl) sh1 (rs1_3 R) (by decide) ?_
    refine q_iload_n d153_63 rfl ?_
    refine q_aaload (c := 6) (a := k) (x := (7 + 3 * k)) d153_64 (lt_w1 rfl) sh5 (by decide) rfl (by omega) (rl5 R (by omega)) (lt1000 (isF_lt (isF_k _ (by omega)))) ?_
    refine q_invV (o := ((R 112 k).getD 0)) (ci := 2) (av := [.ref (7 + 3 * k)]) (rest := []) (d' := 1) (mc' := 0) (ms' := 0) d153_65 (cv0_43 153 rfl) rfl (by decide) rfl rfl (by omega) (Nat.le_of_ble_eq_true rfl) (Nat.le_of_ble_eq_true rfl) (isF_lt g3.2) (isF_sh g3.2) (Nat.le_refl _) (Nat.le_refl _) ?_
    refine c154 g3.2 (isF_k _ (by omega)) (Nat.le_refl _) (z := bZ β k) (s := bS β k) (v2 h1fc) (v3 h1fc) (v4 h1fc) (fun J4 h5 h6 => ?_)
    show j_W 153 d 0 0 0 0 68 [some (.ref 108), some (.ref 1), some (.int (nI k))] [] w1 (J4, D, RR R) Q
    refine q_iinc (L' := [some (.ref 108), some (.ref 1), some (.int (nI (k + 1)))]) (v := (nI (k + 1))) d153_68 rfl (nI_inc _) rfl ?_
    refine q_goto (tgt := 47) d153_71 rfl ?_
    exact r_sub (L' := [some (.ref 108), some (.ref 1), some (.int (nI (k + 1)))]) ⟨rfl, rfl, rfl, trivial⟩ (v5 h1fc J4 h5 h6)

set_option maxRecDepth 10000 in
set_option maxHeartbeats 4000000 in
theorem s153kg {d : Nat} {I : Nat → Nat → Int32} {D : Nat → Nat → UInt64} {R : Nat → Nat → Option Nat} {Q : j_Po} {k : Nat} {β : Bd} (hR : WFR R) (hk : k ≤ 6) (hd : 2 ≤ d)
    (v1 : (6 ≤ k) → Q none w1 (I, D, RR R))
    (v2 : (¬ 6 ≤ k) → ∀ i j, i ≤ 2 → j ≤ 2 → ((R 113 k).getD 0) + i ≠ (79 + 3 * k) + j)
    (v3 : (¬ 6 ≤ k) → I (79 + 3 * k) 0 = 0 ∨ I (79 + 3 * k) 0 = 1)
    (v4 : (¬ 6 ≤ k) → ∀ J4 : Nat → Nat → Int32, ∀ E5 : Nat → Nat → UInt64, (∀ o, o ≠ ((R 113 k).getD 0) → J4 o = I o) → (∀ i, i < 6 → J4 ((R 113 k).getD 0) i = I (79 + 3 * k) i) → (∀ o, o ≠ ((R 113 k).getD 0) + 1 → o ≠ ((R 113 k).getD 0) + 2 → E5 o = D o) → (∀ q, q < 8 → E5 (((R 113 k).getD 0) + 1) q = D ((79 + 3 * k) + 1) q) → (∀ q, q < 8 → E5 (((R 113 k).getD 0) + 2) q = D ((79 + 3 * k) + 2) q) → j_W 153 d 0 0 0 0 76 [some (.ref 108), some (.ref 1), some (.int (nI (k + 1)))] [] w1 (J4, E5, RR R) Q) : j_W 153 d 0 0 0 0 76 [some (.ref 108), some (.ref 1), some (.int (nI k))] [] w1 (I, D, RR R) Q := by
  refine q_iload_n d153_76 rfl ?_
  refine q_bipush (v := 6) (by decide) d153_77 ?_
  refine q_icmp_ge (tgt := 103) d153_79 rfl (fun h1t => ?_) (fun h1f => ?_)
  ·
    have h1tc : 6 ≤ k := (nI_leI (by omega) (by omega)).mp h1t
    exact q_ret d153_103 rfl (Nat.le_refl _) (Nat.le_refl _) (v1 h1tc)
  ·
    have h1fc : ¬ 6 ≤ k := mt (nI_leI (by omega) (by omega)).mpr h1f
    refine q_aload_n d153_82 rfl ?_
    refine q_getR (x := 113) d153_83 (fs0_31 153 rfl) rfl (lt_w1 rfl) sh108 (rs108_4 R) (by decide) ?_
    refine q_iload_n d153_86 rfl ?_
    have g3 := hR.g k (by omega)
    refine q_aaload (c := 7) (a := k) (x := ((R 113 k).getD 0)) d153_87 (lt_w1 rfl) sh113 (by decide) rfl (by omega) ((RR_d rfl).trans g3.1) (lt1000 (isG_lt g3.2)) ?_
    refine q_aload_n d153_88 rfl ?_
    refine q_getR (x := 6) d153_89 (fs0_31 153 rfl) rfl (lt_w1 rfl) sh1 (rs1_4 R) (by decide) ?_
    refine q_iload_n d153_92 rfl ?_
    refine q_aaload (c := 7) (a := k) (x := (79 + 3 * k)) d153_93 (lt_w1 rfl) sh6 (by decide) rfl (by omega) (rl6 R (by omega)) (lt1000 (isG_lt (isG_k _ (by omega)))) ?_
    refine q_invV (o := ((R 113 k).getD 0)) (ci := 3) (av := [.ref (79 + 3 * k)]) (rest := []) (d' := 1) (mc' := 0) (ms' := 0) d153_94 (cv0_47 153 rfl) rfl (by decide) rfl rfl (by omega) (Nat.le_of_ble_eq_true rfl) (Nat.le_of_ble_eq_true rfl) (isG_lt g3.2) (isG_sh g3.2) (Nat.le_refl _) (Nat.le_refl _) ?_
    refine c109 g3.2 (isG_k _ (by omega)) (Nat.le_refl _) (v2 h1fc) (v3 h1fc) (fun J4 E5 h6 h7 h8 h9 h10 => ?_)
    show j_W 153 d 0 0 0 0 97 [some (.ref 108), some (.ref 1), some (.int (nI k))] [] w1 (J4, E5, RR R) Q
    refine q_iinc (L' := [some (.ref 108), some (.ref 1), some (.int (nI (k + 1)))]) (v := (nI (k + 1))) d153_97 rfl (nI_inc _) rfl ?_
    refine q_goto (tgt := 76) d153_100 rfl ?_
    exact r_sub (L' := [some (.ref 108), some (.ref 1), some (.int (nI (k + 1)))]) ⟨rfl, rfl, rfl, trivial⟩ (v4 h1fc J4 E5 h6 h7 h8 h9 h10)

