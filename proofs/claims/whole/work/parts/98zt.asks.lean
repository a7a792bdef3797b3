/-! asks: the other walks -/
set_option maxRecDepth 10000 in
set_option maxHeartbeats 4000000 in
theorem u128ea {d : Nat} {I : Nat → Nat → Int32} {D : Nat → Nat → UInt64} {R : Nat → Nat → Option Nat} {Q : j_Po} {n : Nat} {w : Int32} {g : Nat} (hg : isG g) (hd : 2 ≤ d)
    (v1 : j_W 128 d 0 0 0 0 5 [some (.ref (g + 1)), some (.int (nI n)), some (.int w), some (.int 0), some (.int 0), none, none] [] w1 (I, D, RR R) Q) : j_W 128 d 0 0 0 0 0 [some (.ref (g + 1)), some (.int (nI n)), some (.int w), none, none, none, none] [] w1 (I, D, RR R) Q := by
  refine q_iconst (v := 0) (by decide) d128_0 ?_
  refine q_istore_n (L' := [some (.ref (g + 1)), some (.int (nI n)), some (.int w), some (.int 0), none, none, none]) d128_1 (Nat.le_of_ble_eq_true rfl) rfl ?_
  refine q_iconst (v := 0) (by decide) d128_2 ?_
  refine q_istore (L' := [some (.ref (g + 1)), some (.int (nI n)), some (.int w), some (.int 0), some (.int 0), none, none]) d128_3 (Nat.le_of_ble_eq_true rfl) rfl ?_
  exact r_sub (L' := [some (.ref (g + 1)), some (.int (nI n)), some (.int w), some (.int 0), some (.int 0), none, none]) ⟨rfl, rfl, rfl, rfl, rfl, trivial⟩ v1

set_option maxRecDepth 10000 in
set_option maxHeartbeats 4000000 in
theorem u128eb {d : Nat} {I : Nat → Nat → Int32} {D : Nat → Nat → UInt64} {R : Nat → Nat → Option Nat} {Q : j_Po} {n : Nat} {w : Int32} {g : Nat} (hg : isG g) (hd : 2 ≤ d)
    (v1 : j_W 128 d 0 0 0 0 5 [some (.ref (g + 2)), some (.int (nI n)), some (.int w), some (.int 0), some (.int 0), none, none] [] w1 (I, D, RR R) Q) : j_W 128 d 0 0 0 0 0 [some (.ref (g + 2)), some (.int (nI n)), some (.int w), none, none, none, none] [] w1 (I, D, RR R) Q := by
  refine q_iconst (v := 0) (by decide) d128_0 ?_
  refine q_istore_n (L' := [some (.ref (g + 2)), some (.int (nI n)), some (.int w), some (.int 0), none, none, none]) d128_1 (Nat.le_of_ble_eq_true rfl) rfl ?_
  refine q_iconst (v := 0) (by decide) d128_2 ?_
  refine q_istore (L' := [some (.ref (g + 2)), some (.int (nI n)), some (.int w), some (.int 0), some (.int 0), none, none]) d128_3 (Nat.le_of_ble_eq_true rfl) rfl ?_
  exact r_sub (L' := [some (.ref (g + 2)), some (.int (nI n)), some (.int w), some (.int 0), some (.int 0), none, none]) ⟨rfl, rfl, rfl, rfl, rfl, trivial⟩ v1

theorem c128a {d g n : Nat} {I : Nat → Nat → Int32} {D : Nat → Nat → UInt64} {R : Nat → Nat → Option Nat} {Q : j_Po} {w : Int32} (hd : 2 ≤ d) (hg : isG g) (hn : n ≤ 8) (hs : ∀ i, i < n → Sm (D (g + 1) i)) (hq : Q (some (.int (nI (uN w (D (g + 1)) n)))) w1 (I, D, RR R)) : j_Call d 128 [.ref (g + 1), .int (nI n), .int w] w1 (I, D, RR R) 0 0 Q := by
  refine q_enter (L := [some (.ref (g + 1)), some (.int (nI n)), some (.int w), none, none, none, none]) j_m128 (Nat.le_of_ble_eq_true rfl) rfl ?_
  exact u128ea hg hd (l128a hg hn hs hd hq n 0 rfl)
theorem c128b {d g n : Nat} {I : Nat → Nat → Int32} {D : Nat → Nat → UInt64} {R : Nat → Nat → Option Nat} {Q : j_Po} {w : Int32} (hd : 2 ≤ d) (hg : isG g) (hn : n ≤ 8) (hs : ∀ i, i < n → Sm (D (g + 2) i)) (hq : Q (some (.int (nI (uN w (D (g + 2)) n)))) w1 (I, D, RR R)) : j_Call d 128 [.ref (g + 2), .int (nI n), .int w] w1 (I, D, RR R) 0 0 Q := by
  refine q_enter (L := [some (.ref (g + 2)), some (.int (nI n)), some (.int w), none, none, none, none]) j_m128 (Nat.le_of_ble_eq_true rfl) rfl ?_
  exact u128eb hg hd (l128b hg hn hs hd hq n 0 rfl)
set_option maxRecDepth 10000 in
set_option maxHeartbeats 4000000 in
theorem u127 {d : Nat} {I : Nat → Nat → Int32} {D : Nat → Nat → UInt64} {R : Nat → Nat → Option Nat} {Q : j_Po} {t : Nat} {n o : Nat} (hR : WFR R) (ht : t < 6) (ho24 : o < 24) (hn : I ((R 113 t).getD 0) 4 = nI n) (ho : I ((R 113 t).getD 0) 2 = nI o) (hd : 5 ≤ d)
    (v1 : isG ((R 113 t).getD 0))
    (v2 : n ≤ 8)
    (v3 : ∀ i, i < n → Sm (D (((R 113 t).getD 0) + 1) i))
    (v4 : Q (some (.int (nI (uN (I 109 o) (D (((R 113 t).getD 0) + 1)) n)))) w1 (I, D, RR R)) : j_Call d 127 [.ref 108, .int (nI t)] w1 (I, D, RR R) 0 0 Q := by
  refine q_enter (L := [some (.ref 108), some (.int (nI t)), none]) j_m127 (Nat.le_of_ble_eq_true rfl) rfl ?_
  refine q_aload_n d127_0 rfl ?_
  refine q_getR (x := 113) d127_1 (fs0_31 127 rfl) rfl (lt_w1 rfl) sh108 (rs108_4 R) (by decide) ?_
  refine q_iload_n d127_4 rfl ?_
  have g2 := hR.g t (by omega)
  refine q_aaload (c := 7) (a := t) (x := ((R 113 t).getD 0)) d127_5 (lt_w1 rfl) sh113 (by decide) rfl (by omega) ((RR_d rfl).trans g2.1) (lt1000 (isG_lt g2.2)) ?_
  refine q_astore_n (L' := [some (.ref 108), some (.int (nI t)), some (.ref ((R 113 t).getD 0))]) d127_6 (Nat.le_of_ble_eq_true rfl) (Nat.ne_of_lt (Nat.lt_trans (lt1000 (isG_lt g2.2)) (by decide))) rfl ?_
  refine q_aload_n d127_7 rfl ?_
  refine q_getR (x := (((R 113 t).getD 0) + 1)) d127_8 (fs0_65 127 rfl) rfl (isG_lt g2.2) (isG_sh g2.2) (isG_r1 R g2.2) (lt1000 (isG_lt1 g2.2)) ?_
  refine q_aload_n d127_11 rfl ?_
  refine q_getI d127_12 (fs0_68 127 rfl) rfl (isG_lt g2.2) (isG_sh g2.2) ?_
  refine r_int (y := (nI n)) (show I ((R 113 t).getD 0) 4 = (nI n) from hn) ?_
  refine q_aload_n d127_15 rfl ?_
  refine q_getR (x := 109) d127_16 (fs0_9 127 rfl) rfl (lt_w1 rfl) sh108 (rs108_0 R) (by decide) ?_
  refine q_aload_n d127_19 rfl ?_
  refine q_getI d127_20 (fs0_71 127 rfl) rfl (isG_lt g2.2) (isG_sh g2.2) ?_
  refine r_int (y := (nI o)) (show I ((R 113 t).getD 0) 2 = (nI o) from ho) ?_
  refine q_iaload (a := o) d127_23 (lt_w1 rfl) sh109 rfl (by omega) ?_
  refine q_invS (av := [.ref (((R 113 t).getD 0) + 1), .int (nI n), .int (I 109 o)]) (rest := []) (d' := 2) (mc' := 0) (ms' := 0) d127_24 (cv0_74 127 rfl) rfl rfl (by omega) (Nat.le_of_ble_eq_true rfl) (Nat.le_of_ble_eq_true rfl) (Nat.le_refl _) (Nat.le_refl _) ?_
  refine c128a (g := ((R 113 t).getD 0)) (n := n) (Nat.le_refl 2) v1 v2 v3 ?_
  show j_W 127 d 0 0 0 0 27 [some (.ref 108), some (.int (nI t)), some (.ref ((R 113 t).getD 0))] [.int (nI (uN (I 109 o) (D (((R 113 t).getD 0) + 1)) n))] w1 (I, D, RR R) Q
  exact q_iret d127_27 rfl (Nat.le_refl _) (Nat.le_refl _) v4

set_option maxRecDepth 10000 in
set_option maxHeartbeats 4000000 in
theorem u129s {d : Nat} {I : Nat → Nat → Int32} {D : Nat → Nat → UInt64} {R : Nat → Nat → Option Nat} {Q : j_Po} {t : Nat} {n o : Nat} (hR : WFR R) (ht : t < 6) (ho24 : o < 24) (hn : I ((R 113 t).getD 0) 5 = nI n) (ho : I ((R 113 t).getD 0) 3 = nI o) (hd : 5 ≤ d)
    (v1 : (¬ (nI o) = (-1)) → isG ((R 113 t).getD 0))
    (v2 : (¬ (nI o) = (-1)) → n ≤ 8)
    (v3 : (¬ (nI o) = (-1)) → ∀ i, i < n → Sm (D (((R 113 t).getD 0) + 2) i))
    (v4 : (¬ (nI o) = (-1)) → Q (some (.int (nI (uN (I 109 o) (D (((R 113 t).getD 0) + 2)) n)))) w1 (I, D, RR R))
    (v5 : ((nI o) = (-1)) → Q (some (.int 0)) w1 (I, D, RR R)) : j_Call d 129 [.ref 108, .int (nI t)] w1 (I, D, RR R) 0 0 Q := by
  refine q_enter (L := [some (.ref 108), some (.int (nI t)), none]) j_m129 (Nat.le_of_ble_eq_true rfl) rfl ?_
  refine q_aload_n d129_0 rfl ?_
  refine q_getR (x := 113) d129_1 (fs0_31 129 rfl) rfl (lt_w1 rfl) sh108 (rs108_4 R) (by decide) ?_
  refine q_iload_n d129_4 rfl ?_
  have g2 := hR.g t (by omega)
  refine q_aaload (c := 7) (a := t) (x := ((R 113 t).getD 0)) d129_5 (lt_w1 rfl) sh113 (by decide) rfl (by omega) ((RR_d rfl).trans g2.1) (lt1000 (isG_lt g2.2)) ?_
  refine q_astore_n (L' := [some (.ref 108), some (.int (nI t)), some (.ref ((R 113 t).getD 0))]) d129_6 (Nat.le_of_ble_eq_true rfl) (Nat.ne_of_lt (Nat.lt_trans (lt1000 (isG_lt g2.2)) (by decide))) rfl ?_
  refine q_aload_n d129_7 rfl ?_
  refine q_getI d129_8 (fs0_78 129 rfl) rfl (isG_lt g2.2) (isG_sh g2.2) ?_
  refine r_int (y := (nI o)) (show I ((R 113 t).getD 0) 3 = (nI o) from ho) ?_
  refine q_iconst (v := (-1)) (by decide) d129_11 ?_
  refine q_icmp_ne (tgt := 19) d129_12 rfl (fun h3t => ?_) (fun h3f => ?_)
  ·
    refine q_aload_n d129_19 rfl ?_
    refine q_getR (x := (((R 113 t).getD 0) + 2)) d129_20 (fs0_81 129 rfl) rfl (isG_lt g2.2) (isG_sh g2.2) (isG_r2 R g2.2) (lt1000 (isG_lt2 g2.2)) ?_
    refine q_aload_n d129_23 rfl ?_
    refine q_getI d129_24 (fs0_84 129 rfl) rfl (isG_lt g2.2) (isG_sh g2.2) ?_
    refine r_int (y := (nI n)) (show I ((R 113 t).getD 0) 5 = (nI n) from hn) ?_
    refine q_aload_n d129_27 rfl ?_
    refine q_getR (x := 109) d129_28 (fs0_9 129 rfl) rfl (lt_w1 rfl) sh108 (rs108_0 R) (by decide) ?_
    refine q_aload_n d129_31 rfl ?_
    refine q_getI d129_32 (fs0_78 129 rfl) rfl (isG_lt g2.2) (isG_sh g2.2) ?_
    refine r_int (y := (nI o)) (show I ((R 113 t).getD 0) 3 = (nI o) from ho) ?_
    refine q_iaload (a := o) d129_35 (lt_w1 rfl) sh109 rfl (by omega) ?_
    refine q_invS (av := [.ref (((R 113 t).getD 0) + 2), .int (nI n), .int (I 109 o)]) (rest := []) (d' := 2) (mc' := 0) (ms' := 0) d129_36 (cv0_74 129 rfl) rfl rfl (by omega) (Nat.le_of_ble_eq_true rfl) (Nat.le_of_ble_eq_true rfl) (Nat.le_refl _) (Nat.le_refl _) ?_
    refine c128b (g := ((R 113 t).getD 0)) (n := n) (Nat.le_refl 2) (v1 h3t) (v2 h3t) (v3 h3t) ?_
    show j_W 129 d 0 0 0 0 39 [some (.ref 108), some (.int (nI t)), some (.ref ((R 113 t).getD 0))] [.int (nI (uN (I 109 o) (D (((R 113 t).getD 0) + 2)) n))] w1 (I, D, RR R) Q
    exact q_iret d129_39 rfl (Nat.le_refl _) (Nat.le_refl _) (v4 h3t)
  ·
    refine q_iconst (v := 0) (by decide) d129_15 ?_
    refine q_goto (tgt := 39) d129_16 rfl ?_
    exact q_iret d129_39 rfl (Nat.le_refl _) (Nat.le_refl _) (v5 h3f)

set_option maxRecDepth 10000 in
set_option maxHeartbeats 4000000 in
theorem u129e {d : Nat} {I : Nat → Nat → Int32} {D : Nat → Nat → UInt64} {R : Nat → Nat → Option Nat} {Q : j_Po} {t : Nat}  (hR : WFR R) (ht : t < 6) (hd : 5 ≤ d)
    (v1 : (¬ (I ((R 113 t).getD 0) 3) = (-1)) → j_W 129 d 0 0 0 0 19 [some (.ref 108), some (.int (nI t)), some (.ref ((R 113 t).getD 0))] [] w1 (I, D, RR R) Q)
    (v2 : ((I ((R 113 t).getD 0) 3) = (-1)) → j_W 129 d 0 0 0 0 15 [some (.ref 108), none, none] [] w1 (I, D, RR R) Q) : j_W 129 d 0 0 0 0 0 [some (.ref 108), some (.int (nI t)), none] [] w1 (I, D, RR R) Q := by
  refine q_aload_n d129_0 rfl ?_
  refine q_getR (x := 113) d129_1 (fs0_31 129 rfl) rfl (lt_w1 rfl) sh108 (rs108_4 R) (by decide) ?_
  refine q_iload_n d129_4 rfl ?_
  have g2 := hR.g t (by omega)
  refine q_aaload (c := 7) (a := t) (x := ((R 113 t).getD 0)) d129_5 (lt_w1 rfl) sh113 (by decide) rfl (by omega) ((RR_d rfl).trans g2.1) (lt1000 (isG_lt g2.2)) ?_
  refine q_astore_n (L' := [some (.ref 108), some (.int (nI t)), some (.ref ((R 113 t).getD 0))]) d129_6 (Nat.le_of_ble_eq_true rfl) (Nat.ne_of_lt (Nat.lt_trans (lt1000 (isG_lt g2.2)) (by decide))) rfl ?_
  refine q_aload_n d129_7 rfl ?_
  refine q_getI d129_8 (fs0_78 129 rfl) rfl (isG_lt g2.2) (isG_sh g2.2) ?_
  refine q_iconst (v := (-1)) (by decide) d129_11 ?_
  refine q_icmp_ne (tgt := 19) d129_12 rfl (fun h3t => ?_) (fun h3f => ?_)
  ·
    exact r_sub (L' := [some (.ref 108), some (.int (nI t)), some (.ref ((R 113 t).getD 0))]) ⟨rfl, rfl, rfl, trivial⟩ (v1 h3t)
  ·
    exact r_sub (L' := [some (.ref 108), none, none]) ⟨rfl, trivial⟩ (v2 h3f)

set_option maxRecDepth 10000 in
set_option maxHeartbeats 4000000 in
theorem u129z {d : Nat} {I : Nat → Nat → Int32} {D : Nat → Nat → UInt64} {R : Nat → Nat → Option Nat} {Q : j_Po}    (hd : 5 ≤ d)
    (v1 : Q (some (.int 0)) w1 (I, D, RR R)) : j_W 129 d 0 0 0 0 15 [some (.ref 108), none, none] [] w1 (I, D, RR R) Q := by
  refine q_iconst (v := 0) (by decide) d129_15 ?_
  refine q_goto (tgt := 39) d129_16 rfl ?_
  exact q_iret d129_39 rfl (Nat.le_refl _) (Nat.le_refl _) v1

set_option maxRecDepth 10000 in
set_option maxHeartbeats 4000000 in
theorem u263e0 {d : Nat} {I : Nat → Nat → Int32} {D : Nat → Nat → UInt64} {R : Nat → Nat → Option Nat} {Q : j_Po} {t : Nat} {c : Nat} (ht : t < 6) (h317 : I 317 t = nI c) (hd : 2 ≤ d)
    (v1 : (¬ (nI c) = (-1)) → j_W 263 d 0 0 0 0 33 [some (.ref 260), some (.int (nI t)), some (.int 0), some (.int (nI c)), some (.int 0), some (.int 0), none, none] [] w1 (I, D, RR R) Q)
    (v2 : ((nI c) = (-1)) → Q (some (.int 0)) w1 (I, D, RR R)) : j_Call d 263 [.ref 260, .int (nI t), .int 0] w1 (I, D, RR R) 0 0 Q := by
  refine q_enter (L := [some (.ref 260), some (.int (nI t)), some (.int 0), none, none, none, none, none]) j_m263 (Nat.le_of_ble_eq_true rfl) rfl ?_
  refine q_iload_n d263_0 rfl ?_
  refine q_if_ne (tgt := 13) d263_1 rfl (fun h => absurd h (by decide)) (fun _ => ?_)
  refine q_aload_n d263_4 rfl ?_
  refine q_getR (x := 317) d263_5 (fs10_40 263 rfl) rfl (lt_w1 rfl) sh260 (rs260_8 R) (by decide) ?_
  refine q_iload_n d263_8 rfl ?_
  refine q_iaload (a := t) d263_9 (lt_w1 rfl) sh317 rfl (by omega) ?_
  refine r_int (y := nI c) h317 ?_
  refine q_goto (tgt := 19) d263_10 rfl ?_
  refine q_istore_n (L' := [some (.ref 260), some (.int (nI t)), some (.int 0), some (.int (nI c)), none, none, none, none]) d263_19 (Nat.le_of_ble_eq_true rfl) rfl ?_
  refine q_iload_n d263_20 rfl ?_
  refine q_iconst (v := (-1)) (by decide) d263_21 ?_
  refine q_icmp_ne (tgt := 27) d263_22 rfl (fun h1t => ?_) (fun h1f => ?_)
  ·
    refine q_iconst (v := 0) (by decide) d263_27 ?_
    refine q_istore (L' := [some (.ref 260), some (.int (nI t)), some (.int 0), some (.int (nI c)), some (.int 0), none, none, none]) d263_28 (Nat.le_of_ble_eq_true rfl) rfl ?_
    refine q_iconst (v := 0) (by decide) d263_30 ?_
    refine q_istore (L' := [some (.ref 260), some (.int (nI t)), some (.int 0), some (.int (nI c)), some (.int 0), some (.int 0), none, none]) d263_31 (Nat.le_of_ble_eq_true rfl) rfl ?_
    exact r_sub (L' := [some (.ref 260), some (.int (nI t)), some (.int 0), some (.int (nI c)), some (.int 0), some (.int 0), none, none]) ⟨rfl, rfl, rfl, rfl, rfl, rfl, trivial⟩ (v1 h1t)
  ·
    refine q_iconst (v := 0) (by decide) d263_25 ?_
    exact q_iret d263_26 rfl (Nat.le_refl _) (Nat.le_refl _) (v2 h1f)

set_option maxRecDepth 10000 in
set_option maxHeartbeats 4000000 in
theorem u263e1 {d : Nat} {I : Nat → Nat → Int32} {D : Nat → Nat → UInt64} {R : Nat → Nat → Option Nat} {Q : j_Po} {t : Nat}  (ht : t < 6) (hd : 2 ≤ d)
    (v1 : (¬ (I 318 t) = (-1)) → j_W 263 d 0 0 0 0 33 [some (.ref 260), some (.int (nI t)), some (.int 1), some (.int (I 318 t)), some (.int 0), some (.int 0), none, none] [] w1 (I, D, RR R) Q)
    (v2 : ((I 318 t) = (-1)) → Q (some (.int 0)) w1 (I, D, RR R)) : j_Call d 263 [.ref 260, .int (nI t), .int 1] w1 (I, D, RR R) 0 0 Q := by
  refine q_enter (L := [some (.ref 260), some (.int (nI t)), some (.int 1), none, none, none, none, none]) j_m263 (Nat.le_of_ble_eq_true rfl) rfl ?_
  refine q_iload_n d263_0 rfl ?_
  refine q_if_ne (tgt := 13) d263_1 rfl (fun _ => ?_) (fun h => absurd h (by decide))
  refine q_aload_n d263_13 rfl ?_
  refine q_getR (x := 318) d263_14 (fs10_43 263 rfl) rfl (lt_w1 rfl) sh260 (rs260_9 R) (by decide) ?_
  refine q_iload_n d263_17 rfl ?_
  refine q_iaload (a := t) d263_18 (lt_w1 rfl) sh318 rfl (by omega) ?_
  refine q_istore_n (L' := [some (.ref 260), some (.int (nI t)), some (.int 1), some (.int (I 318 t)), none, none, none, none]) d263_19 (Nat.le_of_ble_eq_true rfl) rfl ?_
  refine q_iload_n d263_20 rfl ?_
  refine q_iconst (v := (-1)) (by decide) d263_21 ?_
  refine q_icmp_ne (tgt := 27) d263_22 rfl (fun h1t => ?_) (fun h1f => ?_)
  ·
    refine q_iconst (v := 0) (by decide) d263_27 ?_
    refine q_istore (L' := [some (.ref 260), some (.int (nI t)), some (.int 1), some (.int (I 318 t)), some (.int 0), none, none, none]) d263_28 (Nat.le_of_ble_eq_true rfl) rfl ?_
    refine q_iconst (v := 0) (by decide) d263_30 ?_
    refine q_istore (L' := [some (.ref 260), some (.int (nI t)), some (.int 1), some (.int (I 318 t)), some (.int 0), some (.int 0), none, none]) d263_31 (Nat.le_of_ble_eq_true rfl) rfl ?_
    exact r_sub (L' := [some (.ref 260), some (.int (nI t)), some (.int 1), some (.int (I 318 t)), some (.int 0), some (.int 0), none, none]) ⟨rfl, rfl, rfl, rfl, rfl, rfl, trivial⟩ (v1 h1t)
  ·
    refine q_iconst (v := 0) (by decide) d263_25 ?_
    exact q_iret d263_26 rfl (Nat.le_refl _) (Nat.le_refl _) (v2 h1f)

theorem c124e {β : Bd} {I : Nat → Nat → Int32} {D : Nat → Nat → UInt64} {R : Nat → Nat → Option Nat} {Q : j_Po} {d t g : Nat} {l : Bool} {T : Tl} {p : Int32} (hd : 1 ≤ d) (hg : isG g) (hV : BV β) (ht : t < 6) (hl : bL β t = true) (hG : GR β t I D g) (hk : plK l T ≤ 64) (hp : p = if tG T = 0 then -1 else nI (plK l T)) (hq : Q (some (.int (plV l (wd β t) T))) w1 (I, D, RR R)) : j_Call d 124 [.ref g, .int p] w1 (I, D, RR R) 0 0 Q := by
  subst hp
  exact c124 hg hV hG ht hl hk hd hq
set_option maxRecDepth 10000 in
set_option maxHeartbeats 4000000 in
theorem u123_0 {d : Nat} {I : Nat → Nat → Int32} {D : Nat → Nat → UInt64} {R : Nat → Nat → Option Nat} {Q : j_Po} {t : Nat} {β : Bd} (hR : WFR R) (hV : BV β) (hC : CB β I D R) (hN : NM β I) (hO : OrdB β I) (hg : isG (go R t)) (ht : t < 6) (hl : bL β t = true) (hd : 50 ≤ d)
    (v1 : t < 6)
    (v2 : bL β t = true)
    (v3 : 40 ≤ 40)
    (v4 : ∀ J1 : Nat → Nat → Int32, ∀ E2 : Nat → Nat → UInt64, (FRc I D J1 E2) → (TLR J1 E2 (230 + 3 * t) (cas β t) (csV β (env β) t)) → (∀ q, q < cas β t → (csV β (env β) t q).1 < 200 ∧ ((csV β (env β) t q).1 = 0 → Sm (csV β (env β) t q).2)) → GR β t J1 E2 (go R t))
    (v5 : ∀ J1 : Nat → Nat → Int32, ∀ E2 : Nat → Nat → UInt64, (FRc I D J1 E2) → (TLR J1 E2 (230 + 3 * t) (cas β t) (csV β (env β) t)) → (∀ q, q < cas β t → (csV β (env β) t q).1 < 200 ∧ ((csV β (env β) t q).1 = 0 → Sm (csV β (env β) t q).2)) → plK true (tal (csV β (env β) t) (cas β t)) ≤ 64)
    (v6 : ∀ J1 : Nat → Nat → Int32, ∀ E2 : Nat → Nat → UInt64, (FRc I D J1 E2) → (TLR J1 E2 (230 + 3 * t) (cas β t) (csV β (env β) t)) → (∀ q, q < cas β t → (csV β (env β) t q).1 < 200 ∧ ((csV β (env β) t q).1 = 0 → Sm (csV β (env β) t q).2)) → (J1 (230 + 3 * t) 8) = if tG (tal (csV β (env β) t) (cas β t)) = 0 then -1 else nI (plK true (tal (csV β (env β) t) (cas β t))))
    (v7 : ∀ J1 : Nat → Nat → Int32, ∀ E2 : Nat → Nat → UInt64, (FRc I D J1 E2) → (TLR J1 E2 (230 + 3 * t) (cas β t) (csV β (env β) t)) → (∀ q, q < cas β t → (csV β (env β) t q).1 < 200 ∧ ((csV β (env β) t q).1 = 0 → Sm (csV β (env β) t q).2)) → Q (some (.int (plV true (wd β t) (tal (csV β (env β) t) (cas β t))))) w1 (J1, E2, RR R)) : j_W 123 d 0 0 0 0 88 [some (.ref 0), some (.int (nI t)), none, some (.ref (go R t))] [] w1 (I, D, RR R) Q := by
  refine q_aload_n d123_88 rfl ?_
  refine q_aload_n d123_89 rfl ?_
  refine q_iload_n d123_90 rfl ?_
  refine q_invV (o := 0) (ci := 9) (av := [.int (nI t)]) (rest := [.ref (go R t)]) (d' := 40) (mc' := 0) (ms' := 0) d123_91 (cv9_245 123 rfl) rfl (by decide) rfl rfl (by omega) (Nat.le_of_ble_eq_true rfl) (Nat.le_of_ble_eq_true rfl) (lt_w1 rfl) sh0 (Nat.le_refl _) (Nat.le_refl _) ?_
  refine c122 hR hV hC hN hO v1 v2 v3 (fun J1 E2 h3 h4 h5 => ?_)
  show j_W 123 d 0 0 0 0 94 [some (.ref 0), some (.int (nI t)), none, some (.ref (go R t))] [.ref (230 + 3 * t), .ref (go R t)] w1 (J1, E2, RR R) Q
  refine q_getI d123_94 (fs9_271 123 rfl) rfl (isTl_lt (isTl_k t ht)) (isTl_sh (isTl_k t ht)) ?_
  refine q_invV (o := (go R t)) (ci := 3) (av := [.int (J1 (230 + 3 * t) 8)]) (rest := []) (d' := 1) (mc' := 0) (ms' := 0) d123_97 (cv9_274 123 rfl) rfl (by decide) rfl rfl (by omega) (Nat.le_of_ble_eq_true rfl) (Nat.le_of_ble_eq_true rfl) (isG_lt hg) (isG_sh hg) (Nat.le_refl _) (Nat.le_refl _) ?_
  refine c124e (l := true) (T := (tal (csV β (env β) t) (cas β t))) (Nat.le_refl 1) hg hV ht hl (v4 J1 E2 h3 h4 h5) (v5 J1 E2 h3 h4 h5) (v6 J1 E2 h3 h4 h5) ?_
  show j_W 123 d 0 0 0 0 100 [some (.ref 0), some (.int (nI t)), none, some (.ref (go R t))] [.int (plV true (wd β t) (tal (csV β (env β) t) (cas β t)))] w1 (J1, E2, RR R) Q
  exact q_iret d123_100 rfl (Nat.le_refl _) (Nat.le_refl _) (v7 J1 E2 h3 h4 h5)

set_option maxRecDepth 10000 in
set_option maxHeartbeats 4000000 in
theorem u123_1 {d : Nat} {I : Nat → Nat → Int32} {D : Nat → Nat → UInt64} {R : Nat → Nat → Option Nat} {Q : j_Po} {t : Nat} {β : Bd} (hR : WFR R) (hV : BV β) (hC : CB β I D R) (hN : NM β I) (hO : OrdB β I) (hg : isG (go R t)) (ht : t < 6) (hl : bL β t = true) (hd : 50 ≤ d)
    (v1 : t < 6)
    (v2 : bL β t = true)
    (v3 : 40 ≤ 40)
    (v4 : ∀ J1 : Nat → Nat → Int32, ∀ E2 : Nat → Nat → UInt64, (FRc I D J1 E2) → (TLR J1 E2 (230 + 3 * t) (cas β t) (csV β (env β) t)) → (∀ q, q < cas β t → (csV β (env β) t q).1 < 200 ∧ ((csV β (env β) t q).1 = 0 → Sm (csV β (env β) t q).2)) → GR β t J1 E2 (go R t))
    (v5 : ∀ J1 : Nat → Nat → Int32, ∀ E2 : Nat → Nat → UInt64, (FRc I D J1 E2) → (TLR J1 E2 (230 + 3 * t) (cas β t) (csV β (env β) t)) → (∀ q, q < cas β t → (csV β (env β) t q).1 < 200 ∧ ((csV β (env β) t q).1 = 0 → Sm (csV β (env β) t q).2)) → plK false (tal (csV β (env β) t) (cas β t)) ≤ 64)
    (v6 : ∀ J1 : Nat → Nat → Int32, ∀ E2 : Nat → Nat → UInt64, (FRc I D J1 E2) → (TLR J1 E2 (230 + 3 * t) (cas β t) (csV β (env β) t)) → (∀ q, q < cas β t → (csV β (env β) t q).1 < 200 ∧ ((csV β (env β) t q).1 = 0 → Sm (csV β (env β) t q).2)) → (J1 (230 + 3 * t) 9) = if tG (tal (csV β (env β) t) (cas β t)) = 0 then -1 else nI (plK false (tal (csV β (env β) t) (cas β t))))
    (v7 : ∀ J1 : Nat → Nat → Int32, ∀ E2 : Nat → Nat → UInt64, (FRc I D J1 E2) → (TLR J1 E2 (230 + 3 * t) (cas β t) (csV β (env β) t)) → (∀ q, q < cas β t → (csV β (env β) t q).1 < 200 ∧ ((csV β (env β) t q).1 = 0 → Sm (csV β (env β) t q).2)) → Q (some (.int (plV false (wd β t) (tal (csV β (env β) t) (cas β t))))) w1 (J1, E2, RR R)) : j_W 123 d 0 0 0 0 101 [some (.ref 0), some (.int (nI t)), none, some (.ref (go R t))] [] w1 (I, D, RR R) Q := by
  refine q_aload_n d123_101 rfl ?_
  refine q_aload_n d123_102 rfl ?_
  refine q_iload_n d123_103 rfl ?_
  refine q_invV (o := 0) (ci := 9) (av := [.int (nI t)]) (rest := [.ref (go R t)]) (d' := 40) (mc' := 0) (ms' := 0) d123_104 (cv9_245 123 rfl) rfl (by decide) rfl rfl (by omega) (Nat.le_of_ble_eq_true rfl) (Nat.le_of_ble_eq_true rfl) (lt_w1 rfl) sh0 (Nat.le_refl _) (Nat.le_refl _) ?_
  refine c122 hR hV hC hN hO v1 v2 v3 (fun J1 E2 h3 h4 h5 => ?_)
  show j_W 123 d 0 0 0 0 107 [some (.ref 0), some (.int (nI t)), none, some (.ref (go R t))] [.ref (230 + 3 * t), .ref (go R t)] w1 (J1, E2, RR R) Q
  refine q_getI d123_107 (fs9_277 123 rfl) rfl (isTl_lt (isTl_k t ht)) (isTl_sh (isTl_k t ht)) ?_
  refine q_invV (o := (go R t)) (ci := 3) (av := [.int (J1 (230 + 3 * t) 9)]) (rest := []) (d' := 1) (mc' := 0) (ms' := 0) d123_110 (cv9_274 123 rfl) rfl (by decide) rfl rfl (by omega) (Nat.le_of_ble_eq_true rfl) (Nat.le_of_ble_eq_true rfl) (isG_lt hg) (isG_sh hg) (Nat.le_refl _) (Nat.le_refl _) ?_
  refine c124e (l := false) (T := (tal (csV β (env β) t) (cas β t))) (Nat.le_refl 1) hg hV ht hl (v4 J1 E2 h3 h4 h5) (v5 J1 E2 h3 h4 h5) (v6 J1 E2 h3 h4 h5) ?_
  show j_W 123 d 0 0 0 0 113 [some (.ref 0), some (.int (nI t)), none, some (.ref (go R t))] [.int (plV false (wd β t) (tal (csV β (env β) t) (cas β t)))] w1 (J1, E2, RR R) Q
  exact q_iret d123_113 rfl (Nat.le_refl _) (Nat.le_refl _) (v7 J1 E2 h3 h4 h5)

set_option maxRecDepth 10000 in
set_option maxHeartbeats 4000000 in
theorem u123_2 {d : Nat} {I : Nat → Nat → Int32} {D : Nat → Nat → UInt64} {R : Nat → Nat → Option Nat} {Q : j_Po} {t : Nat} {β : Bd} (hR : WFR R) (hV : BV β) (hC : CB β I D R) (hN : NM β I) (hO : OrdB β I) (hg : isG (go R t)) (ht : t < 6) (hl : bL β t = true) (hd : 50 ≤ d)
    (v1 : BV β)
    (v2 : CB β I D R)
    (v3 : t < 6)
    (v4 : bL β t = true)
    (v5 : 1 ≤ 1)
    (v6 : ∀ x1 : Int32, (∀ c, c < 24 → bt x1 c = slB β I t c) → (∀ c, 24 ≤ c → c < 32 → bt x1 c = false) → Q (some (.int x1)) w1 (I, D, RR R)) : j_W 123 d 0 0 0 0 114 [some (.ref 0), some (.int (nI t)), none, some (.ref (go R t))] [] w1 (I, D, RR R) Q := by
  refine q_aload_n d123_114 rfl ?_
  refine q_getR (x := 204) d123_115 (fs9_58 123 rfl) rfl (lt_w1 rfl) sh0 (rs0_2 R) (by decide) ?_
  refine q_aload_n d123_118 rfl ?_
  refine q_getR (x := 108) d123_119 (fs9_53 123 rfl) rfl (lt_w1 rfl) sh0 (rs0_1 R) (by decide) ?_
  refine q_iload_n d123_122 rfl ?_
  refine q_invV (o := 204) (ci := 4) (av := [.ref 108, .int (nI t)]) (rest := []) (d' := 1) (mc' := 0) (ms' := 0) d123_123 (cv9_280 123 rfl) rfl (by decide) rfl rfl (by omega) (Nat.le_of_ble_eq_true rfl) (Nat.le_of_ble_eq_true rfl) (lt_w1 rfl) sh204 (Nat.le_refl _) (Nat.le_refl _) ?_
  refine c44 (β := β) hR v1 v2 v3 v4 v5 (fun x1 h2 h3 => ?_)
  show j_W 123 d 0 0 0 0 126 [some (.ref 0), some (.int (nI t)), none, some (.ref (go R t))] [.int x1] w1 (I, D, RR R) Q
  exact q_iret d123_126 rfl (Nat.le_refl _) (Nat.le_refl _) (v6 x1 h2 h3)

/-- how many unlike numbers a table varies through -/
def u1V (β : Bd) (t : Nat) : Nat := uN (nI (bK β (b1 β t))) (bA β (2 * t)) (bm β t)
def u2V (β : Bd) (t : Nat) : Nat := match b2 β t with | none => 0 | some o => uN (nI (bK β o)) (bA β (2 * t + 1)) (bn β t)
theorem uB_cg {k : Int32} {A B : Nat → UInt64} {i : Nat} : ∀ {j : Nat}, j ≤ i → (∀ q, q ≤ i → A q = B q) → uB k A i j = uB k B i j
  | 0, _, _ => rfl
  | j + 1, hj, h => by unfold uB; rw [uB_cg (by omega) h, h j (by omega), h i (Nat.le_refl _)]
theorem uN_cg {k : Int32} {A B : Nat → UInt64} : ∀ {i : Nat}, (∀ q, q < i → A q = B q) → uN k A i = uN k B i
  | 0, _ => rfl
  | i + 1, h => by unfold uN; rw [uN_cg (fun q hq => h q (by omega)), uB_cg (Nat.le_refl _) (fun q hq => h q (by omega))]
section UE
variable {β : Bd} {d t : Nat} {I : Nat → Nat → Int32} {D : Nat → Nat → UInt64} {R : Nat → Nat → Option Nat} {Q : j_Po}
theorem c127a (hd : 5 ≤ d) (hR : WFR R) (hV : BV β) (hC : CB β I D R) (ht : t < 6) (hl : bL β t = true) (hq : Q (some (.int (nI (u1V β t)))) w1 (I, D, RR R)) : j_Call d 127 [.ref 108, .int (nI t)] w1 (I, D, RR R) 0 0 Q := by
  obtain ⟨-, g2, -, g4, -, g6, -⟩ := (hC.2 t ht).2 hl
  obtain ⟨-, v2, -, -, -, v6, -, -, -, v10, -⟩ := hV.2.1 t ht hl
  have e : uN (I 109 (b1 β t)) (D (go R t + 1)) (bm β t) = u1V β t := by
    unfold u1V; rw [(hC.1 _ v2).1]; exact uN_cg g6
  refine u127 (n := bm β t) (o := b1 β t) hR ht v2 g4 g2 hd (hR.g t ht).2 v6 (fun i hi => ?_) ?_
  · show Sm (D (go R t + 1) i)
    rw [g6 i hi]; exact v10 i hi
  · show Q (some (.int (nI (uN (I 109 (b1 β t)) (D (go R t + 1)) (bm β t))))) w1 (I, D, RR R)
    rw [e]; exact hq
theorem c127b (hd : 5 ≤ d) (hR : WFR R) (hV : BV β) (hC : CB β I D R) (ht : t < 6) (hl : bL β t = true) (hq : Q (some (.int (nI (u2V β t)))) w1 (I, D, RR R)) : j_Call d 129 [.ref 108, .int (nI t)] w1 (I, D, RR R) 0 0 Q := by
  obtain ⟨-, -, g3, -, g5, -, g7⟩ := (hC.2 t ht).2 hl
  obtain ⟨-, -, -, v4, -, -, -, -, v9, -, v11⟩ := hV.2.1 t ht hl
  unfold u2V at hq
  cases hb : b2 β t with
  | none =>
    rw [hb] at hq g3
    have g3 : I ((R 113 t).getD 0) 3 = -1 := g3
    refine q_enter (L := [some (.ref 108), some (.int (nI t)), none]) j_m129 (Nat.le_of_ble_eq_true rfl) rfl ?_
    exact u129e hR ht hd (fun h => absurd g3 h) (fun _ => u129z hd hq)
  | some o =>
    rw [hb] at hq g3
    have g3 : I ((R 113 t).getD 0) 3 = nI o := g3
    have o24 := (v4 o hb).1
    have e : uN (I 109 o) (D (go R t + 2)) (bn β t) = uN (nI (bK β o)) (bA β (2 * t + 1)) (bn β t) := by
      rw [(hC.1 _ o24).1]; exact uN_cg g7
    refine u129s (n := bn β t) (o := o) hR ht o24 g5 g3 hd (fun _ => (hR.g t ht).2) (fun _ => v9) (fun _ i hi => ?_) (fun _ => ?_) (fun h => absurd h (nI_ne_m1 (by omega)))
    · show Sm (D (go R t + 2) i)
      rw [g7 i hi]; exact v11 i hi
    · show Q (some (.int (nI (uN (I 109 o) (D (go R t + 2)) (bn β t))))) w1 (I, D, RR R)
      rw [e]; exact hq
theorem c263_0 (hd : 5 ≤ d) (hV : BV β) (hS : RSt β I D) (ht : t < 6) (hl : bL β t = true) (hq : Q (some (.int (nI (u1V β t)))) w1 (I, D, RR R)) : j_Call d 263 [.ref 260, .int (nI t), .int 0] w1 (I, D, RR R) 0 0 Q := by
  obtain ⟨-, s2, -, s4, -, s6, -⟩ := (hS.2 t ht).2 hl
  obtain ⟨-, v2, -, -, -, v6, -, -, -, v10, -⟩ := hV.2.1 t ht hl
  refine u263e0 (c := b1 β t) ht s2 (by omega) (fun _ => ?_) (fun h => absurd h (nI_ne_m1 (by omega)))
  refine l263_0 (n := bm β t) ht v2 s4 v6 (fun i hi => ?_) (by omega) ?_ (bm β t) 0 rfl
  · show Sm (D (321 + 2 * t) i)
    rw [s6 i hi]; exact v10 i hi
  · have e : uN (I 261 (b1 β t)) (D (321 + 2 * t)) (bm β t) = u1V β t := by
      unfold u1V; rw [(hS.1 _ v2).1]; exact uN_cg s6
    show Q (some (.int (nI (uN (I 261 (b1 β t)) (D (321 + 2 * t)) (bm β t))))) w1 (I, D, RR R)
    rw [e]; exact hq
theorem c263_1 (hd : 5 ≤ d) (hV : BV β) (hS : RSt β I D) (ht : t < 6) (hl : bL β t = true) (hq : Q (some (.int (nI (u2V β t)))) w1 (I, D, RR R)) : j_Call d 263 [.ref 260, .int (nI t), .int 1] w1 (I, D, RR R) 0 0 Q := by
  obtain ⟨-, -, s3, -, s5, -, s7⟩ := (hS.2 t ht).2 hl
  obtain ⟨-, -, -, v4, -, -, -, -, v9, -, v11⟩ := hV.2.1 t ht hl
  unfold u2V at hq
  cases hb : b2 β t with
  | none =>
    rw [hb] at hq s3
    exact u263e1 ht (by omega) (fun h => absurd s3 h) (fun _ => hq)
  | some o =>
    rw [hb] at hq s3
    have s3 : I 318 t = nI o := s3
    have o24 := (v4 o hb).1
    refine u263e1 ht (by omega) (fun _ => ?_) (fun h => absurd (s3.symm.trans h) (nI_ne_m1 (by omega)))
    rw [s3]
    refine l263_1 (n := bn β t) ht o24 s5 v9 (fun i hi => ?_) (by omega) ?_ (bn β t) 0 rfl
    · show Sm (D (321 + 2 * t + 1) i)
      rw [s7 i hi]; exact v11 i hi
    · have e : uN (I 261 o) (D (321 + 2 * t + 1)) (bn β t) = uN (nI (bK β o)) (bA β (2 * t + 1)) (bn β t) := by
        rw [(hS.1 _ o24).1]; exact uN_cg s7
      show Q (some (.int (nI (uN (I 261 o) (D (321 + 2 * t + 1)) (bn β t))))) w1 (I, D, RR R)
      rw [e]; exact hq
end UE
set_option maxRecDepth 10000 in
set_option maxHeartbeats 4000000 in
theorem u123_7 {d : Nat} {I : Nat → Nat → Int32} {D : Nat → Nat → UInt64} {R : Nat → Nat → Option Nat} {Q : j_Po} {t : Nat} {β : Bd} (hR : WFR R) (hV : BV β) (hC : CB β I D R) (hN : NM β I) (hO : OrdB β I) (hg : isG (go R t)) (ht : t < 6) (hl : bL β t = true) (hd : 50 ≤ d)
    (v1 : CB β I D R)
    (v2 : t < 6)
    (v3 : bL β t = true)
    (v4 : Q (some (.int (nI (u1V β t)))) w1 (I, D, RR R)) : j_W 123 d 0 0 0 0 163 [some (.ref 0), some (.int (nI t)), none, some (.ref (go R t))] [] w1 (I, D, RR R) Q := by
  refine q_aload_n d123_163 rfl ?_
  refine q_getR (x := 108) d123_164 (fs9_53 123 rfl) rfl (lt_w1 rfl) sh0 (rs0_1 R) (by decide) ?_
  refine q_iload_n d123_167 rfl ?_
  refine q_invV (o := 108) (ci := 0) (av := [.int (nI t)]) (rest := []) (d' := 5) (mc' := 0) (ms' := 0) d123_168 (cv9_292 123 rfl) rfl (by decide) rfl rfl (by omega) (Nat.le_of_ble_eq_true rfl) (Nat.le_of_ble_eq_true rfl) (lt_w1 rfl) sh108 (Nat.le_refl _) (Nat.le_refl _) ?_
  refine c127a (β := β) (Nat.le_refl 5) hR hV v1 v2 v3 ?_
  show j_W 123 d 0 0 0 0 171 [some (.ref 0), some (.int (nI t)), none, some (.ref (go R t))] [.int (nI (u1V β t))] w1 (I, D, RR R) Q
  exact q_iret d123_171 rfl (Nat.le_refl _) (Nat.le_refl _) v4

set_option maxRecDepth 10000 in
set_option maxHeartbeats 4000000 in
theorem u123_8 {d : Nat} {I : Nat → Nat → Int32} {D : Nat → Nat → UInt64} {R : Nat → Nat → Option Nat} {Q : j_Po} {t : Nat} {β : Bd} (hR : WFR R) (hV : BV β) (hC : CB β I D R) (hN : NM β I) (hO : OrdB β I) (hg : isG (go R t)) (ht : t < 6) (hl : bL β t = true) (hd : 50 ≤ d)
    (v1 : CB β I D R)
    (v2 : t < 6)
    (v3 : bL β t = true)
    (v4 : Q (some (.int (nI (u2V β t)))) w1 (I, D, RR R)) : j_W 123 d 0 0 0 0 172 [some (.ref 0), some (.int (nI t)), none, some (.ref (go R t))] [] w1 (I, D, RR R) Q := by
  refine q_aload_n d123_172 rfl ?_
  refine q_getR (x := 108) d123_173 (fs9_53 123 rfl) rfl (lt_w1 rfl) sh0 (rs0_1 R) (by decide) ?_
  refine q_iload_n d123_176 rfl ?_
  refine q_invV (o := 108) (ci := 0) (av := [.int (nI t)]) (rest := []) (d' := 5) (mc' := 0) (ms' := 0) d123_177 (cv9_295 123 rfl) rfl (by decide) rfl rfl (by omega) (Nat.le_of_ble_eq_true rfl) (Nat.le_of_ble_eq_true rfl) (lt_w1 rfl) sh108 (Nat.le_refl _) (Nat.le_refl _) ?_
  refine c127b (β := β) (Nat.le_refl 5) hR hV v1 v2 v3 ?_
  show j_W 123 d 0 0 0 0 180 [some (.ref 0), some (.int (nI t)), none, some (.ref (go R t))] [.int (nI (u2V β t))] w1 (I, D, RR R) Q
  exact q_iret d123_180 rfl (Nat.le_refl _) (Nat.le_refl _) v4

set_option maxRecDepth 10000 in
set_option maxHeartbeats 4000000 in
theorem u262e {d : Nat} {I : Nat → Nat → Int32} {D : Nat → Nat → UInt64} {R : Nat → Nat → Option Nat} {Q : j_Po} {t : Nat} {β : Bd} {X : Nat → Nat → Bool} (hV : BV β) (ht : t < 6) (h316 : I 316 t = nI (bO β t)) (hd : 80 ≤ d)
    (v1 : 1 ≤ 1)
    (v2 : RBN β I)
    (v3 : RcE β X)
    (v4 : acyc β)
    (v5 : bO β t < 24)
    (v6 : ∀ x1 : Int32, (∀ v, v < 32 → bt x1 v = X (bO β t) v) → j_W 262 d 0 0 0 0 16 [some (.ref 260), some (.int (nI t)), some (.int 0), some (.int x1), some (.int 0)] [] w1 (I, D, RR R) Q) : j_Call d 262 [.ref 260, .int (nI t)] w1 (I, D, RR R) 0 0 Q := by
  refine q_enter (L := [some (.ref 260), some (.int (nI t)), none, none, none]) j_m262 (Nat.le_of_ble_eq_true rfl) rfl ?_
  refine q_iconst (v := 0) (by decide) d262_0 ?_
  refine q_istore_n (L' := [some (.ref 260), some (.int (nI t)), some (.int 0), none, none]) d262_1 (Nat.le_of_ble_eq_true rfl) rfl ?_
  refine q_aload_n d262_2 rfl ?_
  refine q_aload_n d262_3 rfl ?_
  refine q_getR (x := 316) d262_4 (fs10_37 262 rfl) rfl (lt_w1 rfl) sh260 (rs260_7 R) (by decide) ?_
  refine q_iload_n d262_7 rfl ?_
  refine q_iaload (a := t) d262_8 (lt_w1 rfl) sh316 rfl (by omega) ?_
  refine r_int (y := nI (bO β t)) h316 ?_
  refine q_invV (o := 260) (ci := 10) (av := [.int (nI (bO β t))]) (rest := []) (d' := 1) (mc' := 0) (ms' := 0) d262_9 (cv10_214 262 rfl) rfl (by decide) rfl rfl (by omega) (Nat.le_of_ble_eq_true rfl) (Nat.le_of_ble_eq_true rfl) (lt_w1 rfl) sh260 (Nat.le_refl _) (Nat.le_refl _) ?_
  refine c182 (β := β) (X := X) v1 v2 v3 v4 v5 (fun x1 h2 => ?_)
  show j_W 262 d 0 0 0 0 12 [some (.ref 260), some (.int (nI t)), some (.int 0), none, none] [.int x1] w1 (I, D, RR R) Q
  refine q_istore_n (L' := [some (.ref 260), some (.int (nI t)), some (.int 0), some (.int x1), none]) d262_12 (Nat.le_of_ble_eq_true rfl) rfl ?_
  refine q_iconst (v := 0) (by decide) d262_13 ?_
  refine q_istore (L' := [some (.ref 260), some (.int (nI t)), some (.int 0), some (.int x1), some (.int 0)]) d262_14 (Nat.le_of_ble_eq_true rfl) rfl ?_
  exact r_sub (L' := [some (.ref 260), some (.int (nI t)), some (.int 0), some (.int x1), some (.int 0)]) ⟨rfl, rfl, rfl, rfl, rfl, trivial⟩ (v6 x1 h2)

set_option maxRecDepth 10000 in
set_option maxHeartbeats 4000000 in
theorem u262h {d : Nat} {I : Nat → Nat → Int32} {D : Nat → Nat → UInt64} {R : Nat → Nat → Option Nat} {Q : j_Po} {t : Nat} {z : Int32} {y : Int32} {k : Nat} {β : Bd} {rd : Nat → Int32} (hV : BV β) (ht : t < 6) (hk : k ≤ 24) (hd : 80 ≤ d)
    (v1 : (24 ≤ k) → Q (some (.int z)) w1 (I, D, RR R))
    (v2 : (¬ 24 ≤ k) → (¬ ((y >>> ((nI k) &&& 31)) &&& 1) = 1) → j_W 262 d 0 0 0 0 16 [some (.ref 260), some (.int (nI t)), some (.int z), some (.int y), some (.int (nI (k + 1)))] [] w1 (I, D, RR R) Q)
    (v3 : (¬ 24 ≤ k) → (((y >>> ((nI k) &&& 31)) &&& 1) = 1) → (¬ (I 264 k) = 0) → RdE β rd)
    (v4 : (¬ 24 ≤ k) → (((y >>> ((nI k) &&& 31)) &&& 1) = 1) → (¬ (I 264 k) = 0) → k < 24)
    (v5 : (¬ 24 ≤ k) → (((y >>> ((nI k) &&& 31)) &&& 1) = 1) → (¬ (I 264 k) = 0) → 40 ≤ 40)
    (v6 : (¬ 24 ≤ k) → (((y >>> ((nI k) &&& 31)) &&& 1) = 1) → (¬ (I 264 k) = 0) → RBN β I)
    (v7 : (¬ 24 ≤ k) → (((y >>> ((nI k) &&& 31)) &&& 1) = 1) → (¬ (I 264 k) = 0) → ∀ J5 : Nat → Nat → Int32, (∀ o, o ≠ 359 → o ≠ 360 → J5 o = I o) → (RBN β J5) → (((rd k) &&& (rvy J5 t)) = 0) → j_W 262 d 0 0 0 0 16 [some (.ref 260), some (.int (nI t)), some (.int z), some (.int y), some (.int (nI (k + 1)))] [] w1 (J5, D, RR R) Q)
    (v8 : (¬ 24 ≤ k) → (((y >>> ((nI k) &&& 31)) &&& 1) = 1) → (¬ (I 264 k) = 0) → ∀ J5 : Nat → Nat → Int32, (∀ o, o ≠ 359 → o ≠ 360 → J5 o = I o) → (RBN β J5) → (¬ ((rd k) &&& (rvy J5 t)) = 0) → j_W 262 d 0 0 0 0 16 [some (.ref 260), some (.int (nI t)), some (.int (z ||| (1 <<< ((nI k) &&& 31)))), some (.int y), some (.int (nI (k + 1)))] [] w1 (J5, D, RR R) Q)
    (v9 : (¬ 24 ≤ k) → (((y >>> ((nI k) &&& 31)) &&& 1) = 1) → ((I 264 k) = 0) → j_W 262 d 0 0 0 0 16 [some (.ref 260), some (.int (nI t)), some (.int z), some (.int y), some (.int (nI (k + 1)))] [] w1 (I, D, RR R) Q) : j_W 262 d 0 0 0 0 16 [some (.ref 260), some (.int (nI t)), some (.int z), some (.int y), some (.int (nI k))] [] w1 (I, D, RR R) Q := by
  refine q_iload d262_16 rfl ?_
  refine q_bipush (v := 24) (by decide) d262_18 ?_
  refine q_icmp_ge (tgt := 70) d262_20 rfl (fun h1t => ?_) (fun h1f => ?_)
  ·
    have h1tc : 24 ≤ k := (nI_leI (by omega) (by omega)).mp h1t
    refine q_iload_n d262_70 rfl ?_
    exact q_iret d262_71 rfl (Nat.le_refl _) (Nat.le_refl _) (v1 h1tc)
  ·
    have h1fc : ¬ 24 ≤ k := mt (nI_leI (by omega) (by omega)).mpr h1f
    refine q_iload_n d262_23 rfl ?_
    refine q_iload d262_24 rfl ?_
    refine q_ishr d262_26 ?_
    refine q_iconst (v := 1) (by decide) d262_27 ?_
    refine q_iand d262_28 ?_
    refine q_iconst (v := 1) (by decide) d262_29 ?_
    refine q_icmp_ne (tgt := 64) d262_30 rfl (fun h2t => ?_) (fun h2f => ?_)
    ·
      refine q_iinc (L' := [some (.ref 260), some (.int (nI t)), some (.int z), some (.int y), some (.int (nI (k + 1)))]) (v := (nI (k + 1))) d262_64 rfl (nI_inc _) rfl ?_
      refine q_goto (tgt := 16) d262_67 rfl ?_
      exact r_sub (L' := [some (.ref 260), some (.int (nI t)), some (.int z), some (.int y), some (.int (nI (k + 1)))]) ⟨rfl, rfl, rfl, rfl, rfl, trivial⟩ (v2 h1fc h2t)
    ·
      refine q_aload_n d262_33 rfl ?_
      refine q_iload d262_34 rfl ?_
      refine q_invV (o := 260) (ci := 10) (av := [.int (nI k)]) (rest := []) (d' := 0) (mc' := 0) (ms' := 0) d262_36 (cv10_204 262 rfl) rfl (by decide) rfl rfl (by omega) (Nat.le_of_ble_eq_true rfl) (Nat.le_of_ble_eq_true rfl) (lt_w1 rfl) sh260 (Nat.le_refl _) (Nat.le_refl _) ?_
      refine s170 (k := k) (by first | omega | decide) (Nat.le_refl _) (fun c3 => ?_) (fun c4 => ?_)
      ·
        show j_W 262 d 0 0 0 0 39 [some (.ref 260), some (.int (nI t)), some (.int z), some (.int y), some (.int (nI k))] [.int 0] w1 (I, D, RR R) Q
        refine q_if_ne (tgt := 64) d262_39 rfl (fun h => absurd h (by decide)) (fun _ => ?_)
        refine q_aload_n d262_42 rfl ?_
        refine q_iload d262_43 rfl ?_
        refine q_invV (o := 260) (ci := 10) (av := [.int (nI k)]) (rest := []) (d' := 40) (mc' := 0) (ms' := 0) d262_45 (cv10_323 262 rfl) rfl (by decide) rfl rfl (by omega) (Nat.le_of_ble_eq_true rfl) (Nat.le_of_ble_eq_true rfl) (lt_w1 rfl) sh260 (Nat.le_refl _) (Nat.le_refl _) ?_
        refine c177 (rd := rd) hV (v3 h1fc h2f c3) (v4 h1fc h2f c3) (v5 h1fc h2f c3) (v6 h1fc h2f c3) (fun J5 h6 h7 => ?_)
        show j_W 262 d 0 0 0 0 48 [some (.ref 260), some (.int (nI t)), some (.int z), some (.int y), some (.int (nI k))] [.int (rd k)] w1 (J5, D, RR R) Q
        refine q_aload_n d262_48 rfl ?_
        refine q_iload_n d262_49 rfl ?_
        refine q_invV (o := 260) (ci := 10) (av := [.int (nI t)]) (rest := [.int (rd k)]) (d' := 0) (mc' := 0) (ms' := 0) d262_50 (cv10_211 262 rfl) rfl (by decide) rfl rfl (by omega) (Nat.le_of_ble_eq_true rfl) (Nat.le_of_ble_eq_true rfl) (lt_w1 rfl) sh260 (Nat.le_refl _) (Nat.le_refl _) ?_
        refine c181 (by omega)  ?_
        show j_W 262 d 0 0 0 0 53 [some (.ref 260), some (.int (nI t)), some (.int z), some (.int y), some (.int (nI k))] [.int (rvy J5 t), .int (rd k)] w1 (J5, D, RR R) Q
        refine q_iand d262_53 ?_
        refine q_if_eq (tgt := 64) d262_54 rfl (fun h8t => ?_) (fun h8f => ?_)
        ·
          refine q_iinc (L' := [some (.ref 260), some (.int (nI t)), some (.int z), some (.int y), some (.int (nI (k + 1)))]) (v := (nI (k + 1))) d262_64 rfl (nI_inc _) rfl ?_
          refine q_goto (tgt := 16) d262_67 rfl ?_
          exact r_sub (L' := [some (.ref 260), some (.int (nI t)), some (.int z), some (.int y), some (.int (nI (k + 1)))]) ⟨rfl, rfl, rfl, rfl, rfl, trivial⟩ (v7 h1fc h2f c3 J5 h6 h7 h8t)
        ·
          refine q_iload_n d262_57 rfl ?_
          refine q_iconst (v := 1) (by decide) d262_58 ?_
          refine q_iload d262_59 rfl ?_
          refine q_ishl d262_61 ?_
          refine q_ior d262_62 ?_
          refine q_istore_n (L' := [some (.ref 260), some (.int (nI t)), some (.int (z ||| (1 <<< ((nI k) &&& 31)))), some (.int y), some (.int (nI k))]) d262_63 (Nat.le_of_ble_eq_true rfl) rfl ?_
          refine q_iinc (L' := [some (.ref 260), some (.int (nI t)), some (.int (z ||| (1 <<< ((nI k) &&& 31)))), some (.int y), some (.int (nI (k + 1)))]) (v := (nI (k + 1))) d262_64 rfl (nI_inc _) rfl ?_
          refine q_goto (tgt := 16) d262_67 rfl ?_
          exact r_sub (L' := [some (.ref 260), some (.int (nI t)), some (.int (z ||| (1 <<< ((nI k) &&& 31)))), some (.int y), some (.int (nI (k + 1)))]) ⟨rfl, rfl, rfl, rfl, rfl, trivial⟩ (v8 h1fc h2f c3 J5 h6 h7 h8f)
      ·
        show j_W 262 d 0 0 0 0 39 [some (.ref 260), some (.int (nI t)), some (.int z), some (.int y), some (.int (nI k))] [.int 1] w1 (I, D, RR R) Q
        refine q_if_ne (tgt := 64) d262_39 rfl (fun _ => ?_) (fun h => absurd h (by decide))
        refine q_iinc (L' := [some (.ref 260), some (.int (nI t)), some (.int z), some (.int y), some (.int (nI (k + 1)))]) (v := (nI (k + 1))) d262_64 rfl (nI_inc _) rfl ?_
        refine q_goto (tgt := 16) d262_67 rfl ?_
        exact r_sub (L' := [some (.ref 260), some (.int (nI t)), some (.int z), some (.int y), some (.int (nI (k + 1)))]) ⟨rfl, rfl, rfl, rfl, rfl, trivial⟩ (v9 h1fc h2f c4)

