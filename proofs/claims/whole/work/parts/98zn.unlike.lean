/-! asks: unlike numbers, walks -/
set_option maxRecDepth 10000 in
set_option maxHeartbeats 4000000 in
theorem u128ha {d : Nat} {I : Nat → Nat → Int32} {D : Nat → Nat → UInt64} {R : Nat → Nat → Option Nat} {Q : j_Po} {n : Nat} {w : Int32} {h : Nat} {i : Nat} {g : Nat} (hg : isG g) (hn : n ≤ 8) (hi : i ≤ 8) (hh : h ≤ 8) (hd : 2 ≤ d)
    (v1 : (n ≤ i) → Q (some (.int (nI h))) w1 (I, D, RR R))
    (v2 : (¬ n ≤ i) → j_W 128 d 0 0 0 0 17 [some (.ref (g + 1)), some (.int (nI n)), some (.int w), some (.int (nI h)), some (.int (nI i)), some (.int 1), some (.int 0)] [] w1 (I, D, RR R) Q) : j_W 128 d 0 0 0 0 5 [some (.ref (g + 1)), some (.int (nI n)), some (.int w), some (.int (nI h)), some (.int (nI i)), none, none] [] w1 (I, D, RR R) Q := by
  refine q_iload d128_5 rfl ?_
  refine q_iload_n d128_7 rfl ?_
  refine q_icmp_ge (tgt := 67) d128_8 rfl (fun h1t => ?_) (fun h1f => ?_)
  ·
    have h1tc : n ≤ i := (nI_leI (by omega) (by omega)).mp h1t
    refine q_iload_n d128_67 rfl ?_
    exact q_iret d128_68 rfl (Nat.le_refl _) (Nat.le_refl _) (v1 h1tc)
  ·
    have h1fc : ¬ n ≤ i := mt (nI_leI (by omega) (by omega)).mpr h1f
    refine q_iconst (v := 1) (by decide) d128_11 ?_
    refine q_istore (L' := [some (.ref (g + 1)), some (.int (nI n)), some (.int w), some (.int (nI h)), some (.int (nI i)), some (.int 1), none]) d128_12 (Nat.le_of_ble_eq_true rfl) rfl ?_
    refine q_iconst (v := 0) (by decide) d128_14 ?_
    refine q_istore (L' := [some (.ref (g + 1)), some (.int (nI n)), some (.int w), some (.int (nI h)), some (.int (nI i)), some (.int 1), some (.int 0)]) d128_15 (Nat.le_of_ble_eq_true rfl) rfl ?_
    exact r_sub (L' := [some (.ref (g + 1)), some (.int (nI n)), some (.int w), some (.int (nI h)), some (.int (nI i)), some (.int 1), some (.int 0)]) ⟨rfl, rfl, rfl, rfl, rfl, rfl, rfl, trivial⟩ (v2 h1fc)

set_option maxRecDepth 10000 in
set_option maxHeartbeats 4000000 in
theorem u128ia {d : Nat} {I : Nat → Nat → Int32} {D : Nat → Nat → UInt64} {R : Nat → Nat → Option Nat} {Q : j_Po} {n : Nat} {w : Int32} {h : Nat} {i : Nat} {j : Nat} {g : Nat} {eb : Bool} (hg : isG g) (hi : i < 8) (hj : j ≤ i) (hh : h ≤ 8) (hd : 2 ≤ d)
    (v1 : (i ≤ j) → (eb = false) → j_W 128 d 0 0 0 0 5 [some (.ref (g + 1)), some (.int (nI n)), some (.int w), some (.int (nI h)), some (.int (nI (i + 1))), none, none] [] w1 (I, D, RR R) Q)
    (v2 : (i ≤ j) → (eb = true) → j_W 128 d 0 0 0 0 5 [some (.ref (g + 1)), some (.int (nI n)), some (.int w), some (.int (nI (h + 1))), some (.int (nI (i + 1))), none, none] [] w1 (I, D, RR R) Q)
    (v3 : (¬ i ≤ j) → Sm (D (g + 1) j))
    (v4 : (¬ i ≤ j) → 1 ≤ 1)
    (v5 : (¬ i ≤ j) → Sm (D (g + 1) i))
    (v6 : (¬ i ≤ j) → (deq (kp w (D (g + 1) j)) (kp w (D (g + 1) i)) = false) → j_W 128 d 0 0 0 0 17 [some (.ref (g + 1)), some (.int (nI n)), some (.int w), some (.int (nI h)), some (.int (nI i)), some (.int (bi eb)), some (.int (nI (j + 1)))] [] w1 (I, D, RR R) Q)
    (v7 : (¬ i ≤ j) → (deq (kp w (D (g + 1) j)) (kp w (D (g + 1) i)) = true) → j_W 128 d 0 0 0 0 17 [some (.ref (g + 1)), some (.int (nI n)), some (.int w), some (.int (nI h)), some (.int (nI i)), some (.int 0), some (.int (nI (j + 1)))] [] w1 (I, D, RR R) Q) : j_W 128 d 0 0 0 0 17 [some (.ref (g + 1)), some (.int (nI n)), some (.int w), some (.int (nI h)), some (.int (nI i)), some (.int (bi eb)), some (.int (nI j))] [] w1 (I, D, RR R) Q := by
  refine q_iload d128_17 rfl ?_
  refine q_iload d128_19 rfl ?_
  refine q_icmp_ge (tgt := 53) d128_21 rfl (fun h1t => ?_) (fun h1f => ?_)
  ·
    have h1tc : i ≤ j := (nI_leI (by omega) (by omega)).mp h1t
    refine q_iload d128_53 rfl ?_
    refine q_if_eq (tgt := 61) d128_55 rfl (fun h2t => ?_) (fun h2f => ?_)
    ·
      have h2tc : eb = false := bi_0 h2t
      refine q_iinc (L' := [some (.ref (g + 1)), some (.int (nI n)), some (.int w), some (.int (nI h)), some (.int (nI (i + 1))), some (.int (bi eb)), some (.int (nI j))]) (v := (nI (i + 1))) d128_61 rfl (nI_inc _) rfl ?_
      refine q_goto (tgt := 5) d128_64 rfl ?_
      exact r_sub (L' := [some (.ref (g + 1)), some (.int (nI n)), some (.int w), some (.int (nI h)), some (.int (nI (i + 1))), none, none]) ⟨rfl, rfl, rfl, rfl, rfl, trivial⟩ (v1 h1tc h2tc)
    ·
      have h2fc : eb = true := bi_1 h2f
      refine q_iinc (L' := [some (.ref (g + 1)), some (.int (nI n)), some (.int w), some (.int (nI (h + 1))), some (.int (nI i)), some (.int (bi eb)), some (.int (nI j))]) (v := (nI (h + 1))) d128_58 rfl (nI_inc _) rfl ?_
      refine q_iinc (L' := [some (.ref (g + 1)), some (.int (nI n)), some (.int w), some (.int (nI (h + 1))), some (.int (nI (i + 1))), some (.int (bi eb)), some (.int (nI j))]) (v := (nI (i + 1))) d128_61 rfl (nI_inc _) rfl ?_
      refine q_goto (tgt := 5) d128_64 rfl ?_
      exact r_sub (L' := [some (.ref (g + 1)), some (.int (nI n)), some (.int w), some (.int (nI (h + 1))), some (.int (nI (i + 1))), none, none]) ⟨rfl, rfl, rfl, rfl, rfl, trivial⟩ (v2 h1tc h2fc)
  ·
    have h1fc : ¬ i ≤ j := mt (nI_leI (by omega) (by omega)).mpr h1f
    refine q_iload_n d128_24 rfl ?_
    refine q_aload_n d128_25 rfl ?_
    refine q_iload d128_26 rfl ?_
    refine q_daload (a := j) d128_28 (isG_lt1 hg) (isG_sh1 hg) rfl (by omega) ?_
    refine q_invSN (av := [.int w, .double (D (g + 1) j)]) (rest := []) (d' := 1) (mc' := 0) (ms' := 0) d128_29 (nv0_87 128 rfl) rfl rfl (by omega) (Nat.le_of_ble_eq_true rfl) (Nat.le_of_ble_eq_true rfl) (Nat.le_refl _) (Nat.le_refl _) ?_
    refine c15 (v3 h1fc) (v4 h1fc) ?_
    show j_W 128 d 0 0 0 0 32 [some (.ref (g + 1)), some (.int (nI n)), some (.int w), some (.int (nI h)), some (.int (nI i)), some (.int (bi eb)), some (.int (nI j))] [.double (kp w (D (g + 1) j))] w1 (I, D, RR R) Q
    refine q_iload_n d128_32 rfl ?_
    refine q_aload_n d128_33 rfl ?_
    refine q_iload d128_34 rfl ?_
    refine q_daload (a := i) d128_36 (isG_lt1 hg) (isG_sh1 hg) rfl (by omega) ?_
    refine q_invSN (av := [.int w, .double (D (g + 1) i)]) (rest := [.double (kp w (D (g + 1) j))]) (d' := 1) (mc' := 0) (ms' := 0) d128_37 (nv0_87 128 rfl) rfl rfl (by omega) (Nat.le_of_ble_eq_true rfl) (Nat.le_of_ble_eq_true rfl) (Nat.le_refl _) (Nat.le_refl _) ?_
    refine c15 (v5 h1fc) (v4 h1fc) ?_
    show j_W 128 d 0 0 0 0 40 [some (.ref (g + 1)), some (.int (nI n)), some (.int w), some (.int (nI h)), some (.int (nI i)), some (.int (bi eb)), some (.int (nI j))] [.double (kp w (D (g + 1) i)), .double (kp w (D (g + 1) j))] w1 (I, D, RR R) Q
    refine q_dcmp d128_40 ?_
    refine q_if_ne (tgt := 47) d128_41 rfl (fun h3t => ?_) (fun h3f => ?_)
    ·
      have h3tc : deq (kp w (D (g + 1) j)) (kp w (D (g + 1) i)) = false := dc_l_ne_t h3t
      refine q_iinc (L' := [some (.ref (g + 1)), some (.int (nI n)), some (.int w), some (.int (nI h)), some (.int (nI i)), some (.int (bi eb)), some (.int (nI (j + 1)))]) (v := (nI (j + 1))) d128_47 rfl (nI_inc _) rfl ?_
      refine q_goto (tgt := 17) d128_50 rfl ?_
      exact r_sub (L' := [some (.ref (g + 1)), some (.int (nI n)), some (.int w), some (.int (nI h)), some (.int (nI i)), some (.int (bi eb)), some (.int (nI (j + 1)))]) ⟨rfl, rfl, rfl, rfl, rfl, rfl, rfl, trivial⟩ (v6 h1fc h3tc)
    ·
      have h3fc : deq (kp w (D (g + 1) j)) (kp w (D (g + 1) i)) = true := dc_l_ne_f h3f
      refine q_iconst (v := 0) (by decide) d128_44 ?_
      refine q_istore (L' := [some (.ref (g + 1)), some (.int (nI n)), some (.int w), some (.int (nI h)), some (.int (nI i)), some (.int 0), some (.int (nI j))]) d128_45 (Nat.le_of_ble_eq_true rfl) rfl ?_
      refine q_iinc (L' := [some (.ref (g + 1)), some (.int (nI n)), some (.int w), some (.int (nI h)), some (.int (nI i)), some (.int 0), some (.int (nI (j + 1)))]) (v := (nI (j + 1))) d128_47 rfl (nI_inc _) rfl ?_
      refine q_goto (tgt := 17) d128_50 rfl ?_
      exact r_sub (L' := [some (.ref (g + 1)), some (.int (nI n)), some (.int w), some (.int (nI h)), some (.int (nI i)), some (.int 0), some (.int (nI (j + 1)))]) ⟨rfl, rfl, rfl, rfl, rfl, rfl, rfl, trivial⟩ (v7 h1fc h3fc)

set_option maxRecDepth 10000 in
set_option maxHeartbeats 4000000 in
theorem u128hb {d : Nat} {I : Nat → Nat → Int32} {D : Nat → Nat → UInt64} {R : Nat → Nat → Option Nat} {Q : j_Po} {n : Nat} {w : Int32} {h : Nat} {i : Nat} {g : Nat} (hg : isG g) (hn : n ≤ 8) (hi : i ≤ 8) (hh : h ≤ 8) (hd : 2 ≤ d)
    (v1 : (n ≤ i) → Q (some (.int (nI h))) w1 (I, D, RR R))
    (v2 : (¬ n ≤ i) → j_W 128 d 0 0 0 0 17 [some (.ref (g + 2)), some (.int (nI n)), some (.int w), some (.int (nI h)), some (.int (nI i)), some (.int 1), some (.int 0)] [] w1 (I, D, RR R) Q) : j_W 128 d 0 0 0 0 5 [some (.ref (g + 2)), some (.int (nI n)), some (.int w), some (.int (nI h)), some (.int (nI i)), none, none] [] w1 (I, D, RR R) Q := by
  refine q_iload d128_5 rfl ?_
  refine q_iload_n d128_7 rfl ?_
  refine q_icmp_ge (tgt := 67) d128_8 rfl (fun h1t => ?_) (fun h1f => ?_)
  ·
    have h1tc : n ≤ i := (nI_leI (by omega) (by omega)).mp h1t
    refine q_iload_n d128_67 rfl ?_
    exact q_iret d128_68 rfl (Nat.le_refl _) (Nat.le_refl _) (v1 h1tc)
  ·
    have h1fc : ¬ n ≤ i := mt (nI_leI (by omega) (by omega)).mpr h1f
    refine q_iconst (v := 1) (by decide) d128_11 ?_
    refine q_istore (L' := [some (.ref (g + 2)), some (.int (nI n)), some (.int w), some (.int (nI h)), some (.int (nI i)), some (.int 1), none]) d128_12 (Nat.le_of_ble_eq_true rfl) rfl ?_
    refine q_iconst (v := 0) (by decide) d128_14 ?_
    refine q_istore (L' := [some (.ref (g + 2)), some (.int (nI n)), some (.int w), some (.int (nI h)), some (.int (nI i)), some (.int 1), some (.int 0)]) d128_15 (Nat.le_of_ble_eq_true rfl) rfl ?_
    exact r_sub (L' := [some (.ref (g + 2)), some (.int (nI n)), some (.int w), some (.int (nI h)), some (.int (nI i)), some (.int 1), some (.int 0)]) ⟨rfl, rfl, rfl, rfl, rfl, rfl, rfl, trivial⟩ (v2 h1fc)

set_option maxRecDepth 10000 in
set_option maxHeartbeats 4000000 in
theorem u128ib {d : Nat} {I : Nat → Nat → Int32} {D : Nat → Nat → UInt64} {R : Nat → Nat → Option Nat} {Q : j_Po} {n : Nat} {w : Int32} {h : Nat} {i : Nat} {j : Nat} {g : Nat} {eb : Bool} (hg : isG g) (hi : i < 8) (hj : j ≤ i) (hh : h ≤ 8) (hd : 2 ≤ d)
    (v1 : (i ≤ j) → (eb = false) → j_W 128 d 0 0 0 0 5 [some (.ref (g + 2)), some (.int (nI n)), some (.int w), some (.int (nI h)), some (.int (nI (i + 1))), none, none] [] w1 (I, D, RR R) Q)
    (v2 : (i ≤ j) → (eb = true) → j_W 128 d 0 0 0 0 5 [some (.ref (g + 2)), some (.int (nI n)), some (.int w), some (.int (nI (h + 1))), some (.int (nI (i + 1))), none, none] [] w1 (I, D, RR R) Q)
    (v3 : (¬ i ≤ j) → Sm (D (g + 2) j))
    (v4 : (¬ i ≤ j) → 1 ≤ 1)
    (v5 : (¬ i ≤ j) → Sm (D (g + 2) i))
    (v6 : (¬ i ≤ j) → (deq (kp w (D (g + 2) j)) (kp w (D (g + 2) i)) = false) → j_W 128 d 0 0 0 0 17 [some (.ref (g + 2)), some (.int (nI n)), some (.int w), some (.int (nI h)), some (.int (nI i)), some (.int (bi eb)), some (.int (nI (j + 1)))] [] w1 (I, D, RR R) Q)
    (v7 : (¬ i ≤ j) → (deq (kp w (D (g + 2) j)) (kp w (D (g + 2) i)) = true) → j_W 128 d 0 0 0 0 17 [some (.ref (g + 2)), some (.int (nI n)), some (.int w), some (.int (nI h)), some (.int (nI i)), some (.int 0), some (.int (nI (j + 1)))] [] w1 (I, D, RR R) Q) : j_W 128 d 0 0 0 0 17 [some (.ref (g + 2)), some (.int (nI n)), some (.int w), some (.int (nI h)), some (.int (nI i)), some (.int (bi eb)), some (.int (nI j))] [] w1 (I, D, RR R) Q := by
  refine q_iload d128_17 rfl ?_
  refine q_iload d128_19 rfl ?_
  refine q_icmp_ge (tgt := 53) d128_21 rfl (fun h1t => ?_) (fun h1f => ?_)
  ·
    have h1tc : i ≤ j := (nI_leI (by omega) (by omega)).mp h1t
    refine q_iload d128_53 rfl ?_
    refine q_if_eq (tgt := 61) d128_55 rfl (fun h2t => ?_) (fun h2f => ?_)
    ·
      have h2tc : eb = false := bi_0 h2t
      refine q_iinc (L' := [some (.ref (g + 2)), some (.int (nI n)), some (.int w), some (.int (nI h)), some (.int (nI (i + 1))), some (.int (bi eb)), some (.int (nI j))]) (v := (nI (i + 1))) d128_61 rfl (nI_inc _) rfl ?_
      refine q_goto (tgt := 5) d128_64 rfl ?_
      exact r_sub (L' := [some (.ref (g + 2)), some (.int (nI n)), some (.int w), some (.int (nI h)), some (.int (nI (i + 1))), none, none]) ⟨rfl, rfl, rfl, rfl, rfl, trivial⟩ (v1 h1tc h2tc)
    ·
      have h2fc : eb = true := bi_1 h2f
      refine q_iinc (L' := [some (.ref (g + 2)), some (.int (nI n)), some (.int w), some (.int (nI (h + 1))), some (.int (nI i)), some (.int (bi eb)), some (.int (nI j))]) (v := (nI (h + 1))) d128_58 rfl (nI_inc _) rfl ?_
      refine q_iinc (L' := [some (.ref (g + 2)), some (.int (nI n)), some (.int w), some (.int (nI (h + 1))), some (.int (nI (i + 1))), some (.int (bi eb)), some (.int (nI j))]) (v := (nI (i + 1))) d128_61 rfl (nI_inc _) rfl ?_
      refine q_goto (tgt := 5) d128_64 rfl ?_
      exact r_sub (L' := [some (.ref (g + 2)), some (.int (nI n)), some (.int w), some (.int (nI (h + 1))), some (.int (nI (i + 1))), none, none]) ⟨rfl, rfl, rfl, rfl, rfl, trivial⟩ (v2 h1tc h2fc)
  ·
    have h1fc : ¬ i ≤ j := mt (nI_leI (by omega) (by omega)).mpr h1f
    refine q_iload_n d128_24 rfl ?_
    refine q_aload_n d128_25 rfl ?_
    refine q_iload d128_26 rfl ?_
    refine q_daload (a := j) d128_28 (isG_lt2 hg) (isG_sh2 hg) rfl (by omega) ?_
    refine q_invSN (av := [.int w, .double (D (g + 2) j)]) (rest := []) (d' := 1) (mc' := 0) (ms' := 0) d128_29 (nv0_87 128 rfl) rfl rfl (by omega) (Nat.le_of_ble_eq_true rfl) (Nat.le_of_ble_eq_true rfl) (Nat.le_refl _) (Nat.le_refl _) ?_
    refine c15 (v3 h1fc) (v4 h1fc) ?_
    show j_W 128 d 0 0 0 0 32 [some (.ref (g + 2)), some (.int (nI n)), some (.int w), some (.int (nI h)), some (.int (nI i)), some (.int (bi eb)), some (.int (nI j))] [.double (kp w (D (g + 2) j))] w1 (I, D, RR R) Q
    refine q_iload_n d128_32 rfl ?_
    refine q_aload_n d128_33 rfl ?_
    refine q_iload d128_34 rfl ?_
    refine q_daload (a := i) d128_36 (isG_lt2 hg) (isG_sh2 hg) rfl (by omega) ?_
    refine q_invSN (av := [.int w, .double (D (g + 2) i)]) (rest := [.double (kp w (D (g + 2) j))]) (d' := 1) (mc' := 0) (ms' := 0) d128_37 (nv0_87 128 rfl) rfl rfl (by omega) (Nat.le_of_ble_eq_true rfl) (Nat.le_of_ble_eq_true rfl) (Nat.le_refl _) (Nat.le_refl _) ?_
    refine c15 (v5 h1fc) (v4 h1fc) ?_
    show j_W 128 d 0 0 0 0 40 [some (.ref (g + 2)), some (.int (nI n)), some (.int w), some (.int (nI h)), some (.int (nI i)), some (.int (bi eb)), some (.int (nI j))] [.double (kp w (D (g + 2) i)), .double (kp w (D (g + 2) j))] w1 (I, D, RR R) Q
    refine q_dcmp d128_40 ?_
    refine q_if_ne (tgt := 47) d128_41 rfl (fun h3t => ?_) (fun h3f => ?_)
    ·
      have h3tc : deq (kp w (D (g + 2) j)) (kp w (D (g + 2) i)) = false := dc_l_ne_t h3t
      refine q_iinc (L' := [some (.ref (g + 2)), some (.int (nI n)), some (.int w), some (.int (nI h)), some (.int (nI i)), some (.int (bi eb)), some (.int (nI (j + 1)))]) (v := (nI (j + 1))) d128_47 rfl (nI_inc _) rfl ?_
      refine q_goto (tgt := 17) d128_50 rfl ?_
      exact r_sub (L' := [some (.ref (g + 2)), some (.int (nI n)), some (.int w), some (.int (nI h)), some (.int (nI i)), some (.int (bi eb)), some (.int (nI (j + 1)))]) ⟨rfl, rfl, rfl, rfl, rfl, rfl, rfl, trivial⟩ (v6 h1fc h3tc)
    ·
      have h3fc : deq (kp w (D (g + 2) j)) (kp w (D (g + 2) i)) = true := dc_l_ne_f h3f
      refine q_iconst (v := 0) (by decide) d128_44 ?_
      refine q_istore (L' := [some (.ref (g + 2)), some (.int (nI n)), some (.int w), some (.int (nI h)), some (.int (nI i)), some (.int 0), some (.int (nI j))]) d128_45 (Nat.le_of_ble_eq_true rfl) rfl ?_
      refine q_iinc (L' := [some (.ref (g + 2)), some (.int (nI n)), some (.int w), some (.int (nI h)), some (.int (nI i)), some (.int 0), some (.int (nI (j + 1)))]) (v := (nI (j + 1))) d128_47 rfl (nI_inc _) rfl ?_
      refine q_goto (tgt := 17) d128_50 rfl ?_
      exact r_sub (L' := [some (.ref (g + 2)), some (.int (nI n)), some (.int w), some (.int (nI h)), some (.int (nI i)), some (.int 0), some (.int (nI (j + 1)))]) ⟨rfl, rfl, rfl, rfl, rfl, rfl, rfl, trivial⟩ (v7 h1fc h3fc)

set_option maxRecDepth 10000 in
set_option maxHeartbeats 4000000 in
theorem u263h0 {d : Nat} {I : Nat → Nat → Int32} {D : Nat → Nat → UInt64} {R : Nat → Nat → Option Nat} {Q : j_Po} {t : Nat} {c : Nat} {h : Nat} {i : Nat} {n : Nat} (ht : t < 6) (hc : c < 24) (h319 : I 319 (2 * t + 0) = nI n) (hn : n ≤ 8) (hi : i ≤ 8) (hh : h ≤ 8) (hd : 2 ≤ d)
    (v1 : (n ≤ i) → Q (some (.int (nI h))) w1 (I, D, RR R))
    (v2 : (¬ n ≤ i) → j_W 263 d 0 0 0 0 54 [some (.ref 260), some (.int (nI t)), some (.int 0), some (.int (nI c)), some (.int (nI h)), some (.int (nI i)), some (.int 1), some (.int 0)] [] w1 (I, D, RR R) Q) : j_W 263 d 0 0 0 0 33 [some (.ref 260), some (.int (nI t)), some (.int 0), some (.int (nI c)), some (.int (nI h)), some (.int (nI i)), none, none] [] w1 (I, D, RR R) Q := by
  refine q_iload d263_33 rfl ?_
  refine q_aload_n d263_35 rfl ?_
  refine q_getR (x := 319) d263_36 (fs10_46 263 rfl) rfl (lt_w1 rfl) sh260 (rs260_10 R) (by decide) ?_
  refine q_iconst (v := 2) (by decide) d263_39 ?_
  refine q_iload_n d263_40 rfl ?_
  refine q_imul d263_41 ?_
  refine r_int (y := (nI (2 * t))) (pk_mul 2 t) ?_
  refine q_iload_n d263_42 rfl ?_
  refine q_iadd d263_43 ?_
  refine r_int (y := (nI ((2 * t) + 0))) (nI_add (2 * t) 0) ?_
  refine q_iaload (a := ((2 * t) + 0)) d263_44 (lt_w1 rfl) sh319 rfl (by omega) ?_
  refine r_int (y := nI n) h319 ?_
  refine q_icmp_ge (tgt := 139) d263_45 rfl (fun h1t => ?_) (fun h1f => ?_)
  ·
    have h1tc : n ≤ i := (nI_leI (by omega) (by omega)).mp h1t
    refine q_iload d263_139 rfl ?_
    exact q_iret d263_141 rfl (Nat.le_refl _) (Nat.le_refl _) (v1 h1tc)
  ·
    have h1fc : ¬ n ≤ i := mt (nI_leI (by omega) (by omega)).mpr h1f
    refine q_iconst (v := 1) (by decide) d263_48 ?_
    refine q_istore (L' := [some (.ref 260), some (.int (nI t)), some (.int 0), some (.int (nI c)), some (.int (nI h)), some (.int (nI i)), some (.int 1), none]) d263_49 (Nat.le_of_ble_eq_true rfl) rfl ?_
    refine q_iconst (v := 0) (by decide) d263_51 ?_
    refine q_istore (L' := [some (.ref 260), some (.int (nI t)), some (.int 0), some (.int (nI c)), some (.int (nI h)), some (.int (nI i)), some (.int 1), some (.int 0)]) d263_52 (Nat.le_of_ble_eq_true rfl) rfl ?_
    exact r_sub (L' := [some (.ref 260), some (.int (nI t)), some (.int 0), some (.int (nI c)), some (.int (nI h)), some (.int (nI i)), some (.int 1), some (.int 0)]) ⟨rfl, rfl, rfl, rfl, rfl, rfl, rfl, rfl, trivial⟩ (v2 h1fc)

set_option maxRecDepth 10000 in
set_option maxHeartbeats 4000000 in
theorem u263i0 {d : Nat} {I : Nat → Nat → Int32} {D : Nat → Nat → UInt64} {R : Nat → Nat → Option Nat} {Q : j_Po} {t : Nat} {c : Nat} {h : Nat} {i : Nat} {j : Nat} {eb : Bool} (ht : t < 6) (hc : c < 24) (hi : i < 8) (hj : j ≤ i) (hh : h ≤ 8) (hd : 2 ≤ d)
    (v1 : (i ≤ j) → (eb = false) → j_W 263 d 0 0 0 0 33 [some (.ref 260), some (.int (nI t)), some (.int 0), some (.int (nI c)), some (.int (nI h)), some (.int (nI (i + 1))), none, none] [] w1 (I, D, RR R) Q)
    (v2 : (i ≤ j) → (eb = true) → j_W 263 d 0 0 0 0 33 [some (.ref 260), some (.int (nI t)), some (.int 0), some (.int (nI c)), some (.int (nI (h + 1))), some (.int (nI (i + 1))), none, none] [] w1 (I, D, RR R) Q)
    (v3 : (¬ i ≤ j) → Sm (D (321 + ((2 * t) + 0)) j))
    (v4 : (¬ i ≤ j) → 1 ≤ 1)
    (v5 : (¬ i ≤ j) → Sm (D (321 + ((2 * t) + 0)) i))
    (v6 : (¬ i ≤ j) → (deq (kp (I 261 c) (D (321 + ((2 * t) + 0)) j)) (kp (I 261 c) (D (321 + ((2 * t) + 0)) i)) = true) → j_W 263 d 0 0 0 0 54 [some (.ref 260), some (.int (nI t)), some (.int 0), some (.int (nI c)), some (.int (nI h)), some (.int (nI i)), some (.int ((bi eb) &&& 0)), some (.int (nI (j + 1)))] [] w1 (I, D, RR R) Q)
    (v7 : (¬ i ≤ j) → (deq (kp (I 261 c) (D (321 + ((2 * t) + 0)) j)) (kp (I 261 c) (D (321 + ((2 * t) + 0)) i)) = false) → j_W 263 d 0 0 0 0 54 [some (.ref 260), some (.int (nI t)), some (.int 0), some (.int (nI c)), some (.int (nI h)), some (.int (nI i)), some (.int ((bi eb) &&& 1)), some (.int (nI (j + 1)))] [] w1 (I, D, RR R) Q) : j_W 263 d 0 0 0 0 54 [some (.ref 260), some (.int (nI t)), some (.int 0), some (.int (nI c)), some (.int (nI h)), some (.int (nI i)), some (.int (bi eb)), some (.int (nI j))] [] w1 (I, D, RR R) Q := by
  refine q_iload d263_54 rfl ?_
  refine q_iload d263_56 rfl ?_
  refine q_icmp_ge (tgt := 125) d263_58 rfl (fun h1t => ?_) (fun h1f => ?_)
  ·
    have h1tc : i ≤ j := (nI_leI (by omega) (by omega)).mp h1t
    refine q_iload d263_125 rfl ?_
    refine q_if_eq (tgt := 133) d263_127 rfl (fun h2t => ?_) (fun h2f => ?_)
    ·
      have h2tc : eb = false := bi_0 h2t
      refine q_iinc (L' := [some (.ref 260), some (.int (nI t)), some (.int 0), some (.int (nI c)), some (.int (nI h)), some (.int (nI (i + 1))), some (.int (bi eb)), some (.int (nI j))]) (v := (nI (i + 1))) d263_133 rfl (nI_inc _) rfl ?_
      refine q_goto (tgt := 33) d263_136 rfl ?_
      exact r_sub (L' := [some (.ref 260), some (.int (nI t)), some (.int 0), some (.int (nI c)), some (.int (nI h)), some (.int (nI (i + 1))), none, none]) ⟨rfl, rfl, rfl, rfl, rfl, rfl, trivial⟩ (v1 h1tc h2tc)
    ·
      have h2fc : eb = true := bi_1 h2f
      refine q_iinc (L' := [some (.ref 260), some (.int (nI t)), some (.int 0), some (.int (nI c)), some (.int (nI (h + 1))), some (.int (nI i)), some (.int (bi eb)), some (.int (nI j))]) (v := (nI (h + 1))) d263_130 rfl (nI_inc _) rfl ?_
      refine q_iinc (L' := [some (.ref 260), some (.int (nI t)), some (.int 0), some (.int (nI c)), some (.int (nI (h + 1))), some (.int (nI (i + 1))), some (.int (bi eb)), some (.int (nI j))]) (v := (nI (i + 1))) d263_133 rfl (nI_inc _) rfl ?_
      refine q_goto (tgt := 33) d263_136 rfl ?_
      exact r_sub (L' := [some (.ref 260), some (.int (nI t)), some (.int 0), some (.int (nI c)), some (.int (nI (h + 1))), some (.int (nI (i + 1))), none, none]) ⟨rfl, rfl, rfl, rfl, rfl, rfl, trivial⟩ (v2 h1tc h2fc)
  ·
    have h1fc : ¬ i ≤ j := mt (nI_leI (by omega) (by omega)).mpr h1f
    refine q_iload d263_61 rfl ?_
    refine q_aload_n d263_63 rfl ?_
    refine q_getR (x := 261) d263_64 (fs10_9 263 rfl) rfl (lt_w1 rfl) sh260 (rs260_0 R) (by decide) ?_
    refine q_iload_n d263_67 rfl ?_
    refine q_iaload (a := c) d263_68 (lt_w1 rfl) sh261 rfl (by omega) ?_
    refine q_aload_n d263_69 rfl ?_
    refine q_getR (x := 320) d263_70 (fs10_49 263 rfl) rfl (lt_w1 rfl) sh260 (rs260_11 R) (by decide) ?_
    refine q_iconst (v := 2) (by decide) d263_73 ?_
    refine q_iload_n d263_74 rfl ?_
    refine q_imul d263_75 ?_
    refine r_int (y := (nI (2 * t))) (pk_mul 2 t) ?_
    refine q_iload_n d263_76 rfl ?_
    refine q_iadd d263_77 ?_
    refine r_int (y := (nI ((2 * t) + 0))) (nI_add (2 * t) 0) ?_
    refine q_aaload (c := 3) (a := ((2 * t) + 0)) (x := (321 + ((2 * t) + 0))) d263_78 (lt_w1 rfl) sh320 (by decide) rfl (by omega) (rm320 R (by omega)) (lt1000 (lm320 (by omega))) ?_
    refine q_iload d263_79 rfl ?_
    refine q_daload (a := j) d263_81 (lm320 (by omega)) (sm320 (by omega)) rfl (by omega) ?_
    refine q_invS (av := [.int (I 261 c), .double (D (321 + ((2 * t) + 0)) j)]) (rest := [.int (bi eb)]) (d' := 1) (mc' := 0) (ms' := 0) d263_82 (cv10_250 263 rfl) rfl rfl (by omega) (Nat.le_of_ble_eq_true rfl) (Nat.le_of_ble_eq_true rfl) (Nat.le_refl _) (Nat.le_refl _) ?_
    refine c171 (v3 h1fc) (v4 h1fc) ?_
    show j_W 263 d 0 0 0 0 85 [some (.ref 260), some (.int (nI t)), some (.int 0), some (.int (nI c)), some (.int (nI h)), some (.int (nI i)), some (.int (bi eb)), some (.int (nI j))] [.double (kp (I 261 c) (D (321 + ((2 * t) + 0)) j)), .int (bi eb)] w1 (I, D, RR R) Q
    refine q_aload_n d263_85 rfl ?_
    refine q_getR (x := 261) d263_86 (fs10_9 263 rfl) rfl (lt_w1 rfl) sh260 (rs260_0 R) (by decide) ?_
    refine q_iload_n d263_89 rfl ?_
    refine q_iaload (a := c) d263_90 (lt_w1 rfl) sh261 rfl (by omega) ?_
    refine q_aload_n d263_91 rfl ?_
    refine q_getR (x := 320) d263_92 (fs10_49 263 rfl) rfl (lt_w1 rfl) sh260 (rs260_11 R) (by decide) ?_
    refine q_iconst (v := 2) (by decide) d263_95 ?_
    refine q_iload_n d263_96 rfl ?_
    refine q_imul d263_97 ?_
    refine r_int (y := (nI (2 * t))) (pk_mul 2 t) ?_
    refine q_iload_n d263_98 rfl ?_
    refine q_iadd d263_99 ?_
    refine r_int (y := (nI ((2 * t) + 0))) (nI_add (2 * t) 0) ?_
    refine q_aaload (c := 3) (a := ((2 * t) + 0)) (x := (321 + ((2 * t) + 0))) d263_100 (lt_w1 rfl) sh320 (by decide) rfl (by omega) (rm320 R (by omega)) (lt1000 (lm320 (by omega))) ?_
    refine q_iload d263_101 rfl ?_
    refine q_daload (a := i) d263_103 (lm320 (by omega)) (sm320 (by omega)) rfl (by omega) ?_
    refine q_invS (av := [.int (I 261 c), .double (D (321 + ((2 * t) + 0)) i)]) (rest := [.double (kp (I 261 c) (D (321 + ((2 * t) + 0)) j)), .int (bi eb)]) (d' := 1) (mc' := 0) (ms' := 0) d263_104 (cv10_250 263 rfl) rfl rfl (by omega) (Nat.le_of_ble_eq_true rfl) (Nat.le_of_ble_eq_true rfl) (Nat.le_refl _) (Nat.le_refl _) ?_
    refine c171 (v5 h1fc) (v4 h1fc) ?_
    show j_W 263 d 0 0 0 0 107 [some (.ref 260), some (.int (nI t)), some (.int 0), some (.int (nI c)), some (.int (nI h)), some (.int (nI i)), some (.int (bi eb)), some (.int (nI j))] [.double (kp (I 261 c) (D (321 + ((2 * t) + 0)) i)), .double (kp (I 261 c) (D (321 + ((2 * t) + 0)) j)), .int (bi eb)] w1 (I, D, RR R) Q
    refine q_dcmp d263_107 ?_
    refine q_if_eq (tgt := 115) d263_108 rfl (fun h3t => ?_) (fun h3f => ?_)
    ·
      have h3tc : deq (kp (I 261 c) (D (321 + ((2 * t) + 0)) j)) (kp (I 261 c) (D (321 + ((2 * t) + 0)) i)) = true := dc_l_eq_t h3t
      refine q_iconst (v := 0) (by decide) d263_115 ?_
      refine q_iand d263_116 ?_
      refine q_istore (L' := [some (.ref 260), some (.int (nI t)), some (.int 0), some (.int (nI c)), some (.int (nI h)), some (.int (nI i)), some (.int ((bi eb) &&& 0)), some (.int (nI j))]) d263_117 (Nat.le_of_ble_eq_true rfl) rfl ?_
      refine q_iinc (L' := [some (.ref 260), some (.int (nI t)), some (.int 0), some (.int (nI c)), some (.int (nI h)), some (.int (nI i)), some (.int ((bi eb) &&& 0)), some (.int (nI (j + 1)))]) (v := (nI (j + 1))) d263_119 rfl (nI_inc _) rfl ?_
      refine q_goto (tgt := 54) d263_122 rfl ?_
      exact r_sub (L' := [some (.ref 260), some (.int (nI t)), some (.int 0), some (.int (nI c)), some (.int (nI h)), some (.int (nI i)), some (.int ((bi eb) &&& 0)), some (.int (nI (j + 1)))]) ⟨rfl, rfl, rfl, rfl, rfl, rfl, rfl, rfl, trivial⟩ (v6 h1fc h3tc)
    ·
      have h3fc : deq (kp (I 261 c) (D (321 + ((2 * t) + 0)) j)) (kp (I 261 c) (D (321 + ((2 * t) + 0)) i)) = false := dc_l_eq_f h3f
      refine q_iconst (v := 1) (by decide) d263_111 ?_
      refine q_goto (tgt := 116) d263_112 rfl ?_
      refine q_iand d263_116 ?_
      refine q_istore (L' := [some (.ref 260), some (.int (nI t)), some (.int 0), some (.int (nI c)), some (.int (nI h)), some (.int (nI i)), some (.int ((bi eb) &&& 1)), some (.int (nI j))]) d263_117 (Nat.le_of_ble_eq_true rfl) rfl ?_
      refine q_iinc (L' := [some (.ref 260), some (.int (nI t)), some (.int 0), some (.int (nI c)), some (.int (nI h)), some (.int (nI i)), some (.int ((bi eb) &&& 1)), some (.int (nI (j + 1)))]) (v := (nI (j + 1))) d263_119 rfl (nI_inc _) rfl ?_
      refine q_goto (tgt := 54) d263_122 rfl ?_
      exact r_sub (L' := [some (.ref 260), some (.int (nI t)), some (.int 0), some (.int (nI c)), some (.int (nI h)), some (.int (nI i)), some (.int ((bi eb) &&& 1)), some (.int (nI (j + 1)))]) ⟨rfl, rfl, rfl, rfl, rfl, rfl, rfl, rfl, trivial⟩ (v7 h1fc h3fc)

set_option maxRecDepth 10000 in
set_option maxHeartbeats 4000000 in
theorem u263h1 {d : Nat} {I : Nat → Nat → Int32} {D : Nat → Nat → UInt64} {R : Nat → Nat → Option Nat} {Q : j_Po} {t : Nat} {c : Nat} {h : Nat} {i : Nat} {n : Nat} (ht : t < 6) (hc : c < 24) (h319 : I 319 (2 * t + 1) = nI n) (hn : n ≤ 8) (hi : i ≤ 8) (hh : h ≤ 8) (hd : 2 ≤ d)
    (v1 : (n ≤ i) → Q (some (.int (nI h))) w1 (I, D, RR R))
    (v2 : (¬ n ≤ i) → j_W 263 d 0 0 0 0 54 [some (.ref 260), some (.int (nI t)), some (.int 1), some (.int (nI c)), some (.int (nI h)), some (.int (nI i)), some (.int 1), some (.int 0)] [] w1 (I, D, RR R) Q) : j_W 263 d 0 0 0 0 33 [some (.ref 260), some (.int (nI t)), some (.int 1), some (.int (nI c)), some (.int (nI h)), some (.int (nI i)), none, none] [] w1 (I, D, RR R) Q := by
  refine q_iload d263_33 rfl ?_
  refine q_aload_n d263_35 rfl ?_
  refine q_getR (x := 319) d263_36 (fs10_46 263 rfl) rfl (lt_w1 rfl) sh260 (rs260_10 R) (by decide) ?_
  refine q_iconst (v := 2) (by decide) d263_39 ?_
  refine q_iload_n d263_40 rfl ?_
  refine q_imul d263_41 ?_
  refine r_int (y := (nI (2 * t))) (pk_mul 2 t) ?_
  refine q_iload_n d263_42 rfl ?_
  refine q_iadd d263_43 ?_
  refine r_int (y := (nI ((2 * t) + 1))) (nI_add (2 * t) 1) ?_
  refine q_iaload (a := ((2 * t) + 1)) d263_44 (lt_w1 rfl) sh319 rfl (by omega) ?_
  refine r_int (y := nI n) h319 ?_
  refine q_icmp_ge (tgt := 139) d263_45 rfl (fun h1t => ?_) (fun h1f => ?_)
  ·
    have h1tc : n ≤ i := (nI_leI (by omega) (by omega)).mp h1t
    refine q_iload d263_139 rfl ?_
    exact q_iret d263_141 rfl (Nat.le_refl _) (Nat.le_refl _) (v1 h1tc)
  ·
    have h1fc : ¬ n ≤ i := mt (nI_leI (by omega) (by omega)).mpr h1f
    refine q_iconst (v := 1) (by decide) d263_48 ?_
    refine q_istore (L' := [some (.ref 260), some (.int (nI t)), some (.int 1), some (.int (nI c)), some (.int (nI h)), some (.int (nI i)), some (.int 1), none]) d263_49 (Nat.le_of_ble_eq_true rfl) rfl ?_
    refine q_iconst (v := 0) (by decide) d263_51 ?_
    refine q_istore (L' := [some (.ref 260), some (.int (nI t)), some (.int 1), some (.int (nI c)), some (.int (nI h)), some (.int (nI i)), some (.int 1), some (.int 0)]) d263_52 (Nat.le_of_ble_eq_true rfl) rfl ?_
    exact r_sub (L' := [some (.ref 260), some (.int (nI t)), some (.int 1), some (.int (nI c)), some (.int (nI h)), some (.int (nI i)), some (.int 1), some (.int 0)]) ⟨rfl, rfl, rfl, rfl, rfl, rfl, rfl, rfl, trivial⟩ (v2 h1fc)

set_option maxRecDepth 10000 in
set_option maxHeartbeats 4000000 in
theorem u263i1 {d : Nat} {I : Nat → Nat → Int32} {D : Nat → Nat → UInt64} {R : Nat → Nat → Option Nat} {Q : j_Po} {t : Nat} {c : Nat} {h : Nat} {i : Nat} {j : Nat} {eb : Bool} (ht : t < 6) (hc : c < 24) (hi : i < 8) (hj : j ≤ i) (hh : h ≤ 8) (hd : 2 ≤ d)
    (v1 : (i ≤ j) → (eb = false) → j_W 263 d 0 0 0 0 33 [some (.ref 260), some (.int (nI t)), some (.int 1), some (.int (nI c)), some (.int (nI h)), some (.int (nI (i + 1))), none, none] [] w1 (I, D, RR R) Q)
    (v2 : (i ≤ j) → (eb = true) → j_W 263 d 0 0 0 0 33 [some (.ref 260), some (.int (nI t)), some (.int 1), some (.int (nI c)), some (.int (nI (h + 1))), some (.int (nI (i + 1))), none, none] [] w1 (I, D, RR R) Q)
    (v3 : (¬ i ≤ j) → Sm (D (321 + ((2 * t) + 1)) j))
    (v4 : (¬ i ≤ j) → 1 ≤ 1)
    (v5 : (¬ i ≤ j) → Sm (D (321 + ((2 * t) + 1)) i))
    (v6 : (¬ i ≤ j) → (deq (kp (I 261 c) (D (321 + ((2 * t) + 1)) j)) (kp (I 261 c) (D (321 + ((2 * t) + 1)) i)) = true) → j_W 263 d 0 0 0 0 54 [some (.ref 260), some (.int (nI t)), some (.int 1), some (.int (nI c)), some (.int (nI h)), some (.int (nI i)), some (.int ((bi eb) &&& 0)), some (.int (nI (j + 1)))] [] w1 (I, D, RR R) Q)
    (v7 : (¬ i ≤ j) → (deq (kp (I 261 c) (D (321 + ((2 * t) + 1)) j)) (kp (I 261 c) (D (321 + ((2 * t) + 1)) i)) = false) → j_W 263 d 0 0 0 0 54 [some (.ref 260), some (.int (nI t)), some (.int 1), some (.int (nI c)), some (.int (nI h)), some (.int (nI i)), some (.int ((bi eb) &&& 1)), some (.int (nI (j + 1)))] [] w1 (I, D, RR R) Q) : j_W 263 d 0 0 0 0 54 [some (.ref 260), some (.int (nI t)), some (.int 1), some (.int (nI c)), some (.int (nI h)), some (.int (nI i)), some (.int (bi eb)), some (.int (nI j))] [] w1 (I, D, RR R) Q := by
  refine q_iload d263_54 rfl ?_
  refine q_iload d263_56 rfl ?_
  refine q_icmp_ge (tgt := 125) d263_58 rfl (fun h1t => ?_) (fun h1f => ?_)
  ·
    have h1tc : i ≤ j := (nI_leI (by omega) (by omega)).mp h1t
    refine q_iload d263_125 rfl ?_
    refine q_if_eq (tgt := 133) d263_127 rfl (fun h2t => ?_) (fun h2f => ?_)
    ·
      have h2tc : eb = false := bi_0 h2t
      refine q_iinc (L' := [some (.ref 260), some (.int (nI t)), some (.int 1), some (.int (nI c)), some (.int (nI h)), some (.int (nI (i + 1))), some (.int (bi eb)), some (.int (nI j))]) (v := (nI (i + 1))) d263_133 rfl (nI_inc _) rfl ?_
      refine q_goto (tgt := 33) d263_136 rfl ?_
      exact r_sub (L' := [some (.ref 260), some (.int (nI t)), some (.int 1), some (.int (nI c)), some (.int (nI h)), some (.int (nI (i + 1))), none, none]) ⟨rfl, rfl, rfl, rfl, rfl, rfl, trivial⟩ (v1 h1tc h2tc)
    ·
      have h2fc : eb = true := bi_1 h2f
      refine q_iinc (L' := [some (.ref 260), some (.int (nI t)), some (.int 1), some (.int (nI c)), some (.int (nI (h + 1))), some (.int (nI i)), some (.int (bi eb)), some (.int (nI j))]) (v := (nI (h + 1))) d263_130 rfl (nI_inc _) rfl ?_
      refine q_iinc (L' := [some (.ref 260), some (.int (nI t)), some (.int 1), some (.int (nI c)), some (.int (nI (h + 1))), some (.int (nI (i + 1))), some (.int (bi eb)), some (.int (nI j))]) (v := (nI (i + 1))) d263_133 rfl (nI_inc _) rfl ?_
      refine q_goto (tgt := 33) d263_136 rfl ?_
      exact r_sub (L' := [some (.ref 260), some (.int (nI t)), some (.int 1), some (.int (nI c)), some (.int (nI (h + 1))), some (.int (nI (i + 1))), none, none]) ⟨rfl, rfl, rfl, rfl, rfl, rfl, trivial⟩ (v2 h1tc h2fc)
  ·
    have h1fc : ¬ i ≤ j := mt (nI_leI (by omega) (by omega)).mpr h1f
    refine q_iload d263_61 rfl ?_
    refine q_aload_n d263_63 rfl ?_
    refine q_getR (x := 261) d263_64 (fs10_9 263 rfl) rfl (lt_w1 rfl) sh260 (rs260_0 R) (by decide) ?_
    refine q_iload_n d263_67 rfl ?_
    refine q_iaload (a := c) d263_68 (lt_w1 rfl) sh261 rfl (by omega) ?_
    refine q_aload_n d263_69 rfl ?_
    refine q_getR (x := 320) d263_70 (fs10_49 263 rfl) rfl (lt_w1 rfl) sh260 (rs260_11 R) (by decide) ?_
    refine q_iconst (v := 2) (by decide) d263_73 ?_
    refine q_iload_n d263_74 rfl ?_
    refine q_imul d263_75 ?_
    refine r_int (y := (nI (2 * t))) (pk_mul 2 t) ?_
    refine q_iload_n d263_76 rfl ?_
    refine q_iadd d263_77 ?_
    refine r_int (y := (nI ((2 * t) + 1))) (nI_add (2 * t) 1) ?_
    refine q_aaload (c := 3) (a := ((2 * t) + 1)) (x := (321 + ((2 * t) + 1))) d263_78 (lt_w1 rfl) sh320 (by decide) rfl (by omega) (rm320 R (by omega)) (lt1000 (lm320 (by omega))) ?_
    refine q_iload d263_79 rfl ?_
    refine q_daload (a := j) d263_81 (lm320 (by omega)) (sm320 (by omega)) rfl (by omega) ?_
    refine q_invS (av := [.int (I 261 c), .double (D (321 + ((2 * t) + 1)) j)]) (rest := [.int (bi eb)]) (d' := 1) (mc' := 0) (ms' := 0) d263_82 (cv10_250 263 rfl) rfl rfl (by omega) (Nat.le_of_ble_eq_true rfl) (Nat.le_of_ble_eq_true rfl) (Nat.le_refl _) (Nat.le_refl _) ?_
    refine c171 (v3 h1fc) (v4 h1fc) ?_
    show j_W 263 d 0 0 0 0 85 [some (.ref 260), some (.int (nI t)), some (.int 1), some (.int (nI c)), some (.int (nI h)), some (.int (nI i)), some (.int (bi eb)), some (.int (nI j))] [.double (kp (I 261 c) (D (321 + ((2 * t) + 1)) j)), .int (bi eb)] w1 (I, D, RR R) Q
    refine q_aload_n d263_85 rfl ?_
    refine q_getR (x := 261) d263_86 (fs10_9 263 rfl) rfl (lt_w1 rfl) sh260 (rs260_0 R) (by decide) ?_
    refine q_iload_n d263_89 rfl ?_
    refine q_iaload (a := c) d263_90 (lt_w1 rfl) sh261 rfl (by omega) ?_
    refine q_aload_n d263_91 rfl ?_
    refine q_getR (x := 320) d263_92 (fs10_49 263 rfl) rfl (lt_w1 rfl) sh260 (rs260_11 R) (by decide) ?_
    refine q_iconst (v := 2) (by decide) d263_95 ?_
    refine q_iload_n d263_96 rfl ?_
    refine q_imul d263_97 ?_
    refine r_int (y := (nI (2 * t))) (pk_mul 2 t) ?_
    refine q_iload_n d263_98 rfl ?_
    refine q_iadd d263_99 ?_
    refine r_int (y := (nI ((2 * t) + 1))) (nI_add (2 * t) 1) ?_
    refine q_aaload (c := 3) (a := ((2 * t) + 1)) (x := (321 + ((2 * t) + 1))) d263_100 (lt_w1 rfl) sh320 (by decide) rfl (by omega) (rm320 R (by omega)) (lt1000 (lm320 (by omega))) ?_
    refine q_iload d263_101 rfl ?_
    refine q_daload (a := i) d263_103 (lm320 (by omega)) (sm320 (by omega)) rfl (by omega) ?_
    refine q_invS (av := [.int (I 261 c), .double (D (321 + ((2 * t) + 1)) i)]) (rest := [.double (kp (I 261 c) (D (321 + ((2 * t) + 1)) j)), .int (bi eb)]) (d' := 1) (mc' := 0) (ms' := 0) d263_104 (cv10_250 263 rfl) rfl rfl (by omega) (Nat.le_of_ble_eq_true rfl) (Nat.le_of_ble_eq_true rfl) (Nat.le_refl _) (Nat.le_refl _) ?_
    refine c171 (v5 h1fc) (v4 h1fc) ?_
    show j_W 263 d 0 0 0 0 107 [some (.ref 260), some (.int (nI t)), some (.int 1), some (.int (nI c)), some (.int (nI h)), some (.int (nI i)), some (.int (bi eb)), some (.int (nI j))] [.double (kp (I 261 c) (D (321 + ((2 * t) + 1)) i)), .double (kp (I 261 c) (D (321 + ((2 * t) + 1)) j)), .int (bi eb)] w1 (I, D, RR R) Q
    refine q_dcmp d263_107 ?_
    refine q_if_eq (tgt := 115) d263_108 rfl (fun h3t => ?_) (fun h3f => ?_)
    ·
      have h3tc : deq (kp (I 261 c) (D (321 + ((2 * t) + 1)) j)) (kp (I 261 c) (D (321 + ((2 * t) + 1)) i)) = true := dc_l_eq_t h3t
      refine q_iconst (v := 0) (by decide) d263_115 ?_
      refine q_iand d263_116 ?_
      refine q_istore (L' := [some (.ref 260), some (.int (nI t)), some (.int 1), some (.int (nI c)), some (.int (nI h)), some (.int (nI i)), some (.int ((bi eb) &&& 0)), some (.int (nI j))]) d263_117 (Nat.le_of_ble_eq_true rfl) rfl ?_
      refine q_iinc (L' := [some (.ref 260), some (.int (nI t)), some (.int 1), some (.int (nI c)), some (.int (nI h)), some (.int (nI i)), some (.int ((bi eb) &&& 0)), some (.int (nI (j + 1)))]) (v := (nI (j + 1))) d263_119 rfl (nI_inc _) rfl ?_
      refine q_goto (tgt := 54) d263_122 rfl ?_
      exact r_sub (L' := [some (.ref 260), some (.int (nI t)), some (.int 1), some (.int (nI c)), some (.int (nI h)), some (.int (nI i)), some (.int ((bi eb) &&& 0)), some (.int (nI (j + 1)))]) ⟨rfl, rfl, rfl, rfl, rfl, rfl, rfl, rfl, trivial⟩ (v6 h1fc h3tc)
    ·
      have h3fc : deq (kp (I 261 c) (D (321 + ((2 * t) + 1)) j)) (kp (I 261 c) (D (321 + ((2 * t) + 1)) i)) = false := dc_l_eq_f h3f
      refine q_iconst (v := 1) (by decide) d263_111 ?_
      refine q_goto (tgt := 116) d263_112 rfl ?_
      refine q_iand d263_116 ?_
      refine q_istore (L' := [some (.ref 260), some (.int (nI t)), some (.int 1), some (.int (nI c)), some (.int (nI h)), some (.int (nI i)), some (.int ((bi eb) &&& 1)), some (.int (nI j))]) d263_117 (Nat.le_of_ble_eq_true rfl) rfl ?_
      refine q_iinc (L' := [some (.ref 260), some (.int (nI t)), some (.int 1), some (.int (nI c)), some (.int (nI h)), some (.int (nI i)), some (.int ((bi eb) &&& 1)), some (.int (nI (j + 1)))]) (v := (nI (j + 1))) d263_119 rfl (nI_inc _) rfl ?_
      refine q_goto (tgt := 54) d263_122 rfl ?_
      exact r_sub (L' := [some (.ref 260), some (.int (nI t)), some (.int 1), some (.int (nI c)), some (.int (nI h)), some (.int (nI i)), some (.int ((bi eb) &&& 1)), some (.int (nI (j + 1)))]) ⟨rfl, rfl, rfl, rfl, rfl, rfl, rfl, rfl, trivial⟩ (v7 h1fc h3fc)

