/-! the class looks at a word -/
set_option maxRecDepth 10000 in
set_option maxHeartbeats 4000000 in
theorem s70e {d : Nat} {I : Nat → Nat → Int32} {D : Nat → Nat → UInt64} {R : Nat → Nat → Option Nat} {Q : j_Po}  {T : Nat → Nat} {n b : Nat} (hT : TC T n I) (hb : I 97 3 = nI b) (hd : 5 ≤ d)
    (v1 : j_W 70 d 0 0 0 0 5 [some (.ref 97), some (.int (nI b))] [] w1 (I, D, RR R) Q) : j_Call d 70 [.ref 97] w1 (I, D, RR R) 0 0 Q := by
  refine q_enter (L := [some (.ref 97), none]) j_m70 (Nat.le_of_ble_eq_true rfl) rfl ?_
  refine q_aload_n d70_0 rfl ?_
  refine q_getI d70_1 (fs5_48 70 rfl) rfl (lt_w1 rfl) sh97 ?_
  refine r_int (y := (nI b)) (show I 97 3 = (nI b) from hb) ?_
  refine q_istore_n (L' := [some (.ref 97), some (.int (nI b))]) d70_4 (Nat.le_of_ble_eq_true rfl) rfl ?_
  exact r_sub (L' := [some (.ref 97), some (.int (nI b))]) ⟨rfl, rfl, trivial⟩ v1

set_option maxRecDepth 10000 in
set_option maxHeartbeats 4000000 in
theorem s70h {d : Nat} {I : Nat → Nat → Int32} {D : Nat → Nat → UInt64} {R : Nat → Nat → Option Nat} {Q : j_Po} {k : Nat} {T : Nat → Nat} {n b : Nat} (hT : TC T n I) (hb : I 97 3 = nI b) (hk : k ≤ n) (hbk : b ≤ k) (hn9 : n ≤ 96) (hd : 5 ≤ d)
    (v1 : (n ≤ k) → j_W 70 d 0 0 0 0 31 [some (.ref 97), some (.int (nI k))] [] w1 (I, D, RR R) Q)
    (v2 : (¬ n ≤ k) → (T k) < 256)
    (v3 : (¬ n ≤ k) → (isLt (T k)) → j_W 70 d 0 0 0 0 5 [some (.ref 97), some (.int (nI (k + 1)))] [] w1 (I, D, RR R) Q)
    (v4 : (¬ n ≤ k) → (¬ isLt (T k)) → j_W 70 d 0 0 0 0 31 [some (.ref 97), some (.int (nI k))] [] w1 (I, D, RR R) Q) : j_W 70 d 0 0 0 0 5 [some (.ref 97), some (.int (nI k))] [] w1 (I, D, RR R) Q := by
  refine q_iload_n d70_5 rfl ?_
  refine q_aload_n d70_6 rfl ?_
  refine q_getI d70_7 (fs5_22 70 rfl) rfl (lt_w1 rfl) sh97 ?_
  refine r_int (y := (nI n)) (show I 97 1 = (nI n) from hT.2.1) ?_
  refine q_icmp_ge (tgt := 31) d70_10 rfl (fun h1t => ?_) (fun h1f => ?_)
  ·
    have h1tc : n ≤ k := (nI_leI (by omega) (by omega)).mp h1t
    exact r_sub (L' := [some (.ref 97), some (.int (nI k))]) ⟨rfl, rfl, trivial⟩ (v1 h1tc)
  ·
    have h1fc : ¬ n ≤ k := mt (nI_leI (by omega) (by omega)).mpr h1f
    refine q_aload_n d70_13 rfl ?_
    refine q_getR (x := 98) d70_14 (fs5_9 70 rfl) rfl (lt_w1 rfl) sh97 (rs97_0 R) (by decide) ?_
    refine q_iload_n d70_17 rfl ?_
    refine q_iaload (a := k) d70_18 (lt_w1 rfl) sh98 rfl (by omega) ?_
    refine r_int (y := nI (T k)) (hT.2.2 k (by omega)).2 ?_
    refine q_invS (av := [.int (nI (T k))]) (rest := []) (d' := 0) (mc' := 0) (ms' := 0) d70_19 (cv5_93 70 rfl) rfl rfl (by omega) (Nat.le_of_ble_eq_true rfl) (Nat.le_of_ble_eq_true rfl) (Nat.le_refl _) (Nat.le_refl _) ?_
    refine c69n (v2 h1fc) (fun h2 => ?_) (fun h2 => ?_)
    ·
      show j_W 70 d 0 0 0 0 22 [some (.ref 97), some (.int (nI k))] [.int 1] w1 (I, D, RR R) Q
      refine q_if_eq (tgt := 31) d70_22 rfl (fun h => absurd h (by decide)) (fun _ => ?_)
      refine q_iinc (L' := [some (.ref 97), some (.int (nI (k + 1)))]) (v := (nI (k + 1))) d70_25 rfl (nI_inc _) rfl ?_
      refine q_goto (tgt := 5) d70_28 rfl ?_
      exact r_sub (L' := [some (.ref 97), some (.int (nI (k + 1)))]) ⟨rfl, rfl, trivial⟩ (v3 h1fc h2)
    ·
      show j_W 70 d 0 0 0 0 22 [some (.ref 97), some (.int (nI k))] [.int 0] w1 (I, D, RR R) Q
      refine q_if_eq (tgt := 31) d70_22 rfl (fun _ => ?_) (fun h => absurd h (by decide))
      exact r_sub (L' := [some (.ref 97), some (.int (nI k))]) ⟨rfl, rfl, trivial⟩ (v4 h1fc h2)

set_option maxRecDepth 10000 in
set_option maxHeartbeats 4000000 in
theorem s70x {d : Nat} {I : Nat → Nat → Int32} {D : Nat → Nat → UInt64} {R : Nat → Nat → Option Nat} {Q : j_Po} {k : Nat} {T : Nat → Nat} {n b : Nat} (hT : TC T n I) (hb : I 97 3 = nI b) (hk : k ≤ n) (hbk : b < k) (hbn : b < n) (hn9 : n ≤ 96) (hd : 5 ≤ d)
    (v1 : (¬ ((nI k) - (nI b)) = 1) → TC T n (j_u (j_u I 97 4 (nI k)) 97 5 260))
    (v2 : (¬ ((nI k) - (nI b)) = 1) → (j_u (j_u I 97 4 (nI k)) 97 5 260) 97 3 = nI b)
    (v3 : (¬ ((nI k) - (nI b)) = 1) → (j_u (j_u I 97 4 (nI k)) 97 5 260) 97 4 = nI k)
    (v4 : (¬ ((nI k) - (nI b)) = 1) → b ≤ k)
    (v5 : (¬ ((nI k) - (nI b)) = 1) → k ≤ n)
    (v6 : (¬ ((nI k) - (nI b)) = 1) → 4 ≤ 4)
    (v7 : (¬ ((nI k) - (nI b)) = 1) → (WM T b k 0) → Q none w1 ((j_u (j_u (j_u I 97 4 (nI k)) 97 5 260) 97 6 12), D, RR R))
    (v8 : (¬ ((nI k) - (nI b)) = 1) → (¬ WM T b k 0) → (WM T b k 1) → Q none w1 ((j_u (j_u (j_u I 97 4 (nI k)) 97 5 260) 97 6 10), D, RR R))
    (v9 : (¬ ((nI k) - (nI b)) = 1) → (¬ WM T b k 0) → (¬ WM T b k 1) → (WM T b k 2) → Q none w1 ((j_u (j_u (j_u I 97 4 (nI k)) 97 5 260) 97 6 11), D, RR R))
    (v10 : (¬ ((nI k) - (nI b)) = 1) → (¬ WM T b k 0) → (¬ WM T b k 1) → (¬ WM T b k 2) → TC T n (j_u (j_u (j_u I 97 4 (nI k)) 97 5 260) 97 5 261))
    (v11 : (¬ ((nI k) - (nI b)) = 1) → (¬ WM T b k 0) → (¬ WM T b k 1) → (¬ WM T b k 2) → (j_u (j_u (j_u I 97 4 (nI k)) 97 5 260) 97 5 261) 97 3 = nI b)
    (v12 : (¬ ((nI k) - (nI b)) = 1) → (¬ WM T b k 0) → (¬ WM T b k 1) → (¬ WM T b k 2) → (j_u (j_u (j_u I 97 4 (nI k)) 97 5 260) 97 5 261) 97 4 = nI k)
    (v13 : (¬ ((nI k) - (nI b)) = 1) → (¬ WM T b k 0) → (¬ WM T b k 1) → (¬ WM T b k 2) → (WM T b k 3) → Q none w1 ((j_u (j_u (j_u (j_u I 97 4 (nI k)) 97 5 260) 97 5 261) 97 6 0), D, RR R))
    (v14 : (¬ ((nI k) - (nI b)) = 1) → (¬ WM T b k 0) → (¬ WM T b k 1) → (¬ WM T b k 2) → (¬ WM T b k 3) → (WM T b k 4) → Q none w1 ((j_u (j_u (j_u (j_u I 97 4 (nI k)) 97 5 260) 97 5 261) 97 6 1), D, RR R))
    (v15 : (¬ ((nI k) - (nI b)) = 1) → (¬ WM T b k 0) → (¬ WM T b k 1) → (¬ WM T b k 2) → (¬ WM T b k 3) → (¬ WM T b k 4) → (WM T b k 5) → Q none w1 ((j_u (j_u (j_u (j_u I 97 4 (nI k)) 97 5 260) 97 5 261) 97 6 2), D, RR R))
    (v16 : (¬ ((nI k) - (nI b)) = 1) → (¬ WM T b k 0) → (¬ WM T b k 1) → (¬ WM T b k 2) → (¬ WM T b k 3) → (¬ WM T b k 4) → (¬ WM T b k 5) → (WM T b k 6) → Q none w1 ((j_u (j_u (j_u (j_u I 97 4 (nI k)) 97 5 260) 97 5 261) 97 6 3), D, RR R))
    (v17 : (¬ ((nI k) - (nI b)) = 1) → (¬ WM T b k 0) → (¬ WM T b k 1) → (¬ WM T b k 2) → (¬ WM T b k 3) → (¬ WM T b k 4) → (¬ WM T b k 5) → (¬ WM T b k 6) → (WM T b k 7) → Q none w1 ((j_u (j_u (j_u (j_u I 97 4 (nI k)) 97 5 260) 97 5 261) 97 6 4), D, RR R))
    (v18 : (¬ ((nI k) - (nI b)) = 1) → (¬ WM T b k 0) → (¬ WM T b k 1) → (¬ WM T b k 2) → (¬ WM T b k 3) → (¬ WM T b k 4) → (¬ WM T b k 5) → (¬ WM T b k 6) → (¬ WM T b k 7) → Q none w1 ((j_u (j_u (j_u (j_u I 97 4 (nI k)) 97 5 260) 97 5 261) 97 5 262), D, RR R))
    (v19 : (((nI k) - (nI b)) = 1) → (24 ≤ ((nI (T b)) - 97)) → Q none w1 ((j_u (j_u (j_u I 97 4 (nI k)) 97 6 ((nI (T b)) - 97)) 97 5 262), D, RR R))
    (v20 : (((nI k) - (nI b)) = 1) → (¬ 24 ≤ ((nI (T b)) - 97)) → Q none w1 ((j_u (j_u (j_u I 97 4 (nI k)) 97 6 ((nI (T b)) - 97)) 97 5 259), D, RR R)) : j_W 70 d 0 0 0 0 31 [some (.ref 97), some (.int (nI k))] [] w1 (I, D, RR R) Q := by
  refine q_aload_n d70_31 rfl ?_
  refine q_iload_n d70_32 rfl ?_
  refine q_putI d70_33 (fs5_32 70 rfl) (Or.inl rfl) rfl (lt_w1 rfl) sh97 ?_
  refine q_iload_n d70_36 rfl ?_
  refine q_aload_n d70_37 rfl ?_
  refine q_getI d70_38 (fs5_48 70 rfl) rfl (lt_w1 rfl) sh97 ?_
  refine r_int (y := (nI b)) (show (j_u I 97 4 (nI k)) 97 3 = (nI b) from ((j_u_k _ _ (by decide)).trans hb)) ?_
  refine q_isub d70_41 ?_
  refine q_iconst (v := 1) (by decide) d70_42 ?_
  refine q_icmp_ne (tgt := 85) d70_43 rfl (fun h1t => ?_) (fun h1f => ?_)
  ·
    refine q_aload_n d70_85 rfl ?_
    refine q_sipush (v := 260) (by decide) d70_86 ?_
    refine q_putI d70_89 (fs5_42 70 rfl) (Or.inl rfl) rfl (lt_w1 rfl) sh97 ?_
    refine q_aload_n d70_92 rfl ?_
    refine q_ldcS (q := 0) d70_93 (by decide) (by decide +kernel) ?_
    refine q_invV (o := 97) (ci := 5) (av := [.ref (1000000 + 2 * 0)]) (rest := []) (d' := 4) (mc' := 0) (ms' := 0) d70_95 (cv5_110 70 rfl) rfl (by decide) rfl rfl (by omega) (Nat.le_of_ble_eq_true rfl) (Nat.le_of_ble_eq_true rfl) (lt_w1 rfl) sh97 (Nat.le_refl _) (Nat.le_refl _) ?_
    refine c71 (T := T) (n := n) (b := b) (e := k) (by decide) (v1 h1t) (v2 h1t) (v3 h1t) (v4 h1t) (v5 h1t) (v6 h1t) (fun h2 => ?_) (fun h2 => ?_)
    ·
      show j_W 70 d 0 0 0 0 98 [some (.ref 97), some (.int (nI k))] [.int 1] w1 ((j_u (j_u I 97 4 (nI k)) 97 5 260), D, RR R) Q
      refine q_if_eq (tgt := 110) d70_98 rfl (fun h => absurd h (by decide)) (fun _ => ?_)
      refine q_aload_n d70_101 rfl ?_
      refine q_bipush (v := 12) (by decide) d70_102 ?_
      refine q_putI d70_104 (fs5_68 70 rfl) (Or.inl rfl) rfl (lt_w1 rfl) sh97 ?_
      refine q_goto (tgt := 153) d70_107 rfl ?_
      refine q_aload_n d70_153 rfl ?_
      refine q_getI d70_154 (fs5_42 70 rfl) rfl (lt_w1 rfl) sh97 ?_
      refine r_int (y := 260) (show (j_u (j_u (j_u I 97 4 (nI k)) 97 5 260) 97 6 12) 97 5 = 260 from ((j_u_k _ _ (by decide)).trans (j_u_same _ _ _ _))) ?_
      refine q_sipush (v := 260) (by decide) d70_157 ?_
      refine q_icmp_ne (tgt := 164) d70_160 rfl (fun h => absurd h (by decide)) (fun _ => ?_)
      exact q_ret d70_163 rfl (Nat.le_refl _) (Nat.le_refl _) (v7 h1t h2)
    ·
      show j_W 70 d 0 0 0 0 98 [some (.ref 97), some (.int (nI k))] [.int 0] w1 ((j_u (j_u I 97 4 (nI k)) 97 5 260), D, RR R) Q
      refine q_if_eq (tgt := 110) d70_98 rfl (fun _ => ?_) (fun h => absurd h (by decide))
      refine q_aload_n d70_110 rfl ?_
      refine q_ldcS (q := 1) d70_111 (by decide) (by decide +kernel) ?_
      refine q_invV (o := 97) (ci := 5) (av := [.ref (1000000 + 2 * 1)]) (rest := []) (d' := 4) (mc' := 0) (ms' := 0) d70_113 (cv5_110 70 rfl) rfl (by decide) rfl rfl (by omega) (Nat.le_of_ble_eq_true rfl) (Nat.le_of_ble_eq_true rfl) (lt_w1 rfl) sh97 (Nat.le_refl _) (Nat.le_refl _) ?_
      refine c71 (T := T) (n := n) (b := b) (e := k) (by decide) (v1 h1t) (v2 h1t) (v3 h1t) (v4 h1t) (v5 h1t) (v6 h1t) (fun h3 => ?_) (fun h3 => ?_)
      ·
        show j_W 70 d 0 0 0 0 116 [some (.ref 97), some (.int (nI k))] [.int 1] w1 ((j_u (j_u I 97 4 (nI k)) 97 5 260), D, RR R) Q
        refine q_if_eq (tgt := 128) d70_116 rfl (fun h => absurd h (by decide)) (fun _ => ?_)
        refine q_aload_n d70_119 rfl ?_
        refine q_bipush (v := 10) (by decide) d70_120 ?_
        refine q_putI d70_122 (fs5_68 70 rfl) (Or.inl rfl) rfl (lt_w1 rfl) sh97 ?_
        refine q_goto (tgt := 153) d70_125 rfl ?_
        refine q_aload_n d70_153 rfl ?_
        refine q_getI d70_154 (fs5_42 70 rfl) rfl (lt_w1 rfl) sh97 ?_
        refine r_int (y := 260) (show (j_u (j_u (j_u I 97 4 (nI k)) 97 5 260) 97 6 10) 97 5 = 260 from ((j_u_k _ _ (by decide)).trans (j_u_same _ _ _ _))) ?_
        refine q_sipush (v := 260) (by decide) d70_157 ?_
        refine q_icmp_ne (tgt := 164) d70_160 rfl (fun h => absurd h (by decide)) (fun _ => ?_)
        exact q_ret d70_163 rfl (Nat.le_refl _) (Nat.le_refl _) (v8 h1t h2 h3)
      ·
        show j_W 70 d 0 0 0 0 116 [some (.ref 97), some (.int (nI k))] [.int 0] w1 ((j_u (j_u I 97 4 (nI k)) 97 5 260), D, RR R) Q
        refine q_if_eq (tgt := 128) d70_116 rfl (fun _ => ?_) (fun h => absurd h (by decide))
        refine q_aload_n d70_128 rfl ?_
        refine q_ldcS (q := 2) d70_129 (by decide) (by decide +kernel) ?_
        refine q_invV (o := 97) (ci := 5) (av := [.ref (1000000 + 2 * 2)]) (rest := []) (d' := 4) (mc' := 0) (ms' := 0) d70_131 (cv5_110 70 rfl) rfl (by decide) rfl rfl (by omega) (Nat.le_of_ble_eq_true rfl) (Nat.le_of_ble_eq_true rfl) (lt_w1 rfl) sh97 (Nat.le_refl _) (Nat.le_refl _) ?_
        refine c71 (T := T) (n := n) (b := b) (e := k) (by decide) (v1 h1t) (v2 h1t) (v3 h1t) (v4 h1t) (v5 h1t) (v6 h1t) (fun h4 => ?_) (fun h4 => ?_)
        ·
          show j_W 70 d 0 0 0 0 134 [some (.ref 97), some (.int (nI k))] [.int 1] w1 ((j_u (j_u I 97 4 (nI k)) 97 5 260), D, RR R) Q
          refine q_if_eq (tgt := 146) d70_134 rfl (fun h => absurd h (by decide)) (fun _ => ?_)
          refine q_aload_n d70_137 rfl ?_
          refine q_bipush (v := 11) (by decide) d70_138 ?_
          refine q_putI d70_140 (fs5_68 70 rfl) (Or.inl rfl) rfl (lt_w1 rfl) sh97 ?_
          refine q_goto (tgt := 153) d70_143 rfl ?_
          refine q_aload_n d70_153 rfl ?_
          refine q_getI d70_154 (fs5_42 70 rfl) rfl (lt_w1 rfl) sh97 ?_
          refine r_int (y := 260) (show (j_u (j_u (j_u I 97 4 (nI k)) 97 5 260) 97 6 11) 97 5 = 260 from ((j_u_k _ _ (by decide)).trans (j_u_same _ _ _ _))) ?_
          refine q_sipush (v := 260) (by decide) d70_157 ?_
          refine q_icmp_ne (tgt := 164) d70_160 rfl (fun h => absurd h (by decide)) (fun _ => ?_)
          exact q_ret d70_163 rfl (Nat.le_refl _) (Nat.le_refl _) (v9 h1t h2 h3 h4)
        ·
          show j_W 70 d 0 0 0 0 134 [some (.ref 97), some (.int (nI k))] [.int 0] w1 ((j_u (j_u I 97 4 (nI k)) 97 5 260), D, RR R) Q
          refine q_if_eq (tgt := 146) d70_134 rfl (fun _ => ?_) (fun h => absurd h (by decide))
          refine q_aload_n d70_146 rfl ?_
          refine q_sipush (v := 261) (by decide) d70_147 ?_
          refine q_putI d70_150 (fs5_42 70 rfl) (Or.inl rfl) rfl (lt_w1 rfl) sh97 ?_
          refine q_aload_n d70_153 rfl ?_
          refine q_getI d70_154 (fs5_42 70 rfl) rfl (lt_w1 rfl) sh97 ?_
          refine r_int (y := 261) (show (j_u (j_u (j_u I 97 4 (nI k)) 97 5 260) 97 5 261) 97 5 = 261 from (j_u_same _ _ _ _)) ?_
          refine q_sipush (v := 260) (by decide) d70_157 ?_
          refine q_icmp_ne (tgt := 164) d70_160 rfl (fun _ => ?_) (fun h => absurd h (by decide))
          refine q_aload_n d70_164 rfl ?_
          refine q_ldcS (q := 3) d70_165 (by decide) (by decide +kernel) ?_
          refine q_invV (o := 97) (ci := 5) (av := [.ref (1000000 + 2 * 3)]) (rest := []) (d' := 4) (mc' := 0) (ms' := 0) d70_167 (cv5_110 70 rfl) rfl (by decide) rfl rfl (by omega) (Nat.le_of_ble_eq_true rfl) (Nat.le_of_ble_eq_true rfl) (lt_w1 rfl) sh97 (Nat.le_refl _) (Nat.le_refl _) ?_
          refine c71 (T := T) (n := n) (b := b) (e := k) (by decide) (v10 h1t h2 h3 h4) (v11 h1t h2 h3 h4) (v12 h1t h2 h3 h4) (v4 h1t) (v5 h1t) (v6 h1t) (fun h5 => ?_) (fun h5 => ?_)
          ·
            show j_W 70 d 0 0 0 0 170 [some (.ref 97), some (.int (nI k))] [.int 1] w1 ((j_u (j_u (j_u I 97 4 (nI k)) 97 5 260) 97 5 261), D, RR R) Q
            refine q_if_eq (tgt := 181) d70_170 rfl (fun h => absurd h (by decide)) (fun _ => ?_)
            refine q_aload_n d70_173 rfl ?_
            refine q_iconst (v := 0) (by decide) d70_174 ?_
            refine q_putI d70_175 (fs5_68 70 rfl) (Or.inl rfl) rfl (lt_w1 rfl) sh97 ?_
            refine q_goto (tgt := 256) d70_178 rfl ?_
            exact q_ret d70_256 rfl (Nat.le_refl _) (Nat.le_refl _) (v13 h1t h2 h3 h4 h5)
          ·
            show j_W 70 d 0 0 0 0 170 [some (.ref 97), some (.int (nI k))] [.int 0] w1 ((j_u (j_u (j_u I 97 4 (nI k)) 97 5 260) 97 5 261), D, RR R) Q
            refine q_if_eq (tgt := 181) d70_170 rfl (fun _ => ?_) (fun h => absurd h (by decide))
            refine q_aload_n d70_181 rfl ?_
            refine q_ldcS (q := 4) d70_182 (by decide) (by decide +kernel) ?_
            refine q_invV (o := 97) (ci := 5) (av := [.ref (1000000 + 2 * 4)]) (rest := []) (d' := 4) (mc' := 0) (ms' := 0) d70_184 (cv5_110 70 rfl) rfl (by decide) rfl rfl (by omega) (Nat.le_of_ble_eq_true rfl) (Nat.le_of_ble_eq_true rfl) (lt_w1 rfl) sh97 (Nat.le_refl _) (Nat.le_refl _) ?_
            refine c71 (T := T) (n := n) (b := b) (e := k) (by decide) (v10 h1t h2 h3 h4) (v11 h1t h2 h3 h4) (v12 h1t h2 h3 h4) (v4 h1t) (v5 h1t) (v6 h1t) (fun h6 => ?_) (fun h6 => ?_)
            ·
              show j_W 70 d 0 0 0 0 187 [some (.ref 97), some (.int (nI k))] [.int 1] w1 ((j_u (j_u (j_u I 97 4 (nI k)) 97 5 260) 97 5 261), D, RR R) Q
              refine q_if_eq (tgt := 198) d70_187 rfl (fun h => absurd h (by decide)) (fun _ => ?_)
              refine q_aload_n d70_190 rfl ?_
              refine q_iconst (v := 1) (by decide) d70_191 ?_
              refine q_putI d70_192 (fs5_68 70 rfl) (Or.inl rfl) rfl (lt_w1 rfl) sh97 ?_
              refine q_goto (tgt := 256) d70_195 rfl ?_
              exact q_ret d70_256 rfl (Nat.le_refl _) (Nat.le_refl _) (v14 h1t h2 h3 h4 h5 h6)
            ·
              show j_W 70 d 0 0 0 0 187 [some (.ref 97), some (.int (nI k))] [.int 0] w1 ((j_u (j_u (j_u I 97 4 (nI k)) 97 5 260) 97 5 261), D, RR R) Q
              refine q_if_eq (tgt := 198) d70_187 rfl (fun _ => ?_) (fun h => absurd h (by decide))
              refine q_aload_n d70_198 rfl ?_
              refine q_ldcS (q := 5) d70_199 (by decide) (by decide +kernel) ?_
              refine q_invV (o := 97) (ci := 5) (av := [.ref (1000000 + 2 * 5)]) (rest := []) (d' := 4) (mc' := 0) (ms' := 0) d70_201 (cv5_110 70 rfl) rfl (by decide) rfl rfl (by omega) (Nat.le_of_ble_eq_true rfl) (Nat.le_of_ble_eq_true rfl) (lt_w1 rfl) sh97 (Nat.le_refl _) (Nat.le_refl _) ?_
              refine c71 (T := T) (n := n) (b := b) (e := k) (by decide) (v10 h1t h2 h3 h4) (v11 h1t h2 h3 h4) (v12 h1t h2 h3 h4) (v4 h1t) (v5 h1t) (v6 h1t) (fun h7 => ?_) (fun h7 => ?_)
              ·
                show j_W 70 d 0 0 0 0 204 [some (.ref 97), some (.int (nI k))] [.int 1] w1 ((j_u (j_u (j_u I 97 4 (nI k)) 97 5 260) 97 5 261), D, RR R) Q
                refine q_if_eq (tgt := 215) d70_204 rfl (fun h => absurd h (by decide)) (fun _ => ?_)
                refine q_aload_n d70_207 rfl ?_
                refine q_iconst (v := 2) (by decide) d70_208 ?_
                refine q_putI d70_209 (fs5_68 70 rfl) (Or.inl rfl) rfl (lt_w1 rfl) sh97 ?_
                refine q_goto (tgt := 256) d70_212 rfl ?_
                exact q_ret d70_256 rfl (Nat.le_refl _) (Nat.le_refl _) (v15 h1t h2 h3 h4 h5 h6 h7)
              ·
                show j_W 70 d 0 0 0 0 204 [some (.ref 97), some (.int (nI k))] [.int 0] w1 ((j_u (j_u (j_u I 97 4 (nI k)) 97 5 260) 97 5 261), D, RR R) Q
                refine q_if_eq (tgt := 215) d70_204 rfl (fun _ => ?_) (fun h => absurd h (by decide))
                refine q_aload_n d70_215 rfl ?_
                refine q_ldcS (q := 6) d70_216 (by decide) (by decide +kernel) ?_
                refine q_invV (o := 97) (ci := 5) (av := [.ref (1000000 + 2 * 6)]) (rest := []) (d' := 4) (mc' := 0) (ms' := 0) d70_218 (cv5_110 70 rfl) rfl (by decide) rfl rfl (by omega) (Nat.le_of_ble_eq_true rfl) (Nat.le_of_ble_eq_true rfl) (lt_w1 rfl) sh97 (Nat.le_refl _) (Nat.le_refl _) ?_
                refine c71 (T := T) (n := n) (b := b) (e := k) (by decide) (v10 h1t h2 h3 h4) (v11 h1t h2 h3 h4) (v12 h1t h2 h3 h4) (v4 h1t) (v5 h1t) (v6 h1t) (fun h8 => ?_) (fun h8 => ?_)
                ·
                  show j_W 70 d 0 0 0 0 221 [some (.ref 97), some (.int (nI k))] [.int 1] w1 ((j_u (j_u (j_u I 97 4 (nI k)) 97 5 260) 97 5 261), D, RR R) Q
                  refine q_if_eq (tgt := 232) d70_221 rfl (fun h => absurd h (by decide)) (fun _ => ?_)
                  refine q_aload_n d70_224 rfl ?_
                  refine q_iconst (v := 3) (by decide) d70_225 ?_
                  refine q_putI d70_226 (fs5_68 70 rfl) (Or.inl rfl) rfl (lt_w1 rfl) sh97 ?_
                  refine q_goto (tgt := 256) d70_229 rfl ?_
                  exact q_ret d70_256 rfl (Nat.le_refl _) (Nat.le_refl _) (v16 h1t h2 h3 h4 h5 h6 h7 h8)
                ·
                  show j_W 70 d 0 0 0 0 221 [some (.ref 97), some (.int (nI k))] [.int 0] w1 ((j_u (j_u (j_u I 97 4 (nI k)) 97 5 260) 97 5 261), D, RR R) Q
                  refine q_if_eq (tgt := 232) d70_221 rfl (fun _ => ?_) (fun h => absurd h (by decide))
                  refine q_aload_n d70_232 rfl ?_
                  refine q_ldcS (q := 7) d70_233 (by decide) (by decide +kernel) ?_
                  refine q_invV (o := 97) (ci := 5) (av := [.ref (1000000 + 2 * 7)]) (rest := []) (d' := 4) (mc' := 0) (ms' := 0) d70_235 (cv5_110 70 rfl) rfl (by decide) rfl rfl (by omega) (Nat.le_of_ble_eq_true rfl) (Nat.le_of_ble_eq_true rfl) (lt_w1 rfl) sh97 (Nat.le_refl _) (Nat.le_refl _) ?_
                  refine c71 (T := T) (n := n) (b := b) (e := k) (by decide) (v10 h1t h2 h3 h4) (v11 h1t h2 h3 h4) (v12 h1t h2 h3 h4) (v4 h1t) (v5 h1t) (v6 h1t) (fun h9 => ?_) (fun h9 => ?_)
                  ·
                    show j_W 70 d 0 0 0 0 238 [some (.ref 97), some (.int (nI k))] [.int 1] w1 ((j_u (j_u (j_u I 97 4 (nI k)) 97 5 260) 97 5 261), D, RR R) Q
                    refine q_if_eq (tgt := 249) d70_238 rfl (fun h => absurd h (by decide)) (fun _ => ?_)
                    refine q_aload_n d70_241 rfl ?_
                    refine q_iconst (v := 4) (by decide) d70_242 ?_
                    refine q_putI d70_243 (fs5_68 70 rfl) (Or.inl rfl) rfl (lt_w1 rfl) sh97 ?_
                    refine q_goto (tgt := 256) d70_246 rfl ?_
                    exact q_ret d70_256 rfl (Nat.le_refl _) (Nat.le_refl _) (v17 h1t h2 h3 h4 h5 h6 h7 h8 h9)
                  ·
                    show j_W 70 d 0 0 0 0 238 [some (.ref 97), some (.int (nI k))] [.int 0] w1 ((j_u (j_u (j_u I 97 4 (nI k)) 97 5 260) 97 5 261), D, RR R) Q
                    refine q_if_eq (tgt := 249) d70_238 rfl (fun _ => ?_) (fun h => absurd h (by decide))
                    refine q_aload_n d70_249 rfl ?_
                    refine q_sipush (v := 262) (by decide) d70_250 ?_
                    refine q_putI d70_253 (fs5_42 70 rfl) (Or.inl rfl) rfl (lt_w1 rfl) sh97 ?_
                    exact q_ret d70_256 rfl (Nat.le_refl _) (Nat.le_refl _) (v18 h1t h2 h3 h4 h5 h6 h7 h8 h9)
  ·
    refine q_aload_n d70_46 rfl ?_
    refine q_aload_n d70_47 rfl ?_
    refine q_getR (x := 98) d70_48 (fs5_9 70 rfl) rfl (lt_w1 rfl) sh97 (rs97_0 R) (by decide) ?_
    refine q_aload_n d70_51 rfl ?_
    refine q_getI d70_52 (fs5_48 70 rfl) rfl (lt_w1 rfl) sh97 ?_
    refine r_int (y := (nI b)) (show (j_u I 97 4 (nI k)) 97 3 = (nI b) from ((j_u_k _ _ (by decide)).trans hb)) ?_
    refine q_iaload (a := b) d70_55 (lt_w1 rfl) sh98 rfl (by omega) ?_
    refine r_int (y := (I 98 b)) (show (j_u I 97 4 (nI k)) 98 b = (I 98 b) from (j_u_o _ _ _ (by decide))) ?_
    refine r_int (y := nI (T b)) (hT.2.2 b (by omega)).2 ?_
    refine q_bipush (v := 97) (by decide) d70_56 ?_
    refine q_isub d70_58 ?_
    refine q_putI d70_59 (fs5_68 70 rfl) (Or.inl rfl) rfl (lt_w1 rfl) sh97 ?_
    refine q_aload_n d70_62 rfl ?_
    refine q_aload_n d70_63 rfl ?_
    refine q_getI d70_64 (fs5_68 70 rfl) rfl (lt_w1 rfl) sh97 ?_
    refine r_int (y := ((nI (T b)) - 97)) (show (j_u (j_u I 97 4 (nI k)) 97 6 ((nI (T b)) - 97)) 97 6 = ((nI (T b)) - 97) from (j_u_same _ _ _ _)) ?_
    refine q_bipush (v := 24) (by decide) d70_67 ?_
    refine q_icmp_ge (tgt := 78) d70_69 rfl (fun h10t => ?_) (fun h10f => ?_)
    ·
      refine q_sipush (v := 262) (by decide) d70_78 ?_
      refine q_putI d70_81 (fs5_42 70 rfl) (Or.inl rfl) rfl (lt_w1 rfl) sh97 ?_
      exact q_ret d70_84 rfl (Nat.le_refl _) (Nat.le_refl _) (v19 h1f h10t)
    ·
      refine q_sipush (v := 259) (by decide) d70_72 ?_
      refine q_goto (tgt := 81) d70_75 rfl ?_
      refine q_putI d70_81 (fs5_42 70 rfl) (Or.inl rfl) rfl (lt_w1 rfl) sh97 ?_
      exact q_ret d70_84 rfl (Nat.le_refl _) (Nat.le_refl _) (v20 h1f h10f)

def wtok (q : Nat) : Nat × Nat := if q = 0 then (260, 12) else if q = 1 then (260, 10) else if q = 2 then (260, 11) else (261, q - 3)
def LxW (T : Nat → Nat) (n b e : Nat) (tk : Nat × Nat) : Prop := b < n ∧ isLt (T b) ∧ Run (fun j => j < n ∧ isLt (T j)) b e ∧ ((e = b + 1 ∧ T b < 121 ∧ tk = (259, T b - 97)) ∨ (e = b + 1 ∧ 121 ≤ T b ∧ tk = (262, 0)) ∨ (b + 1 < e ∧ ∃ q, q < 8 ∧ WM T b e q ∧ tk = wtok q) ∨ (b + 1 < e ∧ (∀ q, q < 8 → ¬ WM T b e q) ∧ tk = (262, 0)))
/-- the reader behind a look -/
def RS (I J : Nat → Nat → Int32) (e : Nat) (tk : Nat × Nat) : Prop := (∀ o, o ≠ 97 → J o = I o) ∧ (∀ i, i ≠ 4 → i ≠ 5 → i ≠ 6 → J 97 i = I 97 i) ∧ J 97 4 = nI e ∧ J 97 5 = nI tk.1 ∧ (257 ≤ tk.1 → tk.1 ≤ 261 → J 97 6 = nI tk.2)
theorem TC.cg {T : Nat → Nat} {n : Nat} {I J : Nat → Nat → Int32} (h : TC T n I) (h1 : J 97 1 = I 97 1) (h2 : J 98 = I 98) : TC T n J := ⟨h.1, by rw [h1]; exact h.2.1, fun k hk => by rw [h2]; exact h.2.2 k hk⟩
theorem c70 {d : Nat} {I : Nat → Nat → Int32} {D : Nat → Nat → UInt64} {R : Nat → Nat → Option Nat} {Q : j_Po} {T : Nat → Nat} {n b : Nat} (hT : TC T n I) (hb : I 97 3 = nI b) (hbn : b < n) (hlt : isLt (T b)) (hd : 5 ≤ d) (hq : ∀ J e tk, LxW T n b e tk → RS I J e tk → Q none w1 (J, D, RR R)) : j_Call d 70 [.ref 97] w1 (I, D, RR R) 0 0 Q := by
  have hn9 := hT.1
  have fin : ∀ k, k ≤ n → b < k → Run (fun j => j < n ∧ isLt (T j)) b k → j_W 70 d 0 0 0 0 31 [some (.ref 97), some (.int (nI k))] [] w1 (I, D, RR R) Q := fun k hk hbk hrun => by
    have hone : k = b + 1 ↔ ((nI k) - (nI b)) = 1 := by rw [pk_sub (by omega), show (1 : Int32) = nI 1 from rfl, nI_eq (by omega) (by omega)]; omega
    have hlo := hlt.1
    have hhi := hlt.2
    have h97 : (nI (T b)) - 97 = nI (T b - 97) := by rw [show (97 : Int32) = nI 97 from rfl, pk_sub (by omega)]
    have h24 : 24 ≤ ((nI (T b)) - 97) ↔ 121 ≤ T b := by rw [h97, show (24 : Int32) = nI 24 from rfl, nI_leI (by omega) (by omega)]; omega
    exact s70x hT hb hk hbk hbn hn9 hd (fun y1 => hT.cg (by simp (disch := decide) only [j_u_k, j_u_o]) (by funext i; simp (disch := decide) only [j_u_o])) (fun y1 => (by simp (disch := decide) only [j_u_k]; exact hb)) (fun y1 => (by simp (disch := decide) only [j_u_k, j_u_same])) (fun y1 => (by omega)) (fun y1 => hk) (fun y1 => Nat.le_refl _) (fun y1 y2 => hq _ k (260, 12) ⟨hbn, hlt, hrun, Or.inr (Or.inr (Or.inl ⟨by have := mt hone.mp y1; omega, 0, by decide, y2, rfl⟩))⟩ ⟨(fun o ho => by funext i; simp (disch := assumption) only [j_u_o]), (fun i h4 h5 h6 => by simp (disch := assumption) only [j_u_k]), (by simp (disch := decide) only [j_u_k, j_u_same]), (by simp (disch := decide) only [j_u_k, j_u_same]; rfl), fun _ _ => (by simp (disch := decide) only [j_u_k, j_u_same]; rfl)⟩) (fun y1 y2 y3 => hq _ k (260, 10) ⟨hbn, hlt, hrun, Or.inr (Or.inr (Or.inl ⟨by have := mt hone.mp y1; omega, 1, by decide, y3, rfl⟩))⟩ ⟨(fun o ho => by funext i; simp (disch := assumption) only [j_u_o]), (fun i h4 h5 h6 => by simp (disch := assumption) only [j_u_k]), (by simp (disch := decide) only [j_u_k, j_u_same]), (by simp (disch := decide) only [j_u_k, j_u_same]; rfl), fun _ _ => (by simp (disch := decide) only [j_u_k, j_u_same]; rfl)⟩) (fun y1 y2 y3 y4 => hq _ k (260, 11) ⟨hbn, hlt, hrun, Or.inr (Or.inr (Or.inl ⟨by have := mt hone.mp y1; omega, 2, by decide, y4, rfl⟩))⟩ ⟨(fun o ho => by funext i; simp (disch := assumption) only [j_u_o]), (fun i h4 h5 h6 => by simp (disch := assumption) only [j_u_k]), (by simp (disch := decide) only [j_u_k, j_u_same]), (by simp (disch := decide) only [j_u_k, j_u_same]; rfl), fun _ _ => (by simp (disch := decide) only [j_u_k, j_u_same]; rfl)⟩) (fun y1 y2 y3 y4 => hT.cg (by simp (disch := decide) only [j_u_k, j_u_o]) (by funext i; simp (disch := decide) only [j_u_o])) (fun y1 y2 y3 y4 => (by simp (disch := decide) only [j_u_k]; exact hb)) (fun y1 y2 y3 y4 => (by simp (disch := decide) only [j_u_k, j_u_same])) (fun y1 y2 y3 y4 y5 => hq _ k (261, 0) ⟨hbn, hlt, hrun, Or.inr (Or.inr (Or.inl ⟨by have := mt hone.mp y1; omega, 3, by decide, y5, rfl⟩))⟩ ⟨(fun o ho => by funext i; simp (disch := assumption) only [j_u_o]), (fun i h4 h5 h6 => by simp (disch := assumption) only [j_u_k]), (by simp (disch := decide) only [j_u_k, j_u_same]), (by simp (disch := decide) only [j_u_k, j_u_same]; rfl), fun _ _ => (by simp (disch := decide) only [j_u_k, j_u_same]; rfl)⟩) (fun y1 y2 y3 y4 y5 y6 => hq _ k (261, 1) ⟨hbn, hlt, hrun, Or.inr (Or.inr (Or.inl ⟨by have := mt hone.mp y1; omega, 4, by decide, y6, rfl⟩))⟩ ⟨(fun o ho => by funext i; simp (disch := assumption) only [j_u_o]), (fun i h4 h5 h6 => by simp (disch := assumption) only [j_u_k]), (by simp (disch := decide) only [j_u_k, j_u_same]), (by simp (disch := decide) only [j_u_k, j_u_same]; rfl), fun _ _ => (by simp (disch := decide) only [j_u_k, j_u_same]; rfl)⟩) (fun y1 y2 y3 y4 y5 y6 y7 => hq _ k (261, 2) ⟨hbn, hlt, hrun, Or.inr (Or.inr (Or.inl ⟨by have := mt hone.mp y1; omega, 5, by decide, y7, rfl⟩))⟩ ⟨(fun o ho => by funext i; simp (disch := assumption) only [j_u_o]), (fun i h4 h5 h6 => by simp (disch := assumption) only [j_u_k]), (by simp (disch := decide) only [j_u_k, j_u_same]), (by simp (disch := decide) only [j_u_k, j_u_same]; rfl), fun _ _ => (by simp (disch := decide) only [j_u_k, j_u_same]; rfl)⟩) (fun y1 y2 y3 y4 y5 y6 y7 y8 => hq _ k (261, 3) ⟨hbn, hlt, hrun, Or.inr (Or.inr (Or.inl ⟨by have := mt hone.mp y1; omega, 6, by decide, y8, rfl⟩))⟩ ⟨(fun o ho => by funext i; simp (disch := assumption) only [j_u_o]), (fun i h4 h5 h6 => by simp (disch := assumption) only [j_u_k]), (by simp (disch := decide) only [j_u_k, j_u_same]), (by simp (disch := decide) only [j_u_k, j_u_same]; rfl), fun _ _ => (by simp (disch := decide) only [j_u_k, j_u_same]; rfl)⟩) (fun y1 y2 y3 y4 y5 y6 y7 y8 y9 => hq _ k (261, 4) ⟨hbn, hlt, hrun, Or.inr (Or.inr (Or.inl ⟨by have := mt hone.mp y1; omega, 7, by decide, y9, rfl⟩))⟩ ⟨(fun o ho => by funext i; simp (disch := assumption) only [j_u_o]), (fun i h4 h5 h6 => by simp (disch := assumption) only [j_u_k]), (by simp (disch := decide) only [j_u_k, j_u_same]), (by simp (disch := decide) only [j_u_k, j_u_same]; rfl), fun _ _ => (by simp (disch := decide) only [j_u_k, j_u_same]; rfl)⟩) (fun y1 y2 y3 y4 y5 y6 y7 y8 y9 => hq _ k (262, 0) ⟨hbn, hlt, hrun, Or.inr (Or.inr (Or.inr ⟨by have := mt hone.mp y1; omega, fun q hq8 => by have h8 : q = 0 ∨ q = 1 ∨ q = 2 ∨ q = 3 ∨ q = 4 ∨ q = 5 ∨ q = 6 ∨ q = 7 := (by omega); rcases h8 with rfl | rfl | rfl | rfl | rfl | rfl | rfl | rfl <;> assumption, rfl⟩))⟩ ⟨(fun o ho => by funext i; simp (disch := assumption) only [j_u_o]), (fun i h4 h5 h6 => by simp (disch := assumption) only [j_u_k]), (by simp (disch := decide) only [j_u_k, j_u_same]), (by simp (disch := decide) only [j_u_k, j_u_same]; rfl), fun _ h => absurd h (by decide)⟩) (fun y1 y2 => hq _ k (262, 0) ⟨hbn, hlt, hrun, Or.inr (Or.inl ⟨hone.mpr y1, h24.mp y2, rfl⟩)⟩ ⟨(fun o ho => by funext i; simp (disch := assumption) only [j_u_o]), (fun i h4 h5 h6 => by simp (disch := assumption) only [j_u_k]), (by simp (disch := decide) only [j_u_k, j_u_same]), (by simp (disch := decide) only [j_u_k, j_u_same]; rfl), fun _ h => absurd h (by decide)⟩) (fun y1 y2 => hq _ k (259, T b - 97) ⟨hbn, hlt, hrun, Or.inl ⟨hone.mpr y1, (by have := mt h24.mpr y2; omega), rfl⟩⟩ ⟨(fun o ho => by funext i; simp (disch := assumption) only [j_u_o]), (fun i h4 h5 h6 => by simp (disch := assumption) only [j_u_k]), (by simp (disch := decide) only [j_u_k, j_u_same]), (by simp (disch := decide) only [j_u_k, j_u_same]; rfl), fun _ _ => (by simp (disch := decide) only [j_u_k, j_u_same]; exact h97)⟩)
  have loop : ∀ m k, k ≤ n → b ≤ k → n - k = m → (∀ j, b ≤ j → j < k → j < n ∧ isLt (T j)) → (b = k ∨ b < k) → j_W 70 d 0 0 0 0 5 [some (.ref 97), some (.int (nI k))] [] w1 (I, D, RR R) Q := fun m => by
    induction m with
    | zero =>
      intro k hk hbk hm hz hne
      have hkn : k = n := by omega
      refine s70h hT hb hk hbk hn9 hd ?_ ?_ ?_ ?_
      · intro _; exact fin k hk (by omega) ⟨hbk, hz, fun h => by omega⟩
      · intro h; omega
      · intro h; omega
      · intro h; omega
    | succ m ih =>
      intro k hk hbk hm hz hne
      have hkn : k < n := by omega
      have hT2 := (hT.2.2 k hkn).1
      refine s70h hT hb hk hbk hn9 hd (fun h => by omega) (fun _ => hT2) (fun _ h => ih (k + 1) (by omega) (by omega) (by omega) (fun j h1 h2 => ?_) (by omega)) (fun _ h => fin k hk ?_ ⟨hbk, hz, fun h2 => h h2.2⟩)
      · by_cases e : j = k
        · subst e; exact ⟨hkn, h⟩
        · exact hz j h1 (by omega)
      · rcases hne with rfl | h1
        · exact absurd hlt h
        · exact h1
  exact s70e hT hb hd (loop _ b (by omega) (Nat.le_refl _) rfl (fun j h1 h2 => by omega) (Or.inl rfl))
