set_option maxRecDepth 10000 in
set_option maxHeartbeats 4000000 in
theorem u14 {d : Nat} {I : Nat → Nat → Int32} {D : Nat → Nat → UInt64} {R : Nat → Nat → Option Nat} {Q : j_Po} {k : Nat}  (hR : WFR R) (hk : k < 24) (hd : 0 ≤ d)
    (v1 : ((I ((R 112 k).getD 0) 1) ≤ 0) → Q (some (.int 0)) w1 (I, D, RR R))
    (v2 : (¬ (I ((R 112 k).getD 0) 1) ≤ 0) → Q (some (.int 1)) w1 (I, D, RR R)) : j_Call d 14 [.ref 108, .int (nI k)] w1 (I, D, RR R) 0 0 Q := by
  refine q_enter (L := [some (.ref 108), some (.int (nI k))]) j_m14 (Nat.le_of_ble_eq_true rfl) rfl ?_
  refine q_aload_n d14_0 rfl ?_
  refine q_getR (x := 112) d14_1 (fs0_25 14 rfl) rfl (lt_w1 rfl) sh108 (rs108_3 R) (by decide) ?_
  refine q_iload_n d14_4 rfl ?_
  have g2 := hR.f k (by omega)
  refine q_aaload (c := 6) (a := k) (x := ((R 112 k).getD 0)) d14_5 (lt_w1 rfl) sh112 (by decide) rfl (by omega) ((RR_d rfl).trans g2.1) (lt1000 (isF_lt g2.2)) ?_
  refine q_getI d14_6 (fs0_50 14 rfl) rfl (isF_lt g2.2) (isF_sh g2.2) ?_
  refine q_if_le (tgt := 16) d14_9 rfl (fun h3t => ?_) (fun h3f => ?_)
  ·
    refine q_iconst (v := 0) (by decide) d14_16 ?_
    exact q_zret d14_17 rfl (Or.inl rfl) (Nat.le_refl _) (Nat.le_refl _) (v1 h3t)
  ·
    refine q_iconst (v := 1) (by decide) d14_12 ?_
    refine q_goto (tgt := 17) d14_13 rfl ?_
    exact q_zret d14_17 rfl (Or.inr rfl) (Nat.le_refl _) (Nat.le_refl _) (v2 h3f)

set_option maxRecDepth 10000 in
set_option maxHeartbeats 4000000 in
theorem u32r {d : Nat} {I : Nat → Nat → Int32} {D : Nat → Nat → UInt64} {R : Nat → Nat → Option Nat} {Q : j_Po} {a : Int32} {b : Int32}  (hR : WFR R) (hd : 1 ≤ d)
    (v1 : ∀ k1 : Nat, (k1 < 24) → (a = nI k1) → (b = 0) → j_W 32 d 0 0 0 0 56 [some (.ref 0), some (.int (nI k1)), none] [] w1 (I, D, RR R) Q)
    (v2 : ∀ k1 : Nat, (k1 < 24) → (a = nI k1) → (¬ b = 0) → (b = 1) → j_W 32 d 0 0 0 0 66 [some (.ref 0), some (.int (nI k1)), none] [] w1 (I, D, RR R) Q)
    (v3 : ∀ k1 : Nat, (k1 < 24) → (a = nI k1) → (¬ b = 0) → (¬ b = 1) → (b = 2) → j_W 32 d 0 0 0 0 83 [some (.ref 0), some (.int (nI k1)), none] [] w1 (I, D, RR R) Q)
    (v4 : ∀ k1 : Nat, (k1 < 24) → (a = nI k1) → (¬ b = 0) → (¬ b = 1) → (¬ b = 2) → (b = 3) → j_W 32 d 0 0 0 0 93 [some (.ref 0), some (.int (nI k1)), none] [] w1 (I, D, RR R) Q)
    (v5 : ∀ k1 : Nat, (k1 < 24) → (a = nI k1) → (¬ b = 0) → (¬ b = 1) → (¬ b = 2) → (¬ b = 3) → (b = 4) → j_W 32 d 0 0 0 0 103 [some (.ref 0), some (.int (nI k1)), none] [] w1 (I, D, RR R) Q)
    (v6 : ∀ k1 : Nat, (k1 < 24) → (a = nI k1) → (¬ b = 0) → (¬ b = 1) → (¬ b = 2) → (¬ b = 3) → (¬ b = 4) → (b = 5) → j_W 32 d 0 0 0 0 113 [some (.ref 0), some (.int (nI k1)), none] [] w1 (I, D, RR R) Q)
    (v7 : ∀ k1 : Nat, (k1 < 24) → (a = nI k1) → (¬ b = 0) → (¬ b = 1) → (¬ b = 2) → (¬ b = 3) → (¬ b = 4) → (¬ b = 5) → (b = 6) → j_W 32 d 0 0 0 0 122 [some (.ref 0), some (.int (nI k1)), none] [] w1 (I, D, RR R) Q)
    (v8 : ∀ k1 : Nat, (k1 < 24) → (a = nI k1) → (¬ b = 0) → (¬ b = 1) → (¬ b = 2) → (¬ b = 3) → (¬ b = 4) → (¬ b = 5) → (¬ b = 6) → (b = 7) → j_W 32 d 0 0 0 0 131 [some (.ref 0), some (.int (nI k1)), none] [] w1 (I, D, RR R) Q)
    (v9 : ∀ k1 : Nat, (k1 < 24) → (a = nI k1) → (¬ b = 0) → (¬ b = 1) → (¬ b = 2) → (¬ b = 3) → (¬ b = 4) → (¬ b = 5) → (¬ b = 6) → (¬ b = 7) → Q (some (.int (-2))) w1 (I, D, RR R))
    (v10 : (¬ (∃ k : Nat, k < 24 ∧ a = nI k)) → Q (some (.int (-2))) w1 (I, D, RR R)) : j_Call d 32 [.ref 0, .int a, .int b] w1 (I, D, RR R) 0 0 Q := by
  refine q_enter (L := [some (.ref 0), some (.int a), some (.int b)]) j_m32 (Nat.le_of_ble_eq_true rfl) rfl ?_
  refine q_iload_n d32_0 rfl ?_
  refine q_invS (av := [.int a]) (rest := []) (d' := 0) (mc' := 0) (ms' := 0) d32_1 (cv9_60 32 rfl) rfl rfl (by omega) (Nat.le_of_ble_eq_true rfl) (Nat.le_of_ble_eq_true rfl) (Nat.le_refl _) (Nat.le_refl _) ?_
  refine r12  (fun k1 h1 h1e => ?_) (fun h1 => ?_)
  ·
    subst h1e
    show j_W 32 d 0 0 0 0 4 [some (.ref 0), some (.int (nI k1)), some (.int b)] [.int 1] w1 (I, D, RR R) Q
    refine q_if_ne (tgt := 10) d32_4 rfl (fun _ => ?_) (fun h => absurd h (by decide))
    refine q_iload_n d32_10 rfl ?_
    by_cases h2 : b = 0
    ·
      refine r_int (y := 0) h2 ?_
      refine q_tableIn (tgt := 56) d32_11 (by decide) (by decide) rfl rfl ?_
      exact r_sub (L' := [some (.ref 0), some (.int (nI k1)), none]) ⟨rfl, rfl, trivial⟩ (v1 k1 h1 rfl h2)
    by_cases h3 : b = 1
    ·
      refine r_int (y := 1) h3 ?_
      refine q_tableIn (tgt := 66) d32_11 (by decide) (by decide) rfl rfl ?_
      exact r_sub (L' := [some (.ref 0), some (.int (nI k1)), none]) ⟨rfl, rfl, trivial⟩ (v2 k1 h1 rfl h2 h3)
    by_cases h4 : b = 2
    ·
      refine r_int (y := 2) h4 ?_
      refine q_tableIn (tgt := 83) d32_11 (by decide) (by decide) rfl rfl ?_
      exact r_sub (L' := [some (.ref 0), some (.int (nI k1)), none]) ⟨rfl, rfl, trivial⟩ (v3 k1 h1 rfl h2 h3 h4)
    by_cases h5 : b = 3
    ·
      refine r_int (y := 3) h5 ?_
      refine q_tableIn (tgt := 93) d32_11 (by decide) (by decide) rfl rfl ?_
      exact r_sub (L' := [some (.ref 0), some (.int (nI k1)), none]) ⟨rfl, rfl, trivial⟩ (v4 k1 h1 rfl h2 h3 h4 h5)
    by_cases h6 : b = 4
    ·
      refine r_int (y := 4) h6 ?_
      refine q_tableIn (tgt := 103) d32_11 (by decide) (by decide) rfl rfl ?_
      exact r_sub (L' := [some (.ref 0), some (.int (nI k1)), none]) ⟨rfl, rfl, trivial⟩ (v5 k1 h1 rfl h2 h3 h4 h5 h6)
    by_cases h7 : b = 5
    ·
      refine r_int (y := 5) h7 ?_
      refine q_tableIn (tgt := 113) d32_11 (by decide) (by decide) rfl rfl ?_
      exact r_sub (L' := [some (.ref 0), some (.int (nI k1)), none]) ⟨rfl, rfl, trivial⟩ (v6 k1 h1 rfl h2 h3 h4 h5 h6 h7)
    by_cases h8 : b = 6
    ·
      refine r_int (y := 6) h8 ?_
      refine q_tableIn (tgt := 122) d32_11 (by decide) (by decide) rfl rfl ?_
      exact r_sub (L' := [some (.ref 0), some (.int (nI k1)), none]) ⟨rfl, rfl, trivial⟩ (v7 k1 h1 rfl h2 h3 h4 h5 h6 h7 h8)
    by_cases h9 : b = 7
    ·
      refine r_int (y := 7) h9 ?_
      refine q_tableIn (tgt := 131) d32_11 (by decide) (by decide) rfl rfl ?_
      exact r_sub (L' := [some (.ref 0), some (.int (nI k1)), none]) ⟨rfl, rfl, trivial⟩ (v8 k1 h1 rfl h2 h3 h4 h5 h6 h7 h8 h9)
    have g10 : (b).toInt < 0 ∨ 7 < (b).toInt := tsw_out2 0 8 (by decide) (fun c hc => by
      have : c = 0 ∨ c = 1 ∨ c = 2 ∨ c = 3 ∨ c = 4 ∨ c = 5 ∨ c = 6 ∨ c = 7 := by omega
      rcases this with rfl | rfl | rfl | rfl | rfl | rfl | rfl | rfl
      · exact h2
      · exact h3
      · exact h4
      · exact h5
      · exact h6
      · exact h7
      · exact h8
      · exact h9)
    refine q_tableOut (tgt := 160) d32_11 g10 rfl ?_
    refine q_bipush (v := (-2)) (by decide) d32_160 ?_
    exact q_iret d32_162 rfl (Nat.le_refl _) (Nat.le_refl _) (v9 k1 h1 rfl h2 h3 h4 h5 h6 h7 h8 h9)
  ·
    show j_W 32 d 0 0 0 0 4 [some (.ref 0), some (.int a), some (.int b)] [.int 0] w1 (I, D, RR R) Q
    refine q_if_ne (tgt := 10) d32_4 rfl (fun h => absurd h (by decide)) (fun _ => ?_)
    refine q_bipush (v := (-2)) (by decide) d32_7 ?_
    exact q_iret d32_9 rfl (Nat.le_refl _) (Nat.le_refl _) (v10 h1)

set_option maxRecDepth 10000 in
set_option maxHeartbeats 4000000 in
theorem u32_0 {d : Nat} {I : Nat → Nat → Int32} {D : Nat → Nat → UInt64} {R : Nat → Nat → Option Nat} {Q : j_Po} {c : Nat}  (hR : WFR R) (hc : c < 24) (hd : 1 ≤ d)
    (v1 : Q (some (.int (I 109 c))) w1 (I, D, RR R)) : j_W 32 d 0 0 0 0 56 [some (.ref 0), some (.int (nI c)), none] [] w1 (I, D, RR R) Q := by
  refine q_aload_n d32_56 rfl ?_
  refine q_getR (x := 108) d32_57 (fs9_53 32 rfl) rfl (lt_w1 rfl) sh0 (rs0_1 R) (by decide) ?_
  refine q_getR (x := 109) d32_60 (fs9_76 32 rfl) rfl (lt_w1 rfl) sh108 (rs108_0 R) (by decide) ?_
  refine q_iload_n d32_63 rfl ?_
  refine q_iaload (a := c) d32_64 (lt_w1 rfl) sh109 rfl (by omega) ?_
  exact q_iret d32_65 rfl (Nat.le_refl _) (Nat.le_refl _) v1

set_option maxRecDepth 10000 in
set_option maxHeartbeats 4000000 in
theorem u32_1 {d : Nat} {I : Nat → Nat → Int32} {D : Nat → Nat → UInt64} {R : Nat → Nat → Option Nat} {Q : j_Po} {c : Nat}  (hR : WFR R) (hc : c < 24) (hd : 1 ≤ d)
    (v1 : ((I ((R 112 c).getD 0) 1) ≤ 0) → Q (some (.int 0)) w1 (I, D, RR R))
    (v2 : (¬ (I ((R 112 c).getD 0) 1) ≤ 0) → Q (some (.int 1)) w1 (I, D, RR R)) : j_W 32 d 0 0 0 0 66 [some (.ref 0), some (.int (nI c)), none] [] w1 (I, D, RR R) Q := by
  refine q_aload_n d32_66 rfl ?_
  refine q_getR (x := 108) d32_67 (fs9_53 32 rfl) rfl (lt_w1 rfl) sh0 (rs0_1 R) (by decide) ?_
  refine q_iload_n d32_70 rfl ?_
  refine q_invV (o := 108) (ci := 0) (av := [.int (nI c)]) (rest := []) (d' := 0) (mc' := 0) (ms' := 0) d32_71 (cv9_69 32 rfl) rfl (by decide) rfl rfl (by omega) (Nat.le_of_ble_eq_true rfl) (Nat.le_of_ble_eq_true rfl) (lt_w1 rfl) sh108 (Nat.le_refl _) (Nat.le_refl _) ?_
  refine u14 (k := c) hR (by first | omega | decide) (Nat.le_refl _) (fun c1 => ?_) (fun c2 => ?_)
  ·
    show j_W 32 d 0 0 0 0 74 [some (.ref 0), some (.int (nI c)), none] [.int 0] w1 (I, D, RR R) Q
    refine q_if_eq (tgt := 81) d32_74 rfl (fun _ => ?_) (fun h => absurd h (by decide))
    refine q_iconst (v := 0) (by decide) d32_81 ?_
    exact q_iret d32_82 rfl (Nat.le_refl _) (Nat.le_refl _) (v1 c1)
  ·
    show j_W 32 d 0 0 0 0 74 [some (.ref 0), some (.int (nI c)), none] [.int 1] w1 (I, D, RR R) Q
    refine q_if_eq (tgt := 81) d32_74 rfl (fun h => absurd h (by decide)) (fun _ => ?_)
    refine q_iconst (v := 1) (by decide) d32_77 ?_
    refine q_goto (tgt := 82) d32_78 rfl ?_
    exact q_iret d32_82 rfl (Nat.le_refl _) (Nat.le_refl _) (v2 c2)

set_option maxRecDepth 10000 in
set_option maxHeartbeats 4000000 in
theorem u32_2 {d : Nat} {I : Nat → Nat → Int32} {D : Nat → Nat → UInt64} {R : Nat → Nat → Option Nat} {Q : j_Po} {c : Nat}  (hR : WFR R) (hc : c < 24) (hd : 1 ≤ d)
    (v1 : Q (some (.int (I 207 c))) w1 (I, D, RR R)) : j_W 32 d 0 0 0 0 83 [some (.ref 0), some (.int (nI c)), none] [] w1 (I, D, RR R) Q := by
  refine q_aload_n d32_83 rfl ?_
  refine q_getR (x := 204) d32_84 (fs9_58 32 rfl) rfl (lt_w1 rfl) sh0 (rs0_2 R) (by decide) ?_
  refine q_getR (x := 207) d32_87 (fs9_108 32 rfl) rfl (lt_w1 rfl) sh204 (rs204_2 R) (by decide) ?_
  refine q_iload_n d32_90 rfl ?_
  refine q_iaload (a := c) d32_91 (lt_w1 rfl) sh207 rfl (by omega) ?_
  exact q_iret d32_92 rfl (Nat.le_refl _) (Nat.le_refl _) v1

set_option maxRecDepth 10000 in
set_option maxHeartbeats 4000000 in
theorem u32_3 {d : Nat} {I : Nat → Nat → Int32} {D : Nat → Nat → UInt64} {R : Nat → Nat → Option Nat} {Q : j_Po} {c : Nat}  (hR : WFR R) (hc : c < 24) (hd : 1 ≤ d)
    (v1 : Q (some (.int (I 206 c))) w1 (I, D, RR R)) : j_W 32 d 0 0 0 0 93 [some (.ref 0), some (.int (nI c)), none] [] w1 (I, D, RR R) Q := by
  refine q_aload_n d32_93 rfl ?_
  refine q_getR (x := 204) d32_94 (fs9_58 32 rfl) rfl (lt_w1 rfl) sh0 (rs0_2 R) (by decide) ?_
  refine q_getR (x := 206) d32_97 (fs9_111 32 rfl) rfl (lt_w1 rfl) sh204 (rs204_1 R) (by decide) ?_
  refine q_iload_n d32_100 rfl ?_
  refine q_iaload (a := c) d32_101 (lt_w1 rfl) sh206 rfl (by omega) ?_
  exact q_iret d32_102 rfl (Nat.le_refl _) (Nat.le_refl _) v1

set_option maxRecDepth 10000 in
set_option maxHeartbeats 4000000 in
theorem u32_4 {d : Nat} {I : Nat → Nat → Int32} {D : Nat → Nat → UInt64} {R : Nat → Nat → Option Nat} {Q : j_Po} {c : Nat}  (hR : WFR R) (hc : c < 24) (hd : 1 ≤ d)
    (v1 : Q (some (.int (I 208 c))) w1 (I, D, RR R)) : j_W 32 d 0 0 0 0 103 [some (.ref 0), some (.int (nI c)), none] [] w1 (I, D, RR R) Q := by
  refine q_aload_n d32_103 rfl ?_
  refine q_getR (x := 204) d32_104 (fs9_58 32 rfl) rfl (lt_w1 rfl) sh0 (rs0_2 R) (by decide) ?_
  refine q_getR (x := 208) d32_107 (fs9_114 32 rfl) rfl (lt_w1 rfl) sh204 (rs204_3 R) (by decide) ?_
  refine q_iload_n d32_110 rfl ?_
  refine q_iaload (a := c) d32_111 (lt_w1 rfl) sh208 rfl (by omega) ?_
  exact q_iret d32_112 rfl (Nat.le_refl _) (Nat.le_refl _) v1

set_option maxRecDepth 10000 in
set_option maxHeartbeats 4000000 in
theorem u32_7 {d : Nat} {I : Nat → Nat → Int32} {D : Nat → Nat → UInt64} {R : Nat → Nat → Option Nat} {Q : j_Po} {c : Nat}  (hR : WFR R) (hc : c < 24) (hd : 1 ≤ d)
    (v1 : ((I ((R 112 c).getD 0) 1) ≤ 0) → ((I 111 c) = 0) → Q (some (.int 1)) w1 (I, D, RR R))
    (v2 : ((I ((R 112 c).getD 0) 1) ≤ 0) → (¬ (I 111 c) = 0) → Q (some (.int 0)) w1 (I, D, RR R))
    (v3 : (¬ (I ((R 112 c).getD 0) 1) ≤ 0) → Q (some (.int 0)) w1 (I, D, RR R)) : j_W 32 d 0 0 0 0 131 [some (.ref 0), some (.int (nI c)), none] [] w1 (I, D, RR R) Q := by
  refine q_aload_n d32_131 rfl ?_
  refine q_getR (x := 108) d32_132 (fs9_53 32 rfl) rfl (lt_w1 rfl) sh0 (rs0_1 R) (by decide) ?_
  refine q_iload_n d32_135 rfl ?_
  refine q_invV (o := 108) (ci := 0) (av := [.int (nI c)]) (rest := []) (d' := 0) (mc' := 0) (ms' := 0) d32_136 (cv9_69 32 rfl) rfl (by decide) rfl rfl (by omega) (Nat.le_of_ble_eq_true rfl) (Nat.le_of_ble_eq_true rfl) (lt_w1 rfl) sh108 (Nat.le_refl _) (Nat.le_refl _) ?_
  refine u14 (k := c) hR (by first | omega | decide) (Nat.le_refl _) (fun c1 => ?_) (fun c2 => ?_)
  ·
    show j_W 32 d 0 0 0 0 139 [some (.ref 0), some (.int (nI c)), none] [.int 0] w1 (I, D, RR R) Q
    refine q_if_ne (tgt := 154) d32_139 rfl (fun h => absurd h (by decide)) (fun _ => ?_)
    refine q_aload_n d32_142 rfl ?_
    refine q_getR (x := 108) d32_143 (fs9_53 32 rfl) rfl (lt_w1 rfl) sh0 (rs0_1 R) (by decide) ?_
    refine q_getR (x := 111) d32_146 (fs9_86 32 rfl) rfl (lt_w1 rfl) sh108 (rs108_2 R) (by decide) ?_
    refine q_iload_n d32_149 rfl ?_
    refine q_zaload (a := c) d32_150 (lt_w1 rfl) sh111 rfl (by omega) ?_
    refine q_if_eq (tgt := 158) d32_151 rfl (fun h3t => ?_) (fun h3f => ?_)
    ·
      refine q_iconst (v := 1) (by decide) d32_158 ?_
      exact q_iret d32_159 rfl (Nat.le_refl _) (Nat.le_refl _) (v1 c1 h3t)
    ·
      refine q_iconst (v := 0) (by decide) d32_154 ?_
      refine q_goto (tgt := 159) d32_155 rfl ?_
      exact q_iret d32_159 rfl (Nat.le_refl _) (Nat.le_refl _) (v2 c1 h3f)
  ·
    show j_W 32 d 0 0 0 0 139 [some (.ref 0), some (.int (nI c)), none] [.int 1] w1 (I, D, RR R) Q
    refine q_if_ne (tgt := 154) d32_139 rfl (fun _ => ?_) (fun h => absurd h (by decide))
    refine q_iconst (v := 0) (by decide) d32_154 ?_
    refine q_goto (tgt := 159) d32_155 rfl ?_
    exact q_iret d32_159 rfl (Nat.le_refl _) (Nat.le_refl _) (v3 c2)

set_option maxRecDepth 10000 in
set_option maxHeartbeats 4000000 in
theorem u32_5 {d : Nat} {I : Nat → Nat → Int32} {D : Nat → Nat → UInt64} {R : Nat → Nat → Option Nat} {Q : j_Po} {c : Nat} {β : Bd} (hR : WFR R) (hV : BV β) (hC : CB β I D R) (hN : NM β I) (hO : OrdB β I) (hc : c < 24) (hd : 50 ≤ d)
    (v1 : c < 24)
    (v2 : 40 ≤ 40)
    (v3 : ∀ J1 : Nat → Nat → Int32, ∀ E2 : Nat → Nat → UInt64, (FRc I D J1 E2) → (LC J1 E2 0 c (val β (env β) c)) → Q (some (.int ((nI ((val β (env β) c).1)) / 32))) w1 (J1, E2, RR R)) : j_W 32 d 0 0 0 0 113 [some (.ref 0), some (.int (nI c)), none] [] w1 (I, D, RR R) Q := by
  refine q_aload_n d32_113 rfl ?_
  refine q_iload_n d32_114 rfl ?_
  refine q_invV (o := 0) (ci := 9) (av := [.int (nI c)]) (rest := []) (d' := 40) (mc' := 0) (ms' := 0) d32_115 (cv9_117 32 rfl) rfl (by decide) rfl rfl (by omega) (Nat.le_of_ble_eq_true rfl) (Nat.le_of_ble_eq_true rfl) (lt_w1 rfl) sh0 (Nat.le_refl _) (Nat.le_refl _) ?_
  refine c33 hR hV hC hN hO v1 v2 (fun J1 E2 h3 h4 => ?_)
  show j_W 32 d 0 0 0 0 118 [some (.ref 0), some (.int (nI c)), none] [.int (nI ((val β (env β) c).1))] w1 (J1, E2, RR R) Q
  refine q_invS (av := [.int (nI ((val β (env β) c).1))]) (rest := []) (d' := 0) (mc' := 0) (ms' := 0) d32_118 (cv9_121 32 rfl) rfl rfl (by omega) (Nat.le_of_ble_eq_true rfl) (Nat.le_of_ble_eq_true rfl) (Nat.le_refl _) (Nat.le_refl _) ?_
  refine u53 (Nat.zero_le _)  ?_
  show j_W 32 d 0 0 0 0 121 [some (.ref 0), some (.int (nI c)), none] [.int ((nI ((val β (env β) c).1)) / 32)] w1 (J1, E2, RR R) Q
  exact q_iret d32_121 rfl (Nat.le_refl _) (Nat.le_refl _) (v3 J1 E2 h3 h4)

set_option maxRecDepth 10000 in
set_option maxHeartbeats 4000000 in
theorem u32_6 {d : Nat} {I : Nat → Nat → Int32} {D : Nat → Nat → UInt64} {R : Nat → Nat → Option Nat} {Q : j_Po} {c : Nat} {β : Bd} (hR : WFR R) (hV : BV β) (hC : CB β I D R) (hN : NM β I) (hO : OrdB β I) (hc : c < 24) (hd : 50 ≤ d)
    (v1 : c < 24)
    (v2 : 40 ≤ 40)
    (v3 : ∀ J1 : Nat → Nat → Int32, ∀ E2 : Nat → Nat → UInt64, (FRc I D J1 E2) → (LC J1 E2 0 c (val β (env β) c)) → (val β (env β) c).1 < 200)
    (v4 : ∀ J1 : Nat → Nat → Int32, ∀ E2 : Nat → Nat → UInt64, (FRc I D J1 E2) → (LC J1 E2 0 c (val β (env β) c)) → Q (some (.int (blV ((val β (env β) c).1)))) w1 (J1, E2, RR R)) : j_W 32 d 0 0 0 0 122 [some (.ref 0), some (.int (nI c)), none] [] w1 (I, D, RR R) Q := by
  refine q_aload_n d32_122 rfl ?_
  refine q_iload_n d32_123 rfl ?_
  refine q_invV (o := 0) (ci := 9) (av := [.int (nI c)]) (rest := []) (d' := 40) (mc' := 0) (ms' := 0) d32_124 (cv9_117 32 rfl) rfl (by decide) rfl rfl (by omega) (Nat.le_of_ble_eq_true rfl) (Nat.le_of_ble_eq_true rfl) (lt_w1 rfl) sh0 (Nat.le_refl _) (Nat.le_refl _) ?_
  refine c33 hR hV hC hN hO v1 v2 (fun J1 E2 h3 h4 => ?_)
  show j_W 32 d 0 0 0 0 127 [some (.ref 0), some (.int (nI c)), none] [.int (nI ((val β (env β) c).1))] w1 (J1, E2, RR R) Q
  refine q_invS (av := [.int (nI ((val β (env β) c).1))]) (rest := []) (d' := 0) (mc' := 0) (ms' := 0) d32_127 (cv9_124 32 rfl) rfl rfl (by omega) (Nat.le_of_ble_eq_true rfl) (Nat.le_of_ble_eq_true rfl) (Nat.le_refl _) (Nat.le_refl _) ?_
  refine u54x (v3 J1 E2 h3 h4) ?_
  show j_W 32 d 0 0 0 0 130 [some (.ref 0), some (.int (nI c)), none] [.int (blV ((val β (env β) c).1))] w1 (J1, E2, RR R) Q
  exact q_iret d32_130 rfl (Nat.le_refl _) (Nat.le_refl _) (v4 J1 E2 h3 h4)

set_option maxRecDepth 10000 in
set_option maxHeartbeats 4000000 in
theorem u176r {d : Nat} {I : Nat → Nat → Int32} {D : Nat → Nat → UInt64} {R : Nat → Nat → Option Nat} {Q : j_Po} {a : Int32} {b : Int32}   (hd : 2 ≤ d)
    (v1 : ∀ k1 : Nat, (k1 < 24) → (a = nI k1) → ((¬ b < (0 : Int32) ∧ ¬ (7 : Int32) < b)) → j_W 176 d 0 0 0 0 20 [some (.ref 260), some (.int (nI k1)), some (.int b)] [] w1 (I, D, RR R) Q)
    (v2 : ∀ k1 : Nat, (k1 < 24) → (a = nI k1) → (¬ ((¬ b < (0 : Int32) ∧ ¬ (7 : Int32) < b))) → Q (some (.int (-2))) w1 (I, D, RR R))
    (v3 : (¬ (∃ k : Nat, k < 24 ∧ a = nI k)) → Q (some (.int (-2))) w1 (I, D, RR R)) : j_Call d 176 [.ref 260, .int a, .int b] w1 (I, D, RR R) 0 0 Q := by
  refine q_enter (L := [some (.ref 260), some (.int a), some (.int b)]) j_m176 (Nat.le_of_ble_eq_true rfl) rfl ?_
  refine q_iload_n d176_0 rfl ?_
  refine q_invS (av := [.int a]) (rest := []) (d' := 1) (mc' := 0) (ms' := 0) d176_1 (cv10_312 176 rfl) rfl rfl (by omega) (Nat.le_of_ble_eq_true rfl) (Nat.le_of_ble_eq_true rfl) (Nat.le_refl _) (Nat.le_refl _) ?_
  refine r167 (Nat.le_refl _)  (fun k1 h1 h1e => ?_) (fun h1 => ?_)
  ·
    subst h1e
    show j_W 176 d 0 0 0 0 4 [some (.ref 260), some (.int (nI k1)), some (.int b)] [.int 1] w1 (I, D, RR R) Q
    refine q_if_eq (tgt := 17) d176_4 rfl (fun h => absurd h (by decide)) (fun _ => ?_)
    refine q_iload_n d176_7 rfl ?_
    refine q_iconst (v := 0) (by decide) d176_8 ?_
    refine q_bipush (v := 7) (by decide) d176_9 ?_
    refine q_invS (av := [.int b, .int 0, .int 7]) (rest := []) (d' := 0) (mc' := 0) (ms' := 0) d176_11 (cv10_183 176 rfl) rfl rfl (by omega) (Nat.le_of_ble_eq_true rfl) (Nat.le_of_ble_eq_true rfl) (Nat.le_refl _) (Nat.le_refl _) ?_
    refine p168  (fun h2 => ?_) (fun h2 => ?_)
    ·
      show j_W 176 d 0 0 0 0 14 [some (.ref 260), some (.int (nI k1)), some (.int b)] [.int 1] w1 (I, D, RR R) Q
      refine q_if_ne (tgt := 20) d176_14 rfl (fun _ => ?_) (fun h => absurd h (by decide))
      exact r_sub (L' := [some (.ref 260), some (.int (nI k1)), some (.int b)]) ⟨rfl, rfl, rfl, trivial⟩ (v1 k1 h1 rfl h2)
    ·
      show j_W 176 d 0 0 0 0 14 [some (.ref 260), some (.int (nI k1)), some (.int b)] [.int 0] w1 (I, D, RR R) Q
      refine q_if_ne (tgt := 20) d176_14 rfl (fun h => absurd h (by decide)) (fun _ => ?_)
      refine q_bipush (v := (-2)) (by decide) d176_17 ?_
      exact q_iret d176_19 rfl (Nat.le_refl _) (Nat.le_refl _) (v2 k1 h1 rfl h2)
  ·
    show j_W 176 d 0 0 0 0 4 [some (.ref 260), some (.int a), some (.int b)] [.int 0] w1 (I, D, RR R) Q
    refine q_if_eq (tgt := 17) d176_4 rfl (fun _ => ?_) (fun h => absurd h (by decide))
    refine q_bipush (v := (-2)) (by decide) d176_17 ?_
    exact q_iret d176_19 rfl (Nat.le_refl _) (Nat.le_refl _) (v3 h1)

set_option maxRecDepth 10000 in
set_option maxHeartbeats 4000000 in
theorem u176_0 {d : Nat} {I : Nat → Nat → Int32} {D : Nat → Nat → UInt64} {R : Nat → Nat → Option Nat} {Q : j_Po} {c : Nat} {β : Bd} (hV : BV β) (hc : c < 24) (hd : 90 ≤ d)
    (v1 : Q (some (.int (I 261 c))) w1 (I, D, RR R)) : j_W 176 d 0 0 0 0 20 [some (.ref 260), some (.int (nI c)), some (.int 0)] [] w1 (I, D, RR R) Q := by
  refine q_iload_n d176_20 rfl ?_
  refine q_if_ne (tgt := 31) d176_21 rfl (fun h => absurd h (by decide)) (fun _ => ?_)
  refine q_aload_n d176_24 rfl ?_
  refine q_getR (x := 261) d176_25 (fs10_9 176 rfl) rfl (lt_w1 rfl) sh260 (rs260_0 R) (by decide) ?_
  refine q_iload_n d176_28 rfl ?_
  refine q_iaload (a := c) d176_29 (lt_w1 rfl) sh261 rfl (by omega) ?_
  exact q_iret d176_30 rfl (Nat.le_refl _) (Nat.le_refl _) v1

set_option maxRecDepth 10000 in
set_option maxHeartbeats 4000000 in
theorem u176_1 {d : Nat} {I : Nat → Nat → Int32} {D : Nat → Nat → UInt64} {R : Nat → Nat → Option Nat} {Q : j_Po} {c : Nat} {β : Bd} (hV : BV β) (hc : c < 24) (hd : 90 ≤ d)
    (v1 : (¬ (I 264 c) = 0) → Q (some (.int 1)) w1 (I, D, RR R))
    (v2 : ((I 264 c) = 0) → Q (some (.int 0)) w1 (I, D, RR R)) : j_W 176 d 0 0 0 0 20 [some (.ref 260), some (.int (nI c)), some (.int 1)] [] w1 (I, D, RR R) Q := by
  refine q_iload_n d176_20 rfl ?_
  refine q_if_ne (tgt := 31) d176_21 rfl (fun _ => ?_) (fun h => absurd h (by decide))
  refine q_iload_n d176_31 rfl ?_
  refine q_iconst (v := 1) (by decide) d176_32 ?_
  refine q_icmp_ne (tgt := 50) d176_33 rfl (fun h => absurd h (by decide)) (fun _ => ?_)
  refine q_aload_n d176_36 rfl ?_
  refine q_iload_n d176_37 rfl ?_
  refine q_invV (o := 260) (ci := 10) (av := [.int (nI c)]) (rest := []) (d' := 0) (mc' := 0) (ms' := 0) d176_38 (cv10_204 176 rfl) rfl (by decide) rfl rfl (by omega) (Nat.le_of_ble_eq_true rfl) (Nat.le_of_ble_eq_true rfl) (lt_w1 rfl) sh260 (Nat.le_refl _) (Nat.le_refl _) ?_
  refine s170 (k := c) (by first | omega | decide) (Nat.le_refl _) (fun c1 => ?_) (fun c2 => ?_)
  ·
    show j_W 176 d 0 0 0 0 41 [some (.ref 260), some (.int (nI c)), some (.int 1)] [.int 0] w1 (I, D, RR R) Q
    refine q_if_eq (tgt := 48) d176_41 rfl (fun _ => ?_) (fun h => absurd h (by decide))
    refine q_iconst (v := 1) (by decide) d176_48 ?_
    exact q_iret d176_49 rfl (Nat.le_refl _) (Nat.le_refl _) (v1 c1)
  ·
    show j_W 176 d 0 0 0 0 41 [some (.ref 260), some (.int (nI c)), some (.int 1)] [.int 1] w1 (I, D, RR R) Q
    refine q_if_eq (tgt := 48) d176_41 rfl (fun h => absurd h (by decide)) (fun _ => ?_)
    refine q_iconst (v := 0) (by decide) d176_44 ?_
    refine q_goto (tgt := 49) d176_45 rfl ?_
    exact q_iret d176_49 rfl (Nat.le_refl _) (Nat.le_refl _) (v2 c2)

set_option maxRecDepth 10000 in
set_option maxHeartbeats 4000000 in
theorem u176_2 {d : Nat} {I : Nat → Nat → Int32} {D : Nat → Nat → UInt64} {R : Nat → Nat → Option Nat} {Q : j_Po} {c : Nat} {β : Bd} {rd : Nat → Int32} (hV : BV β) (hc : c < 24) (hd : 90 ≤ d)
    (v1 : RdE β rd)
    (v2 : c < 24)
    (v3 : 40 ≤ 40)
    (v4 : RBN β I)
    (v5 : ∀ J1 : Nat → Nat → Int32, (∀ o, o ≠ 359 → o ≠ 360 → J1 o = I o) → (RBN β J1) → Q (some (.int (rd c))) w1 (J1, D, RR R)) : j_W 176 d 0 0 0 0 20 [some (.ref 260), some (.int (nI c)), some (.int 2)] [] w1 (I, D, RR R) Q := by
  refine q_iload_n d176_20 rfl ?_
  refine q_if_ne (tgt := 31) d176_21 rfl (fun _ => ?_) (fun h => absurd h (by decide))
  refine q_iload_n d176_31 rfl ?_
  refine q_iconst (v := 1) (by decide) d176_32 ?_
  refine q_icmp_ne (tgt := 50) d176_33 rfl (fun _ => ?_) (fun h => absurd h (by decide))
  refine q_iload_n d176_50 rfl ?_
  refine q_iconst (v := 2) (by decide) d176_51 ?_
  refine q_icmp_ne (tgt := 61) d176_52 rfl (fun h => absurd h (by decide)) (fun _ => ?_)
  refine q_aload_n d176_55 rfl ?_
  refine q_iload_n d176_56 rfl ?_
  refine q_invV (o := 260) (ci := 10) (av := [.int (nI c)]) (rest := []) (d' := 40) (mc' := 0) (ms' := 0) d176_57 (cv10_323 176 rfl) rfl (by decide) rfl rfl (by omega) (Nat.le_of_ble_eq_true rfl) (Nat.le_of_ble_eq_true rfl) (lt_w1 rfl) sh260 (Nat.le_refl _) (Nat.le_refl _) ?_
  refine c177 (rd := rd) hV v1 v2 v3 v4 (fun J1 h2 h3 => ?_)
  show j_W 176 d 0 0 0 0 60 [some (.ref 260), some (.int (nI c)), some (.int 2)] [.int (rd c)] w1 (J1, D, RR R) Q
  exact q_iret d176_60 rfl (Nat.le_refl _) (Nat.le_refl _) (v5 J1 h2 h3)

set_option maxRecDepth 10000 in
set_option maxHeartbeats 4000000 in
theorem u176_3 {d : Nat} {I : Nat → Nat → Int32} {D : Nat → Nat → UInt64} {R : Nat → Nat → Option Nat} {Q : j_Po} {c : Nat} {β : Bd} {X : Nat → Nat → Bool} (hV : BV β) (hc : c < 24) (hd : 90 ≤ d)
    (v1 : 1 ≤ 1)
    (v2 : RBN β I)
    (v3 : RcE β X)
    (v4 : acyc β)
    (v5 : c < 24)
    (v6 : ∀ x1 : Int32, (∀ v, v < 32 → bt x1 v = X c v) → Q (some (.int x1)) w1 (I, D, RR R)) : j_W 176 d 0 0 0 0 20 [some (.ref 260), some (.int (nI c)), some (.int 3)] [] w1 (I, D, RR R) Q := by
  refine q_iload_n d176_20 rfl ?_
  refine q_if_ne (tgt := 31) d176_21 rfl (fun _ => ?_) (fun h => absurd h (by decide))
  refine q_iload_n d176_31 rfl ?_
  refine q_iconst (v := 1) (by decide) d176_32 ?_
  refine q_icmp_ne (tgt := 50) d176_33 rfl (fun _ => ?_) (fun h => absurd h (by decide))
  refine q_iload_n d176_50 rfl ?_
  refine q_iconst (v := 2) (by decide) d176_51 ?_
  refine q_icmp_ne (tgt := 61) d176_52 rfl (fun _ => ?_) (fun h => absurd h (by decide))
  refine q_iload_n d176_61 rfl ?_
  refine q_iconst (v := 3) (by decide) d176_62 ?_
  refine q_icmp_ne (tgt := 72) d176_63 rfl (fun h => absurd h (by decide)) (fun _ => ?_)
  refine q_aload_n d176_66 rfl ?_
  refine q_iload_n d176_67 rfl ?_
  refine q_invV (o := 260) (ci := 10) (av := [.int (nI c)]) (rest := []) (d' := 1) (mc' := 0) (ms' := 0) d176_68 (cv10_214 176 rfl) rfl (by decide) rfl rfl (by omega) (Nat.le_of_ble_eq_true rfl) (Nat.le_of_ble_eq_true rfl) (lt_w1 rfl) sh260 (Nat.le_refl _) (Nat.le_refl _) ?_
  refine c182 (β := β) (X := X) v1 v2 v3 v4 v5 (fun x1 h2 => ?_)
  show j_W 176 d 0 0 0 0 71 [some (.ref 260), some (.int (nI c)), some (.int 3)] [.int x1] w1 (I, D, RR R) Q
  exact q_iret d176_71 rfl (Nat.le_refl _) (Nat.le_refl _) (v6 x1 h2)

set_option maxRecDepth 10000 in
set_option maxHeartbeats 4000000 in
theorem u176_4 {d : Nat} {I : Nat → Nat → Int32} {D : Nat → Nat → UInt64} {R : Nat → Nat → Option Nat} {Q : j_Po} {c : Nat} {β : Bd} {X : Nat → Nat → Bool} {bv : Nat → Nat} (hV : BV β) (hc : c < 24) (hd : 90 ≤ d)
    (v1 : RcE β X)
    (v2 : BuE β X bv)
    (v3 : 80 ≤ 80)
    (v4 : c < 24)
    (v5 : RBN β I)
    (v6 : ∀ J1 : Nat → Nat → Int32, ∀ b2 : Nat, (∀ o, o ≠ 361 → o ≠ 362 → J1 o = I o) → (MBu bv J1) → (RBN β J1) → (b2 ≤ 1000000) → (min 2001 b2 = bv c) → Q (some (.int (nI b2))) w1 (J1, D, RR R)) : j_W 176 d 0 0 0 0 20 [some (.ref 260), some (.int (nI c)), some (.int 4)] [] w1 (I, D, RR R) Q := by
  refine q_iload_n d176_20 rfl ?_
  refine q_if_ne (tgt := 31) d176_21 rfl (fun _ => ?_) (fun h => absurd h (by decide))
  refine q_iload_n d176_31 rfl ?_
  refine q_iconst (v := 1) (by decide) d176_32 ?_
  refine q_icmp_ne (tgt := 50) d176_33 rfl (fun _ => ?_) (fun h => absurd h (by decide))
  refine q_iload_n d176_50 rfl ?_
  refine q_iconst (v := 2) (by decide) d176_51 ?_
  refine q_icmp_ne (tgt := 61) d176_52 rfl (fun _ => ?_) (fun h => absurd h (by decide))
  refine q_iload_n d176_61 rfl ?_
  refine q_iconst (v := 3) (by decide) d176_62 ?_
  refine q_icmp_ne (tgt := 72) d176_63 rfl (fun _ => ?_) (fun h => absurd h (by decide))
  refine q_iload_n d176_72 rfl ?_
  refine q_iconst (v := 4) (by decide) d176_73 ?_
  refine q_icmp_ne (tgt := 83) d176_74 rfl (fun h => absurd h (by decide)) (fun _ => ?_)
  refine q_aload_n d176_77 rfl ?_
  refine q_iload_n d176_78 rfl ?_
  refine q_invV (o := 260) (ci := 10) (av := [.int (nI c)]) (rest := []) (d' := 80) (mc' := 0) (ms' := 0) d176_79 (cv10_237 176 rfl) rfl (by decide) rfl rfl (by omega) (Nat.le_of_ble_eq_true rfl) (Nat.le_of_ble_eq_true rfl) (lt_w1 rfl) sh260 (Nat.le_refl _) (Nat.le_refl _) ?_
  refine c183 (bv := bv) (X := X) hV v1 v2 v3 v4 v5 (fun J1 b2 h3 h4 h5 h6 h7 => ?_)
  show j_W 176 d 0 0 0 0 82 [some (.ref 260), some (.int (nI c)), some (.int 4)] [.int (nI b2)] w1 (J1, D, RR R) Q
  exact q_iret d176_82 rfl (Nat.le_refl _) (Nat.le_refl _) (v6 J1 b2 h3 h4 h5 h6 h7)

set_option maxRecDepth 10000 in
set_option maxHeartbeats 4000000 in
theorem u176_5 {d : Nat} {I : Nat → Nat → Int32} {D : Nat → Nat → UInt64} {R : Nat → Nat → Option Nat} {Q : j_Po} {c : Nat} {β : Bd} {η : VEnv} (hV : BV β) (hc : c < 24) (hd : 90 ≤ d)
    (v1 : RSt β I D)
    (v2 : RIn β I D η)
    (v3 : c < 24)
    (v4 : 70 ≤ 70)
    (v5 : ∀ J1 : Nat → Nat → Int32, ∀ E2 : Nat → Nat → UInt64, (FRr I D J1 E2) → (VQ (J1 380 c) (J1 388 c) (E2 372 c) (val β η c)) → Q (some (.int (J1 380 c))) w1 (J1, E2, RR R)) : j_W 176 d 0 0 0 0 20 [some (.ref 260), some (.int (nI c)), some (.int 5)] [] w1 (I, D, RR R) Q := by
  refine q_iload_n d176_20 rfl ?_
  refine q_if_ne (tgt := 31) d176_21 rfl (fun _ => ?_) (fun h => absurd h (by decide))
  refine q_iload_n d176_31 rfl ?_
  refine q_iconst (v := 1) (by decide) d176_32 ?_
  refine q_icmp_ne (tgt := 50) d176_33 rfl (fun _ => ?_) (fun h => absurd h (by decide))
  refine q_iload_n d176_50 rfl ?_
  refine q_iconst (v := 2) (by decide) d176_51 ?_
  refine q_icmp_ne (tgt := 61) d176_52 rfl (fun _ => ?_) (fun h => absurd h (by decide))
  refine q_iload_n d176_61 rfl ?_
  refine q_iconst (v := 3) (by decide) d176_62 ?_
  refine q_icmp_ne (tgt := 72) d176_63 rfl (fun _ => ?_) (fun h => absurd h (by decide))
  refine q_iload_n d176_72 rfl ?_
  refine q_iconst (v := 4) (by decide) d176_73 ?_
  refine q_icmp_ne (tgt := 83) d176_74 rfl (fun _ => ?_) (fun h => absurd h (by decide))
  refine q_iload_n d176_83 rfl ?_
  refine q_bipush (v := 7) (by decide) d176_84 ?_
  refine q_icmp_ne (tgt := 112) d176_86 rfl (fun _ => ?_) (fun h => absurd h (by decide))
  refine q_aload_n d176_112 rfl ?_
  refine q_iload_n d176_113 rfl ?_
  refine q_invV (o := 260) (ci := 10) (av := [.int (nI c)]) (rest := []) (d' := 70) (mc' := 0) (ms' := 0) d176_114 (cv10_296 176 rfl) rfl (by decide) rfl rfl (by omega) (Nat.le_of_ble_eq_true rfl) (Nat.le_of_ble_eq_true rfl) (lt_w1 rfl) sh260 (Nat.le_refl _) (Nat.le_refl _) ?_
  refine c189 (η := η) hV v1 v2 v3 v4 (fun J1 E2 h3 h4 => ?_)
  show j_W 176 d 0 0 0 0 117 [some (.ref 260), some (.int (nI c)), some (.int 5)] [] w1 (J1, E2, RR R) Q
  refine q_iload_n d176_117 rfl ?_
  refine q_iconst (v := 5) (by decide) d176_118 ?_
  refine q_icmp_ne (tgt := 133) d176_119 rfl (fun h => absurd h (by decide)) (fun _ => ?_)
  refine q_aload_n d176_122 rfl ?_
  refine q_getR (x := 379) d176_123 (fs10_78 176 rfl) rfl (lt_w1 rfl) sh260 (rs260_21 R) (by decide) ?_
  refine q_iconst (v := 0) (by decide) d176_126 ?_
  refine q_aaload (c := 4) (a := 0) (x := 380) d176_127 (lt_w1 rfl) sh379 (by decide) rfl (by decide) (rm379 (k := 0) R (by decide)) (by decide) ?_
  refine q_iload_n d176_128 rfl ?_
  refine q_iaload (a := c) d176_129 (lt_w1 rfl) sh380 rfl (by omega) ?_
  refine q_goto (tgt := 141) d176_130 rfl ?_
  exact q_iret d176_141 rfl (Nat.le_refl _) (Nat.le_refl _) (v5 J1 E2 h3 h4)

set_option maxRecDepth 10000 in
set_option maxHeartbeats 4000000 in
theorem u176_6 {d : Nat} {I : Nat → Nat → Int32} {D : Nat → Nat → UInt64} {R : Nat → Nat → Option Nat} {Q : j_Po} {c : Nat} {β : Bd} {η : VEnv} (hV : BV β) (hc : c < 24) (hd : 90 ≤ d)
    (v1 : RSt β I D)
    (v2 : RIn β I D η)
    (v3 : c < 24)
    (v4 : 70 ≤ 70)
    (v5 : ∀ J1 : Nat → Nat → Int32, ∀ E2 : Nat → Nat → UInt64, (FRr I D J1 E2) → (VQ (J1 380 c) (J1 388 c) (E2 372 c) (val β η c)) → Q (some (.int (J1 388 c))) w1 (J1, E2, RR R)) : j_W 176 d 0 0 0 0 20 [some (.ref 260), some (.int (nI c)), some (.int 6)] [] w1 (I, D, RR R) Q := by
  refine q_iload_n d176_20 rfl ?_
  refine q_if_ne (tgt := 31) d176_21 rfl (fun _ => ?_) (fun h => absurd h (by decide))
  refine q_iload_n d176_31 rfl ?_
  refine q_iconst (v := 1) (by decide) d176_32 ?_
  refine q_icmp_ne (tgt := 50) d176_33 rfl (fun _ => ?_) (fun h => absurd h (by decide))
  refine q_iload_n d176_50 rfl ?_
  refine q_iconst (v := 2) (by decide) d176_51 ?_
  refine q_icmp_ne (tgt := 61) d176_52 rfl (fun _ => ?_) (fun h => absurd h (by decide))
  refine q_iload_n d176_61 rfl ?_
  refine q_iconst (v := 3) (by decide) d176_62 ?_
  refine q_icmp_ne (tgt := 72) d176_63 rfl (fun _ => ?_) (fun h => absurd h (by decide))
  refine q_iload_n d176_72 rfl ?_
  refine q_iconst (v := 4) (by decide) d176_73 ?_
  refine q_icmp_ne (tgt := 83) d176_74 rfl (fun _ => ?_) (fun h => absurd h (by decide))
  refine q_iload_n d176_83 rfl ?_
  refine q_bipush (v := 7) (by decide) d176_84 ?_
  refine q_icmp_ne (tgt := 112) d176_86 rfl (fun _ => ?_) (fun h => absurd h (by decide))
  refine q_aload_n d176_112 rfl ?_
  refine q_iload_n d176_113 rfl ?_
  refine q_invV (o := 260) (ci := 10) (av := [.int (nI c)]) (rest := []) (d' := 70) (mc' := 0) (ms' := 0) d176_114 (cv10_296 176 rfl) rfl (by decide) rfl rfl (by omega) (Nat.le_of_ble_eq_true rfl) (Nat.le_of_ble_eq_true rfl) (lt_w1 rfl) sh260 (Nat.le_refl _) (Nat.le_refl _) ?_
  refine c189 (η := η) hV v1 v2 v3 v4 (fun J1 E2 h3 h4 => ?_)
  show j_W 176 d 0 0 0 0 117 [some (.ref 260), some (.int (nI c)), some (.int 6)] [] w1 (J1, E2, RR R) Q
  refine q_iload_n d176_117 rfl ?_
  refine q_iconst (v := 5) (by decide) d176_118 ?_
  refine q_icmp_ne (tgt := 133) d176_119 rfl (fun _ => ?_) (fun h => absurd h (by decide))
  refine q_aload_n d176_133 rfl ?_
  refine q_getR (x := 387) d176_134 (fs10_81 176 rfl) rfl (lt_w1 rfl) sh260 (rs260_22 R) (by decide) ?_
  refine q_iconst (v := 0) (by decide) d176_137 ?_
  refine q_aaload (c := 4) (a := 0) (x := 388) d176_138 (lt_w1 rfl) sh387 (by decide) rfl (by decide) (rm387 (k := 0) R (by decide)) (by decide) ?_
  refine q_iload_n d176_139 rfl ?_
  refine q_iaload (a := c) d176_140 (lt_w1 rfl) sh388 rfl (by omega) ?_
  exact q_iret d176_141 rfl (Nat.le_refl _) (Nat.le_refl _) (v5 J1 E2 h3 h4)

set_option maxRecDepth 10000 in
set_option maxHeartbeats 4000000 in
theorem u176_7 {d : Nat} {I : Nat → Nat → Int32} {D : Nat → Nat → UInt64} {R : Nat → Nat → Option Nat} {Q : j_Po} {c : Nat} {β : Bd} (hV : BV β) (hc : c < 24) (hd : 90 ≤ d)
    (v1 : (¬ (I 264 c) = 0) → Q (some (.int 0)) w1 (I, D, RR R))
    (v2 : ((I 264 c) = 0) → (¬ (I 262 c) = 0) → Q (some (.int 0)) w1 (I, D, RR R))
    (v3 : ((I 264 c) = 0) → ((I 262 c) = 0) → Q (some (.int 1)) w1 (I, D, RR R)) : j_W 176 d 0 0 0 0 20 [some (.ref 260), some (.int (nI c)), some (.int 7)] [] w1 (I, D, RR R) Q := by
  refine q_iload_n d176_20 rfl ?_
  refine q_if_ne (tgt := 31) d176_21 rfl (fun _ => ?_) (fun h => absurd h (by decide))
  refine q_iload_n d176_31 rfl ?_
  refine q_iconst (v := 1) (by decide) d176_32 ?_
  refine q_icmp_ne (tgt := 50) d176_33 rfl (fun _ => ?_) (fun h => absurd h (by decide))
  refine q_iload_n d176_50 rfl ?_
  refine q_iconst (v := 2) (by decide) d176_51 ?_
  refine q_icmp_ne (tgt := 61) d176_52 rfl (fun _ => ?_) (fun h => absurd h (by decide))
  refine q_iload_n d176_61 rfl ?_
  refine q_iconst (v := 3) (by decide) d176_62 ?_
  refine q_icmp_ne (tgt := 72) d176_63 rfl (fun _ => ?_) (fun h => absurd h (by decide))
  refine q_iload_n d176_72 rfl ?_
  refine q_iconst (v := 4) (by decide) d176_73 ?_
  refine q_icmp_ne (tgt := 83) d176_74 rfl (fun _ => ?_) (fun h => absurd h (by decide))
  refine q_iload_n d176_83 rfl ?_
  refine q_bipush (v := 7) (by decide) d176_84 ?_
  refine q_icmp_ne (tgt := 112) d176_86 rfl (fun h => absurd h (by decide)) (fun _ => ?_)
  refine q_aload_n d176_89 rfl ?_
  refine q_iload_n d176_90 rfl ?_
  refine q_invV (o := 260) (ci := 10) (av := [.int (nI c)]) (rest := []) (d' := 0) (mc' := 0) (ms' := 0) d176_91 (cv10_204 176 rfl) rfl (by decide) rfl rfl (by omega) (Nat.le_of_ble_eq_true rfl) (Nat.le_of_ble_eq_true rfl) (lt_w1 rfl) sh260 (Nat.le_refl _) (Nat.le_refl _) ?_
  refine s170 (k := c) (by first | omega | decide) (Nat.le_refl _) (fun c1 => ?_) (fun c2 => ?_)
  ·
    show j_W 176 d 0 0 0 0 94 [some (.ref 260), some (.int (nI c)), some (.int 7)] [.int 0] w1 (I, D, RR R) Q
    refine q_if_eq (tgt := 110) d176_94 rfl (fun _ => ?_) (fun h => absurd h (by decide))
    refine q_iconst (v := 0) (by decide) d176_110 ?_
    exact q_iret d176_111 rfl (Nat.le_refl _) (Nat.le_refl _) (v1 c1)
  ·
    show j_W 176 d 0 0 0 0 94 [some (.ref 260), some (.int (nI c)), some (.int 7)] [.int 1] w1 (I, D, RR R) Q
    refine q_if_eq (tgt := 110) d176_94 rfl (fun h => absurd h (by decide)) (fun _ => ?_)
    refine q_aload_n d176_97 rfl ?_
    refine q_getR (x := 262) d176_98 (fs10_13 176 rfl) rfl (lt_w1 rfl) sh260 (rs260_1 R) (by decide) ?_
    refine q_iload_n d176_101 rfl ?_
    refine q_zaload (a := c) d176_102 (lt_w1 rfl) sh262 rfl (by omega) ?_
    refine q_if_ne (tgt := 110) d176_103 rfl (fun h3t => ?_) (fun h3f => ?_)
    ·
      refine q_iconst (v := 0) (by decide) d176_110 ?_
      exact q_iret d176_111 rfl (Nat.le_refl _) (Nat.le_refl _) (v2 c2 h3t)
    ·
      refine q_iconst (v := 1) (by decide) d176_106 ?_
      refine q_goto (tgt := 111) d176_107 rfl ?_
      exact q_iret d176_111 rfl (Nat.le_refl _) (Nat.le_refl _) (v3 c2 h3f)

set_option maxRecDepth 10000 in
set_option maxHeartbeats 4000000 in
theorem u58r {d : Nat} {I : Nat → Nat → Int32} {D : Nat → Nat → UInt64} {R : Nat → Nat → Option Nat} {Q : j_Po} {a : Int32} {w : Int32} {b : Int32}  (hR : WFR R) (hd : 2 ≤ d)
    (v1 : ∀ k1 : Nat, (k1 < 24) → (a = nI k1) → ((¬ w < -(8000000 : Int32) ∧ ¬ (8000000 : Int32) < w)) → ∀ k3 : Nat, (k3 < 24) → (b = nI k3) → ((I ((R 112 k1).getD 0) 1) ≤ 0) → j_W 58 d 0 0 0 0 42 [some (.ref 0), some (.int (nI k1)), some (.int w), some (.int (nI k3)), none] [] w1 (I, D, RR R) Q)
    (v2 : ∀ k1 : Nat, (k1 < 24) → (a = nI k1) → ((¬ w < -(8000000 : Int32) ∧ ¬ (8000000 : Int32) < w)) → ∀ k3 : Nat, (k3 < 24) → (b = nI k3) → (¬ (I ((R 112 k1).getD 0) 1) ≤ 0) → Q (some (.long (-3))) w1 (I, D, RR R))
    (v3 : ∀ k1 : Nat, (k1 < 24) → (a = nI k1) → ((¬ w < -(8000000 : Int32) ∧ ¬ (8000000 : Int32) < w)) → (¬ (∃ k : Nat, k < 24 ∧ b = nI k)) → Q (some (.long (-2))) w1 (I, D, RR R))
    (v4 : ∀ k1 : Nat, (k1 < 24) → (a = nI k1) → (¬ ((¬ w < -(8000000 : Int32) ∧ ¬ (8000000 : Int32) < w))) → Q (some (.long (-2))) w1 (I, D, RR R))
    (v5 : (¬ (∃ k : Nat, k < 24 ∧ a = nI k)) → Q (some (.long (-2))) w1 (I, D, RR R)) : j_Call d 58 [.ref 0, .int a, .int w, .int b] w1 (I, D, RR R) 0 0 Q := by
  refine q_enter (L := [some (.ref 0), some (.int a), some (.int w), some (.int b), none]) j_m58 (Nat.le_of_ble_eq_true rfl) rfl ?_
  refine q_iload_n d58_0 rfl ?_
  refine q_invS (av := [.int a]) (rest := []) (d' := 0) (mc' := 0) (ms' := 0) d58_1 (cv9_60 58 rfl) rfl rfl (by omega) (Nat.le_of_ble_eq_true rfl) (Nat.le_of_ble_eq_true rfl) (Nat.le_refl _) (Nat.le_refl _) ?_
  refine r12  (fun k1 h1 h1e => ?_) (fun h1 => ?_)
  ·
    subst h1e
    show j_W 58 d 0 0 0 0 4 [some (.ref 0), some (.int (nI k1)), some (.int w), some (.int b), none] [.int 1] w1 (I, D, RR R) Q
    refine q_if_eq (tgt := 23) d58_4 rfl (fun h => absurd h (by decide)) (fun _ => ?_)
    refine q_iload_n d58_7 rfl ?_
    refine q_ldcI (v := 8000000) d58_8 (kc9_64 58 rfl) ?_
    refine q_invS (av := [.int w, .int 8000000]) (rest := []) (d' := 0) (mc' := 0) (ms' := 0) d58_10 (cv9_65 58 rfl) rfl rfl (by omega) (Nat.le_of_ble_eq_true rfl) (Nat.le_of_ble_eq_true rfl) (Nat.le_refl _) (Nat.le_refl _) ?_
    refine p13  (fun h2 => ?_) (fun h2 => ?_)
    ·
      show j_W 58 d 0 0 0 0 13 [some (.ref 0), some (.int (nI k1)), some (.int w), some (.int b), none] [.int 1] w1 (I, D, RR R) Q
      refine q_if_eq (tgt := 23) d58_13 rfl (fun h => absurd h (by decide)) (fun _ => ?_)
      refine q_iload_n d58_16 rfl ?_
      refine q_invS (av := [.int b]) (rest := []) (d' := 0) (mc' := 0) (ms' := 0) d58_17 (cv9_60 58 rfl) rfl rfl (by omega) (Nat.le_of_ble_eq_true rfl) (Nat.le_of_ble_eq_true rfl) (Nat.le_refl _) (Nat.le_refl _) ?_
      refine r12  (fun k3 h3 h3e => ?_) (fun h3 => ?_)
      ·
        subst h3e
        show j_W 58 d 0 0 0 0 20 [some (.ref 0), some (.int (nI k1)), some (.int w), some (.int (nI k3)), none] [.int 1] w1 (I, D, RR R) Q
        refine q_if_ne (tgt := 27) d58_20 rfl (fun _ => ?_) (fun h => absurd h (by decide))
        refine q_aload_n d58_27 rfl ?_
        refine q_getR (x := 108) d58_28 (fs9_53 58 rfl) rfl (lt_w1 rfl) sh0 (rs0_1 R) (by decide) ?_
        refine q_iload_n d58_31 rfl ?_
        refine q_invV (o := 108) (ci := 0) (av := [.int (nI k1)]) (rest := []) (d' := 0) (mc' := 0) (ms' := 0) d58_32 (cv9_69 58 rfl) rfl (by decide) rfl rfl (by omega) (Nat.le_of_ble_eq_true rfl) (Nat.le_of_ble_eq_true rfl) (lt_w1 rfl) sh108 (Nat.le_refl _) (Nat.le_refl _) ?_
        refine u14 (k := k1) hR (by first | omega | decide) (Nat.le_refl _) (fun c4 => ?_) (fun c5 => ?_)
        ·
          show j_W 58 d 0 0 0 0 35 [some (.ref 0), some (.int (nI k1)), some (.int w), some (.int (nI k3)), none] [.int 0] w1 (I, D, RR R) Q
          refine q_if_eq (tgt := 42) d58_35 rfl (fun _ => ?_) (fun h => absurd h (by decide))
          exact r_sub (L' := [some (.ref 0), some (.int (nI k1)), some (.int w), some (.int (nI k3)), none]) ⟨rfl, rfl, rfl, rfl, trivial⟩ (v1 k1 h1 rfl h2 k3 h3 rfl c4)
        ·
          show j_W 58 d 0 0 0 0 35 [some (.ref 0), some (.int (nI k1)), some (.int w), some (.int (nI k3)), none] [.int 1] w1 (I, D, RR R) Q
          refine q_if_eq (tgt := 42) d58_35 rfl (fun h => absurd h (by decide)) (fun _ => ?_)
          refine q_ldcL (v := (-3)) d58_38 (kc9_136 58 rfl) ?_
          exact q_lret d58_41 rfl (Nat.le_refl _) (Nat.le_refl _) (v2 k1 h1 rfl h2 k3 h3 rfl c5)
      ·
        show j_W 58 d 0 0 0 0 20 [some (.ref 0), some (.int (nI k1)), some (.int w), some (.int b), none] [.int 0] w1 (I, D, RR R) Q
        refine q_if_ne (tgt := 27) d58_20 rfl (fun h => absurd h (by decide)) (fun _ => ?_)
        refine q_ldcL (v := (-2)) d58_23 (kc9_127 58 rfl) ?_
        exact q_lret d58_26 rfl (Nat.le_refl _) (Nat.le_refl _) (v3 k1 h1 rfl h2 h3)
    ·
      show j_W 58 d 0 0 0 0 13 [some (.ref 0), some (.int (nI k1)), some (.int w), some (.int b), none] [.int 0] w1 (I, D, RR R) Q
      refine q_if_eq (tgt := 23) d58_13 rfl (fun _ => ?_) (fun h => absurd h (by decide))
      refine q_ldcL (v := (-2)) d58_23 (kc9_127 58 rfl) ?_
      exact q_lret d58_26 rfl (Nat.le_refl _) (Nat.le_refl _) (v4 k1 h1 rfl h2)
  ·
    show j_W 58 d 0 0 0 0 4 [some (.ref 0), some (.int a), some (.int w), some (.int b), none] [.int 0] w1 (I, D, RR R) Q
    refine q_if_eq (tgt := 23) d58_4 rfl (fun _ => ?_) (fun h => absurd h (by decide))
    refine q_ldcL (v := (-2)) d58_23 (kc9_127 58 rfl) ?_
    exact q_lret d58_26 rfl (Nat.le_refl _) (Nat.le_refl _) (v5 h1)

set_option maxRecDepth 10000 in
set_option maxHeartbeats 4000000 in
theorem u205r {d : Nat} {I : Nat → Nat → Int32} {D : Nat → Nat → UInt64} {R : Nat → Nat → Option Nat} {Q : j_Po} {a : Int32} {w : Int32} {b : Int32}   (hd : 3 ≤ d)
    (v1 : ∀ k1 : Nat, (k1 < 24) → (a = nI k1) → ((¬ w < (-8000000 : Int32) ∧ ¬ (8000000 : Int32) < w)) → ∀ k4 : Nat, (k4 < 24) → (b = nI k4) → (¬ (I 264 k1) = 0) → Q (some (.long (-3))) w1 (I, D, RR R))
    (v2 : ∀ k1 : Nat, (k1 < 24) → (a = nI k1) → ((¬ w < (-8000000 : Int32) ∧ ¬ (8000000 : Int32) < w)) → ∀ k4 : Nat, (k4 < 24) → (b = nI k4) → ((I 264 k1) = 0) → j_W 205 d 0 0 0 0 37 [some (.ref 260), some (.int (nI k1)), some (.int w), some (.int (nI k4)), none, none] [] w1 (I, D, RR R) Q)
    (v3 : ∀ k1 : Nat, (k1 < 24) → (a = nI k1) → ((¬ w < (-8000000 : Int32) ∧ ¬ (8000000 : Int32) < w)) → (¬ (∃ k : Nat, k < 24 ∧ b = nI k)) → Q (some (.long (-2))) w1 (I, D, RR R))
    (v4 : ∀ k1 : Nat, (k1 < 24) → (a = nI k1) → (¬ ((¬ w < (-8000000 : Int32) ∧ ¬ (8000000 : Int32) < w))) → Q (some (.long (-2))) w1 (I, D, RR R))
    (v5 : (¬ (∃ k : Nat, k < 24 ∧ a = nI k)) → Q (some (.long (-2))) w1 (I, D, RR R)) : j_Call d 205 [.ref 260, .int a, .int w, .int b] w1 (I, D, RR R) 0 0 Q := by
  refine q_enter (L := [some (.ref 260), some (.int a), some (.int w), some (.int b), none, none]) j_m205 (Nat.le_of_ble_eq_true rfl) rfl ?_
  refine q_iload_n d205_0 rfl ?_
  refine q_invS (av := [.int a]) (rest := []) (d' := 1) (mc' := 0) (ms' := 0) d205_1 (cv10_312 205 rfl) rfl rfl (by omega) (Nat.le_of_ble_eq_true rfl) (Nat.le_of_ble_eq_true rfl) (Nat.le_refl _) (Nat.le_refl _) ?_
  refine r167 (Nat.le_refl _)  (fun k1 h1 h1e => ?_) (fun h1 => ?_)
  ·
    subst h1e
    show j_W 205 d 0 0 0 0 4 [some (.ref 260), some (.int (nI k1)), some (.int w), some (.int b), none, none] [.int 1] w1 (I, D, RR R) Q
    refine q_if_eq (tgt := 21) d205_4 rfl (fun h => absurd h (by decide)) (fun _ => ?_)
    refine q_iload_n d205_7 rfl ?_
    refine q_invS (av := [.int w]) (rest := []) (d' := 1) (mc' := 0) (ms' := 0) d205_8 (cv10_315 205 rfl) rfl rfl (by omega) (Nat.le_of_ble_eq_true rfl) (Nat.le_of_ble_eq_true rfl) (Nat.le_refl _) (Nat.le_refl _) ?_
    refine s169   (Nat.le_refl _) (fun c2 => ?_) (fun c3 => ?_)
    ·
      show j_W 205 d 0 0 0 0 11 [some (.ref 260), some (.int (nI k1)), some (.int w), some (.int b), none, none] [.int 1] w1 (I, D, RR R) Q
      refine q_if_eq (tgt := 21) d205_11 rfl (fun h => absurd h (by decide)) (fun _ => ?_)
      refine q_iload_n d205_14 rfl ?_
      refine q_invS (av := [.int b]) (rest := []) (d' := 1) (mc' := 0) (ms' := 0) d205_15 (cv10_312 205 rfl) rfl rfl (by omega) (Nat.le_of_ble_eq_true rfl) (Nat.le_of_ble_eq_true rfl) (Nat.le_refl _) (Nat.le_refl _) ?_
      refine r167 (Nat.le_refl _)  (fun k4 h4 h4e => ?_) (fun h4 => ?_)
      ·
        subst h4e
        show j_W 205 d 0 0 0 0 18 [some (.ref 260), some (.int (nI k1)), some (.int w), some (.int (nI k4)), none, none] [.int 1] w1 (I, D, RR R) Q
        refine q_if_ne (tgt := 25) d205_18 rfl (fun _ => ?_) (fun h => absurd h (by decide))
        refine q_aload_n d205_25 rfl ?_
        refine q_iload_n d205_26 rfl ?_
        refine q_invV (o := 260) (ci := 10) (av := [.int (nI k1)]) (rest := []) (d' := 0) (mc' := 0) (ms' := 0) d205_27 (cv10_204 205 rfl) rfl (by decide) rfl rfl (by omega) (Nat.le_of_ble_eq_true rfl) (Nat.le_of_ble_eq_true rfl) (lt_w1 rfl) sh260 (Nat.le_refl _) (Nat.le_refl _) ?_
        refine s170 (k := k1) (by first | omega | decide) (Nat.le_refl _) (fun c5 => ?_) (fun c6 => ?_)
        ·
          show j_W 205 d 0 0 0 0 30 [some (.ref 260), some (.int (nI k1)), some (.int w), some (.int (nI k4)), none, none] [.int 0] w1 (I, D, RR R) Q
          refine q_if_ne (tgt := 37) d205_30 rfl (fun h => absurd h (by decide)) (fun _ => ?_)
          refine q_ldcL (v := (-3)) d205_33 (kc10_339 205 rfl) ?_
          exact q_lret d205_36 rfl (Nat.le_refl _) (Nat.le_refl _) (v1 k1 h1 rfl c2 k4 h4 rfl c5)
        ·
          show j_W 205 d 0 0 0 0 30 [some (.ref 260), some (.int (nI k1)), some (.int w), some (.int (nI k4)), none, none] [.int 1] w1 (I, D, RR R) Q
          refine q_if_ne (tgt := 37) d205_30 rfl (fun _ => ?_) (fun h => absurd h (by decide))
          exact r_sub (L' := [some (.ref 260), some (.int (nI k1)), some (.int w), some (.int (nI k4)), none, none]) ⟨rfl, rfl, rfl, rfl, trivial⟩ (v2 k1 h1 rfl c2 k4 h4 rfl c6)
      ·
        show j_W 205 d 0 0 0 0 18 [some (.ref 260), some (.int (nI k1)), some (.int w), some (.int b), none, none] [.int 0] w1 (I, D, RR R) Q
        refine q_if_ne (tgt := 25) d205_18 rfl (fun h => absurd h (by decide)) (fun _ => ?_)
        refine q_ldcL (v := (-2)) d205_21 (kc10_326 205 rfl) ?_
        exact q_lret d205_24 rfl (Nat.le_refl _) (Nat.le_refl _) (v3 k1 h1 rfl c2 h4)
    ·
      show j_W 205 d 0 0 0 0 11 [some (.ref 260), some (.int (nI k1)), some (.int w), some (.int b), none, none] [.int 0] w1 (I, D, RR R) Q
      refine q_if_eq (tgt := 21) d205_11 rfl (fun _ => ?_) (fun h => absurd h (by decide))
      refine q_ldcL (v := (-2)) d205_21 (kc10_326 205 rfl) ?_
      exact q_lret d205_24 rfl (Nat.le_refl _) (Nat.le_refl _) (v4 k1 h1 rfl c3)
  ·
    show j_W 205 d 0 0 0 0 4 [some (.ref 260), some (.int a), some (.int w), some (.int b), none, none] [.int 0] w1 (I, D, RR R) Q
    refine q_if_eq (tgt := 21) d205_4 rfl (fun _ => ?_) (fun h => absurd h (by decide))
    refine q_ldcL (v := (-2)) d205_21 (kc10_326 205 rfl) ?_
    exact q_lret d205_24 rfl (Nat.le_refl _) (Nat.le_refl _) (v5 h1)

set_option maxRecDepth 10000 in
set_option maxHeartbeats 4000000 in
theorem u58a {d : Nat} {I : Nat → Nat → Int32} {D : Nat → Nat → UInt64} {R : Nat → Nat → Option Nat} {Q : j_Po} {c : Nat} {w : Int32} {o : Nat}  {AP : (Nat → Nat → Int32) → (Nat → Nat → UInt64) → Prop} (hA : ∀ (Q : j_Po), (∀ J E, AP J E → Q none w1 (J, E, RR R)) → j_Call (d - 1) 34 [.ref 107] w1 (I, D, RR R) 0 0 Q) (hd : 1 ≤ d)
    (v1 : ∀ J1 : Nat → Nat → Int32, ∀ E2 : Nat → Nat → UInt64, (AP J1 E2) → j_W 58 d 0 0 0 0 49 [some (.ref 0), some (.int (nI c)), some (.int w), some (.int (nI o)), none] [] w1 (J1, E2, RR R) Q) : j_W 58 d 0 0 0 0 42 [some (.ref 0), some (.int (nI c)), some (.int w), some (.int (nI o)), none] [] w1 (I, D, RR R) Q := by
  refine q_aload_n d58_42 rfl ?_
  refine q_getR (x := 107) d58_43 (fs9_46 58 rfl) rfl (lt_w1 rfl) sh0 (rs0_0 R) (by decide) ?_
  refine q_invV (o := 107) (ci := 8) (av := []) (rest := []) (d' := (d - 1)) (mc' := 0) (ms' := 0) d58_46 (cv9_138 58 rfl) rfl (by decide) rfl rfl (by omega) (Nat.le_of_ble_eq_true rfl) (Nat.le_of_ble_eq_true rfl) (lt_w1 rfl) sh107 (Nat.le_refl _) (Nat.le_refl _) ?_
  refine hA _  (fun J1 E2 h3 => ?_)
  show j_W 58 d 0 0 0 0 49 [some (.ref 0), some (.int (nI c)), some (.int w), some (.int (nI o)), none] [] w1 (J1, E2, RR R) Q
  exact r_sub (L' := [some (.ref 0), some (.int (nI c)), some (.int w), some (.int (nI o)), none]) ⟨rfl, rfl, rfl, rfl, trivial⟩ (v1 J1 E2 h3)

set_option maxRecDepth 10000 in
set_option maxHeartbeats 4000000 in
theorem u58b {d : Nat} {I : Nat → Nat → Int32} {D : Nat → Nat → UInt64} {R : Nat → Nat → Option Nat} {Q : j_Po} {c : Nat} {w : Int32} {o : Nat} {β : Bd} (hR : WFR R) (hV : BV β) (hC : CB β I D R) (hN : NM β I) (hO : OrdB β I) (hc : c < 24) (ho : o < 24) (hd : 50 ≤ d)
    (v1 : c < 24)
    (v2 : o < 24)
    (v3 : Sm (FP.ddiv (FP.i2d w) 4620693217682128896))
    (v4 : I 107 7 = 0)
    (v5 : LE β I D 0 (env β))
    (v6 : 40 ≤ 40)
    (v7 : ∀ J1 : Nat → Nat → Int32, ∀ E2 : Nat → Nat → UInt64, (FRc I D J1 E2) → (J1 107 7 = 0) → (LE β J1 E2 0 (fu (env β) c (0, kp (nI (bK β c)) (FP.ddiv (FP.i2d w) 4620693217682128896)))) → (∀ k, k < 24 → bt (I 206 o) k = true → LC J1 E2 0 k (val β (fu (env β) c (0, kp (nI (bK β c)) (FP.ddiv (FP.i2d w) 4620693217682128896))) k)) → (LC J1 E2 0 o (val β (fu (env β) c (0, kp (nI (bK β c)) (FP.ddiv (FP.i2d w) 4620693217682128896))) o)) → 1 ≤ 1)
    (v8 : ∀ J1 : Nat → Nat → Int32, ∀ E2 : Nat → Nat → UInt64, (FRc I D J1 E2) → (J1 107 7 = 0) → (LE β J1 E2 0 (fu (env β) c (0, kp (nI (bK β c)) (FP.ddiv (FP.i2d w) 4620693217682128896)))) → (∀ k, k < 24 → bt (I 206 o) k = true → LC J1 E2 0 k (val β (fu (env β) c (0, kp (nI (bK β c)) (FP.ddiv (FP.i2d w) 4620693217682128896))) k)) → (LC J1 E2 0 o (val β (fu (env β) c (0, kp (nI (bK β c)) (FP.ddiv (FP.i2d w) 4620693217682128896))) o)) → VR (nI ((val β (fu (env β) c (0, kp (nI (bK β c)) (FP.ddiv (FP.i2d w) 4620693217682128896))) o).1)) (E2 213 o) (val β (fu (env β) c (0, kp (nI (bK β c)) (FP.ddiv (FP.i2d w) 4620693217682128896))) o))
    (v9 : ∀ J1 : Nat → Nat → Int32, ∀ E2 : Nat → Nat → UInt64, (FRc I D J1 E2) → (J1 107 7 = 0) → (LE β J1 E2 0 (fu (env β) c (0, kp (nI (bK β c)) (FP.ddiv (FP.i2d w) 4620693217682128896)))) → (∀ k, k < 24 → bt (I 206 o) k = true → LC J1 E2 0 k (val β (fu (env β) c (0, kp (nI (bK β c)) (FP.ddiv (FP.i2d w) 4620693217682128896))) k)) → (LC J1 E2 0 o (val β (fu (env β) c (0, kp (nI (bK β c)) (FP.ddiv (FP.i2d w) 4620693217682128896))) o)) → (val β (fu (env β) c (0, kp (nI (bK β c)) (FP.ddiv (FP.i2d w) 4620693217682128896))) o).1 = 0 → (val β (fu (env β) c (0, kp (nI (bK β c)) (FP.ddiv (FP.i2d w) 4620693217682128896))) o).2 ≠ 0x8000000000000000)
    (v10 : ∀ J1 : Nat → Nat → Int32, ∀ E2 : Nat → Nat → UInt64, (FRc I D J1 E2) → (J1 107 7 = 0) → (LE β J1 E2 0 (fu (env β) c (0, kp (nI (bK β c)) (FP.ddiv (FP.i2d w) 4620693217682128896)))) → (∀ k, k < 24 → bt (I 206 o) k = true → LC J1 E2 0 k (val β (fu (env β) c (0, kp (nI (bK β c)) (FP.ddiv (FP.i2d w) 4620693217682128896))) k)) → (LC J1 E2 0 o (val β (fu (env β) c (0, kp (nI (bK β c)) (FP.ddiv (FP.i2d w) 4620693217682128896))) o)) → Q (some (.long (ansV (val β (fu (env β) c (0, kp (nI (bK β c)) (FP.ddiv (FP.i2d w) 4620693217682128896))) o)))) w1 (J1, E2, RR R)) : j_W 58 d 0 0 0 0 49 [some (.ref 0), some (.int (nI c)), some (.int w), some (.int (nI o)), none] [] w1 (I, D, RR R) Q := by
  refine q_aload_n d58_49 rfl ?_
  refine q_getR (x := 107) d58_50 (fs9_46 58 rfl) rfl (lt_w1 rfl) sh0 (rs0_0 R) (by decide) ?_
  refine q_iload_n d58_53 rfl ?_
  refine q_iload_n d58_54 rfl ?_
  refine q_i2d d58_55 ?_
  refine q_ldcD (v := 4620693217682128896) d58_56 (kc9_80 58 rfl) ?_
  refine q_ddiv (n64_i8 _) d58_59 ?_
  refine q_iload_n d58_60 rfl ?_
  refine q_invV (o := 107) (ci := 8) (av := [.int (nI c), .double (FP.ddiv (FP.i2d w) 4620693217682128896), .int (nI o)]) (rest := []) (d' := 40) (mc' := 0) (ms' := 0) d58_61 (cv9_141 58 rfl) rfl (by decide) rfl rfl (by omega) (Nat.le_of_ble_eq_true rfl) (Nat.le_of_ble_eq_true rfl) (lt_w1 rfl) sh107 (Nat.le_refl _) (Nat.le_refl _) ?_
  refine c59 (η := env β) hR hV hC hN hO v1 v2 v3 v4 v5 v6 (fun J1 E2 h3 h4 h5 h6 h7 => ?_)
  show j_W 58 d 0 0 0 0 64 [some (.ref 0), some (.int (nI c)), some (.int w), some (.int (nI o)), none] [.int (nI ((val β (fu (env β) c (0, kp (nI (bK β c)) (FP.ddiv (FP.i2d w) 4620693217682128896))) o).1))] w1 (J1, E2, RR R) Q
  refine q_istore (L' := [some (.ref 0), some (.int (nI c)), some (.int w), some (.int (nI o)), some (.int (nI ((val β (fu (env β) c (0, kp (nI (bK β c)) (FP.ddiv (FP.i2d w) 4620693217682128896))) o).1)))]) d58_64 (Nat.le_of_ble_eq_true rfl) rfl ?_
  refine q_aload_n d58_66 rfl ?_
  refine q_getR (x := 107) d58_67 (fs9_46 58 rfl) rfl (lt_w1 rfl) sh0 (rs0_0 R) (by decide) ?_
  refine q_getR (x := 212) d58_70 (fs9_129 58 rfl) rfl (lt_w1 rfl) sh107 (rs107_3 R) (by decide) ?_
  refine q_iconst (v := 0) (by decide) d58_73 ?_
  refine q_aaload (c := 3) (a := 0) (x := 213) d58_74 (lt_w1 rfl) sh212 (by decide) rfl (by decide) (rm212 (k := 0) R (by decide)) (by decide) ?_
  refine q_iload_n d58_75 rfl ?_
  refine q_daload (a := o) d58_76 (lt_w1 rfl) sh213 rfl (by omega) ?_
  refine q_iload d58_77 rfl ?_
  refine q_invS (av := [.double (E2 213 o), .int (nI ((val β (fu (env β) c (0, kp (nI (bK β c)) (FP.ddiv (FP.i2d w) 4620693217682128896))) o).1))]) (rest := []) (d' := 1) (mc' := 0) (ms' := 0) d58_79 (cv9_132 58 rfl) rfl rfl (by omega) (Nat.le_of_ble_eq_true rfl) (Nat.le_of_ble_eq_true rfl) (Nat.le_refl _) (Nat.le_refl _) ?_
  refine c56 (v := (val β (fu (env β) c (0, kp (nI (bK β c)) (FP.ddiv (FP.i2d w) 4620693217682128896))) o)) (v7 J1 E2 h3 h4 h5 h6 h7) (v8 J1 E2 h3 h4 h5 h6 h7) (v9 J1 E2 h3 h4 h5 h6 h7) ?_
  show j_W 58 d 0 0 0 0 82 [some (.ref 0), some (.int (nI c)), some (.int w), some (.int (nI o)), some (.int (nI ((val β (fu (env β) c (0, kp (nI (bK β c)) (FP.ddiv (FP.i2d w) 4620693217682128896))) o).1)))] [.long (ansV (val β (fu (env β) c (0, kp (nI (bK β c)) (FP.ddiv (FP.i2d w) 4620693217682128896))) o))] w1 (J1, E2, RR R) Q
  exact q_lret d58_82 rfl (Nat.le_refl _) (Nat.le_refl _) (v10 J1 E2 h3 h4 h5 h6 h7)

set_option maxRecDepth 10000 in
set_option maxHeartbeats 4000000 in
theorem u206b {d : Nat} {I : Nat → Nat → Int32} {D : Nat → Nat → UInt64} {R : Nat → Nat → Option Nat} {Q : j_Po} {c : Nat} {o : Nat} {y : UInt64} {g : Int32} {β : Bd} {η : VEnv} (hV : BV β) (hc : c < 24) (ho : o < 24) (hd : 90 ≤ d)
    (v1 : RSt β I D)
    (v2 : RIn β I D η)
    (v3 : o < 24)
    (v4 : 80 ≤ 80)
    (v5 : ∀ J1 : Nat → Nat → Int32, ∀ E2 : Nat → Nat → UInt64, (FRr I D J1 E2) → (VQ (J1 380 o) (J1 388 o) (E2 372 o) (val β η o)) → g = 0 ∨ g = 1)
    (v6 : ∀ J1 : Nat → Nat → Int32, ∀ E2 : Nat → Nat → UInt64, (FRr I D J1 E2) → (VQ (J1 380 o) (J1 388 o) (E2 372 o) (val β η o)) → Q (some (.double (E2 372 o))) w1 ((j_u J1 262 c g), (j_u E2 263 c y), RR R)) : j_W 206 d 0 0 0 0 30 [some (.ref 260), some (.int (nI c)), none, none, some (.int (nI o)), some (.double y), none, some (.int g), none, none] [] w1 (I, D, RR R) Q := by
  refine q_aload_n d206_30 rfl ?_
  refine q_iload d206_31 rfl ?_
  refine q_invV (o := 260) (ci := 10) (av := [.int (nI o)]) (rest := []) (d' := 80) (mc' := 0) (ms' := 0) d206_33 (cv10_328 206 rfl) rfl (by decide) rfl rfl (by omega) (Nat.le_of_ble_eq_true rfl) (Nat.le_of_ble_eq_true rfl) (lt_w1 rfl) sh260 (Nat.le_refl _) (Nat.le_refl _) ?_
  refine c199 (η := η) hV v1 v2 v3 v4 (fun J1 E2 h3 h4 => ?_)
  show j_W 206 d 0 0 0 0 36 [some (.ref 260), some (.int (nI c)), none, none, some (.int (nI o)), some (.double y), none, some (.int g), none, none] [.double (E2 372 o)] w1 (J1, E2, RR R) Q
  refine q_dstore (L' := [some (.ref 260), some (.int (nI c)), none, none, some (.int (nI o)), some (.double y), none, some (.int g), some (.double (E2 372 o)), none]) d206_36 (Nat.le_of_ble_eq_true rfl) rfl ?_
  refine q_aload_n d206_38 rfl ?_
  refine q_getR (x := 263) d206_39 (fs10_17 206 rfl) rfl (lt_w1 rfl) sh260 (rs260_2 R) (by decide) ?_
  refine q_iload_n d206_42 rfl ?_
  refine q_dload d206_43 rfl ?_
  refine q_dastore (a := c) d206_45 (lt_w1 rfl) sh263 rfl (by omega) ?_
  refine q_aload_n d206_46 rfl ?_
  refine q_getR (x := 262) d206_47 (fs10_13 206 rfl) rfl (lt_w1 rfl) sh260 (rs260_1 R) (by decide) ?_
  refine q_iload_n d206_50 rfl ?_
  refine q_iload d206_51 rfl ?_
  refine q_zastore (a := c) d206_53 (v5 J1 E2 h3 h4) (lt_w1 rfl) sh262 rfl (by omega) ?_
  refine q_dload d206_54 rfl ?_
  exact q_dret d206_56 rfl (Nat.le_refl _) (Nat.le_refl _) (v6 J1 E2 h3 h4)

