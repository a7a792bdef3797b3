/-! asks: walks -/
set_option maxRecDepth 10000 in
set_option maxHeartbeats 4000000 in
theorem u123r {d : Nat} {I : Nat → Nat → Int32} {D : Nat → Nat → UInt64} {R : Nat → Nat → Option Nat} {Q : j_Po} {a : Int32} {b : Int32}  (hR : WFR R) (hd : 1 ≤ d)
    (v1 : ∀ k1 : Nat, (k1 < 6) → (a = nI k1) → (b < 0) → Q (some (.int (-2))) w1 (I, D, RR R))
    (v2 : ∀ k1 : Nat, (k1 < 6) → (a = nI k1) → (¬ b < 0) → (b ≤ 8) → (¬ (I ((R 113 k1).getD 0) 0) = 0) → (b = 0) → j_W 123 d 0 0 0 0 88 [some (.ref 0), some (.int (nI k1)), none, some (.ref ((R 113 k1).getD 0))] [] w1 (I, D, RR R) Q)
    (v3 : ∀ k1 : Nat, (k1 < 6) → (a = nI k1) → (¬ b < 0) → (b ≤ 8) → (¬ (I ((R 113 k1).getD 0) 0) = 0) → (¬ b = 0) → (b = 1) → j_W 123 d 0 0 0 0 101 [some (.ref 0), some (.int (nI k1)), none, some (.ref ((R 113 k1).getD 0))] [] w1 (I, D, RR R) Q)
    (v4 : ∀ k1 : Nat, (k1 < 6) → (a = nI k1) → (¬ b < 0) → (b ≤ 8) → (¬ (I ((R 113 k1).getD 0) 0) = 0) → (¬ b = 0) → (¬ b = 1) → (b = 2) → j_W 123 d 0 0 0 0 114 [some (.ref 0), some (.int (nI k1)), none, some (.ref ((R 113 k1).getD 0))] [] w1 (I, D, RR R) Q)
    (v5 : ∀ k1 : Nat, (k1 < 6) → (a = nI k1) → (¬ b < 0) → (b ≤ 8) → (¬ (I ((R 113 k1).getD 0) 0) = 0) → (¬ b = 0) → (¬ b = 1) → (¬ b = 2) → (b = 3) → j_W 123 d 0 0 0 0 127 [some (.ref 0), some (.int (nI k1)), none, some (.ref ((R 113 k1).getD 0))] [] w1 (I, D, RR R) Q)
    (v6 : ∀ k1 : Nat, (k1 < 6) → (a = nI k1) → (¬ b < 0) → (b ≤ 8) → (¬ (I ((R 113 k1).getD 0) 0) = 0) → (¬ b = 0) → (¬ b = 1) → (¬ b = 2) → (¬ b = 3) → (b = 4) → j_W 123 d 0 0 0 0 140 [some (.ref 0), some (.int (nI k1)), none, some (.ref ((R 113 k1).getD 0))] [] w1 (I, D, RR R) Q)
    (v7 : ∀ k1 : Nat, (k1 < 6) → (a = nI k1) → (¬ b < 0) → (b ≤ 8) → (¬ (I ((R 113 k1).getD 0) 0) = 0) → (¬ b = 0) → (¬ b = 1) → (¬ b = 2) → (¬ b = 3) → (¬ b = 4) → (b = 5) → j_W 123 d 0 0 0 0 153 [some (.ref 0), some (.int (nI k1)), none, some (.ref ((R 113 k1).getD 0))] [] w1 (I, D, RR R) Q)
    (v8 : ∀ k1 : Nat, (k1 < 6) → (a = nI k1) → (¬ b < 0) → (b ≤ 8) → (¬ (I ((R 113 k1).getD 0) 0) = 0) → (¬ b = 0) → (¬ b = 1) → (¬ b = 2) → (¬ b = 3) → (¬ b = 4) → (¬ b = 5) → (b = 6) → j_W 123 d 0 0 0 0 158 [some (.ref 0), some (.int (nI k1)), none, some (.ref ((R 113 k1).getD 0))] [] w1 (I, D, RR R) Q)
    (v9 : ∀ k1 : Nat, (k1 < 6) → (a = nI k1) → (¬ b < 0) → (b ≤ 8) → (¬ (I ((R 113 k1).getD 0) 0) = 0) → (¬ b = 0) → (¬ b = 1) → (¬ b = 2) → (¬ b = 3) → (¬ b = 4) → (¬ b = 5) → (¬ b = 6) → (b = 7) → j_W 123 d 0 0 0 0 163 [some (.ref 0), some (.int (nI k1)), none, some (.ref ((R 113 k1).getD 0))] [] w1 (I, D, RR R) Q)
    (v10 : ∀ k1 : Nat, (k1 < 6) → (a = nI k1) → (¬ b < 0) → (b ≤ 8) → (¬ (I ((R 113 k1).getD 0) 0) = 0) → (¬ b = 0) → (¬ b = 1) → (¬ b = 2) → (¬ b = 3) → (¬ b = 4) → (¬ b = 5) → (¬ b = 6) → (¬ b = 7) → j_W 123 d 0 0 0 0 172 [some (.ref 0), some (.int (nI k1)), none, some (.ref ((R 113 k1).getD 0))] [] w1 (I, D, RR R) Q)
    (v11 : ∀ k1 : Nat, (k1 < 6) → (a = nI k1) → (¬ b < 0) → (b ≤ 8) → ((I ((R 113 k1).getD 0) 0) = 0) → Q (some (.int (-3))) w1 (I, D, RR R))
    (v12 : ∀ k1 : Nat, (k1 < 6) → (a = nI k1) → (¬ b < 0) → (¬ b ≤ 8) → Q (some (.int (-2))) w1 (I, D, RR R))
    (v13 : (¬ (∃ k : Nat, k < 6 ∧ a = nI k)) → Q (some (.int (-2))) w1 (I, D, RR R)) : j_Call d 123 [.ref 0, .int a, .int b] w1 (I, D, RR R) 0 0 Q := by
  refine q_enter (L := [some (.ref 0), some (.int a), some (.int b), none]) j_m123 (Nat.le_of_ble_eq_true rfl) rfl ?_
  refine q_iload_n d123_0 rfl ?_
  refine q_invS (av := [.int a]) (rest := []) (d' := 0) (mc' := 0) (ms' := 0) d123_1 (cv9_183 123 rfl) rfl rfl (by omega) (Nat.le_of_ble_eq_true rfl) (Nat.le_of_ble_eq_true rfl) (Nat.le_refl _) (Nat.le_refl _) ?_
  refine r39  (fun k1 h1 h1e => ?_) (fun h1 => ?_)
  ·
    subst h1e
    show j_W 123 d 0 0 0 0 4 [some (.ref 0), some (.int (nI k1)), some (.int b), none] [.int 1] w1 (I, D, RR R) Q
    refine q_if_eq (tgt := 17) d123_4 rfl (fun h => absurd h (by decide)) (fun _ => ?_)
    refine q_iload_n d123_7 rfl ?_
    refine q_if_lt (tgt := 17) d123_8 rfl (fun h2t => ?_) (fun h2f => ?_)
    ·
      refine q_bipush (v := (-2)) (by decide) d123_17 ?_
      exact q_iret d123_19 rfl (Nat.le_refl _) (Nat.le_refl _) (v1 k1 h1 rfl h2t)
    ·
      refine q_iload_n d123_11 rfl ?_
      refine q_bipush (v := 8) (by decide) d123_12 ?_
      refine q_icmp_le (tgt := 20) d123_14 rfl (fun h3t => ?_) (fun h3f => ?_)
      ·
        refine q_aload_n d123_20 rfl ?_
        refine q_getR (x := 108) d123_21 (fs9_53 123 rfl) rfl (lt_w1 rfl) sh0 (rs0_1 R) (by decide) ?_
        refine q_getR (x := 113) d123_24 (fs9_197 123 rfl) rfl (lt_w1 rfl) sh108 (rs108_4 R) (by decide) ?_
        refine q_iload_n d123_27 rfl ?_
        have g5 := hR.g k1 (by omega)
        refine q_aaload (c := 7) (a := k1) (x := ((R 113 k1).getD 0)) d123_28 (lt_w1 rfl) sh113 (by decide) rfl (by omega) ((RR_d rfl).trans g5.1) (lt1000 (isG_lt g5.2)) ?_
        refine q_astore_n (L' := [some (.ref 0), some (.int (nI k1)), some (.int b), some (.ref ((R 113 k1).getD 0))]) d123_29 (Nat.le_of_ble_eq_true rfl) (Nat.ne_of_lt (Nat.lt_trans (lt1000 (isG_lt g5.2)) (by decide))) rfl ?_
        refine q_aload_n d123_30 rfl ?_
        refine q_getI d123_31 (fs9_231 123 rfl) rfl (isG_lt g5.2) (isG_sh g5.2) ?_
        refine q_if_ne (tgt := 40) d123_34 rfl (fun h6t => ?_) (fun h6f => ?_)
        ·
          refine q_iload_n d123_40 rfl ?_
          by_cases h7 : b = 0
          ·
            refine r_int (y := 0) h7 ?_
            refine q_tableIn (tgt := 88) d123_41 (by decide) (by decide) rfl rfl ?_
            exact r_sub (L' := [some (.ref 0), some (.int (nI k1)), none, some (.ref ((R 113 k1).getD 0))]) ⟨rfl, rfl, rfl, trivial⟩ (v2 k1 h1 rfl h2f h3t h6t h7)
          by_cases h8 : b = 1
          ·
            refine r_int (y := 1) h8 ?_
            refine q_tableIn (tgt := 101) d123_41 (by decide) (by decide) rfl rfl ?_
            exact r_sub (L' := [some (.ref 0), some (.int (nI k1)), none, some (.ref ((R 113 k1).getD 0))]) ⟨rfl, rfl, rfl, trivial⟩ (v3 k1 h1 rfl h2f h3t h6t h7 h8)
          by_cases h9 : b = 2
          ·
            refine r_int (y := 2) h9 ?_
            refine q_tableIn (tgt := 114) d123_41 (by decide) (by decide) rfl rfl ?_
            exact r_sub (L' := [some (.ref 0), some (.int (nI k1)), none, some (.ref ((R 113 k1).getD 0))]) ⟨rfl, rfl, rfl, trivial⟩ (v4 k1 h1 rfl h2f h3t h6t h7 h8 h9)
          by_cases h10 : b = 3
          ·
            refine r_int (y := 3) h10 ?_
            refine q_tableIn (tgt := 127) d123_41 (by decide) (by decide) rfl rfl ?_
            exact r_sub (L' := [some (.ref 0), some (.int (nI k1)), none, some (.ref ((R 113 k1).getD 0))]) ⟨rfl, rfl, rfl, trivial⟩ (v5 k1 h1 rfl h2f h3t h6t h7 h8 h9 h10)
          by_cases h11 : b = 4
          ·
            refine r_int (y := 4) h11 ?_
            refine q_tableIn (tgt := 140) d123_41 (by decide) (by decide) rfl rfl ?_
            exact r_sub (L' := [some (.ref 0), some (.int (nI k1)), none, some (.ref ((R 113 k1).getD 0))]) ⟨rfl, rfl, rfl, trivial⟩ (v6 k1 h1 rfl h2f h3t h6t h7 h8 h9 h10 h11)
          by_cases h12 : b = 5
          ·
            refine r_int (y := 5) h12 ?_
            refine q_tableIn (tgt := 153) d123_41 (by decide) (by decide) rfl rfl ?_
            exact r_sub (L' := [some (.ref 0), some (.int (nI k1)), none, some (.ref ((R 113 k1).getD 0))]) ⟨rfl, rfl, rfl, trivial⟩ (v7 k1 h1 rfl h2f h3t h6t h7 h8 h9 h10 h11 h12)
          by_cases h13 : b = 6
          ·
            refine r_int (y := 6) h13 ?_
            refine q_tableIn (tgt := 158) d123_41 (by decide) (by decide) rfl rfl ?_
            exact r_sub (L' := [some (.ref 0), some (.int (nI k1)), none, some (.ref ((R 113 k1).getD 0))]) ⟨rfl, rfl, rfl, trivial⟩ (v8 k1 h1 rfl h2f h3t h6t h7 h8 h9 h10 h11 h12 h13)
          by_cases h14 : b = 7
          ·
            refine r_int (y := 7) h14 ?_
            refine q_tableIn (tgt := 163) d123_41 (by decide) (by decide) rfl rfl ?_
            exact r_sub (L' := [some (.ref 0), some (.int (nI k1)), none, some (.ref ((R 113 k1).getD 0))]) ⟨rfl, rfl, rfl, trivial⟩ (v9 k1 h1 rfl h2f h3t h6t h7 h8 h9 h10 h11 h12 h13 h14)
          have g15 : (b).toInt < 0 ∨ 7 < (b).toInt := tsw_out2 0 8 (by decide) (fun c hc => by
            have : c = 0 ∨ c = 1 ∨ c = 2 ∨ c = 3 ∨ c = 4 ∨ c = 5 ∨ c = 6 ∨ c = 7 := by omega
            rcases this with rfl | rfl | rfl | rfl | rfl | rfl | rfl | rfl
            · exact h7
            · exact h8
            · exact h9
            · exact h10
            · exact h11
            · exact h12
            · exact h13
            · exact h14)
          refine q_tableOut (tgt := 172) d123_41 g15 rfl ?_
          exact r_sub (L' := [some (.ref 0), some (.int (nI k1)), none, some (.ref ((R 113 k1).getD 0))]) ⟨rfl, rfl, rfl, trivial⟩ (v10 k1 h1 rfl h2f h3t h6t h7 h8 h9 h10 h11 h12 h13 h14)
        ·
          refine q_bipush (v := (-3)) (by decide) d123_37 ?_
          exact q_iret d123_39 rfl (Nat.le_refl _) (Nat.le_refl _) (v11 k1 h1 rfl h2f h3t h6f)
      ·
        refine q_bipush (v := (-2)) (by decide) d123_17 ?_
        exact q_iret d123_19 rfl (Nat.le_refl _) (Nat.le_refl _) (v12 k1 h1 rfl h2f h3f)
  ·
    show j_W 123 d 0 0 0 0 4 [some (.ref 0), some (.int a), some (.int b), none] [.int 0] w1 (I, D, RR R) Q
    refine q_if_eq (tgt := 17) d123_4 rfl (fun _ => ?_) (fun h => absurd h (by decide))
    refine q_bipush (v := (-2)) (by decide) d123_17 ?_
    exact q_iret d123_19 rfl (Nat.le_refl _) (Nat.le_refl _) (v13 h1)

set_option maxRecDepth 10000 in
set_option maxHeartbeats 4000000 in
theorem u260r {d : Nat} {I : Nat → Nat → Int32} {D : Nat → Nat → UInt64} {R : Nat → Nat → Option Nat} {Q : j_Po} {a : Int32} {b : Int32}   (hd : 2 ≤ d)
    (v1 : ∀ k1 : Nat, (k1 < 6) → (a = nI k1) → ((¬ b < (0 : Int32) ∧ ¬ (8 : Int32) < b)) → (¬ (I 315 k1) = 0) → j_W 260 d 0 0 0 0 32 [some (.ref 260), some (.int (nI k1)), some (.int b), none] [] w1 (I, D, RR R) Q)
    (v2 : ∀ k1 : Nat, (k1 < 6) → (a = nI k1) → ((¬ b < (0 : Int32) ∧ ¬ (8 : Int32) < b)) → ((I 315 k1) = 0) → Q (some (.int (-3))) w1 (I, D, RR R))
    (v3 : ∀ k1 : Nat, (k1 < 6) → (a = nI k1) → (¬ ((¬ b < (0 : Int32) ∧ ¬ (8 : Int32) < b))) → Q (some (.int (-2))) w1 (I, D, RR R))
    (v4 : (¬ (∃ k : Nat, k < 6 ∧ a = nI k)) → Q (some (.int (-2))) w1 (I, D, RR R)) : j_Call d 260 [.ref 260, .int a, .int b] w1 (I, D, RR R) 0 0 Q := by
  refine q_enter (L := [some (.ref 260), some (.int a), some (.int b), none]) j_m260 (Nat.le_of_ble_eq_true rfl) rfl ?_
  refine q_iload_n d260_0 rfl ?_
  refine q_invS (av := [.int a]) (rest := []) (d' := 1) (mc' := 0) (ms' := 0) d260_1 (cv10_480 260 rfl) rfl rfl (by omega) (Nat.le_of_ble_eq_true rfl) (Nat.le_of_ble_eq_true rfl) (Nat.le_refl _) (Nat.le_refl _) ?_
  refine r249 (Nat.le_refl _)  (fun k1 h1 h1e => ?_) (fun h1 => ?_)
  ·
    subst h1e
    show j_W 260 d 0 0 0 0 4 [some (.ref 260), some (.int (nI k1)), some (.int b), none] [.int 1] w1 (I, D, RR R) Q
    refine q_if_eq (tgt := 17) d260_4 rfl (fun h => absurd h (by decide)) (fun _ => ?_)
    refine q_iload_n d260_7 rfl ?_
    refine q_iconst (v := 0) (by decide) d260_8 ?_
    refine q_bipush (v := 8) (by decide) d260_9 ?_
    refine q_invS (av := [.int b, .int 0, .int 8]) (rest := []) (d' := 0) (mc' := 0) (ms' := 0) d260_11 (cv10_183 260 rfl) rfl rfl (by omega) (Nat.le_of_ble_eq_true rfl) (Nat.le_of_ble_eq_true rfl) (Nat.le_refl _) (Nat.le_refl _) ?_
    refine p168  (fun h2 => ?_) (fun h2 => ?_)
    ·
      show j_W 260 d 0 0 0 0 14 [some (.ref 260), some (.int (nI k1)), some (.int b), none] [.int 1] w1 (I, D, RR R) Q
      refine q_if_ne (tgt := 20) d260_14 rfl (fun _ => ?_) (fun h => absurd h (by decide))
      refine q_aload_n d260_20 rfl ?_
      refine q_getR (x := 315) d260_21 (fs10_34 260 rfl) rfl (lt_w1 rfl) sh260 (rs260_6 R) (by decide) ?_
      refine q_iload_n d260_24 rfl ?_
      refine q_zaload (a := k1) d260_25 (lt_w1 rfl) sh315 rfl (by omega) ?_
      refine q_if_ne (tgt := 32) d260_26 rfl (fun h3t => ?_) (fun h3f => ?_)
      ·
        exact r_sub (L' := [some (.ref 260), some (.int (nI k1)), some (.int b), none]) ⟨rfl, rfl, rfl, trivial⟩ (v1 k1 h1 rfl h2 h3t)
      ·
        refine q_bipush (v := (-3)) (by decide) d260_29 ?_
        exact q_iret d260_31 rfl (Nat.le_refl _) (Nat.le_refl _) (v2 k1 h1 rfl h2 h3f)
    ·
      show j_W 260 d 0 0 0 0 14 [some (.ref 260), some (.int (nI k1)), some (.int b), none] [.int 0] w1 (I, D, RR R) Q
      refine q_if_ne (tgt := 20) d260_14 rfl (fun h => absurd h (by decide)) (fun _ => ?_)
      refine q_bipush (v := (-2)) (by decide) d260_17 ?_
      exact q_iret d260_19 rfl (Nat.le_refl _) (Nat.le_refl _) (v3 k1 h1 rfl h2)
  ·
    show j_W 260 d 0 0 0 0 4 [some (.ref 260), some (.int a), some (.int b), none] [.int 0] w1 (I, D, RR R) Q
    refine q_if_eq (tgt := 17) d260_4 rfl (fun _ => ?_) (fun h => absurd h (by decide))
    refine q_bipush (v := (-2)) (by decide) d260_17 ?_
    exact q_iret d260_19 rfl (Nat.le_refl _) (Nat.le_refl _) (v4 h1)

set_option maxRecDepth 10000 in
set_option maxHeartbeats 4000000 in
theorem u123_4 {d : Nat} {I : Nat → Nat → Int32} {D : Nat → Nat → UInt64} {R : Nat → Nat → Option Nat} {Q : j_Po} {t : Nat} (hg : isG (go R t)) (ht : t < 6) (hd : 1 ≤ d)
    (v1 : Q (some (.int (I 208 (24 + t)))) w1 (I, D, RR R)) : j_W 123 d 0 0 0 0 140 [some (.ref 0), some (.int (nI t)), none, some (.ref (go R t))] [] w1 (I, D, RR R) Q := by
  refine q_aload_n d123_140 rfl ?_
  refine q_getR (x := 204) d123_141 (fs9_58 123 rfl) rfl (lt_w1 rfl) sh0 (rs0_2 R) (by decide) ?_
  refine q_getR (x := 208) d123_144 (fs9_114 123 rfl) rfl (lt_w1 rfl) sh204 (rs204_3 R) (by decide) ?_
  refine q_bipush (v := 24) (by decide) d123_147 ?_
  refine q_iload_n d123_149 rfl ?_
  refine q_iadd d123_150 ?_
  refine r_int (y := (nI (24 + t))) (nI_add 24 t) ?_
  refine q_iaload (a := (24 + t)) d123_151 (lt_w1 rfl) sh208 rfl (by omega) ?_
  exact q_iret d123_152 rfl (Nat.le_refl _) (Nat.le_refl _) v1

set_option maxRecDepth 10000 in
set_option maxHeartbeats 4000000 in
theorem u123_5 {d : Nat} {I : Nat → Nat → Int32} {D : Nat → Nat → UInt64} {R : Nat → Nat → Option Nat} {Q : j_Po} {t : Nat} (hg : isG (go R t)) (ht : t < 6) (hd : 1 ≤ d)
    (v1 : Q (some (.int (I (go R t) 4))) w1 (I, D, RR R)) : j_W 123 d 0 0 0 0 153 [some (.ref 0), some (.int (nI t)), none, some (.ref (go R t))] [] w1 (I, D, RR R) Q := by
  refine q_aload_n d123_153 rfl ?_
  refine q_getI d123_154 (fs9_286 123 rfl) rfl (isG_lt hg) (isG_sh hg) ?_
  exact q_iret d123_157 rfl (Nat.le_refl _) (Nat.le_refl _) v1

set_option maxRecDepth 10000 in
set_option maxHeartbeats 4000000 in
theorem u123_6 {d : Nat} {I : Nat → Nat → Int32} {D : Nat → Nat → UInt64} {R : Nat → Nat → Option Nat} {Q : j_Po} {t : Nat} (hg : isG (go R t)) (ht : t < 6) (hd : 1 ≤ d)
    (v1 : Q (some (.int (I (go R t) 5))) w1 (I, D, RR R)) : j_W 123 d 0 0 0 0 158 [some (.ref 0), some (.int (nI t)), none, some (.ref (go R t))] [] w1 (I, D, RR R) Q := by
  refine q_aload_n d123_158 rfl ?_
  refine q_getI d123_159 (fs9_289 123 rfl) rfl (isG_lt hg) (isG_sh hg) ?_
  exact q_iret d123_162 rfl (Nat.le_refl _) (Nat.le_refl _) v1

set_option maxRecDepth 10000 in
set_option maxHeartbeats 4000000 in
theorem u260_4 {d : Nat} {I : Nat → Nat → Int32} {D : Nat → Nat → UInt64} {R : Nat → Nat → Option Nat} {Q : j_Po} {t : Nat} {β : Bd} {X : Nat → Nat → Bool} {bv : Nat → Nat} (hV : BV β) (ht : t < 6) (h316 : I 316 t = nI (bO β t)) (hd : 90 ≤ d)
    (v1 : RcE β X)
    (v2 : BuE β X bv)
    (v3 : 80 ≤ 80)
    (v4 : bO β t < 24)
    (v5 : RBN β I)
    (v6 : ∀ J1 : Nat → Nat → Int32, ∀ b2 : Nat, (∀ o, o ≠ 361 → o ≠ 362 → J1 o = I o) → (MBu bv J1) → (RBN β J1) → (b2 ≤ 1000000) → (min 2001 b2 = bv (bO β t)) → t < 6)
    (v7 : ∀ J1 : Nat → Nat → Int32, ∀ b2 : Nat, (∀ o, o ≠ 361 → o ≠ 362 → J1 o = I o) → (MBu bv J1) → (RBN β J1) → (b2 ≤ 1000000) → (min 2001 b2 = bv (bO β t)) → bL β t = true)
    (v8 : ∀ J1 : Nat → Nat → Int32, ∀ b2 : Nat, (∀ o, o ≠ 361 → o ≠ 362 → J1 o = I o) → (MBu bv J1) → (RBN β J1) → (b2 ≤ 1000000) → (min 2001 b2 = bv (bO β t)) → MBu bv J1)
    (v9 : ∀ J1 : Nat → Nat → Int32, ∀ b2 : Nat, (∀ o, o ≠ 361 → o ≠ 362 → J1 o = I o) → (MBu bv J1) → (RBN β J1) → (b2 ≤ 1000000) → (min 2001 b2 = bv (bO β t)) → RBN β J1)
    (v10 : ∀ J1 : Nat → Nat → Int32, ∀ b2 : Nat, (∀ o, o ≠ 361 → o ≠ 362 → J1 o = I o) → (MBu bv J1) → (RBN β J1) → (b2 ≤ 1000000) → (min 2001 b2 = bv (bO β t)) → ∀ J8 : Nat → Nat → Int32, ∀ b9 : Nat, (∀ o, o ≠ 361 → o ≠ 362 → J8 o = J1 o) → (MBu bv J8) → (RBN β J8) → (b9 ≤ 1000000) → (min 2001 b9 = bv (24 + t)) → Q (some (.int (nI b9))) w1 (J8, D, RR R)) : j_W 260 d 0 0 0 0 32 [some (.ref 260), some (.int (nI t)), some (.int 4), none] [] w1 (I, D, RR R) Q := by
  refine q_iload_n d260_32 rfl ?_
  refine q_iconst (v := 2) (by decide) d260_33 ?_
  refine q_icmp_ge (tgt := 52) d260_34 rfl (fun _ => ?_) (fun h => absurd h (by decide))
  refine q_iload_n d260_52 rfl ?_
  refine q_iconst (v := 2) (by decide) d260_53 ?_
  refine q_icmp_ne (tgt := 63) d260_54 rfl (fun _ => ?_) (fun h => absurd h (by decide))
  refine q_iload_n d260_63 rfl ?_
  refine q_iconst (v := 4) (by decide) d260_64 ?_
  refine q_icmp_ne (tgt := 85) d260_65 rfl (fun h => absurd h (by decide)) (fun _ => ?_)
  refine q_aload_n d260_68 rfl ?_
  refine q_aload_n d260_69 rfl ?_
  refine q_getR (x := 316) d260_70 (fs10_37 260 rfl) rfl (lt_w1 rfl) sh260 (rs260_7 R) (by decide) ?_
  refine q_iload_n d260_73 rfl ?_
  refine q_iaload (a := t) d260_74 (lt_w1 rfl) sh316 rfl (by omega) ?_
  refine r_int (y := nI (bO β t)) h316 ?_
  refine q_invV (o := 260) (ci := 10) (av := [.int (nI (bO β t))]) (rest := []) (d' := 80) (mc' := 0) (ms' := 0) d260_75 (cv10_237 260 rfl) rfl (by decide) rfl rfl (by omega) (Nat.le_of_ble_eq_true rfl) (Nat.le_of_ble_eq_true rfl) (lt_w1 rfl) sh260 (Nat.le_refl _) (Nat.le_refl _) ?_
  refine c183 (bv := bv) (X := X) hV v1 v2 v3 v4 v5 (fun J1 b2 h3 h4 h5 h6 h7 => ?_)
  show j_W 260 d 0 0 0 0 78 [some (.ref 260), some (.int (nI t)), some (.int 4), none] [.int (nI b2)] w1 (J1, D, RR R) Q
  refine q_pop rfl d260_78 ?_
  refine q_aload_n d260_79 rfl ?_
  refine q_iload_n d260_80 rfl ?_
  refine q_invV (o := 260) (ci := 10) (av := [.int (nI t)]) (rest := []) (d' := 80) (mc' := 0) (ms' := 0) d260_81 (cv10_217 260 rfl) rfl (by decide) rfl rfl (by omega) (Nat.le_of_ble_eq_true rfl) (Nat.le_of_ble_eq_true rfl) (lt_w1 rfl) sh260 (Nat.le_refl _) (Nat.le_refl _) ?_
  refine c185t (bv := bv) (X := X) hV v1 v2 v3 (v6 J1 b2 h3 h4 h5 h6 h7) (v7 J1 b2 h3 h4 h5 h6 h7) (v8 J1 b2 h3 h4 h5 h6 h7) (v9 J1 b2 h3 h4 h5 h6 h7) (fun J8 b9 h10 h11 h12 h13 h14 => ?_)
  show j_W 260 d 0 0 0 0 84 [some (.ref 260), some (.int (nI t)), some (.int 4), none] [.int (nI b9)] w1 (J8, D, RR R) Q
  exact q_iret d260_84 rfl (Nat.le_refl _) (Nat.le_refl _) (v10 J1 b2 h3 h4 h5 h6 h7 J8 b9 h10 h11 h12 h13 h14)

set_option maxRecDepth 10000 in
set_option maxHeartbeats 4000000 in
theorem u260_5 {d : Nat} {I : Nat → Nat → Int32} {D : Nat → Nat → UInt64} {R : Nat → Nat → Option Nat} {Q : j_Po} {t : Nat} {β : Bd} (hV : BV β) (ht : t < 6) (h316 : I 316 t = nI (bO β t)) (hd : 90 ≤ d)
    (v1 : Q (some (.int (I 319 (2 * t)))) w1 (I, D, RR R)) : j_W 260 d 0 0 0 0 32 [some (.ref 260), some (.int (nI t)), some (.int 5), none] [] w1 (I, D, RR R) Q := by
  refine q_iload_n d260_32 rfl ?_
  refine q_iconst (v := 2) (by decide) d260_33 ?_
  refine q_icmp_ge (tgt := 52) d260_34 rfl (fun _ => ?_) (fun h => absurd h (by decide))
  refine q_iload_n d260_52 rfl ?_
  refine q_iconst (v := 2) (by decide) d260_53 ?_
  refine q_icmp_ne (tgt := 63) d260_54 rfl (fun _ => ?_) (fun h => absurd h (by decide))
  refine q_iload_n d260_63 rfl ?_
  refine q_iconst (v := 4) (by decide) d260_64 ?_
  refine q_icmp_ne (tgt := 85) d260_65 rfl (fun _ => ?_) (fun h => absurd h (by decide))
  refine q_iload_n d260_85 rfl ?_
  refine q_iconst (v := 5) (by decide) d260_86 ?_
  refine q_icmp_ne (tgt := 99) d260_87 rfl (fun h => absurd h (by decide)) (fun _ => ?_)
  refine q_aload_n d260_90 rfl ?_
  refine q_getR (x := 319) d260_91 (fs10_46 260 rfl) rfl (lt_w1 rfl) sh260 (rs260_10 R) (by decide) ?_
  refine q_iconst (v := 2) (by decide) d260_94 ?_
  refine q_iload_n d260_95 rfl ?_
  refine q_imul d260_96 ?_
  refine r_int (y := (nI (2 * t))) (pk_mul 2 t) ?_
  refine q_iaload (a := (2 * t)) d260_97 (lt_w1 rfl) sh319 rfl (by omega) ?_
  exact q_iret d260_98 rfl (Nat.le_refl _) (Nat.le_refl _) v1

set_option maxRecDepth 10000 in
set_option maxHeartbeats 4000000 in
theorem u260_6 {d : Nat} {I : Nat → Nat → Int32} {D : Nat → Nat → UInt64} {R : Nat → Nat → Option Nat} {Q : j_Po} {t : Nat} {β : Bd} (hV : BV β) (ht : t < 6) (h316 : I 316 t = nI (bO β t)) (hd : 90 ≤ d)
    (v1 : (¬ (I 318 t) = (-1)) → Q (some (.int (I 319 ((2 * t) + 1)))) w1 (I, D, RR R))
    (v2 : ((I 318 t) = (-1)) → Q (some (.int 0)) w1 (I, D, RR R)) : j_W 260 d 0 0 0 0 32 [some (.ref 260), some (.int (nI t)), some (.int 6), none] [] w1 (I, D, RR R) Q := by
  refine q_iload_n d260_32 rfl ?_
  refine q_iconst (v := 2) (by decide) d260_33 ?_
  refine q_icmp_ge (tgt := 52) d260_34 rfl (fun _ => ?_) (fun h => absurd h (by decide))
  refine q_iload_n d260_52 rfl ?_
  refine q_iconst (v := 2) (by decide) d260_53 ?_
  refine q_icmp_ne (tgt := 63) d260_54 rfl (fun _ => ?_) (fun h => absurd h (by decide))
  refine q_iload_n d260_63 rfl ?_
  refine q_iconst (v := 4) (by decide) d260_64 ?_
  refine q_icmp_ne (tgt := 85) d260_65 rfl (fun _ => ?_) (fun h => absurd h (by decide))
  refine q_iload_n d260_85 rfl ?_
  refine q_iconst (v := 5) (by decide) d260_86 ?_
  refine q_icmp_ne (tgt := 99) d260_87 rfl (fun _ => ?_) (fun h => absurd h (by decide))
  refine q_iload_n d260_99 rfl ?_
  refine q_bipush (v := 6) (by decide) d260_100 ?_
  refine q_icmp_ne (tgt := 130) d260_102 rfl (fun h => absurd h (by decide)) (fun _ => ?_)
  refine q_aload_n d260_105 rfl ?_
  refine q_getR (x := 318) d260_106 (fs10_43 260 rfl) rfl (lt_w1 rfl) sh260 (rs260_9 R) (by decide) ?_
  refine q_iload_n d260_109 rfl ?_
  refine q_iaload (a := t) d260_110 (lt_w1 rfl) sh318 rfl (by omega) ?_
  refine q_iconst (v := (-1)) (by decide) d260_111 ?_
  refine q_icmp_ne (tgt := 119) d260_112 rfl (fun h1t => ?_) (fun h1f => ?_)
  ·
    refine q_aload_n d260_119 rfl ?_
    refine q_getR (x := 319) d260_120 (fs10_46 260 rfl) rfl (lt_w1 rfl) sh260 (rs260_10 R) (by decide) ?_
    refine q_iconst (v := 2) (by decide) d260_123 ?_
    refine q_iload_n d260_124 rfl ?_
    refine q_imul d260_125 ?_
    refine r_int (y := (nI (2 * t))) (pk_mul 2 t) ?_
    refine q_iconst (v := 1) (by decide) d260_126 ?_
    refine q_iadd d260_127 ?_
    refine r_int (y := (nI ((2 * t) + 1))) (nI_add (2 * t) 1) ?_
    refine q_iaload (a := ((2 * t) + 1)) d260_128 (lt_w1 rfl) sh319 rfl (by omega) ?_
    exact q_iret d260_129 rfl (Nat.le_refl _) (Nat.le_refl _) (v1 h1t)
  ·
    refine q_iconst (v := 0) (by decide) d260_115 ?_
    refine q_goto (tgt := 129) d260_116 rfl ?_
    exact q_iret d260_129 rfl (Nat.le_refl _) (Nat.le_refl _) (v2 h1f)

