/-! asks: walks by contracts -/
set_option maxRecDepth 10000 in
set_option maxHeartbeats 4000000 in
theorem u260_7 {d : Nat} {I : Nat → Nat → Int32} {D : Nat → Nat → UInt64} {R : Nat → Nat → Option Nat} {Q : j_Po} {t : Nat} {β : Bd} (hV : BV β) (ht : t < 6) (hd : 90 ≤ d)
    (v1 : RSt β I D)
    (v2 : t < 6)
    (v3 : bL β t = true)
    (v4 : Q (some (.int (nI (u1V β t)))) w1 (I, D, RR R)) : j_W 260 d 0 0 0 0 32 [some (.ref 260), some (.int (nI t)), some (.int 7), none] [] w1 (I, D, RR R) Q := by
  refine q_iload_n d260_32 rfl ?_
  refine q_iconst (v := 2) (by decide) d260_33 ?_
  refine q_icmp_ge (tgt := 52) d260_34 rfl (fun _ => ?_) (fun h => absurd h (by decide))
  refine q_iload_n d260_52 rfl ?_
  refine q_iconst (v := 2) (by decide) d260_53 ?_
  refine q_icmp_ne (tgt := 63) d260_54 rfl (fun _ => ?_) (fun h => absurd h (by decide))
  refine q_iload_n d260_63 rfl ?_
  refine q_iconst (v := 4) (by decide) d260_64 ?_
  refine q_icmp_ne (tgt := 85) d260_65 rfl (fun _ => ?_) (fun h => absurd h (by decide))
  refine q_iload_n d260_85 rfl ?_
  refine q_iconst (v := 5) (by decide) d260_86 ?_
  refine q_icmp_ne (tgt := 99) d260_87 rfl (fun _ => ?_) (fun h => absurd h (by decide))
  refine q_iload_n d260_99 rfl ?_
  refine q_bipush (v := 6) (by decide) d260_100 ?_
  refine q_icmp_ne (tgt := 130) d260_102 rfl (fun _ => ?_) (fun h => absurd h (by decide))
  refine q_iload_n d260_130 rfl ?_
  refine q_bipush (v := 6) (by decide) d260_131 ?_
  refine q_icmp_le (tgt := 146) d260_133 rfl (fun h => absurd h (by decide)) (fun _ => ?_)
  refine q_aload_n d260_136 rfl ?_
  refine q_iload_n d260_137 rfl ?_
  refine q_iload_n d260_138 rfl ?_
  refine q_bipush (v := 7) (by decide) d260_139 ?_
  refine q_isub d260_141 ?_
  refine r_int (y := 0) (by decide) ?_
  refine q_invV (o := 260) (ci := 10) (av := [.int (nI t), .int 0]) (rest := []) (d' := 5) (mc' := 0) (ms' := 0) d260_142 (cv10_501 260 rfl) rfl (by decide) rfl rfl (by omega) (Nat.le_of_ble_eq_true rfl) (Nat.le_of_ble_eq_true rfl) (lt_w1 rfl) sh260 (Nat.le_refl _) (Nat.le_refl _) ?_
  refine c263_0 (β := β) (Nat.le_refl 5) hV v1 v2 v3 ?_
  show j_W 260 d 0 0 0 0 145 [some (.ref 260), some (.int (nI t)), some (.int 7), none] [.int (nI (u1V β t))] w1 (I, D, RR R) Q
  exact q_iret d260_145 rfl (Nat.le_refl _) (Nat.le_refl _) v4

set_option maxRecDepth 10000 in
set_option maxHeartbeats 4000000 in
theorem u260_8 {d : Nat} {I : Nat → Nat → Int32} {D : Nat → Nat → UInt64} {R : Nat → Nat → Option Nat} {Q : j_Po} {t : Nat} {β : Bd} (hV : BV β) (ht : t < 6) (hd : 90 ≤ d)
    (v1 : RSt β I D)
    (v2 : t < 6)
    (v3 : bL β t = true)
    (v4 : Q (some (.int (nI (u2V β t)))) w1 (I, D, RR R)) : j_W 260 d 0 0 0 0 32 [some (.ref 260), some (.int (nI t)), some (.int 8), none] [] w1 (I, D, RR R) Q := by
  refine q_iload_n d260_32 rfl ?_
  refine q_iconst (v := 2) (by decide) d260_33 ?_
  refine q_icmp_ge (tgt := 52) d260_34 rfl (fun _ => ?_) (fun h => absurd h (by decide))
  refine q_iload_n d260_52 rfl ?_
  refine q_iconst (v := 2) (by decide) d260_53 ?_
  refine q_icmp_ne (tgt := 63) d260_54 rfl (fun _ => ?_) (fun h => absurd h (by decide))
  refine q_iload_n d260_63 rfl ?_
  refine q_iconst (v := 4) (by decide) d260_64 ?_
  refine q_icmp_ne (tgt := 85) d260_65 rfl (fun _ => ?_) (fun h => absurd h (by decide))
  refine q_iload_n d260_85 rfl ?_
  refine q_iconst (v := 5) (by decide) d260_86 ?_
  refine q_icmp_ne (tgt := 99) d260_87 rfl (fun _ => ?_) (fun h => absurd h (by decide))
  refine q_iload_n d260_99 rfl ?_
  refine q_bipush (v := 6) (by decide) d260_100 ?_
  refine q_icmp_ne (tgt := 130) d260_102 rfl (fun _ => ?_) (fun h => absurd h (by decide))
  refine q_iload_n d260_130 rfl ?_
  refine q_bipush (v := 6) (by decide) d260_131 ?_
  refine q_icmp_le (tgt := 146) d260_133 rfl (fun h => absurd h (by decide)) (fun _ => ?_)
  refine q_aload_n d260_136 rfl ?_
  refine q_iload_n d260_137 rfl ?_
  refine q_iload_n d260_138 rfl ?_
  refine q_bipush (v := 7) (by decide) d260_139 ?_
  refine q_isub d260_141 ?_
  refine r_int (y := 1) (by decide) ?_
  refine q_invV (o := 260) (ci := 10) (av := [.int (nI t), .int 1]) (rest := []) (d' := 5) (mc' := 0) (ms' := 0) d260_142 (cv10_501 260 rfl) rfl (by decide) rfl rfl (by omega) (Nat.le_of_ble_eq_true rfl) (Nat.le_of_ble_eq_true rfl) (lt_w1 rfl) sh260 (Nat.le_refl _) (Nat.le_refl _) ?_
  refine c263_1 (β := β) (Nat.le_refl 5) hV v1 v2 v3 ?_
  show j_W 260 d 0 0 0 0 145 [some (.ref 260), some (.int (nI t)), some (.int 8), none] [.int (nI (u2V β t))] w1 (I, D, RR R) Q
  exact q_iret d260_145 rfl (Nat.le_refl _) (Nat.le_refl _) v4

set_option maxRecDepth 10000 in
set_option maxHeartbeats 4000000 in
theorem u260_3 {d : Nat} {I : Nat → Nat → Int32} {D : Nat → Nat → UInt64} {R : Nat → Nat → Option Nat} {Q : j_Po} {t : Nat}  (ht : t < 6) (hd : 100 ≤ d)
    (v1 : j_W 260 d 0 0 0 0 148 [some (.ref 260), some (.int (nI t)), none, some (.int 0)] [] w1 (I, D, RR R) Q) : j_W 260 d 0 0 0 0 32 [some (.ref 260), some (.int (nI t)), some (.int 3), none] [] w1 (I, D, RR R) Q := by
  refine q_iload_n d260_32 rfl ?_
  refine q_iconst (v := 2) (by decide) d260_33 ?_
  refine q_icmp_ge (tgt := 52) d260_34 rfl (fun _ => ?_) (fun h => absurd h (by decide))
  refine q_iload_n d260_52 rfl ?_
  refine q_iconst (v := 2) (by decide) d260_53 ?_
  refine q_icmp_ne (tgt := 63) d260_54 rfl (fun _ => ?_) (fun h => absurd h (by decide))
  refine q_iload_n d260_63 rfl ?_
  refine q_iconst (v := 4) (by decide) d260_64 ?_
  refine q_icmp_ne (tgt := 85) d260_65 rfl (fun _ => ?_) (fun h => absurd h (by decide))
  refine q_iload_n d260_85 rfl ?_
  refine q_iconst (v := 5) (by decide) d260_86 ?_
  refine q_icmp_ne (tgt := 99) d260_87 rfl (fun _ => ?_) (fun h => absurd h (by decide))
  refine q_iload_n d260_99 rfl ?_
  refine q_bipush (v := 6) (by decide) d260_100 ?_
  refine q_icmp_ne (tgt := 130) d260_102 rfl (fun _ => ?_) (fun h => absurd h (by decide))
  refine q_iload_n d260_130 rfl ?_
  refine q_bipush (v := 6) (by decide) d260_131 ?_
  refine q_icmp_le (tgt := 146) d260_133 rfl (fun _ => ?_) (fun h => absurd h (by decide))
  refine q_iconst (v := 0) (by decide) d260_146 ?_
  refine q_istore_n (L' := [some (.ref 260), some (.int (nI t)), some (.int 3), some (.int 0)]) d260_147 (Nat.le_of_ble_eq_true rfl) rfl ?_
  exact r_sub (L' := [some (.ref 260), some (.int (nI t)), none, some (.int 0)]) ⟨rfl, rfl, rfl, trivial⟩ v1

set_option maxRecDepth 10000 in
set_option maxHeartbeats 4000000 in
theorem u260_3h {d : Nat} {I : Nat → Nat → Int32} {D : Nat → Nat → UInt64} {R : Nat → Nat → Option Nat} {Q : j_Po} {t : Nat} {k : Nat} {β : Bd} {X : Nat → Nat → Bool} {rd : Nat → Int32} {Lv : Nat → Int32} (hV : BV β) (ht : t < 6) (hk : k ≤ 6) (hX : RcE β X) (hE : RdE β rd) (hLe : LeE β X rd Lv) (hd : 100 ≤ d)
    (v1 : (6 ≤ k) → RSt β I D)
    (v2 : (6 ≤ k) → RBN β I)
    (v3 : (6 ≤ k) → t < 6)
    (v4 : (6 ≤ k) → bL β t = true)
    (v5 : (6 ≤ k) → ∀ u, u < 6 → I 427 u = 0)
    (v6 : (6 ≤ k) → ∀ J2 : Nat → Nat → Int32, (FLe I J2) → Q (some (.int (Lv t))) w1 (J2, D, RR R))
    (v7 : (¬ 6 ≤ k) → j_W 260 d 0 0 0 0 148 [some (.ref 260), some (.int (nI t)), none, some (.int (nI (k + 1)))] [] w1 ((j_u I 427 k 0), D, RR R) Q) : j_W 260 d 0 0 0 0 148 [some (.ref 260), some (.int (nI t)), none, some (.int (nI k))] [] w1 (I, D, RR R) Q := by
  refine q_iload_n d260_148 rfl ?_
  refine q_bipush (v := 6) (by decide) d260_149 ?_
  refine q_icmp_ge (tgt := 167) d260_151 rfl (fun h1t => ?_) (fun h1f => ?_)
  ·
    have h1tc : 6 ≤ k := (nI_leI (by omega) (by omega)).mp h1t
    refine q_aload_n d260_167 rfl ?_
    refine q_iload_n d260_168 rfl ?_
    refine q_invV (o := 260) (ci := 10) (av := [.int (nI t)]) (rest := []) (d' := 95) (mc' := 0) (ms' := 0) d260_169 (cv10_498 260 rfl) rfl (by decide) rfl rfl (by omega) (Nat.le_of_ble_eq_true rfl) (Nat.le_of_ble_eq_true rfl) (lt_w1 rfl) sh260 (Nat.le_refl _) (Nat.le_refl _) ?_
    refine c264 (X := X) (rd := rd) (Lv := Lv) (Nat.le_refl 95) hV hX hE hLe (v1 h1tc) (v2 h1tc) (v3 h1tc) (v4 h1tc) (v5 h1tc) (fun J2 h3 => ?_)
    show j_W 260 d 0 0 0 0 172 [some (.ref 260), some (.int (nI t)), none, some (.int (nI k))] [.int (Lv t)] w1 (J2, D, RR R) Q
    exact q_iret d260_172 rfl (Nat.le_refl _) (Nat.le_refl _) (v6 h1tc J2 h3)
  ·
    have h1fc : ¬ 6 ≤ k := mt (nI_leI (by omega) (by omega)).mpr h1f
    refine q_aload_n d260_154 rfl ?_
    refine q_getR (x := 427) d260_155 (fs10_117 260 rfl) rfl (lt_w1 rfl) sh260 (rs260_49 R) (by decide) ?_
    refine q_iload_n d260_158 rfl ?_
    refine q_iconst (v := 0) (by decide) d260_159 ?_
    refine q_zastore (a := k) d260_160 (Or.inl rfl) (lt_w1 rfl) sh427 rfl (by omega) ?_
    refine q_iinc (L' := [some (.ref 260), some (.int (nI t)), none, some (.int (nI (k + 1)))]) (v := (nI (k + 1))) d260_161 rfl (nI_inc _) rfl ?_
    refine q_goto (tgt := 148) d260_164 rfl ?_
    exact r_sub (L' := [some (.ref 260), some (.int (nI t)), none, some (.int (nI (k + 1)))]) ⟨rfl, rfl, rfl, trivial⟩ (v7 h1fc)

set_option maxRecDepth 10000 in
set_option maxHeartbeats 4000000 in
theorem u123_3 {d : Nat} {I : Nat → Nat → Int32} {D : Nat → Nat → UInt64} {R : Nat → Nat → Option Nat} {Q : j_Po} {t : Nat} {β : Bd} {Lv : Nat → Int32} (hR : WFR R) (hV : BV β) (hC : CB β I D R) (hN : NM β I) (hO : OrdB β I) (hg : isG (go R t)) (ht : t < 6) (hl : bL β t = true) (hLe : LeE β (fun c v => bt (I 206 c) v) (fun c => I 207 c) Lv) (hd : 50 ≤ d)
    (v1 : CB β I D R)
    (v2 : t < 6)
    (v3 : bL β t = true)
    (v4 : ∀ J1 : Nat → Nat → Int32, (∀ o, o ≠ 210 → J1 o = I o) → Q (some (.int (Lv t))) w1 (J1, D, RR R)) : j_W 123 d 0 0 0 0 127 [some (.ref 0), some (.int (nI t)), none, some (.ref (go R t))] [] w1 (I, D, RR R) Q := by
  refine q_aload_n d123_127 rfl ?_
  refine q_getR (x := 204) d123_128 (fs9_58 123 rfl) rfl (lt_w1 rfl) sh0 (rs0_2 R) (by decide) ?_
  refine q_aload_n d123_131 rfl ?_
  refine q_getR (x := 108) d123_132 (fs9_53 123 rfl) rfl (lt_w1 rfl) sh0 (rs0_1 R) (by decide) ?_
  refine q_iload_n d123_135 rfl ?_
  refine q_invV (o := 204) (ci := 4) (av := [.ref 108, .int (nI t)]) (rest := []) (d' := 20) (mc' := 0) (ms' := 0) d123_136 (cv9_283 123 rfl) rfl (by decide) rfl rfl (by omega) (Nat.le_of_ble_eq_true rfl) (Nat.le_of_ble_eq_true rfl) (lt_w1 rfl) sh204 (Nat.le_refl _) (Nat.le_refl _) ?_
  refine c125 (Lv := Lv) (Nat.le_refl 20) hR hV hN hO hLe v1 v2 v3 (fun J1 h2 => ?_)
  show j_W 123 d 0 0 0 0 139 [some (.ref 0), some (.int (nI t)), none, some (.ref (go R t))] [.int (Lv t)] w1 (J1, D, RR R) Q
  exact q_iret d123_139 rfl (Nat.le_refl _) (Nat.le_refl _) (v4 J1 h2)

set_option maxRecDepth 10000 in
set_option maxHeartbeats 4000000 in
theorem u260_0 {d : Nat} {I : Nat → Nat → Int32} {D : Nat → Nat → UInt64} {R : Nat → Nat → Option Nat} {Q : j_Po} {t : Nat} {β : Bd} (hV : BV β) (ht : t < 6) (hd : 100 ≤ d)
    (v1 : RSt β I D)
    (v2 : RIn β I D (env β))
    (v3 : t < 6)
    (v4 : bL β t = true)
    (v5 : 80 ≤ 90)
    (v6 : ∀ J1 : Nat → Nat → Int32, ∀ E2 : Nat → Nat → UInt64, (FRr I D J1 E2) → (∀ k, k < cas β t → (csV β (env β) t k).1 = 0 → Sm (csV β (env β) t k).2) → Q (some (.int (plV true (wd β t) (tal (csV β (env β) t) (cas β t))))) w1 (J1, E2, RR R)) : j_W 260 d 0 0 0 0 32 [some (.ref 260), some (.int (nI t)), some (.int 0), none] [] w1 (I, D, RR R) Q := by
  refine q_iload_n d260_32 rfl ?_
  refine q_iconst (v := 2) (by decide) d260_33 ?_
  refine q_icmp_ge (tgt := 52) d260_34 rfl (fun h => absurd h (by decide)) (fun _ => ?_)
  refine q_aload_n d260_37 rfl ?_
  refine q_iload_n d260_38 rfl ?_
  refine q_iload_n d260_39 rfl ?_
  refine q_if_ne (tgt := 47) d260_40 rfl (fun h => absurd h (by decide)) (fun _ => ?_)
  refine q_iconst (v := 1) (by decide) d260_43 ?_
  refine q_goto (tgt := 48) d260_44 rfl ?_
  refine q_invV (o := 260) (ci := 10) (av := [.int (nI t), .int 1]) (rest := []) (d' := 90) (mc' := 0) (ms' := 0) d260_48 (cv10_504 260 rfl) rfl (by decide) rfl rfl (by omega) (Nat.le_of_ble_eq_true rfl) (Nat.le_of_ble_eq_true rfl) (lt_w1 rfl) sh260 (Nat.le_refl _) (Nat.le_refl _) ?_
  refine c261 (l := true) (η := env β) hV v1 v2 v3 v4 v5 (fun J1 E2 h3 h4 => ?_)
  show j_W 260 d 0 0 0 0 51 [some (.ref 260), some (.int (nI t)), some (.int 0), none] [.int (plV true (wd β t) (tal (csV β (env β) t) (cas β t)))] w1 (J1, E2, RR R) Q
  exact q_iret d260_51 rfl (Nat.le_refl _) (Nat.le_refl _) (v6 J1 E2 h3 h4)

set_option maxRecDepth 10000 in
set_option maxHeartbeats 4000000 in
theorem u260_1 {d : Nat} {I : Nat → Nat → Int32} {D : Nat → Nat → UInt64} {R : Nat → Nat → Option Nat} {Q : j_Po} {t : Nat} {β : Bd} (hV : BV β) (ht : t < 6) (hd : 100 ≤ d)
    (v1 : RSt β I D)
    (v2 : RIn β I D (env β))
    (v3 : t < 6)
    (v4 : bL β t = true)
    (v5 : 80 ≤ 90)
    (v6 : ∀ J1 : Nat → Nat → Int32, ∀ E2 : Nat → Nat → UInt64, (FRr I D J1 E2) → (∀ k, k < cas β t → (csV β (env β) t k).1 = 0 → Sm (csV β (env β) t k).2) → Q (some (.int (plV false (wd β t) (tal (csV β (env β) t) (cas β t))))) w1 (J1, E2, RR R)) : j_W 260 d 0 0 0 0 32 [some (.ref 260), some (.int (nI t)), some (.int 1), none] [] w1 (I, D, RR R) Q := by
  refine q_iload_n d260_32 rfl ?_
  refine q_iconst (v := 2) (by decide) d260_33 ?_
  refine q_icmp_ge (tgt := 52) d260_34 rfl (fun h => absurd h (by decide)) (fun _ => ?_)
  refine q_aload_n d260_37 rfl ?_
  refine q_iload_n d260_38 rfl ?_
  refine q_iload_n d260_39 rfl ?_
  refine q_if_ne (tgt := 47) d260_40 rfl (fun _ => ?_) (fun h => absurd h (by decide))
  refine q_iconst (v := 0) (by decide) d260_47 ?_
  refine q_invV (o := 260) (ci := 10) (av := [.int (nI t), .int 0]) (rest := []) (d' := 90) (mc' := 0) (ms' := 0) d260_48 (cv10_504 260 rfl) rfl (by decide) rfl rfl (by omega) (Nat.le_of_ble_eq_true rfl) (Nat.le_of_ble_eq_true rfl) (lt_w1 rfl) sh260 (Nat.le_refl _) (Nat.le_refl _) ?_
  refine c261 (l := false) (η := env β) hV v1 v2 v3 v4 v5 (fun J1 E2 h3 h4 => ?_)
  show j_W 260 d 0 0 0 0 51 [some (.ref 260), some (.int (nI t)), some (.int 1), none] [.int (plV false (wd β t) (tal (csV β (env β) t) (cas β t)))] w1 (J1, E2, RR R) Q
  exact q_iret d260_51 rfl (Nat.le_refl _) (Nat.le_refl _) (v6 J1 E2 h3 h4)

set_option maxRecDepth 10000 in
set_option maxHeartbeats 4000000 in
theorem u260_2 {d : Nat} {I : Nat → Nat → Int32} {D : Nat → Nat → UInt64} {R : Nat → Nat → Option Nat} {Q : j_Po} {t : Nat} {β : Bd} {X : Nat → Nat → Bool} {rd : Nat → Int32} (hV : BV β) (ht : t < 6) (hd : 100 ≤ d)
    (v1 : RcE β X)
    (v2 : RdE β rd)
    (v3 : RBN β I)
    (v4 : t < 6)
    (v5 : bL β t = true)
    (v6 : ∀ J1 : Nat → Nat → Int32, ∀ x2 : Int32, (∀ o, o ≠ 359 → o ≠ 360 → J1 o = I o) → (∀ c, c < 32 → bt x2 c = (decide (c < 24) && (anyB 24 (fun v => bt (rd c) v && vr β t v) && (X (bO β t) c && decide (bZ β c ≠ 0))))) → Q (some (.int x2)) w1 (J1, D, RR R)) : j_W 260 d 0 0 0 0 32 [some (.ref 260), some (.int (nI t)), some (.int 2), none] [] w1 (I, D, RR R) Q := by
  refine q_iload_n d260_32 rfl ?_
  refine q_iconst (v := 2) (by decide) d260_33 ?_
  refine q_icmp_ge (tgt := 52) d260_34 rfl (fun _ => ?_) (fun h => absurd h (by decide))
  refine q_iload_n d260_52 rfl ?_
  refine q_iconst (v := 2) (by decide) d260_53 ?_
  refine q_icmp_ne (tgt := 63) d260_54 rfl (fun h => absurd h (by decide)) (fun _ => ?_)
  refine q_aload_n d260_57 rfl ?_
  refine q_iload_n d260_58 rfl ?_
  refine q_invV (o := 260) (ci := 10) (av := [.int (nI t)]) (rest := []) (d' := 90) (mc' := 0) (ms' := 0) d260_59 (cv10_508 260 rfl) rfl (by decide) rfl rfl (by omega) (Nat.le_of_ble_eq_true rfl) (Nat.le_of_ble_eq_true rfl) (lt_w1 rfl) sh260 (Nat.le_refl _) (Nat.le_refl _) ?_
  refine c262 (X := X) (rd := rd) (Nat.le_refl 90) hV v1 v2 v3 v4 v5 (fun J1 x2 h3 h4 => ?_)
  show j_W 260 d 0 0 0 0 62 [some (.ref 260), some (.int (nI t)), some (.int 2), none] [.int x2] w1 (J1, D, RR R) Q
  exact q_iret d260_62 rfl (Nat.le_refl _) (Nat.le_refl _) (v6 J1 x2 h3 h4)

