/-! leaves of the reference -/
set_option maxRecDepth 10000 in
set_option maxHeartbeats 4000000 in
theorem s167 {d : Nat} {I : Nat → Nat → Int32} {D : Nat → Nat → UInt64} {R : Nat → Nat → Option Nat} {Q : j_Po} {c : Int32}   (hd : 1 ≤ d)
    (v1 : ((¬ c < (0 : Int32) ∧ ¬ (23 : Int32) < c)) → Q (some (.int 1)) w1 (I, D, RR R))
    (v2 : (¬ ((¬ c < (0 : Int32) ∧ ¬ (23 : Int32) < c))) → Q (some (.int 0)) w1 (I, D, RR R)) : j_Call d 167 [.int c] w1 (I, D, RR R) 0 0 Q := by
  refine q_enter (L := [some (.int c)]) j_m167 (Nat.le_of_ble_eq_true rfl) rfl ?_
  refine q_iload_n d167_0 rfl ?_
  refine q_iconst (v := 0) (by decide) d167_1 ?_
  refine q_bipush (v := 23) (by decide) d167_2 ?_
  refine q_invS (av := [.int c, .int 0, .int 23]) (rest := []) (d' := 0) (mc' := 0) (ms' := 0) d167_4 (cv10_183 167 rfl) rfl rfl (by omega) (Nat.le_of_ble_eq_true rfl) (Nat.le_of_ble_eq_true rfl) (Nat.le_refl _) (Nat.le_refl _) ?_
  refine p168  (fun h1 => ?_) (fun h1 => ?_)
  ·
    show j_W 167 d 0 0 0 0 7 [some (.int c)] [.int 1] w1 (I, D, RR R) Q
    exact q_zret d167_7 rfl (Or.inr rfl) (Nat.le_refl _) (Nat.le_refl _) (v1 h1)
  ·
    show j_W 167 d 0 0 0 0 7 [some (.int c)] [.int 0] w1 (I, D, RR R) Q
    exact q_zret d167_7 rfl (Or.inl rfl) (Nat.le_refl _) (Nat.le_refl _) (v2 h1)

theorem r167 {d : Nat} {I : Nat → Nat → Int32} {D : Nat → Nat → UInt64} {R : Nat → Nat → Option Nat} {Q : j_Po} {c : Int32} (hd : 1 ≤ d) (h1 : ∀ k : Nat, k < 24 → c = nI k → Q (some (.int 1)) w1 (I, D, RR R)) (h0 : ¬ (∃ k : Nat, k < 24 ∧ c = nI k) → Q (some (.int 0)) w1 (I, D, RR R)) : j_Call d 167 [.int c] w1 (I, D, RR R) 0 0 Q :=
  s167 hd (fun h => by obtain ⟨k, hk, e⟩ := (rg_iff' c (n := 23) (by decide)).mp h; exact h1 k hk e) (fun h => h0 (fun h2 => h ((rg_iff' c (n := 23) (by decide)).mpr h2)))
theorem r167t {d : Nat} {I : Nat → Nat → Int32} {D : Nat → Nat → UInt64} {R : Nat → Nat → Option Nat} {Q : j_Po} {k : Nat} (hk : k < 24) (hd : 1 ≤ d) (h1 : Q (some (.int 1)) w1 (I, D, RR R)) : j_Call d 167 [.int (nI k)] w1 (I, D, RR R) 0 0 Q :=
  r167 hd (fun _ _ _ => h1) (fun h => absurd ⟨k, hk, rfl⟩ h)
set_option maxRecDepth 10000 in
set_option maxHeartbeats 4000000 in
theorem s249 {d : Nat} {I : Nat → Nat → Int32} {D : Nat → Nat → UInt64} {R : Nat → Nat → Option Nat} {Q : j_Po} {c : Int32}   (hd : 1 ≤ d)
    (v1 : ((¬ c < (0 : Int32) ∧ ¬ (5 : Int32) < c)) → Q (some (.int 1)) w1 (I, D, RR R))
    (v2 : (¬ ((¬ c < (0 : Int32) ∧ ¬ (5 : Int32) < c))) → Q (some (.int 0)) w1 (I, D, RR R)) : j_Call d 249 [.int c] w1 (I, D, RR R) 0 0 Q := by
  refine q_enter (L := [some (.int c)]) j_m249 (Nat.le_of_ble_eq_true rfl) rfl ?_
  refine q_iload_n d249_0 rfl ?_
  refine q_iconst (v := 0) (by decide) d249_1 ?_
  refine q_iconst (v := 5) (by decide) d249_2 ?_
  refine q_invS (av := [.int c, .int 0, .int 5]) (rest := []) (d' := 0) (mc' := 0) (ms' := 0) d249_3 (cv10_183 249 rfl) rfl rfl (by omega) (Nat.le_of_ble_eq_true rfl) (Nat.le_of_ble_eq_true rfl) (Nat.le_refl _) (Nat.le_refl _) ?_
  refine p168  (fun h1 => ?_) (fun h1 => ?_)
  ·
    show j_W 249 d 0 0 0 0 6 [some (.int c)] [.int 1] w1 (I, D, RR R) Q
    exact q_zret d249_6 rfl (Or.inr rfl) (Nat.le_refl _) (Nat.le_refl _) (v1 h1)
  ·
    show j_W 249 d 0 0 0 0 6 [some (.int c)] [.int 0] w1 (I, D, RR R) Q
    exact q_zret d249_6 rfl (Or.inl rfl) (Nat.le_refl _) (Nat.le_refl _) (v2 h1)

theorem r249 {d : Nat} {I : Nat → Nat → Int32} {D : Nat → Nat → UInt64} {R : Nat → Nat → Option Nat} {Q : j_Po} {c : Int32} (hd : 1 ≤ d) (h1 : ∀ k : Nat, k < 6 → c = nI k → Q (some (.int 1)) w1 (I, D, RR R)) (h0 : ¬ (∃ k : Nat, k < 6 ∧ c = nI k) → Q (some (.int 0)) w1 (I, D, RR R)) : j_Call d 249 [.int c] w1 (I, D, RR R) 0 0 Q :=
  s249 hd (fun h => by obtain ⟨k, hk, e⟩ := (rg_iff' c (n := 5) (by decide)).mp h; exact h1 k hk e) (fun h => h0 (fun h2 => h ((rg_iff' c (n := 5) (by decide)).mpr h2)))
theorem r249t {d : Nat} {I : Nat → Nat → Int32} {D : Nat → Nat → UInt64} {R : Nat → Nat → Option Nat} {Q : j_Po} {k : Nat} (hk : k < 6) (hd : 1 ≤ d) (h1 : Q (some (.int 1)) w1 (I, D, RR R)) : j_Call d 249 [.int (nI k)] w1 (I, D, RR R) 0 0 Q :=
  r249 hd (fun _ _ _ => h1) (fun h => absurd ⟨k, hk, rfl⟩ h)
set_option maxRecDepth 10000 in
set_option maxHeartbeats 4000000 in
theorem s253 {d : Nat} {I : Nat → Nat → Int32} {D : Nat → Nat → UInt64} {R : Nat → Nat → Option Nat} {Q : j_Po} {c : Int32}   (hd : 1 ≤ d)
    (v1 : ((¬ c < (0 : Int32) ∧ ¬ (3 : Int32) < c)) → Q (some (.int 1)) w1 (I, D, RR R))
    (v2 : (¬ ((¬ c < (0 : Int32) ∧ ¬ (3 : Int32) < c))) → Q (some (.int 0)) w1 (I, D, RR R)) : j_Call d 253 [.int c] w1 (I, D, RR R) 0 0 Q := by
  refine q_enter (L := [some (.int c)]) j_m253 (Nat.le_of_ble_eq_true rfl) rfl ?_
  refine q_iload_n d253_0 rfl ?_
  refine q_iconst (v := 0) (by decide) d253_1 ?_
  refine q_iconst (v := 3) (by decide) d253_2 ?_
  refine q_invS (av := [.int c, .int 0, .int 3]) (rest := []) (d' := 0) (mc' := 0) (ms' := 0) d253_3 (cv10_183 253 rfl) rfl rfl (by omega) (Nat.le_of_ble_eq_true rfl) (Nat.le_of_ble_eq_true rfl) (Nat.le_refl _) (Nat.le_refl _) ?_
  refine p168  (fun h1 => ?_) (fun h1 => ?_)
  ·
    show j_W 253 d 0 0 0 0 6 [some (.int c)] [.int 1] w1 (I, D, RR R) Q
    exact q_zret d253_6 rfl (Or.inr rfl) (Nat.le_refl _) (Nat.le_refl _) (v1 h1)
  ·
    show j_W 253 d 0 0 0 0 6 [some (.int c)] [.int 0] w1 (I, D, RR R) Q
    exact q_zret d253_6 rfl (Or.inl rfl) (Nat.le_refl _) (Nat.le_refl _) (v2 h1)

theorem r253 {d : Nat} {I : Nat → Nat → Int32} {D : Nat → Nat → UInt64} {R : Nat → Nat → Option Nat} {Q : j_Po} {c : Int32} (hd : 1 ≤ d) (h1 : ∀ k : Nat, k < 4 → c = nI k → Q (some (.int 1)) w1 (I, D, RR R)) (h0 : ¬ (∃ k : Nat, k < 4 ∧ c = nI k) → Q (some (.int 0)) w1 (I, D, RR R)) : j_Call d 253 [.int c] w1 (I, D, RR R) 0 0 Q :=
  s253 hd (fun h => by obtain ⟨k, hk, e⟩ := (rg_iff' c (n := 3) (by decide)).mp h; exact h1 k hk e) (fun h => h0 (fun h2 => h ((rg_iff' c (n := 3) (by decide)).mpr h2)))
theorem r253t {d : Nat} {I : Nat → Nat → Int32} {D : Nat → Nat → UInt64} {R : Nat → Nat → Option Nat} {Q : j_Po} {k : Nat} (hk : k < 4) (hd : 1 ≤ d) (h1 : Q (some (.int 1)) w1 (I, D, RR R)) : j_Call d 253 [.int (nI k)] w1 (I, D, RR R) 0 0 Q :=
  r253 hd (fun _ _ _ => h1) (fun h => absurd ⟨k, hk, rfl⟩ h)
set_option maxRecDepth 10000 in
set_option maxHeartbeats 4000000 in
theorem s169 {d : Nat} {I : Nat → Nat → Int32} {D : Nat → Nat → UInt64} {R : Nat → Nat → Option Nat} {Q : j_Po} {c : Int32}   (hd : 1 ≤ d)
    (v1 : ((¬ c < (-8000000 : Int32) ∧ ¬ (8000000 : Int32) < c)) → Q (some (.int 1)) w1 (I, D, RR R))
    (v2 : (¬ ((¬ c < (-8000000 : Int32) ∧ ¬ (8000000 : Int32) < c))) → Q (some (.int 0)) w1 (I, D, RR R)) : j_Call d 169 [.int c] w1 (I, D, RR R) 0 0 Q := by
  refine q_enter (L := [some (.int c)]) j_m169 (Nat.le_of_ble_eq_true rfl) rfl ?_
  refine q_iload_n d169_0 rfl ?_
  refine q_ldcwI (v := (-8000000)) d169_1 (kc10_310 169 rfl) ?_
  refine q_ldcwI (v := 8000000) d169_4 (kc10_311 169 rfl) ?_
  refine q_invS (av := [.int c, .int (-8000000), .int 8000000]) (rest := []) (d' := 0) (mc' := 0) (ms' := 0) d169_7 (cv10_183 169 rfl) rfl rfl (by omega) (Nat.le_of_ble_eq_true rfl) (Nat.le_of_ble_eq_true rfl) (Nat.le_refl _) (Nat.le_refl _) ?_
  refine p168  (fun h1 => ?_) (fun h1 => ?_)
  ·
    show j_W 169 d 0 0 0 0 10 [some (.int c)] [.int 1] w1 (I, D, RR R) Q
    exact q_zret d169_10 rfl (Or.inr rfl) (Nat.le_refl _) (Nat.le_refl _) (v1 h1)
  ·
    show j_W 169 d 0 0 0 0 10 [some (.int c)] [.int 0] w1 (I, D, RR R) Q
    exact q_zret d169_10 rfl (Or.inl rfl) (Nat.le_refl _) (Nat.le_refl _) (v2 h1)

set_option maxRecDepth 10000 in
set_option maxHeartbeats 4000000 in
theorem s266 {d : Nat} {I : Nat → Nat → Int32} {D : Nat → Nat → UInt64} {R : Nat → Nat → Option Nat} {Q : j_Po} {c : Int32}   (hd : 1 ≤ d)
    (v1 : ((¬ c < (-80000 : Int32) ∧ ¬ (80000 : Int32) < c)) → Q (some (.int 1)) w1 (I, D, RR R))
    (v2 : (¬ ((¬ c < (-80000 : Int32) ∧ ¬ (80000 : Int32) < c))) → Q (some (.int 0)) w1 (I, D, RR R)) : j_Call d 266 [.int c] w1 (I, D, RR R) 0 0 Q := by
  refine q_enter (L := [some (.int c)]) j_m266 (Nat.le_of_ble_eq_true rfl) rfl ?_
  refine q_iload_n d266_0 rfl ?_
  refine q_ldcwI (v := (-80000)) d266_1 (kc10_483 266 rfl) ?_
  refine q_ldcwI (v := 80000) d266_4 (kc10_484 266 rfl) ?_
  refine q_invS (av := [.int c, .int (-80000), .int 80000]) (rest := []) (d' := 0) (mc' := 0) (ms' := 0) d266_7 (cv10_183 266 rfl) rfl rfl (by omega) (Nat.le_of_ble_eq_true rfl) (Nat.le_of_ble_eq_true rfl) (Nat.le_refl _) (Nat.le_refl _) ?_
  refine p168  (fun h1 => ?_) (fun h1 => ?_)
  ·
    show j_W 266 d 0 0 0 0 10 [some (.int c)] [.int 1] w1 (I, D, RR R) Q
    exact q_zret d266_10 rfl (Or.inr rfl) (Nat.le_refl _) (Nat.le_refl _) (v1 h1)
  ·
    show j_W 266 d 0 0 0 0 10 [some (.int c)] [.int 0] w1 (I, D, RR R) Q
    exact q_zret d266_10 rfl (Or.inl rfl) (Nat.le_refl _) (Nat.le_refl _) (v2 h1)

set_option maxRecDepth 10000 in
set_option maxHeartbeats 4000000 in
theorem s209 {d : Nat} {I : Nat → Nat → Int32} {D : Nat → Nat → UInt64} {R : Nat → Nat → Option Nat} {Q : j_Po} {c : Int32}   (hd : 1 ≤ d)
    (v1 : ((¬ c < (0 : Int32) ∧ ¬ (255 : Int32) < c)) → Q (some (.int 1)) w1 (I, D, RR R))
    (v2 : (¬ ((¬ c < (0 : Int32) ∧ ¬ (255 : Int32) < c))) → Q (some (.int 0)) w1 (I, D, RR R)) : j_Call d 209 [.int c] w1 (I, D, RR R) 0 0 Q := by
  refine q_enter (L := [some (.int c)]) j_m209 (Nat.le_of_ble_eq_true rfl) rfl ?_
  refine q_iload_n d209_0 rfl ?_
  refine q_iconst (v := 0) (by decide) d209_1 ?_
  refine q_sipush (v := 255) (by decide) d209_2 ?_
  refine q_invS (av := [.int c, .int 0, .int 255]) (rest := []) (d' := 0) (mc' := 0) (ms' := 0) d209_5 (cv10_183 209 rfl) rfl rfl (by omega) (Nat.le_of_ble_eq_true rfl) (Nat.le_of_ble_eq_true rfl) (Nat.le_refl _) (Nat.le_refl _) ?_
  refine p168  (fun h1 => ?_) (fun h1 => ?_)
  ·
    show j_W 209 d 0 0 0 0 8 [some (.int c)] [.int 1] w1 (I, D, RR R) Q
    exact q_zret d209_8 rfl (Or.inr rfl) (Nat.le_refl _) (Nat.le_refl _) (v1 h1)
  ·
    show j_W 209 d 0 0 0 0 8 [some (.int c)] [.int 0] w1 (I, D, RR R) Q
    exact q_zret d209_8 rfl (Or.inl rfl) (Nat.le_refl _) (Nat.le_refl _) (v2 h1)

set_option maxRecDepth 10000 in
set_option maxHeartbeats 4000000 in
theorem s170 {d : Nat} {I : Nat → Nat → Int32} {D : Nat → Nat → UInt64} {R : Nat → Nat → Option Nat} {Q : j_Po} {k : Nat}  (hk : k < 24) (hd : 0 ≤ d)
    (v1 : (¬ (I 264 k) = 0) → Q (some (.int 0)) w1 (I, D, RR R))
    (v2 : ((I 264 k) = 0) → Q (some (.int 1)) w1 (I, D, RR R)) : j_Call d 170 [.ref 260, .int (nI k)] w1 (I, D, RR R) 0 0 Q := by
  refine q_enter (L := [some (.ref 260), some (.int (nI k))]) j_m170 (Nat.le_of_ble_eq_true rfl) rfl ?_
  refine q_aload_n d170_0 rfl ?_
  refine q_getR (x := 264) d170_1 (fs10_21 170 rfl) rfl (lt_w1 rfl) sh260 (rs260_3 R) (by decide) ?_
  refine q_iload_n d170_4 rfl ?_
  refine q_iaload (a := k) d170_5 (lt_w1 rfl) sh264 rfl (by omega) ?_
  refine q_if_ne (tgt := 13) d170_6 rfl (fun h1t => ?_) (fun h1f => ?_)
  ·
    refine q_iconst (v := 0) (by decide) d170_13 ?_
    exact q_zret d170_14 rfl (Or.inl rfl) (Nat.le_refl _) (Nat.le_refl _) (v1 h1t)
  ·
    refine q_iconst (v := 1) (by decide) d170_9 ?_
    refine q_goto (tgt := 14) d170_10 rfl ?_
    exact q_zret d170_14 rfl (Or.inr rfl) (Nat.le_refl _) (Nat.le_refl _) (v2 h1f)

set_option maxRecDepth 10000 in
set_option maxHeartbeats 4000000 in
theorem s172 {d : Nat} {I : Nat → Nat → Int32} {D : Nat → Nat → UInt64} {R : Nat → Nat → Option Nat} {Q : j_Po} {x : UInt64}   (hd : 0 ≤ d)
    (v1 : (deq x FP.dconst0 = false) → Q (some (.double x)) w1 (I, D, RR R))
    (v2 : (deq x FP.dconst0 = true) → Q (some (.double FP.dconst0)) w1 (I, D, RR R)) : j_Call d 172 [.double x] w1 (I, D, RR R) 0 0 Q := by
  refine q_enter (L := [some (.double x), none]) j_m172 (Nat.le_of_ble_eq_true rfl) rfl ?_
  refine q_dload_n d172_0 rfl ?_
  refine q_dconst0 d172_1 ?_
  refine q_dcmp d172_2 ?_
  refine q_if_ne (tgt := 10) d172_3 rfl (fun h1t => ?_) (fun h1f => ?_)
  ·
    have h1tc : deq x FP.dconst0 = false := dc_l_ne_t h1t
    refine q_dload_n d172_10 rfl ?_
    exact q_dret d172_11 rfl (Nat.le_refl _) (Nat.le_refl _) (v1 h1tc)
  ·
    have h1fc : deq x FP.dconst0 = true := dc_l_ne_f h1f
    refine q_dconst0 d172_6 ?_
    refine q_goto (tgt := 11) d172_7 rfl ?_
    exact q_dret d172_11 rfl (Nat.le_refl _) (Nat.le_refl _) (v2 h1fc)

set_option maxRecDepth 10000 in
set_option maxHeartbeats 4000000 in
theorem s179 {d : Nat} {I : Nat → Nat → Int32} {D : Nat → Nat → UInt64} {R : Nat → Nat → Option Nat} {Q : j_Po} {k : Nat}  (hk : k < 24) (hd : 0 ≤ d)
    (v1 : Q (some (.int (I 333 k))) w1 (I, D, RR R)) : j_Call d 179 [.ref 260, .int (nI k)] w1 (I, D, RR R) 0 0 Q := by
  refine q_enter (L := [some (.ref 260), some (.int (nI k))]) j_m179 (Nat.le_of_ble_eq_true rfl) rfl ?_
  refine q_aload_n d179_0 rfl ?_
  refine q_getR (x := 333) d179_1 (fs10_52 179 rfl) rfl (lt_w1 rfl) sh260 (rs260_12 R) (by decide) ?_
  refine q_iload_n d179_4 rfl ?_
  refine q_iaload (a := k) d179_5 (lt_w1 rfl) sh333 rfl (by omega) ?_
  exact q_iret d179_6 rfl (Nat.le_refl _) (Nat.le_refl _) v1

set_option maxRecDepth 10000 in
set_option maxHeartbeats 4000000 in
theorem s180 {d : Nat} {I : Nat → Nat → Int32} {D : Nat → Nat → UInt64} {R : Nat → Nat → Option Nat} {Q : j_Po} {k : Nat} {t : Nat}  (hk : k < 24) (ht : t < 6) (hd : 0 ≤ d)
    (v1 : Q (some (.int (I (335 + k) t))) w1 (I, D, RR R)) : j_Call d 180 [.ref 260, .int (nI k), .int (nI t)] w1 (I, D, RR R) 0 0 Q := by
  refine q_enter (L := [some (.ref 260), some (.int (nI k)), some (.int (nI t))]) j_m180 (Nat.le_of_ble_eq_true rfl) rfl ?_
  refine q_aload_n d180_0 rfl ?_
  refine q_getR (x := 334) d180_1 (fs10_55 180 rfl) rfl (lt_w1 rfl) sh260 (rs260_13 R) (by decide) ?_
  refine q_iload_n d180_4 rfl ?_
  refine q_aaload (c := 4) (a := k) (x := (335 + k)) d180_5 (lt_w1 rfl) sh334 (by decide) rfl (by omega) (rm334 R (by omega)) (lt1000 (lm334 (by omega))) ?_
  refine q_iload_n d180_6 rfl ?_
  refine q_iaload (a := t) d180_7 (lm334 (by omega)) (sm334 (by omega)) rfl (by omega) ?_
  exact q_iret d180_8 rfl (Nat.le_refl _) (Nat.le_refl _) v1

set_option maxRecDepth 10000 in
set_option maxHeartbeats 4000000 in
theorem s181 {d : Nat} {I : Nat → Nat → Int32} {D : Nat → Nat → UInt64} {R : Nat → Nat → Option Nat} {Q : j_Po} {t : Nat}  (ht : t < 6) (hd : 0 ≤ d)
    (v1 : (¬ (I 318 t) = (-1)) → Q (some (.int ((1 <<< ((I 317 t) &&& 31)) ||| (1 <<< ((I 318 t) &&& 31))))) w1 (I, D, RR R))
    (v2 : ((I 318 t) = (-1)) → Q (some (.int ((1 <<< ((I 317 t) &&& 31)) ||| 0))) w1 (I, D, RR R)) : j_Call d 181 [.ref 260, .int (nI t)] w1 (I, D, RR R) 0 0 Q := by
  refine q_enter (L := [some (.ref 260), some (.int (nI t))]) j_m181 (Nat.le_of_ble_eq_true rfl) rfl ?_
  refine q_iconst (v := 1) (by decide) d181_0 ?_
  refine q_aload_n d181_1 rfl ?_
  refine q_getR (x := 317) d181_2 (fs10_40 181 rfl) rfl (lt_w1 rfl) sh260 (rs260_8 R) (by decide) ?_
  refine q_iload_n d181_5 rfl ?_
  refine q_iaload (a := t) d181_6 (lt_w1 rfl) sh317 rfl (by omega) ?_
  refine q_ishl d181_7 ?_
  refine q_aload_n d181_8 rfl ?_
  refine q_getR (x := 318) d181_9 (fs10_43 181 rfl) rfl (lt_w1 rfl) sh260 (rs260_9 R) (by decide) ?_
  refine q_iload_n d181_12 rfl ?_
  refine q_iaload (a := t) d181_13 (lt_w1 rfl) sh318 rfl (by omega) ?_
  refine q_iconst (v := (-1)) (by decide) d181_14 ?_
  refine q_icmp_ne (tgt := 22) d181_15 rfl (fun h1t => ?_) (fun h1f => ?_)
  ·
    refine q_iconst (v := 1) (by decide) d181_22 ?_
    refine q_aload_n d181_23 rfl ?_
    refine q_getR (x := 318) d181_24 (fs10_43 181 rfl) rfl (lt_w1 rfl) sh260 (rs260_9 R) (by decide) ?_
    refine q_iload_n d181_27 rfl ?_
    refine q_iaload (a := t) d181_28 (lt_w1 rfl) sh318 rfl (by omega) ?_
    refine q_ishl d181_29 ?_
    refine q_ior d181_30 ?_
    exact q_iret d181_31 rfl (Nat.le_refl _) (Nat.le_refl _) (v1 h1t)
  ·
    refine q_iconst (v := 0) (by decide) d181_18 ?_
    refine q_goto (tgt := 30) d181_19 rfl ?_
    refine q_ior d181_30 ?_
    exact q_iret d181_31 rfl (Nat.le_refl _) (Nat.le_refl _) (v2 h1f)

set_option maxRecDepth 10000 in
set_option maxHeartbeats 4000000 in
theorem s186 {d : Nat} {I : Nat → Nat → Int32} {D : Nat → Nat → UInt64} {R : Nat → Nat → Option Nat} {Q : j_Po} {t : Nat}  (ht : t < 6) (hd : 0 ≤ d)
    (v1 : (¬ (I 318 t) = (-1)) → Q (some (.int ((I 319 (2 * t)) * (I 319 ((2 * t) + 1))))) w1 (I, D, RR R))
    (v2 : ((I 318 t) = (-1)) → Q (some (.int ((I 319 (2 * t)) * 1))) w1 (I, D, RR R)) : j_Call d 186 [.ref 260, .int (nI t)] w1 (I, D, RR R) 0 0 Q := by
  refine q_enter (L := [some (.ref 260), some (.int (nI t))]) j_m186 (Nat.le_of_ble_eq_true rfl) rfl ?_
  refine q_aload_n d186_0 rfl ?_
  refine q_getR (x := 319) d186_1 (fs10_46 186 rfl) rfl (lt_w1 rfl) sh260 (rs260_10 R) (by decide) ?_
  refine q_iconst (v := 2) (by decide) d186_4 ?_
  refine q_iload_n d186_5 rfl ?_
  refine q_imul d186_6 ?_
  refine r_int (y := (nI (2 * t))) (pk_mul 2 t) ?_
  refine q_iaload (a := (2 * t)) d186_7 (lt_w1 rfl) sh319 rfl (by omega) ?_
  refine q_aload_n d186_8 rfl ?_
  refine q_getR (x := 318) d186_9 (fs10_43 186 rfl) rfl (lt_w1 rfl) sh260 (rs260_9 R) (by decide) ?_
  refine q_iload_n d186_12 rfl ?_
  refine q_iaload (a := t) d186_13 (lt_w1 rfl) sh318 rfl (by omega) ?_
  refine q_iconst (v := (-1)) (by decide) d186_14 ?_
  refine q_icmp_ne (tgt := 22) d186_15 rfl (fun h1t => ?_) (fun h1f => ?_)
  ·
    refine q_aload_n d186_22 rfl ?_
    refine q_getR (x := 319) d186_23 (fs10_46 186 rfl) rfl (lt_w1 rfl) sh260 (rs260_10 R) (by decide) ?_
    refine q_iconst (v := 2) (by decide) d186_26 ?_
    refine q_iload_n d186_27 rfl ?_
    refine q_imul d186_28 ?_
    refine r_int (y := (nI (2 * t))) (pk_mul 2 t) ?_
    refine q_iconst (v := 1) (by decide) d186_29 ?_
    refine q_iadd d186_30 ?_
    refine r_int (y := (nI ((2 * t) + 1))) (nI_add (2 * t) 1) ?_
    refine q_iaload (a := ((2 * t) + 1)) d186_31 (lt_w1 rfl) sh319 rfl (by omega) ?_
    refine q_imul d186_32 ?_
    exact q_iret d186_33 rfl (Nat.le_refl _) (Nat.le_refl _) (v1 h1t)
  ·
    refine q_iconst (v := 1) (by decide) d186_18 ?_
    refine q_goto (tgt := 32) d186_19 rfl ?_
    refine q_imul d186_32 ?_
    exact q_iret d186_33 rfl (Nat.le_refl _) (Nat.le_refl _) (v2 h1f)

set_option maxRecDepth 10000 in
set_option maxHeartbeats 4000000 in
theorem s193 {d : Nat} {I : Nat → Nat → Int32} {D : Nat → Nat → UInt64} {R : Nat → Nat → Option Nat} {Q : j_Po} {x : UInt64} {a : Int32} {b : Int32}   (hd : 0 ≤ d)
    (v1 : vp_in (I 260 26) 4800)
    (v2 : (¬ a = 0) → Q none w1 ((j_u (j_u (j_u I 420 ((I 260 26).toNatClampNeg) a) 421 ((I 260 26).toNatClampNeg) b) 260 26 ((I 260 26) + 1)), (j_u D 419 ((I 260 26).toNatClampNeg) x), RR R))
    (v3 : (a = 0) → Q none w1 ((j_u (j_u (j_u I 420 ((I 260 26).toNatClampNeg) a) 421 ((I 260 26).toNatClampNeg) (-1)) 260 26 ((I 260 26) + 1)), (j_u D 419 ((I 260 26).toNatClampNeg) x), RR R)) : j_Call d 193 [.ref 260, .double x, .int a, .int b] w1 (I, D, RR R) 0 0 Q := by
  refine q_enter (L := [some (.ref 260), some (.double x), none, some (.int a), some (.int b)]) j_m193 (Nat.le_of_ble_eq_true rfl) rfl ?_
  refine q_aload_n d193_0 rfl ?_
  refine q_getR (x := 419) d193_1 (fs10_93 193 rfl) rfl (lt_w1 rfl) sh260 (rs260_27 R) (by decide) ?_
  refine q_aload_n d193_4 rfl ?_
  refine q_getI d193_5 (fs10_243 193 rfl) rfl (lt_w1 rfl) sh260 ?_
  refine q_dload_n d193_8 rfl ?_
  have g1 := ix_of v1 (by decide)
  refine q_dastore (a := (I 260 26).toNatClampNeg) d193_9 (lt_w1 rfl) sh419 g1.1 g1.2 ?_
  refine q_aload_n d193_10 rfl ?_
  refine q_getR (x := 420) d193_11 (fs10_96 193 rfl) rfl (lt_w1 rfl) sh260 (rs260_28 R) (by decide) ?_
  refine q_aload_n d193_14 rfl ?_
  refine q_getI d193_15 (fs10_243 193 rfl) rfl (lt_w1 rfl) sh260 ?_
  refine q_iload_n d193_18 rfl ?_
  have g2 := ix_of v1 (by decide)
  refine q_iastore (a := (I 260 26).toNatClampNeg) d193_19 (lt_w1 rfl) sh420 g2.1 g2.2 ?_
  refine q_aload_n d193_20 rfl ?_
  refine q_getR (x := 421) d193_21 (fs10_99 193 rfl) rfl (lt_w1 rfl) sh260 (rs260_29 R) (by decide) ?_
  refine q_aload_n d193_24 rfl ?_
  refine q_getI d193_25 (fs10_243 193 rfl) rfl (lt_w1 rfl) sh260 ?_
  refine r_int (y := (I 260 26)) (show (j_u I 420 ((I 260 26).toNatClampNeg) a) 260 26 = (I 260 26) from (j_u_o _ _ _ (by decide))) ?_
  refine q_iload_n d193_28 rfl ?_
  refine q_if_ne (tgt := 36) d193_29 rfl (fun h3t => ?_) (fun h3f => ?_)
  ·
    refine q_iload d193_36 rfl ?_
    have g4 := ix_of v1 (by decide)
    refine q_iastore (a := (I 260 26).toNatClampNeg) d193_38 (lt_w1 rfl) sh421 g4.1 g4.2 ?_
    refine q_aload_n d193_39 rfl ?_
    refine q_dup rfl d193_40 ?_
    refine q_getI d193_41 (fs10_243 193 rfl) rfl (lt_w1 rfl) sh260 ?_
    refine r_int (y := (I 260 26)) (show (j_u (j_u I 420 ((I 260 26).toNatClampNeg) a) 421 ((I 260 26).toNatClampNeg) b) 260 26 = (I 260 26) from ((j_u_o _ _ _ (by decide)).trans (j_u_o _ _ _ (by decide)))) ?_
    refine q_iconst (v := 1) (by decide) d193_44 ?_
    refine q_iadd d193_45 ?_
    refine q_putI d193_46 (fs10_243 193 rfl) (Or.inl rfl) rfl (lt_w1 rfl) sh260 ?_
    exact q_ret d193_49 rfl (Nat.le_refl _) (Nat.le_refl _) (v2 h3t)
  ·
    refine q_iconst (v := (-1)) (by decide) d193_32 ?_
    refine q_goto (tgt := 38) d193_33 rfl ?_
    have g5 := ix_of v1 (by decide)
    refine q_iastore (a := (I 260 26).toNatClampNeg) d193_38 (lt_w1 rfl) sh421 g5.1 g5.2 ?_
    refine q_aload_n d193_39 rfl ?_
    refine q_dup rfl d193_40 ?_
    refine q_getI d193_41 (fs10_243 193 rfl) rfl (lt_w1 rfl) sh260 ?_
    refine r_int (y := (I 260 26)) (show (j_u (j_u I 420 ((I 260 26).toNatClampNeg) a) 421 ((I 260 26).toNatClampNeg) (-1)) 260 26 = (I 260 26) from ((j_u_o _ _ _ (by decide)).trans (j_u_o _ _ _ (by decide)))) ?_
    refine q_iconst (v := 1) (by decide) d193_44 ?_
    refine q_iadd d193_45 ?_
    refine q_putI d193_46 (fs10_243 193 rfl) (Or.inl rfl) rfl (lt_w1 rfl) sh260 ?_
    exact q_ret d193_49 rfl (Nat.le_refl _) (Nat.le_refl _) (v3 h3f)

set_option maxRecDepth 10000 in
set_option maxHeartbeats 4000000 in
theorem s196 {d : Nat} {I : Nat → Nat → Int32} {D : Nat → Nat → UInt64} {R : Nat → Nat → Option Nat} {Q : j_Po}    (hd : 0 ≤ d)
    (v1 : vp_in (((I 260 26) - 2) - 1) 4800)
    (v2 : ((I 420 ((((I 260 26) - 2) - 1).toNatClampNeg)) = 0) → (deq (D 419 ((((I 260 26) - 2) - 1).toNatClampNeg)) FP.dconst0 = true) → vp_in (((I 260 26) - 2) + 1) 4800)
    (v3 : ((I 420 ((((I 260 26) - 2) - 1).toNatClampNeg)) = 0) → (deq (D 419 ((((I 260 26) - 2) - 1).toNatClampNeg)) FP.dconst0 = true) → Q none w1 ((j_u (j_u (j_u I 260 26 ((I 260 26) - 2)) 420 ((((I 260 26) - 2) - 1).toNatClampNeg) (I 420 ((((I 260 26) - 2) + 1).toNatClampNeg))) 421 ((((I 260 26) - 2) - 1).toNatClampNeg) (I 421 ((((I 260 26) - 2) + 1).toNatClampNeg))), (j_u D 419 ((((I 260 26) - 2) - 1).toNatClampNeg) (D 419 ((((I 260 26) - 2) + 1).toNatClampNeg))), RR R))
    (v4 : ((I 420 ((((I 260 26) - 2) - 1).toNatClampNeg)) = 0) → (deq (D 419 ((((I 260 26) - 2) - 1).toNatClampNeg)) FP.dconst0 = false) → vp_in ((I 260 26) - 2) 4800)
    (v5 : ((I 420 ((((I 260 26) - 2) - 1).toNatClampNeg)) = 0) → (deq (D 419 ((((I 260 26) - 2) - 1).toNatClampNeg)) FP.dconst0 = false) → Q none w1 ((j_u (j_u (j_u I 260 26 ((I 260 26) - 2)) 420 ((((I 260 26) - 2) - 1).toNatClampNeg) (I 420 (((I 260 26) - 2).toNatClampNeg))) 421 ((((I 260 26) - 2) - 1).toNatClampNeg) (I 421 (((I 260 26) - 2).toNatClampNeg))), (j_u D 419 ((((I 260 26) - 2) - 1).toNatClampNeg) (D 419 (((I 260 26) - 2).toNatClampNeg))), RR R))
    (v6 : (¬ (I 420 ((((I 260 26) - 2) - 1).toNatClampNeg)) = 0) → Q none w1 ((j_u (j_u (j_u I 260 26 ((I 260 26) - 2)) 420 ((((I 260 26) - 2) - 1).toNatClampNeg) (I 420 ((((I 260 26) - 2) - 1).toNatClampNeg))) 421 ((((I 260 26) - 2) - 1).toNatClampNeg) (I 421 ((((I 260 26) - 2) - 1).toNatClampNeg))), (j_u D 419 ((((I 260 26) - 2) - 1).toNatClampNeg) (D 419 ((((I 260 26) - 2) - 1).toNatClampNeg))), RR R)) : j_Call d 196 [.ref 260] w1 (I, D, RR R) 0 0 Q := by
  refine q_enter (L := [some (.ref 260), none]) j_m196 (Nat.le_of_ble_eq_true rfl) rfl ?_
  refine q_aload_n d196_0 rfl ?_
  refine q_dup rfl d196_1 ?_
  refine q_getI d196_2 (fs10_243 196 rfl) rfl (lt_w1 rfl) sh260 ?_
  refine q_iconst (v := 2) (by decide) d196_5 ?_
  refine q_isub d196_6 ?_
  refine q_putI d196_7 (fs10_243 196 rfl) (Or.inl rfl) rfl (lt_w1 rfl) sh260 ?_
  refine q_aload_n d196_10 rfl ?_
  refine q_getR (x := 420) d196_11 (fs10_96 196 rfl) rfl (lt_w1 rfl) sh260 (rs260_28 R) (by decide) ?_
  refine q_aload_n d196_14 rfl ?_
  refine q_getI d196_15 (fs10_243 196 rfl) rfl (lt_w1 rfl) sh260 ?_
  refine r_int (y := ((I 260 26) - 2)) (show (j_u I 260 26 ((I 260 26) - 2)) 260 26 = ((I 260 26) - 2) from (j_u_same _ _ _ _)) ?_
  refine q_iconst (v := 1) (by decide) d196_18 ?_
  refine q_isub d196_19 ?_
  have g1 := ix_of v1 (by decide)
  refine q_iaload (a := (((I 260 26) - 2) - 1).toNatClampNeg) d196_20 (lt_w1 rfl) sh420 g1.1 g1.2 ?_
  refine r_int (y := (I 420 ((((I 260 26) - 2) - 1).toNatClampNeg))) (show (j_u I 260 26 ((I 260 26) - 2)) 420 ((((I 260 26) - 2) - 1).toNatClampNeg) = (I 420 ((((I 260 26) - 2) - 1).toNatClampNeg)) from (j_u_o _ _ _ (by decide))) ?_
  refine q_if_eq (tgt := 33) d196_21 rfl (fun h2t => ?_) (fun h2f => ?_)
  ·
    refine q_aload_n d196_33 rfl ?_
    refine q_getR (x := 419) d196_34 (fs10_93 196 rfl) rfl (lt_w1 rfl) sh260 (rs260_27 R) (by decide) ?_
    refine q_aload_n d196_37 rfl ?_
    refine q_getI d196_38 (fs10_243 196 rfl) rfl (lt_w1 rfl) sh260 ?_
    refine r_int (y := ((I 260 26) - 2)) (show (j_u I 260 26 ((I 260 26) - 2)) 260 26 = ((I 260 26) - 2) from (j_u_same _ _ _ _)) ?_
    refine q_iconst (v := 1) (by decide) d196_41 ?_
    refine q_isub d196_42 ?_
    have g3 := ix_of v1 (by decide)
    refine q_daload (a := (((I 260 26) - 2) - 1).toNatClampNeg) d196_43 (lt_w1 rfl) sh419 g3.1 g3.2 ?_
    refine q_dconst0 d196_44 ?_
    refine q_dcmp d196_45 ?_
    refine q_if_eq (tgt := 56) d196_46 rfl (fun h4t => ?_) (fun h4f => ?_)
    ·
      have h4tc : deq (D 419 ((((I 260 26) - 2) - 1).toNatClampNeg)) FP.dconst0 = true := dc_l_eq_t h4t
      refine q_aload_n d196_56 rfl ?_
      refine q_getI d196_57 (fs10_243 196 rfl) rfl (lt_w1 rfl) sh260 ?_
      refine r_int (y := ((I 260 26) - 2)) (show (j_u I 260 26 ((I 260 26) - 2)) 260 26 = ((I 260 26) - 2) from (j_u_same _ _ _ _)) ?_
      refine q_iconst (v := 1) (by decide) d196_60 ?_
      refine q_iadd d196_61 ?_
      refine q_istore_n (L' := [some (.ref 260), some (.int (((I 260 26) - 2) + 1))]) d196_62 (Nat.le_of_ble_eq_true rfl) rfl ?_
      refine q_aload_n d196_63 rfl ?_
      refine q_getR (x := 419) d196_64 (fs10_93 196 rfl) rfl (lt_w1 rfl) sh260 (rs260_27 R) (by decide) ?_
      refine q_aload_n d196_67 rfl ?_
      refine q_getI d196_68 (fs10_243 196 rfl) rfl (lt_w1 rfl) sh260 ?_
      refine r_int (y := ((I 260 26) - 2)) (show (j_u I 260 26 ((I 260 26) - 2)) 260 26 = ((I 260 26) - 2) from (j_u_same _ _ _ _)) ?_
      refine q_iconst (v := 1) (by decide) d196_71 ?_
      refine q_isub d196_72 ?_
      refine q_aload_n d196_73 rfl ?_
      refine q_getR (x := 419) d196_74 (fs10_93 196 rfl) rfl (lt_w1 rfl) sh260 (rs260_27 R) (by decide) ?_
      refine q_iload_n d196_77 rfl ?_
      have g5 := ix_of (v2 h2t h4tc) (by decide)
      refine q_daload (a := (((I 260 26) - 2) + 1).toNatClampNeg) d196_78 (lt_w1 rfl) sh419 g5.1 g5.2 ?_
      have g6 := ix_of v1 (by decide)
      refine q_dastore (a := (((I 260 26) - 2) - 1).toNatClampNeg) d196_79 (lt_w1 rfl) sh419 g6.1 g6.2 ?_
      refine q_aload_n d196_80 rfl ?_
      refine q_getR (x := 420) d196_81 (fs10_96 196 rfl) rfl (lt_w1 rfl) sh260 (rs260_28 R) (by decide) ?_
      refine q_aload_n d196_84 rfl ?_
      refine q_getI d196_85 (fs10_243 196 rfl) rfl (lt_w1 rfl) sh260 ?_
      refine r_int (y := ((I 260 26) - 2)) (show (j_u I 260 26 ((I 260 26) - 2)) 260 26 = ((I 260 26) - 2) from (j_u_same _ _ _ _)) ?_
      refine q_iconst (v := 1) (by decide) d196_88 ?_
      refine q_isub d196_89 ?_
      refine q_aload_n d196_90 rfl ?_
      refine q_getR (x := 420) d196_91 (fs10_96 196 rfl) rfl (lt_w1 rfl) sh260 (rs260_28 R) (by decide) ?_
      refine q_iload_n d196_94 rfl ?_
      have g7 := ix_of (v2 h2t h4tc) (by decide)
      refine q_iaload (a := (((I 260 26) - 2) + 1).toNatClampNeg) d196_95 (lt_w1 rfl) sh420 g7.1 g7.2 ?_
      refine r_int (y := (I 420 ((((I 260 26) - 2) + 1).toNatClampNeg))) (show (j_u I 260 26 ((I 260 26) - 2)) 420 ((((I 260 26) - 2) + 1).toNatClampNeg) = (I 420 ((((I 260 26) - 2) + 1).toNatClampNeg)) from (j_u_o _ _ _ (by decide))) ?_
      have g8 := ix_of v1 (by decide)
      refine q_iastore (a := (((I 260 26) - 2) - 1).toNatClampNeg) d196_96 (lt_w1 rfl) sh420 g8.1 g8.2 ?_
      refine q_aload_n d196_97 rfl ?_
      refine q_getR (x := 421) d196_98 (fs10_99 196 rfl) rfl (lt_w1 rfl) sh260 (rs260_29 R) (by decide) ?_
      refine q_aload_n d196_101 rfl ?_
      refine q_getI d196_102 (fs10_243 196 rfl) rfl (lt_w1 rfl) sh260 ?_
      refine r_int (y := ((I 260 26) - 2)) (show (j_u (j_u I 260 26 ((I 260 26) - 2)) 420 ((((I 260 26) - 2) - 1).toNatClampNeg) (I 420 ((((I 260 26) - 2) + 1).toNatClampNeg))) 260 26 = ((I 260 26) - 2) from ((j_u_o _ _ _ (by decide)).trans (j_u_same _ _ _ _))) ?_
      refine q_iconst (v := 1) (by decide) d196_105 ?_
      refine q_isub d196_106 ?_
      refine q_aload_n d196_107 rfl ?_
      refine q_getR (x := 421) d196_108 (fs10_99 196 rfl) rfl (lt_w1 rfl) sh260 (rs260_29 R) (by decide) ?_
      refine q_iload_n d196_111 rfl ?_
      have g9 := ix_of (v2 h2t h4tc) (by decide)
      refine q_iaload (a := (((I 260 26) - 2) + 1).toNatClampNeg) d196_112 (lt_w1 rfl) sh421 g9.1 g9.2 ?_
      refine r_int (y := (I 421 ((((I 260 26) - 2) + 1).toNatClampNeg))) (show (j_u (j_u I 260 26 ((I 260 26) - 2)) 420 ((((I 260 26) - 2) - 1).toNatClampNeg) (I 420 ((((I 260 26) - 2) + 1).toNatClampNeg))) 421 ((((I 260 26) - 2) + 1).toNatClampNeg) = (I 421 ((((I 260 26) - 2) + 1).toNatClampNeg)) from ((j_u_o _ _ _ (by decide)).trans (j_u_o _ _ _ (by decide)))) ?_
      have g10 := ix_of v1 (by decide)
      refine q_iastore (a := (((I 260 26) - 2) - 1).toNatClampNeg) d196_113 (lt_w1 rfl) sh421 g10.1 g10.2 ?_
      exact q_ret d196_114 rfl (Nat.le_refl _) (Nat.le_refl _) (v3 h2t h4tc)
    ·
      have h4fc : deq (D 419 ((((I 260 26) - 2) - 1).toNatClampNeg)) FP.dconst0 = false := dc_l_eq_f h4f
      refine q_aload_n d196_49 rfl ?_
      refine q_getI d196_50 (fs10_243 196 rfl) rfl (lt_w1 rfl) sh260 ?_
      refine r_int (y := ((I 260 26) - 2)) (show (j_u I 260 26 ((I 260 26) - 2)) 260 26 = ((I 260 26) - 2) from (j_u_same _ _ _ _)) ?_
      refine q_goto (tgt := 62) d196_53 rfl ?_
      refine q_istore_n (L' := [some (.ref 260), some (.int ((I 260 26) - 2))]) d196_62 (Nat.le_of_ble_eq_true rfl) rfl ?_
      refine q_aload_n d196_63 rfl ?_
      refine q_getR (x := 419) d196_64 (fs10_93 196 rfl) rfl (lt_w1 rfl) sh260 (rs260_27 R) (by decide) ?_
      refine q_aload_n d196_67 rfl ?_
      refine q_getI d196_68 (fs10_243 196 rfl) rfl (lt_w1 rfl) sh260 ?_
      refine r_int (y := ((I 260 26) - 2)) (show (j_u I 260 26 ((I 260 26) - 2)) 260 26 = ((I 260 26) - 2) from (j_u_same _ _ _ _)) ?_
      refine q_iconst (v := 1) (by decide) d196_71 ?_
      refine q_isub d196_72 ?_
      refine q_aload_n d196_73 rfl ?_
      refine q_getR (x := 419) d196_74 (fs10_93 196 rfl) rfl (lt_w1 rfl) sh260 (rs260_27 R) (by decide) ?_
      refine q_iload_n d196_77 rfl ?_
      have g11 := ix_of (v4 h2t h4fc) (by decide)
      refine q_daload (a := ((I 260 26) - 2).toNatClampNeg) d196_78 (lt_w1 rfl) sh419 g11.1 g11.2 ?_
      have g12 := ix_of v1 (by decide)
      refine q_dastore (a := (((I 260 26) - 2) - 1).toNatClampNeg) d196_79 (lt_w1 rfl) sh419 g12.1 g12.2 ?_
      refine q_aload_n d196_80 rfl ?_
      refine q_getR (x := 420) d196_81 (fs10_96 196 rfl) rfl (lt_w1 rfl) sh260 (rs260_28 R) (by decide) ?_
      refine q_aload_n d196_84 rfl ?_
      refine q_getI d196_85 (fs10_243 196 rfl) rfl (lt_w1 rfl) sh260 ?_
      refine r_int (y := ((I 260 26) - 2)) (show (j_u I 260 26 ((I 260 26) - 2)) 260 26 = ((I 260 26) - 2) from (j_u_same _ _ _ _)) ?_
      refine q_iconst (v := 1) (by decide) d196_88 ?_
      refine q_isub d196_89 ?_
      refine q_aload_n d196_90 rfl ?_
      refine q_getR (x := 420) d196_91 (fs10_96 196 rfl) rfl (lt_w1 rfl) sh260 (rs260_28 R) (by decide) ?_
      refine q_iload_n d196_94 rfl ?_
      have g13 := ix_of (v4 h2t h4fc) (by decide)
      refine q_iaload (a := ((I 260 26) - 2).toNatClampNeg) d196_95 (lt_w1 rfl) sh420 g13.1 g13.2 ?_
      refine r_int (y := (I 420 (((I 260 26) - 2).toNatClampNeg))) (show (j_u I 260 26 ((I 260 26) - 2)) 420 (((I 260 26) - 2).toNatClampNeg) = (I 420 (((I 260 26) - 2).toNatClampNeg)) from (j_u_o _ _ _ (by decide))) ?_
      have g14 := ix_of v1 (by decide)
      refine q_iastore (a := (((I 260 26) - 2) - 1).toNatClampNeg) d196_96 (lt_w1 rfl) sh420 g14.1 g14.2 ?_
      refine q_aload_n d196_97 rfl ?_
      refine q_getR (x := 421) d196_98 (fs10_99 196 rfl) rfl (lt_w1 rfl) sh260 (rs260_29 R) (by decide) ?_
      refine q_aload_n d196_101 rfl ?_
      refine q_getI d196_102 (fs10_243 196 rfl) rfl (lt_w1 rfl) sh260 ?_
      refine r_int (y := ((I 260 26) - 2)) (show (j_u (j_u I 260 26 ((I 260 26) - 2)) 420 ((((I 260 26) - 2) - 1).toNatClampNeg) (I 420 (((I 260 26) - 2).toNatClampNeg))) 260 26 = ((I 260 26) - 2) from ((j_u_o _ _ _ (by decide)).trans (j_u_same _ _ _ _))) ?_
      refine q_iconst (v := 1) (by decide) d196_105 ?_
      refine q_isub d196_106 ?_
      refine q_aload_n d196_107 rfl ?_
      refine q_getR (x := 421) d196_108 (fs10_99 196 rfl) rfl (lt_w1 rfl) sh260 (rs260_29 R) (by decide) ?_
      refine q_iload_n d196_111 rfl ?_
      have g15 := ix_of (v4 h2t h4fc) (by decide)
      refine q_iaload (a := ((I 260 26) - 2).toNatClampNeg) d196_112 (lt_w1 rfl) sh421 g15.1 g15.2 ?_
      refine r_int (y := (I 421 (((I 260 26) - 2).toNatClampNeg))) (show (j_u (j_u I 260 26 ((I 260 26) - 2)) 420 ((((I 260 26) - 2) - 1).toNatClampNeg) (I 420 (((I 260 26) - 2).toNatClampNeg))) 421 (((I 260 26) - 2).toNatClampNeg) = (I 421 (((I 260 26) - 2).toNatClampNeg)) from ((j_u_o _ _ _ (by decide)).trans (j_u_o _ _ _ (by decide)))) ?_
      have g16 := ix_of v1 (by decide)
      refine q_iastore (a := (((I 260 26) - 2) - 1).toNatClampNeg) d196_113 (lt_w1 rfl) sh421 g16.1 g16.2 ?_
      exact q_ret d196_114 rfl (Nat.le_refl _) (Nat.le_refl _) (v5 h2t h4fc)
  ·
    refine q_aload_n d196_24 rfl ?_
    refine q_getI d196_25 (fs10_243 196 rfl) rfl (lt_w1 rfl) sh260 ?_
    refine r_int (y := ((I 260 26) - 2)) (show (j_u I 260 26 ((I 260 26) - 2)) 260 26 = ((I 260 26) - 2) from (j_u_same _ _ _ _)) ?_
    refine q_iconst (v := 1) (by decide) d196_28 ?_
    refine q_isub d196_29 ?_
    refine q_goto (tgt := 62) d196_30 rfl ?_
    refine q_istore_n (L' := [some (.ref 260), some (.int (((I 260 26) - 2) - 1))]) d196_62 (Nat.le_of_ble_eq_true rfl) rfl ?_
    refine q_aload_n d196_63 rfl ?_
    refine q_getR (x := 419) d196_64 (fs10_93 196 rfl) rfl (lt_w1 rfl) sh260 (rs260_27 R) (by decide) ?_
    refine q_aload_n d196_67 rfl ?_
    refine q_getI d196_68 (fs10_243 196 rfl) rfl (lt_w1 rfl) sh260 ?_
    refine r_int (y := ((I 260 26) - 2)) (show (j_u I 260 26 ((I 260 26) - 2)) 260 26 = ((I 260 26) - 2) from (j_u_same _ _ _ _)) ?_
    refine q_iconst (v := 1) (by decide) d196_71 ?_
    refine q_isub d196_72 ?_
    refine q_aload_n d196_73 rfl ?_
    refine q_getR (x := 419) d196_74 (fs10_93 196 rfl) rfl (lt_w1 rfl) sh260 (rs260_27 R) (by decide) ?_
    refine q_iload_n d196_77 rfl ?_
    have g17 := ix_of v1 (by decide)
    refine q_daload (a := (((I 260 26) - 2) - 1).toNatClampNeg) d196_78 (lt_w1 rfl) sh419 g17.1 g17.2 ?_
    have g18 := ix_of v1 (by decide)
    refine q_dastore (a := (((I 260 26) - 2) - 1).toNatClampNeg) d196_79 (lt_w1 rfl) sh419 g18.1 g18.2 ?_
    refine q_aload_n d196_80 rfl ?_
    refine q_getR (x := 420) d196_81 (fs10_96 196 rfl) rfl (lt_w1 rfl) sh260 (rs260_28 R) (by decide) ?_
    refine q_aload_n d196_84 rfl ?_
    refine q_getI d196_85 (fs10_243 196 rfl) rfl (lt_w1 rfl) sh260 ?_
    refine r_int (y := ((I 260 26) - 2)) (show (j_u I 260 26 ((I 260 26) - 2)) 260 26 = ((I 260 26) - 2) from (j_u_same _ _ _ _)) ?_
    refine q_iconst (v := 1) (by decide) d196_88 ?_
    refine q_isub d196_89 ?_
    refine q_aload_n d196_90 rfl ?_
    refine q_getR (x := 420) d196_91 (fs10_96 196 rfl) rfl (lt_w1 rfl) sh260 (rs260_28 R) (by decide) ?_
    refine q_iload_n d196_94 rfl ?_
    have g19 := ix_of v1 (by decide)
    refine q_iaload (a := (((I 260 26) - 2) - 1).toNatClampNeg) d196_95 (lt_w1 rfl) sh420 g19.1 g19.2 ?_
    refine r_int (y := (I 420 ((((I 260 26) - 2) - 1).toNatClampNeg))) (show (j_u I 260 26 ((I 260 26) - 2)) 420 ((((I 260 26) - 2) - 1).toNatClampNeg) = (I 420 ((((I 260 26) - 2) - 1).toNatClampNeg)) from (j_u_o _ _ _ (by decide))) ?_
    have g20 := ix_of v1 (by decide)
    refine q_iastore (a := (((I 260 26) - 2) - 1).toNatClampNeg) d196_96 (lt_w1 rfl) sh420 g20.1 g20.2 ?_
    refine q_aload_n d196_97 rfl ?_
    refine q_getR (x := 421) d196_98 (fs10_99 196 rfl) rfl (lt_w1 rfl) sh260 (rs260_29 R) (by decide) ?_
    refine q_aload_n d196_101 rfl ?_
    refine q_getI d196_102 (fs10_243 196 rfl) rfl (lt_w1 rfl) sh260 ?_
    refine r_int (y := ((I 260 26) - 2)) (show (j_u (j_u I 260 26 ((I 260 26) - 2)) 420 ((((I 260 26) - 2) - 1).toNatClampNeg) (I 420 ((((I 260 26) - 2) - 1).toNatClampNeg))) 260 26 = ((I 260 26) - 2) from ((j_u_o _ _ _ (by decide)).trans (j_u_same _ _ _ _))) ?_
    refine q_iconst (v := 1) (by decide) d196_105 ?_
    refine q_isub d196_106 ?_
    refine q_aload_n d196_107 rfl ?_
    refine q_getR (x := 421) d196_108 (fs10_99 196 rfl) rfl (lt_w1 rfl) sh260 (rs260_29 R) (by decide) ?_
    refine q_iload_n d196_111 rfl ?_
    have g21 := ix_of v1 (by decide)
    refine q_iaload (a := (((I 260 26) - 2) - 1).toNatClampNeg) d196_112 (lt_w1 rfl) sh421 g21.1 g21.2 ?_
    refine r_int (y := (I 421 ((((I 260 26) - 2) - 1).toNatClampNeg))) (show (j_u (j_u I 260 26 ((I 260 26) - 2)) 420 ((((I 260 26) - 2) - 1).toNatClampNeg) (I 420 ((((I 260 26) - 2) - 1).toNatClampNeg))) 421 ((((I 260 26) - 2) - 1).toNatClampNeg) = (I 421 ((((I 260 26) - 2) - 1).toNatClampNeg)) from ((j_u_o _ _ _ (by decide)).trans (j_u_o _ _ _ (by decide)))) ?_
    have g22 := ix_of v1 (by decide)
    refine q_iastore (a := (((I 260 26) - 2) - 1).toNatClampNeg) d196_113 (lt_w1 rfl) sh421 g22.1 g22.2 ?_
    exact q_ret d196_114 rfl (Nat.le_refl _) (Nat.le_refl _) (v6 h2f)

set_option maxRecDepth 10000 in
set_option maxHeartbeats 4000000 in
theorem s200 {d : Nat} {I : Nat → Nat → Int32} {D : Nat → Nat → UInt64} {R : Nat → Nat → Option Nat} {Q : j_Po} {k : Nat}  (hk : k < 24) (hd : 0 ≤ d)
    (v1 : Q (some (.int (I 380 k))) w1 (I, D, RR R)) : j_Call d 200 [.ref 260, .int (nI k)] w1 (I, D, RR R) 0 0 Q := by
  refine q_enter (L := [some (.ref 260), some (.int (nI k))]) j_m200 (Nat.le_of_ble_eq_true rfl) rfl ?_
  refine q_aload_n d200_0 rfl ?_
  refine q_getR (x := 379) d200_1 (fs10_78 200 rfl) rfl (lt_w1 rfl) sh260 (rs260_21 R) (by decide) ?_
  refine q_iconst (v := 0) (by decide) d200_4 ?_
  refine q_aaload (c := 4) (a := 0) (x := 380) d200_5 (lt_w1 rfl) sh379 (by decide) rfl (by decide) (rm379 (k := 0) R (by decide)) (by decide) ?_
  refine q_iload_n d200_6 rfl ?_
  refine q_iaload (a := k) d200_7 (lt_w1 rfl) sh380 rfl (by omega) ?_
  exact q_iret d200_8 rfl (Nat.le_refl _) (Nat.le_refl _) v1

set_option maxRecDepth 10000 in
set_option maxHeartbeats 4000000 in
theorem s269 {d : Nat} {I : Nat → Nat → Int32} {D : Nat → Nat → UInt64} {R : Nat → Nat → Option Nat} {Q : j_Po} {x : UInt64} {y : UInt64}   (hd : 0 ≤ d)
    (v1 : Q none w1 (I, (j_u (j_u D 260 53 x) 260 54 y), RR R)) : j_Call d 269 [.ref 260, .double x, .double y] w1 (I, D, RR R) 0 0 Q := by
  refine q_enter (L := [some (.ref 260), some (.double x), none, some (.double y), none]) j_m269 (Nat.le_of_ble_eq_true rfl) rfl ?_
  refine q_aload_n d269_0 rfl ?_
  refine q_dload_n d269_1 rfl ?_
  refine q_putD d269_2 (fs10_517 269 rfl) (Or.inl rfl) rfl (lt_w1 rfl) sh260 ?_
  refine q_aload_n d269_5 rfl ?_
  refine q_dload_n d269_6 rfl ?_
  refine q_putD d269_7 (fs10_520 269 rfl) (Or.inl rfl) rfl (lt_w1 rfl) sh260 ?_
  exact q_ret d269_10 rfl (Nat.le_refl _) (Nat.le_refl _) v1

set_option maxRecDepth 10000 in
set_option maxHeartbeats 4000000 in
theorem s213 {d : Nat} {I : Nat → Nat → Int32} {D : Nat → Nat → UInt64} {R : Nat → Nat → Option Nat} {Q : j_Po} {a : Int32}   (hd : 0 ≤ d)
    (v1 : ((I 260 34) ≤ a) → Q (some (.int (-1))) w1 (I, D, RR R))
    (v2 : (¬ (I 260 34) ≤ a) → vp_in a 96)
    (v3 : (¬ (I 260 34) ≤ a) → Q (some (.int (I 422 a.toNatClampNeg))) w1 (I, D, RR R)) : j_Call d 213 [.ref 260, .int a] w1 (I, D, RR R) 0 0 Q := by
  refine q_enter (L := [some (.ref 260), some (.int a)]) j_m213 (Nat.le_of_ble_eq_true rfl) rfl ?_
  refine q_iload_n d213_0 rfl ?_
  refine q_aload_n d213_1 rfl ?_
  refine q_getI d213_2 (fs10_348 213 rfl) rfl (lt_w1 rfl) sh260 ?_
  refine q_icmp_ge (tgt := 17) d213_5 rfl (fun h1t => ?_) (fun h1f => ?_)
  ·
    refine q_iconst (v := (-1)) (by decide) d213_17 ?_
    exact q_iret d213_18 rfl (Nat.le_refl _) (Nat.le_refl _) (v1 h1t)
  ·
    refine q_aload_n d213_8 rfl ?_
    refine q_getR (x := 422) d213_9 (fs10_102 213 rfl) rfl (lt_w1 rfl) sh260 (rs260_33 R) (by decide) ?_
    refine q_iload_n d213_12 rfl ?_
    have g2 := ix_of (v2 h1f) (by decide)
    refine q_iaload (a := a.toNatClampNeg) d213_13 (lt_w1 rfl) sh422 g2.1 g2.2 ?_
    refine q_goto (tgt := 18) d213_14 rfl ?_
    exact q_iret d213_18 rfl (Nat.le_refl _) (Nat.le_refl _) (v3 h1f)

set_option maxRecDepth 10000 in
set_option maxHeartbeats 4000000 in
theorem s241 {d : Nat} {I : Nat → Nat → Int32} {D : Nat → Nat → UInt64} {R : Nat → Nat → Option Nat} {Q : j_Po} {a : Int32}   (hd : 0 ≤ d)
    (v1 : (¬ (I 260 46) = 0) → Q (some (.int 0)) w1 (I, D, RR R))
    (v2 : ((I 260 46) = 0) → (¬ (I 260 41) = 3) → Q (some (.int 0)) w1 (I, D, RR R))
    (v3 : ((I 260 46) = 0) → ((I 260 41) = 3) → (¬ (I 260 42) = a) → Q (some (.int 0)) w1 (I, D, RR R))
    (v4 : ((I 260 46) = 0) → ((I 260 41) = 3) → ((I 260 42) = a) → Q (some (.int 1)) w1 (I, D, RR R)) : j_Call d 241 [.ref 260, .int a] w1 (I, D, RR R) 0 0 Q := by
  refine q_enter (L := [some (.ref 260), some (.int a)]) j_m241 (Nat.le_of_ble_eq_true rfl) rfl ?_
  refine q_aload_n d241_0 rfl ?_
  refine q_getI d241_1 (fs10_357 241 rfl) rfl (lt_w1 rfl) sh260 ?_
  refine q_if_ne (tgt := 27) d241_4 rfl (fun h1t => ?_) (fun h1f => ?_)
  ·
    refine q_iconst (v := 0) (by decide) d241_27 ?_
    exact q_zret d241_28 rfl (Or.inl rfl) (Nat.le_refl _) (Nat.le_refl _) (v1 h1t)
  ·
    refine q_aload_n d241_7 rfl ?_
    refine q_getI d241_8 (fs10_364 241 rfl) rfl (lt_w1 rfl) sh260 ?_
    refine q_iconst (v := 3) (by decide) d241_11 ?_
    refine q_icmp_ne (tgt := 27) d241_12 rfl (fun h2t => ?_) (fun h2f => ?_)
    ·
      refine q_iconst (v := 0) (by decide) d241_27 ?_
      exact q_zret d241_28 rfl (Or.inl rfl) (Nat.le_refl _) (Nat.le_refl _) (v2 h1f h2t)
    ·
      refine q_aload_n d241_15 rfl ?_
      refine q_getI d241_16 (fs10_378 241 rfl) rfl (lt_w1 rfl) sh260 ?_
      refine q_iload_n d241_19 rfl ?_
      refine q_icmp_ne (tgt := 27) d241_20 rfl (fun h3t => ?_) (fun h3f => ?_)
      ·
        refine q_iconst (v := 0) (by decide) d241_27 ?_
        exact q_zret d241_28 rfl (Or.inl rfl) (Nat.le_refl _) (Nat.le_refl _) (v3 h1f h2f h3t)
      ·
        refine q_iconst (v := 1) (by decide) d241_23 ?_
        refine q_goto (tgt := 28) d241_24 rfl ?_
        exact q_zret d241_28 rfl (Or.inr rfl) (Nat.le_refl _) (Nat.le_refl _) (v4 h1f h2f h3f)

set_option maxRecDepth 10000 in
set_option maxHeartbeats 4000000 in
theorem s238 {d : Nat} {I : Nat → Nat → Int32} {D : Nat → Nat → UInt64} {R : Nat → Nat → Option Nat} {Q : j_Po} {a : Int32}   (hd : 0 ≤ d)
    (v1 : ((I 260 46) = 0) → vp_in (I 260 37) 96)
    (v2 : ((I 260 46) = 0) → Q none w1 ((j_u (j_u I 423 ((I 260 37).toNatClampNeg) a) 260 37 ((I 260 37) + 1)), D, RR R))
    (v3 : (¬ (I 260 46) = 0) → Q none w1 (I, D, RR R)) : j_Call d 238 [.ref 260, .int a] w1 (I, D, RR R) 0 0 Q := by
  refine q_enter (L := [some (.ref 260), some (.int a)]) j_m238 (Nat.le_of_ble_eq_true rfl) rfl ?_
  refine q_aload_n d238_0 rfl ?_
  refine q_getI d238_1 (fs10_357 238 rfl) rfl (lt_w1 rfl) sh260 ?_
  refine q_if_eq (tgt := 8) d238_4 rfl (fun h1t => ?_) (fun h1f => ?_)
  ·
    refine q_aload_n d238_8 rfl ?_
    refine q_getR (x := 423) d238_9 (fs10_105 238 rfl) rfl (lt_w1 rfl) sh260 (rs260_35 R) (by decide) ?_
    refine q_aload_n d238_12 rfl ?_
    refine q_getI d238_13 (fs10_424 238 rfl) rfl (lt_w1 rfl) sh260 ?_
    refine q_iload_n d238_16 rfl ?_
    have g2 := ix_of (v1 h1t) (by decide)
    refine q_iastore (a := (I 260 37).toNatClampNeg) d238_17 (lt_w1 rfl) sh423 g2.1 g2.2 ?_
    refine q_aload_n d238_18 rfl ?_
    refine q_dup rfl d238_19 ?_
    refine q_getI d238_20 (fs10_424 238 rfl) rfl (lt_w1 rfl) sh260 ?_
    refine r_int (y := (I 260 37)) (show (j_u I 423 ((I 260 37).toNatClampNeg) a) 260 37 = (I 260 37) from (j_u_o _ _ _ (by decide))) ?_
    refine q_iconst (v := 1) (by decide) d238_23 ?_
    refine q_iadd d238_24 ?_
    refine q_putI d238_25 (fs10_424 238 rfl) (Or.inl rfl) rfl (lt_w1 rfl) sh260 ?_
    exact q_ret d238_28 rfl (Nat.le_refl _) (Nat.le_refl _) (v2 h1t)
  ·
    exact q_ret d238_7 rfl (Nat.le_refl _) (Nat.le_refl _) (v3 h1f)

set_option maxRecDepth 10000 in
set_option maxHeartbeats 4000000 in
theorem s216 {d : Nat} {I : Nat → Nat → Int32} {D : Nat → Nat → UInt64} {R : Nat → Nat → Option Nat} {Q : j_Po}    (hd : 1 ≤ d)
    (v1 : (¬ (I 260 34) ≤ (I 260 39)) → vp_in (I 260 39) 96)
    (v2 : ((I 260 34) ≤ (I 260 39)) → ((¬ (-1 : Int32) < (48 : Int32) ∧ ¬ (57 : Int32) < (-1 : Int32))) → Q (some (.int 1)) w1 (I, D, RR R))
    (v3 : ((I 260 34) ≤ (I 260 39)) → (¬ ((¬ (-1 : Int32) < (48 : Int32) ∧ ¬ (57 : Int32) < (-1 : Int32)))) → Q (some (.int 0)) w1 (I, D, RR R))
    (v4 : (¬ (I 260 34) ≤ (I 260 39)) → ((¬ (I 422 (I 260 39).toNatClampNeg) < (48 : Int32) ∧ ¬ (57 : Int32) < (I 422 (I 260 39).toNatClampNeg))) → Q (some (.int 1)) w1 (I, D, RR R))
    (v5 : (¬ (I 260 34) ≤ (I 260 39)) → (¬ ((¬ (I 422 (I 260 39).toNatClampNeg) < (48 : Int32) ∧ ¬ (57 : Int32) < (I 422 (I 260 39).toNatClampNeg)))) → Q (some (.int 0)) w1 (I, D, RR R)) : j_Call d 216 [.ref 260] w1 (I, D, RR R) 0 0 Q := by
  refine q_enter (L := [some (.ref 260)]) j_m216 (Nat.le_of_ble_eq_true rfl) rfl ?_
  refine q_aload_n d216_0 rfl ?_
  refine q_aload_n d216_1 rfl ?_
  refine q_getI d216_2 (fs10_351 216 rfl) rfl (lt_w1 rfl) sh260 ?_
  refine q_invV (o := 260) (ci := 10) (av := [.int (I 260 39)]) (rest := []) (d' := 0) (mc' := 0) (ms' := 0) d216_5 (cv10_354 216 rfl) rfl (by decide) rfl rfl (by omega) (Nat.le_of_ble_eq_true rfl) (Nat.le_of_ble_eq_true rfl) (lt_w1 rfl) sh260 (Nat.le_refl _) (Nat.le_refl _) ?_
  refine s213   (Nat.le_refl _) (fun c1 => ?_) v1 (fun c3 => ?_)
  ·
    show j_W 216 d 0 0 0 0 8 [some (.ref 260)] [.int (-1)] w1 (I, D, RR R) Q
    refine q_bipush (v := 48) (by decide) d216_8 ?_
    refine q_bipush (v := 57) (by decide) d216_10 ?_
    refine q_invS (av := [.int (-1), .int 48, .int 57]) (rest := []) (d' := 0) (mc' := 0) (ms' := 0) d216_12 (cv10_183 216 rfl) rfl rfl (by omega) (Nat.le_of_ble_eq_true rfl) (Nat.le_of_ble_eq_true rfl) (Nat.le_refl _) (Nat.le_refl _) ?_
    refine p168  (fun h4 => ?_) (fun h4 => ?_)
    ·
      show j_W 216 d 0 0 0 0 15 [some (.ref 260)] [.int 1] w1 (I, D, RR R) Q
      exact q_zret d216_15 rfl (Or.inr rfl) (Nat.le_refl _) (Nat.le_refl _) (v2 c1 h4)
    ·
      show j_W 216 d 0 0 0 0 15 [some (.ref 260)] [.int 0] w1 (I, D, RR R) Q
      exact q_zret d216_15 rfl (Or.inl rfl) (Nat.le_refl _) (Nat.le_refl _) (v3 c1 h4)
  ·
    show j_W 216 d 0 0 0 0 8 [some (.ref 260)] [.int (I 422 (I 260 39).toNatClampNeg)] w1 (I, D, RR R) Q
    refine q_bipush (v := 48) (by decide) d216_8 ?_
    refine q_bipush (v := 57) (by decide) d216_10 ?_
    refine q_invS (av := [.int (I 422 (I 260 39).toNatClampNeg), .int 48, .int 57]) (rest := []) (d' := 0) (mc' := 0) (ms' := 0) d216_12 (cv10_183 216 rfl) rfl rfl (by omega) (Nat.le_of_ble_eq_true rfl) (Nat.le_of_ble_eq_true rfl) (Nat.le_refl _) (Nat.le_refl _) ?_
    refine p168  (fun h5 => ?_) (fun h5 => ?_)
    ·
      show j_W 216 d 0 0 0 0 15 [some (.ref 260)] [.int 1] w1 (I, D, RR R) Q
      exact q_zret d216_15 rfl (Or.inr rfl) (Nat.le_refl _) (Nat.le_refl _) (v4 c3 h5)
    ·
      show j_W 216 d 0 0 0 0 15 [some (.ref 260)] [.int 0] w1 (I, D, RR R) Q
      exact q_zret d216_15 rfl (Or.inl rfl) (Nat.le_refl _) (Nat.le_refl _) (v5 c3 h5)

