/-! leaves: small static methods -/
set_option maxRecDepth 10000 in
set_option maxHeartbeats 4000000 in
theorem s12 {d : Nat} {I : Nat → Nat → Int32} {D : Nat → Nat → UInt64} {R : Nat → Nat → Option Nat} {Q : j_Po} {c : Int32}  (hd : 0 ≤ d)
    (v1 : (c < 0) → Q (some (.int 0)) w1 (I, D, RR R))
    (v2 : (¬ c < 0) → (24 ≤ c) → Q (some (.int 0)) w1 (I, D, RR R))
    (v3 : (¬ c < 0) → (¬ 24 ≤ c) → Q (some (.int 1)) w1 (I, D, RR R)) : j_Call d 12 [.int c] w1 (I, D, RR R) 0 0 Q := by
  refine q_enter (L := [some (.int c)]) j_m12 (Nat.le_of_ble_eq_true rfl) rfl ?_
  refine q_iload_n d12_0 rfl ?_
  refine q_if_lt (tgt := 14) d12_1 rfl (fun h1t => ?_) (fun h1f => ?_)
  ·
    refine q_iconst (v := 0) (by decide) d12_14 ?_
    exact q_zret d12_15 rfl (Or.inl rfl) (Nat.le_refl _) (Nat.le_refl _) (v1 h1t)
  ·
    refine q_iload_n d12_4 rfl ?_
    refine q_bipush (v := 24) (by decide) d12_5 ?_
    refine q_icmp_ge (tgt := 14) d12_7 rfl (fun h2t => ?_) (fun h2f => ?_)
    ·
      refine q_iconst (v := 0) (by decide) d12_14 ?_
      exact q_zret d12_15 rfl (Or.inl rfl) (Nat.le_refl _) (Nat.le_refl _) (v2 h1f h2t)
    ·
      refine q_iconst (v := 1) (by decide) d12_10 ?_
      refine q_goto (tgt := 15) d12_11 rfl ?_
      exact q_zret d12_15 rfl (Or.inr rfl) (Nat.le_refl _) (Nat.le_refl _) (v3 h1f h2f)

theorem p12 {d : Nat} {I : Nat → Nat → Int32} {D : Nat → Nat → UInt64} {R : Nat → Nat → Option Nat} {Q : j_Po} {c : Int32} (h1 : (¬ c < 0 ∧ ¬ 24 ≤ c) → Q (some (.int 1)) w1 (I, D, RR R)) (h0 : ¬ ((¬ c < 0 ∧ ¬ 24 ≤ c)) → Q (some (.int 0)) w1 (I, D, RR R)) : j_Call d 12 [.int c] w1 (I, D, RR R) 0 0 Q := by
  refine s12 (Nat.zero_le _) ?_ ?_ ?_
  all_goals (intros; first | (refine h1 ?_; simp_all; done) | (refine h0 ?_; simp_all; done))
set_option maxRecDepth 10000 in
set_option maxHeartbeats 4000000 in
theorem s39 {d : Nat} {I : Nat → Nat → Int32} {D : Nat → Nat → UInt64} {R : Nat → Nat → Option Nat} {Q : j_Po} {c : Int32}  (hd : 0 ≤ d)
    (v1 : (c < 0) → Q (some (.int 0)) w1 (I, D, RR R))
    (v2 : (¬ c < 0) → (6 ≤ c) → Q (some (.int 0)) w1 (I, D, RR R))
    (v3 : (¬ c < 0) → (¬ 6 ≤ c) → Q (some (.int 1)) w1 (I, D, RR R)) : j_Call d 39 [.int c] w1 (I, D, RR R) 0 0 Q := by
  refine q_enter (L := [some (.int c)]) j_m39 (Nat.le_of_ble_eq_true rfl) rfl ?_
  refine q_iload_n d39_0 rfl ?_
  refine q_if_lt (tgt := 14) d39_1 rfl (fun h1t => ?_) (fun h1f => ?_)
  ·
    refine q_iconst (v := 0) (by decide) d39_14 ?_
    exact q_zret d39_15 rfl (Or.inl rfl) (Nat.le_refl _) (Nat.le_refl _) (v1 h1t)
  ·
    refine q_iload_n d39_4 rfl ?_
    refine q_bipush (v := 6) (by decide) d39_5 ?_
    refine q_icmp_ge (tgt := 14) d39_7 rfl (fun h2t => ?_) (fun h2f => ?_)
    ·
      refine q_iconst (v := 0) (by decide) d39_14 ?_
      exact q_zret d39_15 rfl (Or.inl rfl) (Nat.le_refl _) (Nat.le_refl _) (v2 h1f h2t)
    ·
      refine q_iconst (v := 1) (by decide) d39_10 ?_
      refine q_goto (tgt := 15) d39_11 rfl ?_
      exact q_zret d39_15 rfl (Or.inr rfl) (Nat.le_refl _) (Nat.le_refl _) (v3 h1f h2f)

theorem p39 {d : Nat} {I : Nat → Nat → Int32} {D : Nat → Nat → UInt64} {R : Nat → Nat → Option Nat} {Q : j_Po} {c : Int32} (h1 : (¬ c < 0 ∧ ¬ 6 ≤ c) → Q (some (.int 1)) w1 (I, D, RR R)) (h0 : ¬ ((¬ c < 0 ∧ ¬ 6 ≤ c)) → Q (some (.int 0)) w1 (I, D, RR R)) : j_Call d 39 [.int c] w1 (I, D, RR R) 0 0 Q := by
  refine s39 (Nat.zero_le _) ?_ ?_ ?_
  all_goals (intros; first | (refine h1 ?_; simp_all; done) | (refine h0 ?_; simp_all; done))
set_option maxRecDepth 10000 in
set_option maxHeartbeats 4000000 in
theorem s113 {d : Nat} {I : Nat → Nat → Int32} {D : Nat → Nat → UInt64} {R : Nat → Nat → Option Nat} {Q : j_Po} {c : Int32}  (hd : 0 ≤ d)
    (v1 : (c < 0) → Q (some (.int 0)) w1 (I, D, RR R))
    (v2 : (¬ c < 0) → (4 ≤ c) → Q (some (.int 0)) w1 (I, D, RR R))
    (v3 : (¬ c < 0) → (¬ 4 ≤ c) → Q (some (.int 1)) w1 (I, D, RR R)) : j_Call d 113 [.int c] w1 (I, D, RR R) 0 0 Q := by
  refine q_enter (L := [some (.int c)]) j_m113 (Nat.le_of_ble_eq_true rfl) rfl ?_
  refine q_iload_n d113_0 rfl ?_
  refine q_if_lt (tgt := 13) d113_1 rfl (fun h1t => ?_) (fun h1f => ?_)
  ·
    refine q_iconst (v := 0) (by decide) d113_13 ?_
    exact q_zret d113_14 rfl (Or.inl rfl) (Nat.le_refl _) (Nat.le_refl _) (v1 h1t)
  ·
    refine q_iload_n d113_4 rfl ?_
    refine q_iconst (v := 4) (by decide) d113_5 ?_
    refine q_icmp_ge (tgt := 13) d113_6 rfl (fun h2t => ?_) (fun h2f => ?_)
    ·
      refine q_iconst (v := 0) (by decide) d113_13 ?_
      exact q_zret d113_14 rfl (Or.inl rfl) (Nat.le_refl _) (Nat.le_refl _) (v2 h1f h2t)
    ·
      refine q_iconst (v := 1) (by decide) d113_9 ?_
      refine q_goto (tgt := 14) d113_10 rfl ?_
      exact q_zret d113_14 rfl (Or.inr rfl) (Nat.le_refl _) (Nat.le_refl _) (v3 h1f h2f)

theorem p113 {d : Nat} {I : Nat → Nat → Int32} {D : Nat → Nat → UInt64} {R : Nat → Nat → Option Nat} {Q : j_Po} {c : Int32} (h1 : (¬ c < 0 ∧ ¬ 4 ≤ c) → Q (some (.int 1)) w1 (I, D, RR R)) (h0 : ¬ ((¬ c < 0 ∧ ¬ 4 ≤ c)) → Q (some (.int 0)) w1 (I, D, RR R)) : j_Call d 113 [.int c] w1 (I, D, RR R) 0 0 Q := by
  refine s113 (Nat.zero_le _) ?_ ?_ ?_
  all_goals (intros; first | (refine h1 ?_; simp_all; done) | (refine h0 ?_; simp_all; done))
set_option maxRecDepth 10000 in
set_option maxHeartbeats 4000000 in
theorem s31 {d : Nat} {I : Nat → Nat → Int32} {D : Nat → Nat → UInt64} {R : Nat → Nat → Option Nat} {Q : j_Po} {c : Int32}  (hd : 0 ≤ d)
    (v1 : (c < 0) → Q (some (.int 0)) w1 (I, D, RR R))
    (v2 : (¬ c < 0) → (6 ≤ c) → Q (some (.int 0)) w1 (I, D, RR R))
    (v3 : (¬ c < 0) → (¬ 6 ≤ c) → Q (some (.int 1)) w1 (I, D, RR R)) : j_Call d 31 [.int c] w1 (I, D, RR R) 0 0 Q := by
  refine q_enter (L := [some (.int c)]) j_m31 (Nat.le_of_ble_eq_true rfl) rfl ?_
  refine q_iload_n d31_0 rfl ?_
  refine q_if_lt (tgt := 14) d31_1 rfl (fun h1t => ?_) (fun h1f => ?_)
  ·
    refine q_iconst (v := 0) (by decide) d31_14 ?_
    exact q_zret d31_15 rfl (Or.inl rfl) (Nat.le_refl _) (Nat.le_refl _) (v1 h1t)
  ·
    refine q_iload_n d31_4 rfl ?_
    refine q_bipush (v := 6) (by decide) d31_5 ?_
    refine q_icmp_ge (tgt := 14) d31_7 rfl (fun h2t => ?_) (fun h2f => ?_)
    ·
      refine q_iconst (v := 0) (by decide) d31_14 ?_
      exact q_zret d31_15 rfl (Or.inl rfl) (Nat.le_refl _) (Nat.le_refl _) (v2 h1f h2t)
    ·
      refine q_iconst (v := 1) (by decide) d31_10 ?_
      refine q_goto (tgt := 15) d31_11 rfl ?_
      exact q_zret d31_15 rfl (Or.inr rfl) (Nat.le_refl _) (Nat.le_refl _) (v3 h1f h2f)

theorem p31 {d : Nat} {I : Nat → Nat → Int32} {D : Nat → Nat → UInt64} {R : Nat → Nat → Option Nat} {Q : j_Po} {c : Int32} (h1 : (¬ c < 0 ∧ ¬ 6 ≤ c) → Q (some (.int 1)) w1 (I, D, RR R)) (h0 : ¬ ((¬ c < 0 ∧ ¬ 6 ≤ c)) → Q (some (.int 0)) w1 (I, D, RR R)) : j_Call d 31 [.int c] w1 (I, D, RR R) 0 0 Q := by
  refine s31 (Nat.zero_le _) ?_ ?_ ?_
  all_goals (intros; first | (refine h1 ?_; simp_all; done) | (refine h0 ?_; simp_all; done))
set_option maxRecDepth 10000 in
set_option maxHeartbeats 4000000 in
theorem s63 {d : Nat} {I : Nat → Nat → Int32} {D : Nat → Nat → UInt64} {R : Nat → Nat → Option Nat} {Q : j_Po} {c : Int32}  (hd : 0 ≤ d)
    (v1 : (c < 0) → Q (some (.int 0)) w1 (I, D, RR R))
    (v2 : (¬ c < 0) → (255 < c) → Q (some (.int 0)) w1 (I, D, RR R))
    (v3 : (¬ c < 0) → (¬ 255 < c) → Q (some (.int 1)) w1 (I, D, RR R)) : j_Call d 63 [.int c] w1 (I, D, RR R) 0 0 Q := by
  refine q_enter (L := [some (.int c)]) j_m63 (Nat.le_of_ble_eq_true rfl) rfl ?_
  refine q_iload_n d63_0 rfl ?_
  refine q_if_lt (tgt := 15) d63_1 rfl (fun h1t => ?_) (fun h1f => ?_)
  ·
    refine q_iconst (v := 0) (by decide) d63_15 ?_
    exact q_zret d63_16 rfl (Or.inl rfl) (Nat.le_refl _) (Nat.le_refl _) (v1 h1t)
  ·
    refine q_iload_n d63_4 rfl ?_
    refine q_sipush (v := 255) (by decide) d63_5 ?_
    refine q_icmp_gt (tgt := 15) d63_8 rfl (fun h2t => ?_) (fun h2f => ?_)
    ·
      refine q_iconst (v := 0) (by decide) d63_15 ?_
      exact q_zret d63_16 rfl (Or.inl rfl) (Nat.le_refl _) (Nat.le_refl _) (v2 h1f h2t)
    ·
      refine q_iconst (v := 1) (by decide) d63_11 ?_
      refine q_goto (tgt := 16) d63_12 rfl ?_
      exact q_zret d63_16 rfl (Or.inr rfl) (Nat.le_refl _) (Nat.le_refl _) (v3 h1f h2f)

theorem p63 {d : Nat} {I : Nat → Nat → Int32} {D : Nat → Nat → UInt64} {R : Nat → Nat → Option Nat} {Q : j_Po} {c : Int32} (h1 : (¬ c < 0 ∧ ¬ 255 < c) → Q (some (.int 1)) w1 (I, D, RR R)) (h0 : ¬ ((¬ c < 0 ∧ ¬ 255 < c)) → Q (some (.int 0)) w1 (I, D, RR R)) : j_Call d 63 [.int c] w1 (I, D, RR R) 0 0 Q := by
  refine s63 (Nat.zero_le _) ?_ ?_ ?_
  all_goals (intros; first | (refine h1 ?_; simp_all; done) | (refine h0 ?_; simp_all; done))
set_option maxRecDepth 10000 in
set_option maxHeartbeats 4000000 in
theorem s13 {d : Nat} {I : Nat → Nat → Int32} {D : Nat → Nat → UInt64} {R : Nat → Nat → Option Nat} {Q : j_Po} {c m : Int32}  (hd : 0 ≤ d)
    (v1 : (c < (-m)) → Q (some (.int 0)) w1 (I, D, RR R))
    (v2 : (¬ c < (-m)) → (m < c) → Q (some (.int 0)) w1 (I, D, RR R))
    (v3 : (¬ c < (-m)) → (¬ m < c) → Q (some (.int 1)) w1 (I, D, RR R)) : j_Call d 13 [.int c, .int m] w1 (I, D, RR R) 0 0 Q := by
  refine q_enter (L := [some (.int c), some (.int m)]) j_m13 (Nat.le_of_ble_eq_true rfl) rfl ?_
  refine q_iload_n d13_0 rfl ?_
  refine q_iload_n d13_1 rfl ?_
  refine q_ineg d13_2 ?_
  refine q_icmp_lt (tgt := 15) d13_3 rfl (fun h1t => ?_) (fun h1f => ?_)
  ·
    refine q_iconst (v := 0) (by decide) d13_15 ?_
    exact q_zret d13_16 rfl (Or.inl rfl) (Nat.le_refl _) (Nat.le_refl _) (v1 h1t)
  ·
    refine q_iload_n d13_6 rfl ?_
    refine q_iload_n d13_7 rfl ?_
    refine q_icmp_gt (tgt := 15) d13_8 rfl (fun h2t => ?_) (fun h2f => ?_)
    ·
      refine q_iconst (v := 0) (by decide) d13_15 ?_
      exact q_zret d13_16 rfl (Or.inl rfl) (Nat.le_refl _) (Nat.le_refl _) (v2 h1f h2t)
    ·
      refine q_iconst (v := 1) (by decide) d13_11 ?_
      refine q_goto (tgt := 16) d13_12 rfl ?_
      exact q_zret d13_16 rfl (Or.inr rfl) (Nat.le_refl _) (Nat.le_refl _) (v3 h1f h2f)

theorem p13 {d : Nat} {I : Nat → Nat → Int32} {D : Nat → Nat → UInt64} {R : Nat → Nat → Option Nat} {Q : j_Po} {c m : Int32} (h1 : (¬ c < -m ∧ ¬ m < c) → Q (some (.int 1)) w1 (I, D, RR R)) (h0 : ¬ ((¬ c < -m ∧ ¬ m < c)) → Q (some (.int 0)) w1 (I, D, RR R)) : j_Call d 13 [.int c, .int m] w1 (I, D, RR R) 0 0 Q := by
  refine s13 (Nat.zero_le _) ?_ ?_ ?_
  all_goals (intros; first | (refine h1 ?_; simp_all; done) | (refine h0 ?_; simp_all; done))
set_option maxRecDepth 10000 in
set_option maxHeartbeats 4000000 in
theorem s21 {d : Nat} {I : Nat → Nat → Int32} {D : Nat → Nat → UInt64} {R : Nat → Nat → Option Nat} {Q : j_Po} {c m : Int32}  (hd : 0 ≤ d)
    (v1 : (((c >>> (m &&& 31)) &&& 1) = 0) → Q (some (.int 0)) w1 (I, D, RR R))
    (v2 : (¬ ((c >>> (m &&& 31)) &&& 1) = 0) → Q (some (.int 1)) w1 (I, D, RR R)) : j_Call d 21 [.int c, .int m] w1 (I, D, RR R) 0 0 Q := by
  refine q_enter (L := [some (.int c), some (.int m)]) j_m21 (Nat.le_of_ble_eq_true rfl) rfl ?_
  refine q_iload_n d21_0 rfl ?_
  refine q_iload_n d21_1 rfl ?_
  refine q_ishr d21_2 ?_
  refine q_iconst (v := 1) (by decide) d21_3 ?_
  refine q_iand d21_4 ?_
  refine q_if_eq (tgt := 12) d21_5 rfl (fun h1t => ?_) (fun h1f => ?_)
  ·
    refine q_iconst (v := 0) (by decide) d21_12 ?_
    exact q_zret d21_13 rfl (Or.inl rfl) (Nat.le_refl _) (Nat.le_refl _) (v1 h1t)
  ·
    refine q_iconst (v := 1) (by decide) d21_8 ?_
    refine q_goto (tgt := 13) d21_9 rfl ?_
    exact q_zret d21_13 rfl (Or.inr rfl) (Nat.le_refl _) (Nat.le_refl _) (v2 h1f)

theorem p21 {d : Nat} {I : Nat → Nat → Int32} {D : Nat → Nat → UInt64} {R : Nat → Nat → Option Nat} {Q : j_Po} {c m : Int32} (h1 : (¬ (c >>> (m &&& 31)) &&& 1 = 0) → Q (some (.int 1)) w1 (I, D, RR R)) (h0 : ¬ ((¬ (c >>> (m &&& 31)) &&& 1 = 0)) → Q (some (.int 0)) w1 (I, D, RR R)) : j_Call d 21 [.int c, .int m] w1 (I, D, RR R) 0 0 Q := by
  refine s21 (Nat.zero_le _) ?_ ?_
  all_goals (intros; first | (refine h1 ?_; simp_all; done) | (refine h0 ?_; simp_all; done))
set_option maxRecDepth 10000 in
set_option maxHeartbeats 4000000 in
theorem s68 {d : Nat} {I : Nat → Nat → Int32} {D : Nat → Nat → UInt64} {R : Nat → Nat → Option Nat} {Q : j_Po} {c : Int32}  (hd : 0 ≤ d)
    (v1 : (c = 32) → Q (some (.int 1)) w1 (I, D, RR R))
    (v2 : (¬ c = 32) → (¬ c = 10) → Q (some (.int 0)) w1 (I, D, RR R))
    (v3 : (¬ c = 32) → (c = 10) → Q (some (.int 1)) w1 (I, D, RR R)) : j_Call d 68 [.int c] w1 (I, D, RR R) 0 0 Q := by
  refine q_enter (L := [some (.int c)]) j_m68 (Nat.le_of_ble_eq_true rfl) rfl ?_
  refine q_iload_n d68_0 rfl ?_
  refine q_bipush (v := 32) (by decide) d68_1 ?_
  refine q_icmp_eq (tgt := 12) d68_3 rfl (fun h1t => ?_) (fun h1f => ?_)
  ·
    refine q_iconst (v := 1) (by decide) d68_12 ?_
    refine q_goto (tgt := 17) d68_13 rfl ?_
    exact q_zret d68_17 rfl (Or.inr rfl) (Nat.le_refl _) (Nat.le_refl _) (v1 h1t)
  ·
    refine q_iload_n d68_6 rfl ?_
    refine q_bipush (v := 10) (by decide) d68_7 ?_
    refine q_icmp_ne (tgt := 16) d68_9 rfl (fun h2t => ?_) (fun h2f => ?_)
    ·
      refine q_iconst (v := 0) (by decide) d68_16 ?_
      exact q_zret d68_17 rfl (Or.inl rfl) (Nat.le_refl _) (Nat.le_refl _) (v2 h1f h2t)
    ·
      refine q_iconst (v := 1) (by decide) d68_12 ?_
      refine q_goto (tgt := 17) d68_13 rfl ?_
      exact q_zret d68_17 rfl (Or.inr rfl) (Nat.le_refl _) (Nat.le_refl _) (v3 h1f h2f)

theorem p68 {d : Nat} {I : Nat → Nat → Int32} {D : Nat → Nat → UInt64} {R : Nat → Nat → Option Nat} {Q : j_Po} {c : Int32} (h1 : (c = 32 ∨ c = 10) → Q (some (.int 1)) w1 (I, D, RR R)) (h0 : ¬ ((c = 32 ∨ c = 10)) → Q (some (.int 0)) w1 (I, D, RR R)) : j_Call d 68 [.int c] w1 (I, D, RR R) 0 0 Q := by
  refine s68 (Nat.zero_le _) ?_ ?_ ?_
  all_goals (intros; first | (refine h1 ?_; simp_all; done) | (refine h0 ?_; simp_all; done))
set_option maxRecDepth 10000 in
set_option maxHeartbeats 4000000 in
theorem s69 {d : Nat} {I : Nat → Nat → Int32} {D : Nat → Nat → UInt64} {R : Nat → Nat → Option Nat} {Q : j_Po} {c : Int32}  (hd : 0 ≤ d)
    (v1 : (c < 97) → Q (some (.int 0)) w1 (I, D, RR R))
    (v2 : (¬ c < 97) → (122 < c) → Q (some (.int 0)) w1 (I, D, RR R))
    (v3 : (¬ c < 97) → (¬ 122 < c) → Q (some (.int 1)) w1 (I, D, RR R)) : j_Call d 69 [.int c] w1 (I, D, RR R) 0 0 Q := by
  refine q_enter (L := [some (.int c)]) j_m69 (Nat.le_of_ble_eq_true rfl) rfl ?_
  refine q_iload_n d69_0 rfl ?_
  refine q_bipush (v := 97) (by decide) d69_1 ?_
  refine q_icmp_lt (tgt := 16) d69_3 rfl (fun h1t => ?_) (fun h1f => ?_)
  ·
    refine q_iconst (v := 0) (by decide) d69_16 ?_
    exact q_zret d69_17 rfl (Or.inl rfl) (Nat.le_refl _) (Nat.le_refl _) (v1 h1t)
  ·
    refine q_iload_n d69_6 rfl ?_
    refine q_bipush (v := 122) (by decide) d69_7 ?_
    refine q_icmp_gt (tgt := 16) d69_9 rfl (fun h2t => ?_) (fun h2f => ?_)
    ·
      refine q_iconst (v := 0) (by decide) d69_16 ?_
      exact q_zret d69_17 rfl (Or.inl rfl) (Nat.le_refl _) (Nat.le_refl _) (v2 h1f h2t)
    ·
      refine q_iconst (v := 1) (by decide) d69_12 ?_
      refine q_goto (tgt := 17) d69_13 rfl ?_
      exact q_zret d69_17 rfl (Or.inr rfl) (Nat.le_refl _) (Nat.le_refl _) (v3 h1f h2f)

theorem p69 {d : Nat} {I : Nat → Nat → Int32} {D : Nat → Nat → UInt64} {R : Nat → Nat → Option Nat} {Q : j_Po} {c : Int32} (h1 : (¬ c < 97 ∧ ¬ 122 < c) → Q (some (.int 1)) w1 (I, D, RR R)) (h0 : ¬ ((¬ c < 97 ∧ ¬ 122 < c)) → Q (some (.int 0)) w1 (I, D, RR R)) : j_Call d 69 [.int c] w1 (I, D, RR R) 0 0 Q := by
  refine s69 (Nat.zero_le _) ?_ ?_ ?_
  all_goals (intros; first | (refine h1 ?_; simp_all; done) | (refine h0 ?_; simp_all; done))
set_option maxRecDepth 10000 in
set_option maxHeartbeats 4000000 in
theorem s83 {d : Nat} {I : Nat → Nat → Int32} {D : Nat → Nat → UInt64} {R : Nat → Nat → Option Nat} {Q : j_Po} {c : Int32}  (hd : 0 ≤ d)
    (v1 : (c < 48) → Q (some (.int 0)) w1 (I, D, RR R))
    (v2 : (¬ c < 48) → (57 < c) → Q (some (.int 0)) w1 (I, D, RR R))
    (v3 : (¬ c < 48) → (¬ 57 < c) → Q (some (.int 1)) w1 (I, D, RR R)) : j_Call d 83 [.int c] w1 (I, D, RR R) 0 0 Q := by
  refine q_enter (L := [some (.int c)]) j_m83 (Nat.le_of_ble_eq_true rfl) rfl ?_
  refine q_iload_n d83_0 rfl ?_
  refine q_bipush (v := 48) (by decide) d83_1 ?_
  refine q_icmp_lt (tgt := 16) d83_3 rfl (fun h1t => ?_) (fun h1f => ?_)
  ·
    refine q_iconst (v := 0) (by decide) d83_16 ?_
    exact q_zret d83_17 rfl (Or.inl rfl) (Nat.le_refl _) (Nat.le_refl _) (v1 h1t)
  ·
    refine q_iload_n d83_6 rfl ?_
    refine q_bipush (v := 57) (by decide) d83_7 ?_
    refine q_icmp_gt (tgt := 16) d83_9 rfl (fun h2t => ?_) (fun h2f => ?_)
    ·
      refine q_iconst (v := 0) (by decide) d83_16 ?_
      exact q_zret d83_17 rfl (Or.inl rfl) (Nat.le_refl _) (Nat.le_refl _) (v2 h1f h2t)
    ·
      refine q_iconst (v := 1) (by decide) d83_12 ?_
      refine q_goto (tgt := 17) d83_13 rfl ?_
      exact q_zret d83_17 rfl (Or.inr rfl) (Nat.le_refl _) (Nat.le_refl _) (v3 h1f h2f)

theorem p83 {d : Nat} {I : Nat → Nat → Int32} {D : Nat → Nat → UInt64} {R : Nat → Nat → Option Nat} {Q : j_Po} {c : Int32} (h1 : (¬ c < 48 ∧ ¬ 57 < c) → Q (some (.int 1)) w1 (I, D, RR R)) (h0 : ¬ ((¬ c < 48 ∧ ¬ 57 < c)) → Q (some (.int 0)) w1 (I, D, RR R)) : j_Call d 83 [.int c] w1 (I, D, RR R) 0 0 Q := by
  refine s83 (Nat.zero_le _) ?_ ?_ ?_
  all_goals (intros; first | (refine h1 ?_; simp_all; done) | (refine h0 ?_; simp_all; done))
set_option maxRecDepth 10000 in
set_option maxHeartbeats 4000000 in
theorem s85 {d : Nat} {I : Nat → Nat → Int32} {D : Nat → Nat → UInt64} {R : Nat → Nat → Option Nat} {Q : j_Po} {c : Int32}  (hd : 0 ≤ d)
    (v1 : (c = 40) → Q (some (.int 1)) w1 (I, D, RR R))
    (v2 : (¬ c = 40) → (c = 41) → Q (some (.int 1)) w1 (I, D, RR R))
    (v3 : (¬ c = 40) → (¬ c = 41) → (c = 44) → Q (some (.int 1)) w1 (I, D, RR R))
    (v4 : (¬ c = 40) → (¬ c = 41) → (¬ c = 44) → (c = 43) → Q (some (.int 1)) w1 (I, D, RR R))
    (v5 : (¬ c = 40) → (¬ c = 41) → (¬ c = 44) → (¬ c = 43) → (c = 45) → Q (some (.int 1)) w1 (I, D, RR R))
    (v6 : (¬ c = 40) → (¬ c = 41) → (¬ c = 44) → (¬ c = 43) → (¬ c = 45) → (c = 42) → Q (some (.int 1)) w1 (I, D, RR R))
    (v7 : (¬ c = 40) → (¬ c = 41) → (¬ c = 44) → (¬ c = 43) → (¬ c = 45) → (¬ c = 42) → (c = 47) → Q (some (.int 1)) w1 (I, D, RR R))
    (v8 : (¬ c = 40) → (¬ c = 41) → (¬ c = 44) → (¬ c = 43) → (¬ c = 45) → (¬ c = 42) → (¬ c = 47) → (c = 37) → Q (some (.int 1)) w1 (I, D, RR R))
    (v9 : (¬ c = 40) → (¬ c = 41) → (¬ c = 44) → (¬ c = 43) → (¬ c = 45) → (¬ c = 42) → (¬ c = 47) → (¬ c = 37) → (c = 60) → Q (some (.int 1)) w1 (I, D, RR R))
    (v10 : (¬ c = 40) → (¬ c = 41) → (¬ c = 44) → (¬ c = 43) → (¬ c = 45) → (¬ c = 42) → (¬ c = 47) → (¬ c = 37) → (¬ c = 60) → (¬ c = 61) → Q (some (.int 0)) w1 (I, D, RR R))
    (v11 : (¬ c = 40) → (¬ c = 41) → (¬ c = 44) → (¬ c = 43) → (¬ c = 45) → (¬ c = 42) → (¬ c = 47) → (¬ c = 37) → (¬ c = 60) → (c = 61) → Q (some (.int 1)) w1 (I, D, RR R)) : j_Call d 85 [.int c] w1 (I, D, RR R) 0 0 Q := by
  refine q_enter (L := [some (.int c)]) j_m85 (Nat.le_of_ble_eq_true rfl) rfl ?_
  refine q_iload_n d85_0 rfl ?_
  refine q_bipush (v := 40) (by decide) d85_1 ?_
  refine q_icmp_eq (tgt := 60) d85_3 rfl (fun h1t => ?_) (fun h1f => ?_)
  ·
    refine q_iconst (v := 1) (by decide) d85_60 ?_
    refine q_goto (tgt := 65) d85_61 rfl ?_
    exact q_zret d85_65 rfl (Or.inr rfl) (Nat.le_refl _) (Nat.le_refl _) (v1 h1t)
  ·
    refine q_iload_n d85_6 rfl ?_
    refine q_bipush (v := 41) (by decide) d85_7 ?_
    refine q_icmp_eq (tgt := 60) d85_9 rfl (fun h2t => ?_) (fun h2f => ?_)
    ·
      refine q_iconst (v := 1) (by decide) d85_60 ?_
      refine q_goto (tgt := 65) d85_61 rfl ?_
      exact q_zret d85_65 rfl (Or.inr rfl) (Nat.le_refl _) (Nat.le_refl _) (v2 h1f h2t)
    ·
      refine q_iload_n d85_12 rfl ?_
      refine q_bipush (v := 44) (by decide) d85_13 ?_
      refine q_icmp_eq (tgt := 60) d85_15 rfl (fun h3t => ?_) (fun h3f => ?_)
      ·
        refine q_iconst (v := 1) (by decide) d85_60 ?_
        refine q_goto (tgt := 65) d85_61 rfl ?_
        exact q_zret d85_65 rfl (Or.inr rfl) (Nat.le_refl _) (Nat.le_refl _) (v3 h1f h2f h3t)
      ·
        refine q_iload_n d85_18 rfl ?_
        refine q_bipush (v := 43) (by decide) d85_19 ?_
        refine q_icmp_eq (tgt := 60) d85_21 rfl (fun h4t => ?_) (fun h4f => ?_)
        ·
          refine q_iconst (v := 1) (by decide) d85_60 ?_
          refine q_goto (tgt := 65) d85_61 rfl ?_
          exact q_zret d85_65 rfl (Or.inr rfl) (Nat.le_refl _) (Nat.le_refl _) (v4 h1f h2f h3f h4t)
        ·
          refine q_iload_n d85_24 rfl ?_
          refine q_bipush (v := 45) (by decide) d85_25 ?_
          refine q_icmp_eq (tgt := 60) d85_27 rfl (fun h5t => ?_) (fun h5f => ?_)
          ·
            refine q_iconst (v := 1) (by decide) d85_60 ?_
            refine q_goto (tgt := 65) d85_61 rfl ?_
            exact q_zret d85_65 rfl (Or.inr rfl) (Nat.le_refl _) (Nat.le_refl _) (v5 h1f h2f h3f h4f h5t)
          ·
            refine q_iload_n d85_30 rfl ?_
            refine q_bipush (v := 42) (by decide) d85_31 ?_
            refine q_icmp_eq (tgt := 60) d85_33 rfl (fun h6t => ?_) (fun h6f => ?_)
            ·
              refine q_iconst (v := 1) (by decide) d85_60 ?_
              refine q_goto (tgt := 65) d85_61 rfl ?_
              exact q_zret d85_65 rfl (Or.inr rfl) (Nat.le_refl _) (Nat.le_refl _) (v6 h1f h2f h3f h4f h5f h6t)
            ·
              refine q_iload_n d85_36 rfl ?_
              refine q_bipush (v := 47) (by decide) d85_37 ?_
              refine q_icmp_eq (tgt := 60) d85_39 rfl (fun h7t => ?_) (fun h7f => ?_)
              ·
                refine q_iconst (v := 1) (by decide) d85_60 ?_
                refine q_goto (tgt := 65) d85_61 rfl ?_
                exact q_zret d85_65 rfl (Or.inr rfl) (Nat.le_refl _) (Nat.le_refl _) (v7 h1f h2f h3f h4f h5f h6f h7t)
              ·
                refine q_iload_n d85_42 rfl ?_
                refine q_bipush (v := 37) (by decide) d85_43 ?_
                refine q_icmp_eq (tgt := 60) d85_45 rfl (fun h8t => ?_) (fun h8f => ?_)
                ·
                  refine q_iconst (v := 1) (by decide) d85_60 ?_
                  refine q_goto (tgt := 65) d85_61 rfl ?_
                  exact q_zret d85_65 rfl (Or.inr rfl) (Nat.le_refl _) (Nat.le_refl _) (v8 h1f h2f h3f h4f h5f h6f h7f h8t)
                ·
                  refine q_iload_n d85_48 rfl ?_
                  refine q_bipush (v := 60) (by decide) d85_49 ?_
                  refine q_icmp_eq (tgt := 60) d85_51 rfl (fun h9t => ?_) (fun h9f => ?_)
                  ·
                    refine q_iconst (v := 1) (by decide) d85_60 ?_
                    refine q_goto (tgt := 65) d85_61 rfl ?_
                    exact q_zret d85_65 rfl (Or.inr rfl) (Nat.le_refl _) (Nat.le_refl _) (v9 h1f h2f h3f h4f h5f h6f h7f h8f h9t)
                  ·
                    refine q_iload_n d85_54 rfl ?_
                    refine q_bipush (v := 61) (by decide) d85_55 ?_
                    refine q_icmp_ne (tgt := 64) d85_57 rfl (fun h10t => ?_) (fun h10f => ?_)
                    ·
                      refine q_iconst (v := 0) (by decide) d85_64 ?_
                      exact q_zret d85_65 rfl (Or.inl rfl) (Nat.le_refl _) (Nat.le_refl _) (v10 h1f h2f h3f h4f h5f h6f h7f h8f h9f h10t)
                    ·
                      refine q_iconst (v := 1) (by decide) d85_60 ?_
                      refine q_goto (tgt := 65) d85_61 rfl ?_
                      exact q_zret d85_65 rfl (Or.inr rfl) (Nat.le_refl _) (Nat.le_refl _) (v11 h1f h2f h3f h4f h5f h6f h7f h8f h9f h10f)

theorem p85 {d : Nat} {I : Nat → Nat → Int32} {D : Nat → Nat → UInt64} {R : Nat → Nat → Option Nat} {Q : j_Po} {c : Int32} (h1 : (c = 40 ∨ c = 41 ∨ c = 44 ∨ c = 43 ∨ c = 45 ∨ c = 42 ∨ c = 47 ∨ c = 37 ∨ c = 60 ∨ c = 61) → Q (some (.int 1)) w1 (I, D, RR R)) (h0 : ¬ ((c = 40 ∨ c = 41 ∨ c = 44 ∨ c = 43 ∨ c = 45 ∨ c = 42 ∨ c = 47 ∨ c = 37 ∨ c = 60 ∨ c = 61)) → Q (some (.int 0)) w1 (I, D, RR R)) : j_Call d 85 [.int c] w1 (I, D, RR R) 0 0 Q := by
  refine s85 (Nat.zero_le _) ?_ ?_ ?_ ?_ ?_ ?_ ?_ ?_ ?_ ?_ ?_
  all_goals (intros; first | (refine h1 ?_; simp_all; done) | (refine h0 ?_; simp_all; done))
set_option maxRecDepth 10000 in
set_option maxHeartbeats 4000000 in
theorem s168 {d : Nat} {I : Nat → Nat → Int32} {D : Nat → Nat → UInt64} {R : Nat → Nat → Option Nat} {Q : j_Po} {c l m : Int32}  (hd : 0 ≤ d)
    (v1 : (c < l) → Q (some (.int 0)) w1 (I, D, RR R))
    (v2 : (¬ c < l) → (m < c) → Q (some (.int 0)) w1 (I, D, RR R))
    (v3 : (¬ c < l) → (¬ m < c) → Q (some (.int 1)) w1 (I, D, RR R)) : j_Call d 168 [.int c, .int l, .int m] w1 (I, D, RR R) 0 0 Q := by
  refine q_enter (L := [some (.int c), some (.int l), some (.int m)]) j_m168 (Nat.le_of_ble_eq_true rfl) rfl ?_
  refine q_iload_n d168_0 rfl ?_
  refine q_iload_n d168_1 rfl ?_
  refine q_icmp_lt (tgt := 14) d168_2 rfl (fun h1t => ?_) (fun h1f => ?_)
  ·
    refine q_iconst (v := 0) (by decide) d168_14 ?_
    exact q_zret d168_15 rfl (Or.inl rfl) (Nat.le_refl _) (Nat.le_refl _) (v1 h1t)
  ·
    refine q_iload_n d168_5 rfl ?_
    refine q_iload_n d168_6 rfl ?_
    refine q_icmp_gt (tgt := 14) d168_7 rfl (fun h2t => ?_) (fun h2f => ?_)
    ·
      refine q_iconst (v := 0) (by decide) d168_14 ?_
      exact q_zret d168_15 rfl (Or.inl rfl) (Nat.le_refl _) (Nat.le_refl _) (v2 h1f h2t)
    ·
      refine q_iconst (v := 1) (by decide) d168_10 ?_
      refine q_goto (tgt := 15) d168_11 rfl ?_
      exact q_zret d168_15 rfl (Or.inr rfl) (Nat.le_refl _) (Nat.le_refl _) (v3 h1f h2f)

theorem p168 {d : Nat} {I : Nat → Nat → Int32} {D : Nat → Nat → UInt64} {R : Nat → Nat → Option Nat} {Q : j_Po} {c l m : Int32} (h1 : (¬ c < l ∧ ¬ m < c) → Q (some (.int 1)) w1 (I, D, RR R)) (h0 : ¬ ((¬ c < l ∧ ¬ m < c)) → Q (some (.int 0)) w1 (I, D, RR R)) : j_Call d 168 [.int c, .int l, .int m] w1 (I, D, RR R) 0 0 Q := by
  refine s168 (Nat.zero_le _) ?_ ?_ ?_
  all_goals (intros; first | (refine h1 ?_; simp_all; done) | (refine h0 ?_; simp_all; done))
theorem rg_iff (c : Int32) {n : Nat} (hn : n < 2 ^ 31) : (¬ c < 0 ∧ ¬ nI n ≤ c) ↔ ∃ k : Nat, k < n ∧ c = nI k := by
  constructor
  · rintro ⟨h1, h2⟩
    rcases pk_ix c hn with h | h | h
    · exact absurd h h1
    · exact absurd h h2
    · exact h
  · rintro ⟨k, hk, rfl⟩
    exact ⟨nI_pos (by omega), nI_ge hk hn⟩
theorem rg_iff' (c : Int32) {n : Nat} (hn : n + 1 < 2 ^ 31) : (¬ c < 0 ∧ ¬ nI n < c) ↔ ∃ k : Nat, k < n + 1 ∧ c = nI k := by
  rw [← rg_iff c hn]
  have e : ¬ nI n < c ↔ ¬ nI (n + 1) ≤ c := by
    rw [Int32.lt_iff_toInt_lt, Int32.le_iff_toInt_le, nI_toInt (by omega), nI_toInt hn]
    omega
  rw [e]
theorem r12 {d : Nat} {I : Nat → Nat → Int32} {D : Nat → Nat → UInt64} {R : Nat → Nat → Option Nat} {Q : j_Po} {c : Int32} (h1 : ∀ k : Nat, k < 24 → c = nI k → Q (some (.int 1)) w1 (I, D, RR R)) (h0 : ¬ (∃ k : Nat, k < 24 ∧ c = nI k) → Q (some (.int 0)) w1 (I, D, RR R)) : j_Call d 12 [.int c] w1 (I, D, RR R) 0 0 Q :=
  p12 (fun h => by obtain ⟨k, hk, e⟩ := (rg_iff c (n := 24) (by decide)).mp h; exact h1 k hk e) (fun h => h0 (fun h2 => h ((rg_iff c (n := 24) (by decide)).mpr h2)))
theorem r12t {d : Nat} {I : Nat → Nat → Int32} {D : Nat → Nat → UInt64} {R : Nat → Nat → Option Nat} {Q : j_Po} {k : Nat} (hk : k < 24) (h1 : Q (some (.int 1)) w1 (I, D, RR R)) : j_Call d 12 [.int (nI k)] w1 (I, D, RR R) 0 0 Q :=
  r12 (fun _ _ _ => h1) (fun h => absurd ⟨k, hk, rfl⟩ h)
theorem r39 {d : Nat} {I : Nat → Nat → Int32} {D : Nat → Nat → UInt64} {R : Nat → Nat → Option Nat} {Q : j_Po} {c : Int32} (h1 : ∀ k : Nat, k < 6 → c = nI k → Q (some (.int 1)) w1 (I, D, RR R)) (h0 : ¬ (∃ k : Nat, k < 6 ∧ c = nI k) → Q (some (.int 0)) w1 (I, D, RR R)) : j_Call d 39 [.int c] w1 (I, D, RR R) 0 0 Q :=
  p39 (fun h => by obtain ⟨k, hk, e⟩ := (rg_iff c (n := 6) (by decide)).mp h; exact h1 k hk e) (fun h => h0 (fun h2 => h ((rg_iff c (n := 6) (by decide)).mpr h2)))
theorem r39t {d : Nat} {I : Nat → Nat → Int32} {D : Nat → Nat → UInt64} {R : Nat → Nat → Option Nat} {Q : j_Po} {k : Nat} (hk : k < 6) (h1 : Q (some (.int 1)) w1 (I, D, RR R)) : j_Call d 39 [.int (nI k)] w1 (I, D, RR R) 0 0 Q :=
  r39 (fun _ _ _ => h1) (fun h => absurd ⟨k, hk, rfl⟩ h)
theorem r113 {d : Nat} {I : Nat → Nat → Int32} {D : Nat → Nat → UInt64} {R : Nat → Nat → Option Nat} {Q : j_Po} {c : Int32} (h1 : ∀ k : Nat, k < 4 → c = nI k → Q (some (.int 1)) w1 (I, D, RR R)) (h0 : ¬ (∃ k : Nat, k < 4 ∧ c = nI k) → Q (some (.int 0)) w1 (I, D, RR R)) : j_Call d 113 [.int c] w1 (I, D, RR R) 0 0 Q :=
  p113 (fun h => by obtain ⟨k, hk, e⟩ := (rg_iff c (n := 4) (by decide)).mp h; exact h1 k hk e) (fun h => h0 (fun h2 => h ((rg_iff c (n := 4) (by decide)).mpr h2)))
theorem r113t {d : Nat} {I : Nat → Nat → Int32} {D : Nat → Nat → UInt64} {R : Nat → Nat → Option Nat} {Q : j_Po} {k : Nat} (hk : k < 4) (h1 : Q (some (.int 1)) w1 (I, D, RR R)) : j_Call d 113 [.int (nI k)] w1 (I, D, RR R) 0 0 Q :=
  r113 (fun _ _ _ => h1) (fun h => absurd ⟨k, hk, rfl⟩ h)
theorem r31 {d : Nat} {I : Nat → Nat → Int32} {D : Nat → Nat → UInt64} {R : Nat → Nat → Option Nat} {Q : j_Po} {c : Int32} (h1 : ∀ k : Nat, k < 6 → c = nI k → Q (some (.int 1)) w1 (I, D, RR R)) (h0 : ¬ (∃ k : Nat, k < 6 ∧ c = nI k) → Q (some (.int 0)) w1 (I, D, RR R)) : j_Call d 31 [.int c] w1 (I, D, RR R) 0 0 Q :=
  p31 (fun h => by obtain ⟨k, hk, e⟩ := (rg_iff c (n := 6) (by decide)).mp h; exact h1 k hk e) (fun h => h0 (fun h2 => h ((rg_iff c (n := 6) (by decide)).mpr h2)))
theorem r31t {d : Nat} {I : Nat → Nat → Int32} {D : Nat → Nat → UInt64} {R : Nat → Nat → Option Nat} {Q : j_Po} {k : Nat} (hk : k < 6) (h1 : Q (some (.int 1)) w1 (I, D, RR R)) : j_Call d 31 [.int (nI k)] w1 (I, D, RR R) 0 0 Q :=
  r31 (fun _ _ _ => h1) (fun h => absurd ⟨k, hk, rfl⟩ h)
