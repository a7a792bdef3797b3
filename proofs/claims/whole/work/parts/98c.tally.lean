/-! the class: tallies -/
set_option maxRecDepth 10000 in
set_option maxHeartbeats 4000000 in
theorem t42 {d : Nat} {I : Nat → Nat → Int32} {D : Nat → Nat → UInt64} {R : Nat → Nat → Option Nat} {Q : j_Po} {o : Nat}  (ho : isTl o) (hd : 0 ≤ d)
    (v1 : Q none w1 ((j_u (j_u (j_u (j_u (j_u I o 0 0) o 3 0) o 5 0) o 8 (-1)) o 9 (-1)), (j_u (j_u (j_u D o 4 FP.dconst0) o 6 FP.dconst0) o 7 FP.dconst0), RR R)) : j_Call d 42 [.ref o] w1 (I, D, RR R) 0 0 Q := by
  refine q_enter (L := [some (.ref o)]) j_m42 (Nat.le_of_ble_eq_true rfl) rfl ?_
  refine q_aload_n d42_0 rfl ?_
  refine q_iconst (v := 0) (by decide) d42_1 ?_
  refine q_putI d42_2 (fs7_19 42 rfl) (Or.inl rfl) rfl (isTl_lt ho) (isTl_sh ho) ?_
  refine q_aload_n d42_5 rfl ?_
  refine q_iconst (v := 0) (by decide) d42_6 ?_
  refine q_putI d42_7 (fs7_23 42 rfl) (Or.inl rfl) rfl (isTl_lt ho) (isTl_sh ho) ?_
  refine q_aload_n d42_10 rfl ?_
  refine q_dconst0 d42_11 ?_
  refine q_putD d42_12 (fs7_26 42 rfl) (Or.inl rfl) rfl (isTl_lt ho) (isTl_sh ho) ?_
  refine q_aload_n d42_15 rfl ?_
  refine q_iconst (v := 0) (by decide) d42_16 ?_
  refine q_putZ d42_17 (fs7_30 42 rfl) (Or.inl rfl) rfl (Or.inl rfl) (isTl_lt ho) (isTl_sh ho) ?_
  refine q_aload_n d42_20 rfl ?_
  refine q_dconst0 d42_21 ?_
  refine q_putD d42_22 (fs7_34 42 rfl) (Or.inl rfl) rfl (isTl_lt ho) (isTl_sh ho) ?_
  refine q_aload_n d42_25 rfl ?_
  refine q_dconst0 d42_26 ?_
  refine q_putD d42_27 (fs7_37 42 rfl) (Or.inl rfl) rfl (isTl_lt ho) (isTl_sh ho) ?_
  refine q_aload_n d42_30 rfl ?_
  refine q_iconst (v := (-1)) (by decide) d42_31 ?_
  refine q_putI d42_32 (fs7_40 42 rfl) (Or.inl rfl) rfl (isTl_lt ho) (isTl_sh ho) ?_
  refine q_aload_n d42_35 rfl ?_
  refine q_iconst (v := (-1)) (by decide) d42_36 ?_
  refine q_putI d42_37 (fs7_43 42 rfl) (Or.inl rfl) rfl (isTl_lt ho) (isTl_sh ho) ?_
  exact q_ret d42_40 rfl (Nat.le_refl _) (Nat.le_refl _) v1

set_option maxRecDepth 10000 in
set_option maxHeartbeats 4000000 in
theorem t47a {d : Nat} {I : Nat → Nat → Int32} {D : Nat → Nat → UInt64} {R : Nat → Nat → Option Nat} {Q : j_Po} {o : Nat} {x : UInt64}  (ho : isTl o) (hd : 0 ≤ d)
    (v1 : (¬ (I o 5) = 0) → j_W 47 d 0 0 0 0 17 [some (.ref o), some (.double x), none] [] w1 (I, D, RR R) Q)
    (v2 : ((I o 5) = 0) → vf_n64 (FP.dadd (D o 4) x))
    (v3 : ((I o 5) = 0) → j_W 47 d 0 0 0 0 17 [some (.ref o), some (.double x), none] [] w1 (I, (j_u D o 4 (FP.dadd (D o 4) x)), RR R) Q) : j_Call d 47 [.ref o, .double x] w1 (I, D, RR R) 0 0 Q := by
  refine q_enter (L := [some (.ref o), some (.double x), none]) j_m47 (Nat.le_of_ble_eq_true rfl) rfl ?_
  refine q_aload_n d47_0 rfl ?_
  refine q_getI d47_1 (fs7_30 47 rfl) rfl (isTl_lt ho) (isTl_sh ho) ?_
  refine q_if_ne (tgt := 17) d47_4 rfl (fun h1t => ?_) (fun h1f => ?_)
  ·
    exact r_sub (L' := [some (.ref o), some (.double x), none]) ⟨rfl, rfl, trivial⟩ (v1 h1t)
  ·
    refine q_aload_n d47_7 rfl ?_
    refine q_aload_n d47_8 rfl ?_
    refine q_getD d47_9 (fs7_26 47 rfl) rfl (isTl_lt ho) (isTl_sh ho) ?_
    refine q_dload_n d47_12 rfl ?_
    refine q_dadd (v2 h1f) d47_13 ?_
    refine q_putD d47_14 (fs7_26 47 rfl) (Or.inl rfl) rfl (isTl_lt ho) (isTl_sh ho) ?_
    exact r_sub (L' := [some (.ref o), some (.double x), none]) ⟨rfl, rfl, trivial⟩ (v3 h1f)

set_option maxRecDepth 10000 in
set_option maxHeartbeats 4000000 in
theorem t47_17 {d : Nat} {I : Nat → Nat → Int32} {D : Nat → Nat → UInt64} {R : Nat → Nat → Option Nat} {Q : j_Po} {o : Nat} {x : UInt64} {n : Nat} (ho : isTl o) (hn : I o 0 = nI n) (hd : 0 ≤ d)
    (v1 : (dgt (D o 4) 4786511204640096256 = true) → j_W 47 d 0 0 0 0 44 [some (.ref o), some (.double x), none] [] w1 ((j_u I o 5 1), D, RR R) Q)
    (v2 : (dgt (D o 4) 4786511204640096256 = false) → (dlt (D o 4) 14009883241494872064 = false) → j_W 47 d 0 0 0 0 44 [some (.ref o), some (.double x), none] [] w1 (I, D, RR R) Q)
    (v3 : (dgt (D o 4) 4786511204640096256 = false) → (dlt (D o 4) 14009883241494872064 = true) → j_W 47 d 0 0 0 0 44 [some (.ref o), some (.double x), none] [] w1 ((j_u I o 5 1), D, RR R) Q) : j_W 47 d 0 0 0 0 17 [some (.ref o), some (.double x), none] [] w1 (I, D, RR R) Q := by
  refine q_aload_n d47_17 rfl ?_
  refine q_getD d47_18 (fs7_26 47 rfl) rfl (isTl_lt ho) (isTl_sh ho) ?_
  refine q_ldcD (v := 4786511204640096256) d47_21 (kc7_50 47 rfl) ?_
  refine q_dcmp d47_24 ?_
  refine q_if_gt (tgt := 39) d47_25 rfl (fun h1t => ?_) (fun h1f => ?_)
  ·
    have h1tc : dgt (D o 4) 4786511204640096256 = true := dc_l_gt_t h1t
    refine q_aload_n d47_39 rfl ?_
    refine q_iconst (v := 1) (by decide) d47_40 ?_
    refine q_putZ d47_41 (fs7_30 47 rfl) (Or.inl rfl) rfl (Or.inr rfl) (isTl_lt ho) (isTl_sh ho) ?_
    exact r_sub (L' := [some (.ref o), some (.double x), none]) ⟨rfl, rfl, trivial⟩ (v1 h1tc)
  ·
    have h1fc : dgt (D o 4) 4786511204640096256 = false := dc_l_gt_f h1f
    refine q_aload_n d47_28 rfl ?_
    refine q_getD d47_29 (fs7_26 47 rfl) rfl (isTl_lt ho) (isTl_sh ho) ?_
    refine q_ldcD (v := 14009883241494872064) d47_32 (kc7_52 47 rfl) ?_
    refine q_dcmp d47_35 ?_
    refine q_if_ge (tgt := 44) d47_36 rfl (fun h2t => ?_) (fun h2f => ?_)
    ·
      have h2tc : dlt (D o 4) 14009883241494872064 = false := dc_g_ge_t h2t
      exact r_sub (L' := [some (.ref o), some (.double x), none]) ⟨rfl, rfl, trivial⟩ (v2 h1fc h2tc)
    ·
      have h2fc : dlt (D o 4) 14009883241494872064 = true := dc_g_ge_f h2f
      refine q_aload_n d47_39 rfl ?_
      refine q_iconst (v := 1) (by decide) d47_40 ?_
      refine q_putZ d47_41 (fs7_30 47 rfl) (Or.inl rfl) rfl (Or.inr rfl) (isTl_lt ho) (isTl_sh ho) ?_
      exact r_sub (L' := [some (.ref o), some (.double x), none]) ⟨rfl, rfl, trivial⟩ (v3 h1fc h2fc)

set_option maxRecDepth 10000 in
set_option maxHeartbeats 4000000 in
theorem t47_44 {d : Nat} {I : Nat → Nat → Int32} {D : Nat → Nat → UInt64} {R : Nat → Nat → Option Nat} {Q : j_Po} {o : Nat} {x : UInt64} {n : Nat} (ho : isTl o) (hn : I o 0 = nI n) (hd : 0 ≤ d)
    (v1 : ((I o 8) = (-1)) → j_W 47 d 0 0 0 0 74 [some (.ref o), some (.double x), none] [] w1 ((j_u I o 8 (nI n)), (j_u D o 6 x), RR R) Q)
    (v2 : (¬ (I o 8) = (-1)) → (dlt x (D o 6) = false) → j_W 47 d 0 0 0 0 74 [some (.ref o), some (.double x), none] [] w1 (I, D, RR R) Q)
    (v3 : (¬ (I o 8) = (-1)) → (dlt x (D o 6) = true) → j_W 47 d 0 0 0 0 74 [some (.ref o), some (.double x), none] [] w1 ((j_u I o 8 (nI n)), (j_u D o 6 x), RR R) Q) : j_W 47 d 0 0 0 0 44 [some (.ref o), some (.double x), none] [] w1 (I, D, RR R) Q := by
  refine q_aload_n d47_44 rfl ?_
  refine q_getI d47_45 (fs7_40 47 rfl) rfl (isTl_lt ho) (isTl_sh ho) ?_
  refine q_iconst (v := (-1)) (by decide) d47_48 ?_
  refine q_icmp_eq (tgt := 61) d47_49 rfl (fun h1t => ?_) (fun h1f => ?_)
  ·
    refine q_aload_n d47_61 rfl ?_
    refine q_dload_n d47_62 rfl ?_
    refine q_putD d47_63 (fs7_34 47 rfl) (Or.inl rfl) rfl (isTl_lt ho) (isTl_sh ho) ?_
    refine q_aload_n d47_66 rfl ?_
    refine q_aload_n d47_67 rfl ?_
    refine q_getI d47_68 (fs7_19 47 rfl) rfl (isTl_lt ho) (isTl_sh ho) ?_
    refine r_int (y := (nI n)) (show I o 0 = (nI n) from hn) ?_
    refine q_putI d47_71 (fs7_40 47 rfl) (Or.inl rfl) rfl (isTl_lt ho) (isTl_sh ho) ?_
    exact r_sub (L' := [some (.ref o), some (.double x), none]) ⟨rfl, rfl, trivial⟩ (v1 h1t)
  ·
    refine q_dload_n d47_52 rfl ?_
    refine q_aload_n d47_53 rfl ?_
    refine q_getD d47_54 (fs7_34 47 rfl) rfl (isTl_lt ho) (isTl_sh ho) ?_
    refine q_dcmp d47_57 ?_
    refine q_if_ge (tgt := 74) d47_58 rfl (fun h2t => ?_) (fun h2f => ?_)
    ·
      have h2tc : dlt x (D o 6) = false := dc_g_ge_t h2t
      exact r_sub (L' := [some (.ref o), some (.double x), none]) ⟨rfl, rfl, trivial⟩ (v2 h1f h2tc)
    ·
      have h2fc : dlt x (D o 6) = true := dc_g_ge_f h2f
      refine q_aload_n d47_61 rfl ?_
      refine q_dload_n d47_62 rfl ?_
      refine q_putD d47_63 (fs7_34 47 rfl) (Or.inl rfl) rfl (isTl_lt ho) (isTl_sh ho) ?_
      refine q_aload_n d47_66 rfl ?_
      refine q_aload_n d47_67 rfl ?_
      refine q_getI d47_68 (fs7_19 47 rfl) rfl (isTl_lt ho) (isTl_sh ho) ?_
      refine r_int (y := (nI n)) (show I o 0 = (nI n) from hn) ?_
      refine q_putI d47_71 (fs7_40 47 rfl) (Or.inl rfl) rfl (isTl_lt ho) (isTl_sh ho) ?_
      exact r_sub (L' := [some (.ref o), some (.double x), none]) ⟨rfl, rfl, trivial⟩ (v3 h1f h2fc)

set_option maxRecDepth 10000 in
set_option maxHeartbeats 4000000 in
theorem t47_74 {d : Nat} {I : Nat → Nat → Int32} {D : Nat → Nat → UInt64} {R : Nat → Nat → Option Nat} {Q : j_Po} {o : Nat} {x : UInt64} {n : Nat} (ho : isTl o) (hn : I o 0 = nI n) (hd : 0 ≤ d)
    (v1 : ((I o 9) = (-1)) → Q none w1 ((j_u I o 9 (nI n)), (j_u D o 7 x), RR R))
    (v2 : (¬ (I o 9) = (-1)) → (dgt x (D o 7) = false) → Q none w1 (I, D, RR R))
    (v3 : (¬ (I o 9) = (-1)) → (dgt x (D o 7) = true) → Q none w1 ((j_u I o 9 (nI n)), (j_u D o 7 x), RR R)) : j_W 47 d 0 0 0 0 74 [some (.ref o), some (.double x), none] [] w1 (I, D, RR R) Q := by
  refine q_aload_n d47_74 rfl ?_
  refine q_getI d47_75 (fs7_43 47 rfl) rfl (isTl_lt ho) (isTl_sh ho) ?_
  refine q_iconst (v := (-1)) (by decide) d47_78 ?_
  refine q_icmp_eq (tgt := 91) d47_79 rfl (fun h1t => ?_) (fun h1f => ?_)
  ·
    refine q_aload_n d47_91 rfl ?_
    refine q_dload_n d47_92 rfl ?_
    refine q_putD d47_93 (fs7_37 47 rfl) (Or.inl rfl) rfl (isTl_lt ho) (isTl_sh ho) ?_
    refine q_aload_n d47_96 rfl ?_
    refine q_aload_n d47_97 rfl ?_
    refine q_getI d47_98 (fs7_19 47 rfl) rfl (isTl_lt ho) (isTl_sh ho) ?_
    refine r_int (y := (nI n)) (show I o 0 = (nI n) from hn) ?_
    refine q_putI d47_101 (fs7_43 47 rfl) (Or.inl rfl) rfl (isTl_lt ho) (isTl_sh ho) ?_
    exact q_ret d47_104 rfl (Nat.le_refl _) (Nat.le_refl _) (v1 h1t)
  ·
    refine q_dload_n d47_82 rfl ?_
    refine q_aload_n d47_83 rfl ?_
    refine q_getD d47_84 (fs7_37 47 rfl) rfl (isTl_lt ho) (isTl_sh ho) ?_
    refine q_dcmp d47_87 ?_
    refine q_if_le (tgt := 104) d47_88 rfl (fun h2t => ?_) (fun h2f => ?_)
    ·
      have h2tc : dgt x (D o 7) = false := dc_l_le_t h2t
      exact q_ret d47_104 rfl (Nat.le_refl _) (Nat.le_refl _) (v2 h1f h2tc)
    ·
      have h2fc : dgt x (D o 7) = true := dc_l_le_f h2f
      refine q_aload_n d47_91 rfl ?_
      refine q_dload_n d47_92 rfl ?_
      refine q_putD d47_93 (fs7_37 47 rfl) (Or.inl rfl) rfl (isTl_lt ho) (isTl_sh ho) ?_
      refine q_aload_n d47_96 rfl ?_
      refine q_aload_n d47_97 rfl ?_
      refine q_getI d47_98 (fs7_19 47 rfl) rfl (isTl_lt ho) (isTl_sh ho) ?_
      refine r_int (y := (nI n)) (show I o 0 = (nI n) from hn) ?_
      refine q_putI d47_101 (fs7_43 47 rfl) (Or.inl rfl) rfl (isTl_lt ho) (isTl_sh ho) ?_
      exact q_ret d47_104 rfl (Nat.le_refl _) (Nat.le_refl _) (v3 h1f h2fc)

theorem dj_id {D : Nat → Nat → UInt64} {o k : Nat} {x : UInt64} (h : D o k = x) : j_u D o k x = D := by
  funext a b
  by_cases e : a = o
  · subst e
    by_cases e2 : b = k
    · subst e2; rw [j_u_same]; exact h.symm
    · rw [j_u_k _ _ e2]
  · rw [j_u_o _ _ _ e]
section TY
variable {d : Nat} {I : Nat → Nat → Int32} {D : Nat → Nat → UInt64} {R : Nat → Nat → Option Nat} {Q : j_Po} {o : Nat}
def nS (I : Nat → Nat → Int32) (D : Nat → Nat → UInt64) (o : Nat) (x : UInt64) : UInt64 := if I o 5 = 0 then FP.dadd (D o 4) x else D o 4
def nF (I : Nat → Nat → Int32) (D : Nat → Nat → UInt64) (o : Nat) (x : UInt64) : Int32 := if farB (nS I D o x) = true then 1 else I o 5
theorem c47 {n : Nat} {x : UInt64} (ho : isTl o) (hn : I o 0 = nI n) (hs : I o 5 = 0 → vf_n64 (FP.dadd (D o 4) x)) (hq : Q none w1 (j_u (j_u (j_u I o 5 (nF I D o x)) o 8 (if I o 8 = -1 ∨ dlt x (D o 6) = true then nI n else I o 8)) o 9 (if I o 9 = -1 ∨ dgt x (D o 7) = true then nI n else I o 9), j_u (j_u (j_u D o 4 (nS I D o x)) o 6 (if I o 8 = -1 ∨ dlt x (D o 6) = true then x else D o 6)) o 7 (if I o 9 = -1 ∨ dgt x (D o 7) = true then x else D o 7), RR R)) : j_Call d 47 [.ref o, .double x] w1 (I, D, RR R) 0 0 Q := by
  have h4 : ∀ (I1 : Nat → Nat → Int32) (D1 : Nat → Nat → UInt64), I1 o 0 = nI n → I1 o 9 = I o 9 → D1 o 7 = D o 7 → Q none w1 (j_u I1 o 9 (if I o 9 = -1 ∨ dgt x (D o 7) = true then nI n else I o 9), j_u D1 o 7 (if I o 9 = -1 ∨ dgt x (D o 7) = true then x else D o 7), RR R) → j_W 47 d 0 0 0 0 74 [some (.ref o), some (.double x), none] [] w1 (I1, D1, RR R) Q := by
    intro I1 D1 g0 g9 g7 hq
    refine t47_74 ho g0 (Nat.zero_le _) (fun a => ?_) (fun a b => ?_) (fun a b => ?_)
    · rw [if_pos (Or.inl (g9.symm.trans a)), if_pos (Or.inl (g9.symm.trans a))] at hq; exact hq
    · rw [if_neg (show ¬ (I o 9 = -1 ∨ dgt x (D o 7) = true) from fun h => h.elim (fun h => a (g9.trans h)) (fun h => by rw [← g7, b] at h; cases h)), if_neg (show ¬ (I o 9 = -1 ∨ dgt x (D o 7) = true) from fun h => h.elim (fun h => a (g9.trans h)) (fun h => by rw [← g7, b] at h; cases h)), ju_id g9, dj_id g7] at hq; exact hq
    · rw [if_pos (Or.inr (by rw [← g7]; exact b)), if_pos (Or.inr (by rw [← g7]; exact b))] at hq; exact hq
  have h3 : ∀ (I1 : Nat → Nat → Int32) (D1 : Nat → Nat → UInt64), I1 o 0 = nI n → I1 o 8 = I o 8 → D1 o 6 = D o 6 → j_W 47 d 0 0 0 0 74 [some (.ref o), some (.double x), none] [] w1 (j_u I1 o 8 (if I o 8 = -1 ∨ dlt x (D o 6) = true then nI n else I o 8), j_u D1 o 6 (if I o 8 = -1 ∨ dlt x (D o 6) = true then x else D o 6), RR R) Q → j_W 47 d 0 0 0 0 44 [some (.ref o), some (.double x), none] [] w1 (I1, D1, RR R) Q := by
    intro I1 D1 g0 g9 g7 hq
    refine t47_44 ho g0 (Nat.zero_le _) (fun a => ?_) (fun a b => ?_) (fun a b => ?_)
    · rw [if_pos (Or.inl (g9.symm.trans a)), if_pos (Or.inl (g9.symm.trans a))] at hq; exact hq
    · rw [if_neg (show ¬ (I o 8 = -1 ∨ dlt x (D o 6) = true) from fun h => h.elim (fun h => a (g9.trans h)) (fun h => by rw [← g7, b] at h; cases h)), if_neg (show ¬ (I o 8 = -1 ∨ dlt x (D o 6) = true) from fun h => h.elim (fun h => a (g9.trans h)) (fun h => by rw [← g7, b] at h; cases h)), ju_id g9, dj_id g7] at hq; exact hq
    · rw [if_pos (Or.inr (by rw [← g7]; exact b)), if_pos (Or.inr (by rw [← g7]; exact b))] at hq; exact hq
  have h2 : ∀ (D1 : Nat → Nat → UInt64), D1 o 4 = nS I D o x → j_W 47 d 0 0 0 0 44 [some (.ref o), some (.double x), none] [] w1 (j_u I o 5 (nF I D o x), D1, RR R) Q → j_W 47 d 0 0 0 0 17 [some (.ref o), some (.double x), none] [] w1 (I, D1, RR R) Q := by
    intro D1 g hq
    refine t47_17 ho hn (Nat.zero_le _) (fun a => ?_) (fun a b => ?_) (fun a b => ?_)
    · rw [show nF I D o x = 1 from if_pos (by rw [← g]; exact farB_1 a)] at hq; exact hq
    · rw [show nF I D o x = I o 5 from if_neg (by rw [← g, farB_f a b]; simp), ju_id rfl] at hq; exact hq
    · rw [show nF I D o x = 1 from if_pos (by rw [← g]; exact farB_2 a b)] at hq; exact hq
  have fin : ∀ D1, D1 = j_u D o 4 (nS I D o x) → j_W 47 d 0 0 0 0 17 [some (.ref o), some (.double x), none] [] w1 (I, D1, RR R) Q := by
    intro D1 e
    refine h2 D1 (by rw [e, j_u_same]) (h3 _ _ (by rw [j_u_k _ _ (by decide)]; exact hn) (by rw [j_u_k _ _ (by decide)]) (by rw [e, j_u_k _ _ (by decide)]) (h4 _ _ (by rw [j_u_k _ _ (by decide), j_u_k _ _ (by decide)]; exact hn) (by rw [j_u_k _ _ (by decide), j_u_k _ _ (by decide)]) (by rw [e, j_u_k _ _ (by decide), j_u_k _ _ (by decide)]) ?_))
    rw [e]; exact hq
  refine t47a ho (Nat.zero_le _) (fun a => fin _ ?_) (fun a => hs a) (fun a => fin _ ?_)
  · rw [show nS I D o x = D o 4 from if_neg a, dj_id rfl]
  · rw [show nS I D o x = FP.dadd (D o 4) x from if_pos a]
end TY
set_option maxRecDepth 10000 in
set_option maxHeartbeats 4000000 in
theorem t46 {d : Nat} {I : Nat → Nat → Int32} {D : Nat → Nat → UInt64} {R : Nat → Nat → Option Nat} {Q : j_Po} {o : Nat} {x : UInt64} {w : Nat} {n b : Nat} (ho : isTl o) (hn : I o 0 = nI n) (hn9 : n < 64) (hw : w < 200) (hb : I o 3 = nI b) (hd : 1 ≤ d)
    (v1 : (n < 64) → (¬ (nI w) = 0) → j_W 46 d 0 0 0 0 52 [some (.ref o), none, none, none] [] w1 ((j_u (j_u I (o + 2) n (nI w)) o 3 (((j_u I (o + 2) n (nI w)) o 3) + 1)), (j_u D (o + 1) n x), RR R) Q)
    (v2 : (n < 64) → ((nI w) = 0) → (j_u I (o + 2) n (nI w)) o 0 = nI n)
    (v3 : (n < 64) → ((nI w) = 0) → (j_u I (o + 2) n (nI w)) o 5 = 0 → vf_n64 (FP.dadd ((j_u D (o + 1) n x) o 4) x))
    (v4 : (n < 64) → ((nI w) = 0) → j_W 46 d 0 0 0 0 52 [some (.ref o), none, none, none] [] w1 ((j_u (j_u (j_u (j_u I (o + 2) n (nI w)) o 5 (nF (j_u I (o + 2) n (nI w)) (j_u D (o + 1) n x) o x)) o 8 (if (j_u I (o + 2) n (nI w)) o 8 = -1 ∨ dlt x ((j_u D (o + 1) n x) o 6) = true then nI n else (j_u I (o + 2) n (nI w)) o 8)) o 9 (if (j_u I (o + 2) n (nI w)) o 9 = -1 ∨ dgt x ((j_u D (o + 1) n x) o 7) = true then nI n else (j_u I (o + 2) n (nI w)) o 9)), (j_u (j_u (j_u (j_u D (o + 1) n x) o 4 (nS (j_u I (o + 2) n (nI w)) (j_u D (o + 1) n x) o x)) o 6 (if (j_u I (o + 2) n (nI w)) o 8 = -1 ∨ dlt x ((j_u D (o + 1) n x) o 6) = true then x else (j_u D (o + 1) n x) o 6)) o 7 (if (j_u I (o + 2) n (nI w)) o 9 = -1 ∨ dgt x ((j_u D (o + 1) n x) o 7) = true then x else (j_u D (o + 1) n x) o 7)), RR R) Q)
    (v5 : (¬ n < 64) → Q none w1 (I, D, RR R)) : j_Call d 46 [.ref o, .double x, .int (nI w)] w1 (I, D, RR R) 0 0 Q := by
  refine q_enter (L := [some (.ref o), some (.double x), none, some (.int (nI w))]) j_m46 (Nat.le_of_ble_eq_true rfl) rfl ?_
  refine q_aload_n d46_0 rfl ?_
  refine q_getI d46_1 (fs7_19 46 rfl) rfl (isTl_lt ho) (isTl_sh ho) ?_
  refine r_int (y := (nI n)) (show I o 0 = (nI n) from hn) ?_
  refine q_bipush (v := 64) (by decide) d46_4 ?_
  refine q_icmp_lt (tgt := 10) d46_6 rfl (fun h1t => ?_) (fun h1f => ?_)
  ·
    have h1tc : n < 64 := (nI_ltI (by omega) (by omega)).mp h1t
    refine q_aload_n d46_10 rfl ?_
    refine q_getR (x := (o + 1)) d46_11 (fs7_9 46 rfl) rfl (isTl_lt ho) (isTl_sh ho) (isTl_r1 R ho) (lt1000 (isTl_lt1 ho)) ?_
    refine q_aload_n d46_14 rfl ?_
    refine q_getI d46_15 (fs7_19 46 rfl) rfl (isTl_lt ho) (isTl_sh ho) ?_
    refine r_int (y := (nI n)) (show I o 0 = (nI n) from hn) ?_
    refine q_dload_n d46_18 rfl ?_
    refine q_dastore (a := n) d46_19 (isTl_lt1 ho) (isTl_sh1 ho) rfl (by omega) ?_
    refine q_aload_n d46_20 rfl ?_
    refine q_getR (x := (o + 2)) d46_21 (fs7_15 46 rfl) rfl (isTl_lt ho) (isTl_sh ho) (isTl_r2 R ho) (lt1000 (isTl_lt2 ho)) ?_
    refine q_aload_n d46_24 rfl ?_
    refine q_getI d46_25 (fs7_19 46 rfl) rfl (isTl_lt ho) (isTl_sh ho) ?_
    refine r_int (y := (nI n)) (show I o 0 = (nI n) from hn) ?_
    refine q_iload_n d46_28 rfl ?_
    refine q_iastore (a := n) d46_29 (isTl_lt2 ho) (isTl_sh2 ho) rfl (by omega) ?_
    refine q_iload_n d46_30 rfl ?_
    refine q_if_ne (tgt := 42) d46_31 rfl (fun h2t => ?_) (fun h2f => ?_)
    ·
      refine q_aload_n d46_42 rfl ?_
      refine q_dup rfl d46_43 ?_
      refine q_getI d46_44 (fs7_23 46 rfl) rfl (isTl_lt ho) (isTl_sh ho) ?_
      refine q_iconst (v := 1) (by decide) d46_47 ?_
      refine q_iadd d46_48 ?_
      refine q_putI d46_49 (fs7_23 46 rfl) (Or.inl rfl) rfl (isTl_lt ho) (isTl_sh ho) ?_
      exact r_sub (L' := [some (.ref o), none, none, none]) ⟨rfl, trivial⟩ (v1 h1tc h2t)
    ·
      refine q_aload_n d46_34 rfl ?_
      refine q_dload_n d46_35 rfl ?_
      refine q_invV (o := o) (ci := 7) (av := [.double x]) (rest := []) (d' := 0) (mc' := 0) (ms' := 0) d46_36 (cv7_46 46 rfl) rfl (by decide) rfl rfl (by omega) (Nat.le_of_ble_eq_true rfl) (Nat.le_of_ble_eq_true rfl) (isTl_lt ho) (isTl_sh ho) (Nat.le_refl _) (Nat.le_refl _) ?_
      refine c47 (n := n) ho (v2 h1tc h2f) (v3 h1tc h2f) ?_
      show j_W 46 d 0 0 0 0 39 [some (.ref o), some (.double x), none, some (.int (nI w))] [] w1 ((j_u (j_u (j_u (j_u I (o + 2) n (nI w)) o 5 (nF (j_u I (o + 2) n (nI w)) (j_u D (o + 1) n x) o x)) o 8 (if (j_u I (o + 2) n (nI w)) o 8 = -1 ∨ dlt x ((j_u D (o + 1) n x) o 6) = true then nI n else (j_u I (o + 2) n (nI w)) o 8)) o 9 (if (j_u I (o + 2) n (nI w)) o 9 = -1 ∨ dgt x ((j_u D (o + 1) n x) o 7) = true then nI n else (j_u I (o + 2) n (nI w)) o 9)), (j_u (j_u (j_u (j_u D (o + 1) n x) o 4 (nS (j_u I (o + 2) n (nI w)) (j_u D (o + 1) n x) o x)) o 6 (if (j_u I (o + 2) n (nI w)) o 8 = -1 ∨ dlt x ((j_u D (o + 1) n x) o 6) = true then x else (j_u D (o + 1) n x) o 6)) o 7 (if (j_u I (o + 2) n (nI w)) o 9 = -1 ∨ dgt x ((j_u D (o + 1) n x) o 7) = true then x else (j_u D (o + 1) n x) o 7)), RR R) Q
      refine q_goto (tgt := 52) d46_39 rfl ?_
      exact r_sub (L' := [some (.ref o), none, none, none]) ⟨rfl, trivial⟩ (v4 h1tc h2f)
  ·
    have h1fc : ¬ n < 64 := mt (nI_ltI (by omega) (by omega)).mpr h1f
    exact q_ret d46_9 rfl (Nat.le_refl _) (Nat.le_refl _) (v5 h1fc)

set_option maxRecDepth 10000 in
set_option maxHeartbeats 4000000 in
theorem t46b {d : Nat} {I : Nat → Nat → Int32} {D : Nat → Nat → UInt64} {R : Nat → Nat → Option Nat} {Q : j_Po} {o : Nat} {n : Nat} (ho : isTl o) (hn : I o 0 = nI n) (hd : 0 ≤ d)
    (v1 : Q none w1 ((j_u I o 0 (nI (n + 1))), D, RR R)) : j_W 46 d 0 0 0 0 52 [some (.ref o), none, none, none] [] w1 (I, D, RR R) Q := by
  refine q_aload_n d46_52 rfl ?_
  refine q_dup rfl d46_53 ?_
  refine q_getI d46_54 (fs7_19 46 rfl) rfl (isTl_lt ho) (isTl_sh ho) ?_
  refine r_int (y := (nI n)) (show I o 0 = (nI n) from hn) ?_
  refine q_iconst (v := 1) (by decide) d46_57 ?_
  refine q_iadd d46_58 ?_
  refine r_int (y := (nI (n + 1))) (nI_add n 1) ?_
  refine q_putI d46_59 (fs7_19 46 rfl) (Or.inl rfl) rfl (isTl_lt ho) (isTl_sh ho) ?_
  exact q_ret d46_62 rfl (Nat.le_refl _) (Nat.le_refl _) v1

set_option maxRecDepth 10000 in
set_option maxHeartbeats 4000000 in
theorem t48 {d : Nat} {I : Nat → Nat → Int32} {D : Nat → Nat → UInt64} {R : Nat → Nat → Option Nat} {Q : j_Po} {o : Nat} {f : Nat} {n b : Nat} (ho : isTl o) (hn : I o 0 = nI n) (hb : I o 3 = nI b) (hbn : b ≤ n) (hn6 : n ≤ 64) (hf : f < 5) (hd : 0 ≤ d)
    (v1 : (f < 1) → (1 < f) → Q (some (.int 0)) w1 (I, D, RR R))
    (v2 : (f < 1) → (¬ 1 < f) → ((I o 5) = 0) → Q (some (.int 0)) w1 (I, D, RR R))
    (v3 : (f < 1) → (¬ 1 < f) → (¬ (I o 5) = 0) → Q (some (.int 3)) w1 (I, D, RR R))
    (v4 : (¬ f < 1) → (3 < f) → (1 < f) → Q (some (.int 0)) w1 (I, D, RR R))
    (v5 : (¬ f < 1) → (3 < f) → (¬ 1 < f) → ((I o 5) = 0) → Q (some (.int 0)) w1 (I, D, RR R))
    (v6 : (¬ f < 1) → (3 < f) → (¬ 1 < f) → (¬ (I o 5) = 0) → Q (some (.int 3)) w1 (I, D, RR R))
    (v7 : (¬ f < 1) → (¬ 3 < f) → (1 ≤ ((nI n) - (nI b))) → (1 < f) → Q (some (.int 0)) w1 (I, D, RR R))
    (v8 : (¬ f < 1) → (¬ 3 < f) → (1 ≤ ((nI n) - (nI b))) → (¬ 1 < f) → ((I o 5) = 0) → Q (some (.int 0)) w1 (I, D, RR R))
    (v9 : (¬ f < 1) → (¬ 3 < f) → (1 ≤ ((nI n) - (nI b))) → (¬ 1 < f) → (¬ (I o 5) = 0) → Q (some (.int 3)) w1 (I, D, RR R))
    (v10 : (¬ f < 1) → (¬ 3 < f) → (¬ 1 ≤ ((nI n) - (nI b))) → Q (some (.int 4)) w1 (I, D, RR R)) : j_Call d 48 [.ref o, .int (nI f)] w1 (I, D, RR R) 0 0 Q := by
  refine q_enter (L := [some (.ref o), some (.int (nI f))]) j_m48 (Nat.le_of_ble_eq_true rfl) rfl ?_
  refine q_iload_n d48_0 rfl ?_
  refine q_iconst (v := 1) (by decide) d48_1 ?_
  refine q_icmp_lt (tgt := 25) d48_2 rfl (fun h1t => ?_) (fun h1f => ?_)
  ·
    have h1tc : f < 1 := (nI_ltI (by omega) (by omega)).mp h1t
    refine q_iload_n d48_25 rfl ?_
    refine q_iconst (v := 1) (by decide) d48_26 ?_
    refine q_icmp_gt (tgt := 41) d48_27 rfl (fun h2t => ?_) (fun h2f => ?_)
    ·
      have h2tc : 1 < f := (nI_ltI (by omega) (by omega)).mp h2t
      refine q_iconst (v := 0) (by decide) d48_41 ?_
      exact q_iret d48_42 rfl (Nat.le_refl _) (Nat.le_refl _) (v1 h1tc h2tc)
    ·
      have h2fc : ¬ 1 < f := mt (nI_ltI (by omega) (by omega)).mpr h2f
      refine q_aload_n d48_30 rfl ?_
      refine q_getI d48_31 (fs7_30 48 rfl) rfl (isTl_lt ho) (isTl_sh ho) ?_
      refine q_if_eq (tgt := 41) d48_34 rfl (fun h3t => ?_) (fun h3f => ?_)
      ·
        refine q_iconst (v := 0) (by decide) d48_41 ?_
        exact q_iret d48_42 rfl (Nat.le_refl _) (Nat.le_refl _) (v2 h1tc h2fc h3t)
      ·
        refine q_iconst (v := 3) (by decide) d48_37 ?_
        refine q_goto (tgt := 42) d48_38 rfl ?_
        exact q_iret d48_42 rfl (Nat.le_refl _) (Nat.le_refl _) (v3 h1tc h2fc h3f)
  ·
    have h1fc : ¬ f < 1 := mt (nI_ltI (by omega) (by omega)).mpr h1f
    refine q_iload_n d48_5 rfl ?_
    refine q_iconst (v := 3) (by decide) d48_6 ?_
    refine q_icmp_gt (tgt := 25) d48_7 rfl (fun h4t => ?_) (fun h4f => ?_)
    ·
      have h4tc : 3 < f := (nI_ltI (by omega) (by omega)).mp h4t
      refine q_iload_n d48_25 rfl ?_
      refine q_iconst (v := 1) (by decide) d48_26 ?_
      refine q_icmp_gt (tgt := 41) d48_27 rfl (fun h5t => ?_) (fun h5f => ?_)
      ·
        have h5tc : 1 < f := (nI_ltI (by omega) (by omega)).mp h5t
        refine q_iconst (v := 0) (by decide) d48_41 ?_
        exact q_iret d48_42 rfl (Nat.le_refl _) (Nat.le_refl _) (v4 h1fc h4tc h5tc)
      ·
        have h5fc : ¬ 1 < f := mt (nI_ltI (by omega) (by omega)).mpr h5f
        refine q_aload_n d48_30 rfl ?_
        refine q_getI d48_31 (fs7_30 48 rfl) rfl (isTl_lt ho) (isTl_sh ho) ?_
        refine q_if_eq (tgt := 41) d48_34 rfl (fun h6t => ?_) (fun h6f => ?_)
        ·
          refine q_iconst (v := 0) (by decide) d48_41 ?_
          exact q_iret d48_42 rfl (Nat.le_refl _) (Nat.le_refl _) (v5 h1fc h4tc h5fc h6t)
        ·
          refine q_iconst (v := 3) (by decide) d48_37 ?_
          refine q_goto (tgt := 42) d48_38 rfl ?_
          exact q_iret d48_42 rfl (Nat.le_refl _) (Nat.le_refl _) (v6 h1fc h4tc h5fc h6f)
    ·
      have h4fc : ¬ 3 < f := mt (nI_ltI (by omega) (by omega)).mpr h4f
      refine q_aload_n d48_10 rfl ?_
      refine q_getI d48_11 (fs7_19 48 rfl) rfl (isTl_lt ho) (isTl_sh ho) ?_
      refine r_int (y := (nI n)) (show I o 0 = (nI n) from hn) ?_
      refine q_aload_n d48_14 rfl ?_
      refine q_getI d48_15 (fs7_23 48 rfl) rfl (isTl_lt ho) (isTl_sh ho) ?_
      refine r_int (y := (nI b)) (show I o 3 = (nI b) from hb) ?_
      refine q_isub d48_18 ?_
      refine q_iconst (v := 1) (by decide) d48_19 ?_
      refine q_icmp_ge (tgt := 25) d48_20 rfl (fun h7t => ?_) (fun h7f => ?_)
      ·
        refine q_iload_n d48_25 rfl ?_
        refine q_iconst (v := 1) (by decide) d48_26 ?_
        refine q_icmp_gt (tgt := 41) d48_27 rfl (fun h8t => ?_) (fun h8f => ?_)
        ·
          have h8tc : 1 < f := (nI_ltI (by omega) (by omega)).mp h8t
          refine q_iconst (v := 0) (by decide) d48_41 ?_
          exact q_iret d48_42 rfl (Nat.le_refl _) (Nat.le_refl _) (v7 h1fc h4fc h7t h8tc)
        ·
          have h8fc : ¬ 1 < f := mt (nI_ltI (by omega) (by omega)).mpr h8f
          refine q_aload_n d48_30 rfl ?_
          refine q_getI d48_31 (fs7_30 48 rfl) rfl (isTl_lt ho) (isTl_sh ho) ?_
          refine q_if_eq (tgt := 41) d48_34 rfl (fun h9t => ?_) (fun h9f => ?_)
          ·
            refine q_iconst (v := 0) (by decide) d48_41 ?_
            exact q_iret d48_42 rfl (Nat.le_refl _) (Nat.le_refl _) (v8 h1fc h4fc h7t h8fc h9t)
          ·
            refine q_iconst (v := 3) (by decide) d48_37 ?_
            refine q_goto (tgt := 42) d48_38 rfl ?_
            exact q_iret d48_42 rfl (Nat.le_refl _) (Nat.le_refl _) (v9 h1fc h4fc h7t h8fc h9f)
      ·
        refine q_iconst (v := 4) (by decide) d48_23 ?_
        exact q_iret d48_24 rfl (Nat.le_refl _) (Nat.le_refl _) (v10 h1fc h4fc h7f)

set_option maxRecDepth 10000 in
set_option maxHeartbeats 4000000 in
theorem t49_0 {d : Nat} {I : Nat → Nat → Int32} {D : Nat → Nat → UInt64} {R : Nat → Nat → Option Nat} {Q : j_Po} {o : Nat} {n b : Nat} (ho : isTl o) (hn : I o 0 = nI n) (hb : I o 3 = nI b) (hbn : b ≤ n) (hn6 : n ≤ 64) (hd : 0 ≤ d)
    (v1 : Q (some (.double (D o 4))) w1 (I, D, RR R)) : j_Call d 49 [.ref o, .int 0] w1 (I, D, RR R) 0 0 Q := by
  refine q_enter (L := [some (.ref o), some (.int 0), none]) j_m49 (Nat.le_of_ble_eq_true rfl) rfl ?_
  refine q_aload_n d49_0 rfl ?_
  refine q_getI d49_1 (fs7_19 49 rfl) rfl (isTl_lt ho) (isTl_sh ho) ?_
  refine r_int (y := (nI n)) (show I o 0 = (nI n) from hn) ?_
  refine q_aload_n d49_4 rfl ?_
  refine q_getI d49_5 (fs7_23 49 rfl) rfl (isTl_lt ho) (isTl_sh ho) ?_
  refine r_int (y := (nI b)) (show I o 3 = (nI b) from hb) ?_
  refine q_isub d49_8 ?_
  refine q_istore_n (L' := [some (.ref o), some (.int 0), some (.int ((nI n) - (nI b)))]) d49_9 (Nat.le_of_ble_eq_true rfl) rfl ?_
  refine q_iload_n d49_10 rfl ?_
  refine q_tableIn (tgt := 40) d49_11 (by decide) (by decide) rfl rfl ?_
  refine q_aload_n d49_40 rfl ?_
  refine q_getD d49_41 (fs7_26 49 rfl) rfl (isTl_lt ho) (isTl_sh ho) ?_
  exact q_dret d49_44 rfl (Nat.le_refl _) (Nat.le_refl _) v1

set_option maxRecDepth 10000 in
set_option maxHeartbeats 4000000 in
theorem t49_1 {d : Nat} {I : Nat → Nat → Int32} {D : Nat → Nat → UInt64} {R : Nat → Nat → Option Nat} {Q : j_Po} {o : Nat} {n b : Nat} (ho : isTl o) (hn : I o 0 = nI n) (hb : I o 3 = nI b) (hbn : b ≤ n) (hn6 : n ≤ 64) (hd : 0 ≤ d)
    (v1 : (1 ≤ ((nI n) - (nI b))) → vf_n64 (FP.ddiv (D o 4) (FP.i2d ((nI n) - (nI b)))))
    (v2 : (1 ≤ ((nI n) - (nI b))) → Q (some (.double (FP.ddiv (D o 4) (FP.i2d ((nI n) - (nI b)))))) w1 (I, D, RR R))
    (v3 : (¬ 1 ≤ ((nI n) - (nI b))) → Q (some (.double FP.dconst0)) w1 (I, D, RR R)) : j_Call d 49 [.ref o, .int 1] w1 (I, D, RR R) 0 0 Q := by
  refine q_enter (L := [some (.ref o), some (.int 1), none]) j_m49 (Nat.le_of_ble_eq_true rfl) rfl ?_
  refine q_aload_n d49_0 rfl ?_
  refine q_getI d49_1 (fs7_19 49 rfl) rfl (isTl_lt ho) (isTl_sh ho) ?_
  refine r_int (y := (nI n)) (show I o 0 = (nI n) from hn) ?_
  refine q_aload_n d49_4 rfl ?_
  refine q_getI d49_5 (fs7_23 49 rfl) rfl (isTl_lt ho) (isTl_sh ho) ?_
  refine r_int (y := (nI b)) (show I o 3 = (nI b) from hb) ?_
  refine q_isub d49_8 ?_
  refine q_istore_n (L' := [some (.ref o), some (.int 1), some (.int ((nI n) - (nI b)))]) d49_9 (Nat.le_of_ble_eq_true rfl) rfl ?_
  refine q_iload_n d49_10 rfl ?_
  refine q_tableIn (tgt := 45) d49_11 (by decide) (by decide) rfl rfl ?_
  refine q_iload_n d49_45 rfl ?_
  refine q_iconst (v := 1) (by decide) d49_46 ?_
  refine q_icmp_ge (tgt := 54) d49_47 rfl (fun h1t => ?_) (fun h1f => ?_)
  ·
    refine q_aload_n d49_54 rfl ?_
    refine q_getD d49_55 (fs7_26 49 rfl) rfl (isTl_lt ho) (isTl_sh ho) ?_
    refine q_iload_n d49_58 rfl ?_
    refine q_i2d d49_59 ?_
    refine q_ddiv (v1 h1t) d49_60 ?_
    exact q_dret d49_61 rfl (Nat.le_refl _) (Nat.le_refl _) (v2 h1t)
  ·
    refine q_dconst0 d49_50 ?_
    refine q_goto (tgt := 61) d49_51 rfl ?_
    exact q_dret d49_61 rfl (Nat.le_refl _) (Nat.le_refl _) (v3 h1f)

set_option maxRecDepth 10000 in
set_option maxHeartbeats 4000000 in
theorem t49_2 {d : Nat} {I : Nat → Nat → Int32} {D : Nat → Nat → UInt64} {R : Nat → Nat → Option Nat} {Q : j_Po} {o : Nat} {n b : Nat} (ho : isTl o) (hn : I o 0 = nI n) (hb : I o 3 = nI b) (hbn : b ≤ n) (hn6 : n ≤ 64) (hd : 0 ≤ d)
    (v1 : Q (some (.double (D o 6))) w1 (I, D, RR R)) : j_Call d 49 [.ref o, .int 2] w1 (I, D, RR R) 0 0 Q := by
  refine q_enter (L := [some (.ref o), some (.int 2), none]) j_m49 (Nat.le_of_ble_eq_true rfl) rfl ?_
  refine q_aload_n d49_0 rfl ?_
  refine q_getI d49_1 (fs7_19 49 rfl) rfl (isTl_lt ho) (isTl_sh ho) ?_
  refine r_int (y := (nI n)) (show I o 0 = (nI n) from hn) ?_
  refine q_aload_n d49_4 rfl ?_
  refine q_getI d49_5 (fs7_23 49 rfl) rfl (isTl_lt ho) (isTl_sh ho) ?_
  refine r_int (y := (nI b)) (show I o 3 = (nI b) from hb) ?_
  refine q_isub d49_8 ?_
  refine q_istore_n (L' := [some (.ref o), some (.int 2), some (.int ((nI n) - (nI b)))]) d49_9 (Nat.le_of_ble_eq_true rfl) rfl ?_
  refine q_iload_n d49_10 rfl ?_
  refine q_tableIn (tgt := 62) d49_11 (by decide) (by decide) rfl rfl ?_
  refine q_aload_n d49_62 rfl ?_
  refine q_getD d49_63 (fs7_34 49 rfl) rfl (isTl_lt ho) (isTl_sh ho) ?_
  exact q_dret d49_66 rfl (Nat.le_refl _) (Nat.le_refl _) v1

set_option maxRecDepth 10000 in
set_option maxHeartbeats 4000000 in
theorem t49_3 {d : Nat} {I : Nat → Nat → Int32} {D : Nat → Nat → UInt64} {R : Nat → Nat → Option Nat} {Q : j_Po} {o : Nat} {n b : Nat} (ho : isTl o) (hn : I o 0 = nI n) (hb : I o 3 = nI b) (hbn : b ≤ n) (hn6 : n ≤ 64) (hd : 0 ≤ d)
    (v1 : Q (some (.double (D o 7))) w1 (I, D, RR R)) : j_Call d 49 [.ref o, .int 3] w1 (I, D, RR R) 0 0 Q := by
  refine q_enter (L := [some (.ref o), some (.int 3), none]) j_m49 (Nat.le_of_ble_eq_true rfl) rfl ?_
  refine q_aload_n d49_0 rfl ?_
  refine q_getI d49_1 (fs7_19 49 rfl) rfl (isTl_lt ho) (isTl_sh ho) ?_
  refine r_int (y := (nI n)) (show I o 0 = (nI n) from hn) ?_
  refine q_aload_n d49_4 rfl ?_
  refine q_getI d49_5 (fs7_23 49 rfl) rfl (isTl_lt ho) (isTl_sh ho) ?_
  refine r_int (y := (nI b)) (show I o 3 = (nI b) from hb) ?_
  refine q_isub d49_8 ?_
  refine q_istore_n (L' := [some (.ref o), some (.int 3), some (.int ((nI n) - (nI b)))]) d49_9 (Nat.le_of_ble_eq_true rfl) rfl ?_
  refine q_iload_n d49_10 rfl ?_
  refine q_tableIn (tgt := 67) d49_11 (by decide) (by decide) rfl rfl ?_
  refine q_aload_n d49_67 rfl ?_
  refine q_getD d49_68 (fs7_37 49 rfl) rfl (isTl_lt ho) (isTl_sh ho) ?_
  exact q_dret d49_71 rfl (Nat.le_refl _) (Nat.le_refl _) v1

set_option maxRecDepth 10000 in
set_option maxHeartbeats 4000000 in
theorem t49_4 {d : Nat} {I : Nat → Nat → Int32} {D : Nat → Nat → UInt64} {R : Nat → Nat → Option Nat} {Q : j_Po} {o : Nat} {n b : Nat} (ho : isTl o) (hn : I o 0 = nI n) (hb : I o 3 = nI b) (hbn : b ≤ n) (hn6 : n ≤ 64) (hd : 0 ≤ d)
    (v1 : Q (some (.double (FP.i2d (nI b)))) w1 (I, D, RR R)) : j_Call d 49 [.ref o, .int 4] w1 (I, D, RR R) 0 0 Q := by
  refine q_enter (L := [some (.ref o), some (.int 4), none]) j_m49 (Nat.le_of_ble_eq_true rfl) rfl ?_
  refine q_aload_n d49_0 rfl ?_
  refine q_getI d49_1 (fs7_19 49 rfl) rfl (isTl_lt ho) (isTl_sh ho) ?_
  refine r_int (y := (nI n)) (show I o 0 = (nI n) from hn) ?_
  refine q_aload_n d49_4 rfl ?_
  refine q_getI d49_5 (fs7_23 49 rfl) rfl (isTl_lt ho) (isTl_sh ho) ?_
  refine r_int (y := (nI b)) (show I o 3 = (nI b) from hb) ?_
  refine q_isub d49_8 ?_
  refine q_istore_n (L' := [some (.ref o), some (.int 4), some (.int ((nI n) - (nI b)))]) d49_9 (Nat.le_of_ble_eq_true rfl) rfl ?_
  refine q_iload_n d49_10 rfl ?_
  refine q_tableOut (tgt := 72) d49_11 (by decide) rfl ?_
  refine q_aload_n d49_72 rfl ?_
  refine q_getI d49_73 (fs7_23 49 rfl) rfl (isTl_lt ho) (isTl_sh ho) ?_
  refine r_int (y := (nI b)) (show I o 3 = (nI b) from hb) ?_
  refine q_i2d d49_76 ?_
  exact q_dret d49_77 rfl (Nat.le_refl _) (Nat.le_refl _) v1

/-- a tally against what n cases told -/
def TLR (I : Nat → Nat → Int32) (D : Nat → Nat → UInt64) (o n : Nat) (v : Nat → Vl) : Prop :=
  I o 0 = nI n ∧ I o 3 = nI (tB (tal v n)) ∧ I o 5 = bi (tF (tal v n)) ∧ D o 4 = tSm (tal v n) ∧ D o 6 = tL (tal v n) ∧ D o 7 = tM (tal v n) ∧ I o 8 = (if tG (tal v n) = 0 then -1 else nI (tl (tal v n))) ∧ I o 9 = (if tG (tal v n) = 0 then -1 else nI (tm (tal v n))) ∧ ∀ k, k < n → I (o + 2) k = nI (v k).1 ∧ ((v k).1 = 0 → D (o + 1) k = (v k).2)
/-- of the tally itself -/
def tlOK (n : Nat) (T : Tl) : Prop := tG T + tB T = n ∧ (tF T = false → Sm (tSm T)) ∧ Sm (tL T) ∧ Sm (tM T) ∧ tl T ≤ n ∧ tm T ≤ n
theorem tal_ok {v : Nat → Vl} : ∀ {n : Nat}, (∀ k, k < n → (v k).1 = 0 → Sm (v k).2) → tlOK n (tal v n)
  | 0, _ => ⟨rfl, fun _ => sm_0, sm_0, sm_0, Nat.le_refl _, Nat.le_refl _⟩
  | n + 1, h => by
    obtain ⟨h1, h2, h3, h4, h5, h6⟩ := tal_ok (v := v) (n := n) (fun k hk => h k (by omega))
    rw [tal]
    unfold talS
    by_cases e : (v n).1 = 0
    · rw [if_pos e]
      have hx := h n (by omega) e
      refine ⟨by show tG (tal v n) + 1 + tB (tal v n) = n + 1; omega, fun hf => ?_, ?_, ?_, ?_, ?_⟩
      · have hf : (tF (tal v n) || farB (if tF (tal v n) = true then tSm (tal v n) else FP.dadd (tSm (tal v n)) (v n).2)) = false := hf
        show Sm (if tF (tal v n) = true then tSm (tal v n) else FP.dadd (tSm (tal v n)) (v n).2)
        rw [Bool.or_eq_false_iff] at hf
        obtain ⟨f1, f2⟩ := hf
        rw [f1] at f2 ⊢
        rw [if_neg (by simp)] at f2 ⊢
        unfold farB at f2
        rw [Bool.or_eq_false_iff] at f2
        exact sm_far (Jvm.Free.Fl.dadd_out (fi_nn (h2 f1).1) (fi_lib.mpr hx.1)) f2.1 f2.2
      · show Sm (if _ then (v n).2 else tL (tal v n)); split <;> assumption
      · show Sm (if _ then (v n).2 else tM (tal v n)); split <;> assumption
      · show (if _ then n else tl (tal v n)) ≤ n + 1; split <;> omega
      · show (if _ then n else tm (tal v n)) ≤ n + 1; split <;> omega
    · rw [if_neg e]
      exact ⟨by show tG (tal v n) + (tB (tal v n) + 1) = n + 1; omega, h2, h3, h4, by show tl (tal v n) ≤ n + 1; omega, by show tm (tal v n) ≤ n + 1; omega⟩
theorem nI_m {k : Nat} (h : k < 200) : ¬ nI k = (-1 : Int32) := nI_ne_m9 (by omega)
def FT (o : Nat) (I : Nat → Nat → Int32) (D : Nat → Nat → UInt64) (I' : Nat → Nat → Int32) (D' : Nat → Nat → UInt64) : Prop := (∀ q, q ≠ o → q ≠ o + 2 → I' q = I q) ∧ ∀ q, q ≠ o → q ≠ o + 1 → D' q = D q
section TZ
variable {d : Nat} {I : Nat → Nat → Int32} {D : Nat → Nat → UInt64} {R : Nat → Nat → Option Nat} {Q : j_Po} {o n : Nat} {v : Nat → Vl}
theorem c42 (ho : isTl o) (hq : ∀ I' D', TLR I' D' o 0 v → FT o I D I' D' → Q none w1 (I', D', RR R)) : j_Call d 42 [.ref o] w1 (I, D, RR R) 0 0 Q := by
  refine t42 ho (Nat.zero_le _) (hq _ _ ⟨?_, ?_, ?_, ?_, ?_, ?_, ?_, ?_, fun k hk => absurd hk (Nat.not_lt_zero k)⟩ ⟨fun q q1 q2 => ?_, fun q q1 q2 => ?_⟩)
  · simp (disch := decide) only [j_u_k, j_u_same]; rfl
  · simp (disch := decide) only [j_u_k, j_u_same]; rfl
  · simp (disch := decide) only [j_u_k, j_u_same]; rfl
  · simp (disch := decide) only [j_u_k, j_u_same]; rfl
  · simp (disch := decide) only [j_u_k, j_u_same]; rfl
  · simp (disch := decide) only [j_u_k, j_u_same]; rfl
  · simp (disch := decide) only [j_u_k, j_u_same]; rfl
  · simp (disch := decide) only [j_u_k, j_u_same]; rfl
  · funext i; simp (disch := assumption) only [j_u_o]
  · funext i; simp (disch := assumption) only [j_u_o]
theorem c46 {x : UInt64} (ho : isTl o) (hn9 : n < 64) (hs : ∀ k, k < n → (v k).1 = 0 → Sm (v k).2) (h : TLR I D o n v) (hv : VR (nI (v n).1) x (v n)) (hd : 1 ≤ d) (hq : ∀ I' D', TLR I' D' o (n + 1) v → FT o I D I' D' → Q none w1 (I', D', RR R)) : j_Call d 46 [.ref o, .double x, .int (nI (v n).1)] w1 (I, D, RR R) 0 0 Q := by
  obtain ⟨h0, h3, h5, h4, h6, h7, h8, h9, hk⟩ := h
  obtain ⟨k1, k2, k3, k4, k5, k6⟩ := tal_ok (v := v) (n := n) hs
  obtain ⟨-, v2, v3, v4⟩ := hv
  have vals : ∀ (I' : Nat → Nat → Int32) (D' : Nat → Nat → UInt64), (∀ k, I' (o + 2) k = j_u I (o + 2) n (nI (v n).1) (o + 2) k) → (∀ k, D' (o + 1) k = j_u D (o + 1) n x (o + 1) k) → ∀ k, k < n + 1 → I' (o + 2) k = nI (v k).1 ∧ ((v k).1 = 0 → D' (o + 1) k = (v k).2) := by
    intro I' D' e1 e2 k hk9
    rw [e1, e2]
    by_cases e : k = n
    · subst e; rw [j_u_same, j_u_same]; exact ⟨rfl, v2⟩
    · rw [j_u_k _ _ e, j_u_k _ _ e]; exact hk k (by omega)
  refine t46 ho h0 hn9 v4 h3 hd (fun _ w0 => ?_) (fun _ _ => ?_) (fun _ w0 h5' => ?_) (fun _ w0 => ?_) (fun h => absurd hn9 h)
  · have e : ¬ (v n).1 = 0 := fun q => w0 ((nI_z v4).mpr q)
    have eT : tal v (n + 1) = (tG (tal v n), tB (tal v n) + 1, tSm (tal v n), tF (tal v n), tL (tal v n), tM (tal v n), tl (tal v n), tm (tal v n)) := by rw [tal]; unfold talS; rw [if_neg e]
    refine t46b ho (n := n) (by rw [j_u_k _ _ (by decide), j_u_o _ _ _ (by omega)]; exact h0) (Nat.zero_le _) (hq _ _ ⟨?_, ?_, ?_, ?_, ?_, ?_, ?_, ?_, vals _ _ (fun k => ?_) (fun k => rfl)⟩ ⟨fun q q1 q2 => ?_, fun q q1 q2 => ?_⟩)
    · rw [j_u_same]
    · rw [j_u_k _ _ (by decide), j_u_same, j_u_o _ _ _ (by omega), h3, eT]; exact nI_1 _
    · rw [j_u_k _ _ (by decide), j_u_k _ _ (by decide), j_u_o _ _ _ (by omega), h5, eT]
    · rw [j_u_o _ _ _ (by omega), h4, eT]
    · rw [j_u_o _ _ _ (by omega), h6, eT]
    · rw [j_u_o _ _ _ (by omega), h7, eT]
    · rw [j_u_k _ _ (by decide), j_u_k _ _ (by decide), j_u_o _ _ _ (by omega), h8, eT]
    · rw [j_u_k _ _ (by decide), j_u_k _ _ (by decide), j_u_o _ _ _ (by omega), h9, eT]
    · rw [j_u_o _ _ _ (by omega), j_u_o _ _ _ (by omega)]
    · funext i; rw [j_u_o _ _ _ q1, j_u_o _ _ _ q1, j_u_o _ _ _ q2]
    · funext i; rw [j_u_o _ _ _ q2]
  · rw [j_u_o _ _ _ (by omega)]; exact h0
  · rw [j_u_o _ _ _ (by omega), h5] at h5'
    have hf : tF (tal v n) = false := by
      cases hF : tF (tal v n) with
      | false => rfl
      | true => rw [hF] at h5'; exact absurd h5' (by decide)
    rw [j_u_o _ _ _ (by omega), h4]
    exact Jvm.Free.Fl.dadd_out (fi_nn (k2 hf).1) (fi_lib.mpr v3.1)
  · have e : (v n).1 = 0 := (nI_z v4).mp w0
    have ex := v2 e
    have eT : tal v (n + 1) = talS (tal v n) n (v n) := rfl
    unfold talS at eT
    rw [if_pos e] at eT
    have c8 : (I o 8 = -1 ∨ dlt x (D o 6) = true) ↔ (tG (tal v n) = 0 ∨ dlt (v n).2 (tL (tal v n)) = true) := by
      rw [h8, h6, ex]
      by_cases g : tG (tal v n) = 0
      · rw [if_pos g]; exact ⟨fun _ => Or.inl g, fun _ => Or.inl rfl⟩
      · rw [if_neg g]; exact ⟨fun h => h.elim (fun q => absurd q (nI_m (by omega))) Or.inr, fun h => h.elim (fun q => absurd q g) Or.inr⟩
    have c9 : (I o 9 = -1 ∨ dgt x (D o 7) = true) ↔ (tG (tal v n) = 0 ∨ dgt (v n).2 (tM (tal v n)) = true) := by
      rw [h9, h7, ex]
      by_cases g : tG (tal v n) = 0
      · rw [if_pos g]; exact ⟨fun _ => Or.inl g, fun _ => Or.inl rfl⟩
      · rw [if_neg g]; exact ⟨fun h => h.elim (fun q => absurd q (nI_m (by omega))) Or.inr, fun h => h.elim (fun q => absurd q g) Or.inr⟩
    have eS : nS (j_u I (o + 2) n (nI (v n).1)) (j_u D (o + 1) n x) o x = (if tF (tal v n) = true then tSm (tal v n) else FP.dadd (tSm (tal v n)) (v n).2) := by
      unfold nS
      rw [j_u_o _ _ _ (by omega), j_u_o _ _ _ (by omega), h5, h4, ex]
      cases tF (tal v n) <;> rfl
    have eF : nF (j_u I (o + 2) n (nI (v n).1)) (j_u D (o + 1) n x) o x = bi (tF (tal v n) || farB (if tF (tal v n) = true then tSm (tal v n) else FP.dadd (tSm (tal v n)) (v n).2)) := by
      unfold nF
      rw [eS, j_u_o _ _ _ (by omega), h5]
      generalize farB _ = bb
      cases bb <;> cases tF (tal v n) <;> rfl
    rw [eS, eF]
    rw [j_u_o I _ 8 (by omega : o ≠ o + 2), j_u_o I _ 9 (by omega : o ≠ o + 2), j_u_o D _ 6 (by omega : o ≠ o + 1), j_u_o D _ 7 (by omega : o ≠ o + 1)]
    refine t46b ho (n := n) (by simp (disch := decide) only [j_u_k]; rw [j_u_o _ _ _ (by omega)]; exact h0) (Nat.zero_le _) (hq _ _ ⟨?_, ?_, ?_, ?_, ?_, ?_, ?_, ?_, vals _ _ (fun k => ?_) (fun k => ?_)⟩ ⟨fun q q1 q2 => ?_, fun q q1 q2 => ?_⟩)
    · rw [j_u_same]
    · simp (disch := decide) only [j_u_k]; rw [j_u_o _ _ _ (by omega), h3, eT]
    · simp (disch := decide) only [j_u_k, j_u_same]; rw [eT]
    · simp (disch := decide) only [j_u_k, j_u_same]; rw [eT]
    · simp (disch := decide) only [j_u_k, j_u_same]; rw [eT]
      by_cases q : tG (tal v n) = 0 ∨ dlt (v n).2 (tL (tal v n)) = true
      · rw [if_pos (c8.mpr q)]; show x = if _ then (v n).2 else tL (tal v n); rw [if_pos q, ex]
      · rw [if_neg (fun h => q (c8.mp h))]; show D o 6 = if _ then (v n).2 else tL (tal v n); rw [if_neg q, h6]
    · simp (disch := decide) only [j_u_k, j_u_same]; rw [eT]
      by_cases q : tG (tal v n) = 0 ∨ dgt (v n).2 (tM (tal v n)) = true
      · rw [if_pos (c9.mpr q)]; show x = if _ then (v n).2 else tM (tal v n); rw [if_pos q, ex]
      · rw [if_neg (fun h => q (c9.mp h))]; show D o 7 = if _ then (v n).2 else tM (tal v n); rw [if_neg q, h7]
    · simp (disch := decide) only [j_u_k, j_u_same]; rw [eT]
      show _ = if tG (tal v n) + 1 = 0 then (-1 : Int32) else nI (if tG (tal v n) = 0 ∨ dlt (v n).2 (tL (tal v n)) = true then n else tl (tal v n))
      rw [if_neg (show ¬ tG (tal v n) + 1 = 0 by omega)]
      by_cases q : tG (tal v n) = 0 ∨ dlt (v n).2 (tL (tal v n)) = true
      · rw [if_pos (c8.mpr q), if_pos q]
      · rw [if_neg (fun h => q (c8.mp h)), if_neg q, h8, if_neg (fun h => q (Or.inl h))]
    · simp (disch := decide) only [j_u_k, j_u_same]; rw [eT]
      show _ = if tG (tal v n) + 1 = 0 then (-1 : Int32) else nI (if tG (tal v n) = 0 ∨ dgt (v n).2 (tM (tal v n)) = true then n else tm (tal v n))
      rw [if_neg (show ¬ tG (tal v n) + 1 = 0 by omega)]
      by_cases q : tG (tal v n) = 0 ∨ dgt (v n).2 (tM (tal v n)) = true
      · rw [if_pos (c9.mpr q), if_pos q]
      · rw [if_neg (fun h => q (c9.mp h)), if_neg q, h9, if_neg (fun h => q (Or.inl h))]
    · rw [j_u_o _ _ _ (by omega), j_u_o _ _ _ (by omega), j_u_o _ _ _ (by omega), j_u_o _ _ _ (by omega)]
    · rw [j_u_o _ _ _ (by omega), j_u_o _ _ _ (by omega), j_u_o _ _ _ (by omega)]
    · funext i; rw [j_u_o _ _ _ q1, j_u_o _ _ _ q1, j_u_o _ _ _ q1, j_u_o _ _ _ q1, j_u_o _ _ _ q2]
    · funext i; rw [j_u_o _ _ _ q1, j_u_o _ _ _ q1, j_u_o _ _ _ q1, j_u_o _ _ _ q2]
theorem good_1 {n b g : Nat} (h : g + b = n) (hn : n ≤ 64) : (nI n) - (nI b) = nI g ∧ (1 ≤ ((nI n) - (nI b)) ↔ ¬ g = 0) := by
  have e : (nI n) - (nI b) = nI g := by rw [pk_sub (by omega), show n - b = g by omega]
  refine ⟨e, ?_⟩
  rw [e, show (1 : Int32) = nI 1 from rfl, nI_leI (by omega) (by omega)]; omega
theorem c48 {f : Nat} (ho : isTl o) (hn : n ≤ 64) (hf : f < 5) (hs : ∀ k, k < n → (v k).1 = 0 → Sm (v k).2) (h : TLR I D o n v) (hq : Q (some (.int (nI (askE f (tal v n))))) w1 (I, D, RR R)) : j_Call d 48 [.ref o, .int (nI f)] w1 (I, D, RR R) 0 0 Q := by
  obtain ⟨h0, h3, h5, -⟩ := h
  obtain ⟨k1, -⟩ := tal_ok (v := v) (n := n) hs
  obtain ⟨-, g⟩ := good_1 k1 hn
  have hF : I o 5 = 0 ↔ ¬ tF (tal v n) = true := by rw [h5]; cases tF (tal v n) <;> decide
  have z : ∀ k, askE f (tal v n) = k → Q (some (.int (nI k))) w1 (I, D, RR R) := fun k e => by rw [← e]; exact hq
  unfold askE at z
  refine t48 ho h0 h3 (by omega) hn hf (Nat.zero_le _) (fun a b => by omega) (fun a b c => z 0 ?_) (fun a b c => z 3 ?_) (fun a b c => z 0 ?_) (fun a b c _ => by omega) (fun a b c _ => by omega) (fun a b c e => z 0 ?_) (fun a b c e e2 => z 0 ?_) (fun a b c e e2 => z 3 ?_) (fun a b c => z 4 ?_)
  · rw [if_neg (by omega), if_neg (fun q => hF.mp c q.2)]
  · rw [if_neg (by omega), if_pos ⟨by omega, Decidable.byContradiction fun q => c (hF.mpr q)⟩]
  · rw [if_neg (by omega), if_neg (by omega)]
  · rw [if_neg (fun q => (g.mp c) q.2.2), if_neg (by omega)]
  · rw [if_neg (fun q => (g.mp c) q.2.2), if_neg (fun q => hF.mp e2 q.2)]
  · rw [if_neg (fun q => (g.mp c) q.2.2), if_pos ⟨by omega, Decidable.byContradiction fun q => e2 (hF.mpr q)⟩]
  · rw [if_pos ⟨by omega, by omega, Decidable.byContradiction fun q => c (g.mpr q)⟩]
theorem sm_mean {x : UInt64} {g : Nat} (hx : Sm x) (hg : 1 ≤ g) (hg2 : g ≤ 64) : Sm (FP.ddiv x (FP.i2d (nI g))) := by
  obtain ⟨i1, i2, i3⟩ := i2d_vm (nI g)
  have hti : (nI g).toInt = (g : Int) := nI_toInt (by omega)
  rw [hti] at i2 i3
  rw [Int.natAbs_natCast] at i3
  obtain ⟨c, e, h1, h2, h3, -, -⟩ := fi_shape hx.1
  obtain ⟨c2, e2, g1, g2, g3, -, -⟩ := fi_shape i1
  have hc2 : 0 < c2 := by
    rcases Nat.eq_zero_or_pos c2 with h | h
    · rw [h, Nat.zero_mul] at g3
      rw [g3] at i3
      have : 0 < g * 2 ^ 1074 := Nat.mul_pos (by omega) (Nat.two_pow_pos _)
      omega
    · exact h
  have hn : vf_n64 (FP.ddiv x (FP.i2d (nI g))) := Jvm.Free.Fl.ddiv_out (fi_nn hx.1) (fi_lib.mpr i1) (nz_of i1 (by rw [i3]; exact Nat.ne_of_gt (Nat.mul_pos (by omega) (Nat.two_pow_pos _))))
  have hv : Jvm.FP.Core.val64 (FP.ddiv x (FP.i2d (nI g))) = Jvm.FP.Core.roundRatio Jvm.FP.Core.b64 (vs x != vs (FP.i2d (nI g))) c c2 (-1074 + e - (-1074 + e2)) := by
    rw [Jvm.FP.Core.val64_ddiv, h1, g1]
    simp only [Jvm.FP.Core.quotient]
    rw [if_neg (by omega)]
  have hle := Jvm.FP.Core.zmag_roundRatio_le (f := Jvm.FP.Core.b64) Jvm.FP.Core.good_b64 (s := vs x != vs (FP.i2d (nI g))) (A := c) (B := c2) (e := -1074 + e - (-1074 + e2)) (e0 := -1074 - e2) (V := Jvm.FP.Core.val64 x) hc2 (Jvm.FP.Core.val64_fits x) (by rw [h1]; exact Jvm.FP.Core.Datum.noConfusion) (by rw [qmin64]; omega) (by omega) (by
    rw [qmin64, show ((-1074 : Int) - (-1074 - (e2 : Int))).toNat = e2 by omega]
    show c * 2 ^ ((-1074 + (e : Int) - (-1074 + (e2 : Int))) - (-1074 - (e2 : Int))).toNat ≤ vm x * 2 ^ e2 * c2
    rw [show ((-1074 + (e : Int) - (-1074 + (e2 : Int))) - (-1074 - (e2 : Int))).toNat = e + 1074 by omega, h3, Nat.pow_add, ← Nat.mul_assoc, Nat.mul_assoc (c * 2 ^ e) (2 ^ e2) c2, Nat.mul_comm (2 ^ e2) c2, ← g3, i3]
    exact Nat.mul_le_mul_left _ (Nat.le_mul_of_pos_left _ hg))
  rw [← hv] at hle
  have hle2 : vm (FP.ddiv x (FP.i2d (nI g))) ≤ 2 ^ 1115 := Nat.le_trans hle hx.2
  rcases Jvm.FP.Core.roundRatio_cases Jvm.FP.Core.b64 (vs x != vs (FP.i2d (nI g))) c c2 (-1074 + e - (-1074 + e2)) with ⟨c', q', h⟩ | h
  · exact ⟨⟨_, _, _, hv.trans h⟩, hle2⟩
  · exfalso
    have hz : vm (FP.ddiv x (FP.i2d (nI g))) = 2 ^ 2098 := by
      show Jvm.FP.Core.zmag _ _ = _
      rw [hv, h, ← top64]; rfl
    rw [hz] at hle2
    exact absurd hle2 (Nat.not_le_of_lt (Nat.pow_lt_pow_right (by decide) (by decide)))
theorem c49 {f : Nat} (ho : isTl o) (hn : n ≤ 64) (hf : f < 5) (hs : ∀ k, k < n → (v k).1 = 0 → Sm (v k).2) (h : TLR I D o n v) (h0e : askE f (tal v n) = 0) (hq : Sm (askN f (tal v n)) → Q (some (.double (askN f (tal v n)))) w1 (I, D, RR R)) : j_Call d 49 [.ref o, .int (nI f)] w1 (I, D, RR R) 0 0 Q := by
  obtain ⟨h0, h3, h5, h4, h6, h7, -⟩ := h
  obtain ⟨k1, k2, k3, k4, -⟩ := tal_ok (v := v) (n := n) hs
  obtain ⟨ge, g⟩ := good_1 k1 hn
  have hc : f = 0 ∨ f = 1 ∨ f = 2 ∨ f = 3 ∨ f = 4 := by omega
  rcases hc with rfl | rfl | rfl | rfl | rfl
  · have hF : tF (tal v n) = false := by
      cases hF : tF (tal v n) with
      | false => rfl
      | true => unfold askE at h0e; rw [if_neg (by omega), if_pos ⟨by decide, hF⟩] at h0e; cases h0e
    have hQ := hq (k2 hF)
    exact t49_0 ho h0 h3 (by omega) hn (Nat.zero_le _) (by rw [h4]; exact hQ)
  · unfold askE at h0e
    have hg : ¬ tG (tal v n) = 0 := fun q => by rw [if_pos ⟨by decide, by decide, q⟩] at h0e; cases h0e
    have hF : tF (tal v n) = false := by
      cases hF : tF (tal v n) with
      | false => rfl
      | true => rw [if_neg (fun q => hg q.2.2), if_pos ⟨by decide, hF⟩] at h0e; cases h0e
    have hm := sm_mean (k2 hF) (show 1 ≤ tG (tal v n) by omega) (by omega)
    have e : askN 1 (tal v n) = FP.ddiv (tSm (tal v n)) (FP.i2d (nI (tG (tal v n)))) := by
      unfold askN; rw [if_neg (by decide), if_pos rfl, if_neg hg]
    have hQ := hq (by rw [e]; exact hm)
    rw [e] at hQ
    exact t49_1 ho h0 h3 (by omega) hn (Nat.zero_le _) (fun _ => by rw [h4, ge]; exact fi_nn hm.1) (fun _ => by rw [h4, ge]; exact hQ) (fun q => absurd (g.mpr hg) q)
  · exact t49_2 ho h0 h3 (by omega) hn (Nat.zero_le _) (by rw [h6]; exact hq k3)
  · exact t49_3 ho h0 h3 (by omega) hn (Nat.zero_le _) (by rw [h7]; exact hq k4)
  · exact t49_4 ho h0 h3 (by omega) hn (Nat.zero_le _) (hq (sm_i _))
end TZ
