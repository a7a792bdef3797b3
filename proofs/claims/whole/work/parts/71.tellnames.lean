/-! the reference: what a formula names -/
set_option maxRecDepth 10000 in
set_option maxHeartbeats 4000000 in
theorem s174e {d : Nat} {I : Nat → Nat → Int32} {D : Nat → Nat → UInt64} {R : Nat → Nat → Option Nat} {Q : j_Po} {c : Nat}  (hc : c < 24) (hd : 0 ≤ d)
    (v1 : j_W 174 d 0 0 0 0 9 [some (.ref 260), some (.int (nI c)), some (.int 0)] [] w1 ((j_u I 333 c 0), D, RR R) Q) : j_Call d 174 [.ref 260, .int (nI c)] w1 (I, D, RR R) 0 0 Q := by
  refine q_enter (L := [some (.ref 260), some (.int (nI c)), none]) j_m174 (Nat.le_of_ble_eq_true rfl) rfl ?_
  refine q_aload_n d174_0 rfl ?_
  refine q_getR (x := 333) d174_1 (fs10_52 174 rfl) rfl (lt_w1 rfl) sh260 (rs260_12 R) (by decide) ?_
  refine q_iload_n d174_4 rfl ?_
  refine q_iconst (v := 0) (by decide) d174_5 ?_
  refine q_iastore (a := c) d174_6 (lt_w1 rfl) sh333 rfl (by omega) ?_
  refine q_iconst (v := 0) (by decide) d174_7 ?_
  refine q_istore_n (L' := [some (.ref 260), some (.int (nI c)), some (.int 0)]) d174_8 (Nat.le_of_ble_eq_true rfl) rfl ?_
  exact r_sub (L' := [some (.ref 260), some (.int (nI c)), some (.int 0)]) ⟨rfl, rfl, rfl, trivial⟩ v1

set_option maxRecDepth 10000 in
set_option maxHeartbeats 4000000 in
theorem s174t {d : Nat} {I : Nat → Nat → Int32} {D : Nat → Nat → UInt64} {R : Nat → Nat → Option Nat} {Q : j_Po} {c : Nat} {k : Nat}  (hc : c < 24) (hk : k ≤ 6) (hd : 0 ≤ d)
    (v1 : (6 ≤ k) → j_W 174 d 0 0 0 0 32 [some (.ref 260), some (.int (nI c)), some (.int 0)] [] w1 (I, D, RR R) Q)
    (v2 : (¬ 6 ≤ k) → j_W 174 d 0 0 0 0 9 [some (.ref 260), some (.int (nI c)), some (.int (nI (k + 1)))] [] w1 ((j_u I (335 + c) k 0), D, RR R) Q) : j_W 174 d 0 0 0 0 9 [some (.ref 260), some (.int (nI c)), some (.int (nI k))] [] w1 (I, D, RR R) Q := by
  refine q_iload_n d174_9 rfl ?_
  refine q_bipush (v := 6) (by decide) d174_10 ?_
  refine q_icmp_ge (tgt := 30) d174_12 rfl (fun h1t => ?_) (fun h1f => ?_)
  ·
    have h1tc : 6 ≤ k := (nI_leI (by omega) (by omega)).mp h1t
    refine q_iconst (v := 0) (by decide) d174_30 ?_
    refine q_istore_n (L' := [some (.ref 260), some (.int (nI c)), some (.int 0)]) d174_31 (Nat.le_of_ble_eq_true rfl) rfl ?_
    exact r_sub (L' := [some (.ref 260), some (.int (nI c)), some (.int 0)]) ⟨rfl, rfl, rfl, trivial⟩ (v1 h1tc)
  ·
    have h1fc : ¬ 6 ≤ k := mt (nI_leI (by omega) (by omega)).mpr h1f
    refine q_aload_n d174_15 rfl ?_
    refine q_getR (x := 334) d174_16 (fs10_55 174 rfl) rfl (lt_w1 rfl) sh260 (rs260_13 R) (by decide) ?_
    refine q_iload_n d174_19 rfl ?_
    refine q_aaload (c := 4) (a := c) (x := (335 + c)) d174_20 (lt_w1 rfl) sh334 (by decide) rfl (by omega) (rm334 R (by omega)) (lt1000 (lm334 (by omega))) ?_
    refine q_iload_n d174_21 rfl ?_
    refine q_iconst (v := 0) (by decide) d174_22 ?_
    refine q_iastore (a := k) d174_23 (lm334 (by omega)) (sm334 (by omega)) rfl (by omega) ?_
    refine q_iinc (L' := [some (.ref 260), some (.int (nI c)), some (.int (nI (k + 1)))]) (v := (nI (k + 1))) d174_24 rfl (nI_inc _) rfl ?_
    refine q_goto (tgt := 9) d174_27 rfl ?_
    exact r_sub (L' := [some (.ref 260), some (.int (nI c)), some (.int (nI (k + 1)))]) ⟨rfl, rfl, rfl, trivial⟩ (v2 h1fc)

set_option maxRecDepth 10000 in
set_option maxHeartbeats 4000000 in
theorem s174k {d : Nat} {I : Nat → Nat → Int32} {D : Nat → Nat → UInt64} {R : Nat → Nat → Option Nat} {Q : j_Po} {c : Nat} {k : Nat} {z : Nat} (hc : c < 24) (hk : k ≤ z) (hz : I 264 c = nI z) (hz9 : z ≤ 96) (hd : 0 ≤ d)
    (v1 : (z ≤ k) → Q none w1 (I, D, RR R))
    (v2 : (¬ z ≤ k) → (24 ≤ (I (266 + c) k)) → ((I (266 + c) k) < 300) → j_W 174 d 0 0 0 0 32 [some (.ref 260), some (.int (nI c)), some (.int (nI (k + 1)))] [] w1 (I, D, RR R) Q)
    (v3 : (¬ z ≤ k) → (24 ≤ (I (266 + c) k)) → (¬ (I (266 + c) k) < 300) → vp_in ((I (266 + c) k) - (I (266 + c) k) / 10 * 10) 6)
    (v4 : (¬ z ≤ k) → (24 ≤ (I (266 + c) k)) → (¬ (I (266 + c) k) < 300) → j_W 174 d 0 0 0 0 32 [some (.ref 260), some (.int (nI c)), some (.int (nI (k + 1)))] [] w1 ((j_u I (335 + c) (((I (266 + c) k) - (I (266 + c) k) / 10 * 10).toNatClampNeg) ((I (335 + c) (((I (266 + c) k) - (I (266 + c) k) / 10 * 10).toNatClampNeg)) + 1)), D, RR R) Q)
    (v5 : (¬ z ≤ k) → (¬ 24 ≤ (I (266 + c) k)) → (((j_u I 333 c ((I 333 c) ||| (1 <<< ((I (266 + c) k) &&& 31)))) (266 + c) k) < 300) → j_W 174 d 0 0 0 0 32 [some (.ref 260), some (.int (nI c)), some (.int (nI (k + 1)))] [] w1 ((j_u I 333 c ((I 333 c) ||| (1 <<< ((I (266 + c) k) &&& 31)))), D, RR R) Q)
    (v6 : (¬ z ≤ k) → (¬ 24 ≤ (I (266 + c) k)) → (¬ ((j_u I 333 c ((I 333 c) ||| (1 <<< ((I (266 + c) k) &&& 31)))) (266 + c) k) < 300) → vp_in (((j_u I 333 c ((I 333 c) ||| (1 <<< ((I (266 + c) k) &&& 31)))) (266 + c) k) - ((j_u I 333 c ((I 333 c) ||| (1 <<< ((I (266 + c) k) &&& 31)))) (266 + c) k) / 10 * 10) 6)
    (v7 : (¬ z ≤ k) → (¬ 24 ≤ (I (266 + c) k)) → (¬ ((j_u I 333 c ((I 333 c) ||| (1 <<< ((I (266 + c) k) &&& 31)))) (266 + c) k) < 300) → j_W 174 d 0 0 0 0 32 [some (.ref 260), some (.int (nI c)), some (.int (nI (k + 1)))] [] w1 ((j_u (j_u I 333 c ((I 333 c) ||| (1 <<< ((I (266 + c) k) &&& 31)))) (335 + c) ((((j_u I 333 c ((I 333 c) ||| (1 <<< ((I (266 + c) k) &&& 31)))) (266 + c) k) - ((j_u I 333 c ((I 333 c) ||| (1 <<< ((I (266 + c) k) &&& 31)))) (266 + c) k) / 10 * 10).toNatClampNeg) (((j_u I 333 c ((I 333 c) ||| (1 <<< ((I (266 + c) k) &&& 31)))) (335 + c) ((((j_u I 333 c ((I 333 c) ||| (1 <<< ((I (266 + c) k) &&& 31)))) (266 + c) k) - ((j_u I 333 c ((I 333 c) ||| (1 <<< ((I (266 + c) k) &&& 31)))) (266 + c) k) / 10 * 10).toNatClampNeg)) + 1)), D, RR R) Q) : j_W 174 d 0 0 0 0 32 [some (.ref 260), some (.int (nI c)), some (.int (nI k))] [] w1 (I, D, RR R) Q := by
  refine q_iload_n d174_32 rfl ?_
  refine q_aload_n d174_33 rfl ?_
  refine q_getR (x := 264) d174_34 (fs10_21 174 rfl) rfl (lt_w1 rfl) sh260 (rs260_3 R) (by decide) ?_
  refine q_iload_n d174_37 rfl ?_
  refine q_iaload (a := c) d174_38 (lt_w1 rfl) sh264 rfl (by omega) ?_
  refine r_int (y := nI z) hz ?_
  refine q_icmp_ge (tgt := 116) d174_39 rfl (fun h1t => ?_) (fun h1f => ?_)
  ·
    have h1tc : z ≤ k := (nI_leI (by omega) (by omega)).mp h1t
    exact q_ret d174_116 rfl (Nat.le_refl _) (Nat.le_refl _) (v1 h1tc)
  ·
    have h1fc : ¬ z ≤ k := mt (nI_leI (by omega) (by omega)).mpr h1f
    refine q_aload_n d174_42 rfl ?_
    refine q_getR (x := 265) d174_43 (fs10_26 174 rfl) rfl (lt_w1 rfl) sh260 (rs260_4 R) (by decide) ?_
    refine q_iload_n d174_46 rfl ?_
    refine q_aaload (c := 4) (a := c) (x := (266 + c)) d174_47 (lt_w1 rfl) sh265 (by decide) rfl (by omega) (rm265 R (by omega)) (lt1000 (lm265 (by omega))) ?_
    refine q_iload_n d174_48 rfl ?_
    refine q_iaload (a := k) d174_49 (lm265 (by omega)) (sm265 (by omega)) rfl (by omega) ?_
    refine q_bipush (v := 24) (by decide) d174_50 ?_
    refine q_icmp_ge (tgt := 74) d174_52 rfl (fun h2t => ?_) (fun h2f => ?_)
    ·
      refine q_aload_n d174_74 rfl ?_
      refine q_getR (x := 265) d174_75 (fs10_26 174 rfl) rfl (lt_w1 rfl) sh260 (rs260_4 R) (by decide) ?_
      refine q_iload_n d174_78 rfl ?_
      refine q_aaload (c := 4) (a := c) (x := (266 + c)) d174_79 (lt_w1 rfl) sh265 (by decide) rfl (by omega) (rm265 R (by omega)) (lt1000 (lm265 (by omega))) ?_
      refine q_iload_n d174_80 rfl ?_
      refine q_iaload (a := k) d174_81 (lm265 (by omega)) (sm265 (by omega)) rfl (by omega) ?_
      refine q_sipush (v := 300) (by decide) d174_82 ?_
      refine q_icmp_lt (tgt := 110) d174_85 rfl (fun h3t => ?_) (fun h3f => ?_)
      ·
        refine q_iinc (L' := [some (.ref 260), some (.int (nI c)), some (.int (nI (k + 1)))]) (v := (nI (k + 1))) d174_110 rfl (nI_inc _) rfl ?_
        refine q_goto (tgt := 32) d174_113 rfl ?_
        exact r_sub (L' := [some (.ref 260), some (.int (nI c)), some (.int (nI (k + 1)))]) ⟨rfl, rfl, rfl, trivial⟩ (v2 h1fc h2t h3t)
      ·
        refine q_aload_n d174_88 rfl ?_
        refine q_getR (x := 334) d174_89 (fs10_55 174 rfl) rfl (lt_w1 rfl) sh260 (rs260_13 R) (by decide) ?_
        refine q_iload_n d174_92 rfl ?_
        refine q_aaload (c := 4) (a := c) (x := (335 + c)) d174_93 (lt_w1 rfl) sh334 (by decide) rfl (by omega) (rm334 R (by omega)) (lt1000 (lm334 (by omega))) ?_
        refine q_aload_n d174_94 rfl ?_
        refine q_getR (x := 265) d174_95 (fs10_26 174 rfl) rfl (lt_w1 rfl) sh260 (rs260_4 R) (by decide) ?_
        refine q_iload_n d174_98 rfl ?_
        refine q_aaload (c := 4) (a := c) (x := (266 + c)) d174_99 (lt_w1 rfl) sh265 (by decide) rfl (by omega) (rm265 R (by omega)) (lt1000 (lm265 (by omega))) ?_
        refine q_iload_n d174_100 rfl ?_
        refine q_iaload (a := k) d174_101 (lm265 (by omega)) (sm265 (by omega)) rfl (by omega) ?_
        refine q_bipush (v := 10) (by decide) d174_102 ?_
        refine q_irem (by decide) d174_104 ?_
        refine q_dup2_11 rfl rfl d174_105 ?_
        have g4 := ix_of (v3 h1fc h2t h3f) (by decide)
        refine q_iaload (a := ((I (266 + c) k) - (I (266 + c) k) / 10 * 10).toNatClampNeg) d174_106 (lm334 (by omega)) (sm334 (by omega)) g4.1 g4.2 ?_
        refine q_iconst (v := 1) (by decide) d174_107 ?_
        refine q_iadd d174_108 ?_
        have g5 := ix_of (v3 h1fc h2t h3f) (by decide)
        refine q_iastore (a := ((I (266 + c) k) - (I (266 + c) k) / 10 * 10).toNatClampNeg) d174_109 (lm334 (by omega)) (sm334 (by omega)) g5.1 g5.2 ?_
        refine q_iinc (L' := [some (.ref 260), some (.int (nI c)), some (.int (nI (k + 1)))]) (v := (nI (k + 1))) d174_110 rfl (nI_inc _) rfl ?_
        refine q_goto (tgt := 32) d174_113 rfl ?_
        exact r_sub (L' := [some (.ref 260), some (.int (nI c)), some (.int (nI (k + 1)))]) ⟨rfl, rfl, rfl, trivial⟩ (v4 h1fc h2t h3f)
    ·
      refine q_aload_n d174_55 rfl ?_
      refine q_getR (x := 333) d174_56 (fs10_52 174 rfl) rfl (lt_w1 rfl) sh260 (rs260_12 R) (by decide) ?_
      refine q_iload_n d174_59 rfl ?_
      refine q_dup2_11 rfl rfl d174_60 ?_
      refine q_iaload (a := c) d174_61 (lt_w1 rfl) sh333 rfl (by omega) ?_
      refine q_iconst (v := 1) (by decide) d174_62 ?_
      refine q_aload_n d174_63 rfl ?_
      refine q_getR (x := 265) d174_64 (fs10_26 174 rfl) rfl (lt_w1 rfl) sh260 (rs260_4 R) (by decide) ?_
      refine q_iload_n d174_67 rfl ?_
      refine q_aaload (c := 4) (a := c) (x := (266 + c)) d174_68 (lt_w1 rfl) sh265 (by decide) rfl (by omega) (rm265 R (by omega)) (lt1000 (lm265 (by omega))) ?_
      refine q_iload_n d174_69 rfl ?_
      refine q_iaload (a := k) d174_70 (lm265 (by omega)) (sm265 (by omega)) rfl (by omega) ?_
      refine q_ishl d174_71 ?_
      refine q_ior d174_72 ?_
      refine q_iastore (a := c) d174_73 (lt_w1 rfl) sh333 rfl (by omega) ?_
      refine q_aload_n d174_74 rfl ?_
      refine q_getR (x := 265) d174_75 (fs10_26 174 rfl) rfl (lt_w1 rfl) sh260 (rs260_4 R) (by decide) ?_
      refine q_iload_n d174_78 rfl ?_
      refine q_aaload (c := 4) (a := c) (x := (266 + c)) d174_79 (lt_w1 rfl) sh265 (by decide) rfl (by omega) (rm265 R (by omega)) (lt1000 (lm265 (by omega))) ?_
      refine q_iload_n d174_80 rfl ?_
      refine q_iaload (a := k) d174_81 (lm265 (by omega)) (sm265 (by omega)) rfl (by omega) ?_
      refine q_sipush (v := 300) (by decide) d174_82 ?_
      refine q_icmp_lt (tgt := 110) d174_85 rfl (fun h6t => ?_) (fun h6f => ?_)
      ·
        refine q_iinc (L' := [some (.ref 260), some (.int (nI c)), some (.int (nI (k + 1)))]) (v := (nI (k + 1))) d174_110 rfl (nI_inc _) rfl ?_
        refine q_goto (tgt := 32) d174_113 rfl ?_
        exact r_sub (L' := [some (.ref 260), some (.int (nI c)), some (.int (nI (k + 1)))]) ⟨rfl, rfl, rfl, trivial⟩ (v5 h1fc h2f h6t)
      ·
        refine q_aload_n d174_88 rfl ?_
        refine q_getR (x := 334) d174_89 (fs10_55 174 rfl) rfl (lt_w1 rfl) sh260 (rs260_13 R) (by decide) ?_
        refine q_iload_n d174_92 rfl ?_
        refine q_aaload (c := 4) (a := c) (x := (335 + c)) d174_93 (lt_w1 rfl) sh334 (by decide) rfl (by omega) (rm334 R (by omega)) (lt1000 (lm334 (by omega))) ?_
        refine q_aload_n d174_94 rfl ?_
        refine q_getR (x := 265) d174_95 (fs10_26 174 rfl) rfl (lt_w1 rfl) sh260 (rs260_4 R) (by decide) ?_
        refine q_iload_n d174_98 rfl ?_
        refine q_aaload (c := 4) (a := c) (x := (266 + c)) d174_99 (lt_w1 rfl) sh265 (by decide) rfl (by omega) (rm265 R (by omega)) (lt1000 (lm265 (by omega))) ?_
        refine q_iload_n d174_100 rfl ?_
        refine q_iaload (a := k) d174_101 (lm265 (by omega)) (sm265 (by omega)) rfl (by omega) ?_
        refine q_bipush (v := 10) (by decide) d174_102 ?_
        refine q_irem (by decide) d174_104 ?_
        refine q_dup2_11 rfl rfl d174_105 ?_
        have g7 := ix_of (v6 h1fc h2f h6f) (by decide)
        refine q_iaload (a := (((j_u I 333 c ((I 333 c) ||| (1 <<< ((I (266 + c) k) &&& 31)))) (266 + c) k) - ((j_u I 333 c ((I 333 c) ||| (1 <<< ((I (266 + c) k) &&& 31)))) (266 + c) k) / 10 * 10).toNatClampNeg) d174_106 (lm334 (by omega)) (sm334 (by omega)) g7.1 g7.2 ?_
        refine q_iconst (v := 1) (by decide) d174_107 ?_
        refine q_iadd d174_108 ?_
        have g8 := ix_of (v6 h1fc h2f h6f) (by decide)
        refine q_iastore (a := (((j_u I 333 c ((I 333 c) ||| (1 <<< ((I (266 + c) k) &&& 31)))) (266 + c) k) - ((j_u I 333 c ((I 333 c) ||| (1 <<< ((I (266 + c) k) &&& 31)))) (266 + c) k) / 10 * 10).toNatClampNeg) d174_109 (lm334 (by omega)) (sm334 (by omega)) g8.1 g8.2 ?_
        refine q_iinc (L' := [some (.ref 260), some (.int (nI c)), some (.int (nI (k + 1)))]) (v := (nI (k + 1))) d174_110 rfl (nI_inc _) rfl ?_
        refine q_goto (tgt := 32) d174_113 rfl ?_
        exact r_sub (L' := [some (.ref 260), some (.int (nI c)), some (.int (nI (k + 1)))]) ⟨rfl, rfl, rfl, trivial⟩ (v7 h1fc h2f h6f)

section TN
variable {d : Nat} {D : Nat → Nat → UInt64} {R : Nat → Nat → Option Nat} {Q : j_Po} {c z : Nat} {s : Nat → Nat × Nat} {F : Nat → UInt64}
def TnI (I0 : Nat → Nat → Int32) (c : Nat) (s : Nat → Nat × Nat) (k : Nat) (J : Nat → Nat → Int32) : Prop :=
  (∀ o, o ≠ 333 → o ≠ 335 + c → J o = I0 o) ∧ (∀ i, i ≠ c → J 333 i = I0 333 i) ∧ (∀ v, v < 32 → bt (J 333 c) v = (decide (v < 24) && nmB k s v)) ∧ ∀ t, t < 6 → J (335 + c) t = nI (tmN k s t)
theorem nI_mod10 {n : Nat} (h : n < 2 ^ 31) : nI n - nI n / 10 * 10 = nI (n % 10) := by
  rw [show (10 : Int32) = nI 10 from rfl, pk_div h (by decide) (by decide), pk_mul, pk_sub (by omega)]
  congr 1
  omega
theorem l174k (hc : c < 24) (hz9 : z ≤ 96) {I0 : Nat → Nat → Int32} (hz : I0 264 c = nI z) (hs : ∀ k, k < z → stV (s k)) (hm : ∀ k, k < z → MR (s k) (I0 (266 + c) k) F) (hq : ∀ J, TnI I0 c s z J → Q none w1 (J, D, RR R)) :
    ∀ (n k : Nat) (J : Nat → Nat → Int32), n + k = z → TnI I0 c s k J → j_W 174 d 0 0 0 0 32 [some (.ref 260), some (.int (nI c)), some (.int (nI k))] [] w1 (J, D, RR R) Q := by
  intro n
  induction n with
  | zero =>
    intro k J hk h
    have : k = z := by omega
    subst this
    exact s174k (z := k) hc (by omega) ((congrFun (h.1 264 (by decide) (by omega)) c).trans hz) hz9 (Nat.zero_le _) (fun _ => hq J h) (fun g => absurd (Nat.le_refl _) g) (fun g => absurd (Nat.le_refl _) g) (fun g => absurd (Nat.le_refl _) g) (fun g => absurd (Nat.le_refl _) g) (fun g => absurd (Nat.le_refl _) g) (fun g => absurd (Nat.le_refl _) g)
  | succ n ih =>
    intro k J hk h
    have hkz : k < z := by omega
    obtain ⟨h1, h2, h3, h4⟩ := h
    have hz' : J 264 c = nI z := by rw [h1 264 (by decide) (by omega)]; exact hz
    have hmk : J (266 + c) k = I0 (266 + c) k := by rw [h1 (266 + c) (by omega) (by omega)]
    obtain ⟨m0, m1, m2, m3⟩ := hm k hkz
    obtain ⟨v0, v1, v2, v3, v4⟩ := hs k hkz
    rw [← hmk] at m0 m1 m2 m3
    have ge24 : ∀ n, n < 2 ^ 31 → ((24 : Int32) ≤ nI n ↔ 24 ≤ n) := fun n hn => nI_leI (a := 24) (by decide) hn
    have lt300 : ∀ n, n < 2 ^ 31 → (nI n < (300 : Int32) ↔ n < 300) := fun n hn => nI_ltI (b := 300) hn (by decide)
    have nop : (∀ v, stN (s k) v = false) → (¬ (13 ≤ (s k).1)) → TnI I0 c s (k + 1) J := fun a b => by
      refine ⟨h1, h2, fun v hv => ?_, fun t ht => ?_⟩
      · rw [h3 v hv, nmB, a v, Bool.or_false]
      · rw [h4 t ht, tmN, if_neg (fun q => b q.1), Nat.add_zero]
    by_cases a0 : (s k).1 = 0 ∨ (2 ≤ (s k).1 ∧ (s k).1 ≤ 12)
    · obtain ⟨n', hn1, hn2, hn3⟩ : ∃ n', 24 ≤ n' ∧ n' < 300 ∧ J (266 + c) k = nI n' := by
        rcases a0 with a0 | ⟨a0, a1⟩
        · obtain ⟨j, j1, j2, -⟩ := m0 a0
          exact ⟨100 + j, by omega, by omega, j2⟩
        · exact ⟨198 + (s k).1, by omega, by omega, m2 a0 a1⟩
      have st : ∀ v, stN (s k) v = false := fun v => by
        unfold stN
        rw [decide_eq_false (by omega), decide_eq_false (by omega)]; rfl
      have g24 : (24 : Int32) ≤ J (266 + c) k := by rw [hn3]; exact (ge24 n' (by omega)).mpr hn1
      have g300 : J (266 + c) k < (300 : Int32) := by rw [hn3]; exact (lt300 n' (by omega)).mpr hn2
      exact s174k (z := z) hc (by omega) hz' hz9 (Nat.zero_le _) (fun g => absurd g (by omega)) (fun _ _ _ => ih (k + 1) J (by omega) (nop st (by omega))) (fun _ _ g => absurd g300 g) (fun _ _ g => absurd g300 g) (fun _ g => absurd g24 g) (fun _ g => absurd g24 g) (fun _ g => absurd g24 g)
    · by_cases a1 : (s k).1 = 1
      · have hw := v2 a1
        have e := m1 a1
        have g24 : ¬ (24 : Int32) ≤ J (266 + c) k := by rw [e]; exact mt (ge24 _ (by omega)).mp (by omega)
        have g300 : ∀ x : Int32, j_u J 333 c x (266 + c) k < (300 : Int32) := fun x => by
          rw [j_u_o _ _ _ (by omega), e]; exact (lt300 _ (by omega)).mpr (by omega)
        refine s174k (z := z) hc (by omega) hz' hz9 (Nat.zero_le _) (fun g => absurd g (by omega)) (fun _ g => absurd g g24) (fun _ g => absurd g g24) (fun _ g => absurd g g24) (fun _ _ _ => ih (k + 1) _ (by omega) ⟨fun o o1 o2 => ?_, fun i hi => ?_, fun v hv => ?_, fun t ht => ?_⟩) (fun _ _ g => absurd (g300 _) g) (fun _ _ g => absurd (g300 _) g)
        · rw [← h1 o o1 o2]; funext i; rw [j_u_o _ _ _ o1]
        · rw [j_u_k _ _ hi]; exact h2 i hi
        · rw [j_u_same, b_or, h3 v hv, e, bt_one (by omega) hv, nmB]
          unfold stN
          rw [decide_eq_false (show ¬ (13 ≤ (s k).1 ∧ (s k).2 + 24 = v) by omega), Bool.or_false]
          by_cases ev : v = (s k).2
          · rw [decide_eq_true ev, decide_eq_true (show (s k).1 = 1 ∧ (s k).2 = v from ⟨a1, ev.symm⟩), Bool.or_true, Bool.or_true, decide_eq_true (by omega)]; rfl
          · rw [decide_eq_false ev, decide_eq_false (show ¬ ((s k).1 = 1 ∧ (s k).2 = v) by omega), Bool.or_false, Bool.or_false]
        · rw [j_u_o _ _ _ (by omega), h4 t ht, tmN, if_neg (by omega), Nat.add_zero]
      · have a13 : 13 ≤ (s k).1 := by omega
        have hw := v4 a13
        have e := m3 a13
        have g24 : (24 : Int32) ≤ J (266 + c) k := by rw [e]; exact (ge24 _ (by omega)).mpr (by omega)
        have g300 : ¬ J (266 + c) k < (300 : Int32) := by rw [e]; exact mt (lt300 _ (by omega)).mp (by omega)
        have em : J (266 + c) k - J (266 + c) k / 10 * 10 = nI (s k).2 := by
          rw [e, nI_mod10 (by omega)]
          congr 1
          omega
        refine s174k (z := z) hc (by omega) hz' hz9 (Nat.zero_le _) (fun g => absurd g (by omega)) (fun _ _ g => absurd g g300) (fun _ _ _ => by rw [em]; exact vp_in_nI hw (by decide)) (fun _ _ _ => ?_) (fun _ g => absurd g24 g) (fun _ g => absurd g24 g) (fun _ g => absurd g24 g)
        rw [em, nI_clamp (by omega), h4 _ hw]
        refine ih (k + 1) _ (by omega) ⟨fun o o1 o2 => ?_, fun i hi => ?_, fun v hv => ?_, fun t ht => ?_⟩
        · rw [← h1 o o1 o2]; funext i; rw [j_u_o _ _ _ o2]
        · rw [j_u_o _ _ _ (by omega)]; exact h2 i hi
        · rw [j_u_o _ _ _ (by omega), h3 v hv, nmB]
          unfold stN
          rw [decide_eq_false (show ¬ ((s k).1 = 1 ∧ (s k).2 = v) by omega), Bool.false_or]
          by_cases ev : v < 24
          · rw [decide_eq_false (show ¬ (13 ≤ (s k).1 ∧ (s k).2 + 24 = v) by omega), Bool.or_false]
          · rw [decide_eq_false ev]; rfl
        · by_cases et : t = (s k).2
          · subst et
            rw [j_u_same, tmN, if_pos ⟨a13, rfl⟩]; exact nI_1 _
          · rw [j_u_k _ _ et, h4 t ht, tmN, if_neg (fun q => et q.2.symm), Nat.add_zero]
theorem l174t (hc : c < 24) {I0 : Nat → Nat → Int32} (K : ∀ J, TnI I0 c s 0 J → j_W 174 d 0 0 0 0 32 [some (.ref 260), some (.int (nI c)), some (.int (nI 0))] [] w1 (J, D, RR R) Q) :
    ∀ (n k : Nat) (J : Nat → Nat → Int32), n + k = 6 → (∀ o, o ≠ 333 → o ≠ 335 + c → J o = I0 o) → (∀ i, i ≠ c → J 333 i = I0 333 i) → J 333 c = 0 → (∀ t, t < k → J (335 + c) t = 0) →
    j_W 174 d 0 0 0 0 9 [some (.ref 260), some (.int (nI c)), some (.int (nI k))] [] w1 (J, D, RR R) Q := by
  intro n
  induction n with
  | zero =>
    intro k J hk h1 h2 h3 h4
    have : k = 6 := by omega
    subst this
    exact s174t hc (by omega) (Nat.zero_le _) (fun _ => K J ⟨h1, h2, fun v hv => by rw [h3, b_0]; exact (Bool.and_false _).symm, fun t ht => by rw [h4 t ht]; rfl⟩) (fun h => absurd (by omega) h)
  | succ n ih =>
    intro k J hk h1 h2 h3 h4
    refine s174t hc (by omega) (Nat.zero_le _) (fun h => absurd h (by omega)) (fun _ => ih (k + 1) _ (by omega) (fun o o1 o2 => ?_) (fun i hi => ?_) ?_ (fun t ht => ?_))
    · rw [← h1 o o1 o2]; funext i; rw [j_u_o _ _ _ o2]
    · rw [j_u_o _ _ _ (by omega)]; exact h2 i hi
    · rw [j_u_o _ _ _ (by omega)]; exact h3
    · by_cases e : t = k
      · subst e; rw [j_u_same]
      · rw [j_u_k _ _ e]; exact h4 t (by omega)
theorem c174 (hc : c < 24) (hz9 : z ≤ 96) {I : Nat → Nat → Int32} (hz : I 264 c = nI z) (hs : ∀ k, k < z → stV (s k)) (hm : ∀ k, k < z → MR (s k) (I (266 + c) k) F) (hq : ∀ J, TnI I c s z J → Q none w1 (J, D, RR R)) : j_Call d 174 [.ref 260, .int (nI c)] w1 (I, D, RR R) 0 0 Q := by
  refine s174e hc (Nat.zero_le _) (l174t (s := s) hc (fun J hJ => l174k hc hz9 hz hs hm hq z 0 J rfl hJ) 6 0 _ rfl (fun o o1 o2 => ?_) (fun i hi => ?_) ?_ (fun t ht => absurd ht (Nat.not_lt_zero t)))
  · funext i; rw [j_u_o _ _ _ o1]
  · rw [j_u_k _ _ hi]
  · rw [j_u_same]
end TN
