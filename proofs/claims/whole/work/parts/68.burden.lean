/-! the reference: how heavy -/
set_option maxRecDepth 10000 in
set_option maxHeartbeats 4000000 in
theorem sminL {d : Nat} {I : Nat → Nat → Int32} {D : Nat → Nat → UInt64} {R : Nat → Nat → Option Nat} {Q : j_Po} {a : Int64} {b : Int64}   (hd : 0 ≤ d)
    (v1 : (0 < (lg_cmp a b)) → Q (some (.long b)) w1 (I, D, RR R))
    (v2 : (¬ 0 < (lg_cmp a b)) → Q (some (.long a)) w1 (I, D, RR R)) : j_Call d 188 [.long a, .long b] w1 (I, D, RR R) 0 0 Q := by
  refine q_enter (L := [some (.long a), none, some (.long b), none]) j_m188 (Nat.le_of_ble_eq_true rfl) rfl ?_
  refine q_lload_n d188_0 rfl ?_
  refine q_lload_n d188_1 rfl ?_
  refine q_lcmp d188_2 ?_
  refine q_if_gt (tgt := 10) d188_3 rfl (fun h1t => ?_) (fun h1f => ?_)
  ·
    refine q_lload_n d188_10 rfl ?_
    exact q_lret d188_11 rfl (Nat.le_refl _) (Nat.le_refl _) (v1 h1t)
  ·
    refine q_lload_n d188_6 rfl ?_
    refine q_goto (tgt := 11) d188_7 rfl ?_
    exact q_lret d188_11 rfl (Nat.le_refl _) (Nat.le_refl _) (v2 h1f)

set_option maxRecDepth 10000 in
set_option maxHeartbeats 4000000 in
theorem sminI {d : Nat} {I : Nat → Nat → Int32} {D : Nat → Nat → UInt64} {R : Nat → Nat → Option Nat} {Q : j_Po} {a : Int32} {b : Int32}   (hd : 0 ≤ d)
    (v1 : (b < a) → Q (some (.int b)) w1 (I, D, RR R))
    (v2 : (¬ b < a) → Q (some (.int a)) w1 (I, D, RR R)) : j_Call d 187 [.int a, .int b] w1 (I, D, RR R) 0 0 Q := by
  refine q_enter (L := [some (.int a), some (.int b)]) j_m187 (Nat.le_of_ble_eq_true rfl) rfl ?_
  refine q_iload_n d187_0 rfl ?_
  refine q_iload_n d187_1 rfl ?_
  refine q_icmp_gt (tgt := 9) d187_2 rfl (fun h1t => ?_) (fun h1f => ?_)
  ·
    refine q_iload_n d187_9 rfl ?_
    exact q_iret d187_10 rfl (Nat.le_refl _) (Nat.le_refl _) (v1 h1t)
  ·
    refine q_iload_n d187_5 rfl ?_
    refine q_goto (tgt := 10) d187_6 rfl ?_
    exact q_iret d187_10 rfl (Nat.le_refl _) (Nat.le_refl _) (v2 h1f)

set_option maxRecDepth 10000 in
set_option maxHeartbeats 4000000 in
theorem smaxI {d : Nat} {I : Nat → Nat → Int32} {D : Nat → Nat → UInt64} {R : Nat → Nat → Option Nat} {Q : j_Po} {a : Int32} {b : Int32}   (hd : 0 ≤ d)
    (v1 : (a < b) → Q (some (.int b)) w1 (I, D, RR R))
    (v2 : (¬ a < b) → Q (some (.int a)) w1 (I, D, RR R)) : j_Call d 222 [.int a, .int b] w1 (I, D, RR R) 0 0 Q := by
  refine q_enter (L := [some (.int a), some (.int b)]) j_m222 (Nat.le_of_ble_eq_true rfl) rfl ?_
  refine q_iload_n d222_0 rfl ?_
  refine q_iload_n d222_1 rfl ?_
  refine q_icmp_lt (tgt := 9) d222_2 rfl (fun h1t => ?_) (fun h1f => ?_)
  ·
    refine q_iload_n d222_9 rfl ?_
    exact q_iret d222_10 rfl (Nat.le_refl _) (Nat.le_refl _) (v1 h1t)
  ·
    refine q_iload_n d222_5 rfl ?_
    refine q_goto (tgt := 10) d222_6 rfl ?_
    exact q_iret d222_10 rfl (Nat.le_refl _) (Nat.le_refl _) (v2 h1f)

theorem lN_leB {a b : Nat} (ha : a < 2 ^ 63) (hb : b < 2 ^ 63) : lN a ≤ lN b ↔ a ≤ b := by
  rw [Int64.le_iff_toInt_le]
  have h1 : (lN a).toInt = (a : Int) := by show (Int64.ofNat a).toInt = _; rw [Int64.toInt_ofNat_of_lt (by omega)]
  have h2 : (lN b).toInt = (b : Int) := by show (Int64.ofNat b).toInt = _; rw [Int64.toInt_ofNat_of_lt (by omega)]
  rw [h1, h2]; omega
section MM
variable {d : Nat} {I : Nat → Nat → Int32} {D : Nat → Nat → UInt64} {R : Nat → Nat → Option Nat} {Q : j_Po}
theorem cminL {a b : Nat} (ha : a < 2 ^ 63) (hb : b < 2 ^ 63) (hq : Q (some (.long (lN (min a b)))) w1 (I, D, RR R)) : j_Call d 188 [.long (lN a), .long (lN b)] w1 (I, D, RR R) 0 0 Q := by
  refine sminL (Nat.zero_le _) (fun h => ?_) (fun h => ?_)
  · rw [lg_cmp_gt, Int64.lt_iff_le_and_ne, lN_leB hb ha] at h
    rw [Nat.min_eq_right h.1] at hq; exact hq
  · rw [lg_cmp_gt] at h
    have h2 := (lN_leB ha hb).mp (Int64.not_lt.mp h)
    rw [Nat.min_eq_left h2] at hq; exact hq
theorem cminI {a b : Nat} (ha : a < 2 ^ 31) (hb : b < 2 ^ 31) (hq : Q (some (.int (nI (min a b)))) w1 (I, D, RR R)) : j_Call d 187 [.int (nI a), .int (nI b)] w1 (I, D, RR R) 0 0 Q := by
  refine sminI (Nat.zero_le _) (fun h => ?_) (fun h => ?_)
  · rw [nI_ltI hb ha] at h
    rw [Nat.min_eq_right (by omega)] at hq; exact hq
  · rw [nI_ltI hb ha] at h
    rw [Nat.min_eq_left (by omega)] at hq; exact hq
theorem cmaxI {a b : Nat} (ha : a < 2 ^ 31) (hb : b < 2 ^ 31) (hq : Q (some (.int (nI (max a b)))) w1 (I, D, RR R)) : j_Call d 222 [.int (nI a), .int (nI b)] w1 (I, D, RR R) 0 0 Q := by
  refine smaxI (Nat.zero_le _) (fun h => ?_) (fun h => ?_)
  · rw [nI_ltI ha hb] at h
    rw [Nat.max_eq_right (by omega)] at hq; exact hq
  · rw [nI_ltI ha hb] at h
    rw [Nat.max_eq_left (by omega)] at hq; exact hq
end MM
def MBu (bv : Nat → Nat) (I : Nat → Nat → Int32) : Prop := ∀ c, c < 24 → ¬ I 361 c = 0 → ∃ b, b ≤ 1000000 ∧ min 2001 b = bv c ∧ I 362 c = nI b
def BuC (β : Bd) (bv : Nat → Nat) (ρ : Nat → Nat) (r : Nat) : Prop := ∀ {d : Nat} {I : Nat → Nat → Int32} {D : Nat → Nat → UInt64} {R : Nat → Nat → Option Nat} {Q : j_Po} (c : Nat), c < 24 → ρ c < r → 2 * ρ c + 6 ≤ d → MBu bv I → RBN β I → (∀ J b, (∀ o, o ≠ 361 → o ≠ 362 → J o = I o) → MBu bv J → RBN β J → b ≤ 1000000 → min 2001 b = bv c → Q (some (.int (nI b))) w1 (J, D, RR R)) → j_Call d 184 [.ref 260, .int (nI c)] w1 (I, D, RR R) 0 0 Q
theorem c186 {d : Nat} {I : Nat → Nat → Int32} {D : Nat → Nat → UInt64} {R : Nat → Nat → Option Nat} {Q : j_Po} {β : Bd} {t : Nat} (hV : BV β) (ht : t < 6) (hN : RBN β I) (hl : bL β t = true) (hq : Q (some (.int (nI (cas β t)))) w1 (I, D, RR R)) : j_Call d 186 [.ref 260, .int (nI t)] w1 (I, D, RR R) 0 0 Q := by
  obtain ⟨-, -, e3, e4, e5⟩ := (hN.2 t ht).2 hl
  obtain ⟨-, -, -, l2, m1, m2, n0, n1, n2, -⟩ := hV.2.1 t ht hl
  unfold cas at hq
  refine s186 ht (Nat.zero_le _) (fun h => ?_) (fun h => ?_)
  · have : b2 β t ≠ none := fun e => h (by rw [e3, e]; rfl)
    rw [if_neg this] at hq
    rw [e4, e5, pk_mul]; exact hq
  · have : b2 β t = none := by
      cases ho : b2 β t with
      | none => rfl
      | some o =>
        rw [e3, ho] at h
        have hn : (nI o).toInt = (o : Int) := nI_toInt (by have := (l2 o ho).1; omega)
        rw [show nI o = -1 from h] at hn
        have : (-1 : Int32).toInt = -1 := by decide
        omega
    rw [if_pos this] at hq
    rw [e4, show (1 : Int32) = nI 1 from rfl, pk_mul]; exact hq
set_option maxRecDepth 10000 in
set_option maxHeartbeats 4000000 in
theorem s185 {d : Nat} {I : Nat → Nat → Int32} {D : Nat → Nat → UInt64} {R : Nat → Nat → Option Nat} {Q : j_Po} {t : Nat} {β : Bd} {bv ρ : Nat → Nat} {r : Nat} (ht : t < 6) (hV : BV β) (hrec : BuC β bv ρ r) (hO : I 316 t = nI (bO β t)) (hd : 2 ≤ d)
    (v1 : (bO β t) < 24)
    (v2 : ρ (bO β t) < r)
    (v3 : 2 * ρ (bO β t) + 6 ≤ d - 1)
    (v4 : MBu bv I)
    (v5 : RBN β I)
    (v6 : ∀ J1 : Nat → Nat → Int32, ∀ b2 : Nat, (∀ o, o ≠ 361 → o ≠ 362 → J1 o = I o) → (MBu bv J1) → (RBN β J1) → (b2 ≤ 1000000) → (min 2001 b2 = bv (bO β t)) → RBN β J1)
    (v7 : ∀ J1 : Nat → Nat → Int32, ∀ b2 : Nat, (∀ o, o ≠ 361 → o ≠ 362 → J1 o = I o) → (MBu bv J1) → (RBN β J1) → (b2 ≤ 1000000) → (min 2001 b2 = bv (bO β t)) → bL β t = true)
    (v8 : ∀ J1 : Nat → Nat → Int32, ∀ b2 : Nat, (∀ o, o ≠ 361 → o ≠ 362 → J1 o = I o) → (MBu bv J1) → (RBN β J1) → (b2 ≤ 1000000) → (min 2001 b2 = bv (bO β t)) → 1000000 < 2 ^ 31)
    (v9 : ∀ J1 : Nat → Nat → Int32, ∀ b2 : Nat, (∀ o, o ≠ 361 → o ≠ 362 → J1 o = I o) → (MBu bv J1) → (RBN β J1) → (b2 ≤ 1000000) → (min 2001 b2 = bv (bO β t)) → (b2 * (cas β t)) < 2 ^ 31)
    (v10 : ∀ J1 : Nat → Nat → Int32, ∀ b2 : Nat, (∀ o, o ≠ 361 → o ≠ 362 → J1 o = I o) → (MBu bv J1) → (RBN β J1) → (b2 ≤ 1000000) → (min 2001 b2 = bv (bO β t)) → Q (some (.int (nI (min 1000000 (b2 * (cas β t)))))) w1 (J1, D, RR R)) : j_Call d 185 [.ref 260, .int (nI t)] w1 (I, D, RR R) 0 0 Q := by
  refine q_enter (L := [some (.ref 260), some (.int (nI t))]) j_m185 (Nat.le_of_ble_eq_true rfl) rfl ?_
  refine q_ldcI (v := 1000000) d185_0 (kc10_228 185 rfl) ?_
  refine q_aload_n d185_2 rfl ?_
  refine q_aload_n d185_3 rfl ?_
  refine q_getR (x := 316) d185_4 (fs10_37 185 rfl) rfl (lt_w1 rfl) sh260 (rs260_7 R) (by decide) ?_
  refine q_iload_n d185_7 rfl ?_
  refine q_iaload (a := t) d185_8 (lt_w1 rfl) sh316 rfl (by omega) ?_
  refine r_int (y := nI (bO β t)) hO ?_
  refine q_invV (o := 260) (ci := 10) (av := [.int (nI (bO β t))]) (rest := [.int 1000000]) (d' := (d - 1)) (mc' := 0) (ms' := 0) d185_9 (cv10_229 185 rfl) rfl (by decide) rfl rfl (by omega) (Nat.le_of_ble_eq_true rfl) (Nat.le_of_ble_eq_true rfl) (lt_w1 rfl) sh260 (Nat.le_refl _) (Nat.le_refl _) ?_
  refine hrec (bO β t) v1 v2 v3 v4 v5 (fun J1 b2 j3 j4 j5 j6 j7 => ?_)
  show j_W 185 d 0 0 0 0 12 [some (.ref 260), some (.int (nI t))] [.int (nI b2), .int 1000000] w1 (J1, D, RR R) Q
  refine q_aload_n d185_12 rfl ?_
  refine q_iload_n d185_13 rfl ?_
  refine q_invV (o := 260) (ci := 10) (av := [.int (nI t)]) (rest := [.int (nI b2), .int 1000000]) (d' := 1) (mc' := 0) (ms' := 0) d185_14 (cv10_232 185 rfl) rfl (by decide) rfl rfl (by omega) (Nat.le_of_ble_eq_true rfl) (Nat.le_of_ble_eq_true rfl) (lt_w1 rfl) sh260 (Nat.le_refl _) (Nat.le_refl _) ?_
  refine c186 hV (by omega) (v6 J1 b2 j3 j4 j5 j6 j7) (v7 J1 b2 j3 j4 j5 j6 j7) ?_
  show j_W 185 d 0 0 0 0 17 [some (.ref 260), some (.int (nI t))] [.int (nI (cas β t)), .int (nI b2), .int 1000000] w1 (J1, D, RR R) Q
  refine q_imul d185_17 ?_
  refine r_int (y := (nI (b2 * (cas β t)))) (pk_mul b2 (cas β t)) ?_
  refine q_invS (av := [.int 1000000, .int (nI (b2 * (cas β t)))]) (rest := []) (d' := 0) (mc' := 0) (ms' := 0) d185_18 (cv10_235 185 rfl) rfl rfl (by omega) (Nat.le_of_ble_eq_true rfl) (Nat.le_of_ble_eq_true rfl) (Nat.le_refl _) (Nat.le_refl _) ?_
  refine cminI (a := 1000000) (b := (b2 * (cas β t))) (v8 J1 b2 j3 j4 j5 j6 j7) (v9 J1 b2 j3 j4 j5 j6 j7) ?_
  show j_W 185 d 0 0 0 0 21 [some (.ref 260), some (.int (nI t))] [.int (nI (min 1000000 (b2 * (cas β t))))] w1 (J1, D, RR R) Q
  exact q_iret d185_21 rfl (Nat.le_refl _) (Nat.le_refl _) (v10 J1 b2 j3 j4 j5 j6 j7)

/-! how heavy, up to 2001 -/
def BuE (β : Bd) (X : Nat → Nat → Bool) (bv : Nat → Nat) : Prop :=
  (∀ c, c < 24 → bv c = if bZ β c = 0 then 0 else min 2001 (sumN 24 fun k => if X c k = true then (if bZ β k = 0 then 0 else min 2001 (1 + sumN 6 fun t => if bL β t = true then tmB β k t * bv (24 + t) else 0)) else 0)) ∧
  ∀ t, t < 6 → bv (24 + t) = if bL β t = true then min 2001 (bv (bO β t) * cas β t) else 0
theorem NM.be {β : Bd} {I : Nat → Nat → Int32} (h : NM β I) : BuE β (fun c v => bt (I 206 c) v) (bu I) := by
  have hs : ∀ k, k < 24 → shr I k = if bZ β k = 0 then 0 else min 2001 (1 + sumN 6 fun t => if bL β t = true then tmB β k t * bu I (24 + t) else 0) := fun k hk => by
    unfold shr
    rw [(h.1 k hk).2.2.1, nI_clamp (by split <;> omega)]
  refine ⟨fun c hc => ?_, fun t ht => ?_⟩
  · show (I 208 c).toNatClampNeg = _
    rw [(h.1 c hc).2.2.2, nI_clamp (by split <;> omega)]
    by_cases hz : bZ β c = 0
    · rw [if_pos hz, if_pos hz]
    · rw [if_neg hz, if_neg hz]
      congr 1
      refine sumN_cg fun k hk => ?_
      rw [hs k hk]
  · have := h.2 t ht
    unfold NMt at this
    show (I 208 (24 + t)).toNatClampNeg = _
    rw [this, nI_clamp (by split <;> omega)]
section BU
variable {d : Nat} {D : Nat → Nat → UInt64} {R : Nat → Nat → Option Nat} {Q : j_Po} {β : Bd} {X : Nat → Nat → Bool} {bv ρ : Nat → Nat}
theorem min_mul (M a b : Nat) : min M (min M a * b) = min M (a * b) := by
  by_cases h : a ≤ M
  · rw [Nat.min_eq_right h]
  · rw [Nat.min_eq_left (by omega : M ≤ a)]
    rcases Nat.eq_zero_or_pos b with hb | hb
    · subst hb; rfl
    · have h1 : M ≤ M * b := Nat.le_mul_of_pos_right _ hb
      have h2 : M * b ≤ a * b := Nat.mul_le_mul_right _ (by omega)
      omega
theorem c185 {I : Nat → Nat → Int32} (hV : BV β) (hE : BuE β X bv) {r : Nat} (hrec : BuC β bv ρ r) {t : Nat} (ht : t < 6) (hl : bL β t = true) (hr : ρ (bO β t) < r) (hd : 2 * ρ (bO β t) + 7 ≤ d) (hM : MBu bv I) (hN : RBN β I)
    (hq : ∀ J b, (∀ o, o ≠ 361 → o ≠ 362 → J o = I o) → MBu bv J → RBN β J → b ≤ 1000000 → min 2001 b = bv (24 + t) → Q (some (.int (nI b))) w1 (J, D, RR R)) : j_Call d 185 [.ref 260, .int (nI t)] w1 (I, D, RR R) 0 0 Q := by
  obtain ⟨ho, -, -, -, m1, m2, -, -, n2, -⟩ := hV.2.1 t ht hl
  have hcas : cas β t ≤ 64 := by
    unfold cas
    have : (if b2 β t = none then 1 else bn β t) ≤ 8 := by split <;> omega
    exact Nat.mul_le_mul m2 this
  have big : ∀ b, b ≤ 1000000 → b * cas β t < 2 ^ 31 := fun b hb => by
    have := Nat.mul_le_mul hb hcas
    omega
  refine s185 ht hV hrec ((hN.2 t ht).2 hl).1 (by omega) ho hr (by omega) hM hN (fun J b j1 j2 j3 j4 j5 => j3) (fun J b j1 j2 j3 j4 j5 => hl) (fun J b j1 j2 j3 j4 j5 => by decide) (fun J b j1 j2 j3 j4 j5 => big b j4) (fun J b j1 j2 j3 j4 j5 => ?_)
  refine hq J _ j1 j2 j3 (Nat.min_le_left _ _) ?_
  rw [hE.2 t ht, if_pos hl, ← j5, min_mul]
  omega
end BU
set_option maxRecDepth 10000 in
set_option maxHeartbeats 4000000 in
theorem s184e {d : Nat} {I : Nat → Nat → Int32} {D : Nat → Nat → UInt64} {R : Nat → Nat → Option Nat} {Q : j_Po} {c : Nat} {β : Bd} {X : Nat → Nat → Bool} {ρ : Nat → Nat} (hc : c < 24) (hd : 2 * ρ c + 6 ≤ d)
    (v1 : ((I 361 c) = 0) → (¬ (I 264 c) = 0) → RBN β I)
    (v2 : ((I 361 c) = 0) → (¬ (I 264 c) = 0) → RcE β X)
    (v3 : ((I 361 c) = 0) → (¬ (I 264 c) = 0) → acyc β)
    (v4 : ((I 361 c) = 0) → (¬ (I 264 c) = 0) → c < 24)
    (v5 : ((I 361 c) = 0) → (¬ (I 264 c) = 0) → ∀ x4 : Int32, (∀ v, v < 32 → bt x4 v = X c v) → j_W 184 d 0 0 0 0 40 [some (.ref 260), some (.int (nI c)), some (.long 0), none, some (.int x4), some (.int 0), none] [] w1 (I, D, RR R) Q)
    (v6 : ((I 361 c) = 0) → ((I 264 c) = 0) → j_W 184 d 0 0 0 0 40 [some (.ref 260), some (.int (nI c)), some (.long 0), none, some (.int 0), some (.int 0), none] [] w1 (I, D, RR R) Q)
    (v7 : (¬ (I 361 c) = 0) → Q (some (.int (I 362 c))) w1 (I, D, RR R)) : j_Call d 184 [.ref 260, .int (nI c)] w1 (I, D, RR R) 0 0 Q := by
  refine q_enter (L := [some (.ref 260), some (.int (nI c)), none, none, none, none, none]) j_m184 (Nat.le_of_ble_eq_true rfl) rfl ?_
  refine q_aload_n d184_0 rfl ?_
  refine q_getR (x := 361) d184_1 (fs10_64 184 rfl) rfl (lt_w1 rfl) sh260 (rs260_16 R) (by decide) ?_
  refine q_iload_n d184_4 rfl ?_
  refine q_zaload (a := c) d184_5 (lt_w1 rfl) sh361 rfl (by omega) ?_
  refine q_if_eq (tgt := 16) d184_6 rfl (fun h1t => ?_) (fun h1f => ?_)
  ·
    refine q_lconst (v := 0) (by decide) d184_16 ?_
    refine q_lstore_n (L' := [some (.ref 260), some (.int (nI c)), some (.long 0), none, none, none, none]) d184_17 (Nat.le_of_ble_eq_true rfl) rfl ?_
    refine q_aload_n d184_18 rfl ?_
    refine q_iload_n d184_19 rfl ?_
    refine q_invV (o := 260) (ci := 10) (av := [.int (nI c)]) (rest := []) (d' := 0) (mc' := 0) (ms' := 0) d184_20 (cv10_204 184 rfl) rfl (by decide) rfl rfl (by omega) (Nat.le_of_ble_eq_true rfl) (Nat.le_of_ble_eq_true rfl) (lt_w1 rfl) sh260 (Nat.le_refl _) (Nat.le_refl _) ?_
    refine s170 (k := c) (by first | omega | decide) (Nat.le_refl _) (fun c2 => ?_) (fun c3 => ?_)
    ·
      show j_W 184 d 0 0 0 0 23 [some (.ref 260), some (.int (nI c)), some (.long 0), none, none, none, none] [.int 0] w1 (I, D, RR R) Q
      refine q_if_eq (tgt := 30) d184_23 rfl (fun _ => ?_) (fun h => absurd h (by decide))
      refine q_aload_n d184_30 rfl ?_
      refine q_iload_n d184_31 rfl ?_
      refine q_invV (o := 260) (ci := 10) (av := [.int (nI c)]) (rest := []) (d' := 1) (mc' := 0) (ms' := 0) d184_32 (cv10_214 184 rfl) rfl (by decide) rfl rfl (by omega) (Nat.le_of_ble_eq_true rfl) (Nat.le_of_ble_eq_true rfl) (lt_w1 rfl) sh260 (Nat.le_refl _) (Nat.le_refl _) ?_
      refine c182 (X := X) (Nat.le_refl _) (v1 h1t c2) (v2 h1t c2) (v3 h1t c2) (v4 h1t c2) (fun x4 h5 => ?_)
      show j_W 184 d 0 0 0 0 35 [some (.ref 260), some (.int (nI c)), some (.long 0), none, none, none, none] [.int x4] w1 (I, D, RR R) Q
      refine q_istore (L' := [some (.ref 260), some (.int (nI c)), some (.long 0), none, some (.int x4), none, none]) d184_35 (Nat.le_of_ble_eq_true rfl) rfl ?_
      refine q_iconst (v := 0) (by decide) d184_37 ?_
      refine q_istore (L' := [some (.ref 260), some (.int (nI c)), some (.long 0), none, some (.int x4), some (.int 0), none]) d184_38 (Nat.le_of_ble_eq_true rfl) rfl ?_
      exact r_sub (L' := [some (.ref 260), some (.int (nI c)), some (.long 0), none, some (.int x4), some (.int 0), none]) ⟨rfl, rfl, rfl, rfl, rfl, trivial⟩ (v5 h1t c2 x4 h5)
    ·
      show j_W 184 d 0 0 0 0 23 [some (.ref 260), some (.int (nI c)), some (.long 0), none, none, none, none] [.int 1] w1 (I, D, RR R) Q
      refine q_if_eq (tgt := 30) d184_23 rfl (fun h => absurd h (by decide)) (fun _ => ?_)
      refine q_iconst (v := 0) (by decide) d184_26 ?_
      refine q_goto (tgt := 35) d184_27 rfl ?_
      refine q_istore (L' := [some (.ref 260), some (.int (nI c)), some (.long 0), none, some (.int 0), none, none]) d184_35 (Nat.le_of_ble_eq_true rfl) rfl ?_
      refine q_iconst (v := 0) (by decide) d184_37 ?_
      refine q_istore (L' := [some (.ref 260), some (.int (nI c)), some (.long 0), none, some (.int 0), some (.int 0), none]) d184_38 (Nat.le_of_ble_eq_true rfl) rfl ?_
      exact r_sub (L' := [some (.ref 260), some (.int (nI c)), some (.long 0), none, some (.int 0), some (.int 0), none]) ⟨rfl, rfl, rfl, rfl, rfl, trivial⟩ (v6 h1t c3)
  ·
    refine q_aload_n d184_9 rfl ?_
    refine q_getR (x := 362) d184_10 (fs10_67 184 rfl) rfl (lt_w1 rfl) sh260 (rs260_17 R) (by decide) ?_
    refine q_iload_n d184_13 rfl ?_
    refine q_iaload (a := c) d184_14 (lt_w1 rfl) sh362 rfl (by omega) ?_
    exact q_iret d184_15 rfl (Nat.le_refl _) (Nat.le_refl _) (v7 h1f)

set_option maxRecDepth 10000 in
set_option maxHeartbeats 4000000 in
theorem s184o {d : Nat} {I : Nat → Nat → Int32} {D : Nat → Nat → UInt64} {R : Nat → Nat → Option Nat} {Q : j_Po} {c : Nat} {x : Int32} {k : Nat} {β : Bd} {X : Nat → Nat → Bool} {bv ρ : Nat → Nat} {s : Nat} (hc : c < 24) (hV : BV β) (hE : BuE β X bv) (hrec : BuC β bv ρ (ρ c)) (hk : k ≤ 24) (hd : 2 * ρ c + 6 ≤ d)
    (v1 : (24 ≤ k) → s < 2 ^ 63)
    (v2 : (24 ≤ k) → 1000000 < 2 ^ 63)
    (v3 : (24 ≤ k) → Q (some (.int (((lN (min s 1000000)) : Int64).toInt32))) w1 ((j_u (j_u I 361 c 1) 362 c (((lN (min s 1000000)) : Int64).toInt32)), D, RR R))
    (v4 : (¬ 24 ≤ k) → (((x >>> ((nI k) &&& 31)) &&& 1) = 0) → j_W 184 d 0 0 0 0 40 [some (.ref 260), some (.int (nI c)), some (.long (lN s)), none, some (.int x), some (.int (nI (k + 1))), none] [] w1 (I, D, RR R) Q)
    (v5 : (¬ 24 ≤ k) → (¬ ((x >>> ((nI k) &&& 31)) &&& 1) = 0) → (¬ (I 264 k) = 0) → j_W 184 d 0 0 0 0 76 [some (.ref 260), some (.int (nI c)), some (.long ((lN s) + 1)), none, some (.int x), some (.int (nI k)), some (.int 0)] [] w1 (I, D, RR R) Q)
    (v6 : (¬ 24 ≤ k) → (¬ ((x >>> ((nI k) &&& 31)) &&& 1) = 0) → ((I 264 k) = 0) → j_W 184 d 0 0 0 0 40 [some (.ref 260), some (.int (nI c)), some (.long (lN s)), none, some (.int x), some (.int (nI (k + 1))), none] [] w1 (I, D, RR R) Q) : j_W 184 d 0 0 0 0 40 [some (.ref 260), some (.int (nI c)), some (.long (lN s)), none, some (.int x), some (.int (nI k)), none] [] w1 (I, D, RR R) Q := by
  refine q_iload d184_40 rfl ?_
  refine q_bipush (v := 24) (by decide) d184_42 ?_
  refine q_icmp_ge (tgt := 136) d184_44 rfl (fun h1t => ?_) (fun h1f => ?_)
  ·
    have h1tc : 24 ≤ k := (nI_leI (by omega) (by omega)).mp h1t
    refine q_aload_n d184_136 rfl ?_
    refine q_getR (x := 361) d184_137 (fs10_64 184 rfl) rfl (lt_w1 rfl) sh260 (rs260_16 R) (by decide) ?_
    refine q_iload_n d184_140 rfl ?_
    refine q_iconst (v := 1) (by decide) d184_141 ?_
    refine q_zastore (a := c) d184_142 (Or.inr rfl) (lt_w1 rfl) sh361 rfl (by omega) ?_
    refine q_aload_n d184_143 rfl ?_
    refine q_getR (x := 362) d184_144 (fs10_67 184 rfl) rfl (lt_w1 rfl) sh260 (rs260_17 R) (by decide) ?_
    refine q_iload_n d184_147 rfl ?_
    refine q_lload_n d184_148 rfl ?_
    refine q_ldcL (v := 1000000) d184_149 (kc10_220 184 rfl) ?_
    refine q_invS (av := [.long (lN s), .long 1000000]) (rest := [.int (nI c), .ref 362]) (d' := 0) (mc' := 0) (ms' := 0) d184_152 (cv10_222 184 rfl) rfl rfl (by omega) (Nat.le_of_ble_eq_true rfl) (Nat.le_of_ble_eq_true rfl) (Nat.le_refl _) (Nat.le_refl _) ?_
    refine cminL (a := s) (b := 1000000) (v1 h1tc) (v2 h1tc) ?_
    show j_W 184 d 0 0 0 0 155 [some (.ref 260), some (.int (nI c)), some (.long (lN s)), none, some (.int x), some (.int (nI k)), none] [.long (lN (min s 1000000)), .int (nI c), .ref 362] w1 ((j_u I 361 c 1), D, RR R) Q
    refine q_l2i d184_155 ?_
    refine q_iastore (a := c) d184_156 (lt_w1 rfl) sh362 rfl (by omega) ?_
    refine q_aload_n d184_157 rfl ?_
    refine q_getR (x := 362) d184_158 (fs10_67 184 rfl) rfl (lt_w1 rfl) sh260 (rs260_17 R) (by decide) ?_
    refine q_iload_n d184_161 rfl ?_
    refine q_iaload (a := c) d184_162 (lt_w1 rfl) sh362 rfl (by omega) ?_
    refine r_int (y := (((lN (min s 1000000)) : Int64).toInt32)) (show (j_u (j_u I 361 c 1) 362 c (((lN (min s 1000000)) : Int64).toInt32)) 362 c = (((lN (min s 1000000)) : Int64).toInt32) from (j_u_same _ _ _ _)) ?_
    exact q_iret d184_163 rfl (Nat.le_refl _) (Nat.le_refl _) (v3 h1tc)
  ·
    have h1fc : ¬ 24 ≤ k := mt (nI_leI (by omega) (by omega)).mpr h1f
    refine q_iload d184_47 rfl ?_
    refine q_iload d184_49 rfl ?_
    refine q_ishr d184_51 ?_
    refine q_iconst (v := 1) (by decide) d184_52 ?_
    refine q_iand d184_53 ?_
    refine q_if_eq (tgt := 130) d184_54 rfl (fun h2t => ?_) (fun h2f => ?_)
    ·
      refine q_iinc (L' := [some (.ref 260), some (.int (nI c)), some (.long (lN s)), none, some (.int x), some (.int (nI (k + 1))), none]) (v := (nI (k + 1))) d184_130 rfl (nI_inc _) rfl ?_
      refine q_goto (tgt := 40) d184_133 rfl ?_
      exact r_sub (L' := [some (.ref 260), some (.int (nI c)), some (.long (lN s)), none, some (.int x), some (.int (nI (k + 1))), none]) ⟨rfl, rfl, rfl, rfl, rfl, trivial⟩ (v4 h1fc h2t)
    ·
      refine q_aload_n d184_57 rfl ?_
      refine q_iload d184_58 rfl ?_
      refine q_invV (o := 260) (ci := 10) (av := [.int (nI k)]) (rest := []) (d' := 0) (mc' := 0) (ms' := 0) d184_60 (cv10_204 184 rfl) rfl (by decide) rfl rfl (by omega) (Nat.le_of_ble_eq_true rfl) (Nat.le_of_ble_eq_true rfl) (lt_w1 rfl) sh260 (Nat.le_refl _) (Nat.le_refl _) ?_
      refine s170 (k := k) (by first | omega | decide) (Nat.le_refl _) (fun c3 => ?_) (fun c4 => ?_)
      ·
        show j_W 184 d 0 0 0 0 63 [some (.ref 260), some (.int (nI c)), some (.long (lN s)), none, some (.int x), some (.int (nI k)), none] [.int 0] w1 (I, D, RR R) Q
        refine q_if_eq (tgt := 69) d184_63 rfl (fun _ => ?_) (fun h => absurd h (by decide))
        refine q_lload_n d184_69 rfl ?_
        refine q_lconst (v := 1) (by decide) d184_70 ?_
        refine q_ladd d184_71 ?_
        refine q_lstore_n (L' := [some (.ref 260), some (.int (nI c)), some (.long ((lN s) + 1)), none, some (.int x), some (.int (nI k)), none]) d184_72 (Nat.le_of_ble_eq_true rfl) rfl ?_
        refine q_iconst (v := 0) (by decide) d184_73 ?_
        refine q_istore (L' := [some (.ref 260), some (.int (nI c)), some (.long ((lN s) + 1)), none, some (.int x), some (.int (nI k)), some (.int 0)]) d184_74 (Nat.le_of_ble_eq_true rfl) rfl ?_
        exact r_sub (L' := [some (.ref 260), some (.int (nI c)), some (.long ((lN s) + 1)), none, some (.int x), some (.int (nI k)), some (.int 0)]) ⟨rfl, rfl, rfl, rfl, rfl, rfl, trivial⟩ (v5 h1fc h2f c3)
      ·
        show j_W 184 d 0 0 0 0 63 [some (.ref 260), some (.int (nI c)), some (.long (lN s)), none, some (.int x), some (.int (nI k)), none] [.int 1] w1 (I, D, RR R) Q
        refine q_if_eq (tgt := 69) d184_63 rfl (fun h => absurd h (by decide)) (fun _ => ?_)
        refine q_goto (tgt := 130) d184_66 rfl ?_
        refine q_iinc (L' := [some (.ref 260), some (.int (nI c)), some (.long (lN s)), none, some (.int x), some (.int (nI (k + 1))), none]) (v := (nI (k + 1))) d184_130 rfl (nI_inc _) rfl ?_
        refine q_goto (tgt := 40) d184_133 rfl ?_
        exact r_sub (L' := [some (.ref 260), some (.int (nI c)), some (.long (lN s)), none, some (.int x), some (.int (nI (k + 1))), none]) ⟨rfl, rfl, rfl, rfl, rfl, trivial⟩ (v6 h1fc h2f c4)

set_option maxRecDepth 10000 in
set_option maxHeartbeats 4000000 in
theorem s184t {d : Nat} {I : Nat → Nat → Int32} {D : Nat → Nat → UInt64} {R : Nat → Nat → Option Nat} {Q : j_Po} {c : Nat} {x : Int32} {k : Nat} {t : Nat} {β : Bd} {X : Nat → Nat → Bool} {bv ρ : Nat → Nat} {s : Nat} (hc : c < 24) (hV : BV β) (hE : BuE β X bv) (hrec : BuC β bv ρ (ρ c)) (hk : k < 24) (ht : t ≤ 6) (hd : 2 * ρ c + 6 ≤ d)
    (v1 : (6 ≤ t) → j_W 184 d 0 0 0 0 40 [some (.ref 260), some (.int (nI c)), some (.long (lN s)), none, some (.int x), some (.int (nI (k + 1))), none] [] w1 (I, D, RR R) Q)
    (v2 : (¬ 6 ≤ t) → ((I 315 t) = 0) → j_W 184 d 0 0 0 0 76 [some (.ref 260), some (.int (nI c)), some (.long (lN s)), none, some (.int x), some (.int (nI k)), some (.int (nI (t + 1)))] [] w1 (I, D, RR R) Q)
    (v3 : (¬ 6 ≤ t) → (¬ (I 315 t) = 0) → ((I (335 + k) t) ≤ 0) → j_W 184 d 0 0 0 0 76 [some (.ref 260), some (.int (nI c)), some (.long (lN s)), none, some (.int x), some (.int (nI k)), some (.int (nI (t + 1)))] [] w1 (I, D, RR R) Q)
    (v4 : (¬ 6 ≤ t) → (¬ (I 315 t) = 0) → (¬ (I (335 + k) t) ≤ 0) → t < 6)
    (v5 : (¬ 6 ≤ t) → (¬ (I 315 t) = 0) → (¬ (I (335 + k) t) ≤ 0) → bL β t = true)
    (v6 : (¬ 6 ≤ t) → (¬ (I 315 t) = 0) → (¬ (I (335 + k) t) ≤ 0) → ρ (bO β t) < ρ c)
    (v7 : (¬ 6 ≤ t) → (¬ (I 315 t) = 0) → (¬ (I (335 + k) t) ≤ 0) → 2 * ρ (bO β t) + 7 ≤ d - 1)
    (v8 : (¬ 6 ≤ t) → (¬ (I 315 t) = 0) → (¬ (I (335 + k) t) ≤ 0) → MBu bv I)
    (v9 : (¬ 6 ≤ t) → (¬ (I 315 t) = 0) → (¬ (I (335 + k) t) ≤ 0) → RBN β I)
    (v10 : (¬ 6 ≤ t) → (¬ (I 315 t) = 0) → (¬ (I (335 + k) t) ≤ 0) → ∀ J4 : Nat → Nat → Int32, ∀ b5 : Nat, (∀ o, o ≠ 361 → o ≠ 362 → J4 o = I o) → (MBu bv J4) → (RBN β J4) → (b5 ≤ 1000000) → (min 2001 b5 = bv (24 + t)) → j_W 184 d 0 0 0 0 76 [some (.ref 260), some (.int (nI c)), some (.long ((lN s) + ((((I (335 + k) t) : Int32).toInt64) * (((nI b5) : Int32).toInt64)))), none, some (.int x), some (.int (nI k)), some (.int (nI (t + 1)))] [] w1 (J4, D, RR R) Q) : j_W 184 d 0 0 0 0 76 [some (.ref 260), some (.int (nI c)), some (.long (lN s)), none, some (.int x), some (.int (nI k)), some (.int (nI t))] [] w1 (I, D, RR R) Q := by
  refine q_iload d184_76 rfl ?_
  refine q_bipush (v := 6) (by decide) d184_78 ?_
  refine q_icmp_ge (tgt := 130) d184_80 rfl (fun h1t => ?_) (fun h1f => ?_)
  ·
    have h1tc : 6 ≤ t := (nI_leI (by omega) (by omega)).mp h1t
    refine q_iinc (L' := [some (.ref 260), some (.int (nI c)), some (.long (lN s)), none, some (.int x), some (.int (nI (k + 1))), some (.int (nI t))]) (v := (nI (k + 1))) d184_130 rfl (nI_inc _) rfl ?_
    refine q_goto (tgt := 40) d184_133 rfl ?_
    exact r_sub (L' := [some (.ref 260), some (.int (nI c)), some (.long (lN s)), none, some (.int x), some (.int (nI (k + 1))), none]) ⟨rfl, rfl, rfl, rfl, rfl, trivial⟩ (v1 h1tc)
  ·
    have h1fc : ¬ 6 ≤ t := mt (nI_leI (by omega) (by omega)).mpr h1f
    refine q_aload_n d184_83 rfl ?_
    refine q_getR (x := 315) d184_84 (fs10_34 184 rfl) rfl (lt_w1 rfl) sh260 (rs260_6 R) (by decide) ?_
    refine q_iload d184_87 rfl ?_
    refine q_zaload (a := t) d184_89 (lt_w1 rfl) sh315 rfl (by omega) ?_
    refine q_if_eq (tgt := 124) d184_90 rfl (fun h2t => ?_) (fun h2f => ?_)
    ·
      refine q_iinc (L' := [some (.ref 260), some (.int (nI c)), some (.long (lN s)), none, some (.int x), some (.int (nI k)), some (.int (nI (t + 1)))]) (v := (nI (t + 1))) d184_124 rfl (nI_inc _) rfl ?_
      refine q_goto (tgt := 76) d184_127 rfl ?_
      exact r_sub (L' := [some (.ref 260), some (.int (nI c)), some (.long (lN s)), none, some (.int x), some (.int (nI k)), some (.int (nI (t + 1)))]) ⟨rfl, rfl, rfl, rfl, rfl, rfl, trivial⟩ (v2 h1fc h2t)
    ·
      refine q_aload_n d184_93 rfl ?_
      refine q_iload d184_94 rfl ?_
      refine q_iload d184_96 rfl ?_
      refine q_invV (o := 260) (ci := 10) (av := [.int (nI k), .int (nI t)]) (rest := []) (d' := 0) (mc' := 0) (ms' := 0) d184_98 (cv10_200 184 rfl) rfl (by decide) rfl rfl (by omega) (Nat.le_of_ble_eq_true rfl) (Nat.le_of_ble_eq_true rfl) (lt_w1 rfl) sh260 (Nat.le_refl _) (Nat.le_refl _) ?_
      refine s180 (k := k) (t := t) (by first | omega | decide) (by first | omega | decide) (Nat.le_refl _) ?_
      show j_W 184 d 0 0 0 0 101 [some (.ref 260), some (.int (nI c)), some (.long (lN s)), none, some (.int x), some (.int (nI k)), some (.int (nI t))] [.int (I (335 + k) t)] w1 (I, D, RR R) Q
      refine q_if_le (tgt := 124) d184_101 rfl (fun h3t => ?_) (fun h3f => ?_)
      ·
        refine q_iinc (L' := [some (.ref 260), some (.int (nI c)), some (.long (lN s)), none, some (.int x), some (.int (nI k)), some (.int (nI (t + 1)))]) (v := (nI (t + 1))) d184_124 rfl (nI_inc _) rfl ?_
        refine q_goto (tgt := 76) d184_127 rfl ?_
        exact r_sub (L' := [some (.ref 260), some (.int (nI c)), some (.long (lN s)), none, some (.int x), some (.int (nI k)), some (.int (nI (t + 1)))]) ⟨rfl, rfl, rfl, rfl, rfl, rfl, trivial⟩ (v3 h1fc h2f h3t)
      ·
        refine q_lload_n d184_104 rfl ?_
        refine q_aload_n d184_105 rfl ?_
        refine q_iload d184_106 rfl ?_
        refine q_iload d184_108 rfl ?_
        refine q_invV (o := 260) (ci := 10) (av := [.int (nI k), .int (nI t)]) (rest := [.long (lN s)]) (d' := 0) (mc' := 0) (ms' := 0) d184_110 (cv10_200 184 rfl) rfl (by decide) rfl rfl (by omega) (Nat.le_of_ble_eq_true rfl) (Nat.le_of_ble_eq_true rfl) (lt_w1 rfl) sh260 (Nat.le_refl _) (Nat.le_refl _) ?_
        refine s180 (k := k) (t := t) (by first | omega | decide) (by first | omega | decide) (Nat.le_refl _) ?_
        show j_W 184 d 0 0 0 0 113 [some (.ref 260), some (.int (nI c)), some (.long (lN s)), none, some (.int x), some (.int (nI k)), some (.int (nI t))] [.int (I (335 + k) t), .long (lN s)] w1 (I, D, RR R) Q
        refine q_i2l d184_113 ?_
        refine q_aload_n d184_114 rfl ?_
        refine q_iload d184_115 rfl ?_
        refine q_invV (o := 260) (ci := 10) (av := [.int (nI t)]) (rest := [.long (((I (335 + k) t) : Int32).toInt64), .long (lN s)]) (d' := (d - 1)) (mc' := 0) (ms' := 0) d184_117 (cv10_217 184 rfl) rfl (by decide) rfl rfl (by omega) (Nat.le_of_ble_eq_true rfl) (Nat.le_of_ble_eq_true rfl) (lt_w1 rfl) sh260 (Nat.le_refl _) (Nat.le_refl _) ?_
        refine c185 hV hE hrec (v4 h1fc h2f h3f) (v5 h1fc h2f h3f) (v6 h1fc h2f h3f) (v7 h1fc h2f h3f) (v8 h1fc h2f h3f) (v9 h1fc h2f h3f) (fun J4 b5 j6 j7 j8 j9 j10 => ?_)
        show j_W 184 d 0 0 0 0 120 [some (.ref 260), some (.int (nI c)), some (.long (lN s)), none, some (.int x), some (.int (nI k)), some (.int (nI t))] [.int (nI b5), .long (((I (335 + k) t) : Int32).toInt64), .long (lN s)] w1 (J4, D, RR R) Q
        refine q_i2l d184_120 ?_
        refine q_lmul d184_121 ?_
        refine q_ladd d184_122 ?_
        refine q_lstore_n (L' := [some (.ref 260), some (.int (nI c)), some (.long ((lN s) + ((((I (335 + k) t) : Int32).toInt64) * (((nI b5) : Int32).toInt64)))), none, some (.int x), some (.int (nI k)), some (.int (nI t))]) d184_123 (Nat.le_of_ble_eq_true rfl) rfl ?_
        refine q_iinc (L' := [some (.ref 260), some (.int (nI c)), some (.long ((lN s) + ((((I (335 + k) t) : Int32).toInt64) * (((nI b5) : Int32).toInt64)))), none, some (.int x), some (.int (nI k)), some (.int (nI (t + 1)))]) (v := (nI (t + 1))) d184_124 rfl (nI_inc _) rfl ?_
        refine q_goto (tgt := 76) d184_127 rfl ?_
        exact r_sub (L' := [some (.ref 260), some (.int (nI c)), some (.long ((lN s) + ((((I (335 + k) t) : Int32).toInt64) * (((nI b5) : Int32).toInt64)))), none, some (.int x), some (.int (nI k)), some (.int (nI (t + 1)))]) ⟨rfl, rfl, rfl, rfl, rfl, rfl, trivial⟩ (v10 h1fc h2f h3f J4 b5 j6 j7 j8 j9 j10)

section BV2
variable {d : Nat} {D : Nat → Nat → UInt64} {R : Nat → Nat → Option Nat} {Q : j_Po} {β : Bd} {X : Nat → Nat → Bool} {bv ρ : Nat → Nat}
theorem RBN.put2 {I J : Nat → Nat → Int32} (h : RBN β I) (hJ : ∀ o, o ≠ 361 → o ≠ 362 → J o = I o) : RBN β J :=
  h.cg (hJ _ (by decide) (by decide)) (fun o h1 h2 => hJ o (by omega) (by omega)) (hJ _ (by decide) (by decide)) (fun c hc => hJ _ (by omega) (by omega))
theorem RcE.rank (hX : RcE β X) (hρ : ∀ u v, u < 30 → v < 30 → ed β u v = true → ρ v < ρ u) {c k : Nat} (hc : c < 24) (hk : k < 24) (h : X c k = true) : ρ k ≤ ρ c :=
  hX.cl ⟨ρ, hρ⟩ (T := fun v => ρ v ≤ ρ c) (fun u v hu hv h1 hn => by have := hρ u v (by omega) (by omega) (by rw [ed_nm hu]; exact hn); omega) c hc (Nat.le_refl _) k (by omega) h
def tS (β : Bd) (bv : Nat → Nat) (k n : Nat) : Nat := sumN n fun t => if bL β t = true then tmB β k t * bv (24 + t) else 0
def gS (β : Bd) (bv : Nat → Nat) (x : Int32) (n : Nat) : Nat := sumN n fun k => if bt x k = true then (if bZ β k = 0 then 0 else min 2001 (1 + tS β bv k 6)) else 0
theorem bg1 {s k a B : Nat} (hB : 1 + 6 * a ≤ B) (h : s ≤ k * B + 1 + 6 * a) : s ≤ (k + 1) * B := by rw [Nat.add_mul, Nat.one_mul]; omega
theorem bg3 {s p k t a B : Nat} (h : s ≤ k * B + 1 + t * a) (hp : p ≤ a) : s + p ≤ k * B + 1 + (t + 1) * a := by rw [Nat.add_mul t, Nat.one_mul]; omega
theorem bg4 {s k B : Nat} (h : s ≤ k * B) : s ≤ (k + 1) * B := by rw [Nat.add_mul, Nat.one_mul]; omega
theorem bn1 {s k : Nat} (h : s ≤ k * 576000001 + 1 + 6 * 96000000) : s ≤ (k + 1) * 576000001 := bg1 (Nat.le_of_ble_eq_true rfl) h
theorem bn3 {s p k t : Nat} (h : s ≤ k * 576000001 + 1 + t * 96000000) (hp : p ≤ 96 * 1000000) : s + p ≤ k * 576000001 + 1 + (t + 1) * 96000000 := bg3 h hp
theorem bn2 {s k t : Nat} (h : s ≤ k * 576000001 + 1 + t * 96000000) : s ≤ k * 576000001 + 1 + (t + 1) * 96000000 := bg3 (p := 0) h (Nat.zero_le _)
theorem bn4 {s k : Nat} (h : s ≤ k * 576000001) : s ≤ (k + 1) * 576000001 := bg4 h
theorem bn5 {s k : Nat} (h : s ≤ k * 576000001) : s + 1 ≤ k * 576000001 + 1 + 0 * 96000000 := by omega
theorem bn6 {s : Nat} (h : s ≤ 24 * 576000001) : s < 2 ^ 63 := by omega
theorem bn7 {s : Nat} : min 2001 (min s 1000000) = min 2001 s := by omega
theorem min_r (a b : Nat) : min 2001 (a + b) = min 2001 (a + min 2001 b) := by omega
theorem min_ad {s p a b : Nat} (h1 : min 2001 s = min 2001 a) (h2 : min 2001 p = min 2001 b) : min 2001 (s + p) = min 2001 (a + b) := by omega
set_option maxRecDepth 20000 in
theorem l184t (hV : BV β) (hρ : ∀ u v, u < 30 → v < 30 → ed β u v = true → ρ v < ρ u) (hE : BuE β X bv) {c : Nat} (hc : c < 24) (hd : 2 * ρ c + 6 ≤ d) (hrec : BuC β bv ρ (ρ c)) {I0 : Nat → Nat → Int32} {x : Int32} {k : Nat} (hk : k < 24) (hkr : ρ k ≤ ρ c) (hz : bZ β k ≠ 0) (hb : bt x k = true)
    (K : ∀ I s, (∀ o, o ≠ 361 → o ≠ 362 → I o = I0 o) → MBu bv I → RBN β I → s ≤ (k + 1) * 576000001 → min 2001 s = min 2001 (gS β bv x (k + 1)) → j_W 184 d 0 0 0 0 40 [some (.ref 260), some (.int (nI c)), some (.long (lN s)), none, some (.int x), some (.int (nI (k + 1))), none] [] w1 (I, D, RR R) Q) :
    ∀ (n t s : Nat) (I : Nat → Nat → Int32), n + t = 6 → (∀ o, o ≠ 361 → o ≠ 362 → I o = I0 o) → MBu bv I → RBN β I → s ≤ k * 576000001 + 1 + t * 96000000 → min 2001 s = min 2001 (gS β bv x k + (1 + tS β bv k t)) →
    j_W 184 d 0 0 0 0 76 [some (.ref 260), some (.int (nI c)), some (.long (lN s)), none, some (.int x), some (.int (nI k)), some (.int (nI t))] [] w1 (I, D, RR R) Q := by
  intro n
  induction n with
  | zero =>
    intro t s I ht h1 h2 h3 h4 h5
    have : t = 6 := by omega
    subst this
    refine s184t hc hV hE hrec hk (by omega) hd (fun _ => K I s h1 h2 h3 (bn1 h4) ?_) (fun h => absurd (by omega) h) (fun h => absurd (by omega) h) (fun h => absurd (by omega) h) (fun h => absurd (by omega) h) (fun h => absurd (by omega) h) (fun h => absurd (by omega) h) (fun h => absurd (by omega) h) (fun h => absurd (by omega) h) (fun h => absurd (by omega) h)
    have : gS β bv x (k + 1) = gS β bv x k + min 2001 (1 + tS β bv k 6) := by
      unfold gS
      rw [sumN, hb, if_pos rfl, if_neg hz]
    rw [this, h5]
    exact min_r _ _
  | succ n ih =>
    intro t s I ht h1 h2 h3 h4 h5
    have ht6 : t < 6 := by omega
    have lay : ¬ I 315 t = 0 → bL β t = true := fun h => by
      cases hl : bL β t with
      | true => rfl
      | false => exact absurd ((h3.lay ht6).mpr hl) h
    have htm := (h3.1 k hk).2.2 t ht6
    have hle : tmB β k t ≤ 96 := Nat.le_trans (tmN_le _) (hV.1 k hk).2.1
    have tm : I (335 + k) t ≤ 0 → tmB β k t = 0 := fun h => by
      rw [htm] at h
      rcases Nat.eq_zero_or_pos (tmB β k t) with h9 | h9
      · exact h9
      · exact absurd h (nI_nle h9 (by omega))
    have rk : ¬ I 315 t = 0 → ¬ I (335 + k) t ≤ 0 → ρ (bO β t) + 2 ≤ ρ c := fun a b => by
      have h9 : 0 < tmB β k t := by
        rcases Nat.eq_zero_or_pos (tmB β k t) with h9 | h9
        · exact absurd (by rw [htm, h9]; decide) b
        · exact h9
      have ho := (hV.2.1 t ht6 (lay a)).1
      have r1 := hρ k (24 + t) (by omega) (by omega) (ed_tm hV hk h9)
      have r2 := hρ (24 + t) (bO β t) (by omega) (by omega) (ed_out (lay a))
      omega
    have sk : bL β t = false ∨ tmB β k t = 0 → tS β bv k (t + 1) = tS β bv k t := fun h => by
      unfold tS
      rw [sumN]
      rcases h with h | h
      · rw [h, if_neg (by decide), Nat.add_zero]
      · rw [h, Nat.zero_mul, ite_self, Nat.add_zero]
    refine s184t hc hV hE hrec hk (by omega) hd (fun h => absurd h (by omega)) (fun _ a => ih (t + 1) s I (by omega) h1 h2 h3 (bn2 h4) (by rw [sk (Or.inl ((h3.lay ht6).mp a))]; exact h5)) (fun _ a b => ih (t + 1) s I (by omega) h1 h2 h3 (bn2 h4) (by rw [sk (Or.inr (tm b))]; exact h5)) (fun _ _ _ => ht6) (fun _ a _ => lay a) (fun _ a b => by have := rk a b; omega) (fun _ a b => by have := rk a b; omega) (fun _ _ _ => h2) (fun _ _ _ => h3) (fun _ a b J b5 j1 j2 j3 j4 j5 => ?_)
    rw [htm, nI_l (by omega), nI_l (by omega), lN_mul, lN_add]
    have hp : tmB β k t * b5 ≤ 96 * 1000000 := Nat.mul_le_mul hle j4
    refine ih (t + 1) _ J (by omega) (fun o o1 o2 => (j1 o o1 o2).trans (h1 o o1 o2)) j2 j3 (bn3 h4 hp) ?_
    have e : tS β bv k (t + 1) = tS β bv k t + tmB β k t * bv (24 + t) := by
      unfold tS
      rw [sumN, lay a, if_pos rfl]
    have e2 : min 2001 (tmB β k t * b5) = min 2001 (tmB β k t * bv (24 + t)) := by
      rw [← j5, Nat.mul_comm, Nat.mul_comm (tmB β k t) (min 2001 b5), min_mul]
    rw [e, ← Nat.add_assoc, ← Nat.add_assoc]
    refine min_ad ?_ e2
    rw [h5, Nat.add_assoc]
set_option maxRecDepth 20000 in
theorem l184o (hV : BV β) (hρ : ∀ u v, u < 30 → v < 30 → ed β u v = true → ρ v < ρ u) (hX : RcE β X) (hE : BuE β X bv) {c : Nat} (hc : c < 24) (hd : 2 * ρ c + 6 ≤ d) (hrec : BuC β bv ρ (ρ c)) {I0 : Nat → Nat → Int32} {x : Int32} (hx : ∀ k, k < 24 → bt x k = true → ρ k ≤ ρ c) (hb : bv c = min 2001 (gS β bv x 24))
    (hq : ∀ J b, (∀ o, o ≠ 361 → o ≠ 362 → J o = I0 o) → MBu bv J → RBN β J → b ≤ 1000000 → min 2001 b = bv c → Q (some (.int (nI b))) w1 (J, D, RR R)) :
    ∀ (n k s : Nat) (I : Nat → Nat → Int32), n + k = 24 → (∀ o, o ≠ 361 → o ≠ 362 → I o = I0 o) → MBu bv I → RBN β I → s ≤ k * 576000001 → min 2001 s = min 2001 (gS β bv x k) →
    j_W 184 d 0 0 0 0 40 [some (.ref 260), some (.int (nI c)), some (.long (lN s)), none, some (.int x), some (.int (nI k)), none] [] w1 (I, D, RR R) Q := by
  intro n
  induction n with
  | zero =>
    intro k s I hk h1 h2 h3 h4 h5
    have : k = 24 := by omega
    subst this
    refine s184o hc hV hE hrec (by omega) hd (fun _ => bn6 h4) (fun _ => by decide) (fun _ => ?_) (fun h => absurd (by omega) h) (fun h => absurd (by omega) h) (fun h => absurd (by omega) h)
    rw [lN_i]
    have hm : min 2001 (min s 1000000) = bv c := by rw [hb, ← h5]; exact bn7
    have hf : ∀ o, o ≠ 361 → o ≠ 362 → j_u (j_u I 361 c 1) 362 c (nI (min s 1000000)) o = I o := fun o o1 o2 => by funext i; rw [j_u_o _ _ _ o2, j_u_o _ _ _ o1]
    refine hq _ _ (fun o o1 o2 => (hf o o1 o2).trans (h1 o o1 o2)) (fun c' hc' h => ?_) (h3.put2 hf) (Nat.min_le_right _ _) hm
    by_cases e2 : c' = c
    · subst e2; exact ⟨_, Nat.min_le_right _ _, hm, by rw [j_u_same]⟩
    · rw [j_u_o _ _ _ (by decide), j_u_k _ _ e2] at h
      rw [j_u_k _ _ e2, j_u_o _ _ _ (by decide)]
      exact h2 c' hc' h
  | succ n ih =>
    intro k s I hk h1 h2 h3 h4 h5
    have hk24 : k < 24 := by omega
    have hz := (h3.1 k hk24).1
    have hz96 := (hV.1 k hk24).2.1
    refine s184o hc hV hE hrec (by omega) hd (fun h => absurd h (by omega)) (fun h => absurd h (by omega)) (fun h => absurd h (by omega)) (fun _ g => ?_) (fun _ g a => ?_) (fun _ g a => ?_)
    · have gb := (hn_0 (by omega)).mp g
      refine ih (k + 1) s I (by omega) h1 h2 h3 (bn4 h4) ?_
      rw [h5]
      unfold gS
      rw [sumN, gb, if_neg (by decide), Nat.add_zero]
    · have gb := n0_t (by omega) g
      have hz0 : bZ β k ≠ 0 := fun e => a (by rw [hz, e]; rfl)
      rw [lN_1]
      exact l184t hV hρ hE hc hd hrec hk24 (hx k hk24 gb) hz0 gb (fun I s k1 k2 k3 k4 k5 => ih (k + 1) s I (by omega) k1 k2 k3 k4 k5) 6 0 (s + 1) I rfl h1 h2 h3 (bn5 h4) (by
        rw [show tS β bv k 0 = 0 from rfl]
        exact min_ad h5 rfl)
    · have hz0 : bZ β k = 0 := by
        rw [hz] at a
        exact (nI_eq (b := 0) (by omega) (by decide)).mp a
      refine ih (k + 1) s I (by omega) h1 h2 h3 (bn4 h4) ?_
      rw [h5]
      unfold gS
      rw [sumN, if_pos hz0, ite_self, Nat.add_zero]
set_option maxRecDepth 20000 in
theorem buC (hV : BV β) (hρ : ∀ u v, u < 30 → v < 30 → ed β u v = true → ρ v < ρ u) (hX : RcE β X) (hE : BuE β X bv) : ∀ r, BuC β bv ρ r := by
  intro r
  induction r with
  | zero => intro d I D R Q c hc h; omega
  | succ r ih =>
    intro d I D R Q c hc hr hd h2 h3 hq
    have hrec : BuC β bv ρ (ρ c) := fun c' hc' hr' => ih c' hc' (by omega)
    have hz := (h3.1 c hc).1
    have hz96 := (hV.1 c hc).2.1
    refine s184e hc hd (fun _ _ => h3) (fun _ _ => hX) (fun _ _ => hV.2.2) (fun _ _ => hc) (fun a b x hx => ?_) (fun a b => ?_) (fun a => ?_)
    · have hz0 : bZ β c ≠ 0 := fun e => b (by rw [hz, e]; rfl)
      refine l184o hV hρ hX hE hc hd hrec (fun k hk hb => hX.rank hρ hc hk (by rw [← hx k (by omega)]; exact hb)) ?_ hq 24 0 0 I rfl (fun _ _ _ => rfl) h2 h3 (by omega) rfl
      rw [hE.1 c hc, if_neg hz0]
      unfold gS
      congr 1
      exact sumN_cg fun k hk => by rw [hx k (by omega)]; rfl
    · have hz0 : bZ β c = 0 := by
        rw [hz] at b
        exact (nI_eq (b := 0) (by omega) (by decide)).mp b
      refine l184o hV hρ hX hE hc hd hrec (fun k hk hb => by rw [b_0] at hb; cases hb) ?_ hq 24 0 0 I rfl (fun _ _ _ => rfl) h2 h3 (by omega) rfl
      rw [hE.1 c hc, if_pos hz0]
      have : gS β bv 0 24 = 0 := by
        have : gS β bv 0 24 = sumN 24 fun _ => 0 := sumN_cg fun k hk => by rw [b_0, if_neg (by decide)]
        rw [this]; rfl
      rw [this]; rfl
    · obtain ⟨b, b1, b2, b3⟩ := h2 c hc a
      rw [b3]; exact hq I b (fun _ _ _ => rfl) h2 h3 b1 b2
end BV2
