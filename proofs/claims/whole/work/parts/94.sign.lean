/-! the reference: signs and words -/
set_option maxRecDepth 10000 in
set_option maxHeartbeats 4000000 in
theorem s187 {d : Nat} {I : Nat → Nat → Int32} {D : Nat → Nat → UInt64} {R : Nat → Nat → Option Nat} {Q : j_Po} {a : Int32} {b : Int32}   (hd : 0 ≤ d)
    (v1 : (b < a) → Q (some (.int b)) w1 (I, D, RR R))
    (v2 : (¬ b < a) → Q (some (.int a)) w1 (I, D, RR R)) : j_Call d 187 [.int a, .int b] w1 (I, D, RR R) 0 0 Q := by
  refine q_enter (L := [some (.int a), some (.int b)]) j_m187 (Nat.le_of_ble_eq_true rfl) rfl ?_
  refine q_iload_n d187_0 rfl ?_
  refine q_iload_n d187_1 rfl ?_
  refine q_icmp_gt (tgt := 9) d187_2 rfl (fun h1t => ?_) (fun h1f => ?_)
  ·
    refine q_iload_n d187_9 rfl ?_
    exact q_iret d187_10 rfl (Nat.le_refl _) (Nat.le_refl _) (v1 h1t)
  ·
    refine q_iload_n d187_5 rfl ?_
    refine q_goto (tgt := 10) d187_6 rfl ?_
    exact q_iret d187_10 rfl (Nat.le_refl _) (Nat.le_refl _) (v2 h1f)

set_option maxRecDepth 10000 in
set_option maxHeartbeats 4000000 in
theorem s222 {d : Nat} {I : Nat → Nat → Int32} {D : Nat → Nat → UInt64} {R : Nat → Nat → Option Nat} {Q : j_Po} {a : Int32} {b : Int32}   (hd : 0 ≤ d)
    (v1 : (a < b) → Q (some (.int b)) w1 (I, D, RR R))
    (v2 : (¬ a < b) → Q (some (.int a)) w1 (I, D, RR R)) : j_Call d 222 [.int a, .int b] w1 (I, D, RR R) 0 0 Q := by
  refine q_enter (L := [some (.int a), some (.int b)]) j_m222 (Nat.le_of_ble_eq_true rfl) rfl ?_
  refine q_iload_n d222_0 rfl ?_
  refine q_iload_n d222_1 rfl ?_
  refine q_icmp_lt (tgt := 9) d222_2 rfl (fun h1t => ?_) (fun h1f => ?_)
  ·
    refine q_iload_n d222_9 rfl ?_
    exact q_iret d222_10 rfl (Nat.le_refl _) (Nat.le_refl _) (v1 h1t)
  ·
    refine q_iload_n d222_5 rfl ?_
    refine q_goto (tgt := 10) d222_6 rfl ?_
    exact q_iret d222_10 rfl (Nat.le_refl _) (Nat.le_refl _) (v2 h1f)

set_option maxRecDepth 10000 in
set_option maxHeartbeats 4000000 in
theorem s221 {d : Nat} {I : Nat → Nat → Int32} {D : Nat → Nat → UInt64} {R : Nat → Nat → Option Nat} {Q : j_Po} {c : Nat}  (hc : c < 256) (hd : 0 ≤ d)
    (v1 : ((nI c) < 0) → Q (some (.int 0)) w1 (I, D, RR R))
    (v2 : (¬ (nI c) < 0) → (255 < c) → Q (some (.int 0)) w1 (I, D, RR R))
    (v3 : (¬ (nI c) < 0) → (¬ 255 < c) → Q (some (.int 1)) w1 (I, D, RR R)) : j_Call d 221 [.int (nI c)] w1 (I, D, RR R) 0 0 Q := by
  refine q_enter (L := [some (.int (nI c))]) j_m221 (Nat.le_of_ble_eq_true rfl) rfl ?_
  refine q_iload_n d221_0 rfl ?_
  refine q_if_lt (tgt := 15) d221_1 rfl (fun h1t => ?_) (fun h1f => ?_)
  ·
    refine q_iconst (v := 0) (by decide) d221_15 ?_
    exact q_zret d221_16 rfl (Or.inl rfl) (Nat.le_refl _) (Nat.le_refl _) (v1 h1t)
  ·
    refine q_iload_n d221_4 rfl ?_
    refine q_sipush (v := 255) (by decide) d221_5 ?_
    refine q_icmp_gt (tgt := 15) d221_8 rfl (fun h2t => ?_) (fun h2f => ?_)
    ·
      have h2tc : 255 < c := (nI_ltI (by omega) (by omega)).mp h2t
      refine q_iconst (v := 0) (by decide) d221_15 ?_
      exact q_zret d221_16 rfl (Or.inl rfl) (Nat.le_refl _) (Nat.le_refl _) (v2 h1f h2tc)
    ·
      have h2fc : ¬ 255 < c := mt (nI_ltI (by omega) (by omega)).mpr h2f
      refine q_iconst (v := 1) (by decide) d221_11 ?_
      refine q_goto (tgt := 16) d221_12 rfl ?_
      exact q_zret d221_16 rfl (Or.inr rfl) (Nat.le_refl _) (Nat.le_refl _) (v3 h1f h2fc)

set_option maxRecDepth 10000 in
set_option maxHeartbeats 4000000 in
theorem s223e {d : Nat} {I : Nat → Nat → Int32} {D : Nat → Nat → UInt64} {R : Nat → Nat → Option Nat} {Q : j_Po} {c : Nat} {i : Nat} {n : Nat}   (hd : 0 ≤ d)
    (v1 : j_W 223 d 0 0 0 0 7 [some (.ref (1000000 + (2 * 8 + 1))), some (.int (nI c)), some (.int (nI i)), some (.int (nI n)), some (.int (((nI c) : Int32).toInt8.toInt32)), some (.int (nI i))] [] w1 (I, D, RR R) Q) : j_Call d 223 [.ref (1000000 + (2 * 8 + 1)), .int (nI c), .int (nI i), .int (nI n)] w1 (I, D, RR R) 0 0 Q := by
  refine q_enter (L := [some (.ref (1000000 + (2 * 8 + 1))), some (.int (nI c)), some (.int (nI i)), some (.int (nI n)), none, none]) j_m223 (Nat.le_of_ble_eq_true rfl) rfl ?_
  refine q_iload_n d223_0 rfl ?_
  refine q_i2b d223_1 ?_
  refine q_istore (L' := [some (.ref (1000000 + (2 * 8 + 1))), some (.int (nI c)), some (.int (nI i)), some (.int (nI n)), some (.int (((nI c) : Int32).toInt8.toInt32)), none]) d223_2 (Nat.le_of_ble_eq_true rfl) rfl ?_
  refine q_iload_n d223_4 rfl ?_
  refine q_istore (L' := [some (.ref (1000000 + (2 * 8 + 1))), some (.int (nI c)), some (.int (nI i)), some (.int (nI n)), some (.int (((nI c) : Int32).toInt8.toInt32)), some (.int (nI i))]) d223_5 (Nat.le_of_ble_eq_true rfl) rfl ?_
  exact r_sub (L' := [some (.ref (1000000 + (2 * 8 + 1))), some (.int (nI c)), some (.int (nI i)), some (.int (nI n)), some (.int (((nI c) : Int32).toInt8.toInt32)), some (.int (nI i))]) ⟨rfl, rfl, rfl, rfl, rfl, rfl, trivial⟩ v1

set_option maxRecDepth 10000 in
set_option maxHeartbeats 4000000 in
theorem s223h {d : Nat} {I : Nat → Nat → Int32} {D : Nat → Nat → UInt64} {R : Nat → Nat → Option Nat} {Q : j_Po} {c : Nat} {i : Nat} {n : Nat} {e : Int32} {k : Nat}  (hk : k ≤ 10) (hn : n = 10) (hd : 0 ≤ d)
    (v1 : (n ≤ k) → Q (some (.int (-1))) w1 (I, D, RR R))
    (v2 : (¬ n ≤ k) → k < j_len.getD 8 0)
    (v3 : (¬ n ≤ k) → (¬ ((j_byt.getD 8 []).getD k 0) = e) → j_W 223 d 0 0 0 0 7 [some (.ref (1000000 + (2 * 8 + 1))), some (.int (nI c)), some (.int (nI i)), some (.int (nI n)), some (.int e), some (.int (nI (k + 1)))] [] w1 (I, D, RR R) Q)
    (v4 : (¬ n ≤ k) → (((j_byt.getD 8 []).getD k 0) = e) → Q (some (.int (nI k))) w1 (I, D, RR R)) : j_W 223 d 0 0 0 0 7 [some (.ref (1000000 + (2 * 8 + 1))), some (.int (nI c)), some (.int (nI i)), some (.int (nI n)), some (.int e), some (.int (nI k))] [] w1 (I, D, RR R) Q := by
  refine q_iload d223_7 rfl ?_
  refine q_iload_n d223_9 rfl ?_
  refine q_icmp_ge (tgt := 31) d223_10 rfl (fun h1t => ?_) (fun h1f => ?_)
  ·
    have h1tc : n ≤ k := (nI_leI (by omega) (by omega)).mp h1t
    refine q_iconst (v := (-1)) (by decide) d223_31 ?_
    exact q_iret d223_32 rfl (Nat.le_refl _) (Nat.le_refl _) (v1 h1tc)
  ·
    have h1fc : ¬ n ≤ k := mt (nI_leI (by omega) (by omega)).mpr h1f
    refine q_aload_n d223_13 rfl ?_
    refine q_iload d223_14 rfl ?_
    refine q_sbaload (q := 8) (a := k) d223_16 (by decide : 8 < 9) rfl (v2 h1fc) ?_
    refine q_iload d223_17 rfl ?_
    refine q_icmp_ne (tgt := 25) d223_19 rfl (fun h2t => ?_) (fun h2f => ?_)
    ·
      refine q_iinc (L' := [some (.ref (1000000 + (2 * 8 + 1))), some (.int (nI c)), some (.int (nI i)), some (.int (nI n)), some (.int e), some (.int (nI (k + 1)))]) (v := (nI (k + 1))) d223_25 rfl (nI_inc _) rfl ?_
      refine q_goto (tgt := 7) d223_28 rfl ?_
      exact r_sub (L' := [some (.ref (1000000 + (2 * 8 + 1))), some (.int (nI c)), some (.int (nI i)), some (.int (nI n)), some (.int e), some (.int (nI (k + 1)))]) ⟨rfl, rfl, rfl, rfl, rfl, rfl, trivial⟩ (v3 h1fc h2t)
    ·
      refine q_iload d223_22 rfl ?_
      exact q_iret d223_24 rfl (Nat.le_refl _) (Nat.le_refl _) (v4 h1fc h2f)

section SG
variable {d : Nat} {I : Nat → Nat → Int32} {D : Nat → Nat → UInt64} {R : Nat → Nat → Option Nat} {Q : j_Po} {c : Nat}
theorem sg_k {c k : Nat} (hc : c < 256) (hk : k < 10) : ((j_byt.getD 8 []).getD k 0 = (nI c).toInt8.toInt32) ↔ c = wb 8 k := by
  have h : ∀ k, k < 10 → ∀ c, c < 256 → (((j_byt.getD 8 []).getD k 0 = (nI c).toInt8.toInt32) ↔ c = wb 8 k) := by decide +kernel
  exact h k hk c hc
theorem sg_iff {c : Nat} : isSg c ↔ ∃ k, k < 10 ∧ c = wb 8 k := by
  have h : ∀ k, k < 10 → isSg (wb 8 k) := by unfold isSg; decide +kernel
  constructor
  · intro h
    have e : wb 8 0 = 40 ∧ wb 8 1 = 41 ∧ wb 8 2 = 44 ∧ wb 8 3 = 43 ∧ wb 8 4 = 45 ∧ wb 8 5 = 42 ∧ wb 8 6 = 47 ∧ wb 8 7 = 37 ∧ wb 8 8 = 60 ∧ wb 8 9 = 61 := by decide +kernel
    obtain ⟨e0, e1, e2, e3, e4, e5, e6, e7, e8, e9⟩ := e
    rcases h with h | h | h | h | h | h | h | h | h | h
    · exact ⟨0, by decide, by rw [h, e0]⟩
    · exact ⟨1, by decide, by rw [h, e1]⟩
    · exact ⟨2, by decide, by rw [h, e2]⟩
    · exact ⟨3, by decide, by rw [h, e3]⟩
    · exact ⟨4, by decide, by rw [h, e4]⟩
    · exact ⟨5, by decide, by rw [h, e5]⟩
    · exact ⟨6, by decide, by rw [h, e6]⟩
    · exact ⟨7, by decide, by rw [h, e7]⟩
    · exact ⟨8, by decide, by rw [h, e8]⟩
    · exact ⟨9, by decide, by rw [h, e9]⟩
  · rintro ⟨k, hk, rfl⟩
    exact h k hk
theorem len8 : j_len.getD 8 0 = 10 := by decide
theorem c221 (hc : c < 256) (hq : Q (some (.int 1)) w1 (I, D, RR R)) : j_Call d 221 [.int (nI c)] w1 (I, D, RR R) 0 0 Q :=
  s221 hc (Nat.zero_le _) (fun h => absurd h (nI_n0 (by omega))) (fun _ h => by omega) (fun _ _ => hq)
theorem c223 (hc : c < 256) (h1 : ∀ k, k < 10 → isSg c → Q (some (.int (nI k))) w1 (I, D, RR R)) (h0 : ¬ isSg c → Q (some (.int (-1))) w1 (I, D, RR R)) : j_Call d 223 [.ref (1000000 + (2 * 8 + 1)), .int (nI c), .int (nI 0), .int (nI 10)] w1 (I, D, RR R) 0 0 Q := by
  have loop : ∀ z k, k ≤ 10 → 10 - k = z → (∀ j, j < k → c ≠ wb 8 j) → j_W 223 d 0 0 0 0 7 [some (.ref (1000000 + (2 * 8 + 1))), some (.int (nI c)), some (.int (nI 0)), some (.int (nI 10)), some (.int (nI c).toInt8.toInt32), some (.int (nI k))] [] w1 (I, D, RR R) Q := fun z => by
    induction z with
    | zero =>
      intro k hk hz hn
      have : k = 10 := by omega
      subst this
      refine s223h (Nat.le_refl _) rfl (Nat.zero_le _) (fun _ => h0 (fun hs => ?_)) (fun h => absurd (Nat.le_refl _) h) (fun h => absurd (Nat.le_refl _) h) (fun h => absurd (Nat.le_refl _) h)
      obtain ⟨j, hj, e⟩ := sg_iff.mp hs
      exact hn j hj e
    | succ z ih =>
      intro k hk hz hn
      have hlt : k < 10 := by omega
      refine s223h hk rfl (Nat.zero_le _) (fun h => by omega) (fun _ => by rw [len8]; exact hlt) (fun _ h => ih (k + 1) (by omega) (by omega) (fun j hj => ?_)) (fun _ h => h1 k hlt (sg_iff.mpr ⟨k, hlt, (sg_k hc hlt).mp h⟩))
      by_cases e : j = k
      · subst e; exact fun e2 => h ((sg_k hc hlt).mpr e2)
      · exact hn j (by omega)
  exact s223e (Nat.zero_le _) (loop _ 0 (by decide) rfl (fun j hj => absurd hj (Nat.not_lt_zero _)))
end SG
set_option maxRecDepth 10000 in
set_option maxHeartbeats 4000000 in
theorem s220 {d : Nat} {I : Nat → Nat → Int32} {D : Nat → Nat → UInt64} {R : Nat → Nat → Option Nat} {Q : j_Po} {c : Nat}  (hc : c < 256) (hl8 : j_len.getD 8 0 = 10) (hd : 1 ≤ d)
    (v1 : c < 256)
    (v2 : ((Int32.ofNat (j_len.getD 8 0)) < (10 : Int32)) → (0 < (j_len.getD 8 0)) → ∀ k6 : Nat, (k6 < 10) → (isSg c) → Q (some (.int (nI k6))) w1 (I, D, RR R))
    (v3 : ((Int32.ofNat (j_len.getD 8 0)) < (10 : Int32)) → (0 < (j_len.getD 8 0)) → (¬ isSg c) → Q (some (.int (-1))) w1 (I, D, RR R))
    (v4 : ((Int32.ofNat (j_len.getD 8 0)) < (10 : Int32)) → (¬ 0 < (j_len.getD 8 0)) → Q (some (.int (-1))) w1 (I, D, RR R))
    (v5 : (¬ (Int32.ofNat (j_len.getD 8 0)) < (10 : Int32)) → ∀ k9 : Nat, (k9 < 10) → (isSg c) → Q (some (.int (nI k9))) w1 (I, D, RR R))
    (v6 : (¬ (Int32.ofNat (j_len.getD 8 0)) < (10 : Int32)) → (¬ isSg c) → Q (some (.int (-1))) w1 (I, D, RR R)) : j_Call d 220 [.ref (1000000 + (2 * 8 + 1)), .int (nI c), .int 0, .int 10] w1 (I, D, RR R) 0 0 Q := by
  refine q_enter (L := [some (.ref (1000000 + (2 * 8 + 1))), some (.int (nI c)), some (.int 0), some (.int 10)]) j_m220 (Nat.le_of_ble_eq_true rfl) rfl ?_
  refine q_iload_n d220_0 rfl ?_
  refine q_invS (av := [.int (nI c)]) (rest := []) (d' := 0) (mc' := 0) (ms' := 0) d220_1 (cv14_88 220 rfl) rfl rfl (by omega) (Nat.le_of_ble_eq_true rfl) (Nat.le_of_ble_eq_true rfl) (Nat.le_refl _) (Nat.le_refl _) ?_
  refine c221 v1 ?_
  show j_W 220 d 0 0 0 0 4 [some (.ref (1000000 + (2 * 8 + 1))), some (.int (nI c)), some (.int 0), some (.int 10)] [.int 1] w1 (I, D, RR R) Q
  refine q_if_ne (tgt := 9) d220_4 rfl (fun _ => ?_) (fun h => absurd h (by decide))
  refine q_iload_n d220_9 rfl ?_
  refine q_iconst (v := 0) (by decide) d220_10 ?_
  refine q_invS (av := [.int 0, .int 0]) (rest := []) (d' := 0) (mc' := 0) (ms' := 0) d220_11 (cv14_92 220 rfl) rfl rfl (by omega) (Nat.le_of_ble_eq_true rfl) (Nat.le_of_ble_eq_true rfl) (Nat.le_refl _) (Nat.le_refl _) ?_
  refine s222   (Nat.le_refl _) (fun c1 => False.elim (by exact absurd c1 (by decide))) (fun c2 => ?_)
  show j_W 220 d 0 0 0 0 14 [some (.ref (1000000 + (2 * 8 + 1))), some (.int (nI c)), some (.int 0), some (.int 10)] [.int 0] w1 (I, D, RR R) Q
  refine q_istore_n (L' := [some (.ref (1000000 + (2 * 8 + 1))), some (.int (nI c)), some (.int 0), some (.int 10)]) d220_14 (Nat.le_of_ble_eq_true rfl) rfl ?_
  refine q_iload_n d220_15 rfl ?_
  refine q_aload_n d220_16 rfl ?_
  refine q_sblen (q := 8) d220_17 (by decide : 8 < 9) ?_
  refine q_invS (av := [.int 10, .int (Int32.ofNat (j_len.getD 8 0))]) (rest := []) (d' := 0) (mc' := 0) (ms' := 0) d220_18 (cv14_38 220 rfl) rfl rfl (by omega) (Nat.le_of_ble_eq_true rfl) (Nat.le_of_ble_eq_true rfl) (Nat.le_refl _) (Nat.le_refl _) ?_
  refine s187   (Nat.le_refl _) (fun c3 => ?_) (fun c4 => ?_)
  ·
    show j_W 220 d 0 0 0 0 21 [some (.ref (1000000 + (2 * 8 + 1))), some (.int (nI c)), some (.int 0), some (.int 10)] [.int (Int32.ofNat (j_len.getD 8 0))] w1 (I, D, RR R) Q
    refine q_istore_n (L' := [some (.ref (1000000 + (2 * 8 + 1))), some (.int (nI c)), some (.int 0), some (.int (Int32.ofNat (j_len.getD 8 0)))]) d220_21 (Nat.le_of_ble_eq_true rfl) rfl ?_
    refine q_iload_n d220_22 rfl ?_
    refine q_iload_n d220_23 rfl ?_
    refine q_icmp_lt (tgt := 29) d220_24 rfl (fun h5t => ?_) (fun h5f => ?_)
    ·
      have h5tc : 0 < (j_len.getD 8 0) := (nI_ltI (by omega) (by omega)).mp h5t
      refine q_aload_n d220_29 rfl ?_
      refine q_iload_n d220_30 rfl ?_
      refine q_iload_n d220_31 rfl ?_
      refine q_iload_n d220_32 rfl ?_
      refine q_invS (av := [.ref (1000000 + (2 * 8 + 1)), .int (nI c), .int 0, .int (Int32.ofNat (j_len.getD 8 0))]) (rest := []) (d' := 0) (mc' := 0) (ms' := 0) d220_33 (cv14_95 220 rfl) rfl rfl (by omega) (Nat.le_of_ble_eq_true rfl) (Nat.le_of_ble_eq_true rfl) (Nat.le_refl _) (Nat.le_refl _) ?_
      refine c223 v1 (fun k6 h7 h8 => ?_) (fun h7 => ?_)
      ·
        show j_W 220 d 0 0 0 0 36 [some (.ref (1000000 + (2 * 8 + 1))), some (.int (nI c)), some (.int 0), some (.int (Int32.ofNat (j_len.getD 8 0)))] [.int (nI k6)] w1 (I, D, RR R) Q
        exact q_iret d220_36 rfl (Nat.le_refl _) (Nat.le_refl _) (v2 c3 h5tc k6 h7 h8)
      ·
        show j_W 220 d 0 0 0 0 36 [some (.ref (1000000 + (2 * 8 + 1))), some (.int (nI c)), some (.int 0), some (.int (Int32.ofNat (j_len.getD 8 0)))] [.int (-1)] w1 (I, D, RR R) Q
        exact q_iret d220_36 rfl (Nat.le_refl _) (Nat.le_refl _) (v3 c3 h5tc h7)
    ·
      have h5fc : ¬ 0 < (j_len.getD 8 0) := mt (nI_ltI (by omega) (by omega)).mpr h5f
      refine q_iconst (v := (-1)) (by decide) d220_27 ?_
      exact q_iret d220_28 rfl (Nat.le_refl _) (Nat.le_refl _) (v4 c3 h5fc)
  ·
    show j_W 220 d 0 0 0 0 21 [some (.ref (1000000 + (2 * 8 + 1))), some (.int (nI c)), some (.int 0), some (.int 10)] [.int 10] w1 (I, D, RR R) Q
    refine q_istore_n (L' := [some (.ref (1000000 + (2 * 8 + 1))), some (.int (nI c)), some (.int 0), some (.int 10)]) d220_21 (Nat.le_of_ble_eq_true rfl) rfl ?_
    refine q_iload_n d220_22 rfl ?_
    refine q_iload_n d220_23 rfl ?_
    refine q_icmp_lt (tgt := 29) d220_24 rfl (fun _ => ?_) (fun h => absurd h (by decide))
    refine q_aload_n d220_29 rfl ?_
    refine q_iload_n d220_30 rfl ?_
    refine q_iload_n d220_31 rfl ?_
    refine q_iload_n d220_32 rfl ?_
    refine q_invS (av := [.ref (1000000 + (2 * 8 + 1)), .int (nI c), .int 0, .int 10]) (rest := []) (d' := 0) (mc' := 0) (ms' := 0) d220_33 (cv14_95 220 rfl) rfl rfl (by omega) (Nat.le_of_ble_eq_true rfl) (Nat.le_of_ble_eq_true rfl) (Nat.le_refl _) (Nat.le_refl _) ?_
    refine c223 v1 (fun k9 h10 h11 => ?_) (fun h10 => ?_)
    ·
      show j_W 220 d 0 0 0 0 36 [some (.ref (1000000 + (2 * 8 + 1))), some (.int (nI c)), some (.int 0), some (.int 10)] [.int (nI k9)] w1 (I, D, RR R) Q
      exact q_iret d220_36 rfl (Nat.le_refl _) (Nat.le_refl _) (v5 c4 k9 h10 h11)
    ·
      show j_W 220 d 0 0 0 0 36 [some (.ref (1000000 + (2 * 8 + 1))), some (.int (nI c)), some (.int 0), some (.int 10)] [.int (-1)] w1 (I, D, RR R) Q
      exact q_iret d220_36 rfl (Nat.le_refl _) (Nat.le_refl _) (v6 c4 h10)

theorem c220 {d : Nat} {I : Nat → Nat → Int32} {D : Nat → Nat → UInt64} {R : Nat → Nat → Option Nat} {Q : j_Po} {c : Nat} (hc : c < 256) (hd : 1 ≤ d) (h1 : ∀ k, k < 10 → isSg c → Q (some (.int (nI k))) w1 (I, D, RR R)) (h0 : ¬ isSg c → Q (some (.int (-1))) w1 (I, D, RR R)) : j_Call d 220 [.ref (1000000 + (2 * 8 + 1)), .int (nI c), .int 0, .int (nI (j_len.getD 8 0))] w1 (I, D, RR R) 0 0 Q := by
  have hlt : ¬ (Int32.ofNat (j_len.getD 8 0)) < (10 : Int32) := by decide
  exact s220 hc len8 hd hc (fun h => absurd h hlt) (fun h => absurd h hlt) (fun h => absurd h hlt) (fun _ k h2 h3 => h1 k h2 h3) (fun _ h => h0 h)
set_option maxRecDepth 10000 in
set_option maxHeartbeats 4000000 in
theorem s219 {d : Nat} {I : Nat → Nat → Int32} {D : Nat → Nat → UInt64} {R : Nat → Nat → Option Nat} {Q : j_Po} {c : Nat}  (hc : c < 256) (hd : 2 ≤ d)
    (v1 : c < 256)
    (v2 : 1 ≤ 1)
    (v3 : ∀ k1 : Nat, (k1 < 10) → (isSg c) → Q (some (.int (nI k1))) w1 (I, D, RR R))
    (v4 : (¬ isSg c) → Q (some (.int (-1))) w1 (I, D, RR R)) : j_Call d 219 [.ref (1000000 + 2 * 8), .int (nI c), .int 0] w1 (I, D, RR R) 0 0 Q := by
  refine q_enter (L := [some (.ref (1000000 + 2 * 8)), some (.int (nI c)), some (.int 0)]) j_m219 (Nat.le_of_ble_eq_true rfl) rfl ?_
  refine q_aload_n d219_0 rfl ?_
  refine q_invStr (q := 8) (av := []) (rest := []) (d' := 0) d219_1 (cv13_492 219 rfl) rfl (by decide : 8 < 9) rfl rfl (by omega) (Nat.le_of_ble_eq_true rfl) (Nat.le_of_ble_eq_true rfl) (Nat.le_refl _) (Nat.le_refl _) ?_
  refine s75 (q := 8) (by decide : 8 < 9) (Nat.le_refl _) ?_
  show j_W 219 d 0 0 0 0 4 [some (.ref (1000000 + 2 * 8)), some (.int (nI c)), some (.int 0)] [.int 1] w1 (I, D, RR R) Q
  refine q_if_eq (tgt := 23) d219_4 rfl (fun h => absurd h (by decide)) (fun _ => ?_)
  refine q_aload_n d219_7 rfl ?_
  refine q_sval (q := 8) d219_8 (by decide : 8 < 9) (j_i8 132 rfl) ?_
  refine q_iload_n d219_11 rfl ?_
  refine q_iload_n d219_12 rfl ?_
  refine q_aload_n d219_13 rfl ?_
  refine q_invStr (q := 8) (av := []) (rest := [.int 0, .int (nI c), .ref (1000000 + (2 * 8 + 1))]) (d' := 1) d219_14 (cv13_505 219 rfl) rfl (by decide : 8 < 9) rfl rfl (by omega) (Nat.le_of_ble_eq_true rfl) (Nat.le_of_ble_eq_true rfl) (Nat.le_refl _) (Nat.le_refl _) ?_
  refine c72 (by decide : 8 < 9) (Nat.le_refl _)  ?_
  show j_W 219 d 0 0 0 0 17 [some (.ref (1000000 + 2 * 8)), some (.int (nI c)), some (.int 0)] [.int (nI (j_len.getD 8 0)), .int 0, .int (nI c), .ref (1000000 + (2 * 8 + 1))] w1 (I, D, RR R) Q
  refine q_invS (av := [.ref (1000000 + (2 * 8 + 1)), .int (nI c), .int 0, .int (nI (j_len.getD 8 0))]) (rest := []) (d' := 1) (mc' := 0) (ms' := 0) d219_17 (cv13_637 219 rfl) rfl rfl (by omega) (Nat.le_of_ble_eq_true rfl) (Nat.le_of_ble_eq_true rfl) (Nat.le_refl _) (Nat.le_refl _) ?_
  refine c220 v1 v2 (fun k1 h2 h3 => ?_) (fun h2 => ?_)
  ·
    show j_W 219 d 0 0 0 0 20 [some (.ref (1000000 + 2 * 8)), some (.int (nI c)), some (.int 0)] [.int (nI k1)] w1 (I, D, RR R) Q
    refine q_goto (tgt := 36) d219_20 rfl ?_
    exact q_iret d219_36 rfl (Nat.le_refl _) (Nat.le_refl _) (v3 k1 h2 h3)
  ·
    show j_W 219 d 0 0 0 0 20 [some (.ref (1000000 + 2 * 8)), some (.int (nI c)), some (.int 0)] [.int (-1)] w1 (I, D, RR R) Q
    refine q_goto (tgt := 36) d219_20 rfl ?_
    exact q_iret d219_36 rfl (Nat.le_refl _) (Nat.le_refl _) (v4 h2)

theorem c219 {d : Nat} {I : Nat → Nat → Int32} {D : Nat → Nat → UInt64} {R : Nat → Nat → Option Nat} {Q : j_Po} {c : Nat} (hc : c < 256) (hd : 2 ≤ d) (h1 : ∀ k, k < 10 → isSg c → Q (some (.int (nI k))) w1 (I, D, RR R)) (h0 : ¬ isSg c → Q (some (.int (-1))) w1 (I, D, RR R)) : j_Call d 219 [.ref (1000000 + 2 * 8), .int (nI c), .int 0] w1 (I, D, RR R) 0 0 Q :=
  s219 hc hd hc (Nat.le_refl _) (fun k h2 h3 => h1 k h2 h3) (fun h => h0 h)
set_option maxRecDepth 10000 in
set_option maxHeartbeats 4000000 in
theorem s218 {d : Nat} {I : Nat → Nat → Int32} {D : Nat → Nat → UInt64} {R : Nat → Nat → Option Nat} {Q : j_Po} {c : Nat}  (hc : c < 256) (hd : 3 ≤ d)
    (v1 : c < 256)
    (v2 : 2 ≤ 2)
    (v3 : ∀ k1 : Nat, (k1 < 10) → (isSg c) → Q (some (.int (nI k1))) w1 (I, D, RR R))
    (v4 : (¬ isSg c) → Q (some (.int (-1))) w1 (I, D, RR R)) : j_Call d 218 [.ref (1000000 + 2 * 8), .int (nI c)] w1 (I, D, RR R) 0 0 Q := by
  refine q_enter (L := [some (.ref (1000000 + 2 * 8)), some (.int (nI c))]) j_m218 (Nat.le_of_ble_eq_true rfl) rfl ?_
  refine q_aload_n d218_0 rfl ?_
  refine q_iload_n d218_1 rfl ?_
  refine q_iconst (v := 0) (by decide) d218_2 ?_
  refine q_invStr (q := 8) (av := [.int (nI c), .int 0]) (rest := []) (d' := 2) d218_3 (cv13_633 218 rfl) rfl (by decide : 8 < 9) rfl rfl (by omega) (Nat.le_of_ble_eq_true rfl) (Nat.le_of_ble_eq_true rfl) (Nat.le_refl _) (Nat.le_refl _) ?_
  refine c219 v1 v2 (fun k1 h2 h3 => ?_) (fun h2 => ?_)
  ·
    show j_W 218 d 0 0 0 0 6 [some (.ref (1000000 + 2 * 8)), some (.int (nI c))] [.int (nI k1)] w1 (I, D, RR R) Q
    exact q_iret d218_6 rfl (Nat.le_refl _) (Nat.le_refl _) (v3 k1 h2 h3)
  ·
    show j_W 218 d 0 0 0 0 6 [some (.ref (1000000 + 2 * 8)), some (.int (nI c))] [.int (-1)] w1 (I, D, RR R) Q
    exact q_iret d218_6 rfl (Nat.le_refl _) (Nat.le_refl _) (v4 h2)

theorem c218 {d : Nat} {I : Nat → Nat → Int32} {D : Nat → Nat → UInt64} {R : Nat → Nat → Option Nat} {Q : j_Po} {c : Nat} (hc : c < 256) (hd : 3 ≤ d) (h1 : ∀ k, k < 10 → isSg c → Q (some (.int (nI k))) w1 (I, D, RR R)) (h0 : ¬ isSg c → Q (some (.int (-1))) w1 (I, D, RR R)) : j_Call d 218 [.ref (1000000 + 2 * 8), .int (nI c)] w1 (I, D, RR R) 0 0 Q :=
  s218 hc hd hc (Nat.le_refl _) (fun k h2 h3 => h1 k h2 h3) (fun h => h0 h)
