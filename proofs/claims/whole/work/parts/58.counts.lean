/-! what is counted -/
set_option maxRecDepth 10000 in
set_option maxHeartbeats 4000000 in
theorem s155e {d : Nat} {I : Nat → Nat → Int32} {D : Nat → Nat → UInt64} {R : Nat → Nat → Option Nat} {Q : j_Po}   (hR : WFR R) (hd : 1 ≤ d)
    (v1 : j_W 155 d 0 0 0 0 4 [some (.ref 108), some (.int 0), some (.int 0)] [] w1 (I, D, RR R) Q) : j_Call d 155 [.ref 108] w1 (I, D, RR R) 0 0 Q := by
  refine q_enter (L := [some (.ref 108), none, none]) j_m155 (Nat.le_of_ble_eq_true rfl) rfl ?_
  refine q_iconst (v := 0) (by decide) d155_0 ?_
  refine q_istore_n (L' := [some (.ref 108), some (.int 0), none]) d155_1 (Nat.le_of_ble_eq_true rfl) rfl ?_
  refine q_iconst (v := 0) (by decide) d155_2 ?_
  refine q_istore_n (L' := [some (.ref 108), some (.int 0), some (.int 0)]) d155_3 (Nat.le_of_ble_eq_true rfl) rfl ?_
  exact r_sub (L' := [some (.ref 108), some (.int 0), some (.int 0)]) ⟨rfl, rfl, rfl, trivial⟩ v1

set_option maxRecDepth 10000 in
set_option maxHeartbeats 4000000 in
theorem s155h {d : Nat} {I : Nat → Nat → Int32} {D : Nat → Nat → UInt64} {R : Nat → Nat → Option Nat} {Q : j_Po} {m : Nat} {k : Nat}  (hR : WFR R) (hk : k ≤ 24) (hm : m ≤ k) (hd : 1 ≤ d)
    (v1 : (24 ≤ k) → Q (some (.int (nI m))) w1 (I, D, RR R))
    (v2 : (¬ 24 ≤ k) → ((I ((R 112 k).getD 0) 1) ≤ 0) → j_W 155 d 0 0 0 0 4 [some (.ref 108), some (.int (nI m)), some (.int (nI (k + 1)))] [] w1 (I, D, RR R) Q)
    (v3 : (¬ 24 ≤ k) → (¬ (I ((R 112 k).getD 0) 1) ≤ 0) → j_W 155 d 0 0 0 0 4 [some (.ref 108), some (.int (nI (m + 1))), some (.int (nI (k + 1)))] [] w1 (I, D, RR R) Q) : j_W 155 d 0 0 0 0 4 [some (.ref 108), some (.int (nI m)), some (.int (nI k))] [] w1 (I, D, RR R) Q := by
  refine q_iload_n d155_4 rfl ?_
  refine q_bipush (v := 24) (by decide) d155_5 ?_
  refine q_icmp_ge (tgt := 27) d155_7 rfl (fun h1t => ?_) (fun h1f => ?_)
  ·
    have h1tc : 24 ≤ k := (nI_leI (by omega) (by omega)).mp h1t
    refine q_iload_n d155_27 rfl ?_
    exact q_iret d155_28 rfl (Nat.le_refl _) (Nat.le_refl _) (v1 h1tc)
  ·
    have h1fc : ¬ 24 ≤ k := mt (nI_leI (by omega) (by omega)).mpr h1f
    refine q_aload_n d155_10 rfl ?_
    refine q_iload_n d155_11 rfl ?_
    refine q_invV (o := 108) (ci := 0) (av := [.int (nI k)]) (rest := []) (d' := 0) (mc' := 0) (ms' := 0) d155_12 (cv0_58 155 rfl) rfl (by decide) rfl rfl (by omega) (Nat.le_of_ble_eq_true rfl) (Nat.le_of_ble_eq_true rfl) (lt_w1 rfl) sh108 (Nat.le_refl _) (Nat.le_refl _) ?_
    refine s14 (k := k) hR (by first | omega | decide) (Nat.le_refl _) (fun c2 => ?_) (fun c3 => ?_)
    ·
      show j_W 155 d 0 0 0 0 15 [some (.ref 108), some (.int (nI m)), some (.int (nI k))] [.int 0] w1 (I, D, RR R) Q
      refine q_if_eq (tgt := 21) d155_15 rfl (fun _ => ?_) (fun h => absurd h (by decide))
      refine q_iinc (L' := [some (.ref 108), some (.int (nI m)), some (.int (nI (k + 1)))]) (v := (nI (k + 1))) d155_21 rfl (nI_inc _) rfl ?_
      refine q_goto (tgt := 4) d155_24 rfl ?_
      exact r_sub (L' := [some (.ref 108), some (.int (nI m)), some (.int (nI (k + 1)))]) ⟨rfl, rfl, rfl, trivial⟩ (v2 h1fc c2)
    ·
      show j_W 155 d 0 0 0 0 15 [some (.ref 108), some (.int (nI m)), some (.int (nI k))] [.int 1] w1 (I, D, RR R) Q
      refine q_if_eq (tgt := 21) d155_15 rfl (fun h => absurd h (by decide)) (fun _ => ?_)
      refine q_iinc (L' := [some (.ref 108), some (.int (nI (m + 1))), some (.int (nI k))]) (v := (nI (m + 1))) d155_18 rfl (nI_inc _) rfl ?_
      refine q_iinc (L' := [some (.ref 108), some (.int (nI (m + 1))), some (.int (nI (k + 1)))]) (v := (nI (k + 1))) d155_21 rfl (nI_inc _) rfl ?_
      refine q_goto (tgt := 4) d155_24 rfl ?_
      exact r_sub (L' := [some (.ref 108), some (.int (nI (m + 1))), some (.int (nI (k + 1)))]) ⟨rfl, rfl, rfl, trivial⟩ (v3 h1fc c3)

set_option maxRecDepth 10000 in
set_option maxHeartbeats 4000000 in
theorem s158e {d : Nat} {I : Nat → Nat → Int32} {D : Nat → Nat → UInt64} {R : Nat → Nat → Option Nat} {Q : j_Po}   (hR : WFR R) (hd : 1 ≤ d)
    (v1 : j_W 158 d 0 0 0 0 4 [some (.ref 108), some (.int 0), some (.int 0)] [] w1 (I, D, RR R) Q) : j_Call d 158 [.ref 108] w1 (I, D, RR R) 0 0 Q := by
  refine q_enter (L := [some (.ref 108), none, none]) j_m158 (Nat.le_of_ble_eq_true rfl) rfl ?_
  refine q_iconst (v := 0) (by decide) d158_0 ?_
  refine q_istore_n (L' := [some (.ref 108), some (.int 0), none]) d158_1 (Nat.le_of_ble_eq_true rfl) rfl ?_
  refine q_iconst (v := 0) (by decide) d158_2 ?_
  refine q_istore_n (L' := [some (.ref 108), some (.int 0), some (.int 0)]) d158_3 (Nat.le_of_ble_eq_true rfl) rfl ?_
  exact r_sub (L' := [some (.ref 108), some (.int 0), some (.int 0)]) ⟨rfl, rfl, rfl, trivial⟩ v1

set_option maxRecDepth 10000 in
set_option maxHeartbeats 4000000 in
theorem s158h {d : Nat} {I : Nat → Nat → Int32} {D : Nat → Nat → UInt64} {R : Nat → Nat → Option Nat} {Q : j_Po} {m : Nat} {k : Nat}  (hR : WFR R) (hk : k ≤ 24) (hm : m ≤ k) (hd : 1 ≤ d)
    (v1 : (24 ≤ k) → Q (some (.int (nI m))) w1 (I, D, RR R))
    (v2 : (¬ 24 ≤ k) → ((I 111 k) = 0) → j_W 158 d 0 0 0 0 4 [some (.ref 108), some (.int (nI m)), some (.int (nI (k + 1)))] [] w1 (I, D, RR R) Q)
    (v3 : (¬ 24 ≤ k) → (¬ (I 111 k) = 0) → j_W 158 d 0 0 0 0 4 [some (.ref 108), some (.int (nI (m + 1))), some (.int (nI (k + 1)))] [] w1 (I, D, RR R) Q) : j_W 158 d 0 0 0 0 4 [some (.ref 108), some (.int (nI m)), some (.int (nI k))] [] w1 (I, D, RR R) Q := by
  refine q_iload_n d158_4 rfl ?_
  refine q_bipush (v := 24) (by decide) d158_5 ?_
  refine q_icmp_ge (tgt := 28) d158_7 rfl (fun h1t => ?_) (fun h1f => ?_)
  ·
    have h1tc : 24 ≤ k := (nI_leI (by omega) (by omega)).mp h1t
    refine q_iload_n d158_28 rfl ?_
    exact q_iret d158_29 rfl (Nat.le_refl _) (Nat.le_refl _) (v1 h1tc)
  ·
    have h1fc : ¬ 24 ≤ k := mt (nI_leI (by omega) (by omega)).mpr h1f
    refine q_aload_n d158_10 rfl ?_
    refine q_getR (x := 111) d158_11 (fs0_19 158 rfl) rfl (lt_w1 rfl) sh108 (rs108_2 R) (by decide) ?_
    refine q_iload_n d158_14 rfl ?_
    refine q_zaload (a := k) d158_15 (lt_w1 rfl) sh111 rfl (by omega) ?_
    refine q_if_eq (tgt := 22) d158_16 rfl (fun h2t => ?_) (fun h2f => ?_)
    ·
      refine q_iinc (L' := [some (.ref 108), some (.int (nI m)), some (.int (nI (k + 1)))]) (v := (nI (k + 1))) d158_22 rfl (nI_inc _) rfl ?_
      refine q_goto (tgt := 4) d158_25 rfl ?_
      exact r_sub (L' := [some (.ref 108), some (.int (nI m)), some (.int (nI (k + 1)))]) ⟨rfl, rfl, rfl, trivial⟩ (v2 h1fc h2t)
    ·
      refine q_iinc (L' := [some (.ref 108), some (.int (nI (m + 1))), some (.int (nI k))]) (v := (nI (m + 1))) d158_19 rfl (nI_inc _) rfl ?_
      refine q_iinc (L' := [some (.ref 108), some (.int (nI (m + 1))), some (.int (nI (k + 1)))]) (v := (nI (k + 1))) d158_22 rfl (nI_inc _) rfl ?_
      refine q_goto (tgt := 4) d158_25 rfl ?_
      exact r_sub (L' := [some (.ref 108), some (.int (nI (m + 1))), some (.int (nI (k + 1)))]) ⟨rfl, rfl, rfl, trivial⟩ (v3 h1fc h2f)

set_option maxRecDepth 10000 in
set_option maxHeartbeats 4000000 in
theorem s159e {d : Nat} {I : Nat → Nat → Int32} {D : Nat → Nat → UInt64} {R : Nat → Nat → Option Nat} {Q : j_Po}   (hR : WFR R) (hd : 1 ≤ d)
    (v1 : j_W 159 d 0 0 0 0 4 [some (.ref 108), some (.int 0), some (.int 0)] [] w1 (I, D, RR R) Q) : j_Call d 159 [.ref 108] w1 (I, D, RR R) 0 0 Q := by
  refine q_enter (L := [some (.ref 108), none, none]) j_m159 (Nat.le_of_ble_eq_true rfl) rfl ?_
  refine q_iconst (v := 0) (by decide) d159_0 ?_
  refine q_istore_n (L' := [some (.ref 108), some (.int 0), none]) d159_1 (Nat.le_of_ble_eq_true rfl) rfl ?_
  refine q_iconst (v := 0) (by decide) d159_2 ?_
  refine q_istore_n (L' := [some (.ref 108), some (.int 0), some (.int 0)]) d159_3 (Nat.le_of_ble_eq_true rfl) rfl ?_
  exact r_sub (L' := [some (.ref 108), some (.int 0), some (.int 0)]) ⟨rfl, rfl, rfl, trivial⟩ v1

set_option maxRecDepth 10000 in
set_option maxHeartbeats 4000000 in
theorem s159h {d : Nat} {I : Nat → Nat → Int32} {D : Nat → Nat → UInt64} {R : Nat → Nat → Option Nat} {Q : j_Po} {m : Nat} {k : Nat}  (hR : WFR R) (hk : k ≤ 6) (hm : m ≤ k) (hd : 1 ≤ d)
    (v1 : (6 ≤ k) → Q (some (.int (nI m))) w1 (I, D, RR R))
    (v2 : (¬ 6 ≤ k) → ((I ((R 113 k).getD 0) 0) = 0) → j_W 159 d 0 0 0 0 4 [some (.ref 108), some (.int (nI m)), some (.int (nI (k + 1)))] [] w1 (I, D, RR R) Q)
    (v3 : (¬ 6 ≤ k) → (¬ (I ((R 113 k).getD 0) 0) = 0) → j_W 159 d 0 0 0 0 4 [some (.ref 108), some (.int (nI (m + 1))), some (.int (nI (k + 1)))] [] w1 (I, D, RR R) Q) : j_W 159 d 0 0 0 0 4 [some (.ref 108), some (.int (nI m)), some (.int (nI k))] [] w1 (I, D, RR R) Q := by
  refine q_iload_n d159_4 rfl ?_
  refine q_bipush (v := 6) (by decide) d159_5 ?_
  refine q_icmp_ge (tgt := 31) d159_7 rfl (fun h1t => ?_) (fun h1f => ?_)
  ·
    have h1tc : 6 ≤ k := (nI_leI (by omega) (by omega)).mp h1t
    refine q_iload_n d159_31 rfl ?_
    exact q_iret d159_32 rfl (Nat.le_refl _) (Nat.le_refl _) (v1 h1tc)
  ·
    have h1fc : ¬ 6 ≤ k := mt (nI_leI (by omega) (by omega)).mpr h1f
    refine q_aload_n d159_10 rfl ?_
    refine q_getR (x := 113) d159_11 (fs0_31 159 rfl) rfl (lt_w1 rfl) sh108 (rs108_4 R) (by decide) ?_
    refine q_iload_n d159_14 rfl ?_
    have g3 := hR.g k (by omega)
    refine q_aaload (c := 7) (a := k) (x := ((R 113 k).getD 0)) d159_15 (lt_w1 rfl) sh113 (by decide) rfl (by omega) ((RR_d rfl).trans g3.1) (lt1000 (isG_lt g3.2)) ?_
    refine q_getI d159_16 (fs0_61 159 rfl) rfl (isG_lt g3.2) (isG_sh g3.2) ?_
    refine q_if_eq (tgt := 25) d159_19 rfl (fun h4t => ?_) (fun h4f => ?_)
    ·
      refine q_iinc (L' := [some (.ref 108), some (.int (nI m)), some (.int (nI (k + 1)))]) (v := (nI (k + 1))) d159_25 rfl (nI_inc _) rfl ?_
      refine q_goto (tgt := 4) d159_28 rfl ?_
      exact r_sub (L' := [some (.ref 108), some (.int (nI m)), some (.int (nI (k + 1)))]) ⟨rfl, rfl, rfl, trivial⟩ (v2 h1fc h4t)
    ·
      refine q_iinc (L' := [some (.ref 108), some (.int (nI (m + 1))), some (.int (nI k))]) (v := (nI (m + 1))) d159_22 rfl (nI_inc _) rfl ?_
      refine q_iinc (L' := [some (.ref 108), some (.int (nI (m + 1))), some (.int (nI (k + 1)))]) (v := (nI (k + 1))) d159_25 rfl (nI_inc _) rfl ?_
      refine q_goto (tgt := 4) d159_28 rfl ?_
      exact r_sub (L' := [some (.ref 108), some (.int (nI (m + 1))), some (.int (nI (k + 1)))]) ⟨rfl, rfl, rfl, trivial⟩ (v3 h1fc h4f)

set_option maxRecDepth 10000 in
set_option maxHeartbeats 4000000 in
theorem s281e {d : Nat} {I : Nat → Nat → Int32} {D : Nat → Nat → UInt64} {R : Nat → Nat → Option Nat} {Q : j_Po}    (hd : 1 ≤ d)
    (v1 : j_W 281 d 0 0 0 0 4 [some (.ref 260), some (.int 0), some (.int 0)] [] w1 (I, D, RR R) Q) : j_Call d 281 [.ref 260] w1 (I, D, RR R) 0 0 Q := by
  refine q_enter (L := [some (.ref 260), none, none]) j_m281 (Nat.le_of_ble_eq_true rfl) rfl ?_
  refine q_iconst (v := 0) (by decide) d281_0 ?_
  refine q_istore_n (L' := [some (.ref 260), some (.int 0), none]) d281_1 (Nat.le_of_ble_eq_true rfl) rfl ?_
  refine q_iconst (v := 0) (by decide) d281_2 ?_
  refine q_istore_n (L' := [some (.ref 260), some (.int 0), some (.int 0)]) d281_3 (Nat.le_of_ble_eq_true rfl) rfl ?_
  exact r_sub (L' := [some (.ref 260), some (.int 0), some (.int 0)]) ⟨rfl, rfl, rfl, trivial⟩ v1

set_option maxRecDepth 10000 in
set_option maxHeartbeats 4000000 in
theorem s281h {d : Nat} {I : Nat → Nat → Int32} {D : Nat → Nat → UInt64} {R : Nat → Nat → Option Nat} {Q : j_Po} {m : Nat} {k : Nat}  (hk : k ≤ 24) (hm : m ≤ k) (hd : 1 ≤ d)
    (v1 : (24 ≤ k) → Q (some (.int (nI m))) w1 (I, D, RR R))
    (v2 : (¬ 24 ≤ k) → (¬ (I 264 k) = 0) → j_W 281 d 0 0 0 0 4 [some (.ref 260), some (.int (nI (m + 1))), some (.int (nI (k + 1)))] [] w1 (I, D, RR R) Q)
    (v3 : (¬ 24 ≤ k) → ((I 264 k) = 0) → j_W 281 d 0 0 0 0 4 [some (.ref 260), some (.int (nI m)), some (.int (nI (k + 1)))] [] w1 (I, D, RR R) Q) : j_W 281 d 0 0 0 0 4 [some (.ref 260), some (.int (nI m)), some (.int (nI k))] [] w1 (I, D, RR R) Q := by
  refine q_iload_n d281_4 rfl ?_
  refine q_bipush (v := 24) (by decide) d281_5 ?_
  refine q_icmp_ge (tgt := 27) d281_7 rfl (fun h1t => ?_) (fun h1f => ?_)
  ·
    have h1tc : 24 ≤ k := (nI_leI (by omega) (by omega)).mp h1t
    refine q_iload_n d281_27 rfl ?_
    exact q_iret d281_28 rfl (Nat.le_refl _) (Nat.le_refl _) (v1 h1tc)
  ·
    have h1fc : ¬ 24 ≤ k := mt (nI_leI (by omega) (by omega)).mpr h1f
    refine q_aload_n d281_10 rfl ?_
    refine q_iload_n d281_11 rfl ?_
    refine q_invV (o := 260) (ci := 10) (av := [.int (nI k)]) (rest := []) (d' := 0) (mc' := 0) (ms' := 0) d281_12 (cv10_204 281 rfl) rfl (by decide) rfl rfl (by omega) (Nat.le_of_ble_eq_true rfl) (Nat.le_of_ble_eq_true rfl) (lt_w1 rfl) sh260 (Nat.le_refl _) (Nat.le_refl _) ?_
    refine s170 (k := k) (by first | omega | decide) (Nat.le_refl _) (fun c2 => ?_) (fun c3 => ?_)
    ·
      show j_W 281 d 0 0 0 0 15 [some (.ref 260), some (.int (nI m)), some (.int (nI k))] [.int 0] w1 (I, D, RR R) Q
      refine q_if_ne (tgt := 21) d281_15 rfl (fun h => absurd h (by decide)) (fun _ => ?_)
      refine q_iinc (L' := [some (.ref 260), some (.int (nI (m + 1))), some (.int (nI k))]) (v := (nI (m + 1))) d281_18 rfl (nI_inc _) rfl ?_
      refine q_iinc (L' := [some (.ref 260), some (.int (nI (m + 1))), some (.int (nI (k + 1)))]) (v := (nI (k + 1))) d281_21 rfl (nI_inc _) rfl ?_
      refine q_goto (tgt := 4) d281_24 rfl ?_
      exact r_sub (L' := [some (.ref 260), some (.int (nI (m + 1))), some (.int (nI (k + 1)))]) ⟨rfl, rfl, rfl, trivial⟩ (v2 h1fc c2)
    ·
      show j_W 281 d 0 0 0 0 15 [some (.ref 260), some (.int (nI m)), some (.int (nI k))] [.int 1] w1 (I, D, RR R) Q
      refine q_if_ne (tgt := 21) d281_15 rfl (fun _ => ?_) (fun h => absurd h (by decide))
      refine q_iinc (L' := [some (.ref 260), some (.int (nI m)), some (.int (nI (k + 1)))]) (v := (nI (k + 1))) d281_21 rfl (nI_inc _) rfl ?_
      refine q_goto (tgt := 4) d281_24 rfl ?_
      exact r_sub (L' := [some (.ref 260), some (.int (nI m)), some (.int (nI (k + 1)))]) ⟨rfl, rfl, rfl, trivial⟩ (v3 h1fc c3)

def cntP (p : Nat → Bool) : Nat → Nat
  | 0 => 0
  | n + 1 => cntP p n + (if p n then 1 else 0)
theorem cntP_le (p : Nat → Bool) : ∀ n, cntP p n ≤ n
  | 0 => Nat.le_refl _
  | n + 1 => by
    have := cntP_le p n
    unfold cntP
    split <;> omega
theorem cntP_cg {p q : Nat → Bool} : ∀ {n : Nat}, (∀ k, k < n → p k = q k) → cntP p n = cntP q n
  | 0, _ => rfl
  | n + 1, h => by
    unfold cntP
    rw [cntP_cg (fun k hk => h k (by omega)), h n (by omega)]
theorem cntP_y {p : Nat → Bool} {n : Nat} (h : p n = true) : cntP p n + 1 = cntP p (n + 1) := by rw [cntP, if_pos h]
theorem cntP_n {p : Nat → Bool} {n : Nat} (h : p n = false) : cntP p n = cntP p (n + 1) := by rw [cntP, if_neg (by rw [h]; decide)]; rfl
theorem l155 {d : Nat} {I : Nat → Nat → Int32} {D : Nat → Nat → UInt64} {R : Nat → Nat → Option Nat} {Q : j_Po} (hR : WFR R) (hd : 1 ≤ d) (hq : Q (some (.int (nI (cntP (fun k => !decide (I ((R 112 k).getD 0) 1 ≤ 0)) 24)))) w1 (I, D, RR R)) : ∀ (n k : Nat), n + k = 24 → j_W 155 d 0 0 0 0 4 [some (.ref 108), some (.int (nI (cntP (fun k => !decide (I ((R 112 k).getD 0) 1 ≤ 0)) k))), some (.int (nI k))] [] w1 (I, D, RR R) Q := by
  intro n
  induction n with
  | zero => intro k hk; exact s155h hR (by omega) (cntP_le _ _) hd (fun _ => by rw [show k = 24 by omega]; exact hq) (fun a b => absurd (show 24 ≤ k by omega) a) (fun a b => absurd (show 24 ≤ k by omega) a)
  | succ n ih => intro k hk; exact s155h hR (by omega) (cntP_le _ _) hd (fun h => absurd h (by omega)) (fun a b => by rw [cntP_n (p := fun k => !decide (I ((R 112 k).getD 0) 1 ≤ 0)) (by simpa using b)]; exact ih (k + 1) (by omega)) (fun a b => by rw [cntP_y (p := fun k => !decide (I ((R 112 k).getD 0) 1 ≤ 0)) (by simpa using b)]; exact ih (k + 1) (by omega))
theorem c155 {d : Nat} {I : Nat → Nat → Int32} {D : Nat → Nat → UInt64} {R : Nat → Nat → Option Nat} {Q : j_Po} (hR : WFR R) (hd : 1 ≤ d) (hq : Q (some (.int (nI (cntP (fun k => !decide (I ((R 112 k).getD 0) 1 ≤ 0)) 24)))) w1 (I, D, RR R)) : j_Call d 155 [.ref 108] w1 (I, D, RR R) 0 0 Q :=
  s155e hR hd (l155 hR hd hq 24 0 rfl)
theorem l158 {d : Nat} {I : Nat → Nat → Int32} {D : Nat → Nat → UInt64} {R : Nat → Nat → Option Nat} {Q : j_Po} (hR : WFR R) (hd : 1 ≤ d) (hq : Q (some (.int (nI (cntP (fun k => !decide (I 111 k = 0)) 24)))) w1 (I, D, RR R)) : ∀ (n k : Nat), n + k = 24 → j_W 158 d 0 0 0 0 4 [some (.ref 108), some (.int (nI (cntP (fun k => !decide (I 111 k = 0)) k))), some (.int (nI k))] [] w1 (I, D, RR R) Q := by
  intro n
  induction n with
  | zero => intro k hk; exact s158h hR (by omega) (cntP_le _ _) hd (fun _ => by rw [show k = 24 by omega]; exact hq) (fun a b => absurd (show 24 ≤ k by omega) a) (fun a b => absurd (show 24 ≤ k by omega) a)
  | succ n ih => intro k hk; exact s158h hR (by omega) (cntP_le _ _) hd (fun h => absurd h (by omega)) (fun a b => by rw [cntP_n (p := fun k => !decide (I 111 k = 0)) (by simpa using b)]; exact ih (k + 1) (by omega)) (fun a b => by rw [cntP_y (p := fun k => !decide (I 111 k = 0)) (by simpa using b)]; exact ih (k + 1) (by omega))
theorem c158 {d : Nat} {I : Nat → Nat → Int32} {D : Nat → Nat → UInt64} {R : Nat → Nat → Option Nat} {Q : j_Po} (hR : WFR R) (hd : 1 ≤ d) (hq : Q (some (.int (nI (cntP (fun k => !decide (I 111 k = 0)) 24)))) w1 (I, D, RR R)) : j_Call d 158 [.ref 108] w1 (I, D, RR R) 0 0 Q :=
  s158e hR hd (l158 hR hd hq 24 0 rfl)
theorem l159 {d : Nat} {I : Nat → Nat → Int32} {D : Nat → Nat → UInt64} {R : Nat → Nat → Option Nat} {Q : j_Po} (hR : WFR R) (hd : 1 ≤ d) (hq : Q (some (.int (nI (cntP (fun k => !decide (I ((R 113 k).getD 0) 0 = 0)) 6)))) w1 (I, D, RR R)) : ∀ (n k : Nat), n + k = 6 → j_W 159 d 0 0 0 0 4 [some (.ref 108), some (.int (nI (cntP (fun k => !decide (I ((R 113 k).getD 0) 0 = 0)) k))), some (.int (nI k))] [] w1 (I, D, RR R) Q := by
  intro n
  induction n with
  | zero => intro k hk; exact s159h hR (by omega) (cntP_le _ _) hd (fun _ => by rw [show k = 6 by omega]; exact hq) (fun a b => absurd (show 6 ≤ k by omega) a) (fun a b => absurd (show 6 ≤ k by omega) a)
  | succ n ih => intro k hk; exact s159h hR (by omega) (cntP_le _ _) hd (fun h => absurd h (by omega)) (fun a b => by rw [cntP_n (p := fun k => !decide (I ((R 113 k).getD 0) 0 = 0)) (by simpa using b)]; exact ih (k + 1) (by omega)) (fun a b => by rw [cntP_y (p := fun k => !decide (I ((R 113 k).getD 0) 0 = 0)) (by simpa using b)]; exact ih (k + 1) (by omega))
theorem c159 {d : Nat} {I : Nat → Nat → Int32} {D : Nat → Nat → UInt64} {R : Nat → Nat → Option Nat} {Q : j_Po} (hR : WFR R) (hd : 1 ≤ d) (hq : Q (some (.int (nI (cntP (fun k => !decide (I ((R 113 k).getD 0) 0 = 0)) 6)))) w1 (I, D, RR R)) : j_Call d 159 [.ref 108] w1 (I, D, RR R) 0 0 Q :=
  s159e hR hd (l159 hR hd hq 6 0 rfl)
theorem l281 {d : Nat} {I : Nat → Nat → Int32} {D : Nat → Nat → UInt64} {R : Nat → Nat → Option Nat} {Q : j_Po} (hd : 1 ≤ d) (hq : Q (some (.int (nI (cntP (fun k => !decide (I 264 k = 0)) 24)))) w1 (I, D, RR R)) : ∀ (n k : Nat), n + k = 24 → j_W 281 d 0 0 0 0 4 [some (.ref 260), some (.int (nI (cntP (fun k => !decide (I 264 k = 0)) k))), some (.int (nI k))] [] w1 (I, D, RR R) Q := by
  intro n
  induction n with
  | zero => intro k hk; exact s281h (by omega) (cntP_le _ _) hd (fun _ => by rw [show k = 24 by omega]; exact hq) (fun a b => absurd (show 24 ≤ k by omega) a) (fun a b => absurd (show 24 ≤ k by omega) a)
  | succ n ih => intro k hk; exact s281h (by omega) (cntP_le _ _) hd (fun h => absurd h (by omega)) (fun a b => by rw [cntP_y (p := fun k => !decide (I 264 k = 0)) (by simpa using b)]; exact ih (k + 1) (by omega)) (fun a b => by rw [cntP_n (p := fun k => !decide (I 264 k = 0)) (by simpa using b)]; exact ih (k + 1) (by omega))
theorem c281 {d : Nat} {I : Nat → Nat → Int32} {D : Nat → Nat → UInt64} {R : Nat → Nat → Option Nat} {Q : j_Po} (hd : 1 ≤ d) (hq : Q (some (.int (nI (cntP (fun k => !decide (I 264 k = 0)) 24)))) w1 (I, D, RR R)) : j_Call d 281 [.ref 260] w1 (I, D, RR R) 0 0 Q :=
  s281e hd (l281 hd hq 24 0 rfl)
