/-! who names whom: what some come to name, the order, too heavy -/
def nby (I : Nat → Nat → Int32) (R : Nat → Nat → Option Nat) (u : Nat) : Int32 := if u < 24 then I (fo R u) 2 else if I (go R (u - 24)) 0 = 0 then 0 else 1 <<< (I (go R (u - 24)) 1 &&& 31)
theorem c22 {d : Nat} {I : Nat → Nat → Int32} {D : Nat → Nat → UInt64} {R : Nat → Nat → Option Nat} {Q : j_Po} {k : Nat} (hR : WFR R) (hk : k < 30) (hq : Q (some (.int (nby I R k))) w1 (I, D, RR R)) : j_Call d 22 [.ref 108, .int (nI k)] w1 (I, D, RR R) 0 0 Q := by
  unfold nby at hq
  refine s22 hR hk (Nat.zero_le _) (fun h1 h2 => ?_) (fun h1 h2 => ?_) (fun h1 => ?_)
  · rw [if_neg (by omega), if_pos h2] at hq; exact hq
  · rw [if_neg (by omega), if_neg h2] at hq; exact hq
  · rw [if_pos (by omega)] at hq; exact hq
set_option maxRecDepth 10000 in
set_option maxHeartbeats 4000000 in
theorem s101e {d : Nat} {I : Nat → Nat → Int32} {D : Nat → Nat → UInt64} {R : Nat → Nat → Option Nat} {Q : j_Po} {a : Int32}  (hR : WFR R) (hd : 1 ≤ d)
    (v1 : j_W 101 d 0 0 0 0 8 [none, some (.ref 108), none, some (.int a), some (.int 0), some (.int 0), none] [] w1 (I, D, RR R) Q) : j_Call d 101 [.ref 204, .ref 108, .int a] w1 (I, D, RR R) 0 0 Q := by
  refine q_enter (L := [some (.ref 204), some (.ref 108), some (.int a), none, none, none, none]) j_m101 (Nat.le_of_ble_eq_true rfl) rfl ?_
  refine q_iload_n d101_0 rfl ?_
  refine q_istore_n (L' := [some (.ref 204), some (.ref 108), some (.int a), some (.int a), none, none, none]) d101_1 (Nat.le_of_ble_eq_true rfl) rfl ?_
  refine q_iconst (v := 0) (by decide) d101_2 ?_
  refine q_istore (L' := [some (.ref 204), some (.ref 108), some (.int a), some (.int a), some (.int 0), none, none]) d101_3 (Nat.le_of_ble_eq_true rfl) rfl ?_
  refine q_iconst (v := 0) (by decide) d101_5 ?_
  refine q_istore (L' := [some (.ref 204), some (.ref 108), some (.int a), some (.int a), some (.int 0), some (.int 0), none]) d101_6 (Nat.le_of_ble_eq_true rfl) rfl ?_
  exact r_sub (L' := [none, some (.ref 108), none, some (.int a), some (.int 0), some (.int 0), none]) ⟨rfl, rfl, rfl, rfl, trivial⟩ v1

set_option maxRecDepth 10000 in
set_option maxHeartbeats 4000000 in
theorem s101o {d : Nat} {I : Nat → Nat → Int32} {D : Nat → Nat → UInt64} {R : Nat → Nat → Option Nat} {Q : j_Po} {x : Int32} {y : Int32} {r : Nat}  (hR : WFR R) (hr : r ≤ 30) (hd : 1 ≤ d)
    (v1 : (30 ≤ r) → Q (some (.int x)) w1 (I, D, RR R))
    (v2 : (¬ 30 ≤ r) → (x = y) → Q (some (.int x)) w1 (I, D, RR R))
    (v3 : (¬ 30 ≤ r) → (¬ x = y) → j_W 101 d 0 0 0 0 27 [none, some (.ref 108), none, some (.int x), some (.int x), some (.int (nI r)), some (.int 0)] [] w1 (I, D, RR R) Q) : j_W 101 d 0 0 0 0 8 [none, some (.ref 108), none, some (.int x), some (.int y), some (.int (nI r)), none] [] w1 (I, D, RR R) Q := by
  refine q_iload d101_8 rfl ?_
  refine q_bipush (v := 30) (by decide) d101_10 ?_
  refine q_icmp_ge (tgt := 64) d101_12 rfl (fun h1t => ?_) (fun h1f => ?_)
  ·
    have h1tc : 30 ≤ r := (nI_leI (by omega) (by omega)).mp h1t
    refine q_iload_n d101_64 rfl ?_
    exact q_iret d101_65 rfl (Nat.le_refl _) (Nat.le_refl _) (v1 h1tc)
  ·
    have h1fc : ¬ 30 ≤ r := mt (nI_leI (by omega) (by omega)).mpr h1f
    refine q_iload_n d101_15 rfl ?_
    refine q_iload d101_16 rfl ?_
    refine q_icmp_eq (tgt := 64) d101_18 rfl (fun h2t => ?_) (fun h2f => ?_)
    ·
      refine q_iload_n d101_64 rfl ?_
      exact q_iret d101_65 rfl (Nat.le_refl _) (Nat.le_refl _) (v2 h1fc h2t)
    ·
      refine q_iload_n d101_21 rfl ?_
      refine q_istore (L' := [none, some (.ref 108), none, some (.int x), some (.int x), some (.int (nI r)), none]) d101_22 (Nat.le_of_ble_eq_true rfl) rfl ?_
      refine q_iconst (v := 0) (by decide) d101_24 ?_
      refine q_istore (L' := [none, some (.ref 108), none, some (.int x), some (.int x), some (.int (nI r)), some (.int 0)]) d101_25 (Nat.le_of_ble_eq_true rfl) rfl ?_
      exact r_sub (L' := [none, some (.ref 108), none, some (.int x), some (.int x), some (.int (nI r)), some (.int 0)]) ⟨rfl, rfl, rfl, rfl, rfl, trivial⟩ (v3 h1fc h2f)

set_option maxRecDepth 10000 in
set_option maxHeartbeats 4000000 in
theorem s101i {d : Nat} {I : Nat → Nat → Int32} {D : Nat → Nat → UInt64} {R : Nat → Nat → Option Nat} {Q : j_Po} {x : Int32} {y : Int32} {r : Nat} {k : Nat}  (hR : WFR R) (hr : r < 30) (hk : k ≤ 30) (hd : 1 ≤ d)
    (v1 : (30 ≤ k) → j_W 101 d 0 0 0 0 8 [none, some (.ref 108), none, some (.int x), some (.int y), some (.int (nI (r + 1))), none] [] w1 (I, D, RR R) Q)
    (v2 : (¬ 30 ≤ k) → ((¬ (x >>> ((nI k) &&& 31)) &&& 1 = 0)) → j_W 101 d 0 0 0 0 27 [none, some (.ref 108), none, some (.int (x ||| (nby I R k))), some (.int y), some (.int (nI r)), some (.int (nI (k + 1)))] [] w1 (I, D, RR R) Q)
    (v3 : (¬ 30 ≤ k) → (¬ ((¬ (x >>> ((nI k) &&& 31)) &&& 1 = 0))) → j_W 101 d 0 0 0 0 27 [none, some (.ref 108), none, some (.int x), some (.int y), some (.int (nI r)), some (.int (nI (k + 1)))] [] w1 (I, D, RR R) Q) : j_W 101 d 0 0 0 0 27 [none, some (.ref 108), none, some (.int x), some (.int y), some (.int (nI r)), some (.int (nI k))] [] w1 (I, D, RR R) Q := by
  refine q_iload d101_27 rfl ?_
  refine q_bipush (v := 30) (by decide) d101_29 ?_
  refine q_icmp_ge (tgt := 58) d101_31 rfl (fun h1t => ?_) (fun h1f => ?_)
  ·
    have h1tc : 30 ≤ k := (nI_leI (by omega) (by omega)).mp h1t
    refine q_iinc (L' := [none, some (.ref 108), none, some (.int x), some (.int y), some (.int (nI (r + 1))), some (.int (nI k))]) (v := (nI (r + 1))) d101_58 rfl (nI_inc _) rfl ?_
    refine q_goto (tgt := 8) d101_61 rfl ?_
    exact r_sub (L' := [none, some (.ref 108), none, some (.int x), some (.int y), some (.int (nI (r + 1))), none]) ⟨rfl, rfl, rfl, rfl, trivial⟩ (v1 h1tc)
  ·
    have h1fc : ¬ 30 ≤ k := mt (nI_leI (by omega) (by omega)).mpr h1f
    refine q_iload_n d101_34 rfl ?_
    refine q_iload d101_35 rfl ?_
    refine q_invSN (av := [.int x, .int (nI k)]) (rest := []) (d' := 0) (mc' := 0) (ms' := 0) d101_37 (nv4_55 101 rfl) rfl rfl (by omega) (Nat.le_of_ble_eq_true rfl) (Nat.le_of_ble_eq_true rfl) (Nat.le_refl _) (Nat.le_refl _) ?_
    refine p21  (fun h2 => ?_) (fun h2 => ?_)
    ·
      show j_W 101 d 0 0 0 0 40 [none, some (.ref 108), none, some (.int x), some (.int y), some (.int (nI r)), some (.int (nI k))] [.int 1] w1 (I, D, RR R) Q
      refine q_if_eq (tgt := 52) d101_40 rfl (fun h => absurd h (by decide)) (fun _ => ?_)
      refine q_iload_n d101_43 rfl ?_
      refine q_aload_n d101_44 rfl ?_
      refine q_iload d101_45 rfl ?_
      refine q_invS (av := [.ref 108, .int (nI k)]) (rest := [.int x]) (d' := 0) (mc' := 0) (ms' := 0) d101_47 (cv4_59 101 rfl) rfl rfl (by omega) (Nat.le_of_ble_eq_true rfl) (Nat.le_of_ble_eq_true rfl) (Nat.le_refl _) (Nat.le_refl _) ?_
      refine c22 hR (by first | omega | decide)  ?_
      show j_W 101 d 0 0 0 0 50 [none, some (.ref 108), none, some (.int x), some (.int y), some (.int (nI r)), some (.int (nI k))] [.int (nby I R k), .int x] w1 (I, D, RR R) Q
      refine q_ior d101_50 ?_
      refine q_istore_n (L' := [none, some (.ref 108), none, some (.int (x ||| (nby I R k))), some (.int y), some (.int (nI r)), some (.int (nI k))]) d101_51 (Nat.le_of_ble_eq_true rfl) rfl ?_
      refine q_iinc (L' := [none, some (.ref 108), none, some (.int (x ||| (nby I R k))), some (.int y), some (.int (nI r)), some (.int (nI (k + 1)))]) (v := (nI (k + 1))) d101_52 rfl (nI_inc _) rfl ?_
      refine q_goto (tgt := 27) d101_55 rfl ?_
      exact r_sub (L' := [none, some (.ref 108), none, some (.int (x ||| (nby I R k))), some (.int y), some (.int (nI r)), some (.int (nI (k + 1)))]) ⟨rfl, rfl, rfl, rfl, rfl, trivial⟩ (v2 h1fc h2)
    ·
      show j_W 101 d 0 0 0 0 40 [none, some (.ref 108), none, some (.int x), some (.int y), some (.int (nI r)), some (.int (nI k))] [.int 0] w1 (I, D, RR R) Q
      refine q_if_eq (tgt := 52) d101_40 rfl (fun _ => ?_) (fun h => absurd h (by decide))
      refine q_iinc (L' := [none, some (.ref 108), none, some (.int x), some (.int y), some (.int (nI r)), some (.int (nI (k + 1)))]) (v := (nI (k + 1))) d101_52 rfl (nI_inc _) rfl ?_
      refine q_goto (tgt := 27) d101_55 rfl ?_
      exact r_sub (L' := [none, some (.ref 108), none, some (.int x), some (.int y), some (.int (nI r)), some (.int (nI (k + 1)))]) ⟨rfl, rfl, rfl, rfl, rfl, trivial⟩ (v3 h1fc h2)

set_option maxRecDepth 10000 in
set_option maxHeartbeats 4000000 in
theorem s20e {d : Nat} {I : Nat → Nat → Int32} {D : Nat → Nat → UInt64} {R : Nat → Nat → Option Nat} {Q : j_Po}   (hR : WFR R) (hd : 1 ≤ d)
    (v1 : j_W 20 d 0 0 0 0 7 [some (.ref 204), some (.ref 108), some (.int 0), some (.int 0), some (.int 0), none, none] [] w1 (I, D, RR R) Q) : j_Call d 20 [.ref 204, .ref 108] w1 (I, D, RR R) 0 0 Q := by
  refine q_enter (L := [some (.ref 204), some (.ref 108), none, none, none, none, none]) j_m20 (Nat.le_of_ble_eq_true rfl) rfl ?_
  refine q_iconst (v := 0) (by decide) d20_0 ?_
  refine q_istore_n (L' := [some (.ref 204), some (.ref 108), some (.int 0), none, none, none, none]) d20_1 (Nat.le_of_ble_eq_true rfl) rfl ?_
  refine q_iconst (v := 0) (by decide) d20_2 ?_
  refine q_istore_n (L' := [some (.ref 204), some (.ref 108), some (.int 0), some (.int 0), none, none, none]) d20_3 (Nat.le_of_ble_eq_true rfl) rfl ?_
  refine q_iconst (v := 0) (by decide) d20_4 ?_
  refine q_istore (L' := [some (.ref 204), some (.ref 108), some (.int 0), some (.int 0), some (.int 0), none, none]) d20_5 (Nat.le_of_ble_eq_true rfl) rfl ?_
  exact r_sub (L' := [some (.ref 204), some (.ref 108), some (.int 0), some (.int 0), some (.int 0), none, none]) ⟨rfl, rfl, rfl, rfl, rfl, trivial⟩ v1

set_option maxRecDepth 10000 in
set_option maxHeartbeats 4000000 in
theorem s20o {d : Nat} {I : Nat → Nat → Int32} {D : Nat → Nat → UInt64} {R : Nat → Nat → Option Nat} {Q : j_Po} {x : Int32} {m : Nat} {r : Nat}  (hR : WFR R) (hr : r ≤ 30) (hm : m ≤ 30) (hd : 1 ≤ d)
    (v1 : (30 ≤ r) → Q none w1 (I, D, RR R))
    (v2 : (¬ 30 ≤ r) → (30 ≤ m) → Q none w1 (I, D, RR R))
    (v3 : (¬ 30 ≤ r) → (¬ 30 ≤ m) → j_W 20 d 0 0 0 0 23 [some (.ref 204), some (.ref 108), some (.int x), some (.int (nI m)), some (.int (nI r)), some (.int 0), none] [] w1 (I, D, RR R) Q) : j_W 20 d 0 0 0 0 7 [some (.ref 204), some (.ref 108), some (.int x), some (.int (nI m)), some (.int (nI r)), none, none] [] w1 (I, D, RR R) Q := by
  refine q_iload d20_7 rfl ?_
  refine q_bipush (v := 30) (by decide) d20_9 ?_
  refine q_icmp_ge (tgt := 100) d20_11 rfl (fun h1t => ?_) (fun h1f => ?_)
  ·
    have h1tc : 30 ≤ r := (nI_leI (by omega) (by omega)).mp h1t
    exact q_ret d20_100 rfl (Nat.le_refl _) (Nat.le_refl _) (v1 h1tc)
  ·
    have h1fc : ¬ 30 ≤ r := mt (nI_leI (by omega) (by omega)).mpr h1f
    refine q_iload_n d20_14 rfl ?_
    refine q_bipush (v := 30) (by decide) d20_15 ?_
    refine q_icmp_ge (tgt := 100) d20_17 rfl (fun h2t => ?_) (fun h2f => ?_)
    ·
      have h2tc : 30 ≤ m := (nI_leI (by omega) (by omega)).mp h2t
      exact q_ret d20_100 rfl (Nat.le_refl _) (Nat.le_refl _) (v2 h1fc h2tc)
    ·
      have h2fc : ¬ 30 ≤ m := mt (nI_leI (by omega) (by omega)).mpr h2f
      refine q_iconst (v := 0) (by decide) d20_20 ?_
      refine q_istore (L' := [some (.ref 204), some (.ref 108), some (.int x), some (.int (nI m)), some (.int (nI r)), some (.int 0), none]) d20_21 (Nat.le_of_ble_eq_true rfl) rfl ?_
      exact r_sub (L' := [some (.ref 204), some (.ref 108), some (.int x), some (.int (nI m)), some (.int (nI r)), some (.int 0), none]) ⟨rfl, rfl, rfl, rfl, rfl, rfl, trivial⟩ (v3 h1fc h2fc)

set_option maxRecDepth 10000 in
set_option maxHeartbeats 4000000 in
theorem s20i {d : Nat} {I : Nat → Nat → Int32} {D : Nat → Nat → UInt64} {R : Nat → Nat → Option Nat} {Q : j_Po} {x : Int32} {m : Nat} {r : Nat} {k : Nat}  (hR : WFR R) (hr : r < 30) (hm : m ≤ 30) (hk : k ≤ 30) (hd : 1 ≤ d)
    (v1 : (30 ≤ k) → j_W 20 d 0 0 0 0 7 [some (.ref 204), some (.ref 108), some (.int x), some (.int (nI m)), some (.int (nI (r + 1))), none, none] [] w1 (I, D, RR R) Q)
    (v2 : (¬ 30 ≤ k) → ((¬ (x >>> ((nI k) &&& 31)) &&& 1 = 0)) → j_W 20 d 0 0 0 0 23 [some (.ref 204), some (.ref 108), some (.int x), some (.int (nI m)), some (.int (nI r)), some (.int (nI (k + 1))), none] [] w1 (I, D, RR R) Q)
    (v3 : (¬ 30 ≤ k) → (¬ ((¬ (x >>> ((nI k) &&& 31)) &&& 1 = 0))) → (¬ ((nby I R k) &&& (x ^^^ (-1))) = 0) → j_W 20 d 0 0 0 0 23 [some (.ref 204), some (.ref 108), some (.int x), some (.int (nI m)), some (.int (nI r)), some (.int (nI (k + 1))), none] [] w1 (I, D, RR R) Q)
    (v4 : (¬ 30 ≤ k) → (¬ ((¬ (x >>> ((nI k) &&& 31)) &&& 1 = 0))) → (((nby I R k) &&& (x ^^^ (-1))) = 0) → (30 ≤ m) → j_W 20 d 0 0 0 0 23 [some (.ref 204), some (.ref 108), some (.int x), some (.int (nI m)), some (.int (nI r)), some (.int (nI (k + 1))), none] [] w1 (I, D, RR R) Q)
    (v5 : (¬ 30 ≤ k) → (¬ ((¬ (x >>> ((nI k) &&& 31)) &&& 1 = 0))) → (((nby I R k) &&& (x ^^^ (-1))) = 0) → (¬ 30 ≤ m) → j_W 20 d 0 0 0 0 23 [some (.ref 204), some (.ref 108), some (.int (x ||| (1 <<< ((nI k) &&& 31)))), some (.int (nI (m + 1))), some (.int (nI r)), some (.int (nI (k + 1))), none] [] w1 ((j_u I 205 m (nI k)), D, RR R) Q) : j_W 20 d 0 0 0 0 23 [some (.ref 204), some (.ref 108), some (.int x), some (.int (nI m)), some (.int (nI r)), some (.int (nI k)), none] [] w1 (I, D, RR R) Q := by
  refine q_iload d20_23 rfl ?_
  refine q_bipush (v := 30) (by decide) d20_25 ?_
  refine q_icmp_ge (tgt := 94) d20_27 rfl (fun h1t => ?_) (fun h1f => ?_)
  ·
    have h1tc : 30 ≤ k := (nI_leI (by omega) (by omega)).mp h1t
    refine q_iinc (L' := [some (.ref 204), some (.ref 108), some (.int x), some (.int (nI m)), some (.int (nI (r + 1))), some (.int (nI k)), none]) (v := (nI (r + 1))) d20_94 rfl (nI_inc _) rfl ?_
    refine q_goto (tgt := 7) d20_97 rfl ?_
    exact r_sub (L' := [some (.ref 204), some (.ref 108), some (.int x), some (.int (nI m)), some (.int (nI (r + 1))), none, none]) ⟨rfl, rfl, rfl, rfl, rfl, trivial⟩ (v1 h1tc)
  ·
    have h1fc : ¬ 30 ≤ k := mt (nI_leI (by omega) (by omega)).mpr h1f
    refine q_iload_n d20_30 rfl ?_
    refine q_iload d20_31 rfl ?_
    refine q_invSN (av := [.int x, .int (nI k)]) (rest := []) (d' := 0) (mc' := 0) (ms' := 0) d20_33 (nv4_55 20 rfl) rfl rfl (by omega) (Nat.le_of_ble_eq_true rfl) (Nat.le_of_ble_eq_true rfl) (Nat.le_refl _) (Nat.le_refl _) ?_
    refine p21  (fun h2 => ?_) (fun h2 => ?_)
    ·
      show j_W 20 d 0 0 0 0 36 [some (.ref 204), some (.ref 108), some (.int x), some (.int (nI m)), some (.int (nI r)), some (.int (nI k)), none] [.int 1] w1 (I, D, RR R) Q
      refine q_if_ne (tgt := 56) d20_36 rfl (fun _ => ?_) (fun h => absurd h (by decide))
      refine q_iconst (v := 0) (by decide) d20_56 ?_
      refine q_istore (L' := [some (.ref 204), some (.ref 108), some (.int x), some (.int (nI m)), some (.int (nI r)), some (.int (nI k)), some (.int 0)]) d20_57 (Nat.le_of_ble_eq_true rfl) rfl ?_
      refine q_iload d20_59 rfl ?_
      refine q_if_eq (tgt := 88) d20_61 rfl (fun _ => ?_) (fun h => absurd h (by decide))
      refine q_iinc (L' := [some (.ref 204), some (.ref 108), some (.int x), some (.int (nI m)), some (.int (nI r)), some (.int (nI (k + 1))), some (.int 0)]) (v := (nI (k + 1))) d20_88 rfl (nI_inc _) rfl ?_
      refine q_goto (tgt := 23) d20_91 rfl ?_
      exact r_sub (L' := [some (.ref 204), some (.ref 108), some (.int x), some (.int (nI m)), some (.int (nI r)), some (.int (nI (k + 1))), none]) ⟨rfl, rfl, rfl, rfl, rfl, rfl, trivial⟩ (v2 h1fc h2)
    ·
      show j_W 20 d 0 0 0 0 36 [some (.ref 204), some (.ref 108), some (.int x), some (.int (nI m)), some (.int (nI r)), some (.int (nI k)), none] [.int 0] w1 (I, D, RR R) Q
      refine q_if_ne (tgt := 56) d20_36 rfl (fun h => absurd h (by decide)) (fun _ => ?_)
      refine q_aload_n d20_39 rfl ?_
      refine q_iload d20_40 rfl ?_
      refine q_invS (av := [.ref 108, .int (nI k)]) (rest := []) (d' := 0) (mc' := 0) (ms' := 0) d20_42 (cv4_59 20 rfl) rfl rfl (by omega) (Nat.le_of_ble_eq_true rfl) (Nat.le_of_ble_eq_true rfl) (Nat.le_refl _) (Nat.le_refl _) ?_
      refine c22 hR (by first | omega | decide)  ?_
      show j_W 20 d 0 0 0 0 45 [some (.ref 204), some (.ref 108), some (.int x), some (.int (nI m)), some (.int (nI r)), some (.int (nI k)), none] [.int (nby I R k)] w1 (I, D, RR R) Q
      refine q_iload_n d20_45 rfl ?_
      refine q_iconst (v := (-1)) (by decide) d20_46 ?_
      refine q_ixor d20_47 ?_
      refine q_iand d20_48 ?_
      refine q_if_ne (tgt := 56) d20_49 rfl (fun h3t => ?_) (fun h3f => ?_)
      ·
        refine q_iconst (v := 0) (by decide) d20_56 ?_
        refine q_istore (L' := [some (.ref 204), some (.ref 108), some (.int x), some (.int (nI m)), some (.int (nI r)), some (.int (nI k)), some (.int 0)]) d20_57 (Nat.le_of_ble_eq_true rfl) rfl ?_
        refine q_iload d20_59 rfl ?_
        refine q_if_eq (tgt := 88) d20_61 rfl (fun _ => ?_) (fun h => absurd h (by decide))
        refine q_iinc (L' := [some (.ref 204), some (.ref 108), some (.int x), some (.int (nI m)), some (.int (nI r)), some (.int (nI (k + 1))), some (.int 0)]) (v := (nI (k + 1))) d20_88 rfl (nI_inc _) rfl ?_
        refine q_goto (tgt := 23) d20_91 rfl ?_
        exact r_sub (L' := [some (.ref 204), some (.ref 108), some (.int x), some (.int (nI m)), some (.int (nI r)), some (.int (nI (k + 1))), none]) ⟨rfl, rfl, rfl, rfl, rfl, rfl, trivial⟩ (v3 h1fc h2 h3t)
      ·
        refine q_iconst (v := 1) (by decide) d20_52 ?_
        refine q_goto (tgt := 57) d20_53 rfl ?_
        refine q_istore (L' := [some (.ref 204), some (.ref 108), some (.int x), some (.int (nI m)), some (.int (nI r)), some (.int (nI k)), some (.int 1)]) d20_57 (Nat.le_of_ble_eq_true rfl) rfl ?_
        refine q_iload d20_59 rfl ?_
        refine q_if_eq (tgt := 88) d20_61 rfl (fun h => absurd h (by decide)) (fun _ => ?_)
        refine q_iload_n d20_64 rfl ?_
        refine q_bipush (v := 30) (by decide) d20_65 ?_
        refine q_icmp_ge (tgt := 88) d20_67 rfl (fun h4t => ?_) (fun h4f => ?_)
        ·
          have h4tc : 30 ≤ m := (nI_leI (by omega) (by omega)).mp h4t
          refine q_iinc (L' := [some (.ref 204), some (.ref 108), some (.int x), some (.int (nI m)), some (.int (nI r)), some (.int (nI (k + 1))), some (.int 1)]) (v := (nI (k + 1))) d20_88 rfl (nI_inc _) rfl ?_
          refine q_goto (tgt := 23) d20_91 rfl ?_
          exact r_sub (L' := [some (.ref 204), some (.ref 108), some (.int x), some (.int (nI m)), some (.int (nI r)), some (.int (nI (k + 1))), none]) ⟨rfl, rfl, rfl, rfl, rfl, rfl, trivial⟩ (v4 h1fc h2 h3f h4tc)
        ·
          have h4fc : ¬ 30 ≤ m := mt (nI_leI (by omega) (by omega)).mpr h4f
          refine q_iload_n d20_70 rfl ?_
          refine q_iconst (v := 1) (by decide) d20_71 ?_
          refine q_iload d20_72 rfl ?_
          refine q_ishl d20_74 ?_
          refine q_ior d20_75 ?_
          refine q_istore_n (L' := [some (.ref 204), some (.ref 108), some (.int (x ||| (1 <<< ((nI k) &&& 31)))), some (.int (nI m)), some (.int (nI r)), some (.int (nI k)), some (.int 1)]) d20_76 (Nat.le_of_ble_eq_true rfl) rfl ?_
          refine q_aload_n d20_77 rfl ?_
          refine q_getR (x := 205) d20_78 (fs4_9 20 rfl) rfl (lt_w1 rfl) sh204 (rs204_0 R) (by decide) ?_
          refine q_iload_n d20_81 rfl ?_
          refine q_iinc (L' := [some (.ref 204), some (.ref 108), some (.int (x ||| (1 <<< ((nI k) &&& 31)))), some (.int (nI (m + 1))), some (.int (nI r)), some (.int (nI k)), some (.int 1)]) (v := (nI (m + 1))) d20_82 rfl (nI_inc _) rfl ?_
          refine q_iload d20_85 rfl ?_
          refine q_iastore (a := m) d20_87 (lt_w1 rfl) sh205 rfl (by omega) ?_
          refine q_iinc (L' := [some (.ref 204), some (.ref 108), some (.int (x ||| (1 <<< ((nI k) &&& 31)))), some (.int (nI (m + 1))), some (.int (nI r)), some (.int (nI (k + 1))), some (.int 1)]) (v := (nI (k + 1))) d20_88 rfl (nI_inc _) rfl ?_
          refine q_goto (tgt := 23) d20_91 rfl ?_
          exact r_sub (L' := [some (.ref 204), some (.ref 108), some (.int (x ||| (1 <<< ((nI k) &&& 31)))), some (.int (nI (m + 1))), some (.int (nI r)), some (.int (nI (k + 1))), none]) ⟨rfl, rfl, rfl, rfl, rfl, rfl, trivial⟩ (v5 h1fc h2 h3f h4fc)

set_option maxRecDepth 10000 in
set_option maxHeartbeats 4000000 in
theorem s103e {d : Nat} {I : Nat → Nat → Int32} {D : Nat → Nat → UInt64} {R : Nat → Nat → Option Nat} {Q : j_Po}    (hd : 0 ≤ d)
    (v1 : j_W 103 d 0 0 0 0 2 [some (.ref 204), some (.int 0)] [] w1 (I, D, RR R) Q) : j_Call d 103 [.ref 204] w1 (I, D, RR R) 0 0 Q := by
  refine q_enter (L := [some (.ref 204), none]) j_m103 (Nat.le_of_ble_eq_true rfl) rfl ?_
  refine q_iconst (v := 0) (by decide) d103_0 ?_
  refine q_istore_n (L' := [some (.ref 204), some (.int 0)]) d103_1 (Nat.le_of_ble_eq_true rfl) rfl ?_
  exact r_sub (L' := [some (.ref 204), some (.int 0)]) ⟨rfl, rfl, trivial⟩ v1

set_option maxRecDepth 10000 in
set_option maxHeartbeats 4000000 in
theorem s103h {d : Nat} {I : Nat → Nat → Int32} {D : Nat → Nat → UInt64} {R : Nat → Nat → Option Nat} {Q : j_Po} {k : Nat}  (hk : k ≤ 30) (hd : 0 ≤ d)
    (v1 : (30 ≤ k) → Q (some (.int 0)) w1 (I, D, RR R))
    (v2 : (¬ 30 ≤ k) → ((I 208 k) ≤ 2000) → j_W 103 d 0 0 0 0 2 [some (.ref 204), some (.int (nI (k + 1)))] [] w1 (I, D, RR R) Q)
    (v3 : (¬ 30 ≤ k) → (¬ (I 208 k) ≤ 2000) → Q (some (.int 1)) w1 (I, D, RR R)) : j_W 103 d 0 0 0 0 2 [some (.ref 204), some (.int (nI k))] [] w1 (I, D, RR R) Q := by
  refine q_iload_n d103_2 rfl ?_
  refine q_bipush (v := 30) (by decide) d103_3 ?_
  refine q_icmp_ge (tgt := 28) d103_5 rfl (fun h1t => ?_) (fun h1f => ?_)
  ·
    have h1tc : 30 ≤ k := (nI_leI (by omega) (by omega)).mp h1t
    refine q_iconst (v := 0) (by decide) d103_28 ?_
    exact q_zret d103_29 rfl (Or.inl rfl) (Nat.le_refl _) (Nat.le_refl _) (v1 h1tc)
  ·
    have h1fc : ¬ 30 ≤ k := mt (nI_leI (by omega) (by omega)).mpr h1f
    refine q_aload_n d103_8 rfl ?_
    refine q_getR (x := 208) d103_9 (fs4_21 103 rfl) rfl (lt_w1 rfl) sh204 (rs204_3 R) (by decide) ?_
    refine q_iload_n d103_12 rfl ?_
    refine q_iaload (a := k) d103_13 (lt_w1 rfl) sh208 rfl (by omega) ?_
    refine q_sipush (v := 2000) (by decide) d103_14 ?_
    refine q_icmp_le (tgt := 22) d103_17 rfl (fun h2t => ?_) (fun h2f => ?_)
    ·
      refine q_iinc (L' := [some (.ref 204), some (.int (nI (k + 1)))]) (v := (nI (k + 1))) d103_22 rfl (nI_inc _) rfl ?_
      refine q_goto (tgt := 2) d103_25 rfl ?_
      exact r_sub (L' := [some (.ref 204), some (.int (nI (k + 1)))]) ⟨rfl, rfl, trivial⟩ (v2 h1fc h2t)
    ·
      refine q_iconst (v := 1) (by decide) d103_20 ?_
      exact q_zret d103_21 rfl (Or.inr rfl) (Nat.le_refl _) (Nat.le_refl _) (v3 h1fc h2f)

set_option maxRecDepth 10000 in
set_option maxHeartbeats 4000000 in
theorem s29 {d : Nat} {I : Nat → Nat → Int32} {D : Nat → Nat → UInt64} {R : Nat → Nat → Option Nat} {Q : j_Po} {k : Nat}  (hk : k < 24) (hd : 0 ≤ d)
    (v1 : Q none w1 ((j_u (j_u (j_u (j_u I 206 k (1 <<< ((nI k) &&& 31))) 207 k (1 <<< ((nI k) &&& 31))) 208 k 0) 209 k 0), D, RR R)) : j_Call d 29 [.ref 204, .int (nI k)] w1 (I, D, RR R) 0 0 Q := by
  refine q_enter (L := [some (.ref 204), some (.int (nI k))]) j_m29 (Nat.le_of_ble_eq_true rfl) rfl ?_
  refine q_aload_n d29_0 rfl ?_
  refine q_getR (x := 206) d29_1 (fs4_15 29 rfl) rfl (lt_w1 rfl) sh204 (rs204_1 R) (by decide) ?_
  refine q_iload_n d29_4 rfl ?_
  refine q_iconst (v := 1) (by decide) d29_5 ?_
  refine q_iload_n d29_6 rfl ?_
  refine q_ishl d29_7 ?_
  refine q_iastore (a := k) d29_8 (lt_w1 rfl) sh206 rfl (by omega) ?_
  refine q_aload_n d29_9 rfl ?_
  refine q_getR (x := 207) d29_10 (fs4_18 29 rfl) rfl (lt_w1 rfl) sh204 (rs204_2 R) (by decide) ?_
  refine q_iload_n d29_13 rfl ?_
  refine q_iconst (v := 1) (by decide) d29_14 ?_
  refine q_iload_n d29_15 rfl ?_
  refine q_ishl d29_16 ?_
  refine q_iastore (a := k) d29_17 (lt_w1 rfl) sh207 rfl (by omega) ?_
  refine q_aload_n d29_18 rfl ?_
  refine q_getR (x := 208) d29_19 (fs4_21 29 rfl) rfl (lt_w1 rfl) sh204 (rs204_3 R) (by decide) ?_
  refine q_iload_n d29_22 rfl ?_
  refine q_iconst (v := 0) (by decide) d29_23 ?_
  refine q_iastore (a := k) d29_24 (lt_w1 rfl) sh208 rfl (by omega) ?_
  refine q_aload_n d29_25 rfl ?_
  refine q_getR (x := 209) d29_26 (fs4_24 29 rfl) rfl (lt_w1 rfl) sh204 (rs204_4 R) (by decide) ?_
  refine q_iload_n d29_29 rfl ?_
  refine q_iconst (v := 0) (by decide) d29_30 ?_
  refine q_iastore (a := k) d29_31 (lt_w1 rfl) sh209 rfl (by omega) ?_
  exact q_ret d29_32 rfl (Nat.le_refl _) (Nat.le_refl _) v1

/-! counting -/
theorem cntP_mono {p q : Nat → Bool} : ∀ {n : Nat}, (∀ k, k < n → p k = true → q k = true) → cntP p n ≤ cntP q n
  | 0, _ => Nat.le_refl _
  | n + 1, h => by
    have := cntP_mono (n := n) (fun k hk => h k (by omega))
    have h2 := h n (by omega)
    rw [cntP, cntP]
    cases hp : p n with
    | false => rw [if_neg (by decide)]; omega
    | true => rw [h2 hp]; omega
theorem cntP_lt {p q : Nat → Bool} : ∀ {n : Nat}, (∀ k, k < n → p k = true → q k = true) → (∃ k, k < n ∧ p k = false ∧ q k = true) → cntP p n < cntP q n
  | 0, _, ⟨k, hk, _⟩ => absurd hk (Nat.not_lt_zero k)
  | n + 1, h, ⟨k, hk, h1, h2⟩ => by
    rw [cntP, cntP]
    rcases Nat.lt_or_ge k n with h3 | h3
    · have := cntP_lt (n := n) (fun k hk => h k (by omega)) ⟨k, h3, h1, h2⟩
      have h2 := h n (by omega)
      cases hp : p n with
      | false => rw [if_neg (by decide)]; omega
      | true => rw [h2 hp]; omega
    · have : k = n := by omega
      subst this
      have := cntP_mono (n := k) (fun k hk => h k (by omega))
      rw [h1, h2, if_neg (by decide), if_pos rfl]
      omega
theorem cntP_all {p : Nat → Bool} : ∀ {n : Nat}, n ≤ cntP p n → ∀ k, k < n → p k = true
  | 0, _, k, hk => absurd hk (Nat.not_lt_zero k)
  | n + 1, h, k, hk => by
    have h1 := cntP_le p n
    rw [cntP] at h
    cases hp : p n with
    | false => rw [hp, if_neg (by decide)] at h; omega
    | true =>
      rw [hp, if_pos rfl] at h
      rcases Nat.lt_or_ge k n with h3 | h3
      · exact cntP_all (n := n) (by omega) k h3
      · rw [show k = n by omega]; exact hp
theorem cntP_true {p : Nat → Bool} : ∀ {n : Nat}, (∀ k, k < n → p k = true) → cntP p n = n
  | 0, _ => rfl
  | n + 1, h => by rw [cntP, cntP_true (fun k hk => h k (by omega)), h n (by omega), if_pos rfl]
theorem cntP_sub {p : Nat → Bool} {n k : Nat} (hk : k < n) (h : p k = false) : cntP p n < n := by
  refine Nat.lt_of_not_le fun hc => ?_
  rw [cntP_all hc k hk] at h; cases h
/-- a rank below the number of nodes -/
theorem rank_b {E : Nat → Nat → Bool} {n : Nat} (h : ∃ ρ : Nat → Nat, ∀ u v, u < n → v < n → E u v = true → ρ v < ρ u) : ∃ ρ : Nat → Nat, (∀ u, u < n → ρ u < n) ∧ ∀ u v, u < n → v < n → E u v = true → ρ v < ρ u := by
  obtain ⟨ρ, h⟩ := h
  refine ⟨fun u => cntP (fun v => decide (ρ v < ρ u)) n, fun u hu => cntP_sub hu (by simp), fun u v hu hv he => ?_⟩
  have h1 := h u v hu hv he
  exact cntP_lt (fun k _ hk => by simp only [decide_eq_true_eq] at hk ⊢; omega) ⟨v, hv, by simp, by simpa using h1⟩
/-! all that some come to name -/
def Clo (E : Nat → Nat → Bool) (S : Nat → Bool) (x : Int32) : Prop :=
  (∀ v, v < 32 → S v = true → bt x v = true) ∧ (∀ u, u < 30 → bt x u = true → ∀ v, v < 32 → E u v = true → bt x v = true) ∧
  ∀ T : Nat → Prop, (∀ v, v < 32 → S v = true → T v) → (∀ u v, u < 30 → v < 32 → T u → E u v = true → T v) → ∀ v, v < 32 → bt x v = true → T v
theorem Clo.uni {E : Nat → Nat → Bool} {S : Nat → Bool} {x y : Int32} (hx : Clo E S x) (hy : Clo E S y) : x = y := by
  refine b_ext fun v hv => ?_
  have h1 := hx.2.2 (fun v => bt y v = true) (fun v hv h => hy.1 v hv h) (fun u v hu hv h he => hy.2.1 u hu h v hv he) v hv
  have h2 := hy.2.2 (fun v => bt x v = true) (fun v hv h => hx.1 v hv h) (fun u v hu hv h he => hx.2.1 u hu h v hv he) v hv
  cases hb : bt x v with
  | true => exact (h1 hb).symm
  | false => cases hc : bt y v with
    | false => rfl
    | true => rw [h2 hc] at hb; cases hb
section AN
variable {d : Nat} {I : Nat → Nat → Int32} {D : Nat → Nat → UInt64} {R : Nat → Nat → Option Nat} {Q : j_Po} {E : Nat → Nat → Bool} {S : Nat → Bool}
theorem l101i (hR : WFR R) (hd : 1 ≤ d) (hE : ∀ u, u < 30 → ∀ v, v < 32 → bt (nby I R u) v = E u v) {y : Int32} {r : Nat} (hr : r < 30)
    (K : ∀ x, (∀ v, v < 32 → bt y v = true → bt x v = true) → (∀ u, u < 30 → bt y u = true → ∀ v, v < 32 → E u v = true → bt x v = true) → (∀ T : Nat → Prop, (∀ v, v < 32 → S v = true → T v) → (∀ u v, u < 30 → v < 32 → T u → E u v = true → T v) → ∀ v, v < 32 → bt x v = true → T v) → j_W 101 d 0 0 0 0 8 [none, some (.ref 108), none, some (.int x), some (.int y), some (.int (nI (r + 1))), none] [] w1 (I, D, RR R) Q) :
    ∀ (n k : Nat) (x : Int32), n + k = 30 → (∀ v, v < 32 → bt y v = true → bt x v = true) → (∀ u, u < k → bt y u = true → ∀ v, v < 32 → E u v = true → bt x v = true) → (∀ T : Nat → Prop, (∀ v, v < 32 → S v = true → T v) → (∀ u v, u < 30 → v < 32 → T u → E u v = true → T v) → ∀ v, v < 32 → bt x v = true → T v) →
    j_W 101 d 0 0 0 0 27 [none, some (.ref 108), none, some (.int x), some (.int y), some (.int (nI r)), some (.int (nI k))] [] w1 (I, D, RR R) Q := by
  intro n
  induction n with
  | zero =>
    intro k x hk h1 h2 h3
    have : k = 30 := by omega
    subst this
    exact s101i hR hr (by omega) hd (fun _ => K x h1 h2 h3) (fun h => absurd (by omega) h) (fun h => absurd (by omega) h)
  | succ n ih =>
    intro k x hk h1 h2 h3
    have hk30 : k < 30 := by omega
    refine s101i hR hr (by omega) hd (fun h => absurd h (by omega)) (fun _ g => ?_) (fun _ g => ?_)
    · have gb := (hn_t (by omega)).mp g
      refine ih (k + 1) _ (by omega) (fun v hv hy => by rw [b_or, h1 v hv hy, Bool.true_or]) (fun u hu hy v hv he => ?_) (fun T t1 t2 v hv hx => ?_)
      · rw [b_or]
        rcases Nat.lt_or_ge u k with hu2 | hu2
        · rw [h2 u hu2 hy v hv he, Bool.true_or]
        · have : u = k := by omega
          subst this
          rw [hE u hk30 v hv, he, Bool.or_true]
      · rw [b_or, Bool.or_eq_true, hE k hk30 v hv] at hx
        rcases hx with hx | hx
        · exact h3 T t1 t2 v hv hx
        · exact t2 k v hk30 hv (h3 T t1 t2 k (by omega) gb) hx
    · have gb : bt x k = false := by
        cases hb : bt x k with
        | false => rfl
        | true => exact absurd ((hn_t (by omega)).mpr hb) g
      refine ih (k + 1) x (by omega) h1 (fun u hu hy v hv he => ?_) h3
      rcases Nat.lt_or_ge u k with hu2 | hu2
      · exact h2 u hu2 hy v hv he
      · have : u = k := by omega
        subst this
        rw [h1 u (by omega) hy] at gb; cases gb
theorem l101o (hR : WFR R) (hd : 1 ≤ d) (hE : ∀ u, u < 30 → ∀ v, v < 32 → bt (nby I R u) v = E u v) (hEb : ∀ u v, u < 30 → E u v = true → v < 30) (hq : ∀ x, Clo E S x → Q (some (.int x)) w1 (I, D, RR R)) :
    ∀ (n r : Nat) (x y : Int32), n + r = 30 → (∀ v, v < 32 → S v = true → bt x v = true) → (∀ v, v < 32 → bt y v = true → bt x v = true) → (∀ u, u < 30 → bt y u = true → ∀ v, v < 32 → E u v = true → bt x v = true) → (∀ T : Nat → Prop, (∀ v, v < 32 → S v = true → T v) → (∀ u v, u < 30 → v < 32 → T u → E u v = true → T v) → ∀ v, v < 32 → bt x v = true → T v) → (x ≠ y → r ≤ cntP (bt x) 30) → (∀ v, v < 32 → bt x v = true → v < 30) →
    j_W 101 d 0 0 0 0 8 [none, some (.ref 108), none, some (.int x), some (.int y), some (.int (nI r)), none] [] w1 (I, D, RR R) Q := by
  intro n
  induction n with
  | zero =>
    intro r x y hr h0 h1 h2 h3 h4 h5
    have : r = 30 := by omega
    subst this
    refine s101o hR (by omega) hd (fun _ => hq x ⟨h0, fun u hu hx v hv he => ?_, h3⟩) (fun h => absurd (by omega) h) (fun h => absurd (by omega) h)
    by_cases e : x = y
    · subst e; exact h2 u hu hx v hv he
    · exact cntP_all (h4 e) v (hEb u v hu he)
  | succ n ih =>
    intro r x y hr h0 h1 h2 h3 h4 h5
    refine s101o hR (by omega) hd (fun h => absurd h (by omega)) (fun _ e => ?_) (fun _ e => ?_)
    · subst e
      exact hq x ⟨h0, h2, h3⟩
    · refine l101i (S := S) hR hd hE (by omega) (fun x' k1 k2 k3 => ?_) 30 0 x rfl (fun v hv h => h) (fun u hu => absurd hu (Nat.not_lt_zero u)) h3
      refine ih (r + 1) x' x (by omega) (fun v hv h => k1 v hv (h0 v hv h)) k1 k2 k3 (fun hne => ?_) (fun v hv hx => ?_)
      · obtain ⟨i, hi, hb⟩ := bt_ne hne
        have h6 : bt x i = false ∧ bt x' i = true := by
          cases hx : bt x i with
          | true => rw [hx, k1 i hi hx] at hb; exact absurd rfl hb
          | false => cases hx2 : bt x' i with
            | true => exact ⟨rfl, rfl⟩
            | false => rw [hx, hx2] at hb; exact absurd rfl hb
        have h7 : i < 30 := by
          refine k3 (fun v => v < 30) (fun v hv hs => h5 v hv (h0 v hv hs)) (fun u v hu _ _ he => hEb u v hu he) i hi h6.2
        have := cntP_lt (p := bt x) (q := bt x') (n := 30) (fun k hk h => k1 k (by omega) h) ⟨i, h7, h6⟩
        have := h4 e
        omega
      · exact k3 (fun v => v < 30) (fun v hv hs => h5 v hv (h0 v hv hs)) (fun u v hu _ _ he => hEb u v hu he) v hv hx
theorem c101 {a : Int32} (hR : WFR R) (hd : 1 ≤ d) (hE : ∀ u, u < 30 → ∀ v, v < 32 → bt (nby I R u) v = E u v) (hEb : ∀ u v, u < 30 → E u v = true → v < 30) (hS : ∀ v, v < 32 → bt a v = S v) (hSb : ∀ v, v < 32 → S v = true → v < 30) (hq : ∀ x, Clo E S x → Q (some (.int x)) w1 (I, D, RR R)) : j_Call d 101 [.ref 204, .ref 108, .int a] w1 (I, D, RR R) 0 0 Q := by
  refine s101e hR hd (l101o (S := S) hR hd hE hEb hq 30 0 a 0 rfl (fun v hv h => by rw [hS v hv]; exact h) (fun v hv h => by rw [b_0] at h; cases h) (fun u hu h => by rw [b_0] at h; cases h) (fun T t1 t2 v hv h => t1 v hv (by rw [← hS v hv]; exact h)) (fun _ => Nat.zero_le _) (fun v hv h => hSb v hv (by rw [← hS v hv]; exact h)))
end AN
/-! the order -/
def Ord (E : Nat → Nat → Bool) (o : Nat → Nat) (m : Nat) (I : Nat → Nat → Int32) : Prop :=
  (∀ k, k < m → I 205 k = nI (o k) ∧ o k < 30) ∧ (∀ k, k < m → ∀ v, v < 32 → E (o k) v = true → ∃ j, j < k ∧ o j = v) ∧ ∀ i j, i < m → j < m → o i = o j → i = j
theorem nby_u {I I' : Nat → Nat → Int32} {R : Nat → Nat → Option Nat} (hR : WFR R) (h : ∀ o, (o < 205 ∨ 211 ≤ o) → I' o = I o) {u : Nat} (hu : u < 30) : nby I' R u = nby I R u := by
  have fb : ∀ c, c < 24 → I' (fo R c) = I (fo R c) := fun c hc => h _ (by rcases (hR.1 c hc).2 with h | ⟨k, h1, h2⟩ <;> omega)
  have gb : ∀ t, t < 6 → I' (go R t) = I (go R t) := fun t ht => h _ (by rcases (hR.2.1 t ht).2 with h | ⟨k, h1, h2⟩ <;> omega)
  unfold nby
  split
  · rw [fb u (by assumption)]
  · rw [gb (u - 24) (by omega)]
section AR
variable {d : Nat} {I : Nat → Nat → Int32} {D : Nat → Nat → UInt64} {R : Nat → Nat → Option Nat} {Q : j_Po} {E : Nat → Nat → Bool} {ρ : Nat → Nat}
def ArI (E : Nat → Nat → Bool) (I0 I : Nat → Nat → Int32) (x : Int32) (m : Nat) : Prop :=
  (∀ o, o ≠ 205 → I o = I0 o) ∧ m = cntP (bt x) 30 ∧ ∃ o : Nat → Nat, Ord E o m I ∧ ∀ v, v < 32 → (bt x v = true ↔ ∃ j, j < m ∧ o j = v)
theorem l20i (hR : WFR R) (hd : 1 ≤ d) {I0 : Nat → Nat → Int32} (hE : ∀ u, u < 30 → ∀ v, v < 32 → bt (nby I0 R u) v = E u v) (hρ : ∀ u v, u < 30 → v < 30 → E u v = true → ρ v < ρ u) (hEb : ∀ u v, u < 30 → E u v = true → v < 30) {r : Nat} (hr : r < 30)
    (K : ∀ I x m, m ≤ 30 → ArI E I0 I x m → (∀ v, v < 30 → ρ v < r + 1 → bt x v = true) → j_W 20 d 0 0 0 0 7 [some (.ref 204), some (.ref 108), some (.int x), some (.int (nI m)), some (.int (nI (r + 1))), none, none] [] w1 (I, D, RR R) Q) :
    ∀ (n k m : Nat) (I : Nat → Nat → Int32) (x : Int32), n + k = 30 → m ≤ 30 → ArI E I0 I x m → (∀ v, v < 30 → ρ v < r → bt x v = true) → (∀ v, v < k → ρ v < r + 1 → bt x v = true) →
    j_W 20 d 0 0 0 0 23 [some (.ref 204), some (.ref 108), some (.int x), some (.int (nI m)), some (.int (nI r)), some (.int (nI k)), none] [] w1 (I, D, RR R) Q := by
  intro n
  induction n with
  | zero =>
    intro k m I x hk hm h1 h2 h3
    have : k = 30 := by omega
    subst this
    exact s20i hR hr hm (by omega) hd (fun _ => K I x m hm h1 h3) (fun h => absurd (by omega) h) (fun h => absurd (by omega) h) (fun h => absurd (by omega) h) (fun h => absurd (by omega) h)
  | succ n ih =>
    intro k m I x hk hm h1 h2 h3
    have hk30 : k < 30 := by omega
    obtain ⟨a1, a2, o, a3, a4⟩ := h1
    have hN : nby I R k = nby I0 R k := nby_u hR (fun o' ho => a1 o' (by omega)) hk30
    have pre : ∀ v, v < 30 → E k v = true → ρ k < r + 1 → bt x v = true := fun v hv he hk2 => h2 v hv (by have := hρ k v hk30 hv he; omega)
    have rdy : (nby I R k &&& (x ^^^ (-1))) = 0 ↔ ∀ v, v < 32 → E k v = true → bt x v = true := by
      rw [hN]
      constructor
      · intro h v hv he
        have : bt (nby I0 R k &&& (x ^^^ (-1))) v = false := by rw [h, b_0]
        rw [b_and, hE k hk30 v hv, he, Bool.true_and, bt_not x hv] at this
        simpa using this
      · intro h
        refine b_ext fun v hv => ?_
        rw [b_and, hE k hk30 v hv, bt_not x hv, b_0]
        cases he : E k v with
        | false => rfl
        | true => rw [h v hv he]; rfl
    have keep : ∀ {P : Prop}, (ρ k < r + 1 → P) → (∀ v, v < k → ρ v < r + 1 → bt x v = true) := fun _ => h3
    refine s20i hR hr hm (by omega) hd (fun h => absurd h (by omega)) (fun _ g => ?_) (fun _ g g2 => ?_) (fun _ g g2 g3 => ?_) (fun _ g g2 g3 => ?_)
    · have gb := (hn_t (by omega)).mp g
      refine ih (k + 1) m I x (by omega) hm ⟨a1, a2, o, a3, a4⟩ h2 (fun v hv hv2 => ?_)
      rcases Nat.lt_or_ge v k with h | h
      · exact h3 v h hv2
      · rw [show v = k by omega]; exact gb
    · refine ih (k + 1) m I x (by omega) hm ⟨a1, a2, o, a3, a4⟩ h2 (fun v hv hv2 => ?_)
      rcases Nat.lt_or_ge v k with h | h
      · exact h3 v h hv2
      · have : v = k := by omega
        subst this
        exact absurd (rdy.mpr fun w hw he => pre w (hEb _ _ hk30 he) he hv2) g2
    · exfalso
      have gb : bt x k = false := by
        cases hb : bt x k with
        | false => rfl
        | true => exact absurd ((hn_t (by omega)).mpr hb) g
      have := cntP_sub hk30 gb
      omega
    · have gb : bt x k = false := by
        cases hb : bt x k with
        | false => rfl
        | true => exact absurd ((hn_t (by omega)).mpr hb) g
      have hr2 := rdy.mp g2
      have hnew : ∀ v, v < 32 → bt (x ||| (1 <<< (nI k &&& 31))) v = (bt x v || decide (v = k)) := fun v hv => by rw [b_or, bt_one (by omega) hv]
      have hno : ∀ j, j < m → o j ≠ k := fun j hj e => by
        rw [(a4 k (by omega)).mpr ⟨j, hj, e⟩] at gb; cases gb
      refine ih (k + 1) (m + 1) _ _ (by omega) (by omega) ⟨fun o' ho => ?_, ?_, fun j => if j = m then k else o j, ⟨fun j hj => ?_, fun j hj v hv he => ?_, fun i j hi hj e => ?_⟩, fun v hv => ?_⟩ (fun v hv hv2 => ?_) (fun v hv hv2 => ?_)
      · rw [← a1 o' ho]
        funext k'
        exact j_u_o _ _ _ ho
      · have e1 : cntP (bt (x ||| (1 <<< (nI k &&& 31)))) 30 = cntP (fun v => bt x v || decide (v = k)) 30 := cntP_cg fun v hv => hnew v (by omega)
        have e2 : ∀ N, k < N → N ≤ 32 → cntP (fun v => bt x v || decide (v = k)) N = cntP (bt x) N + 1 := by
          intro N
          induction N with
          | zero => intro h; omega
          | succ N ihN =>
            intro h h9
            rw [cntP, cntP]
            rcases Nat.lt_or_ge k N with h2 | h2
            · rw [ihN h2 (by omega)]
              simp only [decide_eq_false (show ¬ N = k by omega), Bool.or_false]
              omega
            · have : N = k := by omega
              subst this
              have e3 : cntP (fun v => bt x v || decide (v = N)) N = cntP (bt x) N := cntP_cg fun v hv => by rw [decide_eq_false (by omega), Bool.or_false]
              rw [e3, gb]
              simp
        rw [e1, e2 30 hk30 (by omega), ← a2]
      · by_cases e : j = m
        · subst e
          show j_u I 205 j (nI k) 205 j = nI (if j = j then k else o j) ∧ (if j = j then k else o j) < 30
          rw [if_pos rfl, j_u_same]
          exact ⟨rfl, hk30⟩
        · show j_u I 205 m (nI k) 205 j = nI (if j = m then k else o j) ∧ (if j = m then k else o j) < 30
          rw [if_neg e, j_u_k _ _ e]
          exact a3.1 j (by omega)
      · by_cases e : j = m
        · subst e
          simp only [if_true] at he
          obtain ⟨i, hi, h9⟩ := (a4 v hv).mp (hr2 v hv he)
          exact ⟨i, hi, (if_neg (show ¬ i = _ by omega)).trans h9⟩
        · simp only [if_neg e] at he
          obtain ⟨i, hi, h9⟩ := a3.2.1 j (by omega) v hv he
          exact ⟨i, hi, (if_neg (show ¬ i = _ by omega)).trans h9⟩
      · by_cases e1 : i = m
        · by_cases e2 : j = m
          · omega
          · simp only [e1, if_true, if_neg e2] at e
            exact absurd e.symm (hno j (by omega))
        · by_cases e2 : j = m
          · simp only [e2, if_true, if_neg e1] at e
            exact absurd e (hno i (by omega))
          · simp only [if_neg e1, if_neg e2] at e
            exact a3.2.2 i j (by omega) (by omega) e
      · rw [hnew v hv, Bool.or_eq_true, a4 v hv, decide_eq_true_eq]
        constructor
        · rintro (⟨j, hj, h9⟩ | h9)
          · exact ⟨j, by omega, (if_neg (show ¬ j = m by omega)).trans h9⟩
          · exact ⟨m, by omega, (if_pos rfl).trans h9.symm⟩
        · rintro ⟨j, hj, h9⟩
          by_cases e : j = m
          · exact Or.inr ((if_pos e).symm.trans h9).symm
          · exact Or.inl ⟨j, by omega, (if_neg e).symm.trans h9⟩
      · rw [hnew v (by omega), h2 v hv hv2, Bool.true_or]
      · rw [hnew v (by omega)]
        rcases Nat.lt_or_ge v k with h | h
        · rw [h3 v h hv2, Bool.true_or]
        · rw [decide_eq_true (show v = k by omega), Bool.or_true]
theorem l20o (hR : WFR R) (hd : 1 ≤ d) {I0 : Nat → Nat → Int32} (hE : ∀ u, u < 30 → ∀ v, v < 32 → bt (nby I0 R u) v = E u v) (hρ : ∀ u v, u < 30 → v < 30 → E u v = true → ρ v < ρ u) (hb : ∀ u, u < 30 → ρ u < 30) (hEb : ∀ u v, u < 30 → E u v = true → v < 30)
    (hq : ∀ I o, (∀ o', o' ≠ 205 → I o' = I0 o') → Ord E o 30 I → (∀ v, v < 30 → ∃ k, k < 30 ∧ o k = v) → Q none w1 (I, D, RR R)) :
    ∀ (n r m : Nat) (I : Nat → Nat → Int32) (x : Int32), n + r = 30 → m ≤ 30 → ArI E I0 I x m → (∀ v, v < 30 → ρ v < r → bt x v = true) →
    j_W 20 d 0 0 0 0 7 [some (.ref 204), some (.ref 108), some (.int x), some (.int (nI m)), some (.int (nI r)), none, none] [] w1 (I, D, RR R) Q := by
  have fin : ∀ I x m, ArI E I0 I x m → (∀ v, v < 30 → bt x v = true) → Q none w1 (I, D, RR R) := by
    intro I x m ⟨a1, a2, o, a3, a4⟩ h
    have : m = 30 := by rw [a2]; exact cntP_true h
    subst this
    exact hq I o a1 a3 fun v hv => (a4 v (by omega)).mp (h v hv)
  intro n
  induction n with
  | zero =>
    intro r m I x hr hm h1 h2
    have : r = 30 := by omega
    subst this
    exact s20o hR (by omega) hm hd (fun _ => fin I x m h1 fun v hv => h2 v hv (hb v hv)) (fun h => absurd (by omega) h) (fun h => absurd (by omega) h)
  | succ n ih =>
    intro r m I x hr hm h1 h2
    refine s20o hR (by omega) hm hd (fun h => absurd h (by omega)) (fun _ h => ?_) (fun _ h => ?_)
    · exact fin I x m h1 (cntP_all (by rw [← h1.2.1]; exact h))
    · exact l20i hR hd hE hρ hEb (by omega) (fun I x m hm h1 h3 => ih (r + 1) m I x (by omega) hm h1 h3) 30 0 m I x rfl hm h1 h2 (fun v hv => absurd hv (Nat.not_lt_zero v))
theorem c20 (hR : WFR R) (hd : 1 ≤ d) (hE : ∀ u, u < 30 → ∀ v, v < 32 → bt (nby I R u) v = E u v) (hac : ∃ ρ : Nat → Nat, ∀ u v, u < 30 → v < 30 → E u v = true → ρ v < ρ u) (hEb : ∀ u v, u < 30 → E u v = true → v < 30)
    (hq : ∀ I' o, (∀ o', o' ≠ 205 → I' o' = I o') → Ord E o 30 I' → (∀ v, v < 30 → ∃ k, k < 30 ∧ o k = v) → Q none w1 (I', D, RR R)) : j_Call d 20 [.ref 204, .ref 108] w1 (I, D, RR R) 0 0 Q := by
  obtain ⟨ρ, hb, hρ⟩ := rank_b hac
  have hz : (0 : Nat) = cntP (bt 0) 30 := by decide +kernel
  exact s20e hR hd (l20o (ρ := ρ) hR hd hE hρ hb hEb hq 30 0 0 I 0 rfl (by omega) ⟨fun _ _ => rfl, hz, fun _ => 0, ⟨fun k hk => absurd hk (Nat.not_lt_zero k), fun k hk => absurd hk (Nat.not_lt_zero k), fun i j hi => absurd hi (Nat.not_lt_zero i)⟩, fun v hv => ⟨fun h => (by rw [b_0] at h; cases h), fun ⟨j, hj, _⟩ => absurd hj (Nat.not_lt_zero j)⟩⟩ (fun v hv h => absurd h (Nat.not_lt_zero _)))
end AR
section HV
variable {d : Nat} {I : Nat → Nat → Int32} {D : Nat → Nat → UInt64} {R : Nat → Nat → Option Nat} {Q : j_Po}
theorem l103 (h1 : (∃ v, v < 30 ∧ ¬ I 208 v ≤ 2000) → Q (some (.int 1)) w1 (I, D, RR R)) (h0 : (∀ v, v < 30 → I 208 v ≤ 2000) → Q (some (.int 0)) w1 (I, D, RR R)) : ∀ (n k : Nat), n + k = 30 → (∀ v, v < k → I 208 v ≤ 2000) → j_W 103 d 0 0 0 0 2 [some (.ref 204), some (.int (nI k))] [] w1 (I, D, RR R) Q := by
  intro n
  induction n with
  | zero =>
    intro k hk h
    exact s103h (by omega) (Nat.zero_le _) (fun _ => h0 fun v hv => h v (by omega)) (fun h => absurd (by omega) h) (fun h => absurd (by omega) h)
  | succ n ih =>
    intro k hk h
    refine s103h (by omega) (Nat.zero_le _) (fun h => absurd h (by omega)) (fun _ g => ih (k + 1) (by omega) (fun v hv => ?_)) (fun _ g => h1 ⟨k, by omega, g⟩)
    rcases Nat.lt_or_ge v k with h2 | h2
    · exact h v h2
    · rw [show v = k by omega]; exact g
theorem c103 (h1 : (∃ v, v < 30 ∧ ¬ I 208 v ≤ 2000) → Q (some (.int 1)) w1 (I, D, RR R)) (h0 : (∀ v, v < 30 → I 208 v ≤ 2000) → Q (some (.int 0)) w1 (I, D, RR R)) : j_Call d 103 [.ref 204] w1 (I, D, RR R) 0 0 Q :=
  s103e (Nat.zero_le _) (l103 h1 h0 30 0 rfl (fun v hv => absurd hv (Nat.not_lt_zero v)))
end HV
