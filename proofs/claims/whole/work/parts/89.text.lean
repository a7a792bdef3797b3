/-! text constants -/
section RC
variable {i d mc ms k n pc : Nat} {L : List (Option Value)} {st : List Value} {w : j_Wd} {τ : j_St} {Q : j_Po}
theorem q_i2c {x : Int32} (hd : j_At i pc .i2c 1) (kk : j_W i d mc ms k n (pc + 1) L (.int (x.toUInt32 % 65536).toInt32 :: st) w τ Q) : j_W i d mc ms k n pc L (.int x :: st) w τ Q := fun l g p e s m args below meth c C H locs ls hR hS hL => lv_i2c C.1 C.2.1 hd rfl (kk l g p e s m args below meth c C H locs ls hR hS hL)
end RC
theorem j_len_lt {q : Nat} (hq : q < 9) : j_len.getD q 0 < 12 := by
  have : ∀ q, q < 9 → j_len.getD q 0 < 12 := by decide
  exact this q hq
theorem j_byt_lt {q i : Nat} (hq : q < 9) (hi : i < j_len.getD q 0) : ∃ b : Nat, b < 128 ∧ (j_byt.getD q []).getD i 0 = nI b ∧ narrow .byte (.int ((j_byt.getD q []).getD i 0)) = .int ((j_byt.getD q []).getD i 0) := by
  have h0 : ∀ q, q < 9 → ∀ i, i < 12 → i < j_len.getD q 0 → ((j_byt.getD q []).getD i 0).toNatClampNeg < 128 ∧ (j_byt.getD q []).getD i 0 = nI ((j_byt.getD q []).getD i 0).toNatClampNeg := by decide +kernel
  obtain ⟨b, h1, h2⟩ : ∃ b : Nat, b < 128 ∧ (j_byt.getD q []).getD i 0 = nI b := ⟨_, h0 q hq i (by have := j_len_lt hq; omega) hi⟩
  refine ⟨b, h1, h2, ?_⟩
  rw [h2]
  have : ∀ b, b < 128 → narrow .byte (.int (nI b)) = .int (nI b) := by decide
  exact this b h1
set_option maxRecDepth 10000 in
set_option maxHeartbeats 4000000 in
theorem s73 {d : Nat} {I : Nat → Nat → Int32} {D : Nat → Nat → UInt64} {R : Nat → Nat → Option Nat} {Q : j_Po} {q : Nat}  (hq : q < 9) (hd : 0 ≤ d)
    (v1 : Q (some (.int 0)) w1 (I, D, RR R))
    (v2 : narrow .byte (.int 0) = .int 0) : j_Call d 73 [.ref (1000000 + 2 * q)] w1 (I, D, RR R) 0 0 Q := by
  refine q_enter (L := [some (.ref (1000000 + 2 * q))]) j_m73 (Nat.le_of_ble_eq_true rfl) rfl ?_
  refine q_compact d73_0 (j_i3 183 rfl) ?_
  refine q_if_eq (tgt := 13) d73_3 rfl (fun h => absurd h (by decide)) (fun _ => ?_)
  refine q_aload_n d73_6 rfl ?_
  refine q_scoder (q := q) d73_7 hq (j_i8 133 rfl) ?_
  refine q_goto (tgt := 14) d73_10 rfl ?_
  exact q_bret d73_14 rfl v2 (Nat.le_refl _) (Nat.le_refl _) v1

set_option maxRecDepth 10000 in
set_option maxHeartbeats 4000000 in
theorem s75 {d : Nat} {I : Nat → Nat → Int32} {D : Nat → Nat → UInt64} {R : Nat → Nat → Option Nat} {Q : j_Po} {q : Nat}  (hq : q < 9) (hd : 0 ≤ d)
    (v1 : Q (some (.int 1)) w1 (I, D, RR R)) : j_Call d 75 [.ref (1000000 + 2 * q)] w1 (I, D, RR R) 0 0 Q := by
  refine q_enter (L := [some (.ref (1000000 + 2 * q))]) j_m75 (Nat.le_of_ble_eq_true rfl) rfl ?_
  refine q_compact d75_0 (j_i3 183 rfl) ?_
  refine q_if_eq (tgt := 17) d75_3 rfl (fun h => absurd h (by decide)) (fun _ => ?_)
  refine q_aload_n d75_6 rfl ?_
  refine q_scoder (q := q) d75_7 hq (j_i8 133 rfl) ?_
  refine q_if_ne (tgt := 17) d75_10 rfl (fun h => absurd h (by decide)) (fun _ => ?_)
  refine q_iconst (v := 1) (by decide) d75_13 ?_
  refine q_goto (tgt := 18) d75_14 rfl ?_
  exact q_zret d75_18 rfl (Or.inr rfl) (Nat.le_refl _) (Nat.le_refl _) v1

set_option maxRecDepth 10000 in
set_option maxHeartbeats 4000000 in
theorem s78 {d : Nat} {I : Nat → Nat → Int32} {D : Nat → Nat → UInt64} {R : Nat → Nat → Option Nat} {Q : j_Po} {i : Nat} {n : Nat}  (hi : i < n) (hn : n < 100) (hd : 0 ≤ d)
    (v1 : ((nI i) < 0) → j_W 78 d 0 0 0 0 9 [none, none, none] [] w1 (I, D, RR R) Q)
    (v2 : (¬ (nI i) < 0) → (i < n) → Q (some (.int (nI i))) w1 (I, D, RR R))
    (v3 : (¬ (nI i) < 0) → (¬ i < n) → j_W 78 d 0 0 0 0 9 [none, none, none] [] w1 (I, D, RR R) Q) : j_Call d 78 [.int (nI i), .int (nI n), .ref 1000098] w1 (I, D, RR R) 0 0 Q := by
  refine q_enter (L := [some (.int (nI i)), some (.int (nI n)), some (.ref 1000098)]) j_m78 (Nat.le_of_ble_eq_true rfl) rfl ?_
  refine q_iload_n d78_0 rfl ?_
  refine q_if_lt (tgt := 9) d78_1 rfl (fun h1t => ?_) (fun h1f => ?_)
  ·
    exact r_sub (L' := [none, none, none]) trivial (v1 h1t)
  ·
    refine q_iload_n d78_4 rfl ?_
    refine q_iload_n d78_5 rfl ?_
    refine q_icmp_lt (tgt := 16) d78_6 rfl (fun h2t => ?_) (fun h2f => ?_)
    ·
      have h2tc : i < n := (nI_ltI (by omega) (by omega)).mp h2t
      refine q_iload_n d78_16 rfl ?_
      exact q_iret d78_17 rfl (Nat.le_refl _) (Nat.le_refl _) (v2 h1f h2tc)
    ·
      have h2fc : ¬ i < n := mt (nI_ltI (by omega) (by omega)).mpr h2f
      exact r_sub (L' := [none, none, none]) trivial (v3 h1f h2fc)

theorem nI_n0 {i : Nat} (h : i < 2 ^ 31) : ¬ (nI i) < 0 := fun h2 => absurd ((nI_ltI (b := 0) h (by decide)).mp h2) (Nat.not_lt_zero _)
set_option maxRecDepth 10000 in
set_option maxHeartbeats 4000000 in
theorem s72 {d : Nat} {I : Nat → Nat → Int32} {D : Nat → Nat → UInt64} {R : Nat → Nat → Option Nat} {Q : j_Po} {q : Nat}  (hq : q < 9) (hd : 1 ≤ d)
    (v1 : narrow .byte (.int 0) = .int 0)
    (v2 : Q (some (.int ((Int32.ofNat (j_len.getD q 0)) >>> (0 &&& 31)))) w1 (I, D, RR R)) : j_Call d 72 [.ref (1000000 + 2 * q)] w1 (I, D, RR R) 0 0 Q := by
  refine q_enter (L := [some (.ref (1000000 + 2 * q))]) j_m72 (Nat.le_of_ble_eq_true rfl) rfl ?_
  refine q_aload_n d72_0 rfl ?_
  refine q_sval (q := q) d72_1 hq (j_i8 132 rfl) ?_
  refine q_sblen (q := q) d72_4 hq ?_
  refine q_aload_n d72_5 rfl ?_
  refine q_invStr (q := q) (av := []) (rest := [.int (Int32.ofNat (j_len.getD q 0))]) (d' := 0) d72_6 (cv13_335 72 rfl) rfl hq rfl rfl (by omega) (Nat.le_of_ble_eq_true rfl) (Nat.le_of_ble_eq_true rfl) (Nat.le_refl _) (Nat.le_refl _) ?_
  refine s73 (q := q) hq (Nat.le_refl _) ?_ v1
  show j_W 72 d 0 0 0 0 9 [some (.ref (1000000 + 2 * q))] [.int 0, .int (Int32.ofNat (j_len.getD q 0))] w1 (I, D, RR R) Q
  refine q_ishr d72_9 ?_
  exact q_iret d72_10 rfl (Nat.le_refl _) (Nat.le_refl _) v2

section TX
variable {d q i n : Nat} {I : Nat → Nat → Int32} {D : Nat → Nat → UInt64} {R : Nat → Nat → Option Nat} {Q : j_Po}
theorem c78 (hi : i < n) (hn : n < 100) (hq : Q (some (.int (nI i))) w1 (I, D, RR R)) : j_Call d 78 [.int (nI i), .int (nI n), .ref 1000098] w1 (I, D, RR R) 0 0 Q :=
  s78 hi hn (Nat.zero_le _) (fun h => absurd h (nI_n0 (by omega))) (fun _ _ => hq) (fun _ h => absurd hi h)
theorem c72 (hq9 : q < 9) (hd : 1 ≤ d) (hq : Q (some (.int (nI (j_len.getD q 0)))) w1 (I, D, RR R)) : j_Call d 72 [.ref (1000000 + 2 * q)] w1 (I, D, RR R) 0 0 Q := by
  refine s72 hq9 hd (by decide) ?_
  have : (Int32.ofNat (j_len.getD q 0)) >>> (0 &&& 31) = nI (j_len.getD q 0) := by
    have h0 : ∀ z, z < 12 → (Int32.ofNat z) >>> (0 &&& 31) = nI z := by decide +kernel
    exact h0 _ (j_len_lt hq9)
  rw [this]; exact hq
end TX
set_option maxRecDepth 10000 in
set_option maxHeartbeats 4000000 in
theorem s77 {d : Nat} {I : Nat → Nat → Int32} {D : Nat → Nat → UInt64} {R : Nat → Nat → Option Nat} {Q : j_Po} {i : Nat} {n : Nat}  (hi : i < n) (hn : n < 100) (hd : 1 ≤ d)
    (v1 : i < n)
    (v2 : n < 100)
    (v3 : Q none w1 (I, D, RR R)) : j_Call d 77 [.int (nI i), .int (nI n)] w1 (I, D, RR R) 0 0 Q := by
  refine q_enter (L := [some (.int (nI i)), some (.int (nI n))]) j_m77 (Nat.le_of_ble_eq_true rfl) rfl ?_
  refine q_iload_n d77_0 rfl ?_
  refine q_iload_n d77_1 rfl ?_
  refine q_fmter d77_2 (j_i3 199 rfl) ?_
  refine q_invS (av := [.int (nI i), .int (nI n), .ref 1000098]) (rest := []) (d' := 0) (mc' := 0) (ms' := 0) d77_5 (cv13_1059 77 rfl) rfl rfl (by omega) (Nat.le_of_ble_eq_true rfl) (Nat.le_of_ble_eq_true rfl) (Nat.le_refl _) (Nat.le_refl _) ?_
  refine c78 v1 v2 ?_
  show j_W 77 d 0 0 0 0 8 [some (.int (nI i)), some (.int (nI n))] [.int (nI i)] w1 (I, D, RR R) Q
  refine q_pop rfl d77_8 ?_
  exact q_ret d77_9 rfl (Nat.le_refl _) (Nat.le_refl _) v3

set_option maxRecDepth 10000 in
set_option maxHeartbeats 4000000 in
theorem s76 {d : Nat} {I : Nat → Nat → Int32} {D : Nat → Nat → UInt64} {R : Nat → Nat → Option Nat} {Q : j_Po} {q : Nat} {i : Nat}  (hq : q < 9) (hi : i < j_len.getD q 0) (hd : 2 ≤ d)
    (v1 : i < (j_len.getD q 0))
    (v2 : (j_len.getD q 0) < 100)
    (v3 : i < j_len.getD q 0)
    (v4 : Q (some (.int ((((((j_byt.getD q []).getD i 0) &&& 255) : Int32).toUInt32 % 65536).toInt32))) w1 (I, D, RR R))
    (v5 : narrow .char (.int ((((((j_byt.getD q []).getD i 0) &&& 255) : Int32).toUInt32 % 65536).toInt32)) = .int ((((((j_byt.getD q []).getD i 0) &&& 255) : Int32).toUInt32 % 65536).toInt32)) : j_Call d 76 [.ref (1000000 + (2 * q + 1)), .int (nI i)] w1 (I, D, RR R) 0 0 Q := by
  refine q_enter (L := [some (.ref (1000000 + (2 * q + 1))), some (.int (nI i))]) j_m76 (Nat.le_of_ble_eq_true rfl) rfl ?_
  refine q_iload_n d76_0 rfl ?_
  refine q_aload_n d76_1 rfl ?_
  refine q_sblen (q := q) d76_2 hq ?_
  refine q_invS (av := [.int (nI i), .int (Int32.ofNat (j_len.getD q 0))]) (rest := []) (d' := 1) (mc' := 0) (ms' := 0) d76_3 (cv14_9 76 rfl) rfl rfl (by omega) (Nat.le_of_ble_eq_true rfl) (Nat.le_of_ble_eq_true rfl) (Nat.le_refl _) (Nat.le_refl _) ?_
  refine s77 (i := i) (n := (j_len.getD q 0)) (by first | omega | decide) (by first | omega | decide) (Nat.le_refl _) v1 v2 ?_
  show j_W 76 d 0 0 0 0 6 [some (.ref (1000000 + (2 * q + 1))), some (.int (nI i))] [] w1 (I, D, RR R) Q
  refine q_aload_n d76_6 rfl ?_
  refine q_iload_n d76_7 rfl ?_
  refine q_sbaload (q := q) (a := i) d76_8 hq rfl v3 ?_
  refine q_sipush (v := 255) (by decide) d76_9 ?_
  refine q_iand d76_12 ?_
  refine q_i2c d76_13 ?_
  exact q_bret d76_14 rfl v5 (Nat.le_refl _) (Nat.le_refl _) v4

def wb (q i : Nat) : Nat := ((j_byt.getD q []).getD i 0).toNatClampNeg
theorem wb_eq {q i : Nat} (hq : q < 9) (hi : i < j_len.getD q 0) : (j_byt.getD q []).getD i 0 = nI (wb q i) ∧ wb q i < 128 := by
  obtain ⟨b, h1, h2, -⟩ := j_byt_lt hq hi
  have : wb q i = b := by
    obtain ⟨h3, h4⟩ := nI_cl h2 (by omega)
    unfold wb
    exact ((nI_eq (by omega) (by omega)).mp (h2.symm.trans h3)).symm
  rw [this]; exact ⟨h2, h1⟩
section TY
variable {d q i : Nat} {I : Nat → Nat → Int32} {D : Nat → Nat → UInt64} {R : Nat → Nat → Option Nat} {Q : j_Po}
theorem ch_id {b : Nat} (h : b < 128) : ((((nI b) &&& 255) : Int32).toUInt32 % 65536).toInt32 = nI b ∧ narrow .char (.int (nI b)) = .int (nI b) := by
  have : ∀ b, b < 128 → ((((nI b) &&& 255) : Int32).toUInt32 % 65536).toInt32 = nI b ∧ narrow .char (.int (nI b)) = .int (nI b) := by decide +kernel
  exact this b h
theorem c76 (hq9 : q < 9) (hi : i < j_len.getD q 0) (hd : 2 ≤ d) (hq : Q (some (.int (nI (wb q i)))) w1 (I, D, RR R)) : j_Call d 76 [.ref (1000000 + (2 * q + 1)), .int (nI i)] w1 (I, D, RR R) 0 0 Q := by
  obtain ⟨h1, h2⟩ := wb_eq hq9 hi
  obtain ⟨e1, e2⟩ := ch_id h2
  refine s76 hq9 hi hd hi (by have := j_len_lt hq9; omega) hi ?_ ?_
  · rw [h1, e1]; exact hq
  · rw [h1, e1]; exact e2
end TY
set_option maxRecDepth 10000 in
set_option maxHeartbeats 4000000 in
theorem s74 {d : Nat} {I : Nat → Nat → Int32} {D : Nat → Nat → UInt64} {R : Nat → Nat → Option Nat} {Q : j_Po} {q : Nat} {i : Nat}  (hq : q < 9) (hi : i < j_len.getD q 0) (hd : 3 ≤ d)
    (v1 : i < j_len.getD q 0)
    (v2 : 2 ≤ 2)
    (v3 : Q (some (.int (nI (wb q i)))) w1 (I, D, RR R))
    (v4 : narrow .char (.int (nI (wb q i))) = .int (nI (wb q i))) : j_Call d 74 [.ref (1000000 + 2 * q), .int (nI i)] w1 (I, D, RR R) 0 0 Q := by
  refine q_enter (L := [some (.ref (1000000 + 2 * q)), some (.int (nI i))]) j_m74 (Nat.le_of_ble_eq_true rfl) rfl ?_
  refine q_aload_n d74_0 rfl ?_
  refine q_invStr (q := q) (av := []) (rest := []) (d' := 0) d74_1 (cv13_492 74 rfl) rfl hq rfl rfl (by omega) (Nat.le_of_ble_eq_true rfl) (Nat.le_of_ble_eq_true rfl) (Nat.le_refl _) (Nat.le_refl _) ?_
  refine s75 (q := q) hq (Nat.le_refl _) ?_
  show j_W 74 d 0 0 0 0 4 [some (.ref (1000000 + 2 * q)), some (.int (nI i))] [.int 1] w1 (I, D, RR R) Q
  refine q_if_eq (tgt := 16) d74_4 rfl (fun h => absurd h (by decide)) (fun _ => ?_)
  refine q_aload_n d74_7 rfl ?_
  refine q_sval (q := q) d74_8 hq (j_i8 132 rfl) ?_
  refine q_iload_n d74_11 rfl ?_
  refine q_invS (av := [.ref (1000000 + (2 * q + 1)), .int (nI i)]) (rest := []) (d' := 2) (mc' := 0) (ms' := 0) d74_12 (cv13_495 74 rfl) rfl rfl (by omega) (Nat.le_of_ble_eq_true rfl) (Nat.le_of_ble_eq_true rfl) (Nat.le_refl _) (Nat.le_refl _) ?_
  refine c76 hq v1 v2 ?_
  show j_W 74 d 0 0 0 0 15 [some (.ref (1000000 + 2 * q)), some (.int (nI i))] [.int (nI (wb q i))] w1 (I, D, RR R) Q
  exact q_bret d74_15 rfl v4 (Nat.le_refl _) (Nat.le_refl _) v3

theorem c74 {d q i : Nat} {I : Nat → Nat → Int32} {D : Nat → Nat → UInt64} {R : Nat → Nat → Option Nat} {Q : j_Po} (hq9 : q < 9) (hd : 3 ≤ d) (hi : i < j_len.getD q 0) (hq : Q (some (.int (nI (wb q i)))) w1 (I, D, RR R)) : j_Call d 74 [.ref (1000000 + 2 * q), .int (nI i)] w1 (I, D, RR R) 0 0 Q := s74 hq9 hi hd hi (by omega) hq (ch_id (wb_eq hq9 hi).2).2
set_option maxRecDepth 10000 in
set_option maxHeartbeats 4000000 in
theorem s71e {d : Nat} {I : Nat → Nat → Int32} {D : Nat → Nat → UInt64} {R : Nat → Nat → Option Nat} {Q : j_Po} {q : Nat} {b e : Nat} (hq : q < 9) (hb : I 97 3 = nI b) (he : I 97 4 = nI e) (hbe : b ≤ e) (hen : e ≤ 96) (hd : 4 ≤ d)
    (v1 : ((nI (j_len.getD q 0)) = ((nI e) - (nI b))) → j_W 71 d 0 0 0 0 20 [some (.ref 97), some (.ref (1000000 + 2 * q)), some (.int 0)] [] w1 (I, D, RR R) Q)
    (v2 : (¬ (nI (j_len.getD q 0)) = ((nI e) - (nI b))) → Q (some (.int 0)) w1 (I, D, RR R)) : j_Call d 71 [.ref 97, .ref (1000000 + 2 * q)] w1 (I, D, RR R) 0 0 Q := by
  refine q_enter (L := [some (.ref 97), some (.ref (1000000 + 2 * q)), none]) j_m71 (Nat.le_of_ble_eq_true rfl) rfl ?_
  refine q_aload_n d71_0 rfl ?_
  refine q_invStr (q := q) (av := []) (rest := []) (d' := 1) d71_1 (cv5_128 71 rfl) rfl hq rfl rfl (by omega) (Nat.le_of_ble_eq_true rfl) (Nat.le_of_ble_eq_true rfl) (Nat.le_refl _) (Nat.le_refl _) ?_
  refine c72 hq (Nat.le_refl _)  ?_
  show j_W 71 d 0 0 0 0 4 [some (.ref 97), some (.ref (1000000 + 2 * q)), none] [.int (nI (j_len.getD q 0))] w1 (I, D, RR R) Q
  refine q_aload_n d71_4 rfl ?_
  refine q_getI d71_5 (fs5_32 71 rfl) rfl (lt_w1 rfl) sh97 ?_
  refine r_int (y := (nI e)) (show I 97 4 = (nI e) from he) ?_
  refine q_aload_n d71_8 rfl ?_
  refine q_getI d71_9 (fs5_48 71 rfl) rfl (lt_w1 rfl) sh97 ?_
  refine r_int (y := (nI b)) (show I 97 3 = (nI b) from hb) ?_
  refine q_isub d71_12 ?_
  refine q_icmp_eq (tgt := 18) d71_13 rfl (fun h1t => ?_) (fun h1f => ?_)
  ·
    refine q_iconst (v := 0) (by decide) d71_18 ?_
    refine q_istore_n (L' := [some (.ref 97), some (.ref (1000000 + 2 * q)), some (.int 0)]) d71_19 (Nat.le_of_ble_eq_true rfl) rfl ?_
    exact r_sub (L' := [some (.ref 97), some (.ref (1000000 + 2 * q)), some (.int 0)]) ⟨rfl, rfl, rfl, trivial⟩ (v1 h1t)
  ·
    refine q_iconst (v := 0) (by decide) d71_16 ?_
    exact q_zret d71_17 rfl (Or.inl rfl) (Nat.le_refl _) (Nat.le_refl _) (v2 h1f)

set_option maxRecDepth 10000 in
set_option maxHeartbeats 4000000 in
theorem s71h {d : Nat} {I : Nat → Nat → Int32} {D : Nat → Nat → UInt64} {R : Nat → Nat → Option Nat} {Q : j_Po} {q : Nat} {k : Nat} {b e : Nat} (hq : q < 9) (hb : I 97 3 = nI b) (he : I 97 4 = nI e) (hbe : b ≤ e) (hen : e ≤ 96) (hl : e - b = j_len.getD q 0) (hk : k ≤ j_len.getD q 0) (hd : 4 ≤ d)
    (v1 : ((j_len.getD q 0) ≤ k) → Q (some (.int 1)) w1 (I, D, RR R))
    (v2 : (¬ (j_len.getD q 0) ≤ k) → k < j_len.getD q 0)
    (v3 : (¬ (j_len.getD q 0) ≤ k) → ((I 98 (b + k)) = (nI (wb q k))) → j_W 71 d 0 0 0 0 20 [some (.ref 97), some (.ref (1000000 + 2 * q)), some (.int (nI (k + 1)))] [] w1 (I, D, RR R) Q)
    (v4 : (¬ (j_len.getD q 0) ≤ k) → (¬ (I 98 (b + k)) = (nI (wb q k))) → Q (some (.int 0)) w1 (I, D, RR R)) : j_W 71 d 0 0 0 0 20 [some (.ref 97), some (.ref (1000000 + 2 * q)), some (.int (nI k))] [] w1 (I, D, RR R) Q := by
  refine q_iload_n d71_20 rfl ?_
  refine q_aload_n d71_21 rfl ?_
  refine q_invStr (q := q) (av := []) (rest := [.int (nI k)]) (d' := 1) d71_22 (cv5_128 71 rfl) rfl hq rfl rfl (by omega) (Nat.le_of_ble_eq_true rfl) (Nat.le_of_ble_eq_true rfl) (Nat.le_refl _) (Nat.le_refl _) ?_
  refine c72 hq (Nat.le_refl _)  ?_
  show j_W 71 d 0 0 0 0 25 [some (.ref 97), some (.ref (1000000 + 2 * q)), some (.int (nI k))] [.int (nI (j_len.getD q 0)), .int (nI k)] w1 (I, D, RR R) Q
  refine q_icmp_ge (tgt := 55) d71_25 rfl (fun h1t => ?_) (fun h1f => ?_)
  ·
    have h1tc : (j_len.getD q 0) ≤ k := (nI_leI (by omega) (by omega)).mp h1t
    refine q_iconst (v := 1) (by decide) d71_55 ?_
    exact q_zret d71_56 rfl (Or.inr rfl) (Nat.le_refl _) (Nat.le_refl _) (v1 h1tc)
  ·
    have h1fc : ¬ (j_len.getD q 0) ≤ k := mt (nI_leI (by omega) (by omega)).mpr h1f
    refine q_aload_n d71_28 rfl ?_
    refine q_getR (x := 98) d71_29 (fs5_9 71 rfl) rfl (lt_w1 rfl) sh97 (rs97_0 R) (by decide) ?_
    refine q_aload_n d71_32 rfl ?_
    refine q_getI d71_33 (fs5_48 71 rfl) rfl (lt_w1 rfl) sh97 ?_
    refine r_int (y := (nI b)) (show I 97 3 = (nI b) from hb) ?_
    refine q_iload_n d71_36 rfl ?_
    refine q_iadd d71_37 ?_
    refine r_int (y := (nI (b + k))) (nI_add b k) ?_
    refine q_iaload (a := (b + k)) d71_38 (lt_w1 rfl) sh98 rfl (by omega) ?_
    refine q_aload_n d71_39 rfl ?_
    refine q_iload_n d71_40 rfl ?_
    refine q_invStr (q := q) (av := [.int (nI k)]) (rest := [.int (I 98 (b + k))]) (d' := 3) d71_41 (cv5_134 71 rfl) rfl hq rfl rfl (by omega) (Nat.le_of_ble_eq_true rfl) (Nat.le_of_ble_eq_true rfl) (Nat.le_refl _) (Nat.le_refl _) ?_
    refine c74 hq (Nat.le_refl _) (v2 h1fc) ?_
    show j_W 71 d 0 0 0 0 44 [some (.ref 97), some (.ref (1000000 + 2 * q)), some (.int (nI k))] [.int (nI (wb q k)), .int (I 98 (b + k))] w1 (I, D, RR R) Q
    refine q_icmp_eq (tgt := 49) d71_44 rfl (fun h2t => ?_) (fun h2f => ?_)
    ·
      refine q_iinc (L' := [some (.ref 97), some (.ref (1000000 + 2 * q)), some (.int (nI (k + 1)))]) (v := (nI (k + 1))) d71_49 rfl (nI_inc _) rfl ?_
      refine q_goto (tgt := 20) d71_52 rfl ?_
      exact r_sub (L' := [some (.ref 97), some (.ref (1000000 + 2 * q)), some (.int (nI (k + 1)))]) ⟨rfl, rfl, rfl, trivial⟩ (v3 h1fc h2t)
    ·
      refine q_iconst (v := 0) (by decide) d71_47 ?_
      exact q_zret d71_48 rfl (Or.inl rfl) (Nat.le_refl _) (Nat.le_refl _) (v4 h1fc h2f)

set_option maxRecDepth 10000 in
set_option maxHeartbeats 4000000 in
theorem s215e {d : Nat} {I : Nat → Nat → Int32} {D : Nat → Nat → UInt64} {R : Nat → Nat → Option Nat} {Q : j_Po} {q : Nat} {b e n : Nat} (hq : q < 9) (hb : I 260 40 = nI b) (he : I 260 39 = nI e) (hbe : b ≤ e) (hen : e ≤ 96) (hn : I 260 34 = nI n) (hn9 : n ≤ 96) (hd : 4 ≤ d)
    (v1 : ((nI (j_len.getD q 0)) = ((nI e) - (nI b))) → j_W 215 d 0 0 0 0 20 [some (.ref 260), some (.ref (1000000 + 2 * q)), some (.int 0)] [] w1 (I, D, RR R) Q)
    (v2 : (¬ (nI (j_len.getD q 0)) = ((nI e) - (nI b))) → Q (some (.int 0)) w1 (I, D, RR R)) : j_Call d 215 [.ref 260, .ref (1000000 + 2 * q)] w1 (I, D, RR R) 0 0 Q := by
  refine q_enter (L := [some (.ref 260), some (.ref (1000000 + 2 * q)), none]) j_m215 (Nat.le_of_ble_eq_true rfl) rfl ?_
  refine q_aload_n d215_0 rfl ?_
  refine q_invStr (q := q) (av := []) (rest := []) (d' := 1) d215_1 (cv10_395 215 rfl) rfl hq rfl rfl (by omega) (Nat.le_of_ble_eq_true rfl) (Nat.le_of_ble_eq_true rfl) (Nat.le_refl _) (Nat.le_refl _) ?_
  refine c72 hq (Nat.le_refl _)  ?_
  show j_W 215 d 0 0 0 0 4 [some (.ref 260), some (.ref (1000000 + 2 * q)), none] [.int (nI (j_len.getD q 0))] w1 (I, D, RR R) Q
  refine q_aload_n d215_4 rfl ?_
  refine q_getI d215_5 (fs10_351 215 rfl) rfl (lt_w1 rfl) sh260 ?_
  refine r_int (y := (nI e)) (show I 260 39 = (nI e) from he) ?_
  refine q_aload_n d215_8 rfl ?_
  refine q_getI d215_9 (fs10_361 215 rfl) rfl (lt_w1 rfl) sh260 ?_
  refine r_int (y := (nI b)) (show I 260 40 = (nI b) from hb) ?_
  refine q_isub d215_12 ?_
  refine q_icmp_eq (tgt := 18) d215_13 rfl (fun h1t => ?_) (fun h1f => ?_)
  ·
    refine q_iconst (v := 0) (by decide) d215_18 ?_
    refine q_istore_n (L' := [some (.ref 260), some (.ref (1000000 + 2 * q)), some (.int 0)]) d215_19 (Nat.le_of_ble_eq_true rfl) rfl ?_
    exact r_sub (L' := [some (.ref 260), some (.ref (1000000 + 2 * q)), some (.int 0)]) ⟨rfl, rfl, rfl, trivial⟩ (v1 h1t)
  ·
    refine q_iconst (v := 0) (by decide) d215_16 ?_
    exact q_zret d215_17 rfl (Or.inl rfl) (Nat.le_refl _) (Nat.le_refl _) (v2 h1f)

set_option maxRecDepth 10000 in
set_option maxHeartbeats 4000000 in
theorem s215h {d : Nat} {I : Nat → Nat → Int32} {D : Nat → Nat → UInt64} {R : Nat → Nat → Option Nat} {Q : j_Po} {q : Nat} {k : Nat} {b e n : Nat} (hq : q < 9) (hb : I 260 40 = nI b) (he : I 260 39 = nI e) (hbe : b ≤ e) (hen : e ≤ 96) (hn : I 260 34 = nI n) (hn9 : n ≤ 96) (hl : e - b = j_len.getD q 0) (hk : k ≤ j_len.getD q 0) (hd : 4 ≤ d)
    (v1 : ((j_len.getD q 0) ≤ k) → Q (some (.int 1)) w1 (I, D, RR R))
    (v2 : (¬ (j_len.getD q 0) ≤ k) → k < j_len.getD q 0)
    (v3 : (¬ (j_len.getD q 0) ≤ k) → (¬ (I 260 34) ≤ (nI (b + k))) → vp_in (nI (b + k)) 96)
    (v4 : (¬ (j_len.getD q 0) ≤ k) → ((I 260 34) ≤ (nI (b + k))) → ((nI (wb q k)) = (-1)) → j_W 215 d 0 0 0 0 20 [some (.ref 260), some (.ref (1000000 + 2 * q)), some (.int (nI (k + 1)))] [] w1 (I, D, RR R) Q)
    (v5 : (¬ (j_len.getD q 0) ≤ k) → ((I 260 34) ≤ (nI (b + k))) → (¬ (nI (wb q k)) = (-1)) → Q (some (.int 0)) w1 (I, D, RR R))
    (v6 : (¬ (j_len.getD q 0) ≤ k) → (¬ (I 260 34) ≤ (nI (b + k))) → ((nI (wb q k)) = (I 422 (nI (b + k)).toNatClampNeg)) → j_W 215 d 0 0 0 0 20 [some (.ref 260), some (.ref (1000000 + 2 * q)), some (.int (nI (k + 1)))] [] w1 (I, D, RR R) Q)
    (v7 : (¬ (j_len.getD q 0) ≤ k) → (¬ (I 260 34) ≤ (nI (b + k))) → (¬ (nI (wb q k)) = (I 422 (nI (b + k)).toNatClampNeg)) → Q (some (.int 0)) w1 (I, D, RR R)) : j_W 215 d 0 0 0 0 20 [some (.ref 260), some (.ref (1000000 + 2 * q)), some (.int (nI k))] [] w1 (I, D, RR R) Q := by
  refine q_iload_n d215_20 rfl ?_
  refine q_aload_n d215_21 rfl ?_
  refine q_invStr (q := q) (av := []) (rest := [.int (nI k)]) (d' := 1) d215_22 (cv10_395 215 rfl) rfl hq rfl rfl (by omega) (Nat.le_of_ble_eq_true rfl) (Nat.le_of_ble_eq_true rfl) (Nat.le_refl _) (Nat.le_refl _) ?_
  refine c72 hq (Nat.le_refl _)  ?_
  show j_W 215 d 0 0 0 0 25 [some (.ref 260), some (.ref (1000000 + 2 * q)), some (.int (nI k))] [.int (nI (j_len.getD q 0)), .int (nI k)] w1 (I, D, RR R) Q
  refine q_icmp_ge (tgt := 54) d215_25 rfl (fun h1t => ?_) (fun h1f => ?_)
  ·
    have h1tc : (j_len.getD q 0) ≤ k := (nI_leI (by omega) (by omega)).mp h1t
    refine q_iconst (v := 1) (by decide) d215_54 ?_
    exact q_zret d215_55 rfl (Or.inr rfl) (Nat.le_refl _) (Nat.le_refl _) (v1 h1tc)
  ·
    have h1fc : ¬ (j_len.getD q 0) ≤ k := mt (nI_leI (by omega) (by omega)).mpr h1f
    refine q_aload_n d215_28 rfl ?_
    refine q_iload_n d215_29 rfl ?_
    refine q_invStr (q := q) (av := [.int (nI k)]) (rest := []) (d' := 3) d215_30 (cv10_398 215 rfl) rfl hq rfl rfl (by omega) (Nat.le_of_ble_eq_true rfl) (Nat.le_of_ble_eq_true rfl) (Nat.le_refl _) (Nat.le_refl _) ?_
    refine c74 hq (Nat.le_refl _) (v2 h1fc) ?_
    show j_W 215 d 0 0 0 0 33 [some (.ref 260), some (.ref (1000000 + 2 * q)), some (.int (nI k))] [.int (nI (wb q k))] w1 (I, D, RR R) Q
    refine q_aload_n d215_33 rfl ?_
    refine q_aload_n d215_34 rfl ?_
    refine q_getI d215_35 (fs10_361 215 rfl) rfl (lt_w1 rfl) sh260 ?_
    refine r_int (y := (nI b)) (show I 260 40 = (nI b) from hb) ?_
    refine q_iload_n d215_38 rfl ?_
    refine q_iadd d215_39 ?_
    refine r_int (y := (nI (b + k))) (nI_add b k) ?_
    refine q_invV (o := 260) (ci := 10) (av := [.int (nI (b + k))]) (rest := [.int (nI (wb q k))]) (d' := 0) (mc' := 0) (ms' := 0) d215_40 (cv10_354 215 rfl) rfl (by decide) rfl rfl (by omega) (Nat.le_of_ble_eq_true rfl) (Nat.le_of_ble_eq_true rfl) (lt_w1 rfl) sh260 (Nat.le_refl _) (Nat.le_refl _) ?_
    refine s213   (Nat.le_refl _) (fun c2 => ?_) (v3 h1fc) (fun c4 => ?_)
    ·
      show j_W 215 d 0 0 0 0 43 [some (.ref 260), some (.ref (1000000 + 2 * q)), some (.int (nI k))] [.int (-1), .int (nI (wb q k))] w1 (I, D, RR R) Q
      refine q_icmp_eq (tgt := 48) d215_43 rfl (fun h5t => ?_) (fun h5f => ?_)
      ·
        refine q_iinc (L' := [some (.ref 260), some (.ref (1000000 + 2 * q)), some (.int (nI (k + 1)))]) (v := (nI (k + 1))) d215_48 rfl (nI_inc _) rfl ?_
        refine q_goto (tgt := 20) d215_51 rfl ?_
        exact r_sub (L' := [some (.ref 260), some (.ref (1000000 + 2 * q)), some (.int (nI (k + 1)))]) ⟨rfl, rfl, rfl, trivial⟩ (v4 h1fc c2 h5t)
      ·
        refine q_iconst (v := 0) (by decide) d215_46 ?_
        exact q_zret d215_47 rfl (Or.inl rfl) (Nat.le_refl _) (Nat.le_refl _) (v5 h1fc c2 h5f)
    ·
      show j_W 215 d 0 0 0 0 43 [some (.ref 260), some (.ref (1000000 + 2 * q)), some (.int (nI k))] [.int (I 422 (nI (b + k)).toNatClampNeg), .int (nI (wb q k))] w1 (I, D, RR R) Q
      refine q_icmp_eq (tgt := 48) d215_43 rfl (fun h6t => ?_) (fun h6f => ?_)
      ·
        refine q_iinc (L' := [some (.ref 260), some (.ref (1000000 + 2 * q)), some (.int (nI (k + 1)))]) (v := (nI (k + 1))) d215_48 rfl (nI_inc _) rfl ?_
        refine q_goto (tgt := 20) d215_51 rfl ?_
        exact r_sub (L' := [some (.ref 260), some (.ref (1000000 + 2 * q)), some (.int (nI (k + 1)))]) ⟨rfl, rfl, rfl, trivial⟩ (v6 h1fc c4 h6t)
      ·
        refine q_iconst (v := 0) (by decide) d215_46 ?_
        exact q_zret d215_47 rfl (Or.inl rfl) (Nat.le_refl _) (Nat.le_refl _) (v7 h1fc c4 h6f)

