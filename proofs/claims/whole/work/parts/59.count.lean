/-! count -/
set_option maxRecDepth 10000 in
set_option maxHeartbeats 4000000 in
theorem s157 {d : Nat} {I : Nat → Nat → Int32} {D : Nat → Nat → UInt64} {R : Nat → Nat → Option Nat} {Q : j_Po} {a : Int32}  (hR : WFR R) (hd : 2 ≤ d)
    (v1 : (a = 0) → Q (some (.int (nI (cntP (fun k => !decide (I ((R 112 k).getD 0) 1 ≤ 0)) 24)))) w1 (I, D, RR R))
    (v2 : (¬ a = 0) → (a = 1) → Q (some (.int (nI (cntP (fun k => !decide (I 111 k = 0)) 24)))) w1 (I, D, RR R))
    (v3 : (¬ a = 0) → (¬ a = 1) → (a = 2) → Q (some (.int (nI (cntP (fun k => !decide (I ((R 113 k).getD 0) 0 = 0)) 6)))) w1 (I, D, RR R))
    (v4 : (¬ a = 0) → (¬ a = 1) → (¬ a = 2) → (a = 3) → Q (some (.int (I 97 1))) w1 (I, D, RR R))
    (v5 : (¬ a = 0) → (¬ a = 1) → (¬ a = 2) → (¬ a = 3) → Q (some (.int (-2))) w1 (I, D, RR R)) : j_Call d 157 [.ref 0, .int a] w1 (I, D, RR R) 0 0 Q := by
  refine q_enter (L := [some (.ref 0), some (.int a)]) j_m157 (Nat.le_of_ble_eq_true rfl) rfl ?_
  refine q_iload_n d157_0 rfl ?_
  by_cases h1 : a = 0
  ·
    refine r_int (y := 0) h1 ?_
    refine q_tableIn (tgt := 32) d157_1 (by decide) (by decide) rfl rfl ?_
    refine q_aload_n d157_32 rfl ?_
    refine q_getR (x := 108) d157_33 (fs9_53 157 rfl) rfl (lt_w1 rfl) sh0 (rs0_1 R) (by decide) ?_
    refine q_invV (o := 108) (ci := 0) (av := []) (rest := []) (d' := 1) (mc' := 0) (ms' := 0) d157_36 (cv9_353 157 rfl) rfl (by decide) rfl rfl (by omega) (Nat.le_of_ble_eq_true rfl) (Nat.le_of_ble_eq_true rfl) (lt_w1 rfl) sh108 (Nat.le_refl _) (Nat.le_refl _) ?_
    refine c155 hR (Nat.le_refl _)  ?_
    show j_W 157 d 0 0 0 0 39 [some (.ref 0), some (.int a)] [.int (nI (cntP (fun k => !decide (I ((R 112 k).getD 0) 1 ≤ 0)) 24))] w1 (I, D, RR R) Q
    exact q_iret d157_39 rfl (Nat.le_refl _) (Nat.le_refl _) (v1 h1)
  by_cases h2 : a = 1
  ·
    refine r_int (y := 1) h2 ?_
    refine q_tableIn (tgt := 40) d157_1 (by decide) (by decide) rfl rfl ?_
    refine q_aload_n d157_40 rfl ?_
    refine q_getR (x := 108) d157_41 (fs9_53 157 rfl) rfl (lt_w1 rfl) sh0 (rs0_1 R) (by decide) ?_
    refine q_invV (o := 108) (ci := 0) (av := []) (rest := []) (d' := 1) (mc' := 0) (ms' := 0) d157_44 (cv9_356 157 rfl) rfl (by decide) rfl rfl (by omega) (Nat.le_of_ble_eq_true rfl) (Nat.le_of_ble_eq_true rfl) (lt_w1 rfl) sh108 (Nat.le_refl _) (Nat.le_refl _) ?_
    refine c158 hR (Nat.le_refl _)  ?_
    show j_W 157 d 0 0 0 0 47 [some (.ref 0), some (.int a)] [.int (nI (cntP (fun k => !decide (I 111 k = 0)) 24))] w1 (I, D, RR R) Q
    exact q_iret d157_47 rfl (Nat.le_refl _) (Nat.le_refl _) (v2 h1 h2)
  by_cases h3 : a = 2
  ·
    refine r_int (y := 2) h3 ?_
    refine q_tableIn (tgt := 48) d157_1 (by decide) (by decide) rfl rfl ?_
    refine q_aload_n d157_48 rfl ?_
    refine q_getR (x := 108) d157_49 (fs9_53 157 rfl) rfl (lt_w1 rfl) sh0 (rs0_1 R) (by decide) ?_
    refine q_invV (o := 108) (ci := 0) (av := []) (rest := []) (d' := 1) (mc' := 0) (ms' := 0) d157_52 (cv9_359 157 rfl) rfl (by decide) rfl rfl (by omega) (Nat.le_of_ble_eq_true rfl) (Nat.le_of_ble_eq_true rfl) (lt_w1 rfl) sh108 (Nat.le_refl _) (Nat.le_refl _) ?_
    refine c159 hR (Nat.le_refl _)  ?_
    show j_W 157 d 0 0 0 0 55 [some (.ref 0), some (.int a)] [.int (nI (cntP (fun k => !decide (I ((R 113 k).getD 0) 0 = 0)) 6))] w1 (I, D, RR R) Q
    exact q_iret d157_55 rfl (Nat.le_refl _) (Nat.le_refl _) (v3 h1 h2 h3)
  by_cases h4 : a = 3
  ·
    refine r_int (y := 3) h4 ?_
    refine q_tableIn (tgt := 56) d157_1 (by decide) (by decide) rfl rfl ?_
    refine q_aload_n d157_56 rfl ?_
    refine q_getR (x := 97) d157_57 (fs9_19 157 rfl) rfl (lt_w1 rfl) sh0 (rs0_5 R) (by decide) ?_
    refine q_getI d157_60 (fs9_151 157 rfl) rfl (lt_w1 rfl) sh97 ?_
    exact q_iret d157_63 rfl (Nat.le_refl _) (Nat.le_refl _) (v4 h1 h2 h3 h4)
  have g5 : (a).toInt < 0 ∨ 3 < (a).toInt := tsw_out2 0 4 (by decide) (fun c hc => by
    have : c = 0 ∨ c = 1 ∨ c = 2 ∨ c = 3 := by omega
    rcases this with rfl | rfl | rfl | rfl
    · exact h1
    · exact h2
    · exact h3
    · exact h4)
  refine q_tableOut (tgt := 64) d157_1 g5 rfl ?_
  refine q_bipush (v := (-2)) (by decide) d157_64 ?_
  exact q_iret d157_66 rfl (Nat.le_refl _) (Nat.le_refl _) (v5 h1 h2 h3 h4)

set_option maxRecDepth 10000 in
set_option maxHeartbeats 4000000 in
theorem s283e {d : Nat} {I : Nat → Nat → Int32} {D : Nat → Nat → UInt64} {R : Nat → Nat → Option Nat} {Q : j_Po} {a : Int32}   (hd : 2 ≤ d)
    (v1 : (¬ a = 0) → (¬ a = 3) → (¬ a = 1) → (a = 2) → j_W 283 d 0 0 0 0 72 [some (.ref 260), none, some (.int 0), some (.int 0)] [] w1 (I, D, RR R) Q)
    (v2 : (¬ a = 0) → (¬ a = 3) → (¬ a = 1) → (¬ a = 2) → Q (some (.int (-2))) w1 (I, D, RR R))
    (v3 : (¬ a = 0) → (¬ a = 3) → (a = 1) → j_W 283 d 0 0 0 0 28 [some (.ref 260), none, some (.int 0), some (.int 0)] [] w1 (I, D, RR R) Q)
    (v4 : (¬ a = 0) → (a = 3) → Q (some (.int (I 260 34))) w1 (I, D, RR R))
    (v5 : (a = 0) → Q (some (.int (nI (cntP (fun k => !decide (I 264 k = 0)) 24)))) w1 (I, D, RR R)) : j_Call d 283 [.ref 260, .int a] w1 (I, D, RR R) 0 0 Q := by
  refine q_enter (L := [some (.ref 260), some (.int a), none, none]) j_m283 (Nat.le_of_ble_eq_true rfl) rfl ?_
  refine q_iconst (v := 0) (by decide) d283_0 ?_
  refine q_istore_n (L' := [some (.ref 260), some (.int a), some (.int 0), none]) d283_1 (Nat.le_of_ble_eq_true rfl) rfl ?_
  refine q_iload_n d283_2 rfl ?_
  refine q_if_ne (tgt := 11) d283_3 rfl (fun h1t => ?_) (fun h1f => ?_)
  ·
    refine q_iload_n d283_11 rfl ?_
    refine q_iconst (v := 3) (by decide) d283_12 ?_
    refine q_icmp_ne (tgt := 21) d283_13 rfl (fun h2t => ?_) (fun h2f => ?_)
    ·
      refine q_iload_n d283_21 rfl ?_
      refine q_iconst (v := 1) (by decide) d283_22 ?_
      refine q_icmp_ne (tgt := 62) d283_23 rfl (fun h3t => ?_) (fun h3f => ?_)
      ·
        refine q_iload_n d283_62 rfl ?_
        refine q_iconst (v := 2) (by decide) d283_63 ?_
        refine q_icmp_eq (tgt := 70) d283_64 rfl (fun h4t => ?_) (fun h4f => ?_)
        ·
          refine q_iconst (v := 0) (by decide) d283_70 ?_
          refine q_istore_n (L' := [some (.ref 260), some (.int a), some (.int 0), some (.int 0)]) d283_71 (Nat.le_of_ble_eq_true rfl) rfl ?_
          exact r_sub (L' := [some (.ref 260), none, some (.int 0), some (.int 0)]) ⟨rfl, rfl, rfl, trivial⟩ (v1 h1t h2t h3t h4t)
        ·
          refine q_bipush (v := (-2)) (by decide) d283_67 ?_
          exact q_iret d283_69 rfl (Nat.le_refl _) (Nat.le_refl _) (v2 h1t h2t h3t h4f)
      ·
        refine q_iconst (v := 0) (by decide) d283_26 ?_
        refine q_istore_n (L' := [some (.ref 260), some (.int a), some (.int 0), some (.int 0)]) d283_27 (Nat.le_of_ble_eq_true rfl) rfl ?_
        exact r_sub (L' := [some (.ref 260), none, some (.int 0), some (.int 0)]) ⟨rfl, rfl, rfl, trivial⟩ (v3 h1t h2t h3f)
    ·
      refine q_aload_n d283_16 rfl ?_
      refine q_getI d283_17 (fs10_348 283 rfl) rfl (lt_w1 rfl) sh260 ?_
      exact q_iret d283_20 rfl (Nat.le_refl _) (Nat.le_refl _) (v4 h1t h2f)
  ·
    refine q_aload_n d283_6 rfl ?_
    refine q_invV (o := 260) (ci := 10) (av := []) (rest := []) (d' := 1) (mc' := 0) (ms' := 0) d283_7 (cv10_566 283 rfl) rfl (by decide) rfl rfl (by omega) (Nat.le_of_ble_eq_true rfl) (Nat.le_of_ble_eq_true rfl) (lt_w1 rfl) sh260 (Nat.le_refl _) (Nat.le_refl _) ?_
    refine c281 (Nat.le_refl _)  ?_
    show j_W 283 d 0 0 0 0 10 [some (.ref 260), some (.int a), some (.int 0), none] [.int (nI (cntP (fun k => !decide (I 264 k = 0)) 24))] w1 (I, D, RR R) Q
    exact q_iret d283_10 rfl (Nat.le_refl _) (Nat.le_refl _) (v5 h1f)

set_option maxRecDepth 10000 in
set_option maxHeartbeats 4000000 in
theorem s283a {d : Nat} {I : Nat → Nat → Int32} {D : Nat → Nat → UInt64} {R : Nat → Nat → Option Nat} {Q : j_Po} {m : Nat} {k : Nat}  (hk : k ≤ 24) (hm : m ≤ k) (hd : 2 ≤ d)
    (v1 : (24 ≤ k) → Q (some (.int (nI m))) w1 (I, D, RR R))
    (v2 : (¬ 24 ≤ k) → (¬ (I 264 k) = 0) → j_W 283 d 0 0 0 0 28 [some (.ref 260), none, some (.int (nI m)), some (.int (nI (k + 1)))] [] w1 (I, D, RR R) Q)
    (v3 : (¬ 24 ≤ k) → ((I 264 k) = 0) → ((I 262 k) = 0) → j_W 283 d 0 0 0 0 28 [some (.ref 260), none, some (.int (nI m)), some (.int (nI (k + 1)))] [] w1 (I, D, RR R) Q)
    (v4 : (¬ 24 ≤ k) → ((I 264 k) = 0) → (¬ (I 262 k) = 0) → j_W 283 d 0 0 0 0 28 [some (.ref 260), none, some (.int (nI (m + 1))), some (.int (nI (k + 1)))] [] w1 (I, D, RR R) Q) : j_W 283 d 0 0 0 0 28 [some (.ref 260), none, some (.int (nI m)), some (.int (nI k))] [] w1 (I, D, RR R) Q := by
  refine q_iload_n d283_28 rfl ?_
  refine q_bipush (v := 24) (by decide) d283_29 ?_
  refine q_icmp_ge (tgt := 60) d283_31 rfl (fun h1t => ?_) (fun h1f => ?_)
  ·
    have h1tc : 24 ≤ k := (nI_leI (by omega) (by omega)).mp h1t
    refine q_iload_n d283_60 rfl ?_
    exact q_iret d283_61 rfl (Nat.le_refl _) (Nat.le_refl _) (v1 h1tc)
  ·
    have h1fc : ¬ 24 ≤ k := mt (nI_leI (by omega) (by omega)).mpr h1f
    refine q_aload_n d283_34 rfl ?_
    refine q_iload_n d283_35 rfl ?_
    refine q_invV (o := 260) (ci := 10) (av := [.int (nI k)]) (rest := []) (d' := 0) (mc' := 0) (ms' := 0) d283_36 (cv10_204 283 rfl) rfl (by decide) rfl rfl (by omega) (Nat.le_of_ble_eq_true rfl) (Nat.le_of_ble_eq_true rfl) (lt_w1 rfl) sh260 (Nat.le_refl _) (Nat.le_refl _) ?_
    refine s170 (k := k) (by first | omega | decide) (Nat.le_refl _) (fun c2 => ?_) (fun c3 => ?_)
    ·
      show j_W 283 d 0 0 0 0 39 [some (.ref 260), none, some (.int (nI m)), some (.int (nI k))] [.int 0] w1 (I, D, RR R) Q
      refine q_if_eq (tgt := 54) d283_39 rfl (fun _ => ?_) (fun h => absurd h (by decide))
      refine q_iinc (L' := [some (.ref 260), none, some (.int (nI m)), some (.int (nI (k + 1)))]) (v := (nI (k + 1))) d283_54 rfl (nI_inc _) rfl ?_
      refine q_goto (tgt := 28) d283_57 rfl ?_
      exact r_sub (L' := [some (.ref 260), none, some (.int (nI m)), some (.int (nI (k + 1)))]) ⟨rfl, rfl, rfl, trivial⟩ (v2 h1fc c2)
    ·
      show j_W 283 d 0 0 0 0 39 [some (.ref 260), none, some (.int (nI m)), some (.int (nI k))] [.int 1] w1 (I, D, RR R) Q
      refine q_if_eq (tgt := 54) d283_39 rfl (fun h => absurd h (by decide)) (fun _ => ?_)
      refine q_aload_n d283_42 rfl ?_
      refine q_getR (x := 262) d283_43 (fs10_13 283 rfl) rfl (lt_w1 rfl) sh260 (rs260_1 R) (by decide) ?_
      refine q_iload_n d283_46 rfl ?_
      refine q_zaload (a := k) d283_47 (lt_w1 rfl) sh262 rfl (by omega) ?_
      refine q_if_eq (tgt := 54) d283_48 rfl (fun h4t => ?_) (fun h4f => ?_)
      ·
        refine q_iinc (L' := [some (.ref 260), none, some (.int (nI m)), some (.int (nI (k + 1)))]) (v := (nI (k + 1))) d283_54 rfl (nI_inc _) rfl ?_
        refine q_goto (tgt := 28) d283_57 rfl ?_
        exact r_sub (L' := [some (.ref 260), none, some (.int (nI m)), some (.int (nI (k + 1)))]) ⟨rfl, rfl, rfl, trivial⟩ (v3 h1fc c3 h4t)
      ·
        refine q_iinc (L' := [some (.ref 260), none, some (.int (nI (m + 1))), some (.int (nI k))]) (v := (nI (m + 1))) d283_51 rfl (nI_inc _) rfl ?_
        refine q_iinc (L' := [some (.ref 260), none, some (.int (nI (m + 1))), some (.int (nI (k + 1)))]) (v := (nI (k + 1))) d283_54 rfl (nI_inc _) rfl ?_
        refine q_goto (tgt := 28) d283_57 rfl ?_
        exact r_sub (L' := [some (.ref 260), none, some (.int (nI (m + 1))), some (.int (nI (k + 1)))]) ⟨rfl, rfl, rfl, trivial⟩ (v4 h1fc c3 h4f)

set_option maxRecDepth 10000 in
set_option maxHeartbeats 4000000 in
theorem s283b {d : Nat} {I : Nat → Nat → Int32} {D : Nat → Nat → UInt64} {R : Nat → Nat → Option Nat} {Q : j_Po} {m : Nat} {k : Nat}  (hk : k ≤ 6) (hm : m ≤ k) (hd : 2 ≤ d)
    (v1 : (6 ≤ k) → Q (some (.int (nI m))) w1 (I, D, RR R))
    (v2 : (¬ 6 ≤ k) → ((I 315 k) = 0) → j_W 283 d 0 0 0 0 72 [some (.ref 260), none, some (.int (nI m)), some (.int (nI (k + 1)))] [] w1 (I, D, RR R) Q)
    (v3 : (¬ 6 ≤ k) → (¬ (I 315 k) = 0) → j_W 283 d 0 0 0 0 72 [some (.ref 260), none, some (.int (nI (m + 1))), some (.int (nI (k + 1)))] [] w1 (I, D, RR R) Q) : j_W 283 d 0 0 0 0 72 [some (.ref 260), none, some (.int (nI m)), some (.int (nI k))] [] w1 (I, D, RR R) Q := by
  refine q_iload_n d283_72 rfl ?_
  refine q_bipush (v := 6) (by decide) d283_73 ?_
  refine q_icmp_ge (tgt := 96) d283_75 rfl (fun h1t => ?_) (fun h1f => ?_)
  ·
    have h1tc : 6 ≤ k := (nI_leI (by omega) (by omega)).mp h1t
    refine q_iload_n d283_96 rfl ?_
    exact q_iret d283_97 rfl (Nat.le_refl _) (Nat.le_refl _) (v1 h1tc)
  ·
    have h1fc : ¬ 6 ≤ k := mt (nI_leI (by omega) (by omega)).mpr h1f
    refine q_aload_n d283_78 rfl ?_
    refine q_getR (x := 315) d283_79 (fs10_34 283 rfl) rfl (lt_w1 rfl) sh260 (rs260_6 R) (by decide) ?_
    refine q_iload_n d283_82 rfl ?_
    refine q_zaload (a := k) d283_83 (lt_w1 rfl) sh315 rfl (by omega) ?_
    refine q_if_eq (tgt := 90) d283_84 rfl (fun h2t => ?_) (fun h2f => ?_)
    ·
      refine q_iinc (L' := [some (.ref 260), none, some (.int (nI m)), some (.int (nI (k + 1)))]) (v := (nI (k + 1))) d283_90 rfl (nI_inc _) rfl ?_
      refine q_goto (tgt := 72) d283_93 rfl ?_
      exact r_sub (L' := [some (.ref 260), none, some (.int (nI m)), some (.int (nI (k + 1)))]) ⟨rfl, rfl, rfl, trivial⟩ (v2 h1fc h2t)
    ·
      refine q_iinc (L' := [some (.ref 260), none, some (.int (nI (m + 1))), some (.int (nI k))]) (v := (nI (m + 1))) d283_87 rfl (nI_inc _) rfl ?_
      refine q_iinc (L' := [some (.ref 260), none, some (.int (nI (m + 1))), some (.int (nI (k + 1)))]) (v := (nI (k + 1))) d283_90 rfl (nI_inc _) rfl ?_
      refine q_goto (tgt := 72) d283_93 rfl ?_
      exact r_sub (L' := [some (.ref 260), none, some (.int (nI (m + 1))), some (.int (nI (k + 1)))]) ⟨rfl, rfl, rfl, trivial⟩ (v3 h1fc h2f)

theorem l283a {d : Nat} {I : Nat → Nat → Int32} {D : Nat → Nat → UInt64} {R : Nat → Nat → Option Nat} {Q : j_Po} (hd : 2 ≤ d) (hq : Q (some (.int (nI (cntP (fun k => (decide (I 264 k = 0) && !decide (I 262 k = 0))) 24)))) w1 (I, D, RR R)) : ∀ (n k : Nat), n + k = 24 → j_W 283 d 0 0 0 0 28 [some (.ref 260), none, some (.int (nI (cntP (fun k => (decide (I 264 k = 0) && !decide (I 262 k = 0))) k))), some (.int (nI k))] [] w1 (I, D, RR R) Q := by
  intro n
  induction n with
  | zero => intro k hk; exact s283a (by omega) (cntP_le _ _) hd (fun h0 => by rw [show k = 24 by omega]; exact hq) (fun h0 h1 => absurd (show 24 ≤ k by omega) h0) (fun h0 h1 h2 => absurd (show 24 ≤ k by omega) h0) (fun h0 h1 h2 => absurd (show 24 ≤ k by omega) h0)
  | succ n ih => intro k hk; exact s283a (by omega) (cntP_le _ _) hd (fun h0 => absurd h0 (by omega)) (fun h0 h1 => by rw [cntP_n (p := fun k => (decide (I 264 k = 0) && !decide (I 262 k = 0))) (by simp [h1])]; exact ih (k + 1) (by omega)) (fun h0 h1 h2 => by rw [cntP_n (p := fun k => (decide (I 264 k = 0) && !decide (I 262 k = 0))) (by simp [h1, h2])]; exact ih (k + 1) (by omega)) (fun h0 h1 h2 => by rw [cntP_y (p := fun k => (decide (I 264 k = 0) && !decide (I 262 k = 0))) (by simp [h1, h2])]; exact ih (k + 1) (by omega))
theorem l283b {d : Nat} {I : Nat → Nat → Int32} {D : Nat → Nat → UInt64} {R : Nat → Nat → Option Nat} {Q : j_Po} (hd : 2 ≤ d) (hq : Q (some (.int (nI (cntP (fun k => !decide (I 315 k = 0)) 6)))) w1 (I, D, RR R)) : ∀ (n k : Nat), n + k = 6 → j_W 283 d 0 0 0 0 72 [some (.ref 260), none, some (.int (nI (cntP (fun k => !decide (I 315 k = 0)) k))), some (.int (nI k))] [] w1 (I, D, RR R) Q := by
  intro n
  induction n with
  | zero => intro k hk; exact s283b (by omega) (cntP_le _ _) hd (fun h0 => by rw [show k = 6 by omega]; exact hq) (fun h0 h1 => absurd (show 6 ≤ k by omega) h0) (fun h0 h1 => absurd (show 6 ≤ k by omega) h0)
  | succ n ih => intro k hk; exact s283b (by omega) (cntP_le _ _) hd (fun h0 => absurd h0 (by omega)) (fun h0 h1 => by rw [cntP_n (p := fun k => !decide (I 315 k = 0)) (by simp [h1])]; exact ih (k + 1) (by omega)) (fun h0 h1 => by rw [cntP_y (p := fun k => !decide (I 315 k = 0)) (by simp [h1])]; exact ih (k + 1) (by omega))
def countR (σ : j_I3) : Prop := (∀ c, c < 24 → ((σ.1 ((σ.2.2 112 c).getD 0) 1 ≤ 0 ↔ σ.1 264 c = 0) ∧ (σ.1 111 c = 0 ↔ ¬ (σ.1 264 c = 0 ∧ ¬ σ.1 262 c = 0)))) ∧ (∀ t, t < 6 → (σ.1 ((σ.2.2 113 t).getD 0) 0 = 0 ↔ σ.1 315 t = 0)) ∧ σ.1 97 1 = σ.1 260 34
theorem pair_count {σ : j_I3} {a : Int32} {T : j_I3 → Prop} (h : countR σ) (hR : WFR σ.2.2) (hT : T σ) : Pair 157 283 [.int a] σ T := by
  show j_Call lD 157 [.ref 0, .int a] w1 (σ.1, σ.2.1, RR σ.2.2) 0 0 (PEnd 283 [.int a] _)
  obtain ⟨h1, h2, hc⟩ := h
  have hf : cntP (fun k => !decide (σ.1 264 k = 0)) 24 = cntP (fun k => !decide (σ.1 ((σ.2.2 112 k).getD 0) 1 ≤ 0)) 24 := cntP_cg fun k hk => by simp only [(h1 k hk).1]
  have hn : cntP (fun k => (decide (σ.1 264 k = 0) && !decide (σ.1 262 k = 0))) 24 = cntP (fun k => !decide (σ.1 111 k = 0)) 24 := cntP_cg fun k hk => by simp only [(h1 k hk).2]; by_cases e1 : σ.1 264 k = 0 <;> by_cases e2 : σ.1 262 k = 0 <;> simp [e1, e2]
  have hl : cntP (fun k => !decide (σ.1 315 k = 0)) 6 = cntP (fun k => !decide (σ.1 ((σ.2.2 113 k).getD 0) 0 = 0)) 6 := cntP_cg fun k hk => by simp only [h2 k hk]
  exact s157 hR lD2 (fun h1 => pend_same hT (s283e lD2 (fun g1 g2 g3 g4 => False.elim (by first | exact absurd g1 h1 | exact absurd h1 g1 | exact (Int32.not_lt.mpr g1) h1 | exact (Int32.not_lt.mpr h1) g1 | exact g1 (Int32.not_le.mp h1) | exact h1 (Int32.not_le.mp g1) | omega)) (fun g1 g2 g3 g4 => False.elim (by first | exact absurd g1 h1 | exact absurd h1 g1 | exact (Int32.not_lt.mpr g1) h1 | exact (Int32.not_lt.mpr h1) g1 | exact g1 (Int32.not_le.mp h1) | exact h1 (Int32.not_le.mp g1) | omega)) (fun g1 g2 g3 => False.elim (by first | exact absurd g1 h1 | exact absurd h1 g1 | exact (Int32.not_lt.mpr g1) h1 | exact (Int32.not_lt.mpr h1) g1 | exact g1 (Int32.not_le.mp h1) | exact h1 (Int32.not_le.mp g1) | omega)) (fun g1 g2 => False.elim (by first | exact absurd g1 h1 | exact absurd h1 g1 | exact (Int32.not_lt.mpr g1) h1 | exact (Int32.not_lt.mpr h1) g1 | exact g1 (Int32.not_le.mp h1) | exact h1 (Int32.not_le.mp g1) | omega)) (fun g1 => ⟨by rw [hf], rfl, rfl⟩))) (fun h1 h2 => pend_same hT (s283e lD2 (fun g1 g2 g3 g4 => False.elim (by first | exact absurd g3 h2 | exact absurd h2 g3 | exact (Int32.not_lt.mpr g3) h2 | exact (Int32.not_lt.mpr h2) g3 | exact g3 (Int32.not_le.mp h2) | exact h2 (Int32.not_le.mp g3) | omega)) (fun g1 g2 g3 g4 => False.elim (by first | exact absurd g3 h2 | exact absurd h2 g3 | exact (Int32.not_lt.mpr g3) h2 | exact (Int32.not_lt.mpr h2) g3 | exact g3 (Int32.not_le.mp h2) | exact h2 (Int32.not_le.mp g3) | omega)) (fun g1 g2 g3 => l283a lD2 ⟨by rw [hn], rfl, rfl⟩ 24 0 rfl) (fun g1 g2 => False.elim (by exact absurd (h2.symm.trans g2) (by decide))) (fun g1 => False.elim (by first | exact absurd g1 h1 | exact absurd h1 g1 | exact (Int32.not_lt.mpr g1) h1 | exact (Int32.not_lt.mpr h1) g1 | exact g1 (Int32.not_le.mp h1) | exact h1 (Int32.not_le.mp g1) | omega)))) (fun h1 h2 h3 => pend_same hT (s283e lD2 (fun g1 g2 g3 g4 => l283b lD2 ⟨by rw [hl], rfl, rfl⟩ 6 0 rfl) (fun g1 g2 g3 g4 => False.elim (by first | exact absurd g4 h3 | exact absurd h3 g4 | exact (Int32.not_lt.mpr g4) h3 | exact (Int32.not_lt.mpr h3) g4 | exact g4 (Int32.not_le.mp h3) | exact h3 (Int32.not_le.mp g4) | omega)) (fun g1 g2 g3 => False.elim (by first | exact absurd g3 h2 | exact absurd h2 g3 | exact (Int32.not_lt.mpr g3) h2 | exact (Int32.not_lt.mpr h2) g3 | exact g3 (Int32.not_le.mp h2) | exact h2 (Int32.not_le.mp g3) | omega)) (fun g1 g2 => False.elim (by exact absurd (h3.symm.trans g2) (by decide))) (fun g1 => False.elim (by first | exact absurd g1 h1 | exact absurd h1 g1 | exact (Int32.not_lt.mpr g1) h1 | exact (Int32.not_lt.mpr h1) g1 | exact g1 (Int32.not_le.mp h1) | exact h1 (Int32.not_le.mp g1) | omega)))) (fun h1 h2 h3 h4 => pend_same hT (s283e lD2 (fun g1 g2 g3 g4 => False.elim (by first | exact absurd g2 h4 | exact absurd h4 g2 | exact (Int32.not_lt.mpr g2) h4 | exact (Int32.not_lt.mpr h4) g2 | exact g2 (Int32.not_le.mp h4) | exact h4 (Int32.not_le.mp g2) | omega)) (fun g1 g2 g3 g4 => False.elim (by first | exact absurd g2 h4 | exact absurd h4 g2 | exact (Int32.not_lt.mpr g2) h4 | exact (Int32.not_lt.mpr h4) g2 | exact g2 (Int32.not_le.mp h4) | exact h4 (Int32.not_le.mp g2) | omega)) (fun g1 g2 g3 => False.elim (by first | exact absurd g2 h4 | exact absurd h4 g2 | exact (Int32.not_lt.mpr g2) h4 | exact (Int32.not_lt.mpr h4) g2 | exact g2 (Int32.not_le.mp h4) | exact h4 (Int32.not_le.mp g2) | omega)) (fun g1 g2 => ⟨by rw [hc], rfl, rfl⟩) (fun g1 => False.elim (by first | exact absurd g1 h1 | exact absurd h1 g1 | exact (Int32.not_lt.mpr g1) h1 | exact (Int32.not_lt.mpr h1) g1 | exact g1 (Int32.not_le.mp h1) | exact h1 (Int32.not_le.mp g1) | omega)))) (fun h1 h2 h3 h4 => pend_same hT (s283e lD2 (fun g1 g2 g3 g4 => False.elim (by first | exact absurd g4 h3 | exact absurd h3 g4 | exact (Int32.not_lt.mpr g4) h3 | exact (Int32.not_lt.mpr h3) g4 | exact g4 (Int32.not_le.mp h3) | exact h3 (Int32.not_le.mp g4) | omega)) (fun g1 g2 g3 g4 => ⟨rfl, rfl, rfl⟩) (fun g1 g2 g3 => False.elim (by first | exact absurd g3 h2 | exact absurd h2 g3 | exact (Int32.not_lt.mpr g3) h2 | exact (Int32.not_lt.mpr h2) g3 | exact g3 (Int32.not_le.mp h2) | exact h2 (Int32.not_le.mp g3) | omega)) (fun g1 g2 => False.elim (by first | exact absurd g2 h4 | exact absurd h4 g2 | exact (Int32.not_lt.mpr g2) h4 | exact (Int32.not_lt.mpr h4) g2 | exact g2 (Int32.not_le.mp h4) | exact h4 (Int32.not_le.mp g2) | omega)) (fun g1 => False.elim (by first | exact absurd g1 h1 | exact absurd h1 g1 | exact (Int32.not_lt.mpr g1) h1 | exact (Int32.not_lt.mpr h1) g1 | exact g1 (Int32.not_le.mp h1) | exact h1 (Int32.not_le.mp g1) | omega))))
