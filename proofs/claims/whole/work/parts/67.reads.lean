/-! the reference: which inputs are read -/
/-! the inputs that are read -/
def rvy (I : Nat → Nat → Int32) (t : Nat) : Int32 := if I 318 t = -1 then (1 <<< (I 317 t &&& 31)) ||| 0 else (1 <<< (I 317 t &&& 31)) ||| (1 <<< (I 318 t &&& 31))
theorem c181 {d : Nat} {I : Nat → Nat → Int32} {D : Nat → Nat → UInt64} {R : Nat → Nat → Option Nat} {Q : j_Po} {t : Nat} (ht : t < 6) (hq : Q (some (.int (rvy I t))) w1 (I, D, RR R)) : j_Call d 181 [.ref 260, .int (nI t)] w1 (I, D, RR R) 0 0 Q := by
  unfold rvy at hq
  refine s181 ht (Nat.zero_le _) (fun h => ?_) (fun h => ?_)
  · rw [if_neg h] at hq; exact hq
  · rw [if_pos h] at hq; exact hq
def MRd (rd : Nat → Int32) (I : Nat → Nat → Int32) : Prop := ∀ c, c < 24 → ¬ I 359 c = 0 → I 360 c = rd c
def RdC (β : Bd) (rd : Nat → Int32) (ρ : Nat → Nat) (r : Nat) : Prop := ∀ {d : Nat} {I : Nat → Nat → Int32} {D : Nat → Nat → UInt64} {R : Nat → Nat → Option Nat} {Q : j_Po} (c : Nat), c < 24 → ρ c < r → ρ c + 3 ≤ d → MRd rd I → RBN β I → (∀ J, (∀ o, o ≠ 359 → o ≠ 360 → J o = I o) → MRd rd J → RBN β J → Q (some (.int (rd c))) w1 (J, D, RR R)) → j_Call d 178 [.ref 260, .int (nI c)] w1 (I, D, RR R) 0 0 Q
set_option maxRecDepth 10000 in
set_option maxHeartbeats 4000000 in
theorem s178e {d : Nat} {I : Nat → Nat → Int32} {D : Nat → Nat → UInt64} {R : Nat → Nat → Option Nat} {Q : j_Po} {c : Nat} {β : Bd} {rd : Nat → Int32} {ρ : Nat → Nat} (hc : c < 24) (hrec : RdC β rd ρ (ρ c)) (hd : ρ c + 3 ≤ d)
    (v1 : ((I 359 c) = 0) → (¬ (I 264 c) = 0) → j_W 178 d 0 0 0 0 34 [some (.ref 260), some (.int (nI c)), some (.int 0), some (.int 0)] [] w1 (I, D, RR R) Q)
    (v2 : ((I 359 c) = 0) → ((I 264 c) = 0) → j_W 178 d 0 0 0 0 34 [some (.ref 260), some (.int (nI c)), some (.int (1 <<< ((nI c) &&& 31))), some (.int 0)] [] w1 (I, D, RR R) Q)
    (v3 : (¬ (I 359 c) = 0) → Q (some (.int (I 360 c))) w1 (I, D, RR R)) : j_Call d 178 [.ref 260, .int (nI c)] w1 (I, D, RR R) 0 0 Q := by
  refine q_enter (L := [some (.ref 260), some (.int (nI c)), none, none]) j_m178 (Nat.le_of_ble_eq_true rfl) rfl ?_
  refine q_aload_n d178_0 rfl ?_
  refine q_getR (x := 359) d178_1 (fs10_58 178 rfl) rfl (lt_w1 rfl) sh260 (rs260_14 R) (by decide) ?_
  refine q_iload_n d178_4 rfl ?_
  refine q_zaload (a := c) d178_5 (lt_w1 rfl) sh359 rfl (by omega) ?_
  refine q_if_eq (tgt := 16) d178_6 rfl (fun h1t => ?_) (fun h1f => ?_)
  ·
    refine q_aload_n d178_16 rfl ?_
    refine q_iload_n d178_17 rfl ?_
    refine q_invV (o := 260) (ci := 10) (av := [.int (nI c)]) (rest := []) (d' := 0) (mc' := 0) (ms' := 0) d178_18 (cv10_204 178 rfl) rfl (by decide) rfl rfl (by omega) (Nat.le_of_ble_eq_true rfl) (Nat.le_of_ble_eq_true rfl) (lt_w1 rfl) sh260 (Nat.le_refl _) (Nat.le_refl _) ?_
    refine s170 (k := c) (by first | omega | decide) (Nat.le_refl _) (fun c2 => ?_) (fun c3 => ?_)
    ·
      show j_W 178 d 0 0 0 0 21 [some (.ref 260), some (.int (nI c)), none, none] [.int 0] w1 (I, D, RR R) Q
      refine q_if_eq (tgt := 30) d178_21 rfl (fun _ => ?_) (fun h => absurd h (by decide))
      refine q_iconst (v := 0) (by decide) d178_30 ?_
      refine q_istore_n (L' := [some (.ref 260), some (.int (nI c)), some (.int 0), none]) d178_31 (Nat.le_of_ble_eq_true rfl) rfl ?_
      refine q_iconst (v := 0) (by decide) d178_32 ?_
      refine q_istore_n (L' := [some (.ref 260), some (.int (nI c)), some (.int 0), some (.int 0)]) d178_33 (Nat.le_of_ble_eq_true rfl) rfl ?_
      exact r_sub (L' := [some (.ref 260), some (.int (nI c)), some (.int 0), some (.int 0)]) ⟨rfl, rfl, rfl, rfl, trivial⟩ (v1 h1t c2)
    ·
      show j_W 178 d 0 0 0 0 21 [some (.ref 260), some (.int (nI c)), none, none] [.int 1] w1 (I, D, RR R) Q
      refine q_if_eq (tgt := 30) d178_21 rfl (fun h => absurd h (by decide)) (fun _ => ?_)
      refine q_iconst (v := 1) (by decide) d178_24 ?_
      refine q_iload_n d178_25 rfl ?_
      refine q_ishl d178_26 ?_
      refine q_goto (tgt := 31) d178_27 rfl ?_
      refine q_istore_n (L' := [some (.ref 260), some (.int (nI c)), some (.int (1 <<< ((nI c) &&& 31))), none]) d178_31 (Nat.le_of_ble_eq_true rfl) rfl ?_
      refine q_iconst (v := 0) (by decide) d178_32 ?_
      refine q_istore_n (L' := [some (.ref 260), some (.int (nI c)), some (.int (1 <<< ((nI c) &&& 31))), some (.int 0)]) d178_33 (Nat.le_of_ble_eq_true rfl) rfl ?_
      exact r_sub (L' := [some (.ref 260), some (.int (nI c)), some (.int (1 <<< ((nI c) &&& 31))), some (.int 0)]) ⟨rfl, rfl, rfl, rfl, trivial⟩ (v2 h1t c3)
  ·
    refine q_aload_n d178_9 rfl ?_
    refine q_getR (x := 360) d178_10 (fs10_61 178 rfl) rfl (lt_w1 rfl) sh260 (rs260_15 R) (by decide) ?_
    refine q_iload_n d178_13 rfl ?_
    refine q_iaload (a := c) d178_14 (lt_w1 rfl) sh360 rfl (by omega) ?_
    exact q_iret d178_15 rfl (Nat.le_refl _) (Nat.le_refl _) (v3 h1f)

set_option maxRecDepth 10000 in
set_option maxHeartbeats 4000000 in
theorem s178a {d : Nat} {I : Nat → Nat → Int32} {D : Nat → Nat → UInt64} {R : Nat → Nat → Option Nat} {Q : j_Po} {c : Nat} {x : Int32} {k : Nat} {β : Bd} {rd : Nat → Int32} {ρ : Nat → Nat} (hc : c < 24) (hrec : RdC β rd ρ (ρ c)) (hk : k ≤ 24) (hd : ρ c + 3 ≤ d)
    (v1 : (24 ≤ k) → j_W 178 d 0 0 0 0 69 [some (.ref 260), some (.int (nI c)), some (.int x), some (.int 0)] [] w1 (I, D, RR R) Q)
    (v2 : (¬ 24 ≤ k) → (¬ (((I 333 c) >>> ((nI k) &&& 31)) &&& 1) = 1) → j_W 178 d 0 0 0 0 34 [some (.ref 260), some (.int (nI c)), some (.int x), some (.int (nI (k + 1)))] [] w1 (I, D, RR R) Q)
    (v3 : (¬ 24 ≤ k) → ((((I 333 c) >>> ((nI k) &&& 31)) &&& 1) = 1) → k < 24)
    (v4 : (¬ 24 ≤ k) → ((((I 333 c) >>> ((nI k) &&& 31)) &&& 1) = 1) → ρ k < ρ c)
    (v5 : (¬ 24 ≤ k) → ((((I 333 c) >>> ((nI k) &&& 31)) &&& 1) = 1) → ρ k + 3 ≤ d - 1)
    (v6 : (¬ 24 ≤ k) → ((((I 333 c) >>> ((nI k) &&& 31)) &&& 1) = 1) → MRd rd I)
    (v7 : (¬ 24 ≤ k) → ((((I 333 c) >>> ((nI k) &&& 31)) &&& 1) = 1) → RBN β I)
    (v8 : (¬ 24 ≤ k) → ((((I 333 c) >>> ((nI k) &&& 31)) &&& 1) = 1) → ∀ J3 : Nat → Nat → Int32, (∀ o, o ≠ 359 → o ≠ 360 → J3 o = I o) → (MRd rd J3) → (RBN β J3) → j_W 178 d 0 0 0 0 34 [some (.ref 260), some (.int (nI c)), some (.int (x ||| (rd k))), some (.int (nI (k + 1)))] [] w1 (J3, D, RR R) Q) : j_W 178 d 0 0 0 0 34 [some (.ref 260), some (.int (nI c)), some (.int x), some (.int (nI k))] [] w1 (I, D, RR R) Q := by
  refine q_iload_n d178_34 rfl ?_
  refine q_bipush (v := 24) (by decide) d178_35 ?_
  refine q_icmp_ge (tgt := 67) d178_37 rfl (fun h1t => ?_) (fun h1f => ?_)
  ·
    have h1tc : 24 ≤ k := (nI_leI (by omega) (by omega)).mp h1t
    refine q_iconst (v := 0) (by decide) d178_67 ?_
    refine q_istore_n (L' := [some (.ref 260), some (.int (nI c)), some (.int x), some (.int 0)]) d178_68 (Nat.le_of_ble_eq_true rfl) rfl ?_
    exact r_sub (L' := [some (.ref 260), some (.int (nI c)), some (.int x), some (.int 0)]) ⟨rfl, rfl, rfl, rfl, trivial⟩ (v1 h1tc)
  ·
    have h1fc : ¬ 24 ≤ k := mt (nI_leI (by omega) (by omega)).mpr h1f
    refine q_aload_n d178_40 rfl ?_
    refine q_iload_n d178_41 rfl ?_
    refine q_invV (o := 260) (ci := 10) (av := [.int (nI c)]) (rest := []) (d' := 0) (mc' := 0) (ms' := 0) d178_42 (cv10_196 178 rfl) rfl (by decide) rfl rfl (by omega) (Nat.le_of_ble_eq_true rfl) (Nat.le_of_ble_eq_true rfl) (lt_w1 rfl) sh260 (Nat.le_refl _) (Nat.le_refl _) ?_
    refine s179 (k := c) (by first | omega | decide) (Nat.le_refl _) ?_
    show j_W 178 d 0 0 0 0 45 [some (.ref 260), some (.int (nI c)), some (.int x), some (.int (nI k))] [.int (I 333 c)] w1 (I, D, RR R) Q
    refine q_iload_n d178_45 rfl ?_
    refine q_ishr d178_46 ?_
    refine q_iconst (v := 1) (by decide) d178_47 ?_
    refine q_iand d178_48 ?_
    refine q_iconst (v := 1) (by decide) d178_49 ?_
    refine q_icmp_ne (tgt := 61) d178_50 rfl (fun h2t => ?_) (fun h2f => ?_)
    ·
      refine q_iinc (L' := [some (.ref 260), some (.int (nI c)), some (.int x), some (.int (nI (k + 1)))]) (v := (nI (k + 1))) d178_61 rfl (nI_inc _) rfl ?_
      refine q_goto (tgt := 34) d178_64 rfl ?_
      exact r_sub (L' := [some (.ref 260), some (.int (nI c)), some (.int x), some (.int (nI (k + 1)))]) ⟨rfl, rfl, rfl, rfl, trivial⟩ (v2 h1fc h2t)
    ·
      refine q_iload_n d178_53 rfl ?_
      refine q_aload_n d178_54 rfl ?_
      refine q_iload_n d178_55 rfl ?_
      refine q_invV (o := 260) (ci := 10) (av := [.int (nI k)]) (rest := [.int x]) (d' := (d - 1)) (mc' := 0) (ms' := 0) d178_56 (cv10_208 178 rfl) rfl (by decide) rfl rfl (by omega) (Nat.le_of_ble_eq_true rfl) (Nat.le_of_ble_eq_true rfl) (lt_w1 rfl) sh260 (Nat.le_refl _) (Nat.le_refl _) ?_
      refine hrec k (v3 h1fc h2f) (v4 h1fc h2f) (v5 h1fc h2f) (v6 h1fc h2f) (v7 h1fc h2f) (fun J3 j4 j5 j6 => ?_)
      show j_W 178 d 0 0 0 0 59 [some (.ref 260), some (.int (nI c)), some (.int x), some (.int (nI k))] [.int (rd k), .int x] w1 (J3, D, RR R) Q
      refine q_ior d178_59 ?_
      refine q_istore_n (L' := [some (.ref 260), some (.int (nI c)), some (.int (x ||| (rd k))), some (.int (nI k))]) d178_60 (Nat.le_of_ble_eq_true rfl) rfl ?_
      refine q_iinc (L' := [some (.ref 260), some (.int (nI c)), some (.int (x ||| (rd k))), some (.int (nI (k + 1)))]) (v := (nI (k + 1))) d178_61 rfl (nI_inc _) rfl ?_
      refine q_goto (tgt := 34) d178_64 rfl ?_
      exact r_sub (L' := [some (.ref 260), some (.int (nI c)), some (.int (x ||| (rd k))), some (.int (nI (k + 1)))]) ⟨rfl, rfl, rfl, rfl, trivial⟩ (v8 h1fc h2f J3 j4 j5 j6)

set_option maxRecDepth 10000 in
set_option maxHeartbeats 4000000 in
theorem s178b {d : Nat} {I : Nat → Nat → Int32} {D : Nat → Nat → UInt64} {R : Nat → Nat → Option Nat} {Q : j_Po} {c : Nat} {x : Int32} {k : Nat} {β : Bd} {rd : Nat → Int32} {ρ : Nat → Nat} (hc : c < 24) (hrec : RdC β rd ρ (ρ c)) (hk : k ≤ 6) (hO : ∀ t, t < 6 → ¬ I 315 t = 0 → I 316 t = nI (bO β t)) (hd : ρ c + 3 ≤ d)
    (v1 : (6 ≤ k) → Q (some (.int x)) w1 ((j_u (j_u I 359 c 1) 360 c x), D, RR R))
    (v2 : (¬ 6 ≤ k) → ((I 315 k) = 0) → j_W 178 d 0 0 0 0 69 [some (.ref 260), some (.int (nI c)), some (.int x), some (.int (nI (k + 1)))] [] w1 (I, D, RR R) Q)
    (v3 : (¬ 6 ≤ k) → (¬ (I 315 k) = 0) → ((I (335 + c) k) ≤ 0) → j_W 178 d 0 0 0 0 69 [some (.ref 260), some (.int (nI c)), some (.int x), some (.int (nI (k + 1)))] [] w1 (I, D, RR R) Q)
    (v4 : (¬ 6 ≤ k) → (¬ (I 315 k) = 0) → (¬ (I (335 + c) k) ≤ 0) → (bO β k) < 24)
    (v5 : (¬ 6 ≤ k) → (¬ (I 315 k) = 0) → (¬ (I (335 + c) k) ≤ 0) → ρ (bO β k) < ρ c)
    (v6 : (¬ 6 ≤ k) → (¬ (I 315 k) = 0) → (¬ (I (335 + c) k) ≤ 0) → ρ (bO β k) + 3 ≤ d - 1)
    (v7 : (¬ 6 ≤ k) → (¬ (I 315 k) = 0) → (¬ (I (335 + c) k) ≤ 0) → MRd rd I)
    (v8 : (¬ 6 ≤ k) → (¬ (I 315 k) = 0) → (¬ (I (335 + c) k) ≤ 0) → RBN β I)
    (v9 : (¬ 6 ≤ k) → (¬ (I 315 k) = 0) → (¬ (I (335 + c) k) ≤ 0) → ∀ J4 : Nat → Nat → Int32, (∀ o, o ≠ 359 → o ≠ 360 → J4 o = I o) → (MRd rd J4) → (RBN β J4) → j_W 178 d 0 0 0 0 69 [some (.ref 260), some (.int (nI c)), some (.int (x ||| ((rd (bO β k)) &&& ((rvy J4 k) ^^^ (-1))))), some (.int (nI (k + 1)))] [] w1 (J4, D, RR R) Q) : j_W 178 d 0 0 0 0 69 [some (.ref 260), some (.int (nI c)), some (.int x), some (.int (nI k))] [] w1 (I, D, RR R) Q := by
  refine q_iload_n d178_69 rfl ?_
  refine q_bipush (v := 6) (by decide) d178_70 ?_
  refine q_icmp_ge (tgt := 120) d178_72 rfl (fun h1t => ?_) (fun h1f => ?_)
  ·
    have h1tc : 6 ≤ k := (nI_leI (by omega) (by omega)).mp h1t
    refine q_aload_n d178_120 rfl ?_
    refine q_getR (x := 359) d178_121 (fs10_58 178 rfl) rfl (lt_w1 rfl) sh260 (rs260_14 R) (by decide) ?_
    refine q_iload_n d178_124 rfl ?_
    refine q_iconst (v := 1) (by decide) d178_125 ?_
    refine q_zastore (a := c) d178_126 (Or.inr rfl) (lt_w1 rfl) sh359 rfl (by omega) ?_
    refine q_aload_n d178_127 rfl ?_
    refine q_getR (x := 360) d178_128 (fs10_61 178 rfl) rfl (lt_w1 rfl) sh260 (rs260_15 R) (by decide) ?_
    refine q_iload_n d178_131 rfl ?_
    refine q_iload_n d178_132 rfl ?_
    refine q_iastore (a := c) d178_133 (lt_w1 rfl) sh360 rfl (by omega) ?_
    refine q_iload_n d178_134 rfl ?_
    exact q_iret d178_135 rfl (Nat.le_refl _) (Nat.le_refl _) (v1 h1tc)
  ·
    have h1fc : ¬ 6 ≤ k := mt (nI_leI (by omega) (by omega)).mpr h1f
    refine q_aload_n d178_75 rfl ?_
    refine q_getR (x := 315) d178_76 (fs10_34 178 rfl) rfl (lt_w1 rfl) sh260 (rs260_6 R) (by decide) ?_
    refine q_iload_n d178_79 rfl ?_
    refine q_zaload (a := k) d178_80 (lt_w1 rfl) sh315 rfl (by omega) ?_
    refine q_if_eq (tgt := 114) d178_81 rfl (fun h2t => ?_) (fun h2f => ?_)
    ·
      refine q_iinc (L' := [some (.ref 260), some (.int (nI c)), some (.int x), some (.int (nI (k + 1)))]) (v := (nI (k + 1))) d178_114 rfl (nI_inc _) rfl ?_
      refine q_goto (tgt := 69) d178_117 rfl ?_
      exact r_sub (L' := [some (.ref 260), some (.int (nI c)), some (.int x), some (.int (nI (k + 1)))]) ⟨rfl, rfl, rfl, rfl, trivial⟩ (v2 h1fc h2t)
    ·
      refine q_aload_n d178_84 rfl ?_
      refine q_iload_n d178_85 rfl ?_
      refine q_iload_n d178_86 rfl ?_
      refine q_invV (o := 260) (ci := 10) (av := [.int (nI c), .int (nI k)]) (rest := []) (d' := 0) (mc' := 0) (ms' := 0) d178_87 (cv10_200 178 rfl) rfl (by decide) rfl rfl (by omega) (Nat.le_of_ble_eq_true rfl) (Nat.le_of_ble_eq_true rfl) (lt_w1 rfl) sh260 (Nat.le_refl _) (Nat.le_refl _) ?_
      refine s180 (k := c) (t := k) (by first | omega | decide) (by first | omega | decide) (Nat.le_refl _) ?_
      show j_W 178 d 0 0 0 0 90 [some (.ref 260), some (.int (nI c)), some (.int x), some (.int (nI k))] [.int (I (335 + c) k)] w1 (I, D, RR R) Q
      refine q_if_le (tgt := 114) d178_90 rfl (fun h3t => ?_) (fun h3f => ?_)
      ·
        refine q_iinc (L' := [some (.ref 260), some (.int (nI c)), some (.int x), some (.int (nI (k + 1)))]) (v := (nI (k + 1))) d178_114 rfl (nI_inc _) rfl ?_
        refine q_goto (tgt := 69) d178_117 rfl ?_
        exact r_sub (L' := [some (.ref 260), some (.int (nI c)), some (.int x), some (.int (nI (k + 1)))]) ⟨rfl, rfl, rfl, rfl, trivial⟩ (v3 h1fc h2f h3t)
      ·
        refine q_iload_n d178_93 rfl ?_
        refine q_aload_n d178_94 rfl ?_
        refine q_aload_n d178_95 rfl ?_
        refine q_getR (x := 316) d178_96 (fs10_37 178 rfl) rfl (lt_w1 rfl) sh260 (rs260_7 R) (by decide) ?_
        refine q_iload_n d178_99 rfl ?_
        refine q_iaload (a := k) d178_100 (lt_w1 rfl) sh316 rfl (by omega) ?_
        refine r_int (y := nI (bO β k)) (hO k (by omega) (by assumption)) ?_
        refine q_invV (o := 260) (ci := 10) (av := [.int (nI (bO β k))]) (rest := [.int x]) (d' := (d - 1)) (mc' := 0) (ms' := 0) d178_101 (cv10_208 178 rfl) rfl (by decide) rfl rfl (by omega) (Nat.le_of_ble_eq_true rfl) (Nat.le_of_ble_eq_true rfl) (lt_w1 rfl) sh260 (Nat.le_refl _) (Nat.le_refl _) ?_
        refine hrec (bO β k) (v4 h1fc h2f h3f) (v5 h1fc h2f h3f) (v6 h1fc h2f h3f) (v7 h1fc h2f h3f) (v8 h1fc h2f h3f) (fun J4 j5 j6 j7 => ?_)
        show j_W 178 d 0 0 0 0 104 [some (.ref 260), some (.int (nI c)), some (.int x), some (.int (nI k))] [.int (rd (bO β k)), .int x] w1 (J4, D, RR R) Q
        refine q_aload_n d178_104 rfl ?_
        refine q_iload_n d178_105 rfl ?_
        refine q_invV (o := 260) (ci := 10) (av := [.int (nI k)]) (rest := [.int (rd (bO β k)), .int x]) (d' := 0) (mc' := 0) (ms' := 0) d178_106 (cv10_211 178 rfl) rfl (by decide) rfl rfl (by omega) (Nat.le_of_ble_eq_true rfl) (Nat.le_of_ble_eq_true rfl) (lt_w1 rfl) sh260 (Nat.le_refl _) (Nat.le_refl _) ?_
        refine c181 (by omega)  ?_
        show j_W 178 d 0 0 0 0 109 [some (.ref 260), some (.int (nI c)), some (.int x), some (.int (nI k))] [.int (rvy J4 k), .int (rd (bO β k)), .int x] w1 (J4, D, RR R) Q
        refine q_iconst (v := (-1)) (by decide) d178_109 ?_
        refine q_ixor d178_110 ?_
        refine q_iand d178_111 ?_
        refine q_ior d178_112 ?_
        refine q_istore_n (L' := [some (.ref 260), some (.int (nI c)), some (.int (x ||| ((rd (bO β k)) &&& ((rvy J4 k) ^^^ (-1))))), some (.int (nI k))]) d178_113 (Nat.le_of_ble_eq_true rfl) rfl ?_
        refine q_iinc (L' := [some (.ref 260), some (.int (nI c)), some (.int (x ||| ((rd (bO β k)) &&& ((rvy J4 k) ^^^ (-1))))), some (.int (nI (k + 1)))]) (v := (nI (k + 1))) d178_114 rfl (nI_inc _) rfl ?_
        refine q_goto (tgt := 69) d178_117 rfl ?_
        exact r_sub (L' := [some (.ref 260), some (.int (nI c)), some (.int (x ||| ((rd (bO β k)) &&& ((rvy J4 k) ^^^ (-1))))), some (.int (nI (k + 1)))]) ⟨rfl, rfl, rfl, rfl, trivial⟩ (v9 h1fc h2f h3f J4 j5 j6 j7)

set_option maxRecDepth 10000 in
set_option maxHeartbeats 4000000 in
theorem s177e {d : Nat} {I : Nat → Nat → Int32} {D : Nat → Nat → UInt64} {R : Nat → Nat → Option Nat} {Q : j_Po} {c : Nat}  (hc : c < 24) (hd : 1 ≤ d)
    (v1 : j_W 177 d 0 0 0 0 2 [some (.ref 260), some (.int (nI c)), some (.int 0)] [] w1 (I, D, RR R) Q) : j_Call d 177 [.ref 260, .int (nI c)] w1 (I, D, RR R) 0 0 Q := by
  refine q_enter (L := [some (.ref 260), some (.int (nI c)), none]) j_m177 (Nat.le_of_ble_eq_true rfl) rfl ?_
  refine q_iconst (v := 0) (by decide) d177_0 ?_
  refine q_istore_n (L' := [some (.ref 260), some (.int (nI c)), some (.int 0)]) d177_1 (Nat.le_of_ble_eq_true rfl) rfl ?_
  exact r_sub (L' := [some (.ref 260), some (.int (nI c)), some (.int 0)]) ⟨rfl, rfl, rfl, trivial⟩ v1

set_option maxRecDepth 10000 in
set_option maxHeartbeats 4000000 in
theorem s177h {d : Nat} {I : Nat → Nat → Int32} {D : Nat → Nat → UInt64} {R : Nat → Nat → Option Nat} {Q : j_Po} {c : Nat} {k : Nat} {β : Bd} {rd : Nat → Int32} {ρ : Nat → Nat} {r : Nat} (hc : c < 24) (hk : k ≤ 24) (hrec : RdC β rd ρ r) (hd : 1 ≤ d)
    (v1 : (24 ≤ k) → ρ c < r)
    (v2 : (24 ≤ k) → ρ c + 3 ≤ d - 1)
    (v3 : (24 ≤ k) → MRd rd I)
    (v4 : (24 ≤ k) → RBN β I)
    (v5 : (24 ≤ k) → ∀ J : Nat → Nat → Int32, (∀ o, o ≠ 359 → o ≠ 360 → J o = I o) → (MRd rd J) → (RBN β J) → Q (some (.int (rd c))) w1 (J, D, RR R))
    (v6 : (¬ 24 ≤ k) → j_W 177 d 0 0 0 0 2 [some (.ref 260), some (.int (nI c)), some (.int (nI (k + 1)))] [] w1 ((j_u I 359 k 0), D, RR R) Q) : j_W 177 d 0 0 0 0 2 [some (.ref 260), some (.int (nI c)), some (.int (nI k))] [] w1 (I, D, RR R) Q := by
  refine q_iload_n d177_2 rfl ?_
  refine q_bipush (v := 24) (by decide) d177_3 ?_
  refine q_icmp_ge (tgt := 21) d177_5 rfl (fun h1t => ?_) (fun h1f => ?_)
  ·
    have h1tc : 24 ≤ k := (nI_leI (by omega) (by omega)).mp h1t
    refine q_aload_n d177_21 rfl ?_
    refine q_iload_n d177_22 rfl ?_
    refine q_invV (o := 260) (ci := 10) (av := [.int (nI c)]) (rest := []) (d' := (d - 1)) (mc' := 0) (ms' := 0) d177_23 (cv10_208 177 rfl) rfl (by decide) rfl rfl (by omega) (Nat.le_of_ble_eq_true rfl) (Nat.le_of_ble_eq_true rfl) (lt_w1 rfl) sh260 (Nat.le_refl _) (Nat.le_refl _) ?_
    refine hrec c (by omega) (v1 h1tc) (v2 h1tc) (v3 h1tc) (v4 h1tc) (fun J a b e => ?_)
    show j_W 177 d 0 0 0 0 26 [some (.ref 260), some (.int (nI c)), some (.int (nI k))] [.int (rd c)] w1 (J, D, RR R) Q
    exact q_iret d177_26 rfl (Nat.le_refl _) (Nat.le_refl _) (v5 h1tc J a b e)
  ·
    have h1fc : ¬ 24 ≤ k := mt (nI_leI (by omega) (by omega)).mpr h1f
    refine q_aload_n d177_8 rfl ?_
    refine q_getR (x := 359) d177_9 (fs10_58 177 rfl) rfl (lt_w1 rfl) sh260 (rs260_14 R) (by decide) ?_
    refine q_iload_n d177_12 rfl ?_
    refine q_iconst (v := 0) (by decide) d177_13 ?_
    refine q_zastore (a := k) d177_14 (Or.inl rfl) (lt_w1 rfl) sh359 rfl (by omega) ?_
    refine q_iinc (L' := [some (.ref 260), some (.int (nI c)), some (.int (nI (k + 1)))]) (v := (nI (k + 1))) d177_15 rfl (nI_inc _) rfl ?_
    refine q_goto (tgt := 2) d177_18 rfl ?_
    exact r_sub (L' := [some (.ref 260), some (.int (nI c)), some (.int (nI (k + 1)))]) ⟨rfl, rfl, rfl, trivial⟩ (v6 h1fc)

theorem anyB_s {n : Nat} {p : Nat → Bool} : anyB (n + 1) p = (anyB n p || p n) := rfl
def RdE (β : Bd) (rd : Nat → Int32) : Prop := ∀ c, c < 24 → ∀ v, v < 32 → bt (rd c) v = ((decide (bZ β c = 0) && decide (v = c) || anyB 24 fun k => nmB (bZ β c) (bS β c) k && bt (rd k) v) || anyB 6 fun t => decide (0 < tmB β c t) && bL β t && (bt (rd (bO β t)) v && !vr β t v))
theorem NM.rd {β : Bd} {I : Nat → Nat → Int32} (h : NM β I) : RdE β fun c => I 207 c := fun c hc v hv => (h.1 c hc).2.1 v hv
theorem rvy_b {β : Bd} {I : Nat → Nat → Int32} {t v : Nat} (hV : BV β) (hN : RBN β I) (ht : t < 6) (hl : bL β t = true) (hv : v < 32) : bt (rvy I t) v = vr β t v := by
  obtain ⟨-, e1, e2, -⟩ := (hN.2 t ht).2 hl
  obtain ⟨-, l1, -, l2, -⟩ := hV.2.1 t ht hl
  unfold rvy vr
  rw [e1, e2]
  cases ho : b2 β t with
  | none =>
    rw [if_pos (by rfl), b_or, bt_one (by omega) hv, b_0]
    simp
  | some o =>
    have := (l2 o ho).1
    have hne : ¬ oI (some o) = -1 := by
      show ¬ nI o = -1
      intro e
      have h1 := nI_toInt (n := o) (by omega)
      rw [e] at h1
      have : (-1 : Int32).toInt = -1 := by decide
      omega
    rw [if_neg hne, b_or, bt_one (by omega) hv]
    show (_ || bt (1 <<< (nI o &&& 31)) v) = _
    rw [bt_one (by omega) hv]
    congr 1
    by_cases e : v = o
    · subst e; simp
    · rw [decide_eq_false e, decide_eq_false (fun h => e (Option.some.inj h).symm)]
section RD
variable {d : Nat} {D : Nat → Nat → UInt64} {R : Nat → Nat → Option Nat} {Q : j_Po} {β : Bd} {rd : Nat → Int32} {ρ : Nat → Nat}
theorem RBN.put {I J : Nat → Nat → Int32} (h : RBN β I) (hJ : ∀ o, o ≠ 359 → o ≠ 360 → J o = I o) : RBN β J :=
  h.cg (hJ _ (by decide) (by decide)) (fun o h1 h2 => hJ o (by omega) (by omega)) (hJ _ (by decide) (by decide)) (fun c hc => hJ _ (by omega) (by omega))
theorem l178b (hV : BV β) (hρ : ∀ u v, u < 30 → v < 30 → ed β u v = true → ρ v < ρ u) (hE : RdE β rd) {c : Nat} (hc : c < 24) (hd : ρ c + 3 ≤ d) (hrec : RdC β rd ρ (ρ c)) {I0 : Nat → Nat → Int32}
    (hq : ∀ J, (∀ o, o ≠ 359 → o ≠ 360 → J o = I0 o) → MRd rd J → RBN β J → Q (some (.int (rd c))) w1 (J, D, RR R)) :
    ∀ (n k : Nat) (I : Nat → Nat → Int32) (x : Int32), n + k = 6 → (∀ o, o ≠ 359 → o ≠ 360 → I o = I0 o) → MRd rd I → RBN β I → (∀ v, v < 32 → bt x v = ((decide (bZ β c = 0) && decide (v = c) || anyB 24 fun k => nmB (bZ β c) (bS β c) k && bt (rd k) v) || anyB k fun t => decide (0 < tmB β c t) && bL β t && (bt (rd (bO β t)) v && !vr β t v))) →
    j_W 178 d 0 0 0 0 69 [some (.ref 260), some (.int (nI c)), some (.int x), some (.int (nI k))] [] w1 (I, D, RR R) Q := by
  intro n
  have out : ∀ {I : Nat → Nat → Int32}, RBN β I → ∀ t, t < 6 → ¬ I 315 t = 0 → I 316 t = nI (bO β t) := fun hN t ht h => by
    have hl : bL β t = true := by
      cases hl : bL β t with
      | true => rfl
      | false => exact absurd ((hN.lay ht).mpr hl) h
    exact ((hN.2 t ht).2 hl).1
  induction n with
  | zero =>
    intro k I x hk h1 h2 h3 hx
    have : k = 6 := by omega
    subst this
    refine s178b hc hrec (by omega) (out h3) hd (fun _ => ?_) (fun h => absurd (by omega) h) (fun h => absurd (by omega) h) (fun h => absurd (by omega) h) (fun h => absurd (by omega) h) (fun h => absurd (by omega) h) (fun h => absurd (by omega) h) (fun h => absurd (by omega) h) (fun h => absurd (by omega) h)
    have e : x = rd c := b_ext fun v hv => by rw [hx v hv, hE c hc v hv]
    have hf : ∀ o, o ≠ 359 → o ≠ 360 → j_u (j_u I 359 c 1) 360 c x o = I o := fun o o1 o2 => by funext i; rw [j_u_o _ _ _ o2, j_u_o _ _ _ o1]
    have := hq (j_u (j_u I 359 c 1) 360 c x) (fun o o1 o2 => (hf o o1 o2).trans (h1 o o1 o2)) (fun c' hc' h => ?_) (h3.put hf)
    · rw [← e] at this; exact this
    · by_cases e2 : c' = c
      · subst e2; rw [j_u_same]; exact e
      · rw [j_u_k _ _ e2, j_u_o _ _ _ (by decide)]
        rw [j_u_o _ _ _ (by decide), j_u_k _ _ e2] at h
        exact h2 c' hc' h
  | succ n ih =>
    intro k I x hk h1 h2 h3 hx
    have hk6 : k < 6 := by omega
    have lay : ¬ I 315 k = 0 → bL β k = true := fun h => by
      cases hl : bL β k with
      | true => rfl
      | false => exact absurd ((h3.lay hk6).mpr hl) h
    have tm : I (335 + c) k ≤ 0 ↔ ¬ 0 < tmB β c k := by
      rw [(h3.1 c hc).2.2 k hk6]
      have hle : tmB β c k ≤ 96 := Nat.le_trans (tmN_le _) (hV.1 c hc).2.1
      rcases Nat.eq_zero_or_pos (tmB β c k) with h | h
      · rw [h]; exact ⟨fun _ => by omega, fun _ => by decide⟩
      · exact ⟨fun h2 => absurd h2 (nI_nle h (by omega)), fun h2 => absurd h h2⟩
    have rk : ¬ I 315 k = 0 → ¬ I (335 + c) k ≤ 0 → ρ (bO β k) < ρ c := fun a b => by
      have htm : 0 < tmB β c k := Classical.byContradiction fun h => b (tm.mpr h)
      have ho := (hV.2.1 k hk6 (lay a)).1
      have r1 := hρ c (24 + k) (by omega) (by omega) (ed_tm hV hc htm)
      have r2 := hρ (24 + k) (bO β k) (by omega) (by omega) (ed_out (lay a))
      omega
    refine s178b hc hrec (by omega) (out h3) hd (fun h => absurd h (by omega)) (fun _ a => ?_) (fun _ a b => ?_) (fun _ a b => (hV.2.1 k hk6 (lay a)).1) (fun _ a b => rk a b) (fun _ a b => by have := rk a b; omega) (fun _ _ _ => h2) (fun _ _ _ => h3) (fun _ a b J j1 j2 j3 => ?_)
    · refine ih (k + 1) I x (by omega) h1 h2 h3 (fun v hv => ?_)
      rw [hx v hv, anyB_s (n := k), (h3.lay hk6).mp a, Bool.and_false, Bool.false_and, Bool.or_false]
    · refine ih (k + 1) I x (by omega) h1 h2 h3 (fun v hv => ?_)
      rw [hx v hv, anyB_s (n := k), decide_eq_false (tm.mp b), Bool.false_and, Bool.false_and, Bool.or_false]
    · refine ih (k + 1) J _ (by omega) (fun o o1 o2 => (j1 o o1 o2).trans (h1 o o1 o2)) j2 j3 (fun v hv => ?_)
      have htm : 0 < tmB β c k := Classical.byContradiction fun h => b (tm.mpr h)
      rw [b_or, hx v hv, anyB_s (n := k), b_and, bt_not _ hv, rvy_b hV j3 hk6 (lay a) hv, decide_eq_true htm, lay a, Bool.true_and, Bool.true_and, Bool.or_assoc]
theorem l178a (hV : BV β) (hρ : ∀ u v, u < 30 → v < 30 → ed β u v = true → ρ v < ρ u) (hE : RdE β rd) {c : Nat} (hc : c < 24) (hd : ρ c + 3 ≤ d) (hrec : RdC β rd ρ (ρ c)) {I0 : Nat → Nat → Int32}
    (hq : ∀ J, (∀ o, o ≠ 359 → o ≠ 360 → J o = I0 o) → MRd rd J → RBN β J → Q (some (.int (rd c))) w1 (J, D, RR R)) :
    ∀ (n k : Nat) (I : Nat → Nat → Int32) (x : Int32), n + k = 24 → (∀ o, o ≠ 359 → o ≠ 360 → I o = I0 o) → MRd rd I → RBN β I → (∀ v, v < 32 → bt x v = (decide (bZ β c = 0) && decide (v = c) || anyB k fun k => nmB (bZ β c) (bS β c) k && bt (rd k) v)) →
    j_W 178 d 0 0 0 0 34 [some (.ref 260), some (.int (nI c)), some (.int x), some (.int (nI k))] [] w1 (I, D, RR R) Q := by
  intro n
  induction n with
  | zero =>
    intro k I x hk h1 h2 h3 hx
    have : k = 24 := by omega
    subst this
    refine s178a hc hrec (by omega) hd (fun _ => ?_) (fun h => absurd (by omega) h) (fun h => absurd (by omega) h) (fun h => absurd (by omega) h) (fun h => absurd (by omega) h) (fun h => absurd (by omega) h) (fun h => absurd (by omega) h) (fun h => absurd (by omega) h)
    exact l178b hV hρ hE hc hd hrec hq 6 0 I x rfl h1 h2 h3 (fun v hv => by rw [hx v hv]; simp only [anyB, Bool.or_false])
  | succ n ih =>
    intro k I x hk h1 h2 h3 hx
    have hk24 : k < 24 := by omega
    have hb := (h3.1 c hc).2.1 k (by omega)
    rw [decide_eq_true hk24, Bool.true_and] at hb
    have nm : (I 333 c >>> (nI k &&& 31)) &&& 1 = 1 → nmB (bZ β c) (bS β c) k = true := fun g => by rw [← hb]; exact (hn_1 (by omega)).mp g
    have rk : (I 333 c >>> (nI k &&& 31)) &&& 1 = 1 → ρ k < ρ c := fun g => hρ c k (by omega) (by omega) (by rw [ed_nm hc]; exact nm g)
    refine s178a hc hrec (by omega) hd (fun h => absurd h (by omega)) (fun _ g => ?_) (fun _ _ => hk24) (fun _ g => rk g) (fun _ g => by have := rk g; omega) (fun _ _ => h2) (fun _ _ => h3) (fun _ g J j1 j2 j3 => ?_)
    · refine ih (k + 1) I x (by omega) h1 h2 h3 (fun v hv => ?_)
      have := n1_f (by omega) g
      rw [hb] at this
      rw [hx v hv, anyB, this, Bool.false_and, Bool.or_false]
    · refine ih (k + 1) J _ (by omega) (fun o o1 o2 => (j1 o o1 o2).trans (h1 o o1 o2)) j2 j3 (fun v hv => ?_)
      rw [b_or, hx v hv, anyB, nm g, Bool.true_and, Bool.or_assoc]
theorem rdC (hV : BV β) (hρ : ∀ u v, u < 30 → v < 30 → ed β u v = true → ρ v < ρ u) (hE : RdE β rd) : ∀ r, RdC β rd ρ r := by
  intro r
  induction r with
  | zero => intro d I D R Q c hc h; omega
  | succ r ih =>
    intro d I D R Q c hc hr hd h2 h3 hq
    have hrec : RdC β rd ρ (ρ c) := fun c' hc' hr' => ih c' hc' (by omega)
    have hz := (h3.1 c hc).1
    have hz96 := (hV.1 c hc).2.1
    refine s178e hc hrec hd (fun a b => ?_) (fun a b => ?_) (fun a => ?_)
    · have : bZ β c ≠ 0 := fun e => b (by rw [hz, e]; rfl)
      exact l178a hV hρ hE hc hd hrec hq 24 0 I 0 rfl (fun _ _ _ => rfl) h2 h3 (fun v hv => by rw [b_0, decide_eq_false this]; rfl)
    · have : bZ β c = 0 := by
        rw [hz] at b
        exact (nI_eq (b := 0) (by omega) (by decide)).mp b
      exact l178a hV hρ hE hc hd hrec hq 24 0 I _ rfl (fun _ _ _ => rfl) h2 h3 (fun v hv => by rw [bt_one (by omega) hv, decide_eq_true this, Bool.true_and]; simp only [anyB, Bool.or_false])
    · rw [h2 c hc a]; exact hq I (fun _ _ _ => rfl) h2 h3
theorem l177h {r : Nat} (hrec : RdC β rd ρ r) {c : Nat} (hc : c < 24) (hr : ρ c < r) (hd : ρ c + 4 ≤ d) {I0 : Nat → Nat → Int32}
    (hq : ∀ J, (∀ o, o ≠ 359 → o ≠ 360 → J o = I0 o) → RBN β J → Q (some (.int (rd c))) w1 (J, D, RR R)) :
    ∀ (n k : Nat) (I : Nat → Nat → Int32), n + k = 24 → (∀ o, o ≠ 359 → o ≠ 360 → I o = I0 o) → RBN β I → (∀ c, c < k → I 359 c = 0) →
    j_W 177 d 0 0 0 0 2 [some (.ref 260), some (.int (nI c)), some (.int (nI k))] [] w1 (I, D, RR R) Q := by
  intro n
  induction n with
  | zero =>
    intro k I hk h1 h2 h3
    have : k = 24 := by omega
    subst this
    exact s177h hc (by omega) hrec (by omega) (fun _ => hr) (fun _ => by omega) (fun _ c hc h => absurd (h3 c hc) h) (fun _ => h2) (fun _ J j1 _ j3 => hq J (fun o o1 o2 => (j1 o o1 o2).trans (h1 o o1 o2)) j3) (fun h => absurd (by omega) h)
  | succ n ih =>
    intro k I hk h1 h2 h3
    have hf : ∀ o, o ≠ 359 → o ≠ 360 → j_u I 359 k 0 o = I o := fun o o1 o2 => by funext i; rw [j_u_o _ _ _ o1]
    refine s177h hc (by omega) hrec (by omega) (fun h => absurd h (by omega)) (fun h => absurd h (by omega)) (fun h => absurd h (by omega)) (fun h => absurd h (by omega)) (fun h => absurd h (by omega)) (fun _ => ih (k + 1) _ (by omega) (fun o o1 o2 => (hf o o1 o2).trans (h1 o o1 o2)) (h2.put hf) (fun c hc => ?_))
    by_cases e : c = k
    · subst e; rw [j_u_same]
    · rw [j_u_k _ _ e]; exact h3 c (by omega)
theorem c177 {I : Nat → Nat → Int32} (hV : BV β) (hE : RdE β rd) {c : Nat} (hc : c < 24) (hd : 40 ≤ d) (hN : RBN β I) (hq : ∀ J, (∀ o, o ≠ 359 → o ≠ 360 → J o = I o) → RBN β J → Q (some (.int (rd c))) w1 (J, D, RR R)) : j_Call d 177 [.ref 260, .int (nI c)] w1 (I, D, RR R) 0 0 Q := by
  obtain ⟨ρ, hb, hρ⟩ := rank_b hV.2.2
  have := hb c (by omega)
  exact s177e hc (by omega) (l177h (ρ := ρ) (r := 30) (rdC hV hρ hE 30) hc this (by omega) hq 24 0 I rfl (fun _ _ _ => rfl) hN (fun c h => absurd h (Nat.not_lt_zero c)))
end RD
