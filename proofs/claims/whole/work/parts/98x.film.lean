set_option maxRecDepth 10000 in
set_option maxHeartbeats 4000000 in
theorem u146e {d : Nat} {I : Nat → Nat → Int32} {D : Nat → Nat → UInt64} {R : Nat → Nat → Option Nat} {Q : j_Po} {g : Nat} {o : Nat}  (hg : isRw g) (ho : isTl o) (hd : 1 ≤ d)
    (v1 : j_W 146 d 0 0 0 0 11 [some (.ref g), some (.ref o), some (.int 0)] [] w1 ((j_fl (j_u (j_u I g 0 3) g 1 (I o 0)) (g + 2) 64 0), (j_fl D (g + 1) 64 FP.dconst0), RR R) Q) : j_Call d 146 [.ref g, .ref o] w1 (I, D, RR R) 0 0 Q := by
  refine q_enter (L := [some (.ref g), some (.ref o), none]) j_m146 (Nat.le_of_ble_eq_true rfl) rfl ?_
  refine q_aload_n d146_0 rfl ?_
  refine q_iconst (v := 3) (by decide) d146_1 ?_
  refine q_aload_n d146_2 rfl ?_
  refine q_getI d146_3 (fs6_26 146 rfl) rfl (isTl_lt ho) (isTl_sh ho) ?_
  refine q_invV (o := g) (ci := 6) (av := [.int 3, .int (I o 0)]) (rest := []) (d' := 0) (mc' := 0) (ms' := 0) d146_6 (cv6_31 146 rfl) rfl (by decide) rfl rfl (by omega) (Nat.le_of_ble_eq_true rfl) (Nat.le_of_ble_eq_true rfl) (isRw_lt hg) (isRw_sh hg) (Nat.le_refl _) (Nat.le_refl _) ?_
  refine c147 hg  ?_
  show j_W 146 d 0 0 0 0 9 [some (.ref g), some (.ref o), none] [] w1 ((j_fl (j_u (j_u I g 0 3) g 1 (I o 0)) (g + 2) 64 0), (j_fl D (g + 1) 64 FP.dconst0), RR R) Q
  refine q_iconst (v := 0) (by decide) d146_9 ?_
  refine q_istore_n (L' := [some (.ref g), some (.ref o), some (.int 0)]) d146_10 (Nat.le_of_ble_eq_true rfl) rfl ?_
  exact r_sub (L' := [some (.ref g), some (.ref o), some (.int 0)]) ⟨rfl, rfl, rfl, trivial⟩ v1

set_option maxRecDepth 10000 in
set_option maxHeartbeats 4000000 in
theorem u146h {d : Nat} {I : Nat → Nat → Int32} {D : Nat → Nat → UInt64} {R : Nat → Nat → Option Nat} {Q : j_Po} {g : Nat} {o : Nat} {k : Nat} {n : Nat} (hg : isRw g) (ho : isTl o) (hn : I g 1 = nI n) (hk : k ≤ 64) (h64 : n ≤ 64) (hd : 1 ≤ d)
    (v1 : (n ≤ k) → Q none w1 (I, D, RR R))
    (v2 : (¬ n ≤ k) → (64 ≤ k) → Q none w1 (I, D, RR R))
    (v3 : (¬ n ≤ k) → (¬ 64 ≤ k) → ((I (o + 2) k) = 0) → j_W 146 d 0 0 0 0 11 [some (.ref g), some (.ref o), some (.int (nI (k + 1)))] [] w1 ((j_u I (g + 2) k 0), (j_u D (g + 1) k (D (o + 1) k)), RR R) Q)
    (v4 : (¬ n ≤ k) → (¬ 64 ≤ k) → (¬ (I (o + 2) k) = 0) → j_W 146 d 0 0 0 0 11 [some (.ref g), some (.ref o), some (.int (nI (k + 1)))] [] w1 ((j_u I (g + 2) k 1), (j_u D (g + 1) k (D (o + 1) k)), RR R) Q) : j_W 146 d 0 0 0 0 11 [some (.ref g), some (.ref o), some (.int (nI k))] [] w1 (I, D, RR R) Q := by
  refine q_iload_n d146_11 rfl ?_
  refine q_aload_n d146_12 rfl ?_
  refine q_getI d146_13 (fs6_23 146 rfl) rfl (isRw_lt hg) (isRw_sh hg) ?_
  refine r_int (y := (nI n)) (show I g 1 = (nI n) from hn) ?_
  refine q_icmp_ge (tgt := 63) d146_16 rfl (fun h1t => ?_) (fun h1f => ?_)
  ·
    have h1tc : n ≤ k := (nI_leI (by omega) (by omega)).mp h1t
    exact q_ret d146_63 rfl (Nat.le_refl _) (Nat.le_refl _) (v1 h1tc)
  ·
    have h1fc : ¬ n ≤ k := mt (nI_leI (by omega) (by omega)).mpr h1f
    refine q_iload_n d146_19 rfl ?_
    refine q_bipush (v := 64) (by decide) d146_20 ?_
    refine q_icmp_ge (tgt := 63) d146_22 rfl (fun h2t => ?_) (fun h2f => ?_)
    ·
      have h2tc : 64 ≤ k := (nI_leI (by omega) (by omega)).mp h2t
      exact q_ret d146_63 rfl (Nat.le_refl _) (Nat.le_refl _) (v2 h1fc h2tc)
    ·
      have h2fc : ¬ 64 ≤ k := mt (nI_leI (by omega) (by omega)).mpr h2f
      refine q_aload_n d146_25 rfl ?_
      refine q_getR (x := (g + 1)) d146_26 (fs6_15 146 rfl) rfl (isRw_lt hg) (isRw_sh hg) (isRw_r1 R hg) (lt1000 (isRw_lt1 hg)) ?_
      refine q_iload_n d146_29 rfl ?_
      refine q_aload_n d146_30 rfl ?_
      refine q_getR (x := (o + 1)) d146_31 (fs6_35 146 rfl) rfl (isTl_lt ho) (isTl_sh ho) (isTl_r1 R ho) (lt1000 (isTl_lt1 ho)) ?_
      refine q_iload_n d146_34 rfl ?_
      refine q_daload (a := k) d146_35 (isTl_lt1 ho) (isTl_sh1 ho) rfl (by omega) ?_
      refine q_dastore (a := k) d146_36 (isRw_lt1 hg) (isRw_sh1 hg) rfl (by omega) ?_
      refine q_aload_n d146_37 rfl ?_
      refine q_getR (x := (g + 2)) d146_38 (fs6_19 146 rfl) rfl (isRw_lt hg) (isRw_sh hg) (isRw_r2 R hg) (lt1000 (isRw_lt2 hg)) ?_
      refine q_iload_n d146_41 rfl ?_
      refine q_aload_n d146_42 rfl ?_
      refine q_getR (x := (o + 2)) d146_43 (fs6_38 146 rfl) rfl (isTl_lt ho) (isTl_sh ho) (isTl_r2 R ho) (lt1000 (isTl_lt2 ho)) ?_
      refine q_iload_n d146_46 rfl ?_
      refine q_iaload (a := k) d146_47 (isTl_lt2 ho) (isTl_sh2 ho) rfl (by omega) ?_
      refine q_if_eq (tgt := 55) d146_48 rfl (fun h3t => ?_) (fun h3f => ?_)
      ·
        refine q_iconst (v := 0) (by decide) d146_55 ?_
        refine q_zastore (a := k) d146_56 (Or.inl rfl) (isRw_lt2 hg) (isRw_sh2 hg) rfl (by omega) ?_
        refine q_iinc (L' := [some (.ref g), some (.ref o), some (.int (nI (k + 1)))]) (v := (nI (k + 1))) d146_57 rfl (nI_inc _) rfl ?_
        refine q_goto (tgt := 11) d146_60 rfl ?_
        exact r_sub (L' := [some (.ref g), some (.ref o), some (.int (nI (k + 1)))]) ⟨rfl, rfl, rfl, trivial⟩ (v3 h1fc h2fc h3t)
      ·
        refine q_iconst (v := 1) (by decide) d146_51 ?_
        refine q_goto (tgt := 56) d146_52 rfl ?_
        refine q_zastore (a := k) d146_56 (Or.inr rfl) (isRw_lt2 hg) (isRw_sh2 hg) rfl (by omega) ?_
        refine q_iinc (L' := [some (.ref g), some (.ref o), some (.int (nI (k + 1)))]) (v := (nI (k + 1))) d146_57 rfl (nI_inc _) rfl ?_
        refine q_goto (tgt := 11) d146_60 rfl ?_
        exact r_sub (L' := [some (.ref g), some (.ref o), some (.int (nI (k + 1)))]) ⟨rfl, rfl, rfl, trivial⟩ (v4 h1fc h2fc h3f)

def RwT (I : Nat → Nat → Int32) (D : Nat → Nat → UInt64) (g n : Nat) (v : Nat → Vl) (J : Nat → Nat → Int32) (E : Nat → Nat → UInt64) : Prop := (∀ q, q ≠ g → q ≠ g + 2 → J q = I q) ∧ (∀ q, q ≠ g + 1 → E q = D q) ∧ J g 0 = 3 ∧ J g 1 = nI n ∧ ∀ k, k < n → J (g + 2) k = (if (v k).1 = 0 then 0 else 1) ∧ ((v k).1 = 0 → E (g + 1) k = (v k).2)
theorem c146 {d : Nat} {I : Nat → Nat → Int32} {D : Nat → Nat → UInt64} {R : Nat → Nat → Option Nat} {Q : j_Po} {r t n : Nat} {v : Nat → Vl} (hr : r < 4) (ht : t < 6) (hn : n ≤ 64) (hT : TLR I D (230 + 3 * t) n v) (hv : ∀ k, k < n → (v k).1 < 200) (hd : 5 ≤ d) (hq : ∀ J E, RwT I D (248 + 3 * r) n v J E → Q none w1 (J, E, RR R)) : j_Call d 146 [.ref (248 + 3 * r), .ref (230 + 3 * t)] w1 (I, D, RR R) 0 0 Q := by
  have hg := isRw_k r hr
  have ho := isTl_k t ht
  obtain ⟨t0, -, -, -, -, -, -, -, tv⟩ := hT
  refine u146e hg ho (by omega) ?_
  have loop : ∀ (m k : Nat) (J : Nat → Nat → Int32) (E : Nat → Nat → UInt64), m + k = n → (∀ q, q ≠ 248 + 3 * r → q ≠ 248 + 3 * r + 2 → J q = I q) → (∀ q, q ≠ 248 + 3 * r + 1 → E q = D q) → J (248 + 3 * r) 0 = 3 → J (248 + 3 * r) 1 = nI n → (∀ j, j < k → J (248 + 3 * r + 2) j = (if (v j).1 = 0 then 0 else 1) ∧ ((v j).1 = 0 → E (248 + 3 * r + 1) j = (v j).2)) → j_W 146 d 0 0 0 0 11 [some (.ref (248 + 3 * r)), some (.ref (230 + 3 * t)), some (.int (nI k))] [] w1 (J, E, RR R) Q := by
    intro m
    induction m with
    | zero =>
      intro k J E hk a1 a2 a3 a4 a5
      have hkn : k = n := by omega
      subst hkn
      exact u146h hg ho a4 hn hn (by omega) (fun _ => hq J E ⟨a1, a2, a3, a4, a5⟩) (fun h => absurd (Nat.le_refl _) h) (fun h => absurd (Nat.le_refl _) h) (fun h => absurd (Nat.le_refl _) h)
    | succ m ih =>
      intro k J E hk a1 a2 a3 a4 a5
      obtain ⟨w, x⟩ := tv k (by omega)
      have eo : J (230 + 3 * t + 2) k = nI (v k).1 := by rw [a1 _ (by omega) (by omega)]; exact w
      have z : J (230 + 3 * t + 2) k = 0 ↔ (v k).1 = 0 := by rw [eo]; exact nI_z (hv k (by omega))
      have nxt : ∀ b : Int32, b = (if (v k).1 = 0 then 0 else 1) → j_W 146 d 0 0 0 0 11 [some (.ref (248 + 3 * r)), some (.ref (230 + 3 * t)), some (.int (nI (k + 1)))] [] w1 (j_u J (248 + 3 * r + 2) k b, j_u E (248 + 3 * r + 1) k (E (230 + 3 * t + 1) k), RR R) Q := fun b hb => ih (k + 1) _ _ (by omega) (fun q q1 q2 => by rw [← a1 q q1 q2]; funext i; rw [j_u_o _ _ _ q2]) (fun q q1 => by rw [← a2 q q1]; funext i; rw [j_u_o _ _ _ q1]) (by rw [j_u_o _ _ _ (by omega)]; exact a3) (by rw [j_u_o _ _ _ (by omega)]; exact a4) (fun j hj => by
        by_cases e : j = k
        · subst e
          rw [j_u_same, j_u_same]
          exact ⟨hb, fun h => by rw [a2 _ (by omega)]; exact x h⟩
        · rw [j_u_k _ _ e, j_u_k _ _ e]; exact a5 j (by omega))
      refine u146h hg ho a4 (by omega) hn (by omega) (fun h => absurd h (by omega)) (fun _ h => absurd h (by omega)) (fun _ _ h => nxt 0 ?_) (fun _ _ h => nxt 1 ?_)
      · rw [if_pos (z.mp h)]
      · rw [if_neg (fun q => h (z.mpr q))]
  refine loop n 0 _ _ rfl (fun q q1 q2 => ?_) (fun q q1 => ?_) ?_ ?_ (fun j hj => absurd hj (Nat.not_lt_zero j))
  · funext i; rw [j_fl_o _ _ _ q2, j_u_o _ _ _ q1, j_u_o _ _ _ q1]
  · funext i; rw [j_fl_o _ _ _ q1]
  · rw [j_fl_o _ _ _ (by omega), j_u_k _ _ (by decide), j_u_same]
  · rw [j_fl_o _ _ _ (by omega), j_u_same]; exact t0
set_option maxRecDepth 10000 in
set_option maxHeartbeats 4000000 in
theorem u145r {d : Nat} {I : Nat → Nat → Int32} {D : Nat → Nat → UInt64} {R : Nat → Nat → Option Nat} {Q : j_Po} {a : Int32} {b : Int32}  (hR : WFR R) (hd : 2 ≤ d)
    (v1 : ∀ k1 : Nat, (k1 < 6) → (a = nI k1) → ∀ k2 : Nat, (k2 < 4) → (b = nI k2) → (¬ (I ((R 113 k1).getD 0) 0) = 0) → j_W 145 d 0 0 0 0 35 [some (.ref 0), some (.int (nI k1)), some (.int (nI k2))] [] w1 (I, D, RR R) Q)
    (v2 : ∀ k1 : Nat, (k1 < 6) → (a = nI k1) → ∀ k2 : Nat, (k2 < 4) → (b = nI k2) → ((I ((R 113 k1).getD 0) 0) = 0) → Q (some (.int (-3))) w1 (I, D, RR R))
    (v3 : ∀ k1 : Nat, (k1 < 6) → (a = nI k1) → (¬ (∃ k : Nat, k < 4 ∧ b = nI k)) → Q (some (.int (-2))) w1 (I, D, RR R))
    (v4 : (¬ (∃ k : Nat, k < 6 ∧ a = nI k)) → Q (some (.int (-2))) w1 (I, D, RR R)) : j_Call d 145 [.ref 0, .int a, .int b] w1 (I, D, RR R) 0 0 Q := by
  refine q_enter (L := [some (.ref 0), some (.int a), some (.int b)]) j_m145 (Nat.le_of_ble_eq_true rfl) rfl ?_
  refine q_iload_n d145_0 rfl ?_
  refine q_invS (av := [.int a]) (rest := []) (d' := 0) (mc' := 0) (ms' := 0) d145_1 (cv9_183 145 rfl) rfl rfl (by omega) (Nat.le_of_ble_eq_true rfl) (Nat.le_of_ble_eq_true rfl) (Nat.le_refl _) (Nat.le_refl _) ?_
  refine r39  (fun k1 h1 h1e => ?_) (fun h1 => ?_)
  ·
    subst h1e
    show j_W 145 d 0 0 0 0 4 [some (.ref 0), some (.int (nI k1)), some (.int b)] [.int 1] w1 (I, D, RR R) Q
    refine q_if_eq (tgt := 14) d145_4 rfl (fun h => absurd h (by decide)) (fun _ => ?_)
    refine q_iload_n d145_7 rfl ?_
    refine q_invS (av := [.int b]) (rest := []) (d' := 0) (mc' := 0) (ms' := 0) d145_8 (cv9_216 145 rfl) rfl rfl (by omega) (Nat.le_of_ble_eq_true rfl) (Nat.le_of_ble_eq_true rfl) (Nat.le_refl _) (Nat.le_refl _) ?_
    refine r113  (fun k2 h2 h2e => ?_) (fun h2 => ?_)
    ·
      subst h2e
      show j_W 145 d 0 0 0 0 11 [some (.ref 0), some (.int (nI k1)), some (.int (nI k2))] [.int 1] w1 (I, D, RR R) Q
      refine q_if_ne (tgt := 17) d145_11 rfl (fun _ => ?_) (fun h => absurd h (by decide))
      refine q_aload_n d145_17 rfl ?_
      refine q_getR (x := 108) d145_18 (fs9_53 145 rfl) rfl (lt_w1 rfl) sh0 (rs0_1 R) (by decide) ?_
      refine q_getR (x := 113) d145_21 (fs9_197 145 rfl) rfl (lt_w1 rfl) sh108 (rs108_4 R) (by decide) ?_
      refine q_iload_n d145_24 rfl ?_
      have g4 := hR.g k1 (by omega)
      refine q_aaload (c := 7) (a := k1) (x := ((R 113 k1).getD 0)) d145_25 (lt_w1 rfl) sh113 (by decide) rfl (by omega) ((RR_d rfl).trans g4.1) (lt1000 (isG_lt g4.2)) ?_
      refine q_getI d145_26 (fs9_231 145 rfl) rfl (isG_lt g4.2) (isG_sh g4.2) ?_
      refine q_if_ne (tgt := 35) d145_29 rfl (fun h5t => ?_) (fun h5f => ?_)
      ·
        exact r_sub (L' := [some (.ref 0), some (.int (nI k1)), some (.int (nI k2))]) ⟨rfl, rfl, rfl, trivial⟩ (v1 k1 h1 rfl k2 h2 rfl h5t)
      ·
        refine q_bipush (v := (-3)) (by decide) d145_32 ?_
        exact q_iret d145_34 rfl (Nat.le_refl _) (Nat.le_refl _) (v2 k1 h1 rfl k2 h2 rfl h5f)
    ·
      show j_W 145 d 0 0 0 0 11 [some (.ref 0), some (.int (nI k1)), some (.int b)] [.int 0] w1 (I, D, RR R) Q
      refine q_if_ne (tgt := 17) d145_11 rfl (fun h => absurd h (by decide)) (fun _ => ?_)
      refine q_bipush (v := (-2)) (by decide) d145_14 ?_
      exact q_iret d145_16 rfl (Nat.le_refl _) (Nat.le_refl _) (v3 k1 h1 rfl h2)
  ·
    show j_W 145 d 0 0 0 0 4 [some (.ref 0), some (.int a), some (.int b)] [.int 0] w1 (I, D, RR R) Q
    refine q_if_eq (tgt := 14) d145_4 rfl (fun _ => ?_) (fun h => absurd h (by decide))
    refine q_bipush (v := (-2)) (by decide) d145_14 ?_
    exact q_iret d145_16 rfl (Nat.le_refl _) (Nat.le_refl _) (v4 h1)

set_option maxRecDepth 10000 in
set_option maxHeartbeats 4000000 in
theorem u275r {d : Nat} {I : Nat → Nat → Int32} {D : Nat → Nat → UInt64} {R : Nat → Nat → Option Nat} {Q : j_Po} {a : Int32} {b : Int32}   (hd : 3 ≤ d)
    (v1 : ∀ k1 : Nat, (k1 < 6) → (a = nI k1) → ∀ k2 : Nat, (k2 < 4) → (b = nI k2) → (¬ (I 315 k1) = 0) → j_W 275 d 0 0 0 0 29 [some (.ref 260), some (.int (nI k1)), some (.int (nI k2)), none, none] [] w1 (I, D, RR R) Q)
    (v2 : ∀ k1 : Nat, (k1 < 6) → (a = nI k1) → ∀ k2 : Nat, (k2 < 4) → (b = nI k2) → ((I 315 k1) = 0) → Q (some (.int (-3))) w1 (I, D, RR R))
    (v3 : ∀ k1 : Nat, (k1 < 6) → (a = nI k1) → (¬ (∃ k : Nat, k < 4 ∧ b = nI k)) → Q (some (.int (-2))) w1 (I, D, RR R))
    (v4 : (¬ (∃ k : Nat, k < 6 ∧ a = nI k)) → Q (some (.int (-2))) w1 (I, D, RR R)) : j_Call d 275 [.ref 260, .int a, .int b] w1 (I, D, RR R) 0 0 Q := by
  refine q_enter (L := [some (.ref 260), some (.int a), some (.int b), none, none]) j_m275 (Nat.le_of_ble_eq_true rfl) rfl ?_
  refine q_iload_n d275_0 rfl ?_
  refine q_invS (av := [.int a]) (rest := []) (d' := 1) (mc' := 0) (ms' := 0) d275_1 (cv10_480 275 rfl) rfl rfl (by omega) (Nat.le_of_ble_eq_true rfl) (Nat.le_of_ble_eq_true rfl) (Nat.le_refl _) (Nat.le_refl _) ?_
  refine r249 (Nat.le_refl _)  (fun k1 h1 h1e => ?_) (fun h1 => ?_)
  ·
    subst h1e
    show j_W 275 d 0 0 0 0 4 [some (.ref 260), some (.int (nI k1)), some (.int b), none, none] [.int 1] w1 (I, D, RR R) Q
    refine q_if_eq (tgt := 14) d275_4 rfl (fun h => absurd h (by decide)) (fun _ => ?_)
    refine q_iload_n d275_7 rfl ?_
    refine q_invS (av := [.int b]) (rest := []) (d' := 1) (mc' := 0) (ms' := 0) d275_8 (cv10_488 275 rfl) rfl rfl (by omega) (Nat.le_of_ble_eq_true rfl) (Nat.le_of_ble_eq_true rfl) (Nat.le_refl _) (Nat.le_refl _) ?_
    refine r253 (Nat.le_refl _)  (fun k2 h2 h2e => ?_) (fun h2 => ?_)
    ·
      subst h2e
      show j_W 275 d 0 0 0 0 11 [some (.ref 260), some (.int (nI k1)), some (.int (nI k2)), none, none] [.int 1] w1 (I, D, RR R) Q
      refine q_if_ne (tgt := 17) d275_11 rfl (fun _ => ?_) (fun h => absurd h (by decide))
      refine q_aload_n d275_17 rfl ?_
      refine q_getR (x := 315) d275_18 (fs10_34 275 rfl) rfl (lt_w1 rfl) sh260 (rs260_6 R) (by decide) ?_
      refine q_iload_n d275_21 rfl ?_
      refine q_zaload (a := k1) d275_22 (lt_w1 rfl) sh315 rfl (by omega) ?_
      refine q_if_ne (tgt := 29) d275_23 rfl (fun h3t => ?_) (fun h3f => ?_)
      ·
        exact r_sub (L' := [some (.ref 260), some (.int (nI k1)), some (.int (nI k2)), none, none]) ⟨rfl, rfl, rfl, trivial⟩ (v1 k1 h1 rfl k2 h2 rfl h3t)
      ·
        refine q_bipush (v := (-3)) (by decide) d275_26 ?_
        exact q_iret d275_28 rfl (Nat.le_refl _) (Nat.le_refl _) (v2 k1 h1 rfl k2 h2 rfl h3f)
    ·
      show j_W 275 d 0 0 0 0 11 [some (.ref 260), some (.int (nI k1)), some (.int b), none, none] [.int 0] w1 (I, D, RR R) Q
      refine q_if_ne (tgt := 17) d275_11 rfl (fun h => absurd h (by decide)) (fun _ => ?_)
      refine q_bipush (v := (-2)) (by decide) d275_14 ?_
      exact q_iret d275_16 rfl (Nat.le_refl _) (Nat.le_refl _) (v3 k1 h1 rfl h2)
  ·
    show j_W 275 d 0 0 0 0 4 [some (.ref 260), some (.int a), some (.int b), none, none] [.int 0] w1 (I, D, RR R) Q
    refine q_if_eq (tgt := 14) d275_4 rfl (fun _ => ?_) (fun h => absurd h (by decide))
    refine q_bipush (v := (-2)) (by decide) d275_14 ?_
    exact q_iret d275_16 rfl (Nat.le_refl _) (Nat.le_refl _) (v4 h1)

set_option maxRecDepth 10000 in
set_option maxHeartbeats 4000000 in
theorem u145a {d : Nat} {I : Nat → Nat → Int32} {D : Nat → Nat → UInt64} {R : Nat → Nat → Option Nat} {Q : j_Po} {t : Nat} {r : Nat} {β : Bd} (hR : WFR R) (hV : BV β) (hC : CB β I D R) (hN : NM β I) (hO : OrdB β I) (ht : t < 6) (hr : r < 4) (hl : bL β t = true) (hd : 50 ≤ d)
    (v1 : t < 6)
    (v2 : bL β t = true)
    (v3 : 40 ≤ 40)
    (v4 : ∀ J1 : Nat → Nat → Int32, ∀ E2 : Nat → Nat → UInt64, (FRc I D J1 E2) → (TLR J1 E2 (230 + 3 * t) (cas β t) (csV β (env β) t)) → (∀ q, q < cas β t → (csV β (env β) t q).1 < 200 ∧ ((csV β (env β) t q).1 = 0 → Sm (csV β (env β) t q).2)) → cas β t ≤ 64)
    (v5 : ∀ J1 : Nat → Nat → Int32, ∀ E2 : Nat → Nat → UInt64, (FRc I D J1 E2) → (TLR J1 E2 (230 + 3 * t) (cas β t) (csV β (env β) t)) → (∀ q, q < cas β t → (csV β (env β) t q).1 < 200 ∧ ((csV β (env β) t q).1 = 0 → Sm (csV β (env β) t q).2)) → TLR J1 E2 (230 + 3 * t) (cas β t) (csV β (env β) t))
    (v6 : ∀ J1 : Nat → Nat → Int32, ∀ E2 : Nat → Nat → UInt64, (FRc I D J1 E2) → (TLR J1 E2 (230 + 3 * t) (cas β t) (csV β (env β) t)) → (∀ q, q < cas β t → (csV β (env β) t q).1 < 200 ∧ ((csV β (env β) t q).1 = 0 → Sm (csV β (env β) t q).2)) → ∀ k, k < cas β t → (csV β (env β) t k).1 < 200)
    (v7 : ∀ J1 : Nat → Nat → Int32, ∀ E2 : Nat → Nat → UInt64, (FRc I D J1 E2) → (TLR J1 E2 (230 + 3 * t) (cas β t) (csV β (env β) t)) → (∀ q, q < cas β t → (csV β (env β) t q).1 < 200 ∧ ((csV β (env β) t q).1 = 0 → Sm (csV β (env β) t q).2)) → 5 ≤ 5)
    (v8 : ∀ J1 : Nat → Nat → Int32, ∀ E2 : Nat → Nat → UInt64, (FRc I D J1 E2) → (TLR J1 E2 (230 + 3 * t) (cas β t) (csV β (env β) t)) → (∀ q, q < cas β t → (csV β (env β) t q).1 < 200 ∧ ((csV β (env β) t q).1 = 0 → Sm (csV β (env β) t q).2)) → ∀ J6 : Nat → Nat → Int32, ∀ E7 : Nat → Nat → UInt64, (RwT J1 E2 (248 + 3 * r) (cas β t) (csV β (env β) t) J6 E7) → Q (some (.int (J6 (248 + 3 * r) 1))) w1 (J6, E7, RR R)) : j_W 145 d 0 0 0 0 35 [some (.ref 0), some (.int (nI t)), some (.int (nI r))] [] w1 (I, D, RR R) Q := by
  refine q_aload_n d145_35 rfl ?_
  refine q_getR (x := 105) d145_36 (fs9_32 145 rfl) rfl (lt_w1 rfl) sh0 (rs0_7 R) (by decide) ?_
  refine q_iload_n d145_39 rfl ?_
  refine q_aaload (c := 8) (a := r) (x := (248 + 3 * r)) d145_40 (lt_w1 rfl) sh105 (by decide) rfl (by omega) (rl105 R (by omega)) (lt1000 (isRw_lt (isRw_k _ (by omega)))) ?_
  refine q_aload_n d145_41 rfl ?_
  refine q_iload_n d145_42 rfl ?_
  refine q_invV (o := 0) (ci := 9) (av := [.int (nI t)]) (rest := [.ref (248 + 3 * r)]) (d' := 40) (mc' := 0) (ms' := 0) d145_43 (cv9_245 145 rfl) rfl (by decide) rfl rfl (by omega) (Nat.le_of_ble_eq_true rfl) (Nat.le_of_ble_eq_true rfl) (lt_w1 rfl) sh0 (Nat.le_refl _) (Nat.le_refl _) ?_
  refine c122 hR hV hC hN hO v1 v2 v3 (fun J1 E2 h3 h4 h5 => ?_)
  show j_W 145 d 0 0 0 0 46 [some (.ref 0), some (.int (nI t)), some (.int (nI r))] [.ref (230 + 3 * t), .ref (248 + 3 * r)] w1 (J1, E2, RR R) Q
  refine q_invV (o := (248 + 3 * r)) (ci := 6) (av := [.ref (230 + 3 * t)]) (rest := []) (d' := 5) (mc' := 0) (ms' := 0) d145_46 (cv9_332 145 rfl) rfl (by decide) rfl rfl (by omega) (Nat.le_of_ble_eq_true rfl) (Nat.le_of_ble_eq_true rfl) (isRw_lt (isRw_k _ (by omega))) (isRw_sh (isRw_k _ (by omega))) (Nat.le_refl _) (Nat.le_refl _) ?_
  refine c146 (n := cas β t) (v := csV β (env β) t) hr ht (v4 J1 E2 h3 h4 h5) (v5 J1 E2 h3 h4 h5) (v6 J1 E2 h3 h4 h5) (v7 J1 E2 h3 h4 h5) (fun J6 E7 h8 => ?_)
  show j_W 145 d 0 0 0 0 49 [some (.ref 0), some (.int (nI t)), some (.int (nI r))] [] w1 (J6, E7, RR R) Q
  refine q_aload_n d145_49 rfl ?_
  refine q_getR (x := 105) d145_50 (fs9_32 145 rfl) rfl (lt_w1 rfl) sh0 (rs0_7 R) (by decide) ?_
  refine q_iload_n d145_53 rfl ?_
  refine q_aaload (c := 8) (a := r) (x := (248 + 3 * r)) d145_54 (lt_w1 rfl) sh105 (by decide) rfl (by omega) (rl105 R (by omega)) (lt1000 (isRw_lt (isRw_k _ (by omega)))) ?_
  refine q_getI d145_55 (fs9_335 145 rfl) rfl (isRw_lt (isRw_k _ (by omega))) (isRw_sh (isRw_k _ (by omega))) ?_
  exact q_iret d145_58 rfl (Nat.le_refl _) (Nat.le_refl _) (v8 J1 E2 h3 h4 h5 J6 E7 h8)

set_option maxRecDepth 10000 in
set_option maxHeartbeats 4000000 in
theorem u275a {d : Nat} {I : Nat → Nat → Int32} {D : Nat → Nat → UInt64} {R : Nat → Nat → Option Nat} {Q : j_Po} {t : Nat} {r : Nat}  (ht : t < 6) (hd : 5 ≤ d)
    (v1 : (¬ (I 318 t) = (-1)) → j_W 275 d 0 0 0 0 54 [some (.ref 260), some (.int (nI t)), some (.int (nI r)), some (.int (I 319 ((2 * t) + 1))), none] [] w1 (I, D, RR R) Q)
    (v2 : ((I 318 t) = (-1)) → j_W 275 d 0 0 0 0 54 [some (.ref 260), some (.int (nI t)), some (.int (nI r)), some (.int 1), none] [] w1 (I, D, RR R) Q) : j_W 275 d 0 0 0 0 29 [some (.ref 260), some (.int (nI t)), some (.int (nI r)), none, none] [] w1 (I, D, RR R) Q := by
  refine q_aload_n d275_29 rfl ?_
  refine q_getR (x := 318) d275_30 (fs10_43 275 rfl) rfl (lt_w1 rfl) sh260 (rs260_9 R) (by decide) ?_
  refine q_iload_n d275_33 rfl ?_
  refine q_iaload (a := t) d275_34 (lt_w1 rfl) sh318 rfl (by omega) ?_
  refine q_iconst (v := (-1)) (by decide) d275_35 ?_
  refine q_icmp_ne (tgt := 43) d275_36 rfl (fun h1t => ?_) (fun h1f => ?_)
  ·
    refine q_aload_n d275_43 rfl ?_
    refine q_getR (x := 319) d275_44 (fs10_46 275 rfl) rfl (lt_w1 rfl) sh260 (rs260_10 R) (by decide) ?_
    refine q_iconst (v := 2) (by decide) d275_47 ?_
    refine q_iload_n d275_48 rfl ?_
    refine q_imul d275_49 ?_
    refine r_int (y := (nI (2 * t))) (pk_mul 2 t) ?_
    refine q_iconst (v := 1) (by decide) d275_50 ?_
    refine q_iadd d275_51 ?_
    refine r_int (y := (nI ((2 * t) + 1))) (nI_add (2 * t) 1) ?_
    refine q_iaload (a := ((2 * t) + 1)) d275_52 (lt_w1 rfl) sh319 rfl (by omega) ?_
    refine q_istore_n (L' := [some (.ref 260), some (.int (nI t)), some (.int (nI r)), some (.int (I 319 ((2 * t) + 1))), none]) d275_53 (Nat.le_of_ble_eq_true rfl) rfl ?_
    exact r_sub (L' := [some (.ref 260), some (.int (nI t)), some (.int (nI r)), some (.int (I 319 ((2 * t) + 1))), none]) ⟨rfl, rfl, rfl, rfl, trivial⟩ (v1 h1t)
  ·
    refine q_iconst (v := 1) (by decide) d275_39 ?_
    refine q_goto (tgt := 53) d275_40 rfl ?_
    refine q_istore_n (L' := [some (.ref 260), some (.int (nI t)), some (.int (nI r)), some (.int 1), none]) d275_53 (Nat.le_of_ble_eq_true rfl) rfl ?_
    exact r_sub (L' := [some (.ref 260), some (.int (nI t)), some (.int (nI r)), some (.int 1), none]) ⟨rfl, rfl, rfl, rfl, trivial⟩ (v2 h1f)

set_option maxRecDepth 10000 in
set_option maxHeartbeats 4000000 in
theorem u275b {d : Nat} {I : Nat → Nat → Int32} {D : Nat → Nat → UInt64} {R : Nat → Nat → Option Nat} {Q : j_Po} {t : Nat} {r : Nat} {w : Nat} {n : Nat} (hr : r < 4) (hcas : ∀ (Q : j_Po), Q (some (.int (nI n))) w1 (j_u I 503 r 3, D, RR R) → j_Call 1 186 [.ref 260, .int (nI t)] w1 (j_u I 503 r 3, D, RR R) 0 0 Q) (hd : 5 ≤ d)
    (v1 : j_W 275 d 0 0 0 0 75 [some (.ref 260), some (.int (nI t)), some (.int (nI r)), some (.int (nI w)), some (.int 0)] [] w1 ((j_u (j_u I 503 r 3) 504 r (nI n)), D, RR R) Q) : j_W 275 d 0 0 0 0 54 [some (.ref 260), some (.int (nI t)), some (.int (nI r)), some (.int (nI w)), none] [] w1 (I, D, RR R) Q := by
  refine q_aload_n d275_54 rfl ?_
  refine q_getR (x := 503) d275_55 (fs10_165 275 rfl) rfl (lt_w1 rfl) sh260 (rs260_70 R) (by decide) ?_
  refine q_iload_n d275_58 rfl ?_
  refine q_iconst (v := 3) (by decide) d275_59 ?_
  refine q_iastore (a := r) d275_60 (lt_w1 rfl) sh503 rfl (by omega) ?_
  refine q_aload_n d275_61 rfl ?_
  refine q_getR (x := 504) d275_62 (fs10_168 275 rfl) rfl (lt_w1 rfl) sh260 (rs260_71 R) (by decide) ?_
  refine q_iload_n d275_65 rfl ?_
  refine q_aload_n d275_66 rfl ?_
  refine q_iload_n d275_67 rfl ?_
  refine q_invV (o := 260) (ci := 10) (av := [.int (nI t)]) (rest := [.int (nI r), .ref 504]) (d' := 1) (mc' := 0) (ms' := 0) d275_68 (cv10_232 275 rfl) rfl (by decide) rfl rfl (by omega) (Nat.le_of_ble_eq_true rfl) (Nat.le_of_ble_eq_true rfl) (lt_w1 rfl) sh260 (Nat.le_refl _) (Nat.le_refl _) ?_
  refine hcas _  ?_
  show j_W 275 d 0 0 0 0 71 [some (.ref 260), some (.int (nI t)), some (.int (nI r)), some (.int (nI w)), none] [.int (nI n), .int (nI r), .ref 504] w1 ((j_u I 503 r 3), D, RR R) Q
  refine q_iastore (a := r) d275_71 (lt_w1 rfl) sh504 rfl (by omega) ?_
  refine q_iconst (v := 0) (by decide) d275_72 ?_
  refine q_istore (L' := [some (.ref 260), some (.int (nI t)), some (.int (nI r)), some (.int (nI w)), some (.int 0)]) d275_73 (Nat.le_of_ble_eq_true rfl) rfl ?_
  exact r_sub (L' := [some (.ref 260), some (.int (nI t)), some (.int (nI r)), some (.int (nI w)), some (.int 0)]) ⟨rfl, rfl, rfl, rfl, rfl, trivial⟩ v1

set_option maxRecDepth 10000 in
set_option maxHeartbeats 4000000 in
theorem u275h {d : Nat} {I : Nat → Nat → Int32} {D : Nat → Nat → UInt64} {R : Nat → Nat → Option Nat} {Q : j_Po} {t : Nat} {r : Nat} {w : Nat} {i : Nat} {n : Nat} (hr : r < 4) (h504 : I 504 r = nI n) (hn : n ≤ 64) (hi : i ≤ 64) (hd : 5 ≤ d)
    (v1 : (n ≤ i) → Q (some (.int (nI n))) w1 (I, D, RR R))
    (v2 : (¬ n ≤ i) → j_W 275 d 0 0 0 0 86 [some (.ref 260), some (.int (nI t)), some (.int (nI r)), some (.int (nI w)), some (.int (nI i))] [] w1 (I, D, RR R) Q) : j_W 275 d 0 0 0 0 75 [some (.ref 260), some (.int (nI t)), some (.int (nI r)), some (.int (nI w)), some (.int (nI i))] [] w1 (I, D, RR R) Q := by
  refine q_iload d275_75 rfl ?_
  refine q_aload_n d275_77 rfl ?_
  refine q_getR (x := 504) d275_78 (fs10_168 275 rfl) rfl (lt_w1 rfl) sh260 (rs260_71 R) (by decide) ?_
  refine q_iload_n d275_81 rfl ?_
  refine q_iaload (a := r) d275_82 (lt_w1 rfl) sh504 rfl (by omega) ?_
  refine r_int (y := nI n) h504 ?_
  refine q_icmp_ge (tgt := 150) d275_83 rfl (fun h1t => ?_) (fun h1f => ?_)
  ·
    have h1tc : n ≤ i := (nI_leI (by omega) (by omega)).mp h1t
    refine q_aload_n d275_150 rfl ?_
    refine q_getR (x := 504) d275_151 (fs10_168 275 rfl) rfl (lt_w1 rfl) sh260 (rs260_71 R) (by decide) ?_
    refine q_iload_n d275_154 rfl ?_
    refine q_iaload (a := r) d275_155 (lt_w1 rfl) sh504 rfl (by omega) ?_
    refine r_int (y := nI n) h504 ?_
    exact q_iret d275_156 rfl (Nat.le_refl _) (Nat.le_refl _) (v1 h1tc)
  ·
    have h1fc : ¬ n ≤ i := mt (nI_leI (by omega) (by omega)).mpr h1f
    exact r_sub (L' := [some (.ref 260), some (.int (nI t)), some (.int (nI r)), some (.int (nI w)), some (.int (nI i))]) ⟨rfl, rfl, rfl, rfl, rfl, trivial⟩ (v2 h1fc)

set_option maxRecDepth 10000 in
set_option maxHeartbeats 4000000 in
theorem u275c {d : Nat} {I : Nat → Nat → Int32} {D : Nat → Nat → UInt64} {R : Nat → Nat → Option Nat} {Q : j_Po} {t : Nat} {r : Nat} {w : Nat} {i : Nat}  {AP : (Nat → Nat → Int32) → (Nat → Nat → UInt64) → Prop} (hA : ∀ (Q : j_Po), (∀ J E, AP J E → Q none w1 (J, E, RR R)) → j_Call (d - 1) 257 [.ref 260, .int (nI t), .int ((nI i) / (nI w)), .int ((nI i) - (nI i) / (nI w) * (nI w))] w1 (I, D, RR R) 0 0 Q) (hw : ¬ nI w = 0) (hd : 5 ≤ d)
    (v1 : ¬ (nI w) = 0)
    (v2 : ∀ J1 : Nat → Nat → Int32, ∀ E2 : Nat → Nat → UInt64, (AP J1 E2) → j_W 275 d 0 0 0 0 99 [some (.ref 260), some (.int (nI t)), some (.int (nI r)), some (.int (nI w)), some (.int (nI i))] [] w1 (J1, E2, RR R) Q) : j_W 275 d 0 0 0 0 86 [some (.ref 260), some (.int (nI t)), some (.int (nI r)), some (.int (nI w)), some (.int (nI i))] [] w1 (I, D, RR R) Q := by
  refine q_aload_n d275_86 rfl ?_
  refine q_iload_n d275_87 rfl ?_
  refine q_iload d275_88 rfl ?_
  refine q_iload_n d275_90 rfl ?_
  refine q_idiv v1 d275_91 ?_
  refine q_iload d275_92 rfl ?_
  refine q_iload_n d275_94 rfl ?_
  refine q_irem v1 d275_95 ?_
  refine q_invV (o := 260) (ci := 10) (av := [.int (nI t), .int ((nI i) / (nI w)), .int ((nI i) - (nI i) / (nI w) * (nI w))]) (rest := []) (d' := (d - 1)) (mc' := 0) (ms' := 0) d275_96 (cv10_495 275 rfl) rfl (by decide) rfl rfl (by omega) (Nat.le_of_ble_eq_true rfl) (Nat.le_of_ble_eq_true rfl) (lt_w1 rfl) sh260 (Nat.le_refl _) (Nat.le_refl _) ?_
  refine hA _  (fun J1 E2 h3 => ?_)
  show j_W 275 d 0 0 0 0 99 [some (.ref 260), some (.int (nI t)), some (.int (nI r)), some (.int (nI w)), some (.int (nI i))] [] w1 (J1, E2, RR R) Q
  exact r_sub (L' := [some (.ref 260), some (.int (nI t)), some (.int (nI r)), some (.int (nI w)), some (.int (nI i))]) ⟨rfl, rfl, rfl, rfl, rfl, trivial⟩ (v2 J1 E2 h3)

set_option maxRecDepth 10000 in
set_option maxHeartbeats 4000000 in
theorem u275d {d : Nat} {I : Nat → Nat → Int32} {D : Nat → Nat → UInt64} {R : Nat → Nat → Option Nat} {Q : j_Po} {t : Nat} {r : Nat} {w : Nat} {i : Nat}  (hr : r < 4) (hi : i < 64) (hd : 5 ≤ d)
    (v1 : (¬ (I 260 31) = 0) → j_W 275 d 0 0 0 0 75 [some (.ref 260), some (.int (nI t)), some (.int (nI r)), some (.int (nI w)), some (.int (nI (i + 1)))] [] w1 ((j_u I (511 + r) i 1), (j_u D (506 + r) i FP.dconst0), RR R) Q)
    (v2 : ((I 260 31) = 0) → j_W 275 d 0 0 0 0 75 [some (.ref 260), some (.int (nI t)), some (.int (nI r)), some (.int (nI w)), some (.int (nI (i + 1)))] [] w1 ((j_u I (511 + r) i 0), (j_u D (506 + r) i (D 260 30)), RR R) Q) : j_W 275 d 0 0 0 0 99 [some (.ref 260), some (.int (nI t)), some (.int (nI r)), some (.int (nI w)), some (.int (nI i))] [] w1 (I, D, RR R) Q := by
  refine q_aload_n d275_99 rfl ?_
  refine q_getR (x := 505) d275_100 (fs10_171 275 rfl) rfl (lt_w1 rfl) sh260 (rs260_72 R) (by decide) ?_
  refine q_iload_n d275_103 rfl ?_
  refine q_aaload (c := 3) (a := r) (x := (506 + r)) d275_104 (lt_w1 rfl) sh505 (by decide) rfl (by omega) (rm505 R (by omega)) (lt1000 (lm505 (by omega))) ?_
  refine q_iload d275_105 rfl ?_
  refine q_aload_n d275_107 rfl ?_
  refine q_getI d275_108 (fs10_286 275 rfl) rfl (lt_w1 rfl) sh260 ?_
  refine q_if_ne (tgt := 121) d275_111 rfl (fun h1t => ?_) (fun h1f => ?_)
  ·
    refine q_dconst0 d275_121 ?_
    refine q_dastore (a := i) d275_122 (lm505 (by omega)) (sm505 (by omega)) rfl (by omega) ?_
    refine q_aload_n d275_123 rfl ?_
    refine q_getR (x := 510) d275_124 (fs10_174 275 rfl) rfl (lt_w1 rfl) sh260 (rs260_73 R) (by decide) ?_
    refine q_iload_n d275_127 rfl ?_
    refine q_aaload (c := 5) (a := r) (x := (511 + r)) d275_128 (lt_w1 rfl) sh510 (by decide) rfl (by omega) (rm510 R (by omega)) (lt1000 (lm510 (by omega))) ?_
    refine q_iload d275_129 rfl ?_
    refine q_aload_n d275_131 rfl ?_
    refine q_getI d275_132 (fs10_286 275 rfl) rfl (lt_w1 rfl) sh260 ?_
    refine q_if_eq (tgt := 142) d275_135 rfl (fun h2t => ?_) (fun h2f => ?_)
    ·
      exact False.elim (by first | exact absurd h2t h1t | exact absurd h1t h2t | exact (Int32.not_lt.mpr h2t) h1t | exact (Int32.not_lt.mpr h1t) h2t | exact h2t (Int32.not_le.mp h1t) | exact h1t (Int32.not_le.mp h2t) | omega)
    ·
      refine q_iconst (v := 1) (by decide) d275_138 ?_
      refine q_goto (tgt := 143) d275_139 rfl ?_
      refine q_zastore (a := i) d275_143 (Or.inr rfl) (lm510 (by omega)) (sm510 (by omega)) rfl (by omega) ?_
      refine q_iinc (L' := [some (.ref 260), some (.int (nI t)), some (.int (nI r)), some (.int (nI w)), some (.int (nI (i + 1)))]) (v := (nI (i + 1))) d275_144 rfl (nI_inc _) rfl ?_
      refine q_goto (tgt := 75) d275_147 rfl ?_
      exact r_sub (L' := [some (.ref 260), some (.int (nI t)), some (.int (nI r)), some (.int (nI w)), some (.int (nI (i + 1)))]) ⟨rfl, rfl, rfl, rfl, rfl, trivial⟩ (v1 h1t)
  ·
    refine q_aload_n d275_114 rfl ?_
    refine q_getD d275_115 (fs10_282 275 rfl) rfl (lt_w1 rfl) sh260 ?_
    refine q_goto (tgt := 122) d275_118 rfl ?_
    refine q_dastore (a := i) d275_122 (lm505 (by omega)) (sm505 (by omega)) rfl (by omega) ?_
    refine q_aload_n d275_123 rfl ?_
    refine q_getR (x := 510) d275_124 (fs10_174 275 rfl) rfl (lt_w1 rfl) sh260 (rs260_73 R) (by decide) ?_
    refine q_iload_n d275_127 rfl ?_
    refine q_aaload (c := 5) (a := r) (x := (511 + r)) d275_128 (lt_w1 rfl) sh510 (by decide) rfl (by omega) (rm510 R (by omega)) (lt1000 (lm510 (by omega))) ?_
    refine q_iload d275_129 rfl ?_
    refine q_aload_n d275_131 rfl ?_
    refine q_getI d275_132 (fs10_286 275 rfl) rfl (lt_w1 rfl) sh260 ?_
    refine q_if_eq (tgt := 142) d275_135 rfl (fun h3t => ?_) (fun h3f => ?_)
    ·
      refine q_iconst (v := 0) (by decide) d275_142 ?_
      refine q_zastore (a := i) d275_143 (Or.inl rfl) (lm510 (by omega)) (sm510 (by omega)) rfl (by omega) ?_
      refine q_iinc (L' := [some (.ref 260), some (.int (nI t)), some (.int (nI r)), some (.int (nI w)), some (.int (nI (i + 1)))]) (v := (nI (i + 1))) d275_144 rfl (nI_inc _) rfl ?_
      refine q_goto (tgt := 75) d275_147 rfl ?_
      exact r_sub (L' := [some (.ref 260), some (.int (nI t)), some (.int (nI r)), some (.int (nI w)), some (.int (nI (i + 1)))]) ⟨rfl, rfl, rfl, rfl, rfl, trivial⟩ (v2 h1f)
    ·
      exact False.elim (by first | exact absurd h3f h1f | exact absurd h1f h3f | exact (Int32.not_lt.mpr h3f) h1f | exact (Int32.not_lt.mpr h1f) h3f | exact h3f (Int32.not_le.mp h1f) | exact h1f (Int32.not_le.mp h3f) | omega)

