/-! rows -/
set_option maxRecDepth 10000 in
set_option maxHeartbeats 4000000 in
theorem s147e {d : Nat} {I : Nat → Nat → Int32} {D : Nat → Nat → UInt64} {R : Nat → Nat → Option Nat} {Q : j_Po} {r : Nat} {a : Int32} {b : Int32}  (hr : isRw r) (hd : 0 ≤ d)
    (v1 : j_W 147 d 0 0 0 0 12 [some (.ref r), none, none, some (.int 0)] [] w1 ((j_u (j_u I r 0 a) r 1 b), D, RR R) Q) : j_Call d 147 [.ref r, .int a, .int b] w1 (I, D, RR R) 0 0 Q := by
  refine q_enter (L := [some (.ref r), some (.int a), some (.int b), none]) j_m147 (Nat.le_of_ble_eq_true rfl) rfl ?_
  refine q_aload_n d147_0 rfl ?_
  refine q_iload_n d147_1 rfl ?_
  refine q_putI d147_2 (fs6_9 147 rfl) (Or.inl rfl) rfl (isRw_lt hr) (isRw_sh hr) ?_
  refine q_aload_n d147_5 rfl ?_
  refine q_iload_n d147_6 rfl ?_
  refine q_putI d147_7 (fs6_23 147 rfl) (Or.inl rfl) rfl (isRw_lt hr) (isRw_sh hr) ?_
  refine q_iconst (v := 0) (by decide) d147_10 ?_
  refine q_istore_n (L' := [some (.ref r), some (.int a), some (.int b), some (.int 0)]) d147_11 (Nat.le_of_ble_eq_true rfl) rfl ?_
  exact r_sub (L' := [some (.ref r), none, none, some (.int 0)]) ⟨rfl, rfl, trivial⟩ v1

set_option maxRecDepth 10000 in
set_option maxHeartbeats 4000000 in
theorem s147h {d : Nat} {I : Nat → Nat → Int32} {D : Nat → Nat → UInt64} {R : Nat → Nat → Option Nat} {Q : j_Po} {r : Nat} {k : Nat}  (hr : isRw r) (hk : k ≤ 64) (hd : 0 ≤ d)
    (v1 : (64 ≤ k) → Q none w1 (I, D, RR R))
    (v2 : (¬ 64 ≤ k) → j_W 147 d 0 0 0 0 12 [some (.ref r), none, none, some (.int (nI (k + 1)))] [] w1 ((j_u I (r + 2) k 0), (j_u D (r + 1) k FP.dconst0), RR R) Q) : j_W 147 d 0 0 0 0 12 [some (.ref r), none, none, some (.int (nI k))] [] w1 (I, D, RR R) Q := by
  refine q_iload_n d147_12 rfl ?_
  refine q_bipush (v := 64) (by decide) d147_13 ?_
  refine q_icmp_ge (tgt := 38) d147_15 rfl (fun h1t => ?_) (fun h1f => ?_)
  ·
    have h1tc : 64 ≤ k := (nI_leI (by omega) (by omega)).mp h1t
    exact q_ret d147_38 rfl (Nat.le_refl _) (Nat.le_refl _) (v1 h1tc)
  ·
    have h1fc : ¬ 64 ≤ k := mt (nI_leI (by omega) (by omega)).mpr h1f
    refine q_aload_n d147_18 rfl ?_
    refine q_getR (x := (r + 1)) d147_19 (fs6_15 147 rfl) rfl (isRw_lt hr) (isRw_sh hr) (isRw_r1 R hr) (lt1000 (isRw_lt1 hr)) ?_
    refine q_iload_n d147_22 rfl ?_
    refine q_dconst0 d147_23 ?_
    refine q_dastore (a := k) d147_24 (isRw_lt1 hr) (isRw_sh1 hr) rfl (by omega) ?_
    refine q_aload_n d147_25 rfl ?_
    refine q_getR (x := (r + 2)) d147_26 (fs6_19 147 rfl) rfl (isRw_lt hr) (isRw_sh hr) (isRw_r2 R hr) (lt1000 (isRw_lt2 hr)) ?_
    refine q_iload_n d147_29 rfl ?_
    refine q_iconst (v := 0) (by decide) d147_30 ?_
    refine q_zastore (a := k) d147_31 (Or.inl rfl) (isRw_lt2 hr) (isRw_sh2 hr) rfl (by omega) ?_
    refine q_iinc (L' := [some (.ref r), none, none, some (.int (nI (k + 1)))]) (v := (nI (k + 1))) d147_32 rfl (nI_inc _) rfl ?_
    refine q_goto (tgt := 12) d147_35 rfl ?_
    exact r_sub (L' := [some (.ref r), none, none, some (.int (nI (k + 1)))]) ⟨rfl, rfl, trivial⟩ (v2 h1fc)

/-! a run of places filled -/
def j_fl {α : Type} (F : Nat → Nat → α) (o n : Nat) (v : α) : Nat → Nat → α := fun o' k' => if o' = o then (if k' < n then v else F o k') else F o' k'
theorem j_fl_0 {α : Type} (F : Nat → Nat → α) (o : Nat) (v : α) : j_fl F o 0 v = F := by
  funext o' k'
  unfold j_fl
  by_cases h : o' = o
  · rw [if_pos h, if_neg (Nat.not_lt_zero _), h]
  · rw [if_neg h]
theorem j_fl_S {α : Type} (F : Nat → Nat → α) (o n : Nat) (v : α) : j_u (j_fl F o n v) o n v = j_fl F o (n + 1) v := by
  funext o' k'
  unfold j_u j_fl
  by_cases h : o' = o
  · rw [if_pos h, if_pos h]
    by_cases h2 : k' = n
    · rw [if_pos h2, if_pos (by omega)]
    · rw [if_neg h2, if_pos rfl]
      by_cases h3 : k' < n
      · rw [if_pos h3, if_pos (by omega)]
      · rw [if_neg h3, if_neg (by omega)]
  · rw [if_neg h, if_neg h, if_neg h]
theorem j_fl_o {α : Type} (F : Nat → Nat → α) {o o' n : Nat} (v : α) (k' : Nat) (h : o' ≠ o) : j_fl F o n v o' k' = F o' k' := if_neg h
theorem j_fl_in {α : Type} (F : Nat → Nat → α) {o n k : Nat} (v : α) (h : k < n) : j_fl F o n v o k = v := by unfold j_fl; rw [if_pos rfl, if_pos h]
theorem j_fl_out {α : Type} (F : Nat → Nat → α) {o n k : Nat} (v : α) (h : ¬ k < n) : j_fl F o n v o k = F o k := by unfold j_fl; rw [if_pos rfl, if_neg h]
theorem l147 {d : Nat} {I : Nat → Nat → Int32} {D : Nat → Nat → UInt64} {R : Nat → Nat → Option Nat} {Q : j_Po} {r : Nat} (hr : isRw r) (hq : Q none w1 (j_fl I (r + 2) 64 0, j_fl D (r + 1) 64 FP.dconst0, RR R)) : ∀ (n k : Nat), n + k = 64 → j_W 147 d 0 0 0 0 12 [some (.ref r), none, none, some (.int (nI k))] [] w1 (j_fl I (r + 2) k 0, j_fl D (r + 1) k FP.dconst0, RR R) Q := by
  intro n
  induction n with
  | zero => intro k hk; exact s147h hr (by omega) (Nat.zero_le _) (fun _ => by rw [show k = 64 by omega]; exact hq) (fun h => absurd (show 64 ≤ k by omega) h)
  | succ n ih => intro k hk; exact s147h hr (by omega) (Nat.zero_le _) (fun h => absurd h (by omega)) (fun _ => by rw [j_fl_S, j_fl_S]; exact ih (k + 1) (by omega))
theorem c147 {d : Nat} {I : Nat → Nat → Int32} {D : Nat → Nat → UInt64} {R : Nat → Nat → Option Nat} {Q : j_Po} {r : Nat} {a b : Int32} (hr : isRw r) (hq : Q none w1 (j_fl (j_u (j_u I r 0 a) r 1 b) (r + 2) 64 0, j_fl D (r + 1) 64 FP.dconst0, RR R)) : j_Call d 147 [.ref r, .int a, .int b] w1 (I, D, RR R) 0 0 Q :=
  s147e hr (Nat.zero_le _) (by
    have := l147 (d := d) (I := j_u (j_u I r 0 a) r 1 b) (D := D) (R := R) hr hq 64 0 rfl
    rw [j_fl_0, j_fl_0] at this
    exact this)
set_option maxRecDepth 10000 in
set_option maxHeartbeats 4000000 in
theorem s160 {d : Nat} {I : Nat → Nat → Int32} {D : Nat → Nat → UInt64} {R : Nat → Nat → Option Nat} {Q : j_Po} {a : Int32} {b : Int32} {c : Int32}  (hR : WFR R) (hd : 1 ≤ d)
    (v1 : ∀ k1 : Nat, (k1 < 4) → (a = nI k1) → (b < (-1)) → Q (some (.int (-2))) w1 (I, D, RR R))
    (v2 : ∀ k1 : Nat, (k1 < 4) → (a = nI k1) → (¬ b < (-1)) → (b ≤ 3) → (b = (-1)) → Q (some (.int 1)) w1 ((j_fl (j_u (j_u I (248 + 3 * k1) 0 b) (248 + 3 * k1) 1 (0 : Int32)) ((248 + 3 * k1) + 2) 64 0), (j_fl D ((248 + 3 * k1) + 1) 64 FP.dconst0), RR R))
    (v3 : ∀ k1 : Nat, (k1 < 4) → (a = nI k1) → (¬ b < (-1)) → (b ≤ 3) → (¬ b = (-1)) → (c ≤ 64) → (0 ≤ c) → Q (some (.int 1)) w1 ((j_fl (j_u (j_u I (248 + 3 * k1) 0 b) (248 + 3 * k1) 1 c) ((248 + 3 * k1) + 2) 64 0), (j_fl D ((248 + 3 * k1) + 1) 64 FP.dconst0), RR R))
    (v4 : ∀ k1 : Nat, (k1 < 4) → (a = nI k1) → (¬ b < (-1)) → (b ≤ 3) → (¬ b = (-1)) → (c ≤ 64) → (¬ 0 ≤ c) → Q (some (.int (-14))) w1 (I, D, RR R))
    (v5 : ∀ k1 : Nat, (k1 < 4) → (a = nI k1) → (¬ b < (-1)) → (b ≤ 3) → (¬ b = (-1)) → (¬ c ≤ 64) → Q (some (.int (-2))) w1 (I, D, RR R))
    (v6 : ∀ k1 : Nat, (k1 < 4) → (a = nI k1) → (¬ b < (-1)) → (¬ b ≤ 3) → Q (some (.int (-2))) w1 (I, D, RR R))
    (v7 : (¬ (∃ k : Nat, k < 4 ∧ a = nI k)) → Q (some (.int (-2))) w1 (I, D, RR R)) : j_Call d 160 [.ref 0, .int a, .int b, .int c] w1 (I, D, RR R) 0 0 Q := by
  refine q_enter (L := [some (.ref 0), some (.int a), some (.int b), some (.int c)]) j_m160 (Nat.le_of_ble_eq_true rfl) rfl ?_
  refine q_iload_n d160_0 rfl ?_
  refine q_invS (av := [.int a]) (rest := []) (d' := 0) (mc' := 0) (ms' := 0) d160_1 (cv9_216 160 rfl) rfl rfl (by omega) (Nat.le_of_ble_eq_true rfl) (Nat.le_of_ble_eq_true rfl) (Nat.le_refl _) (Nat.le_refl _) ?_
  refine r113  (fun k1 h1 h1e => ?_) (fun h1 => ?_)
  ·
    subst h1e
    show j_W 160 d 0 0 0 0 4 [some (.ref 0), some (.int (nI k1)), some (.int b), some (.int c)] [.int 1] w1 (I, D, RR R) Q
    refine q_if_eq (tgt := 17) d160_4 rfl (fun h => absurd h (by decide)) (fun _ => ?_)
    refine q_iload_n d160_7 rfl ?_
    refine q_iconst (v := (-1)) (by decide) d160_8 ?_
    refine q_icmp_lt (tgt := 17) d160_9 rfl (fun h2t => ?_) (fun h2f => ?_)
    ·
      refine q_bipush (v := (-2)) (by decide) d160_17 ?_
      exact q_iret d160_19 rfl (Nat.le_refl _) (Nat.le_refl _) (v1 k1 h1 rfl h2t)
    ·
      refine q_iload_n d160_12 rfl ?_
      refine q_iconst (v := 3) (by decide) d160_13 ?_
      refine q_icmp_le (tgt := 20) d160_14 rfl (fun h3t => ?_) (fun h3f => ?_)
      ·
        refine q_iload_n d160_20 rfl ?_
        refine q_iconst (v := (-1)) (by decide) d160_21 ?_
        refine q_icmp_eq (tgt := 34) d160_22 rfl (fun h4t => ?_) (fun h4f => ?_)
        ·
          refine q_iload_n d160_34 rfl ?_
          refine q_iconst (v := (-1)) (by decide) d160_35 ?_
          refine q_icmp_eq (tgt := 46) d160_36 rfl (fun h5t => ?_) (fun h5f => ?_)
          ·
            refine q_aload_n d160_46 rfl ?_
            refine q_getR (x := 105) d160_47 (fs9_32 160 rfl) rfl (lt_w1 rfl) sh0 (rs0_7 R) (by decide) ?_
            refine q_iload_n d160_50 rfl ?_
            refine q_aaload (c := 8) (a := k1) (x := (248 + 3 * k1)) d160_51 (lt_w1 rfl) sh105 (by decide) rfl (by omega) (rl105 R (by omega)) (lt1000 (isRw_lt (isRw_k _ (by omega)))) ?_
            refine q_iload_n d160_52 rfl ?_
            refine q_iload_n d160_53 rfl ?_
            refine q_iconst (v := (-1)) (by decide) d160_54 ?_
            refine q_icmp_ne (tgt := 62) d160_55 rfl (fun h6t => ?_) (fun h6f => ?_)
            ·
              exact False.elim (by first | exact absurd h6t h4t | exact absurd h4t h6t | exact (Int32.not_lt.mpr h6t) h4t | exact (Int32.not_lt.mpr h4t) h6t | exact h6t (Int32.not_le.mp h4t) | exact h4t (Int32.not_le.mp h6t) | omega)
            ·
              refine q_iconst (v := 0) (by decide) d160_58 ?_
              refine q_goto (tgt := 63) d160_59 rfl ?_
              refine q_invV (o := (248 + 3 * k1)) (ci := 6) (av := [.int b, .int 0]) (rest := []) (d' := 0) (mc' := 0) (ms' := 0) d160_63 (cv9_362 160 rfl) rfl (by decide) rfl rfl (by omega) (Nat.le_of_ble_eq_true rfl) (Nat.le_of_ble_eq_true rfl) (isRw_lt (isRw_k _ (by omega))) (isRw_sh (isRw_k _ (by omega))) (Nat.le_refl _) (Nat.le_refl _) ?_
              refine c147 (isRw_k _ (by omega))  ?_
              show j_W 160 d 0 0 0 0 66 [some (.ref 0), some (.int (nI k1)), some (.int b), some (.int c)] [] w1 ((j_fl (j_u (j_u I (248 + 3 * k1) 0 b) (248 + 3 * k1) 1 (0 : Int32)) ((248 + 3 * k1) + 2) 64 0), (j_fl D ((248 + 3 * k1) + 1) 64 FP.dconst0), RR R) Q
              refine q_iconst (v := 1) (by decide) d160_66 ?_
              exact q_iret d160_67 rfl (Nat.le_refl _) (Nat.le_refl _) (v2 k1 h1 rfl h2f h3t h4t)
          ·
            exact False.elim (by first | exact absurd h5f h4t | exact absurd h4t h5f | exact (Int32.not_lt.mpr h5f) h4t | exact (Int32.not_lt.mpr h4t) h5f | exact h5f (Int32.not_le.mp h4t) | exact h4t (Int32.not_le.mp h5f) | omega)
        ·
          refine q_iload_n d160_25 rfl ?_
          refine q_bipush (v := 64) (by decide) d160_26 ?_
          refine q_icmp_le (tgt := 34) d160_28 rfl (fun h7t => ?_) (fun h7f => ?_)
          ·
            refine q_iload_n d160_34 rfl ?_
            refine q_iconst (v := (-1)) (by decide) d160_35 ?_
            refine q_icmp_eq (tgt := 46) d160_36 rfl (fun h8t => ?_) (fun h8f => ?_)
            ·
              exact False.elim (by first | exact absurd h8t h4f | exact absurd h4f h8t | exact (Int32.not_lt.mpr h8t) h4f | exact (Int32.not_lt.mpr h4f) h8t | exact h8t (Int32.not_le.mp h4f) | exact h4f (Int32.not_le.mp h8t) | omega)
            ·
              refine q_iload_n d160_39 rfl ?_
              refine q_if_ge (tgt := 46) d160_40 rfl (fun h9t => ?_) (fun h9f => ?_)
              ·
                refine q_aload_n d160_46 rfl ?_
                refine q_getR (x := 105) d160_47 (fs9_32 160 rfl) rfl (lt_w1 rfl) sh0 (rs0_7 R) (by decide) ?_
                refine q_iload_n d160_50 rfl ?_
                refine q_aaload (c := 8) (a := k1) (x := (248 + 3 * k1)) d160_51 (lt_w1 rfl) sh105 (by decide) rfl (by omega) (rl105 R (by omega)) (lt1000 (isRw_lt (isRw_k _ (by omega)))) ?_
                refine q_iload_n d160_52 rfl ?_
                refine q_iload_n d160_53 rfl ?_
                refine q_iconst (v := (-1)) (by decide) d160_54 ?_
                refine q_icmp_ne (tgt := 62) d160_55 rfl (fun h10t => ?_) (fun h10f => ?_)
                ·
                  refine q_iload_n d160_62 rfl ?_
                  refine q_invV (o := (248 + 3 * k1)) (ci := 6) (av := [.int b, .int c]) (rest := []) (d' := 0) (mc' := 0) (ms' := 0) d160_63 (cv9_362 160 rfl) rfl (by decide) rfl rfl (by omega) (Nat.le_of_ble_eq_true rfl) (Nat.le_of_ble_eq_true rfl) (isRw_lt (isRw_k _ (by omega))) (isRw_sh (isRw_k _ (by omega))) (Nat.le_refl _) (Nat.le_refl _) ?_
                  refine c147 (isRw_k _ (by omega))  ?_
                  show j_W 160 d 0 0 0 0 66 [some (.ref 0), some (.int (nI k1)), some (.int b), some (.int c)] [] w1 ((j_fl (j_u (j_u I (248 + 3 * k1) 0 b) (248 + 3 * k1) 1 c) ((248 + 3 * k1) + 2) 64 0), (j_fl D ((248 + 3 * k1) + 1) 64 FP.dconst0), RR R) Q
                  refine q_iconst (v := 1) (by decide) d160_66 ?_
                  exact q_iret d160_67 rfl (Nat.le_refl _) (Nat.le_refl _) (v3 k1 h1 rfl h2f h3t h4f h7t h9t)
                ·
                  exact False.elim (by first | exact absurd h10f h4f | exact absurd h4f h10f | exact (Int32.not_lt.mpr h10f) h4f | exact (Int32.not_lt.mpr h4f) h10f | exact h10f (Int32.not_le.mp h4f) | exact h4f (Int32.not_le.mp h10f) | omega)
              ·
                refine q_bipush (v := (-14)) (by decide) d160_43 ?_
                exact q_iret d160_45 rfl (Nat.le_refl _) (Nat.le_refl _) (v4 k1 h1 rfl h2f h3t h4f h7t h9f)
          ·
            refine q_bipush (v := (-2)) (by decide) d160_31 ?_
            exact q_iret d160_33 rfl (Nat.le_refl _) (Nat.le_refl _) (v5 k1 h1 rfl h2f h3t h4f h7f)
      ·
        refine q_bipush (v := (-2)) (by decide) d160_17 ?_
        exact q_iret d160_19 rfl (Nat.le_refl _) (Nat.le_refl _) (v6 k1 h1 rfl h2f h3f)
  ·
    show j_W 160 d 0 0 0 0 4 [some (.ref 0), some (.int a), some (.int b), some (.int c)] [.int 0] w1 (I, D, RR R) Q
    refine q_if_eq (tgt := 17) d160_4 rfl (fun _ => ?_) (fun h => absurd h (by decide))
    refine q_bipush (v := (-2)) (by decide) d160_17 ?_
    exact q_iret d160_19 rfl (Nat.le_refl _) (Nat.le_refl _) (v7 h1)

set_option maxRecDepth 10000 in
set_option maxHeartbeats 4000000 in
theorem s162 {d : Nat} {I : Nat → Nat → Int32} {D : Nat → Nat → UInt64} {R : Nat → Nat → Option Nat} {Q : j_Po} {a : Int32} {b : Int32}   (hd : 0 ≤ d)
    (v1 : (a = 0) → Q (some (.double (FP.i2d ((b : Int32).toInt8.toInt32)))) w1 (I, D, RR R))
    (v2 : (¬ a = 0) → (a = 1) → Q (some (.double (FP.i2d b))) w1 (I, D, RR R))
    (v3 : (¬ a = 0) → (¬ a = 1) → (a = 2) → Q (some (.double (FP.f2d (FP.d2f (FP.ddiv (FP.i2d b) 4620693217682128896))))) w1 (I, D, RR R))
    (v4 : (¬ a = 0) → (¬ a = 1) → (¬ a = 2) → Q (some (.double (FP.ddiv (FP.i2d b) 4620693217682128896))) w1 (I, D, RR R)) : j_Call d 162 [.int a, .int b] w1 (I, D, RR R) 0 0 Q := by
  refine q_enter (L := [some (.int a), some (.int b)]) j_m162 (Nat.le_of_ble_eq_true rfl) rfl ?_
  refine q_iload_n d162_0 rfl ?_
  by_cases h1 : a = 0
  ·
    refine r_int (y := 0) h1 ?_
    refine q_tableIn (tgt := 28) d162_1 (by decide) (by decide) rfl rfl ?_
    refine q_iload_n d162_28 rfl ?_
    refine q_i2b d162_29 ?_
    refine q_i2d d162_30 ?_
    exact q_dret d162_31 rfl (Nat.le_refl _) (Nat.le_refl _) (v1 h1)
  by_cases h2 : a = 1
  ·
    refine r_int (y := 1) h2 ?_
    refine q_tableIn (tgt := 32) d162_1 (by decide) (by decide) rfl rfl ?_
    refine q_iload_n d162_32 rfl ?_
    refine q_i2d d162_33 ?_
    exact q_dret d162_34 rfl (Nat.le_refl _) (Nat.le_refl _) (v2 h1 h2)
  by_cases h3 : a = 2
  ·
    refine r_int (y := 2) h3 ?_
    refine q_tableIn (tgt := 35) d162_1 (by decide) (by decide) rfl rfl ?_
    refine q_iload_n d162_35 rfl ?_
    refine q_i2d d162_36 ?_
    refine q_ldcD (v := 4620693217682128896) d162_37 (kc9_80 162 rfl) ?_
    refine q_ddiv (n64_i8 _) d162_40 ?_
    refine q_d2f (n32_i8 _) d162_41 ?_
    refine q_f2d (n64_i8f _) d162_42 ?_
    exact q_dret d162_43 rfl (Nat.le_refl _) (Nat.le_refl _) (v3 h1 h2 h3)
  have g4 : (a).toInt < 0 ∨ 2 < (a).toInt := tsw_out2 0 3 (by decide) (fun c hc => by
    have : c = 0 ∨ c = 1 ∨ c = 2 := by omega
    rcases this with rfl | rfl | rfl
    · exact h1
    · exact h2
    · exact h3)
  refine q_tableOut (tgt := 44) d162_1 g4 rfl ?_
  refine q_iload_n d162_44 rfl ?_
  refine q_i2d d162_45 ?_
  refine q_ldcD (v := 4620693217682128896) d162_46 (kc9_80 162 rfl) ?_
  refine q_ddiv (n64_i8 _) d162_49 ?_
  exact q_dret d162_50 rfl (Nat.le_refl _) (Nat.le_refl _) (v4 h1 h2 h3)

set_option maxRecDepth 10000 in
set_option maxHeartbeats 4000000 in
theorem s161 {d : Nat} {I : Nat → Nat → Int32} {D : Nat → Nat → UInt64} {R : Nat → Nat → Option Nat} {Q : j_Po} {a : Int32} {b : Int32} {c : Int32}  (hR : WFR R) (hd : 1 ≤ d)
    (v1 : ∀ k1 : Nat, (k1 < 4) → (a = nI k1) → (¬ (I (248 + 3 * k1) 0) = (-1)) → ((I (248 + 3 * k1) 1) < (1 : Int32)) → Q (some (.int (-12))) w1 (I, D, RR R))
    (v2 : ∀ k1 : Nat, (k1 < 4) → (a = nI k1) → (¬ (I (248 + 3 * k1) 0) = (-1)) → (¬ (I (248 + 3 * k1) 1) < (1 : Int32)) → (b < 0) → Q (some (.int (-12))) w1 (I, D, RR R))
    (v3 : ∀ k1 : Nat, (k1 < 4) → (a = nI k1) → (¬ (I (248 + 3 * k1) 0) = (-1)) → (¬ (I (248 + 3 * k1) 1) < (1 : Int32)) → (¬ b < 0) → (((I (248 + 3 * k1) 1) - (1 : Int32)) < b) → Q (some (.int (-12))) w1 (I, D, RR R))
    (v4 : ∀ k1 : Nat, (k1 < 4) → (a = nI k1) → (¬ (I (248 + 3 * k1) 0) = (-1)) → (¬ (I (248 + 3 * k1) 1) < (1 : Int32)) → (¬ b < 0) → (¬ ((I (248 + 3 * k1) 1) - (1 : Int32)) < b) → ((I (248 + 3 * k1) 0) = 0) → vp_in b 64)
    (v5 : ∀ k1 : Nat, (k1 < 4) → (a = nI k1) → (¬ (I (248 + 3 * k1) 0) = (-1)) → (¬ (I (248 + 3 * k1) 1) < (1 : Int32)) → (¬ b < 0) → (¬ ((I (248 + 3 * k1) 1) - (1 : Int32)) < b) → ((I (248 + 3 * k1) 0) = 0) → Q (some (.int 1)) w1 ((j_u I ((248 + 3 * k1) + 2) b.toNatClampNeg 0), (j_u D ((248 + 3 * k1) + 1) b.toNatClampNeg (FP.i2d ((c : Int32).toInt8.toInt32))), RR R))
    (v6 : ∀ k1 : Nat, (k1 < 4) → (a = nI k1) → (¬ (I (248 + 3 * k1) 0) = (-1)) → (¬ (I (248 + 3 * k1) 1) < (1 : Int32)) → (¬ b < 0) → (¬ ((I (248 + 3 * k1) 1) - (1 : Int32)) < b) → (¬ (I (248 + 3 * k1) 0) = 0) → ((I (248 + 3 * k1) 0) = 1) → vp_in b 64)
    (v7 : ∀ k1 : Nat, (k1 < 4) → (a = nI k1) → (¬ (I (248 + 3 * k1) 0) = (-1)) → (¬ (I (248 + 3 * k1) 1) < (1 : Int32)) → (¬ b < 0) → (¬ ((I (248 + 3 * k1) 1) - (1 : Int32)) < b) → (¬ (I (248 + 3 * k1) 0) = 0) → ((I (248 + 3 * k1) 0) = 1) → Q (some (.int 1)) w1 ((j_u I ((248 + 3 * k1) + 2) b.toNatClampNeg 0), (j_u D ((248 + 3 * k1) + 1) b.toNatClampNeg (FP.i2d c)), RR R))
    (v8 : ∀ k1 : Nat, (k1 < 4) → (a = nI k1) → (¬ (I (248 + 3 * k1) 0) = (-1)) → (¬ (I (248 + 3 * k1) 1) < (1 : Int32)) → (¬ b < 0) → (¬ ((I (248 + 3 * k1) 1) - (1 : Int32)) < b) → (¬ (I (248 + 3 * k1) 0) = 0) → (¬ (I (248 + 3 * k1) 0) = 1) → ((I (248 + 3 * k1) 0) = 2) → vp_in b 64)
    (v9 : ∀ k1 : Nat, (k1 < 4) → (a = nI k1) → (¬ (I (248 + 3 * k1) 0) = (-1)) → (¬ (I (248 + 3 * k1) 1) < (1 : Int32)) → (¬ b < 0) → (¬ ((I (248 + 3 * k1) 1) - (1 : Int32)) < b) → (¬ (I (248 + 3 * k1) 0) = 0) → (¬ (I (248 + 3 * k1) 0) = 1) → ((I (248 + 3 * k1) 0) = 2) → Q (some (.int 1)) w1 ((j_u I ((248 + 3 * k1) + 2) b.toNatClampNeg 0), (j_u D ((248 + 3 * k1) + 1) b.toNatClampNeg (FP.f2d (FP.d2f (FP.ddiv (FP.i2d c) 4620693217682128896)))), RR R))
    (v10 : ∀ k1 : Nat, (k1 < 4) → (a = nI k1) → (¬ (I (248 + 3 * k1) 0) = (-1)) → (¬ (I (248 + 3 * k1) 1) < (1 : Int32)) → (¬ b < 0) → (¬ ((I (248 + 3 * k1) 1) - (1 : Int32)) < b) → (¬ (I (248 + 3 * k1) 0) = 0) → (¬ (I (248 + 3 * k1) 0) = 1) → (¬ (I (248 + 3 * k1) 0) = 2) → vp_in b 64)
    (v11 : ∀ k1 : Nat, (k1 < 4) → (a = nI k1) → (¬ (I (248 + 3 * k1) 0) = (-1)) → (¬ (I (248 + 3 * k1) 1) < (1 : Int32)) → (¬ b < 0) → (¬ ((I (248 + 3 * k1) 1) - (1 : Int32)) < b) → (¬ (I (248 + 3 * k1) 0) = 0) → (¬ (I (248 + 3 * k1) 0) = 1) → (¬ (I (248 + 3 * k1) 0) = 2) → Q (some (.int 1)) w1 ((j_u I ((248 + 3 * k1) + 2) b.toNatClampNeg 0), (j_u D ((248 + 3 * k1) + 1) b.toNatClampNeg (FP.ddiv (FP.i2d c) 4620693217682128896)), RR R))
    (v12 : ∀ k1 : Nat, (k1 < 4) → (a = nI k1) → ((I (248 + 3 * k1) 0) = (-1)) → Q (some (.int (-11))) w1 (I, D, RR R))
    (v13 : (¬ (∃ k : Nat, k < 4 ∧ a = nI k)) → Q (some (.int (-2))) w1 (I, D, RR R)) : j_Call d 161 [.ref 0, .int a, .int b, .int c] w1 (I, D, RR R) 0 0 Q := by
  refine q_enter (L := [some (.ref 0), some (.int a), some (.int b), some (.int c), none]) j_m161 (Nat.le_of_ble_eq_true rfl) rfl ?_
  refine q_iload_n d161_0 rfl ?_
  refine q_invS (av := [.int a]) (rest := []) (d' := 0) (mc' := 0) (ms' := 0) d161_1 (cv9_216 161 rfl) rfl rfl (by omega) (Nat.le_of_ble_eq_true rfl) (Nat.le_of_ble_eq_true rfl) (Nat.le_refl _) (Nat.le_refl _) ?_
  refine r113  (fun k1 h1 h1e => ?_) (fun h1 => ?_)
  ·
    subst h1e
    show j_W 161 d 0 0 0 0 4 [some (.ref 0), some (.int (nI k1)), some (.int b), some (.int c), none] [.int 1] w1 (I, D, RR R) Q
    refine q_if_ne (tgt := 10) d161_4 rfl (fun _ => ?_) (fun h => absurd h (by decide))
    refine q_aload_n d161_10 rfl ?_
    refine q_getR (x := 105) d161_11 (fs9_32 161 rfl) rfl (lt_w1 rfl) sh0 (rs0_7 R) (by decide) ?_
    refine q_iload_n d161_14 rfl ?_
    refine q_aaload (c := 8) (a := k1) (x := (248 + 3 * k1)) d161_15 (lt_w1 rfl) sh105 (by decide) rfl (by omega) (rl105 R (by omega)) (lt1000 (isRw_lt (isRw_k _ (by omega)))) ?_
    refine q_astore (L' := [some (.ref 0), some (.int (nI k1)), some (.int b), some (.int c), some (.ref (248 + 3 * k1))]) d161_16 (Nat.le_of_ble_eq_true rfl) (Nat.ne_of_lt (Nat.lt_trans (lt1000 (isRw_lt (isRw_k _ (by omega)))) (by decide))) rfl ?_
    refine q_aload d161_18 rfl ?_
    refine q_getI d161_20 (fs9_219 161 rfl) rfl (isRw_lt (isRw_k _ (by omega))) (isRw_sh (isRw_k _ (by omega))) ?_
    refine q_iconst (v := (-1)) (by decide) d161_23 ?_
    refine q_icmp_ne (tgt := 30) d161_24 rfl (fun h2t => ?_) (fun h2f => ?_)
    ·
      refine q_aload d161_30 rfl ?_
      refine q_iload_n d161_32 rfl ?_
      refine q_iconst (v := 1) (by decide) d161_33 ?_
      refine q_invV (o := (248 + 3 * k1)) (ci := 6) (av := [.int b, .int 1]) (rest := []) (d' := 0) (mc' := 0) (ms' := 0) d161_34 (cv9_222 161 rfl) rfl (by decide) rfl rfl (by omega) (Nat.le_of_ble_eq_true rfl) (Nat.le_of_ble_eq_true rfl) (isRw_lt (isRw_k _ (by omega))) (isRw_sh (isRw_k _ (by omega))) (Nat.le_refl _) (Nat.le_refl _) ?_
      refine s114 (r := (248 + 3 * k1)) (isRw_k _ (by omega)) (Nat.le_refl _) (fun c3 => False.elim (by exact absurd c3 (by decide))) (fun c4 c5 => ?_) (fun c6 c7 c8 => ?_) (fun c9 c10 c11 c12 => ?_) (fun c13 c14 c15 c16 => ?_)
      ·
        show j_W 161 d 0 0 0 0 37 [some (.ref 0), some (.int (nI k1)), some (.int b), some (.int c), some (.ref (248 + 3 * k1))] [.int 0] w1 (I, D, RR R) Q
        refine q_if_ne (tgt := 43) d161_37 rfl (fun h => absurd h (by decide)) (fun _ => ?_)
        refine q_bipush (v := (-12)) (by decide) d161_40 ?_
        exact q_iret d161_42 rfl (Nat.le_refl _) (Nat.le_refl _) (v1 k1 h1 rfl h2t c5)
      ·
        show j_W 161 d 0 0 0 0 37 [some (.ref 0), some (.int (nI k1)), some (.int b), some (.int c), some (.ref (248 + 3 * k1))] [.int 0] w1 (I, D, RR R) Q
        refine q_if_ne (tgt := 43) d161_37 rfl (fun h => absurd h (by decide)) (fun _ => ?_)
        refine q_bipush (v := (-12)) (by decide) d161_40 ?_
        exact q_iret d161_42 rfl (Nat.le_refl _) (Nat.le_refl _) (v2 k1 h1 rfl h2t c7 c8)
      ·
        show j_W 161 d 0 0 0 0 37 [some (.ref 0), some (.int (nI k1)), some (.int b), some (.int c), some (.ref (248 + 3 * k1))] [.int 0] w1 (I, D, RR R) Q
        refine q_if_ne (tgt := 43) d161_37 rfl (fun h => absurd h (by decide)) (fun _ => ?_)
        refine q_bipush (v := (-12)) (by decide) d161_40 ?_
        exact q_iret d161_42 rfl (Nat.le_refl _) (Nat.le_refl _) (v3 k1 h1 rfl h2t c10 c11 c12)
      ·
        show j_W 161 d 0 0 0 0 37 [some (.ref 0), some (.int (nI k1)), some (.int b), some (.int c), some (.ref (248 + 3 * k1))] [.int 1] w1 (I, D, RR R) Q
        refine q_if_ne (tgt := 43) d161_37 rfl (fun _ => ?_) (fun h => absurd h (by decide))
        refine q_aload d161_43 rfl ?_
        refine q_getR (x := ((248 + 3 * k1) + 1)) d161_45 (fs9_228 161 rfl) rfl (isRw_lt (isRw_k _ (by omega))) (isRw_sh (isRw_k _ (by omega))) (isRw_r1 R (isRw_k _ (by omega))) (lt1000 (isRw_lt1 (isRw_k _ (by omega)))) ?_
        refine q_iload_n d161_48 rfl ?_
        refine q_aload d161_49 rfl ?_
        refine q_getI d161_51 (fs9_219 161 rfl) rfl (isRw_lt (isRw_k _ (by omega))) (isRw_sh (isRw_k _ (by omega))) ?_
        refine q_iload_n d161_54 rfl ?_
        refine q_invS (av := [.int (I (248 + 3 * k1) 0), .int c]) (rest := [.int b, .ref ((248 + 3 * k1) + 1)]) (d' := 0) (mc' := 0) (ms' := 0) d161_55 (cv9_365 161 rfl) rfl rfl (by omega) (Nat.le_of_ble_eq_true rfl) (Nat.le_of_ble_eq_true rfl) (Nat.le_refl _) (Nat.le_refl _) ?_
        refine s162   (Nat.le_refl _) (fun c17 => ?_) (fun c18 c19 => ?_) (fun c20 c21 c22 => ?_) (fun c23 c24 c25 => ?_)
        ·
          show j_W 161 d 0 0 0 0 58 [some (.ref 0), some (.int (nI k1)), some (.int b), some (.int c), some (.ref (248 + 3 * k1))] [.double (FP.i2d ((c : Int32).toInt8.toInt32)), .int b, .ref ((248 + 3 * k1) + 1)] w1 (I, D, RR R) Q
          have g26 := ix_of (v4 k1 h1 rfl h2t c14 c15 c16 c17) (by decide)
          refine q_dastore (a := b.toNatClampNeg) d161_58 (isRw_lt1 (isRw_k _ (by omega))) (isRw_sh1 (isRw_k _ (by omega))) g26.1 g26.2 ?_
          refine q_aload d161_59 rfl ?_
          refine q_getR (x := ((248 + 3 * k1) + 2)) d161_61 (fs9_369 161 rfl) rfl (isRw_lt (isRw_k _ (by omega))) (isRw_sh (isRw_k _ (by omega))) (isRw_r2 R (isRw_k _ (by omega))) (lt1000 (isRw_lt2 (isRw_k _ (by omega)))) ?_
          refine q_iload_n d161_64 rfl ?_
          refine q_iconst (v := 0) (by decide) d161_65 ?_
          have g27 := ix_of (v4 k1 h1 rfl h2t c14 c15 c16 c17) (by decide)
          refine q_zastore (a := b.toNatClampNeg) d161_66 (Or.inl rfl) (isRw_lt2 (isRw_k _ (by omega))) (isRw_sh2 (isRw_k _ (by omega))) g27.1 g27.2 ?_
          refine q_iconst (v := 1) (by decide) d161_67 ?_
          exact q_iret d161_68 rfl (Nat.le_refl _) (Nat.le_refl _) (v5 k1 h1 rfl h2t c14 c15 c16 c17)
        ·
          show j_W 161 d 0 0 0 0 58 [some (.ref 0), some (.int (nI k1)), some (.int b), some (.int c), some (.ref (248 + 3 * k1))] [.double (FP.i2d c), .int b, .ref ((248 + 3 * k1) + 1)] w1 (I, D, RR R) Q
          have g28 := ix_of (v6 k1 h1 rfl h2t c14 c15 c16 c18 c19) (by decide)
          refine q_dastore (a := b.toNatClampNeg) d161_58 (isRw_lt1 (isRw_k _ (by omega))) (isRw_sh1 (isRw_k _ (by omega))) g28.1 g28.2 ?_
          refine q_aload d161_59 rfl ?_
          refine q_getR (x := ((248 + 3 * k1) + 2)) d161_61 (fs9_369 161 rfl) rfl (isRw_lt (isRw_k _ (by omega))) (isRw_sh (isRw_k _ (by omega))) (isRw_r2 R (isRw_k _ (by omega))) (lt1000 (isRw_lt2 (isRw_k _ (by omega)))) ?_
          refine q_iload_n d161_64 rfl ?_
          refine q_iconst (v := 0) (by decide) d161_65 ?_
          have g29 := ix_of (v6 k1 h1 rfl h2t c14 c15 c16 c18 c19) (by decide)
          refine q_zastore (a := b.toNatClampNeg) d161_66 (Or.inl rfl) (isRw_lt2 (isRw_k _ (by omega))) (isRw_sh2 (isRw_k _ (by omega))) g29.1 g29.2 ?_
          refine q_iconst (v := 1) (by decide) d161_67 ?_
          exact q_iret d161_68 rfl (Nat.le_refl _) (Nat.le_refl _) (v7 k1 h1 rfl h2t c14 c15 c16 c18 c19)
        ·
          show j_W 161 d 0 0 0 0 58 [some (.ref 0), some (.int (nI k1)), some (.int b), some (.int c), some (.ref (248 + 3 * k1))] [.double (FP.f2d (FP.d2f (FP.ddiv (FP.i2d c) 4620693217682128896))), .int b, .ref ((248 + 3 * k1) + 1)] w1 (I, D, RR R) Q
          have g30 := ix_of (v8 k1 h1 rfl h2t c14 c15 c16 c20 c21 c22) (by decide)
          refine q_dastore (a := b.toNatClampNeg) d161_58 (isRw_lt1 (isRw_k _ (by omega))) (isRw_sh1 (isRw_k _ (by omega))) g30.1 g30.2 ?_
          refine q_aload d161_59 rfl ?_
          refine q_getR (x := ((248 + 3 * k1) + 2)) d161_61 (fs9_369 161 rfl) rfl (isRw_lt (isRw_k _ (by omega))) (isRw_sh (isRw_k _ (by omega))) (isRw_r2 R (isRw_k _ (by omega))) (lt1000 (isRw_lt2 (isRw_k _ (by omega)))) ?_
          refine q_iload_n d161_64 rfl ?_
          refine q_iconst (v := 0) (by decide) d161_65 ?_
          have g31 := ix_of (v8 k1 h1 rfl h2t c14 c15 c16 c20 c21 c22) (by decide)
          refine q_zastore (a := b.toNatClampNeg) d161_66 (Or.inl rfl) (isRw_lt2 (isRw_k _ (by omega))) (isRw_sh2 (isRw_k _ (by omega))) g31.1 g31.2 ?_
          refine q_iconst (v := 1) (by decide) d161_67 ?_
          exact q_iret d161_68 rfl (Nat.le_refl _) (Nat.le_refl _) (v9 k1 h1 rfl h2t c14 c15 c16 c20 c21 c22)
        ·
          show j_W 161 d 0 0 0 0 58 [some (.ref 0), some (.int (nI k1)), some (.int b), some (.int c), some (.ref (248 + 3 * k1))] [.double (FP.ddiv (FP.i2d c) 4620693217682128896), .int b, .ref ((248 + 3 * k1) + 1)] w1 (I, D, RR R) Q
          have g32 := ix_of (v10 k1 h1 rfl h2t c14 c15 c16 c23 c24 c25) (by decide)
          refine q_dastore (a := b.toNatClampNeg) d161_58 (isRw_lt1 (isRw_k _ (by omega))) (isRw_sh1 (isRw_k _ (by omega))) g32.1 g32.2 ?_
          refine q_aload d161_59 rfl ?_
          refine q_getR (x := ((248 + 3 * k1) + 2)) d161_61 (fs9_369 161 rfl) rfl (isRw_lt (isRw_k _ (by omega))) (isRw_sh (isRw_k _ (by omega))) (isRw_r2 R (isRw_k _ (by omega))) (lt1000 (isRw_lt2 (isRw_k _ (by omega)))) ?_
          refine q_iload_n d161_64 rfl ?_
          refine q_iconst (v := 0) (by decide) d161_65 ?_
          have g33 := ix_of (v10 k1 h1 rfl h2t c14 c15 c16 c23 c24 c25) (by decide)
          refine q_zastore (a := b.toNatClampNeg) d161_66 (Or.inl rfl) (isRw_lt2 (isRw_k _ (by omega))) (isRw_sh2 (isRw_k _ (by omega))) g33.1 g33.2 ?_
          refine q_iconst (v := 1) (by decide) d161_67 ?_
          exact q_iret d161_68 rfl (Nat.le_refl _) (Nat.le_refl _) (v11 k1 h1 rfl h2t c14 c15 c16 c23 c24 c25)
    ·
      refine q_bipush (v := (-11)) (by decide) d161_27 ?_
      exact q_iret d161_29 rfl (Nat.le_refl _) (Nat.le_refl _) (v12 k1 h1 rfl h2f)
  ·
    show j_W 161 d 0 0 0 0 4 [some (.ref 0), some (.int a), some (.int b), some (.int c), none] [.int 0] w1 (I, D, RR R) Q
    refine q_if_ne (tgt := 10) d161_4 rfl (fun h => absurd h (by decide)) (fun _ => ?_)
    refine q_bipush (v := (-2)) (by decide) d161_7 ?_
    exact q_iret d161_9 rfl (Nat.le_refl _) (Nat.le_refl _) (v13 h1)

set_option maxRecDepth 10000 in
set_option maxHeartbeats 4000000 in
theorem s284e {d : Nat} {I : Nat → Nat → Int32} {D : Nat → Nat → UInt64} {R : Nat → Nat → Option Nat} {Q : j_Po} {a : Int32} {b : Int32} {c : Int32}   (hd : 2 ≤ d)
    (v1 : ∀ k1 : Nat, (k1 < 4) → (a = nI k1) → ((¬ b < (-1 : Int32) ∧ ¬ (3 : Int32) < b)) → (b < 0) → j_W 284 d 0 0 0 0 65 [some (.ref 260), some (.int (nI k1)), some (.int b), none, some (.int 0)] [] w1 ((j_u (j_u I 503 k1 b) 504 k1 0), D, RR R) Q)
    (v2 : ∀ k1 : Nat, (k1 < 4) → (a = nI k1) → ((¬ b < (-1 : Int32) ∧ ¬ (3 : Int32) < b)) → (¬ b < 0) → (c ≤ 64) → (0 ≤ c) → j_W 284 d 0 0 0 0 65 [some (.ref 260), some (.int (nI k1)), some (.int b), none, some (.int 0)] [] w1 ((j_u (j_u I 503 k1 b) 504 k1 c), D, RR R) Q)
    (v3 : ∀ k1 : Nat, (k1 < 4) → (a = nI k1) → ((¬ b < (-1 : Int32) ∧ ¬ (3 : Int32) < b)) → (¬ b < 0) → (c ≤ 64) → (¬ 0 ≤ c) → Q (some (.int (-14))) w1 (I, D, RR R))
    (v4 : ∀ k1 : Nat, (k1 < 4) → (a = nI k1) → ((¬ b < (-1 : Int32) ∧ ¬ (3 : Int32) < b)) → (¬ b < 0) → (¬ c ≤ 64) → Q (some (.int (-2))) w1 (I, D, RR R))
    (v5 : ∀ k1 : Nat, (k1 < 4) → (a = nI k1) → (¬ ((¬ b < (-1 : Int32) ∧ ¬ (3 : Int32) < b))) → Q (some (.int (-2))) w1 (I, D, RR R))
    (v6 : (¬ (∃ k : Nat, k < 4 ∧ a = nI k)) → Q (some (.int (-2))) w1 (I, D, RR R)) : j_Call d 284 [.ref 260, .int a, .int b, .int c] w1 (I, D, RR R) 0 0 Q := by
  refine q_enter (L := [some (.ref 260), some (.int a), some (.int b), some (.int c), none]) j_m284 (Nat.le_of_ble_eq_true rfl) rfl ?_
  refine q_iload_n d284_0 rfl ?_
  refine q_invS (av := [.int a]) (rest := []) (d' := 1) (mc' := 0) (ms' := 0) d284_1 (cv10_488 284 rfl) rfl rfl (by omega) (Nat.le_of_ble_eq_true rfl) (Nat.le_of_ble_eq_true rfl) (Nat.le_refl _) (Nat.le_refl _) ?_
  refine r253 (Nat.le_refl _)  (fun k1 h1 h1e => ?_) (fun h1 => ?_)
  ·
    subst h1e
    show j_W 284 d 0 0 0 0 4 [some (.ref 260), some (.int (nI k1)), some (.int b), some (.int c), none] [.int 1] w1 (I, D, RR R) Q
    refine q_if_eq (tgt := 26) d284_4 rfl (fun h => absurd h (by decide)) (fun _ => ?_)
    refine q_iload_n d284_7 rfl ?_
    refine q_iconst (v := (-1)) (by decide) d284_8 ?_
    refine q_iconst (v := 3) (by decide) d284_9 ?_
    refine q_invS (av := [.int b, .int (-1), .int 3]) (rest := []) (d' := 0) (mc' := 0) (ms' := 0) d284_10 (cv10_183 284 rfl) rfl rfl (by omega) (Nat.le_of_ble_eq_true rfl) (Nat.le_of_ble_eq_true rfl) (Nat.le_refl _) (Nat.le_refl _) ?_
    refine p168  (fun h2 => ?_) (fun h2 => ?_)
    ·
      show j_W 284 d 0 0 0 0 13 [some (.ref 260), some (.int (nI k1)), some (.int b), some (.int c), none] [.int 1] w1 (I, D, RR R) Q
      refine q_if_eq (tgt := 26) d284_13 rfl (fun h => absurd h (by decide)) (fun _ => ?_)
      refine q_iload_n d284_16 rfl ?_
      refine q_if_lt (tgt := 29) d284_17 rfl (fun h3t => ?_) (fun h3f => ?_)
      ·
        refine q_iload_n d284_29 rfl ?_
        refine q_if_lt (tgt := 40) d284_30 rfl (fun h4t => ?_) (fun h4f => ?_)
        ·
          refine q_aload_n d284_40 rfl ?_
          refine q_getR (x := 503) d284_41 (fs10_165 284 rfl) rfl (lt_w1 rfl) sh260 (rs260_70 R) (by decide) ?_
          refine q_iload_n d284_44 rfl ?_
          refine q_iload_n d284_45 rfl ?_
          refine q_iastore (a := k1) d284_46 (lt_w1 rfl) sh503 rfl (by omega) ?_
          refine q_aload_n d284_47 rfl ?_
          refine q_getR (x := 504) d284_48 (fs10_168 284 rfl) rfl (lt_w1 rfl) sh260 (rs260_71 R) (by decide) ?_
          refine q_iload_n d284_51 rfl ?_
          refine q_iload_n d284_52 rfl ?_
          refine q_if_ge (tgt := 60) d284_53 rfl (fun h5t => ?_) (fun h5f => ?_)
          ·
            exact False.elim (by first | exact absurd h5t h3t | exact absurd h3t h5t | exact (Int32.not_lt.mpr h5t) h3t | exact (Int32.not_lt.mpr h3t) h5t | exact h5t (Int32.not_le.mp h3t) | exact h3t (Int32.not_le.mp h5t) | omega)
          ·
            refine q_iconst (v := 0) (by decide) d284_56 ?_
            refine q_goto (tgt := 61) d284_57 rfl ?_
            refine q_iastore (a := k1) d284_61 (lt_w1 rfl) sh504 rfl (by omega) ?_
            refine q_iconst (v := 0) (by decide) d284_62 ?_
            refine q_istore (L' := [some (.ref 260), some (.int (nI k1)), some (.int b), some (.int c), some (.int 0)]) d284_63 (Nat.le_of_ble_eq_true rfl) rfl ?_
            exact r_sub (L' := [some (.ref 260), some (.int (nI k1)), some (.int b), none, some (.int 0)]) ⟨rfl, rfl, rfl, rfl, trivial⟩ (v1 k1 h1 rfl h2 h3t)
        ·
          exact False.elim (by first | exact absurd h4f h3t | exact absurd h3t h4f | exact (Int32.not_lt.mpr h4f) h3t | exact (Int32.not_lt.mpr h3t) h4f | exact h4f (Int32.not_le.mp h3t) | exact h3t (Int32.not_le.mp h4f) | omega)
      ·
        refine q_iload_n d284_20 rfl ?_
        refine q_bipush (v := 64) (by decide) d284_21 ?_
        refine q_icmp_le (tgt := 29) d284_23 rfl (fun h6t => ?_) (fun h6f => ?_)
        ·
          refine q_iload_n d284_29 rfl ?_
          refine q_if_lt (tgt := 40) d284_30 rfl (fun h7t => ?_) (fun h7f => ?_)
          ·
            exact False.elim (by first | exact absurd h7t h3f | exact absurd h3f h7t | exact (Int32.not_lt.mpr h7t) h3f | exact (Int32.not_lt.mpr h3f) h7t | exact h7t (Int32.not_le.mp h3f) | exact h3f (Int32.not_le.mp h7t) | omega)
          ·
            refine q_iload_n d284_33 rfl ?_
            refine q_if_ge (tgt := 40) d284_34 rfl (fun h8t => ?_) (fun h8f => ?_)
            ·
              refine q_aload_n d284_40 rfl ?_
              refine q_getR (x := 503) d284_41 (fs10_165 284 rfl) rfl (lt_w1 rfl) sh260 (rs260_70 R) (by decide) ?_
              refine q_iload_n d284_44 rfl ?_
              refine q_iload_n d284_45 rfl ?_
              refine q_iastore (a := k1) d284_46 (lt_w1 rfl) sh503 rfl (by omega) ?_
              refine q_aload_n d284_47 rfl ?_
              refine q_getR (x := 504) d284_48 (fs10_168 284 rfl) rfl (lt_w1 rfl) sh260 (rs260_71 R) (by decide) ?_
              refine q_iload_n d284_51 rfl ?_
              refine q_iload_n d284_52 rfl ?_
              refine q_if_ge (tgt := 60) d284_53 rfl (fun h9t => ?_) (fun h9f => ?_)
              ·
                refine q_iload_n d284_60 rfl ?_
                refine q_iastore (a := k1) d284_61 (lt_w1 rfl) sh504 rfl (by omega) ?_
                refine q_iconst (v := 0) (by decide) d284_62 ?_
                refine q_istore (L' := [some (.ref 260), some (.int (nI k1)), some (.int b), some (.int c), some (.int 0)]) d284_63 (Nat.le_of_ble_eq_true rfl) rfl ?_
                exact r_sub (L' := [some (.ref 260), some (.int (nI k1)), some (.int b), none, some (.int 0)]) ⟨rfl, rfl, rfl, rfl, trivial⟩ (v2 k1 h1 rfl h2 h3f h6t h8t)
              ·
                exact False.elim (by first | exact absurd h9f h3f | exact absurd h3f h9f | exact (Int32.not_lt.mpr h9f) h3f | exact (Int32.not_lt.mpr h3f) h9f | exact h9f (Int32.not_le.mp h3f) | exact h3f (Int32.not_le.mp h9f) | omega)
            ·
              refine q_bipush (v := (-14)) (by decide) d284_37 ?_
              exact q_iret d284_39 rfl (Nat.le_refl _) (Nat.le_refl _) (v3 k1 h1 rfl h2 h3f h6t h8f)
        ·
          refine q_bipush (v := (-2)) (by decide) d284_26 ?_
          exact q_iret d284_28 rfl (Nat.le_refl _) (Nat.le_refl _) (v4 k1 h1 rfl h2 h3f h6f)
    ·
      show j_W 284 d 0 0 0 0 13 [some (.ref 260), some (.int (nI k1)), some (.int b), some (.int c), none] [.int 0] w1 (I, D, RR R) Q
      refine q_if_eq (tgt := 26) d284_13 rfl (fun _ => ?_) (fun h => absurd h (by decide))
      refine q_bipush (v := (-2)) (by decide) d284_26 ?_
      exact q_iret d284_28 rfl (Nat.le_refl _) (Nat.le_refl _) (v5 k1 h1 rfl h2)
  ·
    show j_W 284 d 0 0 0 0 4 [some (.ref 260), some (.int a), some (.int b), some (.int c), none] [.int 0] w1 (I, D, RR R) Q
    refine q_if_eq (tgt := 26) d284_4 rfl (fun _ => ?_) (fun h => absurd h (by decide))
    refine q_bipush (v := (-2)) (by decide) d284_26 ?_
    exact q_iret d284_28 rfl (Nat.le_refl _) (Nat.le_refl _) (v6 h1)

set_option maxRecDepth 10000 in
set_option maxHeartbeats 4000000 in
theorem s284h {d : Nat} {I : Nat → Nat → Int32} {D : Nat → Nat → UInt64} {R : Nat → Nat → Option Nat} {Q : j_Po} {r : Nat} {k : Nat}  (hr : r < 4) (hk : k ≤ 64) (hd : 2 ≤ d)
    (v1 : (64 ≤ k) → Q (some (.int 1)) w1 (I, D, RR R))
    (v2 : (¬ 64 ≤ k) → j_W 284 d 0 0 0 0 65 [some (.ref 260), some (.int (nI r)), none, none, some (.int (nI (k + 1)))] [] w1 ((j_u I (511 + r) k 0), (j_u D (506 + r) k FP.dconst0), RR R) Q) : j_W 284 d 0 0 0 0 65 [some (.ref 260), some (.int (nI r)), none, none, some (.int (nI k))] [] w1 (I, D, RR R) Q := by
  refine q_iload d284_65 rfl ?_
  refine q_bipush (v := 64) (by decide) d284_67 ?_
  refine q_icmp_ge (tgt := 98) d284_69 rfl (fun h1t => ?_) (fun h1f => ?_)
  ·
    have h1tc : 64 ≤ k := (nI_leI (by omega) (by omega)).mp h1t
    refine q_iconst (v := 1) (by decide) d284_98 ?_
    exact q_iret d284_99 rfl (Nat.le_refl _) (Nat.le_refl _) (v1 h1tc)
  ·
    have h1fc : ¬ 64 ≤ k := mt (nI_leI (by omega) (by omega)).mpr h1f
    refine q_aload_n d284_72 rfl ?_
    refine q_getR (x := 505) d284_73 (fs10_171 284 rfl) rfl (lt_w1 rfl) sh260 (rs260_72 R) (by decide) ?_
    refine q_iload_n d284_76 rfl ?_
    refine q_aaload (c := 3) (a := r) (x := (506 + r)) d284_77 (lt_w1 rfl) sh505 (by decide) rfl (by omega) (rm505 R (by omega)) (lt1000 (lm505 (by omega))) ?_
    refine q_iload d284_78 rfl ?_
    refine q_dconst0 d284_80 ?_
    refine q_dastore (a := k) d284_81 (lm505 (by omega)) (sm505 (by omega)) rfl (by omega) ?_
    refine q_aload_n d284_82 rfl ?_
    refine q_getR (x := 510) d284_83 (fs10_174 284 rfl) rfl (lt_w1 rfl) sh260 (rs260_73 R) (by decide) ?_
    refine q_iload_n d284_86 rfl ?_
    refine q_aaload (c := 5) (a := r) (x := (511 + r)) d284_87 (lt_w1 rfl) sh510 (by decide) rfl (by omega) (rm510 R (by omega)) (lt1000 (lm510 (by omega))) ?_
    refine q_iload d284_88 rfl ?_
    refine q_iconst (v := 0) (by decide) d284_90 ?_
    refine q_zastore (a := k) d284_91 (Or.inl rfl) (lm510 (by omega)) (sm510 (by omega)) rfl (by omega) ?_
    refine q_iinc (L' := [some (.ref 260), some (.int (nI r)), none, none, some (.int (nI (k + 1)))]) (v := (nI (k + 1))) d284_92 rfl (nI_inc _) rfl ?_
    refine q_goto (tgt := 65) d284_95 rfl ?_
    exact r_sub (L' := [some (.ref 260), some (.int (nI r)), none, none, some (.int (nI (k + 1)))]) ⟨rfl, rfl, rfl, trivial⟩ (v2 h1fc)

set_option maxRecDepth 10000 in
set_option maxHeartbeats 4000000 in
theorem s286 {d : Nat} {I : Nat → Nat → Int32} {D : Nat → Nat → UInt64} {R : Nat → Nat → Option Nat} {Q : j_Po} {a : Int32} {b : Int32}   (hd : 2 ≤ d)
    (v1 : ∀ k1 : Nat, (k1 < 4) → (a = nI k1) → (0 ≤ (I 503 k1)) → ((¬ b < (0 : Int32) ∧ ¬ ((I 504 k1) - 1) < b)) → Q (some (.int 0)) w1 (I, D, RR R))
    (v2 : ∀ k1 : Nat, (k1 < 4) → (a = nI k1) → (0 ≤ (I 503 k1)) → (¬ ((¬ b < (0 : Int32) ∧ ¬ ((I 504 k1) - 1) < b))) → Q (some (.int (-12))) w1 (I, D, RR R))
    (v3 : ∀ k1 : Nat, (k1 < 4) → (a = nI k1) → (¬ 0 ≤ (I 503 k1)) → Q (some (.int (-11))) w1 (I, D, RR R))
    (v4 : (¬ (∃ k : Nat, k < 4 ∧ a = nI k)) → Q (some (.int (-2))) w1 (I, D, RR R)) : j_Call d 286 [.ref 260, .int a, .int b] w1 (I, D, RR R) 0 0 Q := by
  refine q_enter (L := [some (.ref 260), some (.int a), some (.int b)]) j_m286 (Nat.le_of_ble_eq_true rfl) rfl ?_
  refine q_iload_n d286_0 rfl ?_
  refine q_invS (av := [.int a]) (rest := []) (d' := 1) (mc' := 0) (ms' := 0) d286_1 (cv10_488 286 rfl) rfl rfl (by omega) (Nat.le_of_ble_eq_true rfl) (Nat.le_of_ble_eq_true rfl) (Nat.le_refl _) (Nat.le_refl _) ?_
  refine r253 (Nat.le_refl _)  (fun k1 h1 h1e => ?_) (fun h1 => ?_)
  ·
    subst h1e
    show j_W 286 d 0 0 0 0 4 [some (.ref 260), some (.int (nI k1)), some (.int b)] [.int 1] w1 (I, D, RR R) Q
    refine q_if_ne (tgt := 10) d286_4 rfl (fun _ => ?_) (fun h => absurd h (by decide))
    refine q_aload_n d286_10 rfl ?_
    refine q_getR (x := 503) d286_11 (fs10_165 286 rfl) rfl (lt_w1 rfl) sh260 (rs260_70 R) (by decide) ?_
    refine q_iload_n d286_14 rfl ?_
    refine q_iaload (a := k1) d286_15 (lt_w1 rfl) sh503 rfl (by omega) ?_
    refine q_if_ge (tgt := 22) d286_16 rfl (fun h2t => ?_) (fun h2f => ?_)
    ·
      refine q_iload_n d286_22 rfl ?_
      refine q_iconst (v := 0) (by decide) d286_23 ?_
      refine q_aload_n d286_24 rfl ?_
      refine q_getR (x := 504) d286_25 (fs10_168 286 rfl) rfl (lt_w1 rfl) sh260 (rs260_71 R) (by decide) ?_
      refine q_iload_n d286_28 rfl ?_
      refine q_iaload (a := k1) d286_29 (lt_w1 rfl) sh504 rfl (by omega) ?_
      refine q_iconst (v := 1) (by decide) d286_30 ?_
      refine q_isub d286_31 ?_
      refine q_invS (av := [.int b, .int 0, .int ((I 504 k1) - 1)]) (rest := []) (d' := 0) (mc' := 0) (ms' := 0) d286_32 (cv10_183 286 rfl) rfl rfl (by omega) (Nat.le_of_ble_eq_true rfl) (Nat.le_of_ble_eq_true rfl) (Nat.le_refl _) (Nat.le_refl _) ?_
      refine p168  (fun h3 => ?_) (fun h3 => ?_)
      ·
        show j_W 286 d 0 0 0 0 35 [some (.ref 260), some (.int (nI k1)), some (.int b)] [.int 1] w1 (I, D, RR R) Q
        refine q_if_eq (tgt := 42) d286_35 rfl (fun h => absurd h (by decide)) (fun _ => ?_)
        refine q_iconst (v := 0) (by decide) d286_38 ?_
        refine q_goto (tgt := 44) d286_39 rfl ?_
        exact q_iret d286_44 rfl (Nat.le_refl _) (Nat.le_refl _) (v1 k1 h1 rfl h2t h3)
      ·
        show j_W 286 d 0 0 0 0 35 [some (.ref 260), some (.int (nI k1)), some (.int b)] [.int 0] w1 (I, D, RR R) Q
        refine q_if_eq (tgt := 42) d286_35 rfl (fun _ => ?_) (fun h => absurd h (by decide))
        refine q_bipush (v := (-12)) (by decide) d286_42 ?_
        exact q_iret d286_44 rfl (Nat.le_refl _) (Nat.le_refl _) (v2 k1 h1 rfl h2t h3)
    ·
      refine q_bipush (v := (-11)) (by decide) d286_19 ?_
      exact q_iret d286_21 rfl (Nat.le_refl _) (Nat.le_refl _) (v3 k1 h1 rfl h2f)
  ·
    show j_W 286 d 0 0 0 0 4 [some (.ref 260), some (.int a), some (.int b)] [.int 0] w1 (I, D, RR R) Q
    refine q_if_ne (tgt := 10) d286_4 rfl (fun h => absurd h (by decide)) (fun _ => ?_)
    refine q_bipush (v := (-2)) (by decide) d286_7 ?_
    exact q_iret d286_9 rfl (Nat.le_refl _) (Nat.le_refl _) (v4 h1)

set_option maxRecDepth 10000 in
set_option maxHeartbeats 4000000 in
theorem s285 {d : Nat} {I : Nat → Nat → Int32} {D : Nat → Nat → UInt64} {R : Nat → Nat → Option Nat} {Q : j_Po} {a : Int32} {b : Int32} {c : Int32}   (hd : 3 ≤ d)
    (v1 : ∀ u1 : Nat, (u1 < 4) → (a = nI u1) → (0 ≤ (I 503 u1)) → ((¬ b < (0 : Int32) ∧ ¬ ((I 504 u1) - 1) < b)) → (¬ (I 503 u1) = 0) → (¬ (I 503 u1) = 1) → (¬ (I 503 u1) = 2) → vp_in b 64)
    (v2 : ∀ u1 : Nat, (u1 < 4) → (a = nI u1) → (0 ≤ (I 503 u1)) → ((¬ b < (0 : Int32) ∧ ¬ ((I 504 u1) - 1) < b)) → (¬ (I 503 u1) = 0) → (¬ (I 503 u1) = 1) → (¬ (I 503 u1) = 2) → Q (some (.int 1)) w1 ((j_u I (511 + u1) b.toNatClampNeg 0), (j_u D (506 + u1) b.toNatClampNeg (FP.ddiv (FP.i2d c) 4620693217682128896)), RR R))
    (v3 : ∀ u1 : Nat, (u1 < 4) → (a = nI u1) → (0 ≤ (I 503 u1)) → ((¬ b < (0 : Int32) ∧ ¬ ((I 504 u1) - 1) < b)) → (¬ (I 503 u1) = 0) → (¬ (I 503 u1) = 1) → ((I 503 u1) = 2) → vp_in b 64)
    (v4 : ∀ u1 : Nat, (u1 < 4) → (a = nI u1) → (0 ≤ (I 503 u1)) → ((¬ b < (0 : Int32) ∧ ¬ ((I 504 u1) - 1) < b)) → (¬ (I 503 u1) = 0) → (¬ (I 503 u1) = 1) → ((I 503 u1) = 2) → Q (some (.int 1)) w1 ((j_u I (511 + u1) b.toNatClampNeg 0), (j_u D (506 + u1) b.toNatClampNeg (FP.f2d (FP.d2f (FP.ddiv (FP.i2d c) 4620693217682128896)))), RR R))
    (v5 : ∀ u1 : Nat, (u1 < 4) → (a = nI u1) → (0 ≤ (I 503 u1)) → ((¬ b < (0 : Int32) ∧ ¬ ((I 504 u1) - 1) < b)) → (¬ (I 503 u1) = 0) → ((I 503 u1) = 1) → vp_in b 64)
    (v6 : ∀ u1 : Nat, (u1 < 4) → (a = nI u1) → (0 ≤ (I 503 u1)) → ((¬ b < (0 : Int32) ∧ ¬ ((I 504 u1) - 1) < b)) → (¬ (I 503 u1) = 0) → ((I 503 u1) = 1) → Q (some (.int 1)) w1 ((j_u I (511 + u1) b.toNatClampNeg 0), (j_u D (506 + u1) b.toNatClampNeg (FP.i2d c)), RR R))
    (v7 : ∀ u1 : Nat, (u1 < 4) → (a = nI u1) → (0 ≤ (I 503 u1)) → ((¬ b < (0 : Int32) ∧ ¬ ((I 504 u1) - 1) < b)) → ((I 503 u1) = 0) → vp_in b 64)
    (v8 : ∀ u1 : Nat, (u1 < 4) → (a = nI u1) → (0 ≤ (I 503 u1)) → ((¬ b < (0 : Int32) ∧ ¬ ((I 504 u1) - 1) < b)) → ((I 503 u1) = 0) → Q (some (.int 1)) w1 ((j_u I (511 + u1) b.toNatClampNeg 0), (j_u D (506 + u1) b.toNatClampNeg (FP.i2d ((c : Int32).toInt8.toInt32))), RR R))
    (v9 : ∀ u6 : Nat, (u6 < 4) → (a = nI u6) → (0 ≤ (I 503 u6)) → (¬ ((¬ b < (0 : Int32) ∧ ¬ ((I 504 u6) - 1) < b))) → Q (some (.int (-12))) w1 (I, D, RR R))
    (v10 : ∀ u11 : Nat, (u11 < 4) → (a = nI u11) → (¬ 0 ≤ (I 503 u11)) → Q (some (.int (-11))) w1 (I, D, RR R))
    (v11 : (¬ (∃ k : Nat, k < 4 ∧ a = nI k)) → Q (some (.int (-2))) w1 (I, D, RR R)) : j_Call d 285 [.ref 260, .int a, .int b, .int c] w1 (I, D, RR R) 0 0 Q := by
  refine q_enter (L := [some (.ref 260), some (.int a), some (.int b), some (.int c), none]) j_m285 (Nat.le_of_ble_eq_true rfl) rfl ?_
  refine q_aload_n d285_0 rfl ?_
  refine q_iload_n d285_1 rfl ?_
  refine q_iload_n d285_2 rfl ?_
  refine q_invV (o := 260) (ci := 10) (av := [.int a, .int b]) (rest := []) (d' := 2) (mc' := 0) (ms' := 0) d285_3 (cv10_569 285 rfl) rfl (by decide) rfl rfl (by omega) (Nat.le_of_ble_eq_true rfl) (Nat.le_of_ble_eq_true rfl) (lt_w1 rfl) sh260 (Nat.le_refl _) (Nat.le_refl _) ?_
  refine s286   (Nat.le_refl _) (fun u1 c2 c3 c4 c5 => ?_) (fun u6 c7 c8 c9 c10 => ?_) (fun u11 c12 c13 c14 => ?_) (fun c15 => ?_)
  ·
    subst c3
    show j_W 285 d 0 0 0 0 6 [some (.ref 260), some (.int (nI u1)), some (.int b), some (.int c), none] [.int 0] w1 (I, D, RR R) Q
    refine q_istore (L' := [some (.ref 260), some (.int (nI u1)), some (.int b), some (.int c), some (.int 0)]) d285_6 (Nat.le_of_ble_eq_true rfl) rfl ?_
    refine q_iload d285_8 rfl ?_
    refine q_if_eq (tgt := 16) d285_10 rfl (fun _ => ?_) (fun h => absurd h (by decide))
    refine q_aload_n d285_16 rfl ?_
    refine q_getR (x := 505) d285_17 (fs10_171 285 rfl) rfl (lt_w1 rfl) sh260 (rs260_72 R) (by decide) ?_
    refine q_iload_n d285_20 rfl ?_
    refine q_aaload (c := 3) (a := u1) (x := (506 + u1)) d285_21 (lt_w1 rfl) sh505 (by decide) rfl (by omega) (rm505 R (by omega)) (lt1000 (lm505 (by omega))) ?_
    refine q_iload_n d285_22 rfl ?_
    refine q_aload_n d285_23 rfl ?_
    refine q_getR (x := 503) d285_24 (fs10_165 285 rfl) rfl (lt_w1 rfl) sh260 (rs260_70 R) (by decide) ?_
    refine q_iload_n d285_27 rfl ?_
    refine q_iaload (a := u1) d285_28 (lt_w1 rfl) sh503 rfl (by omega) ?_
    refine q_if_ne (tgt := 38) d285_29 rfl (fun h16t => ?_) (fun h16f => ?_)
    ·
      refine q_aload_n d285_38 rfl ?_
      refine q_getR (x := 503) d285_39 (fs10_165 285 rfl) rfl (lt_w1 rfl) sh260 (rs260_70 R) (by decide) ?_
      refine q_iload_n d285_42 rfl ?_
      refine q_iaload (a := u1) d285_43 (lt_w1 rfl) sh503 rfl (by omega) ?_
      refine q_iconst (v := 1) (by decide) d285_44 ?_
      refine q_icmp_ne (tgt := 53) d285_45 rfl (fun h17t => ?_) (fun h17f => ?_)
      ·
        refine q_aload_n d285_53 rfl ?_
        refine q_getR (x := 503) d285_54 (fs10_165 285 rfl) rfl (lt_w1 rfl) sh260 (rs260_70 R) (by decide) ?_
        refine q_iload_n d285_57 rfl ?_
        refine q_iaload (a := u1) d285_58 (lt_w1 rfl) sh503 rfl (by omega) ?_
        refine q_iconst (v := 2) (by decide) d285_59 ?_
        refine q_icmp_ne (tgt := 74) d285_60 rfl (fun h18t => ?_) (fun h18f => ?_)
        ·
          refine q_iload_n d285_74 rfl ?_
          refine q_i2d d285_75 ?_
          refine q_ldcD (v := 4620693217682128896) d285_76 (kc10_318 285 rfl) ?_
          refine q_ddiv (n64_i8 _) d285_79 ?_
          have g19 := ix_of (v1 u1 c2 rfl c4 c5 h16t h17t h18t) (by decide)
          refine q_dastore (a := b.toNatClampNeg) d285_80 (lm505 (by omega)) (sm505 (by omega)) g19.1 g19.2 ?_
          refine q_aload_n d285_81 rfl ?_
          refine q_getR (x := 510) d285_82 (fs10_174 285 rfl) rfl (lt_w1 rfl) sh260 (rs260_73 R) (by decide) ?_
          refine q_iload_n d285_85 rfl ?_
          refine q_aaload (c := 5) (a := u1) (x := (511 + u1)) d285_86 (lt_w1 rfl) sh510 (by decide) rfl (by omega) (rm510 R (by omega)) (lt1000 (lm510 (by omega))) ?_
          refine q_iload_n d285_87 rfl ?_
          refine q_iconst (v := 0) (by decide) d285_88 ?_
          have g20 := ix_of (v1 u1 c2 rfl c4 c5 h16t h17t h18t) (by decide)
          refine q_zastore (a := b.toNatClampNeg) d285_89 (Or.inl rfl) (lm510 (by omega)) (sm510 (by omega)) g20.1 g20.2 ?_
          refine q_iconst (v := 1) (by decide) d285_90 ?_
          exact q_iret d285_91 rfl (Nat.le_refl _) (Nat.le_refl _) (v2 u1 c2 rfl c4 c5 h16t h17t h18t)
        ·
          refine q_iload_n d285_63 rfl ?_
          refine q_i2d d285_64 ?_
          refine q_ldcD (v := 4620693217682128896) d285_65 (kc10_318 285 rfl) ?_
          refine q_ddiv (n64_i8 _) d285_68 ?_
          refine q_d2f (n32_i8 _) d285_69 ?_
          refine q_f2d (n64_i8f _) d285_70 ?_
          refine q_goto (tgt := 80) d285_71 rfl ?_
          have g21 := ix_of (v3 u1 c2 rfl c4 c5 h16t h17t h18f) (by decide)
          refine q_dastore (a := b.toNatClampNeg) d285_80 (lm505 (by omega)) (sm505 (by omega)) g21.1 g21.2 ?_
          refine q_aload_n d285_81 rfl ?_
          refine q_getR (x := 510) d285_82 (fs10_174 285 rfl) rfl (lt_w1 rfl) sh260 (rs260_73 R) (by decide) ?_
          refine q_iload_n d285_85 rfl ?_
          refine q_aaload (c := 5) (a := u1) (x := (511 + u1)) d285_86 (lt_w1 rfl) sh510 (by decide) rfl (by omega) (rm510 R (by omega)) (lt1000 (lm510 (by omega))) ?_
          refine q_iload_n d285_87 rfl ?_
          refine q_iconst (v := 0) (by decide) d285_88 ?_
          have g22 := ix_of (v3 u1 c2 rfl c4 c5 h16t h17t h18f) (by decide)
          refine q_zastore (a := b.toNatClampNeg) d285_89 (Or.inl rfl) (lm510 (by omega)) (sm510 (by omega)) g22.1 g22.2 ?_
          refine q_iconst (v := 1) (by decide) d285_90 ?_
          exact q_iret d285_91 rfl (Nat.le_refl _) (Nat.le_refl _) (v4 u1 c2 rfl c4 c5 h16t h17t h18f)
      ·
        refine q_iload_n d285_48 rfl ?_
        refine q_i2d d285_49 ?_
        refine q_goto (tgt := 80) d285_50 rfl ?_
        have g23 := ix_of (v5 u1 c2 rfl c4 c5 h16t h17f) (by decide)
        refine q_dastore (a := b.toNatClampNeg) d285_80 (lm505 (by omega)) (sm505 (by omega)) g23.1 g23.2 ?_
        refine q_aload_n d285_81 rfl ?_
        refine q_getR (x := 510) d285_82 (fs10_174 285 rfl) rfl (lt_w1 rfl) sh260 (rs260_73 R) (by decide) ?_
        refine q_iload_n d285_85 rfl ?_
        refine q_aaload (c := 5) (a := u1) (x := (511 + u1)) d285_86 (lt_w1 rfl) sh510 (by decide) rfl (by omega) (rm510 R (by omega)) (lt1000 (lm510 (by omega))) ?_
        refine q_iload_n d285_87 rfl ?_
        refine q_iconst (v := 0) (by decide) d285_88 ?_
        have g24 := ix_of (v5 u1 c2 rfl c4 c5 h16t h17f) (by decide)
        refine q_zastore (a := b.toNatClampNeg) d285_89 (Or.inl rfl) (lm510 (by omega)) (sm510 (by omega)) g24.1 g24.2 ?_
        refine q_iconst (v := 1) (by decide) d285_90 ?_
        exact q_iret d285_91 rfl (Nat.le_refl _) (Nat.le_refl _) (v6 u1 c2 rfl c4 c5 h16t h17f)
    ·
      refine q_iload_n d285_32 rfl ?_
      refine q_i2b d285_33 ?_
      refine q_i2d d285_34 ?_
      refine q_goto (tgt := 80) d285_35 rfl ?_
      have g25 := ix_of (v7 u1 c2 rfl c4 c5 h16f) (by decide)
      refine q_dastore (a := b.toNatClampNeg) d285_80 (lm505 (by omega)) (sm505 (by omega)) g25.1 g25.2 ?_
      refine q_aload_n d285_81 rfl ?_
      refine q_getR (x := 510) d285_82 (fs10_174 285 rfl) rfl (lt_w1 rfl) sh260 (rs260_73 R) (by decide) ?_
      refine q_iload_n d285_85 rfl ?_
      refine q_aaload (c := 5) (a := u1) (x := (511 + u1)) d285_86 (lt_w1 rfl) sh510 (by decide) rfl (by omega) (rm510 R (by omega)) (lt1000 (lm510 (by omega))) ?_
      refine q_iload_n d285_87 rfl ?_
      refine q_iconst (v := 0) (by decide) d285_88 ?_
      have g26 := ix_of (v7 u1 c2 rfl c4 c5 h16f) (by decide)
      refine q_zastore (a := b.toNatClampNeg) d285_89 (Or.inl rfl) (lm510 (by omega)) (sm510 (by omega)) g26.1 g26.2 ?_
      refine q_iconst (v := 1) (by decide) d285_90 ?_
      exact q_iret d285_91 rfl (Nat.le_refl _) (Nat.le_refl _) (v8 u1 c2 rfl c4 c5 h16f)
  ·
    subst c8
    show j_W 285 d 0 0 0 0 6 [some (.ref 260), some (.int (nI u6)), some (.int b), some (.int c), none] [.int (-12)] w1 (I, D, RR R) Q
    refine q_istore (L' := [some (.ref 260), some (.int (nI u6)), some (.int b), some (.int c), some (.int (-12))]) d285_6 (Nat.le_of_ble_eq_true rfl) rfl ?_
    refine q_iload d285_8 rfl ?_
    refine q_if_eq (tgt := 16) d285_10 rfl (fun h => absurd h (by decide)) (fun _ => ?_)
    refine q_iload d285_13 rfl ?_
    exact q_iret d285_15 rfl (Nat.le_refl _) (Nat.le_refl _) (v9 u6 c7 rfl c9 c10)
  ·
    subst c13
    show j_W 285 d 0 0 0 0 6 [some (.ref 260), some (.int (nI u11)), some (.int b), some (.int c), none] [.int (-11)] w1 (I, D, RR R) Q
    refine q_istore (L' := [some (.ref 260), some (.int (nI u11)), some (.int b), some (.int c), some (.int (-11))]) d285_6 (Nat.le_of_ble_eq_true rfl) rfl ?_
    refine q_iload d285_8 rfl ?_
    refine q_if_eq (tgt := 16) d285_10 rfl (fun h => absurd h (by decide)) (fun _ => ?_)
    refine q_iload d285_13 rfl ?_
    exact q_iret d285_15 rfl (Nat.le_refl _) (Nat.le_refl _) (v10 u11 c12 rfl c14)
  ·
    show j_W 285 d 0 0 0 0 6 [some (.ref 260), some (.int a), some (.int b), some (.int c), none] [.int (-2)] w1 (I, D, RR R) Q
    refine q_istore (L' := [some (.ref 260), some (.int a), some (.int b), some (.int c), some (.int (-2))]) d285_6 (Nat.le_of_ble_eq_true rfl) rfl ?_
    refine q_iload d285_8 rfl ?_
    refine q_if_eq (tgt := 16) d285_10 rfl (fun h => absurd h (by decide)) (fun _ => ?_)
    refine q_iload d285_13 rfl ?_
    exact q_iret d285_15 rfl (Nat.le_refl _) (Nat.le_refl _) (v11 c15)

