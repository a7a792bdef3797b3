/-! the reference reads: its methods -/
theorem c212y {I : Nat → Nat → Int32} {D : Nat → Nat → UInt64} {R : Nat → Nat → Option Nat} {Q : j_Po} {d : Nat} (hw : I 260 46 = 1) (hd : 6 ≤ d) (hq : Q none w1 (I, D, RR R)) : j_Call d 212 [.ref 260] w1 (I, D, RR R) 0 0 Q := c212w (by rw [hw]; decide) hd hq
set_option maxRecDepth 10000 in
set_option maxHeartbeats 4000000 in
theorem r237w {d : Nat} {I : Nat → Nat → Int32} {D : Nat → Nat → UInt64} {R : Nat → Nat → Option Nat} {Q : j_Po}  (hW : I 260 46 = 1) (hd : 0 ≤ d)
    (v1 : ((I 260 46) = 0) → j_W 237 d 0 0 0 0 8 [some (.ref 260), none] [] w1 (I, D, RR R) Q)
    (v2 : (¬ (I 260 46) = 0) → Q none w1 (I, D, RR R)) : j_Call d 237 [.ref 260] w1 (I, D, RR R) 0 0 Q := by
  refine q_enter (L := [some (.ref 260), none]) j_m237 (Nat.le_of_ble_eq_true rfl) rfl ?_
  refine q_aload_n d237_0 rfl ?_
  refine q_getI d237_1 (fs10_357 237 rfl) rfl (lt_w1 rfl) sh260 ?_
  refine q_if_eq (tgt := 8) d237_4 rfl (fun h1t => ?_) (fun h1f => ?_)
  ·
    exact r_sub (L' := [some (.ref 260), none]) ⟨rfl, trivial⟩ (v1 h1t)
  ·
    exact q_ret d237_7 rfl (Nat.le_refl _) (Nat.le_refl _) (v2 h1f)

theorem c237w {I : Nat → Nat → Int32} {D : Nat → Nat → UInt64} {R : Nat → Nat → Option Nat} {Q : j_Po} {d : Nat} (hw : I 260 46 = 1) (hq : Q none w1 (I, D, RR R)) : j_Call d 237 [.ref 260] w1 (I, D, RR R) 0 0 Q :=
  r237w hw (Nat.zero_le _) (fun h => absurd (hw.symm.trans h) (by decide)) (fun _ => hq)
set_option maxRecDepth 10000 in
set_option maxHeartbeats 4000000 in
theorem r236v {d : Nat} {I : Nat → Nat → Int32} {D : Nat → Nat → UInt64} {R : Nat → Nat → Option Nat} {Q : j_Po}  (hW : I 260 46 = 1) (hd : 1 ≤ d)
    (v1 : I 260 46 = 1)
    (v2 : Q none w1 (I, D, RR R)) : j_W 236 d 0 0 0 0 4 [some (.ref 260), none] [] w1 (I, D, RR R) Q := by
  refine q_aload_n d236_4 rfl ?_
  refine q_bipush (v := 42) (by decide) d236_5 ?_
  refine q_invV (o := 260) (ci := 10) (av := [.int 42]) (rest := []) (d' := 0) (mc' := 0) (ms' := 0) d236_7 (cv10_418 236 rfl) rfl (by decide) rfl rfl (by omega) (Nat.le_of_ble_eq_true rfl) (Nat.le_of_ble_eq_true rfl) (lt_w1 rfl) sh260 (Nat.le_refl _) (Nat.le_refl _) ?_
  refine c241w (x := 42) v1 ?_
  show j_W 236 d 0 0 0 0 10 [some (.ref 260), none] [.int 0] w1 (I, D, RR R) Q
  refine q_if_ne (tgt := 31) d236_10 rfl (fun h => absurd h (by decide)) (fun _ => ?_)
  refine q_aload_n d236_13 rfl ?_
  refine q_bipush (v := 47) (by decide) d236_14 ?_
  refine q_invV (o := 260) (ci := 10) (av := [.int 47]) (rest := []) (d' := 0) (mc' := 0) (ms' := 0) d236_16 (cv10_418 236 rfl) rfl (by decide) rfl rfl (by omega) (Nat.le_of_ble_eq_true rfl) (Nat.le_of_ble_eq_true rfl) (lt_w1 rfl) sh260 (Nat.le_refl _) (Nat.le_refl _) ?_
  refine c241w (x := 47) v1 ?_
  show j_W 236 d 0 0 0 0 19 [some (.ref 260), none] [.int 0] w1 (I, D, RR R) Q
  refine q_if_ne (tgt := 31) d236_19 rfl (fun h => absurd h (by decide)) (fun _ => ?_)
  refine q_aload_n d236_22 rfl ?_
  refine q_bipush (v := 37) (by decide) d236_23 ?_
  refine q_invV (o := 260) (ci := 10) (av := [.int 37]) (rest := []) (d' := 0) (mc' := 0) (ms' := 0) d236_25 (cv10_418 236 rfl) rfl (by decide) rfl rfl (by omega) (Nat.le_of_ble_eq_true rfl) (Nat.le_of_ble_eq_true rfl) (lt_w1 rfl) sh260 (Nat.le_refl _) (Nat.le_refl _) ?_
  refine c241w (x := 37) v1 ?_
  show j_W 236 d 0 0 0 0 28 [some (.ref 260), none] [.int 0] w1 (I, D, RR R) Q
  refine q_if_eq (tgt := 81) d236_28 rfl (fun _ => ?_) (fun h => absurd h (by decide))
  exact q_ret d236_81 rfl (Nat.le_refl _) (Nat.le_refl _) v2

set_option maxRecDepth 10000 in
set_option maxHeartbeats 4000000 in
theorem r236w {d : Nat} {I : Nat → Nat → Int32} {D : Nat → Nat → UInt64} {R : Nat → Nat → Option Nat} {Q : j_Po}  (hW : I 260 46 = 1) (hd : 1 ≤ d)
    (v1 : I 260 46 = 1)
    (v2 : Q none w1 (I, D, RR R)) : j_Call d 236 [.ref 260] w1 (I, D, RR R) 0 0 Q := by
  refine q_enter (L := [some (.ref 260), none]) j_m236 (Nat.le_of_ble_eq_true rfl) rfl ?_
  refine q_aload_n d236_0 rfl ?_
  refine q_invV (o := 260) (ci := 10) (av := []) (rest := []) (d' := 0) (mc' := 0) (ms' := 0) d236_1 (cv10_435 236 rfl) rfl (by decide) rfl rfl (by omega) (Nat.le_of_ble_eq_true rfl) (Nat.le_of_ble_eq_true rfl) (lt_w1 rfl) sh260 (Nat.le_refl _) (Nat.le_refl _) ?_
  refine c237w v1 ?_
  show j_W 236 d 0 0 0 0 4 [some (.ref 260), none] [] w1 (I, D, RR R) Q
  refine q_aload_n d236_4 rfl ?_
  refine q_bipush (v := 42) (by decide) d236_5 ?_
  refine q_invV (o := 260) (ci := 10) (av := [.int 42]) (rest := []) (d' := 0) (mc' := 0) (ms' := 0) d236_7 (cv10_418 236 rfl) rfl (by decide) rfl rfl (by omega) (Nat.le_of_ble_eq_true rfl) (Nat.le_of_ble_eq_true rfl) (lt_w1 rfl) sh260 (Nat.le_refl _) (Nat.le_refl _) ?_
  refine c241w (x := 42) v1 ?_
  show j_W 236 d 0 0 0 0 10 [some (.ref 260), none] [.int 0] w1 (I, D, RR R) Q
  refine q_if_ne (tgt := 31) d236_10 rfl (fun h => absurd h (by decide)) (fun _ => ?_)
  refine q_aload_n d236_13 rfl ?_
  refine q_bipush (v := 47) (by decide) d236_14 ?_
  refine q_invV (o := 260) (ci := 10) (av := [.int 47]) (rest := []) (d' := 0) (mc' := 0) (ms' := 0) d236_16 (cv10_418 236 rfl) rfl (by decide) rfl rfl (by omega) (Nat.le_of_ble_eq_true rfl) (Nat.le_of_ble_eq_true rfl) (lt_w1 rfl) sh260 (Nat.le_refl _) (Nat.le_refl _) ?_
  refine c241w (x := 47) v1 ?_
  show j_W 236 d 0 0 0 0 19 [some (.ref 260), none] [.int 0] w1 (I, D, RR R) Q
  refine q_if_ne (tgt := 31) d236_19 rfl (fun h => absurd h (by decide)) (fun _ => ?_)
  refine q_aload_n d236_22 rfl ?_
  refine q_bipush (v := 37) (by decide) d236_23 ?_
  refine q_invV (o := 260) (ci := 10) (av := [.int 37]) (rest := []) (d' := 0) (mc' := 0) (ms' := 0) d236_25 (cv10_418 236 rfl) rfl (by decide) rfl rfl (by omega) (Nat.le_of_ble_eq_true rfl) (Nat.le_of_ble_eq_true rfl) (lt_w1 rfl) sh260 (Nat.le_refl _) (Nat.le_refl _) ?_
  refine c241w (x := 37) v1 ?_
  show j_W 236 d 0 0 0 0 28 [some (.ref 260), none] [.int 0] w1 (I, D, RR R) Q
  refine q_if_eq (tgt := 81) d236_28 rfl (fun _ => ?_) (fun h => absurd h (by decide))
  exact q_ret d236_81 rfl (Nat.le_refl _) (Nat.le_refl _) v2

set_option maxRecDepth 10000 in
set_option maxHeartbeats 4000000 in
theorem r236m {d : Nat} {I : Nat → Nat → Int32} {D : Nat → Nat → UInt64} {R : Nat → Nat → Option Nat} {Q : j_Po} {g : Nat} (hW : I 260 46 = 1) (hd : 1 ≤ d)
    (v1 : I 260 46 = 1)
    (v2 : j_W 236 d 0 0 0 0 4 [some (.ref 260), none] [] w1 (I, D, RR R) Q) : j_W 236 d 0 0 0 0 73 [some (.ref 260), some (.int (nI g))] [] w1 (I, D, RR R) Q := by
  refine q_aload_n d236_73 rfl ?_
  refine q_iload_n d236_74 rfl ?_
  refine q_invV (o := 260) (ci := 10) (av := [.int (nI g)]) (rest := []) (d' := 0) (mc' := 0) (ms' := 0) d236_75 (cv10_429 236 rfl) rfl (by decide) rfl rfl (by omega) (Nat.le_of_ble_eq_true rfl) (Nat.le_of_ble_eq_true rfl) (lt_w1 rfl) sh260 (Nat.le_refl _) (Nat.le_refl _) ?_
  refine c238w v1 ?_
  show j_W 236 d 0 0 0 0 78 [some (.ref 260), some (.int (nI g))] [] w1 (I, D, RR R) Q
  refine q_goto (tgt := 4) d236_78 rfl ?_
  exact r_sub (L' := [some (.ref 260), none]) ⟨rfl, trivial⟩ v2

theorem c236w {I : Nat → Nat → Int32} {D : Nat → Nat → UInt64} {R : Nat → Nat → Option Nat} {Q : j_Po} {d : Nat} (hw : I 260 46 = 1) (hd : 1 ≤ d) (hq : Q none w1 (I, D, RR R)) : j_Call d 236 [.ref 260] w1 (I, D, RR R) 0 0 Q :=
  r236w hw hd hw hq
set_option maxRecDepth 10000 in
set_option maxHeartbeats 4000000 in
theorem r235v {d : Nat} {I : Nat → Nat → Int32} {D : Nat → Nat → UInt64} {R : Nat → Nat → Option Nat} {Q : j_Po}  (hW : I 260 46 = 1) (hd : 1 ≤ d)
    (v1 : I 260 46 = 1)
    (v2 : Q none w1 (I, D, RR R)) : j_W 235 d 0 0 0 0 4 [some (.ref 260), none] [] w1 (I, D, RR R) Q := by
  refine q_aload_n d235_4 rfl ?_
  refine q_bipush (v := 43) (by decide) d235_5 ?_
  refine q_invV (o := 260) (ci := 10) (av := [.int 43]) (rest := []) (d' := 0) (mc' := 0) (ms' := 0) d235_7 (cv10_418 235 rfl) rfl (by decide) rfl rfl (by omega) (Nat.le_of_ble_eq_true rfl) (Nat.le_of_ble_eq_true rfl) (lt_w1 rfl) sh260 (Nat.le_refl _) (Nat.le_refl _) ?_
  refine c241w (x := 43) v1 ?_
  show j_W 235 d 0 0 0 0 10 [some (.ref 260), none] [.int 0] w1 (I, D, RR R) Q
  refine q_if_ne (tgt := 22) d235_10 rfl (fun h => absurd h (by decide)) (fun _ => ?_)
  refine q_aload_n d235_13 rfl ?_
  refine q_bipush (v := 45) (by decide) d235_14 ?_
  refine q_invV (o := 260) (ci := 10) (av := [.int 45]) (rest := []) (d' := 0) (mc' := 0) (ms' := 0) d235_16 (cv10_418 235 rfl) rfl (by decide) rfl rfl (by omega) (Nat.le_of_ble_eq_true rfl) (Nat.le_of_ble_eq_true rfl) (lt_w1 rfl) sh260 (Nat.le_refl _) (Nat.le_refl _) ?_
  refine c241w (x := 45) v1 ?_
  show j_W 235 d 0 0 0 0 19 [some (.ref 260), none] [.int 0] w1 (I, D, RR R) Q
  refine q_if_eq (tgt := 57) d235_19 rfl (fun _ => ?_) (fun h => absurd h (by decide))
  exact q_ret d235_57 rfl (Nat.le_refl _) (Nat.le_refl _) v2

set_option maxRecDepth 10000 in
set_option maxHeartbeats 4000000 in
theorem r235w {d : Nat} {I : Nat → Nat → Int32} {D : Nat → Nat → UInt64} {R : Nat → Nat → Option Nat} {Q : j_Po}  (hW : I 260 46 = 1) (hd : 2 ≤ d)
    (v1 : I 260 46 = 1)
    (v2 : 1 ≤ 1)
    (v3 : Q none w1 (I, D, RR R)) : j_Call d 235 [.ref 260] w1 (I, D, RR R) 0 0 Q := by
  refine q_enter (L := [some (.ref 260), none]) j_m235 (Nat.le_of_ble_eq_true rfl) rfl ?_
  refine q_aload_n d235_0 rfl ?_
  refine q_invV (o := 260) (ci := 10) (av := []) (rest := []) (d' := 1) (mc' := 0) (ms' := 0) d235_1 (cv10_432 235 rfl) rfl (by decide) rfl rfl (by omega) (Nat.le_of_ble_eq_true rfl) (Nat.le_of_ble_eq_true rfl) (lt_w1 rfl) sh260 (Nat.le_refl _) (Nat.le_refl _) ?_
  refine c236w v1 v2 ?_
  show j_W 235 d 0 0 0 0 4 [some (.ref 260), none] [] w1 (I, D, RR R) Q
  refine q_aload_n d235_4 rfl ?_
  refine q_bipush (v := 43) (by decide) d235_5 ?_
  refine q_invV (o := 260) (ci := 10) (av := [.int 43]) (rest := []) (d' := 0) (mc' := 0) (ms' := 0) d235_7 (cv10_418 235 rfl) rfl (by decide) rfl rfl (by omega) (Nat.le_of_ble_eq_true rfl) (Nat.le_of_ble_eq_true rfl) (lt_w1 rfl) sh260 (Nat.le_refl _) (Nat.le_refl _) ?_
  refine c241w (x := 43) v1 ?_
  show j_W 235 d 0 0 0 0 10 [some (.ref 260), none] [.int 0] w1 (I, D, RR R) Q
  refine q_if_ne (tgt := 22) d235_10 rfl (fun h => absurd h (by decide)) (fun _ => ?_)
  refine q_aload_n d235_13 rfl ?_
  refine q_bipush (v := 45) (by decide) d235_14 ?_
  refine q_invV (o := 260) (ci := 10) (av := [.int 45]) (rest := []) (d' := 0) (mc' := 0) (ms' := 0) d235_16 (cv10_418 235 rfl) rfl (by decide) rfl rfl (by omega) (Nat.le_of_ble_eq_true rfl) (Nat.le_of_ble_eq_true rfl) (lt_w1 rfl) sh260 (Nat.le_refl _) (Nat.le_refl _) ?_
  refine c241w (x := 45) v1 ?_
  show j_W 235 d 0 0 0 0 19 [some (.ref 260), none] [.int 0] w1 (I, D, RR R) Q
  refine q_if_eq (tgt := 57) d235_19 rfl (fun _ => ?_) (fun h => absurd h (by decide))
  exact q_ret d235_57 rfl (Nat.le_refl _) (Nat.le_refl _) v3

set_option maxRecDepth 10000 in
set_option maxHeartbeats 4000000 in
theorem r235m {d : Nat} {I : Nat → Nat → Int32} {D : Nat → Nat → UInt64} {R : Nat → Nat → Option Nat} {Q : j_Po} {g : Nat} (hW : I 260 46 = 1) (hd : 1 ≤ d)
    (v1 : I 260 46 = 1)
    (v2 : j_W 235 d 0 0 0 0 4 [some (.ref 260), none] [] w1 (I, D, RR R) Q) : j_W 235 d 0 0 0 0 49 [some (.ref 260), some (.int (nI g))] [] w1 (I, D, RR R) Q := by
  refine q_aload_n d235_49 rfl ?_
  refine q_iload_n d235_50 rfl ?_
  refine q_invV (o := 260) (ci := 10) (av := [.int (nI g)]) (rest := []) (d' := 0) (mc' := 0) (ms' := 0) d235_51 (cv10_429 235 rfl) rfl (by decide) rfl rfl (by omega) (Nat.le_of_ble_eq_true rfl) (Nat.le_of_ble_eq_true rfl) (lt_w1 rfl) sh260 (Nat.le_refl _) (Nat.le_refl _) ?_
  refine c238w v1 ?_
  show j_W 235 d 0 0 0 0 54 [some (.ref 260), some (.int (nI g))] [] w1 (I, D, RR R) Q
  refine q_goto (tgt := 4) d235_54 rfl ?_
  exact r_sub (L' := [some (.ref 260), none]) ⟨rfl, trivial⟩ v2

theorem c235w {I : Nat → Nat → Int32} {D : Nat → Nat → UInt64} {R : Nat → Nat → Option Nat} {Q : j_Po} {d : Nat} (hw : I 260 46 = 1) (hd : 2 ≤ d) (hq : Q none w1 (I, D, RR R)) : j_Call d 235 [.ref 260] w1 (I, D, RR R) 0 0 Q :=
  r235w hw hd hw (by decide) hq
set_option maxRecDepth 10000 in
set_option maxHeartbeats 4000000 in
theorem r234v {d : Nat} {I : Nat → Nat → Int32} {D : Nat → Nat → UInt64} {R : Nat → Nat → Option Nat} {Q : j_Po}  (hW : I 260 46 = 1) (hd : 1 ≤ d)
    (v1 : I 260 46 = 1)
    (v2 : Q none w1 (I, D, RR R)) : j_W 234 d 0 0 0 0 4 [some (.ref 260), none] [] w1 (I, D, RR R) Q := by
  refine q_aload_n d234_4 rfl ?_
  refine q_bipush (v := 60) (by decide) d234_5 ?_
  refine q_invV (o := 260) (ci := 10) (av := [.int 60]) (rest := []) (d' := 0) (mc' := 0) (ms' := 0) d234_7 (cv10_418 234 rfl) rfl (by decide) rfl rfl (by omega) (Nat.le_of_ble_eq_true rfl) (Nat.le_of_ble_eq_true rfl) (lt_w1 rfl) sh260 (Nat.le_refl _) (Nat.le_refl _) ?_
  refine c241w (x := 60) v1 ?_
  show j_W 234 d 0 0 0 0 10 [some (.ref 260), none] [.int 0] w1 (I, D, RR R) Q
  refine q_if_ne (tgt := 23) d234_10 rfl (fun h => absurd h (by decide)) (fun _ => ?_)
  refine q_aload_n d234_13 rfl ?_
  refine q_bipush (v := 61) (by decide) d234_14 ?_
  refine q_invV (o := 260) (ci := 10) (av := [.int 61]) (rest := []) (d' := 0) (mc' := 0) (ms' := 0) d234_16 (cv10_418 234 rfl) rfl (by decide) rfl rfl (by omega) (Nat.le_of_ble_eq_true rfl) (Nat.le_of_ble_eq_true rfl) (lt_w1 rfl) sh260 (Nat.le_refl _) (Nat.le_refl _) ?_
  refine c241w (x := 61) v1 ?_
  show j_W 234 d 0 0 0 0 19 [some (.ref 260), none] [.int 0] w1 (I, D, RR R) Q
  refine q_if_ne (tgt := 23) d234_19 rfl (fun h => absurd h (by decide)) (fun _ => ?_)
  exact q_ret d234_22 rfl (Nat.le_refl _) (Nat.le_refl _) v2

set_option maxRecDepth 10000 in
set_option maxHeartbeats 4000000 in
theorem r234w {d : Nat} {I : Nat → Nat → Int32} {D : Nat → Nat → UInt64} {R : Nat → Nat → Option Nat} {Q : j_Po}  (hW : I 260 46 = 1) (hd : 3 ≤ d)
    (v1 : I 260 46 = 1)
    (v2 : 2 ≤ 2)
    (v3 : Q none w1 (I, D, RR R)) : j_Call d 234 [.ref 260] w1 (I, D, RR R) 0 0 Q := by
  refine q_enter (L := [some (.ref 260), none]) j_m234 (Nat.le_of_ble_eq_true rfl) rfl ?_
  refine q_aload_n d234_0 rfl ?_
  refine q_invV (o := 260) (ci := 10) (av := []) (rest := []) (d' := 2) (mc' := 0) (ms' := 0) d234_1 (cv10_427 234 rfl) rfl (by decide) rfl rfl (by omega) (Nat.le_of_ble_eq_true rfl) (Nat.le_of_ble_eq_true rfl) (lt_w1 rfl) sh260 (Nat.le_refl _) (Nat.le_refl _) ?_
  refine c235w v1 v2 ?_
  show j_W 234 d 0 0 0 0 4 [some (.ref 260), none] [] w1 (I, D, RR R) Q
  refine q_aload_n d234_4 rfl ?_
  refine q_bipush (v := 60) (by decide) d234_5 ?_
  refine q_invV (o := 260) (ci := 10) (av := [.int 60]) (rest := []) (d' := 0) (mc' := 0) (ms' := 0) d234_7 (cv10_418 234 rfl) rfl (by decide) rfl rfl (by omega) (Nat.le_of_ble_eq_true rfl) (Nat.le_of_ble_eq_true rfl) (lt_w1 rfl) sh260 (Nat.le_refl _) (Nat.le_refl _) ?_
  refine c241w (x := 60) v1 ?_
  show j_W 234 d 0 0 0 0 10 [some (.ref 260), none] [.int 0] w1 (I, D, RR R) Q
  refine q_if_ne (tgt := 23) d234_10 rfl (fun h => absurd h (by decide)) (fun _ => ?_)
  refine q_aload_n d234_13 rfl ?_
  refine q_bipush (v := 61) (by decide) d234_14 ?_
  refine q_invV (o := 260) (ci := 10) (av := [.int 61]) (rest := []) (d' := 0) (mc' := 0) (ms' := 0) d234_16 (cv10_418 234 rfl) rfl (by decide) rfl rfl (by omega) (Nat.le_of_ble_eq_true rfl) (Nat.le_of_ble_eq_true rfl) (lt_w1 rfl) sh260 (Nat.le_refl _) (Nat.le_refl _) ?_
  refine c241w (x := 61) v1 ?_
  show j_W 234 d 0 0 0 0 19 [some (.ref 260), none] [.int 0] w1 (I, D, RR R) Q
  refine q_if_ne (tgt := 23) d234_19 rfl (fun h => absurd h (by decide)) (fun _ => ?_)
  exact q_ret d234_22 rfl (Nat.le_refl _) (Nat.le_refl _) v3

set_option maxRecDepth 10000 in
set_option maxHeartbeats 4000000 in
theorem r234m {d : Nat} {I : Nat → Nat → Int32} {D : Nat → Nat → UInt64} {R : Nat → Nat → Option Nat} {Q : j_Po} {g : Nat} (hW : I 260 46 = 1) (hd : 1 ≤ d)
    (v1 : I 260 46 = 1)
    (v2 : Q none w1 (I, D, RR R)) : j_W 234 d 0 0 0 0 50 [some (.ref 260), some (.int (nI g))] [] w1 (I, D, RR R) Q := by
  refine q_aload_n d234_50 rfl ?_
  refine q_iload_n d234_51 rfl ?_
  refine q_invV (o := 260) (ci := 10) (av := [.int (nI g)]) (rest := []) (d' := 0) (mc' := 0) (ms' := 0) d234_52 (cv10_429 234 rfl) rfl (by decide) rfl rfl (by omega) (Nat.le_of_ble_eq_true rfl) (Nat.le_of_ble_eq_true rfl) (lt_w1 rfl) sh260 (Nat.le_refl _) (Nat.le_refl _) ?_
  refine c238w v1 ?_
  show j_W 234 d 0 0 0 0 55 [some (.ref 260), some (.int (nI g))] [] w1 (I, D, RR R) Q
  exact q_ret d234_55 rfl (Nat.le_refl _) (Nat.le_refl _) v2

theorem c234w {I : Nat → Nat → Int32} {D : Nat → Nat → UInt64} {R : Nat → Nat → Option Nat} {Q : j_Po} {d : Nat} (hw : I 260 46 = 1) (hd : 3 ≤ d) (hq : Q none w1 (I, D, RR R)) : j_Call d 234 [.ref 260] w1 (I, D, RR R) 0 0 Q :=
  r234w hw hd hw (by decide) hq
set_option maxRecDepth 10000 in
set_option maxHeartbeats 4000000 in
theorem r243w {d : Nat} {I : Nat → Nat → Int32} {D : Nat → Nat → UInt64} {R : Nat → Nat → Option Nat} {Q : j_Po} {c : Nat} (hW : I 260 46 = 1) (hd : 1 ≤ d)
    (v1 : I 260 46 = 1)
    (v2 : Q none w1 ((j_u I 260 46 1), D, RR R)) : j_Call d 243 [.ref 260, .int (nI c)] w1 (I, D, RR R) 0 0 Q := by
  refine q_enter (L := [some (.ref 260), some (.int (nI c))]) j_m243 (Nat.le_of_ble_eq_true rfl) rfl ?_
  refine q_aload_n d243_0 rfl ?_
  refine q_iload_n d243_1 rfl ?_
  refine q_invV (o := 260) (ci := 10) (av := [.int (nI c)]) (rest := []) (d' := 0) (mc' := 0) (ms' := 0) d243_2 (cv10_418 243 rfl) rfl (by decide) rfl rfl (by omega) (Nat.le_of_ble_eq_true rfl) (Nat.le_of_ble_eq_true rfl) (lt_w1 rfl) sh260 (Nat.le_refl _) (Nat.le_refl _) ?_
  refine c241w (x := c) v1 ?_
  show j_W 243 d 0 0 0 0 5 [some (.ref 260), some (.int (nI c))] [.int 0] w1 (I, D, RR R) Q
  refine q_if_eq (tgt := 15) d243_5 rfl (fun _ => ?_) (fun h => absurd h (by decide))
  refine q_aload_n d243_15 rfl ?_
  refine q_iconst (v := 1) (by decide) d243_16 ?_
  refine q_putZ d243_17 (fs10_357 243 rfl) (Or.inl rfl) rfl (Or.inr rfl) (lt_w1 rfl) sh260 ?_
  exact q_ret d243_20 rfl (Nat.le_refl _) (Nat.le_refl _) v2

theorem ju_id {I : Nat → Nat → Int32} {o k : Nat} {x : Int32} (h : I o k = x) : j_u I o k x = I := by
  funext a b
  by_cases e : a = o
  · subst e
    by_cases e2 : b = k
    · subst e2; rw [j_u_same]; exact h.symm
    · rw [j_u_k _ _ e2]
  · rw [j_u_o _ _ _ e]
theorem c243w {I : Nat → Nat → Int32} {D : Nat → Nat → UInt64} {R : Nat → Nat → Option Nat} {Q : j_Po} {d : Nat} {x : Nat} (hw : I 260 46 = 1) (hd : 1 ≤ d) (hq : Q none w1 (I, D, RR R)) : j_Call d 243 [.ref 260, .int (nI x)] w1 (I, D, RR R) 0 0 Q :=
  r243w hw hd hw (by rw [ju_id hw]; exact hq)
set_option maxRecDepth 10000 in
set_option maxHeartbeats 4000000 in
theorem r240w {d : Nat} {I : Nat → Nat → Int32} {D : Nat → Nat → UInt64} {R : Nat → Nat → Option Nat} {Q : j_Po} {q : Nat} (hW : I 260 46 = 1) (hd : 1 ≤ d)
    (v1 : I 260 46 = 1)
    (v2 : Q none w1 ((j_u I 260 46 1), D, RR R)) : j_Call d 240 [.ref 260, .int (nI q)] w1 (I, D, RR R) 0 0 Q := by
  refine q_enter (L := [some (.ref 260), some (.int (nI q)), none]) j_m240 (Nat.le_of_ble_eq_true rfl) rfl ?_
  refine q_aload_n d240_0 rfl ?_
  refine q_bipush (v := 40) (by decide) d240_1 ?_
  refine q_invV (o := 260) (ci := 10) (av := [.int 40]) (rest := []) (d' := 0) (mc' := 0) (ms' := 0) d240_3 (cv10_418 240 rfl) rfl (by decide) rfl rfl (by omega) (Nat.le_of_ble_eq_true rfl) (Nat.le_of_ble_eq_true rfl) (lt_w1 rfl) sh260 (Nat.le_refl _) (Nat.le_refl _) ?_
  refine c241w (x := 40) v1 ?_
  show j_W 240 d 0 0 0 0 6 [some (.ref 260), some (.int (nI q)), none] [.int 0] w1 (I, D, RR R) Q
  refine q_if_ne (tgt := 15) d240_6 rfl (fun h => absurd h (by decide)) (fun _ => ?_)
  refine q_aload_n d240_9 rfl ?_
  refine q_iconst (v := 1) (by decide) d240_10 ?_
  refine q_putZ d240_11 (fs10_357 240 rfl) (Or.inl rfl) rfl (Or.inr rfl) (lt_w1 rfl) sh260 ?_
  exact q_ret d240_14 rfl (Nat.le_refl _) (Nat.le_refl _) v2

set_option maxRecDepth 10000 in
set_option maxHeartbeats 4000000 in
theorem r240v {d : Nat} {I : Nat → Nat → Int32} {D : Nat → Nat → UInt64} {R : Nat → Nat → Option Nat} {Q : j_Po} {q i : Nat} (hW : I 260 46 = 1) (hq3 : q ≤ 3) (hi3 : i ≤ q) (hd : 4 ≤ d)
    (v1 : (q ≤ i) → I 260 46 = 1)
    (v2 : (q ≤ i) → Q none w1 ((j_u I 260 46 1), D, RR R))
    (v3 : (¬ q ≤ i) → ((nI i) ≤ 0) → I 260 46 = 1)
    (v4 : (¬ q ≤ i) → ((nI i) ≤ 0) → 3 ≤ 3)
    (v5 : (¬ q ≤ i) → ((nI i) ≤ 0) → j_W 240 d 0 0 0 0 44 [some (.ref 260), some (.int (nI q)), some (.int (nI i))] [] w1 (I, D, RR R) Q)
    (v6 : (¬ q ≤ i) → (¬ (nI i) ≤ 0) → I 260 46 = 1)
    (v7 : (¬ q ≤ i) → (¬ (nI i) ≤ 0) → 1 ≤ 1)
    (v8 : (¬ q ≤ i) → (¬ (nI i) ≤ 0) → 3 ≤ 3)
    (v9 : (¬ q ≤ i) → (¬ (nI i) ≤ 0) → j_W 240 d 0 0 0 0 44 [some (.ref 260), some (.int (nI q)), some (.int (nI i))] [] w1 (I, D, RR R) Q) : j_W 240 d 0 0 0 0 25 [some (.ref 260), some (.int (nI q)), some (.int (nI i))] [] w1 (I, D, RR R) Q := by
  refine q_iload_n d240_25 rfl ?_
  refine q_iload_n d240_26 rfl ?_
  refine q_icmp_ge (tgt := 50) d240_27 rfl (fun h1t => ?_) (fun h1f => ?_)
  ·
    have h1tc : q ≤ i := (nI_leI (by omega) (by omega)).mp h1t
    refine q_aload_n d240_50 rfl ?_
    refine q_bipush (v := 41) (by decide) d240_51 ?_
    refine q_invV (o := 260) (ci := 10) (av := [.int 41]) (rest := []) (d' := 0) (mc' := 0) (ms' := 0) d240_53 (cv10_418 240 rfl) rfl (by decide) rfl rfl (by omega) (Nat.le_of_ble_eq_true rfl) (Nat.le_of_ble_eq_true rfl) (lt_w1 rfl) sh260 (Nat.le_refl _) (Nat.le_refl _) ?_
    refine c241w (x := 41) (v1 h1tc) ?_
    show j_W 240 d 0 0 0 0 56 [some (.ref 260), some (.int (nI q)), some (.int (nI i))] [.int 0] w1 (I, D, RR R) Q
    refine q_if_ne (tgt := 65) d240_56 rfl (fun h => absurd h (by decide)) (fun _ => ?_)
    refine q_aload_n d240_59 rfl ?_
    refine q_iconst (v := 1) (by decide) d240_60 ?_
    refine q_putZ d240_61 (fs10_357 240 rfl) (Or.inl rfl) rfl (Or.inr rfl) (lt_w1 rfl) sh260 ?_
    exact q_ret d240_64 rfl (Nat.le_refl _) (Nat.le_refl _) (v2 h1tc)
  ·
    have h1fc : ¬ q ≤ i := mt (nI_leI (by omega) (by omega)).mpr h1f
    refine q_iload_n d240_30 rfl ?_
    refine q_if_le (tgt := 40) d240_31 rfl (fun h2t => ?_) (fun h2f => ?_)
    ·
      refine q_aload_n d240_40 rfl ?_
      refine q_invV (o := 260) (ci := 10) (av := []) (rest := []) (d' := 3) (mc' := 0) (ms' := 0) d240_41 (cv10_447 240 rfl) rfl (by decide) rfl rfl (by omega) (Nat.le_of_ble_eq_true rfl) (Nat.le_of_ble_eq_true rfl) (lt_w1 rfl) sh260 (Nat.le_refl _) (Nat.le_refl _) ?_
      refine c234w (v3 h1fc h2t) (v4 h1fc h2t) ?_
      show j_W 240 d 0 0 0 0 44 [some (.ref 260), some (.int (nI q)), some (.int (nI i))] [] w1 (I, D, RR R) Q
      exact r_sub (L' := [some (.ref 260), some (.int (nI q)), some (.int (nI i))]) ⟨rfl, rfl, rfl, trivial⟩ (v5 h1fc h2t)
    ·
      refine q_aload_n d240_34 rfl ?_
      refine q_bipush (v := 44) (by decide) d240_35 ?_
      refine q_invV (o := 260) (ci := 10) (av := [.int 44]) (rest := []) (d' := 1) (mc' := 0) (ms' := 0) d240_37 (cv10_444 240 rfl) rfl (by decide) rfl rfl (by omega) (Nat.le_of_ble_eq_true rfl) (Nat.le_of_ble_eq_true rfl) (lt_w1 rfl) sh260 (Nat.le_refl _) (Nat.le_refl _) ?_
      refine c243w (x := 44) (v6 h1fc h2f) (v7 h1fc h2f) ?_
      show j_W 240 d 0 0 0 0 40 [some (.ref 260), some (.int (nI q)), some (.int (nI i))] [] w1 (I, D, RR R) Q
      refine q_aload_n d240_40 rfl ?_
      refine q_invV (o := 260) (ci := 10) (av := []) (rest := []) (d' := 3) (mc' := 0) (ms' := 0) d240_41 (cv10_447 240 rfl) rfl (by decide) rfl rfl (by omega) (Nat.le_of_ble_eq_true rfl) (Nat.le_of_ble_eq_true rfl) (lt_w1 rfl) sh260 (Nat.le_refl _) (Nat.le_refl _) ?_
      refine c234w (v6 h1fc h2f) (v8 h1fc h2f) ?_
      show j_W 240 d 0 0 0 0 44 [some (.ref 260), some (.int (nI q)), some (.int (nI i))] [] w1 (I, D, RR R) Q
      exact r_sub (L' := [some (.ref 260), some (.int (nI q)), some (.int (nI i))]) ⟨rfl, rfl, rfl, trivial⟩ (v9 h1fc h2f)

set_option maxRecDepth 10000 in
set_option maxHeartbeats 4000000 in
theorem r240d {d : Nat} {I : Nat → Nat → Int32} {D : Nat → Nat → UInt64} {R : Nat → Nat → Option Nat} {Q : j_Po} {q i : Nat} (hq3 : q ≤ 3) (hi3 : i < q) (hd : 0 ≤ d)
    (v1 : j_W 240 d 0 0 0 0 25 [some (.ref 260), some (.int (nI q)), some (.int (nI (i + 1)))] [] w1 (I, D, RR R) Q) : j_W 240 d 0 0 0 0 44 [some (.ref 260), some (.int (nI q)), some (.int (nI i))] [] w1 (I, D, RR R) Q := by
  refine q_iinc (L' := [some (.ref 260), some (.int (nI q)), some (.int (nI (i + 1)))]) (v := (nI (i + 1))) d240_44 rfl (nI_inc _) rfl ?_
  refine q_goto (tgt := 25) d240_47 rfl ?_
  exact r_sub (L' := [some (.ref 260), some (.int (nI q)), some (.int (nI (i + 1)))]) ⟨rfl, rfl, rfl, trivial⟩ v1

set_option maxRecDepth 10000 in
set_option maxHeartbeats 4000000 in
theorem r239w {d : Nat} {I : Nat → Nat → Int32} {D : Nat → Nat → UInt64} {R : Nat → Nat → Option Nat} {Q : j_Po} {c : Nat} (hW : I 260 46 = 1) (hd : 0 ≤ d)
    (v1 : ((I 260 46) = 0) → j_W 239 d 0 0 0 0 8 [some (.ref 260), none] [] w1 (I, D, RR R) Q)
    (v2 : (¬ (I 260 46) = 0) → Q none w1 (I, D, RR R)) : j_Call d 239 [.ref 260, .int (nI c)] w1 (I, D, RR R) 0 0 Q := by
  refine q_enter (L := [some (.ref 260), some (.int (nI c))]) j_m239 (Nat.le_of_ble_eq_true rfl) rfl ?_
  refine q_aload_n d239_0 rfl ?_
  refine q_getI d239_1 (fs10_357 239 rfl) rfl (lt_w1 rfl) sh260 ?_
  refine q_if_eq (tgt := 8) d239_4 rfl (fun h1t => ?_) (fun h1f => ?_)
  ·
    exact r_sub (L' := [some (.ref 260), none]) ⟨rfl, trivial⟩ (v1 h1t)
  ·
    exact q_ret d239_7 rfl (Nat.le_refl _) (Nat.le_refl _) (v2 h1f)

set_option maxRecDepth 10000 in
set_option maxHeartbeats 4000000 in
theorem r237x {d : Nat} {I : Nat → Nat → Int32} {D : Nat → Nat → UInt64} {R : Nat → Nat → Option Nat} {Q : j_Po} {g : Nat} (hW : I 260 46 = 1) (hg : g < 8) (hd : 1 ≤ d)
    (v1 : (¬ g = 5) → (¬ g = 6) → I 260 46 = 1)
    (v2 : (¬ g = 5) → (¬ g = 6) → Q none w1 (I, D, RR R))
    (v3 : (¬ g = 5) → (g = 6) → I 260 46 = 1)
    (v4 : (¬ g = 5) → (g = 6) → Q none w1 (I, D, RR R))
    (v5 : (g = 5) → I 260 46 = 1)
    (v6 : (g = 5) → Q none w1 (I, D, RR R)) : j_W 237 d 0 0 0 0 172 [some (.ref 260), some (.int (nI g))] [] w1 (I, D, RR R) Q := by
  refine q_aload_n d237_172 rfl ?_
  refine q_iload_n d237_173 rfl ?_
  refine q_iconst (v := 5) (by decide) d237_174 ?_
  refine q_icmp_ne (tgt := 184) d237_175 rfl (fun h1t => ?_) (fun h1f => ?_)
  ·
    have h1tc : ¬ g = 5 := mt (nI_eqN (by omega) (by omega)).mpr h1t
    refine q_iload_n d237_184 rfl ?_
    refine q_bipush (v := 6) (by decide) d237_185 ?_
    refine q_icmp_ne (tgt := 196) d237_187 rfl (fun h2t => ?_) (fun h2f => ?_)
    ·
      have h2tc : ¬ g = 6 := mt (nI_eqN (by omega) (by omega)).mpr h2t
      refine q_sipush (v := 209) (by decide) d237_196 ?_
      refine q_invV (o := 260) (ci := 10) (av := [.int 209]) (rest := []) (d' := 0) (mc' := 0) (ms' := 0) d237_199 (cv10_429 237 rfl) rfl (by decide) rfl rfl (by omega) (Nat.le_of_ble_eq_true rfl) (Nat.le_of_ble_eq_true rfl) (lt_w1 rfl) sh260 (Nat.le_refl _) (Nat.le_refl _) ?_
      refine c238w (v1 h1tc h2tc) ?_
      show j_W 237 d 0 0 0 0 202 [some (.ref 260), some (.int (nI g))] [] w1 (I, D, RR R) Q
      refine q_goto (tgt := 268) d237_202 rfl ?_
      exact q_ret d237_268 rfl (Nat.le_refl _) (Nat.le_refl _) (v2 h1tc h2tc)
    ·
      have h2fc : g = 6 := (nI_eqN (by omega) (by omega)).mp h2f
      refine q_sipush (v := 208) (by decide) d237_190 ?_
      refine q_goto (tgt := 199) d237_193 rfl ?_
      refine q_invV (o := 260) (ci := 10) (av := [.int 208]) (rest := []) (d' := 0) (mc' := 0) (ms' := 0) d237_199 (cv10_429 237 rfl) rfl (by decide) rfl rfl (by omega) (Nat.le_of_ble_eq_true rfl) (Nat.le_of_ble_eq_true rfl) (lt_w1 rfl) sh260 (Nat.le_refl _) (Nat.le_refl _) ?_
      refine c238w (v3 h1tc h2fc) ?_
      show j_W 237 d 0 0 0 0 202 [some (.ref 260), some (.int (nI g))] [] w1 (I, D, RR R) Q
      refine q_goto (tgt := 268) d237_202 rfl ?_
      exact q_ret d237_268 rfl (Nat.le_refl _) (Nat.le_refl _) (v4 h1tc h2fc)
  ·
    have h1fc : g = 5 := (nI_eqN (by omega) (by omega)).mp h1f
    refine q_sipush (v := 210) (by decide) d237_178 ?_
    refine q_goto (tgt := 199) d237_181 rfl ?_
    refine q_invV (o := 260) (ci := 10) (av := [.int 210]) (rest := []) (d' := 0) (mc' := 0) (ms' := 0) d237_199 (cv10_429 237 rfl) rfl (by decide) rfl rfl (by omega) (Nat.le_of_ble_eq_true rfl) (Nat.le_of_ble_eq_true rfl) (lt_w1 rfl) sh260 (Nat.le_refl _) (Nat.le_refl _) ?_
    refine c238w (v5 h1fc) ?_
    show j_W 237 d 0 0 0 0 202 [some (.ref 260), some (.int (nI g))] [] w1 (I, D, RR R) Q
    refine q_goto (tgt := 268) d237_202 rfl ?_
    exact q_ret d237_268 rfl (Nat.le_refl _) (Nat.le_refl _) (v6 h1fc)

set_option maxRecDepth 10000 in
set_option maxHeartbeats 4000000 in
theorem r237y {d : Nat} {I : Nat → Nat → Int32} {D : Nat → Nat → UInt64} {R : Nat → Nat → Option Nat} {Q : j_Po}  (hW : I 260 46 = 1) (hd : 1 ≤ d)
    (v1 : (j_u I 260 45 ((I 260 45) - 1)) 260 46 = 1)
    (v2 : Q none w1 ((j_u I 260 45 ((I 260 45) - 1)), D, RR R)) : j_W 237 d 0 0 0 0 226 [some (.ref 260), none] [] w1 (I, D, RR R) Q := by
  refine q_aload_n d237_226 rfl ?_
  refine q_dup rfl d237_227 ?_
  refine q_getI d237_228 (fs10_438 237 rfl) rfl (lt_w1 rfl) sh260 ?_
  refine q_iconst (v := 1) (by decide) d237_231 ?_
  refine q_isub d237_232 ?_
  refine q_putI d237_233 (fs10_438 237 rfl) (Or.inl rfl) rfl (lt_w1 rfl) sh260 ?_
  refine q_aload_n d237_236 rfl ?_
  refine q_sipush (v := 200) (by decide) d237_237 ?_
  refine q_invV (o := 260) (ci := 10) (av := [.int 200]) (rest := []) (d' := 0) (mc' := 0) (ms' := 0) d237_240 (cv10_429 237 rfl) rfl (by decide) rfl rfl (by omega) (Nat.le_of_ble_eq_true rfl) (Nat.le_of_ble_eq_true rfl) (lt_w1 rfl) sh260 (Nat.le_refl _) (Nat.le_refl _) ?_
  refine c238w v1 ?_
  show j_W 237 d 0 0 0 0 243 [some (.ref 260), none] [] w1 ((j_u I 260 45 ((I 260 45) - 1)), D, RR R) Q
  refine q_goto (tgt := 268) d237_243 rfl ?_
  exact q_ret d237_268 rfl (Nat.le_refl _) (Nat.le_refl _) v2

set_option maxRecDepth 10000 in
set_option maxHeartbeats 4000000 in
theorem r236a {d : Nat} {I : Nat → Nat → Int32} {D : Nat → Nat → UInt64} {R : Nat → Nat → Option Nat} {Q : j_Po}  {T : Nat → Nat} {n : Nat} {s : PSt} {o : POut} {p : Nat} (hC : RKc T n R (8 + 5 * (4 - p)) p 237 [.ref 260] s o) (hd : (9 + 5 * (4 - p)) ≤ d)
    (v1 : okP n s)
    (v2 : pz s ≤ pb s)
    (v3 : tkK (ptk s))
    (v4 : RRs T n p s I D)
    (v5 : ∀ J1 : Nat → Nat → Int32, ∀ E2 : Nat → Nat → UInt64, (RRo T n p o J1 E2) → (RRg I D J1 E2) → j_W 236 d 0 0 0 0 4 [some (.ref 260), none] [] w1 (J1, E2, RR R) Q) : j_Call d 236 [.ref 260] w1 (I, D, RR R) 0 0 Q := by
  refine q_enter (L := [some (.ref 260), none]) j_m236 (Nat.le_of_ble_eq_true rfl) rfl ?_
  refine q_aload_n d236_0 rfl ?_
  refine q_invV (o := 260) (ci := 10) (av := []) (rest := []) (d' := (8 + 5 * (4 - p))) (mc' := 0) (ms' := 0) d236_1 (cv10_435 236 rfl) rfl (by decide) rfl rfl (by omega) (Nat.le_of_ble_eq_true rfl) (Nat.le_of_ble_eq_true rfl) (lt_w1 rfl) sh260 (Nat.le_refl _) (Nat.le_refl _) ?_
  refine hC _ _ _ _ (Nat.le_refl _) v1 v2 v3 v4 (fun J1 E2 h3 h4 => ?_)
  show j_W 236 d 0 0 0 0 4 [some (.ref 260), none] [] w1 (J1, E2, RR R) Q
  exact r_sub (L' := [some (.ref 260), none]) ⟨rfl, trivial⟩ (v5 J1 E2 h3 h4)

set_option maxRecDepth 10000 in
set_option maxHeartbeats 4000000 in
theorem r236g {d : Nat} {I : Nat → Nat → Int32} {D : Nat → Nat → UInt64} {R : Nat → Nat → Option Nat} {Q : j_Po}  {T : Nat → Nat} {n : Nat} {s : PSt} {p : Nat}  (hd : 1 ≤ d)
    (v1 : RRG T n p s I D)
    (v2 : 42 < 256)
    (v3 : ((ptk s).1 = 42) → ((ptk s).1 = 42) → j_W 236 d 0 0 0 0 65 [some (.ref 260), some (.int 203)] [] w1 (I, D, RR R) Q)
    (v4 : ((ptk s).1 = 42) → (¬ (ptk s).1 = 42) → 47 < 256)
    (v5 : ((ptk s).1 = 42) → (¬ (ptk s).1 = 42) → ((ptk s).1 = 47) → j_W 236 d 0 0 0 0 65 [some (.ref 260), some (.int 204)] [] w1 (I, D, RR R) Q)
    (v6 : ((ptk s).1 = 42) → (¬ (ptk s).1 = 42) → (¬ (ptk s).1 = 47) → j_W 236 d 0 0 0 0 65 [some (.ref 260), some (.int 205)] [] w1 (I, D, RR R) Q)
    (v7 : (¬ (ptk s).1 = 42) → 47 < 256)
    (v8 : (¬ (ptk s).1 = 42) → ((ptk s).1 = 47) → ((ptk s).1 = 42) → j_W 236 d 0 0 0 0 65 [some (.ref 260), some (.int 203)] [] w1 (I, D, RR R) Q)
    (v9 : (¬ (ptk s).1 = 42) → ((ptk s).1 = 47) → (¬ (ptk s).1 = 42) → ((ptk s).1 = 47) → j_W 236 d 0 0 0 0 65 [some (.ref 260), some (.int 204)] [] w1 (I, D, RR R) Q)
    (v10 : (¬ (ptk s).1 = 42) → ((ptk s).1 = 47) → (¬ (ptk s).1 = 42) → (¬ (ptk s).1 = 47) → j_W 236 d 0 0 0 0 65 [some (.ref 260), some (.int 205)] [] w1 (I, D, RR R) Q)
    (v11 : (¬ (ptk s).1 = 42) → (¬ (ptk s).1 = 47) → 37 < 256)
    (v12 : (¬ (ptk s).1 = 42) → (¬ (ptk s).1 = 47) → ((ptk s).1 = 37) → ((ptk s).1 = 42) → j_W 236 d 0 0 0 0 65 [some (.ref 260), some (.int 203)] [] w1 (I, D, RR R) Q)
    (v13 : (¬ (ptk s).1 = 42) → (¬ (ptk s).1 = 47) → ((ptk s).1 = 37) → (¬ (ptk s).1 = 42) → ((ptk s).1 = 47) → j_W 236 d 0 0 0 0 65 [some (.ref 260), some (.int 204)] [] w1 (I, D, RR R) Q)
    (v14 : (¬ (ptk s).1 = 42) → (¬ (ptk s).1 = 47) → ((ptk s).1 = 37) → (¬ (ptk s).1 = 42) → (¬ (ptk s).1 = 47) → j_W 236 d 0 0 0 0 65 [some (.ref 260), some (.int 205)] [] w1 (I, D, RR R) Q)
    (v15 : (¬ (ptk s).1 = 42) → (¬ (ptk s).1 = 47) → (¬ (ptk s).1 = 37) → Q none w1 (I, D, RR R)) : j_W 236 d 0 0 0 0 4 [some (.ref 260), none] [] w1 (I, D, RR R) Q := by
  refine q_aload_n d236_4 rfl ?_
  refine q_bipush (v := 42) (by decide) d236_5 ?_
  refine q_invV (o := 260) (ci := 10) (av := [.int 42]) (rest := []) (d' := 0) (mc' := 0) (ms' := 0) d236_7 (cv10_418 236 rfl) rfl (by decide) rfl rfl (by omega) (Nat.le_of_ble_eq_true rfl) (Nat.le_of_ble_eq_true rfl) (lt_w1 rfl) sh260 (Nat.le_refl _) (Nat.le_refl _) ?_
  refine c241g (c := 42) (T := T) (n := n) (dep := p) (s := s) v1 v2 (fun h1 => ?_) (fun h1 => ?_)
  ·
    show j_W 236 d 0 0 0 0 10 [some (.ref 260), none] [.int 1] w1 (I, D, RR R) Q
    refine q_if_ne (tgt := 31) d236_10 rfl (fun _ => ?_) (fun h => absurd h (by decide))
    refine q_aload_n d236_31 rfl ?_
    refine q_bipush (v := 42) (by decide) d236_32 ?_
    refine q_invV (o := 260) (ci := 10) (av := [.int 42]) (rest := []) (d' := 0) (mc' := 0) (ms' := 0) d236_34 (cv10_418 236 rfl) rfl (by decide) rfl rfl (by omega) (Nat.le_of_ble_eq_true rfl) (Nat.le_of_ble_eq_true rfl) (lt_w1 rfl) sh260 (Nat.le_refl _) (Nat.le_refl _) ?_
    refine c241g (c := 42) (T := T) (n := n) (dep := p) (s := s) v1 v2 (fun h2 => ?_) (fun h2 => ?_)
    ·
      show j_W 236 d 0 0 0 0 37 [some (.ref 260), none] [.int 1] w1 (I, D, RR R) Q
      refine q_if_eq (tgt := 46) d236_37 rfl (fun h => absurd h (by decide)) (fun _ => ?_)
      refine q_sipush (v := 203) (by decide) d236_40 ?_
      refine q_goto (tgt := 64) d236_43 rfl ?_
      refine q_istore_n (L' := [some (.ref 260), some (.int 203)]) d236_64 (Nat.le_of_ble_eq_true rfl) rfl ?_
      exact r_sub (L' := [some (.ref 260), some (.int 203)]) ⟨rfl, rfl, trivial⟩ (v3 h1 h2)
    ·
      show j_W 236 d 0 0 0 0 37 [some (.ref 260), none] [.int 0] w1 (I, D, RR R) Q
      refine q_if_eq (tgt := 46) d236_37 rfl (fun _ => ?_) (fun h => absurd h (by decide))
      refine q_aload_n d236_46 rfl ?_
      refine q_bipush (v := 47) (by decide) d236_47 ?_
      refine q_invV (o := 260) (ci := 10) (av := [.int 47]) (rest := []) (d' := 0) (mc' := 0) (ms' := 0) d236_49 (cv10_418 236 rfl) rfl (by decide) rfl rfl (by omega) (Nat.le_of_ble_eq_true rfl) (Nat.le_of_ble_eq_true rfl) (lt_w1 rfl) sh260 (Nat.le_refl _) (Nat.le_refl _) ?_
      refine c241g (c := 47) (T := T) (n := n) (dep := p) (s := s) v1 (v4 h1 h2) (fun h3 => ?_) (fun h3 => ?_)
      ·
        show j_W 236 d 0 0 0 0 52 [some (.ref 260), none] [.int 1] w1 (I, D, RR R) Q
        refine q_if_eq (tgt := 61) d236_52 rfl (fun h => absurd h (by decide)) (fun _ => ?_)
        refine q_sipush (v := 204) (by decide) d236_55 ?_
        refine q_goto (tgt := 64) d236_58 rfl ?_
        refine q_istore_n (L' := [some (.ref 260), some (.int 204)]) d236_64 (Nat.le_of_ble_eq_true rfl) rfl ?_
        exact r_sub (L' := [some (.ref 260), some (.int 204)]) ⟨rfl, rfl, trivial⟩ (v5 h1 h2 h3)
      ·
        show j_W 236 d 0 0 0 0 52 [some (.ref 260), none] [.int 0] w1 (I, D, RR R) Q
        refine q_if_eq (tgt := 61) d236_52 rfl (fun _ => ?_) (fun h => absurd h (by decide))
        refine q_sipush (v := 205) (by decide) d236_61 ?_
        refine q_istore_n (L' := [some (.ref 260), some (.int 205)]) d236_64 (Nat.le_of_ble_eq_true rfl) rfl ?_
        exact r_sub (L' := [some (.ref 260), some (.int 205)]) ⟨rfl, rfl, trivial⟩ (v6 h1 h2 h3)
  ·
    show j_W 236 d 0 0 0 0 10 [some (.ref 260), none] [.int 0] w1 (I, D, RR R) Q
    refine q_if_ne (tgt := 31) d236_10 rfl (fun h => absurd h (by decide)) (fun _ => ?_)
    refine q_aload_n d236_13 rfl ?_
    refine q_bipush (v := 47) (by decide) d236_14 ?_
    refine q_invV (o := 260) (ci := 10) (av := [.int 47]) (rest := []) (d' := 0) (mc' := 0) (ms' := 0) d236_16 (cv10_418 236 rfl) rfl (by decide) rfl rfl (by omega) (Nat.le_of_ble_eq_true rfl) (Nat.le_of_ble_eq_true rfl) (lt_w1 rfl) sh260 (Nat.le_refl _) (Nat.le_refl _) ?_
    refine c241g (c := 47) (T := T) (n := n) (dep := p) (s := s) v1 (v7 h1) (fun h4 => ?_) (fun h4 => ?_)
    ·
      show j_W 236 d 0 0 0 0 19 [some (.ref 260), none] [.int 1] w1 (I, D, RR R) Q
      refine q_if_ne (tgt := 31) d236_19 rfl (fun _ => ?_) (fun h => absurd h (by decide))
      refine q_aload_n d236_31 rfl ?_
      refine q_bipush (v := 42) (by decide) d236_32 ?_
      refine q_invV (o := 260) (ci := 10) (av := [.int 42]) (rest := []) (d' := 0) (mc' := 0) (ms' := 0) d236_34 (cv10_418 236 rfl) rfl (by decide) rfl rfl (by omega) (Nat.le_of_ble_eq_true rfl) (Nat.le_of_ble_eq_true rfl) (lt_w1 rfl) sh260 (Nat.le_refl _) (Nat.le_refl _) ?_
      refine c241g (c := 42) (T := T) (n := n) (dep := p) (s := s) v1 v2 (fun h5 => ?_) (fun h5 => ?_)
      ·
        show j_W 236 d 0 0 0 0 37 [some (.ref 260), none] [.int 1] w1 (I, D, RR R) Q
        refine q_if_eq (tgt := 46) d236_37 rfl (fun h => absurd h (by decide)) (fun _ => ?_)
        refine q_sipush (v := 203) (by decide) d236_40 ?_
        refine q_goto (tgt := 64) d236_43 rfl ?_
        refine q_istore_n (L' := [some (.ref 260), some (.int 203)]) d236_64 (Nat.le_of_ble_eq_true rfl) rfl ?_
        exact r_sub (L' := [some (.ref 260), some (.int 203)]) ⟨rfl, rfl, trivial⟩ (v8 h1 h4 h5)
      ·
        show j_W 236 d 0 0 0 0 37 [some (.ref 260), none] [.int 0] w1 (I, D, RR R) Q
        refine q_if_eq (tgt := 46) d236_37 rfl (fun _ => ?_) (fun h => absurd h (by decide))
        refine q_aload_n d236_46 rfl ?_
        refine q_bipush (v := 47) (by decide) d236_47 ?_
        refine q_invV (o := 260) (ci := 10) (av := [.int 47]) (rest := []) (d' := 0) (mc' := 0) (ms' := 0) d236_49 (cv10_418 236 rfl) rfl (by decide) rfl rfl (by omega) (Nat.le_of_ble_eq_true rfl) (Nat.le_of_ble_eq_true rfl) (lt_w1 rfl) sh260 (Nat.le_refl _) (Nat.le_refl _) ?_
        refine c241g (c := 47) (T := T) (n := n) (dep := p) (s := s) v1 (v7 h1) (fun h6 => ?_) (fun h6 => ?_)
        ·
          show j_W 236 d 0 0 0 0 52 [some (.ref 260), none] [.int 1] w1 (I, D, RR R) Q
          refine q_if_eq (tgt := 61) d236_52 rfl (fun h => absurd h (by decide)) (fun _ => ?_)
          refine q_sipush (v := 204) (by decide) d236_55 ?_
          refine q_goto (tgt := 64) d236_58 rfl ?_
          refine q_istore_n (L' := [some (.ref 260), some (.int 204)]) d236_64 (Nat.le_of_ble_eq_true rfl) rfl ?_
          exact r_sub (L' := [some (.ref 260), some (.int 204)]) ⟨rfl, rfl, trivial⟩ (v9 h1 h4 h5 h6)
        ·
          show j_W 236 d 0 0 0 0 52 [some (.ref 260), none] [.int 0] w1 (I, D, RR R) Q
          refine q_if_eq (tgt := 61) d236_52 rfl (fun _ => ?_) (fun h => absurd h (by decide))
          refine q_sipush (v := 205) (by decide) d236_61 ?_
          refine q_istore_n (L' := [some (.ref 260), some (.int 205)]) d236_64 (Nat.le_of_ble_eq_true rfl) rfl ?_
          exact r_sub (L' := [some (.ref 260), some (.int 205)]) ⟨rfl, rfl, trivial⟩ (v10 h1 h4 h5 h6)
    ·
      show j_W 236 d 0 0 0 0 19 [some (.ref 260), none] [.int 0] w1 (I, D, RR R) Q
      refine q_if_ne (tgt := 31) d236_19 rfl (fun h => absurd h (by decide)) (fun _ => ?_)
      refine q_aload_n d236_22 rfl ?_
      refine q_bipush (v := 37) (by decide) d236_23 ?_
      refine q_invV (o := 260) (ci := 10) (av := [.int 37]) (rest := []) (d' := 0) (mc' := 0) (ms' := 0) d236_25 (cv10_418 236 rfl) rfl (by decide) rfl rfl (by omega) (Nat.le_of_ble_eq_true rfl) (Nat.le_of_ble_eq_true rfl) (lt_w1 rfl) sh260 (Nat.le_refl _) (Nat.le_refl _) ?_
      refine c241g (c := 37) (T := T) (n := n) (dep := p) (s := s) v1 (v11 h1 h4) (fun h7 => ?_) (fun h7 => ?_)
      ·
        show j_W 236 d 0 0 0 0 28 [some (.ref 260), none] [.int 1] w1 (I, D, RR R) Q
        refine q_if_eq (tgt := 81) d236_28 rfl (fun h => absurd h (by decide)) (fun _ => ?_)
        refine q_aload_n d236_31 rfl ?_
        refine q_bipush (v := 42) (by decide) d236_32 ?_
        refine q_invV (o := 260) (ci := 10) (av := [.int 42]) (rest := []) (d' := 0) (mc' := 0) (ms' := 0) d236_34 (cv10_418 236 rfl) rfl (by decide) rfl rfl (by omega) (Nat.le_of_ble_eq_true rfl) (Nat.le_of_ble_eq_true rfl) (lt_w1 rfl) sh260 (Nat.le_refl _) (Nat.le_refl _) ?_
        refine c241g (c := 42) (T := T) (n := n) (dep := p) (s := s) v1 v2 (fun h8 => ?_) (fun h8 => ?_)
        ·
          show j_W 236 d 0 0 0 0 37 [some (.ref 260), none] [.int 1] w1 (I, D, RR R) Q
          refine q_if_eq (tgt := 46) d236_37 rfl (fun h => absurd h (by decide)) (fun _ => ?_)
          refine q_sipush (v := 203) (by decide) d236_40 ?_
          refine q_goto (tgt := 64) d236_43 rfl ?_
          refine q_istore_n (L' := [some (.ref 260), some (.int 203)]) d236_64 (Nat.le_of_ble_eq_true rfl) rfl ?_
          exact r_sub (L' := [some (.ref 260), some (.int 203)]) ⟨rfl, rfl, trivial⟩ (v12 h1 h4 h7 h8)
        ·
          show j_W 236 d 0 0 0 0 37 [some (.ref 260), none] [.int 0] w1 (I, D, RR R) Q
          refine q_if_eq (tgt := 46) d236_37 rfl (fun _ => ?_) (fun h => absurd h (by decide))
          refine q_aload_n d236_46 rfl ?_
          refine q_bipush (v := 47) (by decide) d236_47 ?_
          refine q_invV (o := 260) (ci := 10) (av := [.int 47]) (rest := []) (d' := 0) (mc' := 0) (ms' := 0) d236_49 (cv10_418 236 rfl) rfl (by decide) rfl rfl (by omega) (Nat.le_of_ble_eq_true rfl) (Nat.le_of_ble_eq_true rfl) (lt_w1 rfl) sh260 (Nat.le_refl _) (Nat.le_refl _) ?_
          refine c241g (c := 47) (T := T) (n := n) (dep := p) (s := s) v1 (v7 h1) (fun h9 => ?_) (fun h9 => ?_)
          ·
            show j_W 236 d 0 0 0 0 52 [some (.ref 260), none] [.int 1] w1 (I, D, RR R) Q
            refine q_if_eq (tgt := 61) d236_52 rfl (fun h => absurd h (by decide)) (fun _ => ?_)
            refine q_sipush (v := 204) (by decide) d236_55 ?_
            refine q_goto (tgt := 64) d236_58 rfl ?_
            refine q_istore_n (L' := [some (.ref 260), some (.int 204)]) d236_64 (Nat.le_of_ble_eq_true rfl) rfl ?_
            exact r_sub (L' := [some (.ref 260), some (.int 204)]) ⟨rfl, rfl, trivial⟩ (v13 h1 h4 h7 h8 h9)
          ·
            show j_W 236 d 0 0 0 0 52 [some (.ref 260), none] [.int 0] w1 (I, D, RR R) Q
            refine q_if_eq (tgt := 61) d236_52 rfl (fun _ => ?_) (fun h => absurd h (by decide))
            refine q_sipush (v := 205) (by decide) d236_61 ?_
            refine q_istore_n (L' := [some (.ref 260), some (.int 205)]) d236_64 (Nat.le_of_ble_eq_true rfl) rfl ?_
            exact r_sub (L' := [some (.ref 260), some (.int 205)]) ⟨rfl, rfl, trivial⟩ (v14 h1 h4 h7 h8 h9)
      ·
        show j_W 236 d 0 0 0 0 28 [some (.ref 260), none] [.int 0] w1 (I, D, RR R) Q
        refine q_if_eq (tgt := 81) d236_28 rfl (fun _ => ?_) (fun h => absurd h (by decide))
        exact q_ret d236_81 rfl (Nat.le_refl _) (Nat.le_refl _) (v15 h1 h4 h7)

set_option maxRecDepth 10000 in
set_option maxHeartbeats 4000000 in
theorem r236h {d : Nat} {I : Nat → Nat → Int32} {D : Nat → Nat → UInt64} {R : Nat → Nat → Option Nat} {Q : j_Po} {T : Nat → Nat} {n : Nat} {s s1 : PSt} {o : POut} {p : Nat} {g : Nat} (hC : RKc T n R (8 + 5 * (4 - p)) p 237 [.ref 260] s1 o) (hd : (9 + 5 * (4 - p)) ≤ d)
    (v1 : nxP T n s s1)
    (v2 : okP n s)
    (v3 : RRG T n p s I D)
    (v4 : 6 ≤ 6)
    (v5 : ∀ J1 : Nat → Nat → Int32, (RRs T n p s1 J1 D) → (RRg I D J1 D) → okP n s1)
    (v6 : ∀ J1 : Nat → Nat → Int32, (RRs T n p s1 J1 D) → (RRg I D J1 D) → pz s1 ≤ pb s1)
    (v7 : ∀ J1 : Nat → Nat → Int32, (RRs T n p s1 J1 D) → (RRg I D J1 D) → tkK (ptk s1))
    (v8 : ∀ J1 : Nat → Nat → Int32, (RRs T n p s1 J1 D) → (RRg I D J1 D) → RRs T n p s1 J1 D)
    (v9 : ∀ J1 : Nat → Nat → Int32, (RRs T n p s1 J1 D) → (RRg I D J1 D) → ∀ J4 : Nat → Nat → Int32, ∀ E5 : Nat → Nat → UInt64, (RRo T n p o J4 E5) → (RRg J1 D J4 E5) → j_W 236 d 0 0 0 0 73 [some (.ref 260), some (.int (nI g))] [] w1 (J4, E5, RR R) Q) : j_W 236 d 0 0 0 0 65 [some (.ref 260), some (.int (nI g))] [] w1 (I, D, RR R) Q := by
  refine q_aload_n d236_65 rfl ?_
  refine q_invV (o := 260) (ci := 10) (av := []) (rest := []) (d' := 6) (mc' := 0) (ms' := 0) d236_66 (cv10_421 236 rfl) rfl (by decide) rfl rfl (by omega) (Nat.le_of_ble_eq_true rfl) (Nat.le_of_ble_eq_true rfl) (lt_w1 rfl) sh260 (Nat.le_refl _) (Nat.le_refl _) ?_
  refine rr_next (T := T) (n := n) (dep := p) (s := s) (s' := s1) v1 v2 v3 v4 (fun J1 h2 h3 => ?_)
  show j_W 236 d 0 0 0 0 69 [some (.ref 260), some (.int (nI g))] [] w1 (J1, D, RR R) Q
  refine q_aload_n d236_69 rfl ?_
  refine q_invV (o := 260) (ci := 10) (av := []) (rest := []) (d' := (8 + 5 * (4 - p))) (mc' := 0) (ms' := 0) d236_70 (cv10_435 236 rfl) rfl (by decide) rfl rfl (by omega) (Nat.le_of_ble_eq_true rfl) (Nat.le_of_ble_eq_true rfl) (lt_w1 rfl) sh260 (Nat.le_refl _) (Nat.le_refl _) ?_
  refine hC _ _ _ _ (Nat.le_refl _) (v5 J1 h2 h3) (v6 J1 h2 h3) (v7 J1 h2 h3) (v8 J1 h2 h3) (fun J4 E5 h6 h7 => ?_)
  show j_W 236 d 0 0 0 0 73 [some (.ref 260), some (.int (nI g))] [] w1 (J4, E5, RR R) Q
  exact r_sub (L' := [some (.ref 260), some (.int (nI g))]) ⟨rfl, rfl, trivial⟩ (v9 J1 h2 h3 J4 E5 h6 h7)

set_option maxRecDepth 10000 in
set_option maxHeartbeats 4000000 in
theorem r236n {d : Nat} {I : Nat → Nat → Int32} {D : Nat → Nat → UInt64} {R : Nat → Nat → Option Nat} {Q : j_Po} {T : Nat → Nat} {n : Nat} {s : PSt} {p : Nat} {g a : Nat}  (hd : 1 ≤ d)
    (v1 : ∀ m F, MRj m (a, 0) (nI g) F)
    (v2 : pz s < 96)
    (v3 : RRG T n p s I D)
    (v4 : ∀ J1 : Nat → Nat → Int32, (RRG T n p (addP s a 0) J1 D) → (RRg I D J1 D) → j_W 236 d 0 0 0 0 4 [some (.ref 260), none] [] w1 (J1, D, RR R) Q) : j_W 236 d 0 0 0 0 73 [some (.ref 260), some (.int (nI g))] [] w1 (I, D, RR R) Q := by
  refine q_aload_n d236_73 rfl ?_
  refine q_iload_n d236_74 rfl ?_
  refine q_invV (o := 260) (ci := 10) (av := [.int (nI g)]) (rest := []) (d' := 0) (mc' := 0) (ms' := 0) d236_75 (cv10_429 236 rfl) rfl (by decide) rfl rfl (by omega) (Nat.le_of_ble_eq_true rfl) (Nat.le_of_ble_eq_true rfl) (lt_w1 rfl) sh260 (Nat.le_refl _) (Nat.le_refl _) ?_
  refine rr_mark (a := a) (w := 0) (x := (nI g)) (T := T) (n := n) (dep := p) (s := s) v1 v2 v3 (fun J1 h2 h3 => ?_)
  show j_W 236 d 0 0 0 0 78 [some (.ref 260), some (.int (nI g))] [] w1 (J1, D, RR R) Q
  refine q_goto (tgt := 4) d236_78 rfl ?_
  exact r_sub (L' := [some (.ref 260), none]) ⟨rfl, trivial⟩ (v4 J1 h2 h3)

set_option maxRecDepth 10000 in
set_option maxHeartbeats 4000000 in
theorem r235a {d : Nat} {I : Nat → Nat → Int32} {D : Nat → Nat → UInt64} {R : Nat → Nat → Option Nat} {Q : j_Po}  {T : Nat → Nat} {n : Nat} {s : PSt} {o : POut} {p : Nat} (hC : RKc T n R (9 + 5 * (4 - p)) p 236 [.ref 260] s o) (hd : (10 + 5 * (4 - p)) ≤ d)
    (v1 : okP n s)
    (v2 : pz s ≤ pb s)
    (v3 : tkK (ptk s))
    (v4 : RRs T n p s I D)
    (v5 : ∀ J1 : Nat → Nat → Int32, ∀ E2 : Nat → Nat → UInt64, (RRo T n p o J1 E2) → (RRg I D J1 E2) → j_W 235 d 0 0 0 0 4 [some (.ref 260), none] [] w1 (J1, E2, RR R) Q) : j_Call d 235 [.ref 260] w1 (I, D, RR R) 0 0 Q := by
  refine q_enter (L := [some (.ref 260), none]) j_m235 (Nat.le_of_ble_eq_true rfl) rfl ?_
  refine q_aload_n d235_0 rfl ?_
  refine q_invV (o := 260) (ci := 10) (av := []) (rest := []) (d' := (9 + 5 * (4 - p))) (mc' := 0) (ms' := 0) d235_1 (cv10_432 235 rfl) rfl (by decide) rfl rfl (by omega) (Nat.le_of_ble_eq_true rfl) (Nat.le_of_ble_eq_true rfl) (lt_w1 rfl) sh260 (Nat.le_refl _) (Nat.le_refl _) ?_
  refine hC _ _ _ _ (Nat.le_refl _) v1 v2 v3 v4 (fun J1 E2 h3 h4 => ?_)
  show j_W 235 d 0 0 0 0 4 [some (.ref 260), none] [] w1 (J1, E2, RR R) Q
  exact r_sub (L' := [some (.ref 260), none]) ⟨rfl, trivial⟩ (v5 J1 E2 h3 h4)

set_option maxRecDepth 10000 in
set_option maxHeartbeats 4000000 in
theorem r235g {d : Nat} {I : Nat → Nat → Int32} {D : Nat → Nat → UInt64} {R : Nat → Nat → Option Nat} {Q : j_Po}  {T : Nat → Nat} {n : Nat} {s : PSt} {p : Nat}  (hd : 1 ≤ d)
    (v1 : RRG T n p s I D)
    (v2 : 43 < 256)
    (v3 : ((ptk s).1 = 43) → ((ptk s).1 = 43) → j_W 235 d 0 0 0 0 41 [some (.ref 260), some (.int 201)] [] w1 (I, D, RR R) Q)
    (v4 : ((ptk s).1 = 43) → (¬ (ptk s).1 = 43) → j_W 235 d 0 0 0 0 41 [some (.ref 260), some (.int 202)] [] w1 (I, D, RR R) Q)
    (v5 : (¬ (ptk s).1 = 43) → 45 < 256)
    (v6 : (¬ (ptk s).1 = 43) → ((ptk s).1 = 45) → ((ptk s).1 = 43) → j_W 235 d 0 0 0 0 41 [some (.ref 260), some (.int 201)] [] w1 (I, D, RR R) Q)
    (v7 : (¬ (ptk s).1 = 43) → ((ptk s).1 = 45) → (¬ (ptk s).1 = 43) → j_W 235 d 0 0 0 0 41 [some (.ref 260), some (.int 202)] [] w1 (I, D, RR R) Q)
    (v8 : (¬ (ptk s).1 = 43) → (¬ (ptk s).1 = 45) → Q none w1 (I, D, RR R)) : j_W 235 d 0 0 0 0 4 [some (.ref 260), none] [] w1 (I, D, RR R) Q := by
  refine q_aload_n d235_4 rfl ?_
  refine q_bipush (v := 43) (by decide) d235_5 ?_
  refine q_invV (o := 260) (ci := 10) (av := [.int 43]) (rest := []) (d' := 0) (mc' := 0) (ms' := 0) d235_7 (cv10_418 235 rfl) rfl (by decide) rfl rfl (by omega) (Nat.le_of_ble_eq_true rfl) (Nat.le_of_ble_eq_true rfl) (lt_w1 rfl) sh260 (Nat.le_refl _) (Nat.le_refl _) ?_
  refine c241g (c := 43) (T := T) (n := n) (dep := p) (s := s) v1 v2 (fun h1 => ?_) (fun h1 => ?_)
  ·
    show j_W 235 d 0 0 0 0 10 [some (.ref 260), none] [.int 1] w1 (I, D, RR R) Q
    refine q_if_ne (tgt := 22) d235_10 rfl (fun _ => ?_) (fun h => absurd h (by decide))
    refine q_aload_n d235_22 rfl ?_
    refine q_bipush (v := 43) (by decide) d235_23 ?_
    refine q_invV (o := 260) (ci := 10) (av := [.int 43]) (rest := []) (d' := 0) (mc' := 0) (ms' := 0) d235_25 (cv10_418 235 rfl) rfl (by decide) rfl rfl (by omega) (Nat.le_of_ble_eq_true rfl) (Nat.le_of_ble_eq_true rfl) (lt_w1 rfl) sh260 (Nat.le_refl _) (Nat.le_refl _) ?_
    refine c241g (c := 43) (T := T) (n := n) (dep := p) (s := s) v1 v2 (fun h2 => ?_) (fun h2 => ?_)
    ·
      show j_W 235 d 0 0 0 0 28 [some (.ref 260), none] [.int 1] w1 (I, D, RR R) Q
      refine q_if_eq (tgt := 37) d235_28 rfl (fun h => absurd h (by decide)) (fun _ => ?_)
      refine q_sipush (v := 201) (by decide) d235_31 ?_
      refine q_goto (tgt := 40) d235_34 rfl ?_
      refine q_istore_n (L' := [some (.ref 260), some (.int 201)]) d235_40 (Nat.le_of_ble_eq_true rfl) rfl ?_
      exact r_sub (L' := [some (.ref 260), some (.int 201)]) ⟨rfl, rfl, trivial⟩ (v3 h1 h2)
    ·
      show j_W 235 d 0 0 0 0 28 [some (.ref 260), none] [.int 0] w1 (I, D, RR R) Q
      refine q_if_eq (tgt := 37) d235_28 rfl (fun _ => ?_) (fun h => absurd h (by decide))
      refine q_sipush (v := 202) (by decide) d235_37 ?_
      refine q_istore_n (L' := [some (.ref 260), some (.int 202)]) d235_40 (Nat.le_of_ble_eq_true rfl) rfl ?_
      exact r_sub (L' := [some (.ref 260), some (.int 202)]) ⟨rfl, rfl, trivial⟩ (v4 h1 h2)
  ·
    show j_W 235 d 0 0 0 0 10 [some (.ref 260), none] [.int 0] w1 (I, D, RR R) Q
    refine q_if_ne (tgt := 22) d235_10 rfl (fun h => absurd h (by decide)) (fun _ => ?_)
    refine q_aload_n d235_13 rfl ?_
    refine q_bipush (v := 45) (by decide) d235_14 ?_
    refine q_invV (o := 260) (ci := 10) (av := [.int 45]) (rest := []) (d' := 0) (mc' := 0) (ms' := 0) d235_16 (cv10_418 235 rfl) rfl (by decide) rfl rfl (by omega) (Nat.le_of_ble_eq_true rfl) (Nat.le_of_ble_eq_true rfl) (lt_w1 rfl) sh260 (Nat.le_refl _) (Nat.le_refl _) ?_
    refine c241g (c := 45) (T := T) (n := n) (dep := p) (s := s) v1 (v5 h1) (fun h3 => ?_) (fun h3 => ?_)
    ·
      show j_W 235 d 0 0 0 0 19 [some (.ref 260), none] [.int 1] w1 (I, D, RR R) Q
      refine q_if_eq (tgt := 57) d235_19 rfl (fun h => absurd h (by decide)) (fun _ => ?_)
      refine q_aload_n d235_22 rfl ?_
      refine q_bipush (v := 43) (by decide) d235_23 ?_
      refine q_invV (o := 260) (ci := 10) (av := [.int 43]) (rest := []) (d' := 0) (mc' := 0) (ms' := 0) d235_25 (cv10_418 235 rfl) rfl (by decide) rfl rfl (by omega) (Nat.le_of_ble_eq_true rfl) (Nat.le_of_ble_eq_true rfl) (lt_w1 rfl) sh260 (Nat.le_refl _) (Nat.le_refl _) ?_
      refine c241g (c := 43) (T := T) (n := n) (dep := p) (s := s) v1 v2 (fun h4 => ?_) (fun h4 => ?_)
      ·
        show j_W 235 d 0 0 0 0 28 [some (.ref 260), none] [.int 1] w1 (I, D, RR R) Q
        refine q_if_eq (tgt := 37) d235_28 rfl (fun h => absurd h (by decide)) (fun _ => ?_)
        refine q_sipush (v := 201) (by decide) d235_31 ?_
        refine q_goto (tgt := 40) d235_34 rfl ?_
        refine q_istore_n (L' := [some (.ref 260), some (.int 201)]) d235_40 (Nat.le_of_ble_eq_true rfl) rfl ?_
        exact r_sub (L' := [some (.ref 260), some (.int 201)]) ⟨rfl, rfl, trivial⟩ (v6 h1 h3 h4)
      ·
        show j_W 235 d 0 0 0 0 28 [some (.ref 260), none] [.int 0] w1 (I, D, RR R) Q
        refine q_if_eq (tgt := 37) d235_28 rfl (fun _ => ?_) (fun h => absurd h (by decide))
        refine q_sipush (v := 202) (by decide) d235_37 ?_
        refine q_istore_n (L' := [some (.ref 260), some (.int 202)]) d235_40 (Nat.le_of_ble_eq_true rfl) rfl ?_
        exact r_sub (L' := [some (.ref 260), some (.int 202)]) ⟨rfl, rfl, trivial⟩ (v7 h1 h3 h4)
    ·
      show j_W 235 d 0 0 0 0 19 [some (.ref 260), none] [.int 0] w1 (I, D, RR R) Q
      refine q_if_eq (tgt := 57) d235_19 rfl (fun _ => ?_) (fun h => absurd h (by decide))
      exact q_ret d235_57 rfl (Nat.le_refl _) (Nat.le_refl _) (v8 h1 h3)

set_option maxRecDepth 10000 in
set_option maxHeartbeats 4000000 in
theorem r235h {d : Nat} {I : Nat → Nat → Int32} {D : Nat → Nat → UInt64} {R : Nat → Nat → Option Nat} {Q : j_Po} {T : Nat → Nat} {n : Nat} {s s1 : PSt} {o : POut} {p : Nat} {g : Nat} (hC : RKc T n R (9 + 5 * (4 - p)) p 236 [.ref 260] s1 o) (hd : (10 + 5 * (4 - p)) ≤ d)
    (v1 : nxP T n s s1)
    (v2 : okP n s)
    (v3 : RRG T n p s I D)
    (v4 : 6 ≤ 6)
    (v5 : ∀ J1 : Nat → Nat → Int32, (RRs T n p s1 J1 D) → (RRg I D J1 D) → okP n s1)
    (v6 : ∀ J1 : Nat → Nat → Int32, (RRs T n p s1 J1 D) → (RRg I D J1 D) → pz s1 ≤ pb s1)
    (v7 : ∀ J1 : Nat → Nat → Int32, (RRs T n p s1 J1 D) → (RRg I D J1 D) → tkK (ptk s1))
    (v8 : ∀ J1 : Nat → Nat → Int32, (RRs T n p s1 J1 D) → (RRg I D J1 D) → RRs T n p s1 J1 D)
    (v9 : ∀ J1 : Nat → Nat → Int32, (RRs T n p s1 J1 D) → (RRg I D J1 D) → ∀ J4 : Nat → Nat → Int32, ∀ E5 : Nat → Nat → UInt64, (RRo T n p o J4 E5) → (RRg J1 D J4 E5) → j_W 235 d 0 0 0 0 49 [some (.ref 260), some (.int (nI g))] [] w1 (J4, E5, RR R) Q) : j_W 235 d 0 0 0 0 41 [some (.ref 260), some (.int (nI g))] [] w1 (I, D, RR R) Q := by
  refine q_aload_n d235_41 rfl ?_
  refine q_invV (o := 260) (ci := 10) (av := []) (rest := []) (d' := 6) (mc' := 0) (ms' := 0) d235_42 (cv10_421 235 rfl) rfl (by decide) rfl rfl (by omega) (Nat.le_of_ble_eq_true rfl) (Nat.le_of_ble_eq_true rfl) (lt_w1 rfl) sh260 (Nat.le_refl _) (Nat.le_refl _) ?_
  refine rr_next (T := T) (n := n) (dep := p) (s := s) (s' := s1) v1 v2 v3 v4 (fun J1 h2 h3 => ?_)
  show j_W 235 d 0 0 0 0 45 [some (.ref 260), some (.int (nI g))] [] w1 (J1, D, RR R) Q
  refine q_aload_n d235_45 rfl ?_
  refine q_invV (o := 260) (ci := 10) (av := []) (rest := []) (d' := (9 + 5 * (4 - p))) (mc' := 0) (ms' := 0) d235_46 (cv10_432 235 rfl) rfl (by decide) rfl rfl (by omega) (Nat.le_of_ble_eq_true rfl) (Nat.le_of_ble_eq_true rfl) (lt_w1 rfl) sh260 (Nat.le_refl _) (Nat.le_refl _) ?_
  refine hC _ _ _ _ (Nat.le_refl _) (v5 J1 h2 h3) (v6 J1 h2 h3) (v7 J1 h2 h3) (v8 J1 h2 h3) (fun J4 E5 h6 h7 => ?_)
  show j_W 235 d 0 0 0 0 49 [some (.ref 260), some (.int (nI g))] [] w1 (J4, E5, RR R) Q
  exact r_sub (L' := [some (.ref 260), some (.int (nI g))]) ⟨rfl, rfl, trivial⟩ (v9 J1 h2 h3 J4 E5 h6 h7)

set_option maxRecDepth 10000 in
set_option maxHeartbeats 4000000 in
theorem r235n {d : Nat} {I : Nat → Nat → Int32} {D : Nat → Nat → UInt64} {R : Nat → Nat → Option Nat} {Q : j_Po} {T : Nat → Nat} {n : Nat} {s : PSt} {p : Nat} {g a : Nat}  (hd : 1 ≤ d)
    (v1 : ∀ m F, MRj m (a, 0) (nI g) F)
    (v2 : pz s < 96)
    (v3 : RRG T n p s I D)
    (v4 : ∀ J1 : Nat → Nat → Int32, (RRG T n p (addP s a 0) J1 D) → (RRg I D J1 D) → j_W 235 d 0 0 0 0 4 [some (.ref 260), none] [] w1 (J1, D, RR R) Q) : j_W 235 d 0 0 0 0 49 [some (.ref 260), some (.int (nI g))] [] w1 (I, D, RR R) Q := by
  refine q_aload_n d235_49 rfl ?_
  refine q_iload_n d235_50 rfl ?_
  refine q_invV (o := 260) (ci := 10) (av := [.int (nI g)]) (rest := []) (d' := 0) (mc' := 0) (ms' := 0) d235_51 (cv10_429 235 rfl) rfl (by decide) rfl rfl (by omega) (Nat.le_of_ble_eq_true rfl) (Nat.le_of_ble_eq_true rfl) (lt_w1 rfl) sh260 (Nat.le_refl _) (Nat.le_refl _) ?_
  refine rr_mark (a := a) (w := 0) (x := (nI g)) (T := T) (n := n) (dep := p) (s := s) v1 v2 v3 (fun J1 h2 h3 => ?_)
  show j_W 235 d 0 0 0 0 54 [some (.ref 260), some (.int (nI g))] [] w1 (J1, D, RR R) Q
  refine q_goto (tgt := 4) d235_54 rfl ?_
  exact r_sub (L' := [some (.ref 260), none]) ⟨rfl, trivial⟩ (v4 J1 h2 h3)

set_option maxRecDepth 10000 in
set_option maxHeartbeats 4000000 in
theorem r234a {d : Nat} {I : Nat → Nat → Int32} {D : Nat → Nat → UInt64} {R : Nat → Nat → Option Nat} {Q : j_Po}  {T : Nat → Nat} {n : Nat} {s : PSt} {o : POut} {p : Nat} (hC : RKc T n R (10 + 5 * (4 - p)) p 235 [.ref 260] s o) (hd : (11 + 5 * (4 - p)) ≤ d)
    (v1 : okP n s)
    (v2 : pz s ≤ pb s)
    (v3 : tkK (ptk s))
    (v4 : RRs T n p s I D)
    (v5 : ∀ J1 : Nat → Nat → Int32, ∀ E2 : Nat → Nat → UInt64, (RRo T n p o J1 E2) → (RRg I D J1 E2) → j_W 234 d 0 0 0 0 4 [some (.ref 260), none] [] w1 (J1, E2, RR R) Q) : j_Call d 234 [.ref 260] w1 (I, D, RR R) 0 0 Q := by
  refine q_enter (L := [some (.ref 260), none]) j_m234 (Nat.le_of_ble_eq_true rfl) rfl ?_
  refine q_aload_n d234_0 rfl ?_
  refine q_invV (o := 260) (ci := 10) (av := []) (rest := []) (d' := (10 + 5 * (4 - p))) (mc' := 0) (ms' := 0) d234_1 (cv10_427 234 rfl) rfl (by decide) rfl rfl (by omega) (Nat.le_of_ble_eq_true rfl) (Nat.le_of_ble_eq_true rfl) (lt_w1 rfl) sh260 (Nat.le_refl _) (Nat.le_refl _) ?_
  refine hC _ _ _ _ (Nat.le_refl _) v1 v2 v3 v4 (fun J1 E2 h3 h4 => ?_)
  show j_W 234 d 0 0 0 0 4 [some (.ref 260), none] [] w1 (J1, E2, RR R) Q
  exact r_sub (L' := [some (.ref 260), none]) ⟨rfl, trivial⟩ (v5 J1 E2 h3 h4)

set_option maxRecDepth 10000 in
set_option maxHeartbeats 4000000 in
theorem r234g {d : Nat} {I : Nat → Nat → Int32} {D : Nat → Nat → UInt64} {R : Nat → Nat → Option Nat} {Q : j_Po}  {T : Nat → Nat} {n : Nat} {s : PSt} {p : Nat}  (hd : 1 ≤ d)
    (v1 : RRG T n p s I D)
    (v2 : 60 < 256)
    (v3 : ((ptk s).1 = 60) → ((ptk s).1 = 60) → j_W 234 d 0 0 0 0 42 [some (.ref 260), some (.int 206)] [] w1 (I, D, RR R) Q)
    (v4 : ((ptk s).1 = 60) → (¬ (ptk s).1 = 60) → j_W 234 d 0 0 0 0 42 [some (.ref 260), some (.int 207)] [] w1 (I, D, RR R) Q)
    (v5 : (¬ (ptk s).1 = 60) → 61 < 256)
    (v6 : (¬ (ptk s).1 = 60) → ((ptk s).1 = 61) → ((ptk s).1 = 60) → j_W 234 d 0 0 0 0 42 [some (.ref 260), some (.int 206)] [] w1 (I, D, RR R) Q)
    (v7 : (¬ (ptk s).1 = 60) → ((ptk s).1 = 61) → (¬ (ptk s).1 = 60) → j_W 234 d 0 0 0 0 42 [some (.ref 260), some (.int 207)] [] w1 (I, D, RR R) Q)
    (v8 : (¬ (ptk s).1 = 60) → (¬ (ptk s).1 = 61) → Q none w1 (I, D, RR R)) : j_W 234 d 0 0 0 0 4 [some (.ref 260), none] [] w1 (I, D, RR R) Q := by
  refine q_aload_n d234_4 rfl ?_
  refine q_bipush (v := 60) (by decide) d234_5 ?_
  refine q_invV (o := 260) (ci := 10) (av := [.int 60]) (rest := []) (d' := 0) (mc' := 0) (ms' := 0) d234_7 (cv10_418 234 rfl) rfl (by decide) rfl rfl (by omega) (Nat.le_of_ble_eq_true rfl) (Nat.le_of_ble_eq_true rfl) (lt_w1 rfl) sh260 (Nat.le_refl _) (Nat.le_refl _) ?_
  refine c241g (c := 60) (T := T) (n := n) (dep := p) (s := s) v1 v2 (fun h1 => ?_) (fun h1 => ?_)
  ·
    show j_W 234 d 0 0 0 0 10 [some (.ref 260), none] [.int 1] w1 (I, D, RR R) Q
    refine q_if_ne (tgt := 23) d234_10 rfl (fun _ => ?_) (fun h => absurd h (by decide))
    refine q_aload_n d234_23 rfl ?_
    refine q_bipush (v := 60) (by decide) d234_24 ?_
    refine q_invV (o := 260) (ci := 10) (av := [.int 60]) (rest := []) (d' := 0) (mc' := 0) (ms' := 0) d234_26 (cv10_418 234 rfl) rfl (by decide) rfl rfl (by omega) (Nat.le_of_ble_eq_true rfl) (Nat.le_of_ble_eq_true rfl) (lt_w1 rfl) sh260 (Nat.le_refl _) (Nat.le_refl _) ?_
    refine c241g (c := 60) (T := T) (n := n) (dep := p) (s := s) v1 v2 (fun h2 => ?_) (fun h2 => ?_)
    ·
      show j_W 234 d 0 0 0 0 29 [some (.ref 260), none] [.int 1] w1 (I, D, RR R) Q
      refine q_if_eq (tgt := 38) d234_29 rfl (fun h => absurd h (by decide)) (fun _ => ?_)
      refine q_sipush (v := 206) (by decide) d234_32 ?_
      refine q_goto (tgt := 41) d234_35 rfl ?_
      refine q_istore_n (L' := [some (.ref 260), some (.int 206)]) d234_41 (Nat.le_of_ble_eq_true rfl) rfl ?_
      exact r_sub (L' := [some (.ref 260), some (.int 206)]) ⟨rfl, rfl, trivial⟩ (v3 h1 h2)
    ·
      show j_W 234 d 0 0 0 0 29 [some (.ref 260), none] [.int 0] w1 (I, D, RR R) Q
      refine q_if_eq (tgt := 38) d234_29 rfl (fun _ => ?_) (fun h => absurd h (by decide))
      refine q_sipush (v := 207) (by decide) d234_38 ?_
      refine q_istore_n (L' := [some (.ref 260), some (.int 207)]) d234_41 (Nat.le_of_ble_eq_true rfl) rfl ?_
      exact r_sub (L' := [some (.ref 260), some (.int 207)]) ⟨rfl, rfl, trivial⟩ (v4 h1 h2)
  ·
    show j_W 234 d 0 0 0 0 10 [some (.ref 260), none] [.int 0] w1 (I, D, RR R) Q
    refine q_if_ne (tgt := 23) d234_10 rfl (fun h => absurd h (by decide)) (fun _ => ?_)
    refine q_aload_n d234_13 rfl ?_
    refine q_bipush (v := 61) (by decide) d234_14 ?_
    refine q_invV (o := 260) (ci := 10) (av := [.int 61]) (rest := []) (d' := 0) (mc' := 0) (ms' := 0) d234_16 (cv10_418 234 rfl) rfl (by decide) rfl rfl (by omega) (Nat.le_of_ble_eq_true rfl) (Nat.le_of_ble_eq_true rfl) (lt_w1 rfl) sh260 (Nat.le_refl _) (Nat.le_refl _) ?_
    refine c241g (c := 61) (T := T) (n := n) (dep := p) (s := s) v1 (v5 h1) (fun h3 => ?_) (fun h3 => ?_)
    ·
      show j_W 234 d 0 0 0 0 19 [some (.ref 260), none] [.int 1] w1 (I, D, RR R) Q
      refine q_if_ne (tgt := 23) d234_19 rfl (fun _ => ?_) (fun h => absurd h (by decide))
      refine q_aload_n d234_23 rfl ?_
      refine q_bipush (v := 60) (by decide) d234_24 ?_
      refine q_invV (o := 260) (ci := 10) (av := [.int 60]) (rest := []) (d' := 0) (mc' := 0) (ms' := 0) d234_26 (cv10_418 234 rfl) rfl (by decide) rfl rfl (by omega) (Nat.le_of_ble_eq_true rfl) (Nat.le_of_ble_eq_true rfl) (lt_w1 rfl) sh260 (Nat.le_refl _) (Nat.le_refl _) ?_
      refine c241g (c := 60) (T := T) (n := n) (dep := p) (s := s) v1 v2 (fun h4 => ?_) (fun h4 => ?_)
      ·
        show j_W 234 d 0 0 0 0 29 [some (.ref 260), none] [.int 1] w1 (I, D, RR R) Q
        refine q_if_eq (tgt := 38) d234_29 rfl (fun h => absurd h (by decide)) (fun _ => ?_)
        refine q_sipush (v := 206) (by decide) d234_32 ?_
        refine q_goto (tgt := 41) d234_35 rfl ?_
        refine q_istore_n (L' := [some (.ref 260), some (.int 206)]) d234_41 (Nat.le_of_ble_eq_true rfl) rfl ?_
        exact r_sub (L' := [some (.ref 260), some (.int 206)]) ⟨rfl, rfl, trivial⟩ (v6 h1 h3 h4)
      ·
        show j_W 234 d 0 0 0 0 29 [some (.ref 260), none] [.int 0] w1 (I, D, RR R) Q
        refine q_if_eq (tgt := 38) d234_29 rfl (fun _ => ?_) (fun h => absurd h (by decide))
        refine q_sipush (v := 207) (by decide) d234_38 ?_
        refine q_istore_n (L' := [some (.ref 260), some (.int 207)]) d234_41 (Nat.le_of_ble_eq_true rfl) rfl ?_
        exact r_sub (L' := [some (.ref 260), some (.int 207)]) ⟨rfl, rfl, trivial⟩ (v7 h1 h3 h4)
    ·
      show j_W 234 d 0 0 0 0 19 [some (.ref 260), none] [.int 0] w1 (I, D, RR R) Q
      refine q_if_ne (tgt := 23) d234_19 rfl (fun h => absurd h (by decide)) (fun _ => ?_)
      exact q_ret d234_22 rfl (Nat.le_refl _) (Nat.le_refl _) (v8 h1 h3)

set_option maxRecDepth 10000 in
set_option maxHeartbeats 4000000 in
theorem r234h {d : Nat} {I : Nat → Nat → Int32} {D : Nat → Nat → UInt64} {R : Nat → Nat → Option Nat} {Q : j_Po} {T : Nat → Nat} {n : Nat} {s s1 : PSt} {o : POut} {p : Nat} {g : Nat} (hC : RKc T n R (10 + 5 * (4 - p)) p 235 [.ref 260] s1 o) (hd : (11 + 5 * (4 - p)) ≤ d)
    (v1 : nxP T n s s1)
    (v2 : okP n s)
    (v3 : RRG T n p s I D)
    (v4 : 6 ≤ 6)
    (v5 : ∀ J1 : Nat → Nat → Int32, (RRs T n p s1 J1 D) → (RRg I D J1 D) → okP n s1)
    (v6 : ∀ J1 : Nat → Nat → Int32, (RRs T n p s1 J1 D) → (RRg I D J1 D) → pz s1 ≤ pb s1)
    (v7 : ∀ J1 : Nat → Nat → Int32, (RRs T n p s1 J1 D) → (RRg I D J1 D) → tkK (ptk s1))
    (v8 : ∀ J1 : Nat → Nat → Int32, (RRs T n p s1 J1 D) → (RRg I D J1 D) → RRs T n p s1 J1 D)
    (v9 : ∀ J1 : Nat → Nat → Int32, (RRs T n p s1 J1 D) → (RRg I D J1 D) → ∀ J4 : Nat → Nat → Int32, ∀ E5 : Nat → Nat → UInt64, (RRo T n p o J4 E5) → (RRg J1 D J4 E5) → j_W 234 d 0 0 0 0 50 [some (.ref 260), some (.int (nI g))] [] w1 (J4, E5, RR R) Q) : j_W 234 d 0 0 0 0 42 [some (.ref 260), some (.int (nI g))] [] w1 (I, D, RR R) Q := by
  refine q_aload_n d234_42 rfl ?_
  refine q_invV (o := 260) (ci := 10) (av := []) (rest := []) (d' := 6) (mc' := 0) (ms' := 0) d234_43 (cv10_421 234 rfl) rfl (by decide) rfl rfl (by omega) (Nat.le_of_ble_eq_true rfl) (Nat.le_of_ble_eq_true rfl) (lt_w1 rfl) sh260 (Nat.le_refl _) (Nat.le_refl _) ?_
  refine rr_next (T := T) (n := n) (dep := p) (s := s) (s' := s1) v1 v2 v3 v4 (fun J1 h2 h3 => ?_)
  show j_W 234 d 0 0 0 0 46 [some (.ref 260), some (.int (nI g))] [] w1 (J1, D, RR R) Q
  refine q_aload_n d234_46 rfl ?_
  refine q_invV (o := 260) (ci := 10) (av := []) (rest := []) (d' := (10 + 5 * (4 - p))) (mc' := 0) (ms' := 0) d234_47 (cv10_427 234 rfl) rfl (by decide) rfl rfl (by omega) (Nat.le_of_ble_eq_true rfl) (Nat.le_of_ble_eq_true rfl) (lt_w1 rfl) sh260 (Nat.le_refl _) (Nat.le_refl _) ?_
  refine hC _ _ _ _ (Nat.le_refl _) (v5 J1 h2 h3) (v6 J1 h2 h3) (v7 J1 h2 h3) (v8 J1 h2 h3) (fun J4 E5 h6 h7 => ?_)
  show j_W 234 d 0 0 0 0 50 [some (.ref 260), some (.int (nI g))] [] w1 (J4, E5, RR R) Q
  exact r_sub (L' := [some (.ref 260), some (.int (nI g))]) ⟨rfl, rfl, trivial⟩ (v9 J1 h2 h3 J4 E5 h6 h7)

set_option maxRecDepth 10000 in
set_option maxHeartbeats 4000000 in
theorem r234n {d : Nat} {I : Nat → Nat → Int32} {D : Nat → Nat → UInt64} {R : Nat → Nat → Option Nat} {Q : j_Po} {T : Nat → Nat} {n : Nat} {s : PSt} {p : Nat} {g a : Nat}  (hd : 1 ≤ d)
    (v1 : ∀ m F, MRj m (a, 0) (nI g) F)
    (v2 : pz s < 96)
    (v3 : RRG T n p s I D)
    (v4 : ∀ J1 : Nat → Nat → Int32, (RRG T n p (addP s a 0) J1 D) → (RRg I D J1 D) → Q none w1 (J1, D, RR R)) : j_W 234 d 0 0 0 0 50 [some (.ref 260), some (.int (nI g))] [] w1 (I, D, RR R) Q := by
  refine q_aload_n d234_50 rfl ?_
  refine q_iload_n d234_51 rfl ?_
  refine q_invV (o := 260) (ci := 10) (av := [.int (nI g)]) (rest := []) (d' := 0) (mc' := 0) (ms' := 0) d234_52 (cv10_429 234 rfl) rfl (by decide) rfl rfl (by omega) (Nat.le_of_ble_eq_true rfl) (Nat.le_of_ble_eq_true rfl) (lt_w1 rfl) sh260 (Nat.le_refl _) (Nat.le_refl _) ?_
  refine rr_mark (a := a) (w := 0) (x := (nI g)) (T := T) (n := n) (dep := p) (s := s) v1 v2 v3 (fun J1 h2 h3 => ?_)
  show j_W 234 d 0 0 0 0 55 [some (.ref 260), some (.int (nI g))] [] w1 (J1, D, RR R) Q
  exact q_ret d234_55 rfl (Nat.le_refl _) (Nat.le_refl _) (v4 J1 h2 h3)

section RN9
variable {d : Nat} {I : Nat → Nat → Int32} {D : Nat → Nat → UInt64} {R : Nat → Nat → Option Nat} {Q : j_Po} {T : Nat → Nat} {n dep : Nat} {s s' : PSt}
theorem RRg.refl : RRg I D I D := ⟨fun _ _ _ => rfl, fun _ _ => rfl, fun _ _ => rfl⟩
theorem RRg.u {i : Nat} {x : Int32} (hi : 37 ≤ i) (hi2 : i ≤ 46) : RRg I D (j_u I 260 i x) D := ⟨fun q q1 _ => by funext k; rw [j_u_o _ _ _ q1], fun k hk => by rw [j_u_k _ _ (by omega)], fun _ _ => rfl⟩
theorem TR.u {i : Nat} {x : Int32} (h : TR T n I) (hi : i ≠ 34) : TR T n (j_u I 260 i x) := h.cg (by rw [j_u_k _ _ (Ne.symm hi)]) (by funext k; rw [j_u_o _ _ _ (by decide)])
/-- it turns wrong -/
theorem RRG.w (h : RRG T n dep s I D) : RRf T n (pb s) (j_u I 260 46 1) := ⟨h.1.u (by decide), by rw [j_u_k _ _ (by decide)]; exact h.2.1, by rw [j_u_same]⟩
theorem RRf.w {f : Nat} (h : RRf T n f I) : RRf T n f (j_u I 260 46 1) := by rw [ju_id h.2.2]; exact h
theorem RRs.w (h : RRs T n dep s I D) : RRf T n (pb s) (j_u I 260 46 1) := by
  by_cases e : (ptk s).1 = 262
  · exact (h.1 e).w
  · exact (h.2 e).w
theorem RRG.ne (h : RRG T n dep s I D) : (ptk s).1 ≠ 262 := by
  rcases h.2.2.2.2.1 with ⟨e, -⟩ | ⟨e1, e2, -⟩ | ⟨-, v, -, -, ⟨e, -⟩ | ⟨f, -, e, -⟩⟩ | ⟨e, -⟩
  · omega
  · omega
  · rw [e]; simp only; omega
  · rw [e]; simp only; omega
  · omega
theorem RRG.st (h : RRG T n dep s I D) : RRs T n dep s I D := ⟨fun e => absurd e h.ne, fun _ => h⟩
/-- how many stand open -/
theorem RRG.op {d' : Nat} (h : RRG T n dep s I D) : RRG T n d' s (j_u I 260 45 (nI d')) D := by
  obtain ⟨hT, h40, h46, h39, hk, hW, h45, hM⟩ := h
  refine ⟨hT.u (by decide), ?_, ?_, ?_, hk.cg ?_ ?_ ?_ ?_, hW, by rw [j_u_same], hM.cg ?_ ?_ ?_⟩
  · rw [j_u_k _ _ (by decide)]; exact h40
  · rw [j_u_k _ _ (by decide)]; exact h46
  · rw [j_u_k _ _ (by decide)]; exact h39
  · rw [j_u_k _ _ (by decide)]
  · rw [j_u_k _ _ (by decide)]
  · rw [j_u_k _ _ (by decide)]
  · rw [j_u_k _ _ (by decide)]
  · rw [j_u_k _ _ (by decide)]
  · rw [j_u_k _ _ (by decide)]
  · funext k; rw [j_u_o _ _ _ (by decide)]
theorem nI_p1 {p : Nat} (hp : p < 4) : (nI (p + 1)) - 1 = nI p := by
  have : ∀ p, p < 4 → (nI (p + 1)) - 1 = nI p := by decide +kernel
  exact this p hp
end RN9
set_option maxRecDepth 10000 in
set_option maxHeartbeats 4000000 in
theorem r242f {d : Nat} {I : Nat → Nat → Int32} {D : Nat → Nat → UInt64} {R : Nat → Nat → Option Nat} {Q : j_Po}  (h45 : I 260 45 = nI 4) (hd : 0 ≤ d)
    (v1 : Q (some (.int 0)) w1 ((j_u I 260 46 1), D, RR R)) : j_Call d 242 [.ref 260] w1 (I, D, RR R) 0 0 Q := by
  refine q_enter (L := [some (.ref 260)]) j_m242 (Nat.le_of_ble_eq_true rfl) rfl ?_
  refine q_aload_n d242_0 rfl ?_
  refine q_getI d242_1 (fs10_438 242 rfl) rfl (lt_w1 rfl) sh260 ?_
  refine r_int (y := (nI 4)) (show I 260 45 = (nI 4) from h45) ?_
  refine q_iconst (v := 4) (by decide) d242_4 ?_
  refine q_icmp_ne (tgt := 13) d242_5 rfl (fun h1t => ?_) (fun h1f => ?_)
  ·
    have h1tc : ¬ 4 = 4 := mt (nI_eqN (by omega) (by omega)).mpr h1t
    exact False.elim (by exact absurd h1tc (by decide))
  ·
    have h1fc : 4 = 4 := (nI_eqN (by omega) (by omega)).mp h1f
    refine q_aload_n d242_8 rfl ?_
    refine q_iconst (v := 1) (by decide) d242_9 ?_
    refine q_putZ d242_10 (fs10_357 242 rfl) (Or.inl rfl) rfl (Or.inr rfl) (lt_w1 rfl) sh260 ?_
    refine q_aload_n d242_13 rfl ?_
    refine q_getI d242_14 (fs10_357 242 rfl) rfl (lt_w1 rfl) sh260 ?_
    refine r_int (y := 1) (show (j_u I 260 46 1) 260 46 = 1 from (j_u_same _ _ _ _)) ?_
    refine q_if_eq (tgt := 22) d242_17 rfl (fun h => absurd h (by decide)) (fun _ => ?_)
    refine q_iconst (v := 0) (by decide) d242_20 ?_
    exact q_zret d242_21 rfl (Or.inl rfl) (Nat.le_refl _) (Nat.le_refl _) v1

set_option maxRecDepth 10000 in
set_option maxHeartbeats 4000000 in
theorem r242g {d : Nat} {I : Nat → Nat → Int32} {D : Nat → Nat → UInt64} {R : Nat → Nat → Option Nat} {Q : j_Po}  {T : Nat → Nat} {n : Nat} {s s1 : PSt} {p : Nat} (h45 : I 260 45 = nI p) (hp : p < 4) (hd : 7 ≤ d)
    (v1 : (¬ p = 4) → ((I 260 46) = 0) → nxP T n s s1)
    (v2 : (¬ p = 4) → ((I 260 46) = 0) → okP n s)
    (v3 : (¬ p = 4) → ((I 260 46) = 0) → RRG T n (p + 1) s (j_u I 260 45 (nI (p + 1))) D)
    (v4 : (¬ p = 4) → ((I 260 46) = 0) → 6 ≤ 6)
    (v5 : (¬ p = 4) → ((I 260 46) = 0) → ∀ J3 : Nat → Nat → Int32, (RRs T n (p + 1) s1 J3 D) → (RRg (j_u I 260 45 (nI (p + 1))) D J3 D) → Q (some (.int 1)) w1 (J3, D, RR R))
    (v6 : (¬ p = 4) → (¬ (I 260 46) = 0) → Q (some (.int 0)) w1 (I, D, RR R))
    (v7 : (p = 4) → Q (some (.int 0)) w1 ((j_u I 260 46 1), D, RR R)) : j_Call d 242 [.ref 260] w1 (I, D, RR R) 0 0 Q := by
  refine q_enter (L := [some (.ref 260)]) j_m242 (Nat.le_of_ble_eq_true rfl) rfl ?_
  refine q_aload_n d242_0 rfl ?_
  refine q_getI d242_1 (fs10_438 242 rfl) rfl (lt_w1 rfl) sh260 ?_
  refine r_int (y := (nI p)) (show I 260 45 = (nI p) from h45) ?_
  refine q_iconst (v := 4) (by decide) d242_4 ?_
  refine q_icmp_ne (tgt := 13) d242_5 rfl (fun h1t => ?_) (fun h1f => ?_)
  ·
    have h1tc : ¬ p = 4 := mt (nI_eqN (by omega) (by omega)).mpr h1t
    refine q_aload_n d242_13 rfl ?_
    refine q_getI d242_14 (fs10_357 242 rfl) rfl (lt_w1 rfl) sh260 ?_
    refine q_if_eq (tgt := 22) d242_17 rfl (fun h2t => ?_) (fun h2f => ?_)
    ·
      refine q_aload_n d242_22 rfl ?_
      refine q_dup rfl d242_23 ?_
      refine q_getI d242_24 (fs10_438 242 rfl) rfl (lt_w1 rfl) sh260 ?_
      refine r_int (y := (nI p)) (show I 260 45 = (nI p) from h45) ?_
      refine q_iconst (v := 1) (by decide) d242_27 ?_
      refine q_iadd d242_28 ?_
      refine r_int (y := (nI (p + 1))) (nI_add p 1) ?_
      refine q_putI d242_29 (fs10_438 242 rfl) (Or.inl rfl) rfl (lt_w1 rfl) sh260 ?_
      refine q_aload_n d242_32 rfl ?_
      refine q_invV (o := 260) (ci := 10) (av := []) (rest := []) (d' := 6) (mc' := 0) (ms' := 0) d242_33 (cv10_421 242 rfl) rfl (by decide) rfl rfl (by omega) (Nat.le_of_ble_eq_true rfl) (Nat.le_of_ble_eq_true rfl) (lt_w1 rfl) sh260 (Nat.le_refl _) (Nat.le_refl _) ?_
      refine rr_next (T := T) (n := n) (dep := (p + 1)) (s := s) (s' := s1) (v1 h1tc h2t) (v2 h1tc h2t) (v3 h1tc h2t) (v4 h1tc h2t) (fun J3 h4 h5 => ?_)
      show j_W 242 d 0 0 0 0 36 [some (.ref 260)] [] w1 (J3, D, RR R) Q
      refine q_iconst (v := 1) (by decide) d242_36 ?_
      exact q_zret d242_37 rfl (Or.inr rfl) (Nat.le_refl _) (Nat.le_refl _) (v5 h1tc h2t J3 h4 h5)
    ·
      refine q_iconst (v := 0) (by decide) d242_20 ?_
      exact q_zret d242_21 rfl (Or.inl rfl) (Nat.le_refl _) (Nat.le_refl _) (v6 h1tc h2f)
  ·
    have h1fc : p = 4 := (nI_eqN (by omega) (by omega)).mp h1f
    refine q_aload_n d242_8 rfl ?_
    refine q_iconst (v := 1) (by decide) d242_9 ?_
    refine q_putZ d242_10 (fs10_357 242 rfl) (Or.inl rfl) rfl (Or.inr rfl) (lt_w1 rfl) sh260 ?_
    refine q_aload_n d242_13 rfl ?_
    refine q_getI d242_14 (fs10_357 242 rfl) rfl (lt_w1 rfl) sh260 ?_
    refine r_int (y := 1) (show (j_u I 260 46 1) 260 46 = 1 from (j_u_same _ _ _ _)) ?_
    refine q_if_eq (tgt := 22) d242_17 rfl (fun h => absurd h (by decide)) (fun _ => ?_)
    refine q_iconst (v := 0) (by decide) d242_20 ?_
    exact q_zret d242_21 rfl (Or.inl rfl) (Nat.le_refl _) (Nat.le_refl _) (v7 h1fc)

set_option maxRecDepth 10000 in
set_option maxHeartbeats 4000000 in
theorem r243g {d : Nat} {I : Nat → Nat → Int32} {D : Nat → Nat → UInt64} {R : Nat → Nat → Option Nat} {Q : j_Po} {c : Nat} {T : Nat → Nat} {n : Nat} {s s1 : PSt} {p : Nat} (hc : c < 256) (hd : 7 ≤ d)
    (v1 : RRG T n p s I D)
    (v2 : c < 256)
    (v3 : ((ptk s).1 = c) → nxP T n s s1)
    (v4 : ((ptk s).1 = c) → okP n s)
    (v5 : ((ptk s).1 = c) → 6 ≤ 6)
    (v6 : ((ptk s).1 = c) → ∀ J2 : Nat → Nat → Int32, (RRs T n p s1 J2 D) → (RRg I D J2 D) → Q none w1 (J2, D, RR R))
    (v7 : (¬ (ptk s).1 = c) → Q none w1 ((j_u I 260 46 1), D, RR R)) : j_Call d 243 [.ref 260, .int (nI c)] w1 (I, D, RR R) 0 0 Q := by
  refine q_enter (L := [some (.ref 260), some (.int (nI c))]) j_m243 (Nat.le_of_ble_eq_true rfl) rfl ?_
  refine q_aload_n d243_0 rfl ?_
  refine q_iload_n d243_1 rfl ?_
  refine q_invV (o := 260) (ci := 10) (av := [.int (nI c)]) (rest := []) (d' := 0) (mc' := 0) (ms' := 0) d243_2 (cv10_418 243 rfl) rfl (by decide) rfl rfl (by omega) (Nat.le_of_ble_eq_true rfl) (Nat.le_of_ble_eq_true rfl) (lt_w1 rfl) sh260 (Nat.le_refl _) (Nat.le_refl _) ?_
  refine c241g (c := c) (T := T) (n := n) (dep := p) (s := s) v1 v2 (fun h1 => ?_) (fun h1 => ?_)
  ·
    show j_W 243 d 0 0 0 0 5 [some (.ref 260), some (.int (nI c))] [.int 1] w1 (I, D, RR R) Q
    refine q_if_eq (tgt := 15) d243_5 rfl (fun h => absurd h (by decide)) (fun _ => ?_)
    refine q_aload_n d243_8 rfl ?_
    refine q_invV (o := 260) (ci := 10) (av := []) (rest := []) (d' := 6) (mc' := 0) (ms' := 0) d243_9 (cv10_421 243 rfl) rfl (by decide) rfl rfl (by omega) (Nat.le_of_ble_eq_true rfl) (Nat.le_of_ble_eq_true rfl) (lt_w1 rfl) sh260 (Nat.le_refl _) (Nat.le_refl _) ?_
    refine rr_next (T := T) (n := n) (dep := p) (s := s) (s' := s1) (v3 h1) (v4 h1) v1 (v5 h1) (fun J2 h3 h4 => ?_)
    show j_W 243 d 0 0 0 0 12 [some (.ref 260), some (.int (nI c))] [] w1 (J2, D, RR R) Q
    refine q_goto (tgt := 20) d243_12 rfl ?_
    exact q_ret d243_20 rfl (Nat.le_refl _) (Nat.le_refl _) (v6 h1 J2 h3 h4)
  ·
    show j_W 243 d 0 0 0 0 5 [some (.ref 260), some (.int (nI c))] [.int 0] w1 (I, D, RR R) Q
    refine q_if_eq (tgt := 15) d243_5 rfl (fun _ => ?_) (fun h => absurd h (by decide))
    refine q_aload_n d243_15 rfl ?_
    refine q_iconst (v := 1) (by decide) d243_16 ?_
    refine q_putZ d243_17 (fs10_357 243 rfl) (Or.inl rfl) rfl (Or.inr rfl) (lt_w1 rfl) sh260 ?_
    exact q_ret d243_20 rfl (Nat.le_refl _) (Nat.le_refl _) (v7 h1)

set_option maxRecDepth 10000 in
set_option maxHeartbeats 4000000 in
theorem r243b {d : Nat} {I : Nat → Nat → Int32} {D : Nat → Nat → UInt64} {R : Nat → Nat → Option Nat} {Q : j_Po} {c : Nat} {T : Nat → Nat} {n : Nat} {s : PSt} {p : Nat} (hc : c < 256) (hd : 1 ≤ d)
    (v1 : RRG T n p s I D)
    (v2 : c < 256)
    (v3 : ((ptk s).1 = c) → j_W 243 d 0 0 0 0 8 [some (.ref 260), some (.int (nI c))] [] w1 (I, D, RR R) Q)
    (v4 : (¬ (ptk s).1 = c) → Q none w1 ((j_u I 260 46 1), D, RR R)) : j_Call d 243 [.ref 260, .int (nI c)] w1 (I, D, RR R) 0 0 Q := by
  refine q_enter (L := [some (.ref 260), some (.int (nI c))]) j_m243 (Nat.le_of_ble_eq_true rfl) rfl ?_
  refine q_aload_n d243_0 rfl ?_
  refine q_iload_n d243_1 rfl ?_
  refine q_invV (o := 260) (ci := 10) (av := [.int (nI c)]) (rest := []) (d' := 0) (mc' := 0) (ms' := 0) d243_2 (cv10_418 243 rfl) rfl (by decide) rfl rfl (by omega) (Nat.le_of_ble_eq_true rfl) (Nat.le_of_ble_eq_true rfl) (lt_w1 rfl) sh260 (Nat.le_refl _) (Nat.le_refl _) ?_
  refine c241g (c := c) (T := T) (n := n) (dep := p) (s := s) v1 v2 (fun h1 => ?_) (fun h1 => ?_)
  ·
    show j_W 243 d 0 0 0 0 5 [some (.ref 260), some (.int (nI c))] [.int 1] w1 (I, D, RR R) Q
    refine q_if_eq (tgt := 15) d243_5 rfl (fun h => absurd h (by decide)) (fun _ => ?_)
    exact r_sub (L' := [some (.ref 260), some (.int (nI c))]) ⟨rfl, rfl, trivial⟩ (v3 h1)
  ·
    show j_W 243 d 0 0 0 0 5 [some (.ref 260), some (.int (nI c))] [.int 0] w1 (I, D, RR R) Q
    refine q_if_eq (tgt := 15) d243_5 rfl (fun _ => ?_) (fun h => absurd h (by decide))
    refine q_aload_n d243_15 rfl ?_
    refine q_iconst (v := 1) (by decide) d243_16 ?_
    refine q_putZ d243_17 (fs10_357 243 rfl) (Or.inl rfl) rfl (Or.inr rfl) (lt_w1 rfl) sh260 ?_
    exact q_ret d243_20 rfl (Nat.le_refl _) (Nat.le_refl _) (v4 h1)

section RN8
variable {d : Nat} {I : Nat → Nat → Int32} {D : Nat → Nat → UInt64} {R : Nat → Nat → Option Nat} {Q : j_Po} {T : Nat → Nat} {n dep : Nat} {s s' : PSt}
theorem c242f (h : RRG T n 4 s I D) (hq : Q (some (.int 0)) w1 ((j_u I 260 46 1), D, RR R)) : j_Call d 242 [.ref 260] w1 (I, D, RR R) 0 0 Q :=
  r242f h.2.2.2.2.2.2.1 (Nat.zero_le _) hq
theorem c242g {p : Nat} (hp : p < 4) (hN : nxP T n s s') (hs : okP n s) (h : RRG T n p s I D) (hd : 7 ≤ d) (hq : ∀ J, RRs T n (p + 1) s' J D → RRg I D J D → Q (some (.int 1)) w1 (J, D, RR R)) : j_Call d 242 [.ref 260] w1 (I, D, RR R) 0 0 Q :=
  r242g h.2.2.2.2.2.2.1 hp hd (fun _ _ => hN) (fun _ _ => hs) (fun _ _ => h.op) (fun _ _ => Nat.le_refl _) (fun _ _ J h1 h2 => hq J h1 ((RRg.u (by decide) (by decide)).tr h2)) (fun _ h' => absurd h.2.2.1 h') (fun h' => absurd h' (by omega))
theorem c243g {c : Nat} (hc : c < 256) (ht : (ptk s).1 = c) (hN : nxP T n s s') (hs : okP n s) (h : RRG T n dep s I D) (hd : 7 ≤ d) (hq : ∀ J, RRs T n dep s' J D → RRg I D J D → Q none w1 (J, D, RR R)) : j_Call d 243 [.ref 260, .int (nI c)] w1 (I, D, RR R) 0 0 Q :=
  r243g hc hd h hc (fun _ => hN) (fun _ => hs) (fun _ => Nat.le_refl _) (fun _ J h1 h2 => hq J h1 h2) (fun h9 => absurd ht h9)
theorem c243b {c : Nat} (h : RRG T n dep s I D) (hc : c < 256) (ht : ¬ (ptk s).1 = c) (hd : 1 ≤ d) (hq : Q none w1 ((j_u I 260 46 1), D, RR R)) : j_Call d 243 [.ref 260, .int (nI c)] w1 (I, D, RR R) 0 0 Q :=
  r243b hc hd h hc (fun h' => absurd h' ht) (fun _ => hq)
theorem c214k {x w : Nat} (hs : okP n s) (hx : x < 8) (hM : WM T (pb s) (pe s) x) (hw : rwd x = w) (h : RRG T n dep s I D) (hd : 5 ≤ d) (hq : Q (some (.int (nI w))) w1 (I, D, RR R)) : j_Call d 214 [.ref 260] w1 (I, D, RR R) 0 0 Q :=
  c214 h.1 h.2.1 h.2.2.2.1 hs.1 hs.2.1 hd (fun q hq1 hq2 => by rw [WM.eq hq1 hx hq2 hM, hw]; exact hq) (fun h' => absurd hM (h' x hx))
end RN8
set_option maxRecDepth 10000 in
set_option maxHeartbeats 4000000 in
theorem r240e {d : Nat} {I : Nat → Nat → Int32} {D : Nat → Nat → UInt64} {R : Nat → Nat → Option Nat} {Q : j_Po} {q : Nat} {T : Nat → Nat} {n : Nat} {s : PSt} {p : Nat}  (hd : 1 ≤ d)
    (v1 : RRG T n p s I D)
    (v2 : 40 < 256)
    (v3 : ((ptk s).1 = 40) → j_W 240 d 0 0 0 0 15 [some (.ref 260), some (.int (nI q)), none] [] w1 (I, D, RR R) Q)
    (v4 : (¬ (ptk s).1 = 40) → Q none w1 ((j_u I 260 46 1), D, RR R)) : j_Call d 240 [.ref 260, .int (nI q)] w1 (I, D, RR R) 0 0 Q := by
  refine q_enter (L := [some (.ref 260), some (.int (nI q)), none]) j_m240 (Nat.le_of_ble_eq_true rfl) rfl ?_
  refine q_aload_n d240_0 rfl ?_
  refine q_bipush (v := 40) (by decide) d240_1 ?_
  refine q_invV (o := 260) (ci := 10) (av := [.int 40]) (rest := []) (d' := 0) (mc' := 0) (ms' := 0) d240_3 (cv10_418 240 rfl) rfl (by decide) rfl rfl (by omega) (Nat.le_of_ble_eq_true rfl) (Nat.le_of_ble_eq_true rfl) (lt_w1 rfl) sh260 (Nat.le_refl _) (Nat.le_refl _) ?_
  refine c241g (c := 40) (T := T) (n := n) (dep := p) (s := s) v1 v2 (fun h1 => ?_) (fun h1 => ?_)
  ·
    show j_W 240 d 0 0 0 0 6 [some (.ref 260), some (.int (nI q)), none] [.int 1] w1 (I, D, RR R) Q
    refine q_if_ne (tgt := 15) d240_6 rfl (fun _ => ?_) (fun h => absurd h (by decide))
    exact r_sub (L' := [some (.ref 260), some (.int (nI q)), none]) ⟨rfl, rfl, trivial⟩ (v3 h1)
  ·
    show j_W 240 d 0 0 0 0 6 [some (.ref 260), some (.int (nI q)), none] [.int 0] w1 (I, D, RR R) Q
    refine q_if_ne (tgt := 15) d240_6 rfl (fun h => absurd h (by decide)) (fun _ => ?_)
    refine q_aload_n d240_9 rfl ?_
    refine q_iconst (v := 1) (by decide) d240_10 ?_
    refine q_putZ d240_11 (fs10_357 240 rfl) (Or.inl rfl) rfl (Or.inr rfl) (lt_w1 rfl) sh260 ?_
    exact q_ret d240_14 rfl (Nat.le_refl _) (Nat.le_refl _) (v4 h1)

set_option maxRecDepth 10000 in
set_option maxHeartbeats 4000000 in
theorem r240a {d : Nat} {I : Nat → Nat → Int32} {D : Nat → Nat → UInt64} {R : Nat → Nat → Option Nat} {Q : j_Po} {q : Nat} {T : Nat → Nat} {n : Nat} {s s1 : PSt} {o : POut} {p : Nat} (hq3 : q ≤ 3) (hq1 : 1 ≤ q) (hp : p < 4) (hC : RKc T n R (6 + 5 * (4 - p)) (p + 1) 234 [.ref 260] s1 o) (hd : (7 + 5 * (4 - p)) ≤ d)
    (v1 : p < 4)
    (v2 : nxP T n s s1)
    (v3 : okP n s)
    (v4 : RRG T n p s I D)
    (v5 : 7 ≤ 7)
    (v6 : ∀ J1 : Nat → Nat → Int32, (RRs T n (p + 1) s1 J1 D) → (RRg I D J1 D) → (q ≤ 0) → j_W 240 d 0 0 0 0 50 [some (.ref 260), some (.int (nI q)), some (.int 0)] [] w1 (J1, D, RR R) Q)
    (v7 : ∀ J1 : Nat → Nat → Int32, (RRs T n (p + 1) s1 J1 D) → (RRg I D J1 D) → (¬ q ≤ 0) → okP n s1)
    (v8 : ∀ J1 : Nat → Nat → Int32, (RRs T n (p + 1) s1 J1 D) → (RRg I D J1 D) → (¬ q ≤ 0) → pz s1 ≤ pb s1)
    (v9 : ∀ J1 : Nat → Nat → Int32, (RRs T n (p + 1) s1 J1 D) → (RRg I D J1 D) → (¬ q ≤ 0) → tkK (ptk s1))
    (v10 : ∀ J1 : Nat → Nat → Int32, (RRs T n (p + 1) s1 J1 D) → (RRg I D J1 D) → (¬ q ≤ 0) → RRs T n (p + 1) s1 J1 D)
    (v11 : ∀ J1 : Nat → Nat → Int32, (RRs T n (p + 1) s1 J1 D) → (RRg I D J1 D) → (¬ q ≤ 0) → ∀ J5 : Nat → Nat → Int32, ∀ E6 : Nat → Nat → UInt64, (RRo T n (p + 1) o J5 E6) → (RRg J1 D J5 E6) → j_W 240 d 0 0 0 0 44 [some (.ref 260), some (.int (nI q)), some (.int 0)] [] w1 (J5, E6, RR R) Q) : j_W 240 d 0 0 0 0 15 [some (.ref 260), some (.int (nI q)), none] [] w1 (I, D, RR R) Q := by
  refine q_aload_n d240_15 rfl ?_
  refine q_invV (o := 260) (ci := 10) (av := []) (rest := []) (d' := 7) (mc' := 0) (ms' := 0) d240_16 (cv10_441 240 rfl) rfl (by decide) rfl rfl (by omega) (Nat.le_of_ble_eq_true rfl) (Nat.le_of_ble_eq_true rfl) (lt_w1 rfl) sh260 (Nat.le_refl _) (Nat.le_refl _) ?_
  refine c242g (T := T) (n := n) (p := p) (s := s) (s' := s1) v1 v2 v3 v4 v5 (fun J1 h2 h3 => ?_)
  show j_W 240 d 0 0 0 0 19 [some (.ref 260), some (.int (nI q)), none] [.int 1] w1 (J1, D, RR R) Q
  refine q_if_ne (tgt := 23) d240_19 rfl (fun _ => ?_) (fun h => absurd h (by decide))
  refine q_iconst (v := 0) (by decide) d240_23 ?_
  refine q_istore_n (L' := [some (.ref 260), some (.int (nI q)), some (.int 0)]) d240_24 (Nat.le_of_ble_eq_true rfl) rfl ?_
  refine q_iload_n d240_25 rfl ?_
  refine q_iload_n d240_26 rfl ?_
  refine q_icmp_ge (tgt := 50) d240_27 rfl (fun h4t => ?_) (fun h4f => ?_)
  ·
    have h4tc : q ≤ 0 := (nI_leI (by omega) (by omega)).mp h4t
    exact r_sub (L' := [some (.ref 260), some (.int (nI q)), some (.int 0)]) ⟨rfl, rfl, rfl, trivial⟩ (v6 J1 h2 h3 h4tc)
  ·
    have h4fc : ¬ q ≤ 0 := mt (nI_leI (by omega) (by omega)).mpr h4f
    refine q_iload_n d240_30 rfl ?_
    refine q_if_le (tgt := 40) d240_31 rfl (fun _ => ?_) (fun h => absurd h (by decide))
    refine q_aload_n d240_40 rfl ?_
    refine q_invV (o := 260) (ci := 10) (av := []) (rest := []) (d' := (6 + 5 * (4 - p))) (mc' := 0) (ms' := 0) d240_41 (cv10_447 240 rfl) rfl (by decide) rfl rfl (by omega) (Nat.le_of_ble_eq_true rfl) (Nat.le_of_ble_eq_true rfl) (lt_w1 rfl) sh260 (Nat.le_refl _) (Nat.le_refl _) ?_
    refine hC _ _ _ _ (Nat.le_refl _) (v7 J1 h2 h3 h4fc) (v8 J1 h2 h3 h4fc) (v9 J1 h2 h3 h4fc) (v10 J1 h2 h3 h4fc) (fun J5 E6 h7 h8 => ?_)
    show j_W 240 d 0 0 0 0 44 [some (.ref 260), some (.int (nI q)), some (.int 0)] [] w1 (J5, E6, RR R) Q
    exact r_sub (L' := [some (.ref 260), some (.int (nI q)), some (.int 0)]) ⟨rfl, rfl, rfl, trivial⟩ (v11 J1 h2 h3 h4fc J5 E6 h7 h8)

set_option maxRecDepth 10000 in
set_option maxHeartbeats 4000000 in
theorem r240b {d : Nat} {I : Nat → Nat → Int32} {D : Nat → Nat → UInt64} {R : Nat → Nat → Option Nat} {Q : j_Po} {q : Nat} {T : Nat → Nat} {n : Nat} {s : PSt}  (hd : 1 ≤ d)
    (v1 : RRG T n 4 s I D)
    (v2 : Q none w1 ((j_u I 260 46 1), D, RR R)) : j_W 240 d 0 0 0 0 15 [some (.ref 260), some (.int (nI q)), none] [] w1 (I, D, RR R) Q := by
  refine q_aload_n d240_15 rfl ?_
  refine q_invV (o := 260) (ci := 10) (av := []) (rest := []) (d' := 0) (mc' := 0) (ms' := 0) d240_16 (cv10_441 240 rfl) rfl (by decide) rfl rfl (by omega) (Nat.le_of_ble_eq_true rfl) (Nat.le_of_ble_eq_true rfl) (lt_w1 rfl) sh260 (Nat.le_refl _) (Nat.le_refl _) ?_
  refine c242f (T := T) (n := n) (s := s) v1 ?_
  show j_W 240 d 0 0 0 0 19 [some (.ref 260), some (.int (nI q)), none] [.int 0] w1 ((j_u I 260 46 1), D, RR R) Q
  refine q_if_ne (tgt := 23) d240_19 rfl (fun h => absurd h (by decide)) (fun _ => ?_)
  exact q_ret d240_22 rfl (Nat.le_refl _) (Nat.le_refl _) v2

set_option maxRecDepth 10000 in
set_option maxHeartbeats 4000000 in
theorem r240i {d : Nat} {I : Nat → Nat → Int32} {D : Nat → Nat → UInt64} {R : Nat → Nat → Option Nat} {Q : j_Po} {q : Nat} {i : Nat} (hq3 : q ≤ 3) (hi9 : i ≤ 3) (hd : 0 ≤ d)
    (v1 : (q ≤ i) → j_W 240 d 0 0 0 0 50 [some (.ref 260), some (.int (nI q)), some (.int (nI i))] [] w1 (I, D, RR R) Q)
    (v2 : (¬ q ≤ i) → ((nI i) ≤ 0) → j_W 240 d 0 0 0 0 40 [some (.ref 260), some (.int (nI q)), some (.int (nI i))] [] w1 (I, D, RR R) Q)
    (v3 : (¬ q ≤ i) → (¬ (nI i) ≤ 0) → j_W 240 d 0 0 0 0 34 [some (.ref 260), some (.int (nI q)), some (.int (nI i))] [] w1 (I, D, RR R) Q) : j_W 240 d 0 0 0 0 25 [some (.ref 260), some (.int (nI q)), some (.int (nI i))] [] w1 (I, D, RR R) Q := by
  refine q_iload_n d240_25 rfl ?_
  refine q_iload_n d240_26 rfl ?_
  refine q_icmp_ge (tgt := 50) d240_27 rfl (fun h1t => ?_) (fun h1f => ?_)
  ·
    have h1tc : q ≤ i := (nI_leI (by omega) (by omega)).mp h1t
    exact r_sub (L' := [some (.ref 260), some (.int (nI q)), some (.int (nI i))]) ⟨rfl, rfl, rfl, trivial⟩ (v1 h1tc)
  ·
    have h1fc : ¬ q ≤ i := mt (nI_leI (by omega) (by omega)).mpr h1f
    refine q_iload_n d240_30 rfl ?_
    refine q_if_le (tgt := 40) d240_31 rfl (fun h2t => ?_) (fun h2f => ?_)
    ·
      exact r_sub (L' := [some (.ref 260), some (.int (nI q)), some (.int (nI i))]) ⟨rfl, rfl, rfl, trivial⟩ (v2 h1fc h2t)
    ·
      exact r_sub (L' := [some (.ref 260), some (.int (nI q)), some (.int (nI i))]) ⟨rfl, rfl, rfl, trivial⟩ (v3 h1fc h2f)

set_option maxRecDepth 10000 in
set_option maxHeartbeats 4000000 in
theorem r240c {d : Nat} {I : Nat → Nat → Int32} {D : Nat → Nat → UInt64} {R : Nat → Nat → Option Nat} {Q : j_Po} {q : Nat} {i : Nat} {T : Nat → Nat} {n : Nat} {s s1 : PSt} {o : POut} {p : Nat} (hq3 : q ≤ 3) (hi : i < q) (hp : p < 4) (hC : RKc T n R (6 + 5 * (4 - p)) (p + 1) 234 [.ref 260] s1 o) (hd : (7 + 5 * (4 - p)) ≤ d)
    (v1 : 44 < 256)
    (v2 : (ptk s).1 = 44)
    (v3 : nxP T n s s1)
    (v4 : okP n s)
    (v5 : RRG T n (p + 1) s I D)
    (v6 : 7 ≤ 7)
    (v7 : ∀ J1 : Nat → Nat → Int32, (RRs T n (p + 1) s1 J1 D) → (RRg I D J1 D) → okP n s1)
    (v8 : ∀ J1 : Nat → Nat → Int32, (RRs T n (p + 1) s1 J1 D) → (RRg I D J1 D) → pz s1 ≤ pb s1)
    (v9 : ∀ J1 : Nat → Nat → Int32, (RRs T n (p + 1) s1 J1 D) → (RRg I D J1 D) → tkK (ptk s1))
    (v10 : ∀ J1 : Nat → Nat → Int32, (RRs T n (p + 1) s1 J1 D) → (RRg I D J1 D) → RRs T n (p + 1) s1 J1 D)
    (v11 : ∀ J1 : Nat → Nat → Int32, (RRs T n (p + 1) s1 J1 D) → (RRg I D J1 D) → ∀ J4 : Nat → Nat → Int32, ∀ E5 : Nat → Nat → UInt64, (RRo T n (p + 1) o J4 E5) → (RRg J1 D J4 E5) → j_W 240 d 0 0 0 0 44 [some (.ref 260), some (.int (nI q)), some (.int (nI i))] [] w1 (J4, E5, RR R) Q) : j_W 240 d 0 0 0 0 34 [some (.ref 260), some (.int (nI q)), some (.int (nI i))] [] w1 (I, D, RR R) Q := by
  refine q_aload_n d240_34 rfl ?_
  refine q_bipush (v := 44) (by decide) d240_35 ?_
  refine q_invV (o := 260) (ci := 10) (av := [.int 44]) (rest := []) (d' := 7) (mc' := 0) (ms' := 0) d240_37 (cv10_444 240 rfl) rfl (by decide) rfl rfl (by omega) (Nat.le_of_ble_eq_true rfl) (Nat.le_of_ble_eq_true rfl) (lt_w1 rfl) sh260 (Nat.le_refl _) (Nat.le_refl _) ?_
  refine c243g (c := 44) (T := T) (n := n) (dep := (p + 1)) (s := s) (s' := s1) v1 v2 v3 v4 v5 v6 (fun J1 h2 h3 => ?_)
  show j_W 240 d 0 0 0 0 40 [some (.ref 260), some (.int (nI q)), some (.int (nI i))] [] w1 (J1, D, RR R) Q
  refine q_aload_n d240_40 rfl ?_
  refine q_invV (o := 260) (ci := 10) (av := []) (rest := []) (d' := (6 + 5 * (4 - p))) (mc' := 0) (ms' := 0) d240_41 (cv10_447 240 rfl) rfl (by decide) rfl rfl (by omega) (Nat.le_of_ble_eq_true rfl) (Nat.le_of_ble_eq_true rfl) (lt_w1 rfl) sh260 (Nat.le_refl _) (Nat.le_refl _) ?_
  refine hC _ _ _ _ (Nat.le_refl _) (v7 J1 h2 h3) (v8 J1 h2 h3) (v9 J1 h2 h3) (v10 J1 h2 h3) (fun J4 E5 h6 h7 => ?_)
  show j_W 240 d 0 0 0 0 44 [some (.ref 260), some (.int (nI q)), some (.int (nI i))] [] w1 (J4, E5, RR R) Q
  exact r_sub (L' := [some (.ref 260), some (.int (nI q)), some (.int (nI i))]) ⟨rfl, rfl, rfl, trivial⟩ (v11 J1 h2 h3 J4 E5 h6 h7)

set_option maxRecDepth 10000 in
set_option maxHeartbeats 4000000 in
theorem r240x {d : Nat} {I : Nat → Nat → Int32} {D : Nat → Nat → UInt64} {R : Nat → Nat → Option Nat} {Q : j_Po} {q : Nat} {i : Nat} {T : Nat → Nat} {n : Nat} {s : PSt} {p : Nat} (hq3 : q ≤ 3) (hi : q ≤ i) (hi9 : i ≤ 3) (h45 : I 260 45 = nI (p + 1)) (hd : 1 ≤ d)
    (v1 : (q ≤ i) → RRG T n (p + 1) s I D)
    (v2 : (q ≤ i) → 41 < 256)
    (v3 : (q ≤ i) → ((ptk s).1 = 41) → j_W 240 d 0 0 0 0 65 [some (.ref 260), some (.int (nI q)), some (.int (nI i))] [] w1 (I, D, RR R) Q)
    (v4 : (q ≤ i) → (¬ (ptk s).1 = 41) → Q none w1 ((j_u I 260 46 1), D, RR R))
    (v5 : (¬ q ≤ i) → j_W 240 d 0 0 0 0 30 [some (.ref 260), some (.int (nI q)), some (.int (nI i))] [] w1 (I, D, RR R) Q) : j_W 240 d 0 0 0 0 25 [some (.ref 260), some (.int (nI q)), some (.int (nI i))] [] w1 (I, D, RR R) Q := by
  refine q_iload_n d240_25 rfl ?_
  refine q_iload_n d240_26 rfl ?_
  refine q_icmp_ge (tgt := 50) d240_27 rfl (fun h1t => ?_) (fun h1f => ?_)
  ·
    have h1tc : q ≤ i := (nI_leI (by omega) (by omega)).mp h1t
    refine q_aload_n d240_50 rfl ?_
    refine q_bipush (v := 41) (by decide) d240_51 ?_
    refine q_invV (o := 260) (ci := 10) (av := [.int 41]) (rest := []) (d' := 0) (mc' := 0) (ms' := 0) d240_53 (cv10_418 240 rfl) rfl (by decide) rfl rfl (by omega) (Nat.le_of_ble_eq_true rfl) (Nat.le_of_ble_eq_true rfl) (lt_w1 rfl) sh260 (Nat.le_refl _) (Nat.le_refl _) ?_
    refine c241g (c := 41) (T := T) (n := n) (dep := (p + 1)) (s := s) (v1 h1tc) (v2 h1tc) (fun h2 => ?_) (fun h2 => ?_)
    ·
      show j_W 240 d 0 0 0 0 56 [some (.ref 260), some (.int (nI q)), some (.int (nI i))] [.int 1] w1 (I, D, RR R) Q
      refine q_if_ne (tgt := 65) d240_56 rfl (fun _ => ?_) (fun h => absurd h (by decide))
      exact r_sub (L' := [some (.ref 260), some (.int (nI q)), some (.int (nI i))]) ⟨rfl, rfl, rfl, trivial⟩ (v3 h1tc h2)
    ·
      show j_W 240 d 0 0 0 0 56 [some (.ref 260), some (.int (nI q)), some (.int (nI i))] [.int 0] w1 (I, D, RR R) Q
      refine q_if_ne (tgt := 65) d240_56 rfl (fun h => absurd h (by decide)) (fun _ => ?_)
      refine q_aload_n d240_59 rfl ?_
      refine q_iconst (v := 1) (by decide) d240_60 ?_
      refine q_putZ d240_61 (fs10_357 240 rfl) (Or.inl rfl) rfl (Or.inr rfl) (lt_w1 rfl) sh260 ?_
      exact q_ret d240_64 rfl (Nat.le_refl _) (Nat.le_refl _) (v4 h1tc h2)
  ·
    have h1fc : ¬ q ≤ i := mt (nI_leI (by omega) (by omega)).mpr h1f
    exact r_sub (L' := [some (.ref 260), some (.int (nI q)), some (.int (nI i))]) ⟨rfl, rfl, rfl, trivial⟩ (v5 h1fc)

set_option maxRecDepth 10000 in
set_option maxHeartbeats 4000000 in
theorem r240z {d : Nat} {I : Nat → Nat → Int32} {D : Nat → Nat → UInt64} {R : Nat → Nat → Option Nat} {Q : j_Po} {q : Nat} {i : Nat} {T : Nat → Nat} {n : Nat} {s s1 : PSt} {p : Nat} (h45 : I 260 45 = nI (p + 1)) (hp : p < 4) (hd : 7 ≤ d)
    (v1 : nxP T n s s1)
    (v2 : okP n s)
    (v3 : RRG T n p s (j_u I 260 45 ((nI (p + 1)) - 1)) D)
    (v4 : 6 ≤ 6)
    (v5 : ∀ J1 : Nat → Nat → Int32, (RRs T n p s1 J1 D) → (RRg (j_u I 260 45 ((nI (p + 1)) - 1)) D J1 D) → Q none w1 (J1, D, RR R)) : j_W 240 d 0 0 0 0 65 [some (.ref 260), some (.int (nI q)), some (.int (nI i))] [] w1 (I, D, RR R) Q := by
  refine q_aload_n d240_65 rfl ?_
  refine q_dup rfl d240_66 ?_
  refine q_getI d240_67 (fs10_438 240 rfl) rfl (lt_w1 rfl) sh260 ?_
  refine r_int (y := (nI (p + 1))) (show I 260 45 = (nI (p + 1)) from h45) ?_
  refine q_iconst (v := 1) (by decide) d240_70 ?_
  refine q_isub d240_71 ?_
  refine q_putI d240_72 (fs10_438 240 rfl) (Or.inl rfl) rfl (lt_w1 rfl) sh260 ?_
  refine q_aload_n d240_75 rfl ?_
  refine q_invV (o := 260) (ci := 10) (av := []) (rest := []) (d' := 6) (mc' := 0) (ms' := 0) d240_76 (cv10_421 240 rfl) rfl (by decide) rfl rfl (by omega) (Nat.le_of_ble_eq_true rfl) (Nat.le_of_ble_eq_true rfl) (lt_w1 rfl) sh260 (Nat.le_refl _) (Nat.le_refl _) ?_
  refine rr_next (T := T) (n := n) (dep := p) (s := s) (s' := s1) v1 v2 v3 v4 (fun J1 h2 h3 => ?_)
  show j_W 240 d 0 0 0 0 79 [some (.ref 260), some (.int (nI q)), some (.int (nI i))] [] w1 (J1, D, RR R) Q
  exact q_ret d240_79 rfl (Nat.le_refl _) (Nat.le_refl _) (v5 J1 h2 h3)

set_option maxRecDepth 10000 in
set_option maxHeartbeats 4000000 in
theorem r240y {d : Nat} {I : Nat → Nat → Int32} {D : Nat → Nat → UInt64} {R : Nat → Nat → Option Nat} {Q : j_Po} {q : Nat} {i : Nat} {T : Nat → Nat} {n : Nat} {s : PSt} {p : Nat} (hq3 : q ≤ 3) (hi : i < q) (hd : 4 ≤ d)
    (v1 : RRG T n (p + 1) s I D)
    (v2 : 44 < 256)
    (v3 : ¬ (ptk s).1 = 44)
    (v4 : 1 ≤ 1)
    (v5 : (j_u I 260 46 1) 260 46 = 1)
    (v6 : 3 ≤ 3)
    (v7 : j_W 240 d 0 0 0 0 44 [some (.ref 260), some (.int (nI q)), some (.int (nI i))] [] w1 ((j_u I 260 46 1), D, RR R) Q) : j_W 240 d 0 0 0 0 34 [some (.ref 260), some (.int (nI q)), some (.int (nI i))] [] w1 (I, D, RR R) Q := by
  refine q_aload_n d240_34 rfl ?_
  refine q_bipush (v := 44) (by decide) d240_35 ?_
  refine q_invV (o := 260) (ci := 10) (av := [.int 44]) (rest := []) (d' := 1) (mc' := 0) (ms' := 0) d240_37 (cv10_444 240 rfl) rfl (by decide) rfl rfl (by omega) (Nat.le_of_ble_eq_true rfl) (Nat.le_of_ble_eq_true rfl) (lt_w1 rfl) sh260 (Nat.le_refl _) (Nat.le_refl _) ?_
  refine c243b (c := 44) (T := T) (n := n) (dep := (p + 1)) (s := s) v1 v2 v3 v4 ?_
  show j_W 240 d 0 0 0 0 40 [some (.ref 260), some (.int (nI q)), some (.int (nI i))] [] w1 ((j_u I 260 46 1), D, RR R) Q
  refine q_aload_n d240_40 rfl ?_
  refine q_invV (o := 260) (ci := 10) (av := []) (rest := []) (d' := 3) (mc' := 0) (ms' := 0) d240_41 (cv10_447 240 rfl) rfl (by decide) rfl rfl (by omega) (Nat.le_of_ble_eq_true rfl) (Nat.le_of_ble_eq_true rfl) (lt_w1 rfl) sh260 (Nat.le_refl _) (Nat.le_refl _) ?_
  refine c234w v5 v6 ?_
  show j_W 240 d 0 0 0 0 44 [some (.ref 260), some (.int (nI q)), some (.int (nI i))] [] w1 ((j_u I 260 46 1), D, RR R) Q
  exact r_sub (L' := [some (.ref 260), some (.int (nI q)), some (.int (nI i))]) ⟨rfl, rfl, rfl, trivial⟩ v7

set_option maxRecDepth 10000 in
set_option maxHeartbeats 4000000 in
theorem r240u {d : Nat} {I : Nat → Nat → Int32} {D : Nat → Nat → UInt64} {R : Nat → Nat → Option Nat} {Q : j_Po} {q : Nat} {i : Nat} {T : Nat → Nat} {n : Nat} {s : PSt} {p : Nat} (hq3 : q ≤ 3) (hi : q ≤ i) (hi9 : i ≤ 3) (hd : 1 ≤ d)
    (v1 : (q ≤ i) → RRG T n (p + 1) s I D)
    (v2 : (q ≤ i) → 41 < 256)
    (v3 : (q ≤ i) → ((ptk s).1 = 41) → j_W 240 d 0 0 0 0 65 [some (.ref 260), some (.int (nI q)), some (.int (nI i))] [] w1 (I, D, RR R) Q)
    (v4 : (q ≤ i) → (¬ (ptk s).1 = 41) → Q none w1 ((j_u I 260 46 1), D, RR R))
    (v5 : (¬ q ≤ i) → j_W 240 d 0 0 0 0 30 [some (.ref 260), some (.int (nI q)), some (.int (nI i))] [] w1 (I, D, RR R) Q) : j_W 240 d 0 0 0 0 25 [some (.ref 260), some (.int (nI q)), some (.int (nI i))] [] w1 (I, D, RR R) Q := by
  refine q_iload_n d240_25 rfl ?_
  refine q_iload_n d240_26 rfl ?_
  refine q_icmp_ge (tgt := 50) d240_27 rfl (fun h1t => ?_) (fun h1f => ?_)
  ·
    have h1tc : q ≤ i := (nI_leI (by omega) (by omega)).mp h1t
    refine q_aload_n d240_50 rfl ?_
    refine q_bipush (v := 41) (by decide) d240_51 ?_
    refine q_invV (o := 260) (ci := 10) (av := [.int 41]) (rest := []) (d' := 0) (mc' := 0) (ms' := 0) d240_53 (cv10_418 240 rfl) rfl (by decide) rfl rfl (by omega) (Nat.le_of_ble_eq_true rfl) (Nat.le_of_ble_eq_true rfl) (lt_w1 rfl) sh260 (Nat.le_refl _) (Nat.le_refl _) ?_
    refine c241g (c := 41) (T := T) (n := n) (dep := (p + 1)) (s := s) (v1 h1tc) (v2 h1tc) (fun h2 => ?_) (fun h2 => ?_)
    ·
      show j_W 240 d 0 0 0 0 56 [some (.ref 260), some (.int (nI q)), some (.int (nI i))] [.int 1] w1 (I, D, RR R) Q
      refine q_if_ne (tgt := 65) d240_56 rfl (fun _ => ?_) (fun h => absurd h (by decide))
      exact r_sub (L' := [some (.ref 260), some (.int (nI q)), some (.int (nI i))]) ⟨rfl, rfl, rfl, trivial⟩ (v3 h1tc h2)
    ·
      show j_W 240 d 0 0 0 0 56 [some (.ref 260), some (.int (nI q)), some (.int (nI i))] [.int 0] w1 (I, D, RR R) Q
      refine q_if_ne (tgt := 65) d240_56 rfl (fun h => absurd h (by decide)) (fun _ => ?_)
      refine q_aload_n d240_59 rfl ?_
      refine q_iconst (v := 1) (by decide) d240_60 ?_
      refine q_putZ d240_61 (fs10_357 240 rfl) (Or.inl rfl) rfl (Or.inr rfl) (lt_w1 rfl) sh260 ?_
      exact q_ret d240_64 rfl (Nat.le_refl _) (Nat.le_refl _) (v4 h1tc h2)
  ·
    have h1fc : ¬ q ≤ i := mt (nI_leI (by omega) (by omega)).mpr h1f
    exact r_sub (L' := [some (.ref 260), some (.int (nI q)), some (.int (nI i))]) ⟨rfl, rfl, rfl, trivial⟩ (v5 h1fc)

set_option maxRecDepth 10000 in
set_option maxHeartbeats 4000000 in
theorem r237e {d : Nat} {I : Nat → Nat → Int32} {D : Nat → Nat → UInt64} {R : Nat → Nat → Option Nat} {Q : j_Po}   (hd : 0 ≤ d)
    (v1 : ((I 260 46) = 0) → j_W 237 d 0 0 0 0 8 [some (.ref 260), none] [] w1 (I, D, RR R) Q)
    (v2 : (¬ (I 260 46) = 0) → Q none w1 (I, D, RR R)) : j_Call d 237 [.ref 260] w1 (I, D, RR R) 0 0 Q := by
  refine q_enter (L := [some (.ref 260), none]) j_m237 (Nat.le_of_ble_eq_true rfl) rfl ?_
  refine q_aload_n d237_0 rfl ?_
  refine q_getI d237_1 (fs10_357 237 rfl) rfl (lt_w1 rfl) sh260 ?_
  refine q_if_eq (tgt := 8) d237_4 rfl (fun h1t => ?_) (fun h1f => ?_)
  ·
    exact r_sub (L' := [some (.ref 260), none]) ⟨rfl, trivial⟩ (v1 h1t)
  ·
    exact q_ret d237_7 rfl (Nat.le_refl _) (Nat.le_refl _) (v2 h1f)

set_option maxRecDepth 10000 in
set_option maxHeartbeats 4000000 in
theorem r237a {d : Nat} {I : Nat → Nat → Int32} {D : Nat → Nat → UInt64} {R : Nat → Nat → Option Nat} {Q : j_Po}  {k : Nat} (h41 : I 260 41 = nI k) (hk4 : k < 4) (hd : 0 ≤ d)
    (v1 : (¬ k = 2) → (¬ k = 1) → j_W 237 d 0 0 0 0 205 [some (.ref 260), none] [] w1 (I, D, RR R) Q)
    (v2 : (¬ k = 2) → (k = 1) → j_W 237 d 0 0 0 0 95 [some (.ref 260), none] [] w1 (I, D, RR R) Q)
    (v3 : (k = 2) → j_W 237 d 0 0 0 0 16 [some (.ref 260), none] [] w1 (I, D, RR R) Q) : j_W 237 d 0 0 0 0 8 [some (.ref 260), none] [] w1 (I, D, RR R) Q := by
  refine q_aload_n d237_8 rfl ?_
  refine q_getI d237_9 (fs10_364 237 rfl) rfl (lt_w1 rfl) sh260 ?_
  refine r_int (y := (nI k)) (show I 260 41 = (nI k) from h41) ?_
  refine q_iconst (v := 2) (by decide) d237_12 ?_
  refine q_icmp_ne (tgt := 87) d237_13 rfl (fun h1t => ?_) (fun h1f => ?_)
  ·
    have h1tc : ¬ k = 2 := mt (nI_eqN (by omega) (by omega)).mpr h1t
    refine q_aload_n d237_87 rfl ?_
    refine q_getI d237_88 (fs10_364 237 rfl) rfl (lt_w1 rfl) sh260 ?_
    refine r_int (y := (nI k)) (show I 260 41 = (nI k) from h41) ?_
    refine q_iconst (v := 1) (by decide) d237_91 ?_
    refine q_icmp_ne (tgt := 130) d237_92 rfl (fun h2t => ?_) (fun h2f => ?_)
    ·
      have h2tc : ¬ k = 1 := mt (nI_eqN (by omega) (by omega)).mpr h2t
      refine q_aload_n d237_130 rfl ?_
      refine q_getI d237_131 (fs10_364 237 rfl) rfl (lt_w1 rfl) sh260 ?_
      refine r_int (y := (nI k)) (show I 260 41 = (nI k) from h41) ?_
      refine q_iconst (v := 1) (by decide) d237_134 ?_
      refine q_icmp_ne (tgt := 205) d237_135 rfl (fun h3t => ?_) (fun h3f => ?_)
      ·
        have h3tc : ¬ k = 1 := mt (nI_eqN (by omega) (by omega)).mpr h3t
        exact r_sub (L' := [some (.ref 260), none]) ⟨rfl, trivial⟩ (v1 h1tc h2tc)
      ·
        have h3fc : k = 1 := (nI_eqN (by omega) (by omega)).mp h3f
        exact False.elim (by first | exact absurd h3fc h2tc | exact absurd h2tc h3fc | exact (Int32.not_lt.mpr h3fc) h2tc | exact (Int32.not_lt.mpr h2tc) h3fc | exact h3fc (Int32.not_le.mp h2tc) | exact h2tc (Int32.not_le.mp h3fc) | omega)
    ·
      have h2fc : k = 1 := (nI_eqN (by omega) (by omega)).mp h2f
      exact r_sub (L' := [some (.ref 260), none]) ⟨rfl, trivial⟩ (v2 h1tc h2fc)
  ·
    have h1fc : k = 2 := (nI_eqN (by omega) (by omega)).mp h1f
    exact r_sub (L' := [some (.ref 260), none]) ⟨rfl, trivial⟩ (v3 h1fc)

set_option maxRecDepth 10000 in
set_option maxHeartbeats 4000000 in
theorem r237b {d : Nat} {I : Nat → Nat → Int32} {D : Nat → Nat → UInt64} {R : Nat → Nat → Option Nat} {Q : j_Po}  {b e : Nat} (h41 : I 260 41 = nI 1) (h39 : I 260 39 = nI e) (h40 : I 260 40 = nI b) (hbe : b ≤ e) (he9 : e ≤ 96) (hd : 0 ≤ d)
    (v1 : (¬ ((nI e) - (nI b)) = 1) → j_W 237 d 0 0 0 0 138 [some (.ref 260), none] [] w1 (I, D, RR R) Q)
    (v2 : (((nI e) - (nI b)) = 1) → j_W 237 d 0 0 0 0 108 [some (.ref 260), none] [] w1 (I, D, RR R) Q) : j_W 237 d 0 0 0 0 95 [some (.ref 260), none] [] w1 (I, D, RR R) Q := by
  refine q_aload_n d237_95 rfl ?_
  refine q_getI d237_96 (fs10_351 237 rfl) rfl (lt_w1 rfl) sh260 ?_
  refine r_int (y := (nI e)) (show I 260 39 = (nI e) from h39) ?_
  refine q_aload_n d237_99 rfl ?_
  refine q_getI d237_100 (fs10_361 237 rfl) rfl (lt_w1 rfl) sh260 ?_
  refine r_int (y := (nI b)) (show I 260 40 = (nI b) from h40) ?_
  refine q_isub d237_103 ?_
  refine q_iconst (v := 1) (by decide) d237_104 ?_
  refine q_icmp_ne (tgt := 130) d237_105 rfl (fun h1t => ?_) (fun h1f => ?_)
  ·
    refine q_aload_n d237_130 rfl ?_
    refine q_getI d237_131 (fs10_364 237 rfl) rfl (lt_w1 rfl) sh260 ?_
    refine r_int (y := (nI 1)) (show I 260 41 = (nI 1) from h41) ?_
    refine q_iconst (v := 1) (by decide) d237_134 ?_
    refine q_icmp_ne (tgt := 205) d237_135 rfl (fun h2t => ?_) (fun h2f => ?_)
    ·
      have h2tc : ¬ 1 = 1 := mt (nI_eqN (by omega) (by omega)).mpr h2t
      exact False.elim (by exact absurd h2tc (by decide))
    ·
      have h2fc : 1 = 1 := (nI_eqN (by omega) (by omega)).mp h2f
      exact r_sub (L' := [some (.ref 260), none]) ⟨rfl, trivial⟩ (v1 h1t)
  ·
    exact r_sub (L' := [some (.ref 260), none]) ⟨rfl, trivial⟩ (v2 h1f)

set_option maxRecDepth 10000 in
set_option maxHeartbeats 4000000 in
theorem r237c {d : Nat} {I : Nat → Nat → Int32} {D : Nat → Nat → UInt64} {R : Nat → Nat → Option Nat} {Q : j_Po}  {T : Nat → Nat} {n : Nat} {s t1 : PSt} {p : Nat} {b : Nat} (h40 : I 260 40 = nI b) (hd : 7 ≤ d)
    (v1 : TR T n I)
    (v2 : b < 200)
    (v3 : (b < n) → ∀ m F, MRj m (1, (T b - 97)) ((nI (T b)) - 97) F)
    (v4 : (b < n) → pz s < 96)
    (v5 : (b < n) → RRG T n p s I D)
    (v6 : (b < n) → ∀ J2 : Nat → Nat → Int32, (RRG T n p (addP s 1 (T b - 97)) J2 D) → (RRg I D J2 D) → nxP T n (addP s 1 (T b - 97)) t1)
    (v7 : (b < n) → ∀ J2 : Nat → Nat → Int32, (RRG T n p (addP s 1 (T b - 97)) J2 D) → (RRg I D J2 D) → okP n (addP s 1 (T b - 97)))
    (v8 : (b < n) → ∀ J2 : Nat → Nat → Int32, (RRG T n p (addP s 1 (T b - 97)) J2 D) → (RRg I D J2 D) → RRG T n p (addP s 1 (T b - 97)) J2 D)
    (v9 : (b < n) → ∀ J2 : Nat → Nat → Int32, (RRG T n p (addP s 1 (T b - 97)) J2 D) → (RRg I D J2 D) → 6 ≤ 6)
    (v10 : (b < n) → ∀ J2 : Nat → Nat → Int32, (RRG T n p (addP s 1 (T b - 97)) J2 D) → (RRg I D J2 D) → ∀ J5 : Nat → Nat → Int32, (RRs T n p t1 J5 D) → (RRg J2 D J5 D) → Q none w1 (J5, D, RR R))
    (v11 : (¬ b < n) → ∀ m F, MRj m (1, (T b - 97)) (-98) F)
    (v12 : (¬ b < n) → pz t1 < 96)
    (v13 : (¬ b < n) → RRG T n p t1 I D)
    (v14 : (¬ b < n) → ∀ J8 : Nat → Nat → Int32, (RRG T n p (addP t1 1 (T b - 97)) J8 D) → (RRg I D J8 D) → nxP T n (addP t1 1 (T b - 97)) t1)
    (v15 : (¬ b < n) → ∀ J8 : Nat → Nat → Int32, (RRG T n p (addP t1 1 (T b - 97)) J8 D) → (RRg I D J8 D) → okP n (addP t1 1 (T b - 97)))
    (v16 : (¬ b < n) → ∀ J8 : Nat → Nat → Int32, (RRG T n p (addP t1 1 (T b - 97)) J8 D) → (RRg I D J8 D) → RRG T n p (addP t1 1 (T b - 97)) J8 D)
    (v17 : (¬ b < n) → ∀ J8 : Nat → Nat → Int32, (RRG T n p (addP t1 1 (T b - 97)) J8 D) → (RRg I D J8 D) → 6 ≤ 6)
    (v18 : (¬ b < n) → ∀ J8 : Nat → Nat → Int32, (RRG T n p (addP t1 1 (T b - 97)) J8 D) → (RRg I D J8 D) → ∀ J11 : Nat → Nat → Int32, (RRs T n p t1 J11 D) → (RRg J8 D J11 D) → Q none w1 (J11, D, RR R)) : j_W 237 d 0 0 0 0 108 [some (.ref 260), none] [] w1 (I, D, RR R) Q := by
  refine q_aload_n d237_108 rfl ?_
  refine q_aload_n d237_109 rfl ?_
  refine q_aload_n d237_110 rfl ?_
  refine q_getI d237_111 (fs10_361 237 rfl) rfl (lt_w1 rfl) sh260 ?_
  refine r_int (y := (nI b)) (show I 260 40 = (nI b) from h40) ?_
  refine q_invV (o := 260) (ci := 10) (av := [.int (nI b)]) (rest := [.ref 260]) (d' := 0) (mc' := 0) (ms' := 0) d237_114 (cv10_354 237 rfl) rfl (by decide) rfl rfl (by omega) (Nat.le_of_ble_eq_true rfl) (Nat.le_of_ble_eq_true rfl) (lt_w1 rfl) sh260 (Nat.le_refl _) (Nat.le_refl _) ?_
  refine c213 (T := T) (n := n) v1 v2 (fun h1 => ?_) (fun h1 => ?_)
  ·
    show j_W 237 d 0 0 0 0 117 [some (.ref 260), none] [.int (nI (T b)), .ref 260] w1 (I, D, RR R) Q
    refine q_bipush (v := 97) (by decide) d237_117 ?_
    refine q_isub d237_119 ?_
    refine q_invV (o := 260) (ci := 10) (av := [.int ((nI (T b)) - 97)]) (rest := []) (d' := 0) (mc' := 0) (ms' := 0) d237_120 (cv10_429 237 rfl) rfl (by decide) rfl rfl (by omega) (Nat.le_of_ble_eq_true rfl) (Nat.le_of_ble_eq_true rfl) (lt_w1 rfl) sh260 (Nat.le_refl _) (Nat.le_refl _) ?_
    refine rr_mark (a := 1) (w := (T b - 97)) (x := ((nI (T b)) - 97)) (T := T) (n := n) (dep := p) (s := s) (v3 h1) (v4 h1) (v5 h1) (fun J2 h3 h4 => ?_)
    show j_W 237 d 0 0 0 0 123 [some (.ref 260), none] [] w1 (J2, D, RR R) Q
    refine q_aload_n d237_123 rfl ?_
    refine q_invV (o := 260) (ci := 10) (av := []) (rest := []) (d' := 6) (mc' := 0) (ms' := 0) d237_124 (cv10_421 237 rfl) rfl (by decide) rfl rfl (by omega) (Nat.le_of_ble_eq_true rfl) (Nat.le_of_ble_eq_true rfl) (lt_w1 rfl) sh260 (Nat.le_refl _) (Nat.le_refl _) ?_
    refine rr_next (T := T) (n := n) (dep := p) (s := (addP s 1 (T b - 97))) (s' := t1) (v6 h1 J2 h3 h4) (v7 h1 J2 h3 h4) (v8 h1 J2 h3 h4) (v9 h1 J2 h3 h4) (fun J5 h6 h7 => ?_)
    show j_W 237 d 0 0 0 0 127 [some (.ref 260), none] [] w1 (J5, D, RR R) Q
    refine q_goto (tgt := 268) d237_127 rfl ?_
    exact q_ret d237_268 rfl (Nat.le_refl _) (Nat.le_refl _) (v10 h1 J2 h3 h4 J5 h6 h7)
  ·
    show j_W 237 d 0 0 0 0 117 [some (.ref 260), none] [.int (-1), .ref 260] w1 (I, D, RR R) Q
    refine q_bipush (v := 97) (by decide) d237_117 ?_
    refine q_isub d237_119 ?_
    refine r_int (y := (-98)) (by decide) ?_
    refine q_invV (o := 260) (ci := 10) (av := [.int (-98)]) (rest := []) (d' := 0) (mc' := 0) (ms' := 0) d237_120 (cv10_429 237 rfl) rfl (by decide) rfl rfl (by omega) (Nat.le_of_ble_eq_true rfl) (Nat.le_of_ble_eq_true rfl) (lt_w1 rfl) sh260 (Nat.le_refl _) (Nat.le_refl _) ?_
    refine rr_mark (a := 1) (w := (T b - 97)) (x := (-98)) (T := T) (n := n) (dep := p) (s := t1) (v11 h1) (v12 h1) (v13 h1) (fun J8 h9 h10 => ?_)
    show j_W 237 d 0 0 0 0 123 [some (.ref 260), none] [] w1 (J8, D, RR R) Q
    refine q_aload_n d237_123 rfl ?_
    refine q_invV (o := 260) (ci := 10) (av := []) (rest := []) (d' := 6) (mc' := 0) (ms' := 0) d237_124 (cv10_421 237 rfl) rfl (by decide) rfl rfl (by omega) (Nat.le_of_ble_eq_true rfl) (Nat.le_of_ble_eq_true rfl) (lt_w1 rfl) sh260 (Nat.le_refl _) (Nat.le_refl _) ?_
    refine rr_next (T := T) (n := n) (dep := p) (s := (addP t1 1 (T b - 97))) (s' := t1) (v14 h1 J8 h9 h10) (v15 h1 J8 h9 h10) (v16 h1 J8 h9 h10) (v17 h1 J8 h9 h10) (fun J11 h12 h13 => ?_)
    show j_W 237 d 0 0 0 0 127 [some (.ref 260), none] [] w1 (J11, D, RR R) Q
    refine q_goto (tgt := 268) d237_127 rfl ?_
    exact q_ret d237_268 rfl (Nat.le_refl _) (Nat.le_refl _) (v18 h1 J8 h9 h10 J11 h12 h13)

set_option maxRecDepth 10000 in
set_option maxHeartbeats 4000000 in
theorem r237d {d : Nat} {I : Nat → Nat → Int32} {D : Nat → Nat → UInt64} {R : Nat → Nat → Option Nat} {Q : j_Po}  {T : Nat → Nat} {n : Nat} {s s1 : PSt} {p : Nat} {w x : Nat}  (hd : 7 ≤ d)
    (v1 : okP n s)
    (v2 : x < 8)
    (v3 : WM T (pb s) (pe s) x)
    (v4 : rwd x = w)
    (v5 : RRG T n p s I D)
    (v6 : 5 ≤ 5)
    (v7 : nxP T n s s1)
    (v8 : 6 ≤ 6)
    (v9 : ∀ J1 : Nat → Nat → Int32, (RRs T n p s1 J1 D) → (RRg I D J1 D) → j_W 237 d 0 0 0 0 147 [some (.ref 260), some (.int (nI w))] [] w1 (J1, D, RR R) Q) : j_W 237 d 0 0 0 0 138 [some (.ref 260), none] [] w1 (I, D, RR R) Q := by
  refine q_aload_n d237_138 rfl ?_
  refine q_invV (o := 260) (ci := 10) (av := []) (rest := []) (d' := 5) (mc' := 0) (ms' := 0) d237_139 (cv10_367 237 rfl) rfl (by decide) rfl rfl (by omega) (Nat.le_of_ble_eq_true rfl) (Nat.le_of_ble_eq_true rfl) (lt_w1 rfl) sh260 (Nat.le_refl _) (Nat.le_refl _) ?_
  refine c214k (T := T) (n := n) (dep := p) (s := s) (x := x) v1 v2 v3 v4 v5 v6 ?_
  show j_W 237 d 0 0 0 0 142 [some (.ref 260), none] [.int (nI w)] w1 (I, D, RR R) Q
  refine q_istore_n (L' := [some (.ref 260), some (.int (nI w))]) d237_142 (Nat.le_of_ble_eq_true rfl) rfl ?_
  refine q_aload_n d237_143 rfl ?_
  refine q_invV (o := 260) (ci := 10) (av := []) (rest := []) (d' := 6) (mc' := 0) (ms' := 0) d237_144 (cv10_421 237 rfl) rfl (by decide) rfl rfl (by omega) (Nat.le_of_ble_eq_true rfl) (Nat.le_of_ble_eq_true rfl) (lt_w1 rfl) sh260 (Nat.le_refl _) (Nat.le_refl _) ?_
  refine rr_next (T := T) (n := n) (dep := p) (s := s) (s' := s1) v7 v1 v5 v8 (fun J1 h2 h3 => ?_)
  show j_W 237 d 0 0 0 0 147 [some (.ref 260), some (.int (nI w))] [] w1 (J1, D, RR R) Q
  exact r_sub (L' := [some (.ref 260), some (.int (nI w))]) ⟨rfl, rfl, trivial⟩ (v9 J1 h2 h3)

set_option maxRecDepth 10000 in
set_option maxHeartbeats 4000000 in
theorem r237p {d : Nat} {I : Nat → Nat → Int32} {D : Nat → Nat → UInt64} {R : Nat → Nat → Option Nat} {Q : j_Po} {w : Nat} (hw : w < 8) (hd : 0 ≤ d)
    (v1 : (5 ≤ w) → j_W 237 d 0 0 0 0 158 [some (.ref 260), some (.int (nI w))] [] w1 (I, D, RR R) Q)
    (v2 : (¬ 5 ≤ w) → j_W 237 d 0 0 0 0 152 [some (.ref 260), some (.int (nI w))] [] w1 (I, D, RR R) Q) : j_W 237 d 0 0 0 0 147 [some (.ref 260), some (.int (nI w))] [] w1 (I, D, RR R) Q := by
  refine q_iload_n d237_147 rfl ?_
  refine q_iconst (v := 5) (by decide) d237_148 ?_
  refine q_icmp_ge (tgt := 158) d237_149 rfl (fun h1t => ?_) (fun h1f => ?_)
  ·
    have h1tc : 5 ≤ w := (nI_leI (by omega) (by omega)).mp h1t
    exact r_sub (L' := [some (.ref 260), some (.int (nI w))]) ⟨rfl, rfl, trivial⟩ (v1 h1tc)
  ·
    have h1fc : ¬ 5 ≤ w := mt (nI_leI (by omega) (by omega)).mpr h1f
    exact r_sub (L' := [some (.ref 260), some (.int (nI w))]) ⟨rfl, rfl, trivial⟩ (v2 h1fc)

set_option maxRecDepth 10000 in
set_option maxHeartbeats 4000000 in
theorem r237f2 {d : Nat} {I : Nat → Nat → Int32} {D : Nat → Nat → UInt64} {R : Nat → Nat → Option Nat} {Q : j_Po} {w : Nat} {T : Nat → Nat} {n : Nat} {s1 : PSt} {o : POut} {p : Nat} (hw : w < 8) (hC2 : RKc T n R (7 + 5 * (4 - p)) p 240 [.ref 260, .int 2] s1 o) (hd : (8 + 5 * (4 - p)) ≤ d)
    (v1 : (¬ w = 5) → okP n s1)
    (v2 : (¬ w = 5) → pz s1 ≤ pb s1)
    (v3 : (¬ w = 5) → tkK (ptk s1))
    (v4 : (¬ w = 5) → RRs T n p s1 I D)
    (v5 : (¬ w = 5) → ∀ J2 : Nat → Nat → Int32, ∀ E3 : Nat → Nat → UInt64, (RRo T n p o J2 E3) → (RRg I D J2 E3) → j_W 237 d 0 0 0 0 172 [some (.ref 260), some (.int (nI w))] [] w1 (J2, E3, RR R) Q)
    (v6 : (w = 5) → False) : j_W 237 d 0 0 0 0 158 [some (.ref 260), some (.int (nI w))] [] w1 (I, D, RR R) Q := by
  refine q_aload_n d237_158 rfl ?_
  refine q_iload_n d237_159 rfl ?_
  refine q_iconst (v := 5) (by decide) d237_160 ?_
  refine q_icmp_ne (tgt := 168) d237_161 rfl (fun h1t => ?_) (fun h1f => ?_)
  ·
    have h1tc : ¬ w = 5 := mt (nI_eqN (by omega) (by omega)).mpr h1t
    refine q_iconst (v := 2) (by decide) d237_168 ?_
    refine q_invV (o := 260) (ci := 10) (av := [.int 2]) (rest := []) (d' := (7 + 5 * (4 - p))) (mc' := 0) (ms' := 0) d237_169 (cv10_456 237 rfl) rfl (by decide) rfl rfl (by omega) (Nat.le_of_ble_eq_true rfl) (Nat.le_of_ble_eq_true rfl) (lt_w1 rfl) sh260 (Nat.le_refl _) (Nat.le_refl _) ?_
    refine hC2 _ _ _ _ (Nat.le_refl _) (v1 h1tc) (v2 h1tc) (v3 h1tc) (v4 h1tc) (fun J2 E3 h4 h5 => ?_)
    show j_W 237 d 0 0 0 0 172 [some (.ref 260), some (.int (nI w))] [] w1 (J2, E3, RR R) Q
    exact r_sub (L' := [some (.ref 260), some (.int (nI w))]) ⟨rfl, rfl, trivial⟩ (v5 h1tc J2 E3 h4 h5)
  ·
    have h1fc : w = 5 := (nI_eqN (by omega) (by omega)).mp h1f
    refine q_iconst (v := 3) (by decide) d237_164 ?_
    refine q_goto (tgt := 169) d237_165 rfl ?_
    refine q_invV (o := 260) (ci := 10) (av := [.int 3]) (rest := []) (d' := 0) (mc' := 0) (ms' := 0) d237_169 (cv10_456 237 rfl) rfl (by decide) rfl rfl (by omega) (Nat.le_of_ble_eq_true rfl) (Nat.le_of_ble_eq_true rfl) (lt_w1 rfl) sh260 (Nat.le_refl _) (Nat.le_refl _) ?_
    refine j_no (v6 h1fc) 

set_option maxRecDepth 10000 in
set_option maxHeartbeats 4000000 in
theorem r237f3 {d : Nat} {I : Nat → Nat → Int32} {D : Nat → Nat → UInt64} {R : Nat → Nat → Option Nat} {Q : j_Po} {w : Nat} {T : Nat → Nat} {n : Nat} {s1 : PSt} {o : POut} {p : Nat} (hw : w < 8) (hC3 : RKc T n R (7 + 5 * (4 - p)) p 240 [.ref 260, .int 3] s1 o) (hd : (8 + 5 * (4 - p)) ≤ d)
    (v1 : (¬ w = 5) → False)
    (v2 : (w = 5) → okP n s1)
    (v3 : (w = 5) → pz s1 ≤ pb s1)
    (v4 : (w = 5) → tkK (ptk s1))
    (v5 : (w = 5) → RRs T n p s1 I D)
    (v6 : (w = 5) → ∀ J2 : Nat → Nat → Int32, ∀ E3 : Nat → Nat → UInt64, (RRo T n p o J2 E3) → (RRg I D J2 E3) → j_W 237 d 0 0 0 0 172 [some (.ref 260), some (.int (nI w))] [] w1 (J2, E3, RR R) Q) : j_W 237 d 0 0 0 0 158 [some (.ref 260), some (.int (nI w))] [] w1 (I, D, RR R) Q := by
  refine q_aload_n d237_158 rfl ?_
  refine q_iload_n d237_159 rfl ?_
  refine q_iconst (v := 5) (by decide) d237_160 ?_
  refine q_icmp_ne (tgt := 168) d237_161 rfl (fun h1t => ?_) (fun h1f => ?_)
  ·
    have h1tc : ¬ w = 5 := mt (nI_eqN (by omega) (by omega)).mpr h1t
    refine q_iconst (v := 2) (by decide) d237_168 ?_
    refine q_invV (o := 260) (ci := 10) (av := [.int 2]) (rest := []) (d' := 0) (mc' := 0) (ms' := 0) d237_169 (cv10_456 237 rfl) rfl (by decide) rfl rfl (by omega) (Nat.le_of_ble_eq_true rfl) (Nat.le_of_ble_eq_true rfl) (lt_w1 rfl) sh260 (Nat.le_refl _) (Nat.le_refl _) ?_
    refine j_no (v1 h1tc) 
  ·
    have h1fc : w = 5 := (nI_eqN (by omega) (by omega)).mp h1f
    refine q_iconst (v := 3) (by decide) d237_164 ?_
    refine q_goto (tgt := 169) d237_165 rfl ?_
    refine q_invV (o := 260) (ci := 10) (av := [.int 3]) (rest := []) (d' := (7 + 5 * (4 - p))) (mc' := 0) (ms' := 0) d237_169 (cv10_456 237 rfl) rfl (by decide) rfl rfl (by omega) (Nat.le_of_ble_eq_true rfl) (Nat.le_of_ble_eq_true rfl) (lt_w1 rfl) sh260 (Nat.le_refl _) (Nat.le_refl _) ?_
    refine hC3 _ _ _ _ (Nat.le_refl _) (v2 h1fc) (v3 h1fc) (v4 h1fc) (v5 h1fc) (fun J2 E3 h4 h5 => ?_)
    show j_W 237 d 0 0 0 0 172 [some (.ref 260), some (.int (nI w))] [] w1 (J2, E3, RR R) Q
    exact r_sub (L' := [some (.ref 260), some (.int (nI w))]) ⟨rfl, rfl, trivial⟩ (v6 h1fc J2 E3 h4 h5)

set_option maxRecDepth 10000 in
set_option maxHeartbeats 4000000 in
theorem r237q {d : Nat} {I : Nat → Nat → Int32} {D : Nat → Nat → UInt64} {R : Nat → Nat → Option Nat} {Q : j_Po} {w : Nat} {T : Nat → Nat} {n : Nat} {s : PSt} {p : Nat} (hw : w < 8) (hd : 1 ≤ d)
    (v1 : (¬ w = 5) → (¬ w = 6) → ∀ m F, MRj m (11, 0) 209 F)
    (v2 : (¬ w = 5) → (¬ w = 6) → pz s < 96)
    (v3 : (¬ w = 5) → (¬ w = 6) → RRG T n p s I D)
    (v4 : (¬ w = 5) → (¬ w = 6) → ∀ J3 : Nat → Nat → Int32, (RRG T n p (addP s 11 0) J3 D) → (RRg I D J3 D) → Q none w1 (J3, D, RR R))
    (v5 : (¬ w = 5) → (w = 6) → ∀ m F, MRj m (10, 0) 208 F)
    (v6 : (¬ w = 5) → (w = 6) → pz s < 96)
    (v7 : (¬ w = 5) → (w = 6) → RRG T n p s I D)
    (v8 : (¬ w = 5) → (w = 6) → ∀ J6 : Nat → Nat → Int32, (RRG T n p (addP s 10 0) J6 D) → (RRg I D J6 D) → Q none w1 (J6, D, RR R))
    (v9 : (w = 5) → ∀ m F, MRj m (12, 0) 210 F)
    (v10 : (w = 5) → pz s < 96)
    (v11 : (w = 5) → RRG T n p s I D)
    (v12 : (w = 5) → ∀ J9 : Nat → Nat → Int32, (RRG T n p (addP s 12 0) J9 D) → (RRg I D J9 D) → Q none w1 (J9, D, RR R)) : j_W 237 d 0 0 0 0 172 [some (.ref 260), some (.int (nI w))] [] w1 (I, D, RR R) Q := by
  refine q_aload_n d237_172 rfl ?_
  refine q_iload_n d237_173 rfl ?_
  refine q_iconst (v := 5) (by decide) d237_174 ?_
  refine q_icmp_ne (tgt := 184) d237_175 rfl (fun h1t => ?_) (fun h1f => ?_)
  ·
    have h1tc : ¬ w = 5 := mt (nI_eqN (by omega) (by omega)).mpr h1t
    refine q_iload_n d237_184 rfl ?_
    refine q_bipush (v := 6) (by decide) d237_185 ?_
    refine q_icmp_ne (tgt := 196) d237_187 rfl (fun h2t => ?_) (fun h2f => ?_)
    ·
      have h2tc : ¬ w = 6 := mt (nI_eqN (by omega) (by omega)).mpr h2t
      refine q_sipush (v := 209) (by decide) d237_196 ?_
      refine q_invV (o := 260) (ci := 10) (av := [.int 209]) (rest := []) (d' := 0) (mc' := 0) (ms' := 0) d237_199 (cv10_429 237 rfl) rfl (by decide) rfl rfl (by omega) (Nat.le_of_ble_eq_true rfl) (Nat.le_of_ble_eq_true rfl) (lt_w1 rfl) sh260 (Nat.le_refl _) (Nat.le_refl _) ?_
      refine rr_mark (a := 11) (w := 0) (x := 209) (T := T) (n := n) (dep := p) (s := s) (v1 h1tc h2tc) (v2 h1tc h2tc) (v3 h1tc h2tc) (fun J3 h4 h5 => ?_)
      show j_W 237 d 0 0 0 0 202 [some (.ref 260), some (.int (nI w))] [] w1 (J3, D, RR R) Q
      refine q_goto (tgt := 268) d237_202 rfl ?_
      exact q_ret d237_268 rfl (Nat.le_refl _) (Nat.le_refl _) (v4 h1tc h2tc J3 h4 h5)
    ·
      have h2fc : w = 6 := (nI_eqN (by omega) (by omega)).mp h2f
      refine q_sipush (v := 208) (by decide) d237_190 ?_
      refine q_goto (tgt := 199) d237_193 rfl ?_
      refine q_invV (o := 260) (ci := 10) (av := [.int 208]) (rest := []) (d' := 0) (mc' := 0) (ms' := 0) d237_199 (cv10_429 237 rfl) rfl (by decide) rfl rfl (by omega) (Nat.le_of_ble_eq_true rfl) (Nat.le_of_ble_eq_true rfl) (lt_w1 rfl) sh260 (Nat.le_refl _) (Nat.le_refl _) ?_
      refine rr_mark (a := 10) (w := 0) (x := 208) (T := T) (n := n) (dep := p) (s := s) (v5 h1tc h2fc) (v6 h1tc h2fc) (v7 h1tc h2fc) (fun J6 h7 h8 => ?_)
      show j_W 237 d 0 0 0 0 202 [some (.ref 260), some (.int (nI w))] [] w1 (J6, D, RR R) Q
      refine q_goto (tgt := 268) d237_202 rfl ?_
      exact q_ret d237_268 rfl (Nat.le_refl _) (Nat.le_refl _) (v8 h1tc h2fc J6 h7 h8)
  ·
    have h1fc : w = 5 := (nI_eqN (by omega) (by omega)).mp h1f
    refine q_sipush (v := 210) (by decide) d237_178 ?_
    refine q_goto (tgt := 199) d237_181 rfl ?_
    refine q_invV (o := 260) (ci := 10) (av := [.int 210]) (rest := []) (d' := 0) (mc' := 0) (ms' := 0) d237_199 (cv10_429 237 rfl) rfl (by decide) rfl rfl (by omega) (Nat.le_of_ble_eq_true rfl) (Nat.le_of_ble_eq_true rfl) (lt_w1 rfl) sh260 (Nat.le_refl _) (Nat.le_refl _) ?_
    refine rr_mark (a := 12) (w := 0) (x := 210) (T := T) (n := n) (dep := p) (s := s) (v9 h1fc) (v10 h1fc) (v11 h1fc) (fun J9 h10 h11 => ?_)
    show j_W 237 d 0 0 0 0 202 [some (.ref 260), some (.int (nI w))] [] w1 (J9, D, RR R) Q
    refine q_goto (tgt := 268) d237_202 rfl ?_
    exact q_ret d237_268 rfl (Nat.le_refl _) (Nat.le_refl _) (v12 h1fc J9 h10 h11)

set_option maxRecDepth 10000 in
set_option maxHeartbeats 4000000 in
theorem r237t {d : Nat} {I : Nat → Nat → Int32} {D : Nat → Nat → UInt64} {R : Nat → Nat → Option Nat} {Q : j_Po} {w : Nat} {T : Nat → Nat} {n : Nat} {s1 : PSt} {o : POut} {p : Nat} (hw5 : w < 5) (hC : RKc T n R 7 p 239 [.ref 260, .int (nI w)] s1 o) (hd : 8 ≤ d)
    (v1 : okP n s1)
    (v2 : pz s1 ≤ pb s1)
    (v3 : tkK (ptk s1))
    (v4 : RRs T n p s1 I D)
    (v5 : ∀ J1 : Nat → Nat → Int32, ∀ E2 : Nat → Nat → UInt64, (RRo T n p o J1 E2) → (RRg I D J1 E2) → Q none w1 (J1, E2, RR R)) : j_W 237 d 0 0 0 0 152 [some (.ref 260), some (.int (nI w))] [] w1 (I, D, RR R) Q := by
  refine q_aload_n d237_152 rfl ?_
  refine q_iload_n d237_153 rfl ?_
  refine q_invV (o := 260) (ci := 10) (av := [.int (nI w)]) (rest := []) (d' := 7) (mc' := 0) (ms' := 0) d237_154 (cv10_453 237 rfl) rfl (by decide) rfl rfl (by omega) (Nat.le_of_ble_eq_true rfl) (Nat.le_of_ble_eq_true rfl) (lt_w1 rfl) sh260 (Nat.le_refl _) (Nat.le_refl _) ?_
  refine hC _ _ _ _ (Nat.le_refl _) v1 v2 v3 v4 (fun J1 E2 h3 h4 => ?_)
  show j_W 237 d 0 0 0 0 157 [some (.ref 260), some (.int (nI w))] [] w1 (J1, E2, RR R) Q
  exact q_ret d237_157 rfl (Nat.le_refl _) (Nat.le_refl _) (v5 J1 E2 h3 h4)

set_option maxRecDepth 10000 in
set_option maxHeartbeats 4000000 in
theorem r237m {d : Nat} {I : Nat → Nat → Int32} {D : Nat → Nat → UInt64} {R : Nat → Nat → Option Nat} {Q : j_Po}  {T : Nat → Nat} {n : Nat} {s s1 : PSt} {p : Nat} (hp : p < 4) (hd : 8 ≤ d)
    (v1 : RRG T n p s I D)
    (v2 : 45 < 256)
    (v3 : ((ptk s).1 = 45) → p < 4)
    (v4 : ((ptk s).1 = 45) → nxP T n s s1)
    (v5 : ((ptk s).1 = 45) → okP n s)
    (v6 : ((ptk s).1 = 45) → 7 ≤ 7)
    (v7 : ((ptk s).1 = 45) → ∀ J2 : Nat → Nat → Int32, (RRs T n (p + 1) s1 J2 D) → (RRg I D J2 D) → j_W 237 d 0 0 0 0 222 [some (.ref 260), none] [] w1 (J2, D, RR R) Q)
    (v8 : (¬ (ptk s).1 = 45) → j_W 237 d 0 0 0 0 246 [some (.ref 260), none] [] w1 (I, D, RR R) Q) : j_W 237 d 0 0 0 0 205 [some (.ref 260), none] [] w1 (I, D, RR R) Q := by
  refine q_aload_n d237_205 rfl ?_
  refine q_bipush (v := 45) (by decide) d237_206 ?_
  refine q_invV (o := 260) (ci := 10) (av := [.int 45]) (rest := []) (d' := 0) (mc' := 0) (ms' := 0) d237_208 (cv10_418 237 rfl) rfl (by decide) rfl rfl (by omega) (Nat.le_of_ble_eq_true rfl) (Nat.le_of_ble_eq_true rfl) (lt_w1 rfl) sh260 (Nat.le_refl _) (Nat.le_refl _) ?_
  refine c241g (c := 45) (T := T) (n := n) (dep := p) (s := s) v1 v2 (fun h1 => ?_) (fun h1 => ?_)
  ·
    show j_W 237 d 0 0 0 0 211 [some (.ref 260), none] [.int 1] w1 (I, D, RR R) Q
    refine q_if_eq (tgt := 246) d237_211 rfl (fun h => absurd h (by decide)) (fun _ => ?_)
    refine q_aload_n d237_214 rfl ?_
    refine q_invV (o := 260) (ci := 10) (av := []) (rest := []) (d' := 7) (mc' := 0) (ms' := 0) d237_215 (cv10_441 237 rfl) rfl (by decide) rfl rfl (by omega) (Nat.le_of_ble_eq_true rfl) (Nat.le_of_ble_eq_true rfl) (lt_w1 rfl) sh260 (Nat.le_refl _) (Nat.le_refl _) ?_
    refine c242g (T := T) (n := n) (p := p) (s := s) (s' := s1) (v3 h1) (v4 h1) (v5 h1) v1 (v6 h1) (fun J2 h3 h4 => ?_)
    show j_W 237 d 0 0 0 0 218 [some (.ref 260), none] [.int 1] w1 (J2, D, RR R) Q
    refine q_if_ne (tgt := 222) d237_218 rfl (fun _ => ?_) (fun h => absurd h (by decide))
    exact r_sub (L' := [some (.ref 260), none]) ⟨rfl, trivial⟩ (v7 h1 J2 h3 h4)
  ·
    show j_W 237 d 0 0 0 0 211 [some (.ref 260), none] [.int 0] w1 (I, D, RR R) Q
    refine q_if_eq (tgt := 246) d237_211 rfl (fun _ => ?_) (fun h => absurd h (by decide))
    exact r_sub (L' := [some (.ref 260), none]) ⟨rfl, trivial⟩ (v8 h1)

set_option maxRecDepth 10000 in
set_option maxHeartbeats 4000000 in
theorem r237l {d : Nat} {I : Nat → Nat → Int32} {D : Nat → Nat → UInt64} {R : Nat → Nat → Option Nat} {Q : j_Po}  {T : Nat → Nat} {n : Nat} {s : PSt}  (hd : 1 ≤ d)
    (v1 : RRG T n 4 s I D)
    (v2 : 45 < 256)
    (v3 : ((ptk s).1 = 45) → Q none w1 ((j_u I 260 46 1), D, RR R))
    (v4 : (¬ (ptk s).1 = 45) → j_W 237 d 0 0 0 0 246 [some (.ref 260), none] [] w1 (I, D, RR R) Q) : j_W 237 d 0 0 0 0 205 [some (.ref 260), none] [] w1 (I, D, RR R) Q := by
  refine q_aload_n d237_205 rfl ?_
  refine q_bipush (v := 45) (by decide) d237_206 ?_
  refine q_invV (o := 260) (ci := 10) (av := [.int 45]) (rest := []) (d' := 0) (mc' := 0) (ms' := 0) d237_208 (cv10_418 237 rfl) rfl (by decide) rfl rfl (by omega) (Nat.le_of_ble_eq_true rfl) (Nat.le_of_ble_eq_true rfl) (lt_w1 rfl) sh260 (Nat.le_refl _) (Nat.le_refl _) ?_
  refine c241g (c := 45) (T := T) (n := n) (dep := 4) (s := s) v1 v2 (fun h1 => ?_) (fun h1 => ?_)
  ·
    show j_W 237 d 0 0 0 0 211 [some (.ref 260), none] [.int 1] w1 (I, D, RR R) Q
    refine q_if_eq (tgt := 246) d237_211 rfl (fun h => absurd h (by decide)) (fun _ => ?_)
    refine q_aload_n d237_214 rfl ?_
    refine q_invV (o := 260) (ci := 10) (av := []) (rest := []) (d' := 0) (mc' := 0) (ms' := 0) d237_215 (cv10_441 237 rfl) rfl (by decide) rfl rfl (by omega) (Nat.le_of_ble_eq_true rfl) (Nat.le_of_ble_eq_true rfl) (lt_w1 rfl) sh260 (Nat.le_refl _) (Nat.le_refl _) ?_
    refine c242f (T := T) (n := n) (s := s) v1 ?_
    show j_W 237 d 0 0 0 0 218 [some (.ref 260), none] [.int 0] w1 ((j_u I 260 46 1), D, RR R) Q
    refine q_if_ne (tgt := 222) d237_218 rfl (fun h => absurd h (by decide)) (fun _ => ?_)
    exact q_ret d237_221 rfl (Nat.le_refl _) (Nat.le_refl _) (v3 h1)
  ·
    show j_W 237 d 0 0 0 0 211 [some (.ref 260), none] [.int 0] w1 (I, D, RR R) Q
    refine q_if_eq (tgt := 246) d237_211 rfl (fun _ => ?_) (fun h => absurd h (by decide))
    exact r_sub (L' := [some (.ref 260), none]) ⟨rfl, trivial⟩ (v4 h1)

set_option maxRecDepth 10000 in
set_option maxHeartbeats 4000000 in
theorem r237n {d : Nat} {I : Nat → Nat → Int32} {D : Nat → Nat → UInt64} {R : Nat → Nat → Option Nat} {Q : j_Po}  {T : Nat → Nat} {n : Nat} {s1 : PSt} {o : POut} {p : Nat} (hC : RKc T n R (3 + 5 * (4 - p)) (p + 1) 237 [.ref 260] s1 o) (hd : (8 + 5 * (4 - p)) ≤ d)
    (v1 : okP n s1)
    (v2 : pz s1 ≤ pb s1)
    (v3 : tkK (ptk s1))
    (v4 : RRs T n (p + 1) s1 I D)
    (v5 : ∀ J1 : Nat → Nat → Int32, ∀ E2 : Nat → Nat → UInt64, (RRo T n (p + 1) o J1 E2) → (RRg I D J1 E2) → j_W 237 d 0 0 0 0 226 [some (.ref 260), none] [] w1 (J1, E2, RR R) Q) : j_W 237 d 0 0 0 0 222 [some (.ref 260), none] [] w1 (I, D, RR R) Q := by
  refine q_aload_n d237_222 rfl ?_
  refine q_invV (o := 260) (ci := 10) (av := []) (rest := []) (d' := (3 + 5 * (4 - p))) (mc' := 0) (ms' := 0) d237_223 (cv10_435 237 rfl) rfl (by decide) rfl rfl (by omega) (Nat.le_of_ble_eq_true rfl) (Nat.le_of_ble_eq_true rfl) (lt_w1 rfl) sh260 (Nat.le_refl _) (Nat.le_refl _) ?_
  refine hC _ _ _ _ (Nat.le_refl _) v1 v2 v3 v4 (fun J1 E2 h3 h4 => ?_)
  show j_W 237 d 0 0 0 0 226 [some (.ref 260), none] [] w1 (J1, E2, RR R) Q
  exact r_sub (L' := [some (.ref 260), none]) ⟨rfl, trivial⟩ (v5 J1 E2 h3 h4)

set_option maxRecDepth 10000 in
set_option maxHeartbeats 4000000 in
theorem r237o {d : Nat} {I : Nat → Nat → Int32} {D : Nat → Nat → UInt64} {R : Nat → Nat → Option Nat} {Q : j_Po}  {T : Nat → Nat} {n : Nat} {s : PSt} {p : Nat} (h45 : I 260 45 = nI (p + 1)) (hp : p < 4) (hd : 1 ≤ d)
    (v1 : ∀ m F, MRj m (2, 0) 200 F)
    (v2 : pz s < 96)
    (v3 : RRG T n p s (j_u I 260 45 ((nI (p + 1)) - 1)) D)
    (v4 : ∀ J1 : Nat → Nat → Int32, (RRG T n p (addP s 2 0) J1 D) → (RRg (j_u I 260 45 ((nI (p + 1)) - 1)) D J1 D) → Q none w1 (J1, D, RR R)) : j_W 237 d 0 0 0 0 226 [some (.ref 260), none] [] w1 (I, D, RR R) Q := by
  refine q_aload_n d237_226 rfl ?_
  refine q_dup rfl d237_227 ?_
  refine q_getI d237_228 (fs10_438 237 rfl) rfl (lt_w1 rfl) sh260 ?_
  refine r_int (y := (nI (p + 1))) (show I 260 45 = (nI (p + 1)) from h45) ?_
  refine q_iconst (v := 1) (by decide) d237_231 ?_
  refine q_isub d237_232 ?_
  refine q_putI d237_233 (fs10_438 237 rfl) (Or.inl rfl) rfl (lt_w1 rfl) sh260 ?_
  refine q_aload_n d237_236 rfl ?_
  refine q_sipush (v := 200) (by decide) d237_237 ?_
  refine q_invV (o := 260) (ci := 10) (av := [.int 200]) (rest := []) (d' := 0) (mc' := 0) (ms' := 0) d237_240 (cv10_429 237 rfl) rfl (by decide) rfl rfl (by omega) (Nat.le_of_ble_eq_true rfl) (Nat.le_of_ble_eq_true rfl) (lt_w1 rfl) sh260 (Nat.le_refl _) (Nat.le_refl _) ?_
  refine rr_mark (a := 2) (w := 0) (x := 200) (T := T) (n := n) (dep := p) (s := s) v1 v2 v3 (fun J1 h2 h3 => ?_)
  show j_W 237 d 0 0 0 0 243 [some (.ref 260), none] [] w1 (J1, D, RR R) Q
  refine q_goto (tgt := 268) d237_243 rfl ?_
  exact q_ret d237_268 rfl (Nat.le_refl _) (Nat.le_refl _) (v4 J1 h2 h3)

set_option maxRecDepth 10000 in
set_option maxHeartbeats 4000000 in
theorem r237v {d : Nat} {I : Nat → Nat → Int32} {D : Nat → Nat → UInt64} {R : Nat → Nat → Option Nat} {Q : j_Po}  {T : Nat → Nat} {n : Nat} {s : PSt} {o : POut} {p : Nat} (hC1 : RKc T n R (7 + 5 * (4 - p)) p 240 [.ref 260, .int 1] s o) (hd : (8 + 5 * (4 - p)) ≤ d)
    (v1 : RRG T n p s I D)
    (v2 : 40 < 256)
    (v3 : ((ptk s).1 = 40) → okP n s)
    (v4 : ((ptk s).1 = 40) → pz s ≤ pb s)
    (v5 : ((ptk s).1 = 40) → tkK (ptk s))
    (v6 : ((ptk s).1 = 40) → RRs T n p s I D)
    (v7 : ((ptk s).1 = 40) → ∀ J2 : Nat → Nat → Int32, ∀ E3 : Nat → Nat → UInt64, (RRo T n p o J2 E3) → (RRg I D J2 E3) → Q none w1 (J2, E3, RR R))
    (v8 : (¬ (ptk s).1 = 40) → j_W 237 d 0 0 0 0 263 [some (.ref 260), none] [] w1 (I, D, RR R) Q) : j_W 237 d 0 0 0 0 246 [some (.ref 260), none] [] w1 (I, D, RR R) Q := by
  refine q_aload_n d237_246 rfl ?_
  refine q_bipush (v := 40) (by decide) d237_247 ?_
  refine q_invV (o := 260) (ci := 10) (av := [.int 40]) (rest := []) (d' := 0) (mc' := 0) (ms' := 0) d237_249 (cv10_418 237 rfl) rfl (by decide) rfl rfl (by omega) (Nat.le_of_ble_eq_true rfl) (Nat.le_of_ble_eq_true rfl) (lt_w1 rfl) sh260 (Nat.le_refl _) (Nat.le_refl _) ?_
  refine c241g (c := 40) (T := T) (n := n) (dep := p) (s := s) v1 v2 (fun h1 => ?_) (fun h1 => ?_)
  ·
    show j_W 237 d 0 0 0 0 252 [some (.ref 260), none] [.int 1] w1 (I, D, RR R) Q
    refine q_if_eq (tgt := 263) d237_252 rfl (fun h => absurd h (by decide)) (fun _ => ?_)
    refine q_aload_n d237_255 rfl ?_
    refine q_iconst (v := 1) (by decide) d237_256 ?_
    refine q_invV (o := 260) (ci := 10) (av := [.int 1]) (rest := []) (d' := (7 + 5 * (4 - p))) (mc' := 0) (ms' := 0) d237_257 (cv10_456 237 rfl) rfl (by decide) rfl rfl (by omega) (Nat.le_of_ble_eq_true rfl) (Nat.le_of_ble_eq_true rfl) (lt_w1 rfl) sh260 (Nat.le_refl _) (Nat.le_refl _) ?_
    refine hC1 _ _ _ _ (Nat.le_refl _) (v3 h1) (v4 h1) (v5 h1) (v6 h1) (fun J2 E3 h4 h5 => ?_)
    show j_W 237 d 0 0 0 0 260 [some (.ref 260), none] [] w1 (J2, E3, RR R) Q
    refine q_goto (tgt := 268) d237_260 rfl ?_
    exact q_ret d237_268 rfl (Nat.le_refl _) (Nat.le_refl _) (v7 h1 J2 E3 h4 h5)
  ·
    show j_W 237 d 0 0 0 0 252 [some (.ref 260), none] [.int 0] w1 (I, D, RR R) Q
    refine q_if_eq (tgt := 263) d237_252 rfl (fun _ => ?_) (fun h => absurd h (by decide))
    exact r_sub (L' := [some (.ref 260), none]) ⟨rfl, trivial⟩ (v8 h1)

set_option maxRecDepth 10000 in
set_option maxHeartbeats 4000000 in
theorem r237V {d : Nat} {I : Nat → Nat → Int32} {D : Nat → Nat → UInt64} {R : Nat → Nat → Option Nat} {Q : j_Po}  {T : Nat → Nat} {n : Nat} {s : PSt} {p : Nat}  (hd : 1 ≤ d)
    (v1 : RRG T n p s I D)
    (v2 : 40 < 256)
    (v3 : ((ptk s).1 = 40) → j_W 237 d 0 0 0 0 255 [some (.ref 260), none] [] w1 (I, D, RR R) Q)
    (v4 : (¬ (ptk s).1 = 40) → j_W 237 d 0 0 0 0 263 [some (.ref 260), none] [] w1 (I, D, RR R) Q) : j_W 237 d 0 0 0 0 246 [some (.ref 260), none] [] w1 (I, D, RR R) Q := by
  refine q_aload_n d237_246 rfl ?_
  refine q_bipush (v := 40) (by decide) d237_247 ?_
  refine q_invV (o := 260) (ci := 10) (av := [.int 40]) (rest := []) (d' := 0) (mc' := 0) (ms' := 0) d237_249 (cv10_418 237 rfl) rfl (by decide) rfl rfl (by omega) (Nat.le_of_ble_eq_true rfl) (Nat.le_of_ble_eq_true rfl) (lt_w1 rfl) sh260 (Nat.le_refl _) (Nat.le_refl _) ?_
  refine c241g (c := 40) (T := T) (n := n) (dep := p) (s := s) v1 v2 (fun h1 => ?_) (fun h1 => ?_)
  ·
    show j_W 237 d 0 0 0 0 252 [some (.ref 260), none] [.int 1] w1 (I, D, RR R) Q
    refine q_if_eq (tgt := 263) d237_252 rfl (fun h => absurd h (by decide)) (fun _ => ?_)
    exact r_sub (L' := [some (.ref 260), none]) ⟨rfl, trivial⟩ (v3 h1)
  ·
    show j_W 237 d 0 0 0 0 252 [some (.ref 260), none] [.int 0] w1 (I, D, RR R) Q
    refine q_if_eq (tgt := 263) d237_252 rfl (fun _ => ?_) (fun h => absurd h (by decide))
    exact r_sub (L' := [some (.ref 260), none]) ⟨rfl, trivial⟩ (v4 h1)

set_option maxRecDepth 10000 in
set_option maxHeartbeats 4000000 in
theorem r237r {d : Nat} {I : Nat → Nat → Int32} {D : Nat → Nat → UInt64} {R : Nat → Nat → Option Nat} {Q : j_Po}  {T : Nat → Nat} {n : Nat} {s : PSt} {p : Nat}  (hd : 1 ≤ d)
    (v1 : RRG T n p s I D)
    (v2 : 45 < 256)
    (v3 : ((ptk s).1 = 45) → j_W 237 d 0 0 0 0 215 [some (.ref 260), none] [.ref 260] w1 (I, D, RR R) Q)
    (v4 : (¬ (ptk s).1 = 45) → j_W 237 d 0 0 0 0 246 [some (.ref 260), none] [] w1 (I, D, RR R) Q) : j_W 237 d 0 0 0 0 205 [some (.ref 260), none] [] w1 (I, D, RR R) Q := by
  refine q_aload_n d237_205 rfl ?_
  refine q_bipush (v := 45) (by decide) d237_206 ?_
  refine q_invV (o := 260) (ci := 10) (av := [.int 45]) (rest := []) (d' := 0) (mc' := 0) (ms' := 0) d237_208 (cv10_418 237 rfl) rfl (by decide) rfl rfl (by omega) (Nat.le_of_ble_eq_true rfl) (Nat.le_of_ble_eq_true rfl) (lt_w1 rfl) sh260 (Nat.le_refl _) (Nat.le_refl _) ?_
  refine c241g (c := 45) (T := T) (n := n) (dep := p) (s := s) v1 v2 (fun h1 => ?_) (fun h1 => ?_)
  ·
    show j_W 237 d 0 0 0 0 211 [some (.ref 260), none] [.int 1] w1 (I, D, RR R) Q
    refine q_if_eq (tgt := 246) d237_211 rfl (fun h => absurd h (by decide)) (fun _ => ?_)
    refine q_aload_n d237_214 rfl ?_
    exact r_sub (L' := [some (.ref 260), none]) ⟨rfl, trivial⟩ (v3 h1)
  ·
    show j_W 237 d 0 0 0 0 211 [some (.ref 260), none] [.int 0] w1 (I, D, RR R) Q
    refine q_if_eq (tgt := 246) d237_211 rfl (fun _ => ?_) (fun h => absurd h (by decide))
    exact r_sub (L' := [some (.ref 260), none]) ⟨rfl, trivial⟩ (v4 h1)

set_option maxRecDepth 10000 in
set_option maxHeartbeats 4000000 in
theorem r237z {d : Nat} {I : Nat → Nat → Int32} {D : Nat → Nat → UInt64} {R : Nat → Nat → Option Nat} {Q : j_Po}   (hd : 0 ≤ d)
    (v1 : Q none w1 ((j_u I 260 46 1), D, RR R)) : j_W 237 d 0 0 0 0 263 [some (.ref 260), none] [] w1 (I, D, RR R) Q := by
  refine q_aload_n d237_263 rfl ?_
  refine q_iconst (v := 1) (by decide) d237_264 ?_
  refine q_putZ d237_265 (fs10_357 237 rfl) (Or.inl rfl) rfl (Or.inr rfl) (lt_w1 rfl) sh260 ?_
  exact q_ret d237_268 rfl (Nat.le_refl _) (Nat.le_refl _) v1

set_option maxRecDepth 10000 in
set_option maxHeartbeats 4000000 in
theorem r237B {d : Nat} {I : Nat → Nat → Int32} {D : Nat → Nat → UInt64} {R : Nat → Nat → Option Nat} {Q : j_Po}  {T : Nat → Nat} {n : Nat} {s s1 : PSt} {p : Nat} {m v f w z : Nat} (h38 : I 260 38 = nI m) (hm : m < 96) (h43 : I 260 43 = nI v) (hv : v < 10000) (h44 : I 260 44 = nI f) (hf : f < 1000) (hd : 7 ≤ d)
    (v1 : (¬ (nI f) = (-1)) → vf_n64 (FP.ddiv (FP.i2d (nI ((1000 * v) + f))) 4652007308841189376))
    (v2 : (¬ (nI f) = (-1)) → I 260 46 = 0)
    (v3 : (¬ (nI f) = (-1)) → I 260 37 = nI z)
    (v4 : (¬ (nI f) = (-1)) → z < 96)
    (v5 : (¬ (nI f) = (-1)) → nxP T n (addP s 0 w) s1)
    (v6 : (¬ (nI f) = (-1)) → okP n (addP s 0 w))
    (v7 : (¬ (nI f) = (-1)) → RRG T n p (addP s 0 w) (j_u (j_u (j_u I 423 z (nI (100 + m))) 260 37 (nI (z + 1))) 260 38 (nI (m + 1))) (j_u D 424 m (FP.ddiv (FP.i2d (nI ((1000 * v) + f))) 4652007308841189376)))
    (v8 : (¬ (nI f) = (-1)) → 6 ≤ 6)
    (v9 : (¬ (nI f) = (-1)) → ∀ J2 : Nat → Nat → Int32, (RRs T n p s1 J2 (j_u D 424 m (FP.ddiv (FP.i2d (nI ((1000 * v) + f))) 4652007308841189376))) → (RRg (j_u (j_u (j_u I 423 z (nI (100 + m))) 260 37 (nI (z + 1))) 260 38 (nI (m + 1))) (j_u D 424 m (FP.ddiv (FP.i2d (nI ((1000 * v) + f))) 4652007308841189376)) J2 (j_u D 424 m (FP.ddiv (FP.i2d (nI ((1000 * v) + f))) 4652007308841189376))) → Q none w1 (J2, (j_u D 424 m (FP.ddiv (FP.i2d (nI ((1000 * v) + f))) 4652007308841189376)), RR R))
    (v10 : ((nI f) = (-1)) → j_W 237 d 0 0 0 0 32 [some (.ref 260), none] [.int (nI m), .ref 424] w1 (I, D, RR R) Q) : j_W 237 d 0 0 0 0 16 [some (.ref 260), none] [] w1 (I, D, RR R) Q := by
  refine q_aload_n d237_16 rfl ?_
  refine q_getR (x := 424) d237_17 (fs10_108 237 rfl) rfl (lt_w1 rfl) sh260 (rs260_36 R) (by decide) ?_
  refine q_aload_n d237_20 rfl ?_
  refine q_getI d237_21 (fs10_450 237 rfl) rfl (lt_w1 rfl) sh260 ?_
  refine r_int (y := (nI m)) (show I 260 38 = (nI m) from h38) ?_
  refine q_aload_n d237_24 rfl ?_
  refine q_getI d237_25 (fs10_391 237 rfl) rfl (lt_w1 rfl) sh260 ?_
  refine r_int (y := (nI f)) (show I 260 44 = (nI f) from h44) ?_
  refine q_iconst (v := (-1)) (by decide) d237_28 ?_
  refine q_icmp_ne (tgt := 40) d237_29 rfl (fun h1t => ?_) (fun h1f => ?_)
  ·
    refine q_sipush (v := 1000) (by decide) d237_40 ?_
    refine q_aload_n d237_43 rfl ?_
    refine q_getI d237_44 (fs10_388 237 rfl) rfl (lt_w1 rfl) sh260 ?_
    refine r_int (y := (nI v)) (show I 260 43 = (nI v) from h43) ?_
    refine q_imul d237_47 ?_
    refine r_int (y := (nI (1000 * v))) (pk_mul 1000 v) ?_
    refine q_aload_n d237_48 rfl ?_
    refine q_getI d237_49 (fs10_391 237 rfl) rfl (lt_w1 rfl) sh260 ?_
    refine r_int (y := (nI f)) (show I 260 44 = (nI f) from h44) ?_
    refine q_iadd d237_52 ?_
    refine r_int (y := (nI ((1000 * v) + f))) (nI_add (1000 * v) f) ?_
    refine q_i2d d237_53 ?_
    refine q_ldcD (v := 4652007308841189376) d237_54 (kc10_194 237 rfl) ?_
    refine q_ddiv (v1 h1t) d237_57 ?_
    refine q_dastore (a := m) d237_58 (lt_w1 rfl) sh424 rfl (by omega) ?_
    refine q_aload_n d237_59 rfl ?_
    refine q_bipush (v := 100) (by decide) d237_60 ?_
    refine q_aload_n d237_62 rfl ?_
    refine q_getI d237_63 (fs10_450 237 rfl) rfl (lt_w1 rfl) sh260 ?_
    refine r_int (y := (nI m)) (show I 260 38 = (nI m) from h38) ?_
    refine q_iadd d237_66 ?_
    refine r_int (y := (nI (100 + m))) (nI_add 100 m) ?_
    refine q_invV (o := 260) (ci := 10) (av := [.int (nI (100 + m))]) (rest := []) (d' := 0) (mc' := 0) (ms' := 0) d237_67 (cv10_429 237 rfl) rfl (by decide) rfl rfl (by omega) (Nat.le_of_ble_eq_true rfl) (Nat.le_of_ble_eq_true rfl) (lt_w1 rfl) sh260 (Nat.le_refl _) (Nat.le_refl _) ?_
    refine c238g (z := z) (v2 h1t) (v3 h1t) (v4 h1t) ?_
    show j_W 237 d 0 0 0 0 70 [some (.ref 260), none] [] w1 ((j_u (j_u I 423 z (nI (100 + m))) 260 37 (nI (z + 1))), (j_u D 424 m (FP.ddiv (FP.i2d (nI ((1000 * v) + f))) 4652007308841189376)), RR R) Q
    refine q_aload_n d237_70 rfl ?_
    refine q_dup rfl d237_71 ?_
    refine q_getI d237_72 (fs10_450 237 rfl) rfl (lt_w1 rfl) sh260 ?_
    refine r_int (y := (nI m)) (show (j_u (j_u I 423 z (nI (100 + m))) 260 37 (nI (z + 1))) 260 38 = (nI m) from (((j_u_k _ _ (by decide)).trans (j_u_o _ _ _ (by decide))).trans h38)) ?_
    refine q_iconst (v := 1) (by decide) d237_75 ?_
    refine q_iadd d237_76 ?_
    refine r_int (y := (nI (m + 1))) (nI_add m 1) ?_
    refine q_putI d237_77 (fs10_450 237 rfl) (Or.inl rfl) rfl (lt_w1 rfl) sh260 ?_
    refine q_aload_n d237_80 rfl ?_
    refine q_invV (o := 260) (ci := 10) (av := []) (rest := []) (d' := 6) (mc' := 0) (ms' := 0) d237_81 (cv10_421 237 rfl) rfl (by decide) rfl rfl (by omega) (Nat.le_of_ble_eq_true rfl) (Nat.le_of_ble_eq_true rfl) (lt_w1 rfl) sh260 (Nat.le_refl _) (Nat.le_refl _) ?_
    refine rr_next (T := T) (n := n) (dep := p) (s := (addP s 0 w)) (s' := s1) (v5 h1t) (v6 h1t) (v7 h1t) (v8 h1t) (fun J2 h3 h4 => ?_)
    show j_W 237 d 0 0 0 0 84 [some (.ref 260), none] [] w1 (J2, (j_u D 424 m (FP.ddiv (FP.i2d (nI ((1000 * v) + f))) 4652007308841189376)), RR R) Q
    refine q_goto (tgt := 268) d237_84 rfl ?_
    exact q_ret d237_268 rfl (Nat.le_refl _) (Nat.le_refl _) (v9 h1t J2 h3 h4)
  ·
    exact r_sub (L' := [some (.ref 260), none]) ⟨rfl, trivial⟩ (v10 h1f)

set_option maxRecDepth 10000 in
set_option maxHeartbeats 4000000 in
theorem r237A {d : Nat} {I : Nat → Nat → Int32} {D : Nat → Nat → UInt64} {R : Nat → Nat → Option Nat} {Q : j_Po}  {T : Nat → Nat} {n : Nat} {s s1 : PSt} {p : Nat} {m v w z : Nat} (h38 : I 260 38 = nI m) (hm : m < 96) (h43 : I 260 43 = nI v) (hv : v < 10000) (h44 : I 260 44 = -1) (hd : 7 ≤ d)
    (v1 : (¬ (I 260 44) = (-1)) → j_W 237 d 0 0 0 0 40 [some (.ref 260), none] [.int (nI m), .ref 424] w1 (I, D, RR R) Q)
    (v2 : ((I 260 44) = (-1)) → I 260 46 = 0)
    (v3 : ((I 260 44) = (-1)) → I 260 37 = nI z)
    (v4 : ((I 260 44) = (-1)) → z < 96)
    (v5 : ((I 260 44) = (-1)) → nxP T n (addP s 0 w) s1)
    (v6 : ((I 260 44) = (-1)) → okP n (addP s 0 w))
    (v7 : ((I 260 44) = (-1)) → RRG T n p (addP s 0 w) (j_u (j_u (j_u I 423 z (nI (100 + m))) 260 37 (nI (z + 1))) 260 38 (nI (m + 1))) (j_u D 424 m (FP.i2d (nI v))))
    (v8 : ((I 260 44) = (-1)) → 6 ≤ 6)
    (v9 : ((I 260 44) = (-1)) → ∀ J2 : Nat → Nat → Int32, (RRs T n p s1 J2 (j_u D 424 m (FP.i2d (nI v)))) → (RRg (j_u (j_u (j_u I 423 z (nI (100 + m))) 260 37 (nI (z + 1))) 260 38 (nI (m + 1))) (j_u D 424 m (FP.i2d (nI v))) J2 (j_u D 424 m (FP.i2d (nI v)))) → Q none w1 (J2, (j_u D 424 m (FP.i2d (nI v))), RR R)) : j_W 237 d 0 0 0 0 16 [some (.ref 260), none] [] w1 (I, D, RR R) Q := by
  refine q_aload_n d237_16 rfl ?_
  refine q_getR (x := 424) d237_17 (fs10_108 237 rfl) rfl (lt_w1 rfl) sh260 (rs260_36 R) (by decide) ?_
  refine q_aload_n d237_20 rfl ?_
  refine q_getI d237_21 (fs10_450 237 rfl) rfl (lt_w1 rfl) sh260 ?_
  refine r_int (y := (nI m)) (show I 260 38 = (nI m) from h38) ?_
  refine q_aload_n d237_24 rfl ?_
  refine q_getI d237_25 (fs10_391 237 rfl) rfl (lt_w1 rfl) sh260 ?_
  refine q_iconst (v := (-1)) (by decide) d237_28 ?_
  refine q_icmp_ne (tgt := 40) d237_29 rfl (fun h1t => ?_) (fun h1f => ?_)
  ·
    exact r_sub (L' := [some (.ref 260), none]) ⟨rfl, trivial⟩ (v1 h1t)
  ·
    refine q_aload_n d237_32 rfl ?_
    refine q_getI d237_33 (fs10_388 237 rfl) rfl (lt_w1 rfl) sh260 ?_
    refine r_int (y := (nI v)) (show I 260 43 = (nI v) from h43) ?_
    refine q_i2d d237_36 ?_
    refine q_goto (tgt := 58) d237_37 rfl ?_
    refine q_dastore (a := m) d237_58 (lt_w1 rfl) sh424 rfl (by omega) ?_
    refine q_aload_n d237_59 rfl ?_
    refine q_bipush (v := 100) (by decide) d237_60 ?_
    refine q_aload_n d237_62 rfl ?_
    refine q_getI d237_63 (fs10_450 237 rfl) rfl (lt_w1 rfl) sh260 ?_
    refine r_int (y := (nI m)) (show I 260 38 = (nI m) from h38) ?_
    refine q_iadd d237_66 ?_
    refine r_int (y := (nI (100 + m))) (nI_add 100 m) ?_
    refine q_invV (o := 260) (ci := 10) (av := [.int (nI (100 + m))]) (rest := []) (d' := 0) (mc' := 0) (ms' := 0) d237_67 (cv10_429 237 rfl) rfl (by decide) rfl rfl (by omega) (Nat.le_of_ble_eq_true rfl) (Nat.le_of_ble_eq_true rfl) (lt_w1 rfl) sh260 (Nat.le_refl _) (Nat.le_refl _) ?_
    refine c238g (z := z) (v2 h1f) (v3 h1f) (v4 h1f) ?_
    show j_W 237 d 0 0 0 0 70 [some (.ref 260), none] [] w1 ((j_u (j_u I 423 z (nI (100 + m))) 260 37 (nI (z + 1))), (j_u D 424 m (FP.i2d (nI v))), RR R) Q
    refine q_aload_n d237_70 rfl ?_
    refine q_dup rfl d237_71 ?_
    refine q_getI d237_72 (fs10_450 237 rfl) rfl (lt_w1 rfl) sh260 ?_
    refine r_int (y := (nI m)) (show (j_u (j_u I 423 z (nI (100 + m))) 260 37 (nI (z + 1))) 260 38 = (nI m) from (((j_u_k _ _ (by decide)).trans (j_u_o _ _ _ (by decide))).trans h38)) ?_
    refine q_iconst (v := 1) (by decide) d237_75 ?_
    refine q_iadd d237_76 ?_
    refine r_int (y := (nI (m + 1))) (nI_add m 1) ?_
    refine q_putI d237_77 (fs10_450 237 rfl) (Or.inl rfl) rfl (lt_w1 rfl) sh260 ?_
    refine q_aload_n d237_80 rfl ?_
    refine q_invV (o := 260) (ci := 10) (av := []) (rest := []) (d' := 6) (mc' := 0) (ms' := 0) d237_81 (cv10_421 237 rfl) rfl (by decide) rfl rfl (by omega) (Nat.le_of_ble_eq_true rfl) (Nat.le_of_ble_eq_true rfl) (lt_w1 rfl) sh260 (Nat.le_refl _) (Nat.le_refl _) ?_
    refine rr_next (T := T) (n := n) (dep := p) (s := (addP s 0 w)) (s' := s1) (v5 h1f) (v6 h1f) (v7 h1f) (v8 h1f) (fun J2 h3 h4 => ?_)
    show j_W 237 d 0 0 0 0 84 [some (.ref 260), none] [] w1 (J2, (j_u D 424 m (FP.i2d (nI v))), RR R) Q
    refine q_goto (tgt := 268) d237_84 rfl ?_
    exact q_ret d237_268 rfl (Nat.le_refl _) (Nat.le_refl _) (v9 h1f J2 h3 h4)

set_option maxRecDepth 10000 in
set_option maxHeartbeats 4000000 in
theorem r239e {d : Nat} {I : Nat → Nat → Int32} {D : Nat → Nat → UInt64} {R : Nat → Nat → Option Nat} {Q : j_Po} {c : Nat}  (hd : 0 ≤ d)
    (v1 : ((I 260 46) = 0) → j_W 239 d 0 0 0 0 8 [some (.ref 260), some (.int (nI c))] [] w1 (I, D, RR R) Q)
    (v2 : (¬ (I 260 46) = 0) → Q none w1 (I, D, RR R)) : j_Call d 239 [.ref 260, .int (nI c)] w1 (I, D, RR R) 0 0 Q := by
  refine q_enter (L := [some (.ref 260), some (.int (nI c))]) j_m239 (Nat.le_of_ble_eq_true rfl) rfl ?_
  refine q_aload_n d239_0 rfl ?_
  refine q_getI d239_1 (fs10_357 239 rfl) rfl (lt_w1 rfl) sh260 ?_
  refine q_if_eq (tgt := 8) d239_4 rfl (fun h1t => ?_) (fun h1f => ?_)
  ·
    exact r_sub (L' := [some (.ref 260), some (.int (nI c))]) ⟨rfl, rfl, trivial⟩ (v1 h1t)
  ·
    exact q_ret d239_7 rfl (Nat.le_refl _) (Nat.le_refl _) (v2 h1f)

set_option maxRecDepth 10000 in
set_option maxHeartbeats 4000000 in
theorem r239a {d : Nat} {I : Nat → Nat → Int32} {D : Nat → Nat → UInt64} {R : Nat → Nat → Option Nat} {Q : j_Po} {c : Nat} {k : Nat} (h41 : I 260 41 = nI k) (hk4 : k < 4) (hd : 0 ≤ d)
    (v1 : (¬ k = 2) → Q none w1 ((j_u I 260 46 1), D, RR R))
    (v2 : (k = 2) → j_W 239 d 0 0 0 0 16 [some (.ref 260), some (.int (nI c))] [] w1 (I, D, RR R) Q) : j_W 239 d 0 0 0 0 8 [some (.ref 260), some (.int (nI c))] [] w1 (I, D, RR R) Q := by
  refine q_aload_n d239_8 rfl ?_
  refine q_getI d239_9 (fs10_364 239 rfl) rfl (lt_w1 rfl) sh260 ?_
  refine r_int (y := (nI k)) (show I 260 41 = (nI k) from h41) ?_
  refine q_iconst (v := 2) (by decide) d239_12 ?_
  refine q_icmp_ne (tgt := 33) d239_13 rfl (fun h1t => ?_) (fun h1f => ?_)
  ·
    have h1tc : ¬ k = 2 := mt (nI_eqN (by omega) (by omega)).mpr h1t
    refine q_aload_n d239_33 rfl ?_
    refine q_iconst (v := 1) (by decide) d239_34 ?_
    refine q_putZ d239_35 (fs10_357 239 rfl) (Or.inl rfl) rfl (Or.inr rfl) (lt_w1 rfl) sh260 ?_
    exact q_ret d239_38 rfl (Nat.le_refl _) (Nat.le_refl _) (v1 h1tc)
  ·
    have h1fc : k = 2 := (nI_eqN (by omega) (by omega)).mp h1f
    exact r_sub (L' := [some (.ref 260), some (.int (nI c))]) ⟨rfl, rfl, trivial⟩ (v2 h1fc)

set_option maxRecDepth 10000 in
set_option maxHeartbeats 4000000 in
theorem r239b {d : Nat} {I : Nat → Nat → Int32} {D : Nat → Nat → UInt64} {R : Nat → Nat → Option Nat} {Q : j_Po} {c : Nat} {f : Nat} (h44 : I 260 44 = nI f) (hf : f < 1000) (hd : 0 ≤ d)
    (v1 : (¬ (nI f) = (-1)) → Q none w1 ((j_u I 260 46 1), D, RR R))
    (v2 : ((nI f) = (-1)) → j_W 239 d 0 0 0 0 25 [some (.ref 260), some (.int (nI c))] [.ref 260] w1 (I, D, RR R) Q) : j_W 239 d 0 0 0 0 16 [some (.ref 260), some (.int (nI c))] [] w1 (I, D, RR R) Q := by
  refine q_aload_n d239_16 rfl ?_
  refine q_getI d239_17 (fs10_391 239 rfl) rfl (lt_w1 rfl) sh260 ?_
  refine r_int (y := (nI f)) (show I 260 44 = (nI f) from h44) ?_
  refine q_iconst (v := (-1)) (by decide) d239_20 ?_
  refine q_icmp_ne (tgt := 33) d239_21 rfl (fun h1t => ?_) (fun h1f => ?_)
  ·
    refine q_aload_n d239_33 rfl ?_
    refine q_iconst (v := 1) (by decide) d239_34 ?_
    refine q_putZ d239_35 (fs10_357 239 rfl) (Or.inl rfl) rfl (Or.inr rfl) (lt_w1 rfl) sh260 ?_
    exact q_ret d239_38 rfl (Nat.le_refl _) (Nat.le_refl _) (v1 h1t)
  ·
    refine q_aload_n d239_24 rfl ?_
    exact r_sub (L' := [some (.ref 260), some (.int (nI c))]) ⟨rfl, rfl, trivial⟩ (v2 h1f)

set_option maxRecDepth 10000 in
set_option maxHeartbeats 4000000 in
theorem r239c {d : Nat} {I : Nat → Nat → Int32} {D : Nat → Nat → UInt64} {R : Nat → Nat → Option Nat} {Q : j_Po} {c : Nat} {v : Nat} (h44 : I 260 44 = -1) (h43 : I 260 43 = nI v) (hv : v < 10000) (hd : 0 ≤ d)
    (v1 : (¬ (I 260 44) = (-1)) → j_W 239 d 0 0 0 0 33 [some (.ref 260), some (.int (nI c))] [] w1 (I, D, RR R) Q)
    (v2 : ((I 260 44) = (-1)) → (v < 6) → j_W 239 d 0 0 0 0 39 [some (.ref 260), some (.int (nI c))] [] w1 (I, D, RR R) Q)
    (v3 : ((I 260 44) = (-1)) → (¬ v < 6) → j_W 239 d 0 0 0 0 33 [some (.ref 260), some (.int (nI c))] [] w1 (I, D, RR R) Q) : j_W 239 d 0 0 0 0 16 [some (.ref 260), some (.int (nI c))] [] w1 (I, D, RR R) Q := by
  refine q_aload_n d239_16 rfl ?_
  refine q_getI d239_17 (fs10_391 239 rfl) rfl (lt_w1 rfl) sh260 ?_
  refine q_iconst (v := (-1)) (by decide) d239_20 ?_
  refine q_icmp_ne (tgt := 33) d239_21 rfl (fun h1t => ?_) (fun h1f => ?_)
  ·
    exact r_sub (L' := [some (.ref 260), some (.int (nI c))]) ⟨rfl, rfl, trivial⟩ (v1 h1t)
  ·
    refine q_aload_n d239_24 rfl ?_
    refine q_getI d239_25 (fs10_388 239 rfl) rfl (lt_w1 rfl) sh260 ?_
    refine r_int (y := (nI v)) (show I 260 43 = (nI v) from h43) ?_
    refine q_bipush (v := 6) (by decide) d239_28 ?_
    refine q_icmp_lt (tgt := 39) d239_30 rfl (fun h2t => ?_) (fun h2f => ?_)
    ·
      have h2tc : v < 6 := (nI_ltI (by omega) (by omega)).mp h2t
      exact r_sub (L' := [some (.ref 260), some (.int (nI c))]) ⟨rfl, rfl, trivial⟩ (v2 h1f h2tc)
    ·
      have h2fc : ¬ v < 6 := mt (nI_ltI (by omega) (by omega)).mpr h2f
      exact r_sub (L' := [some (.ref 260), some (.int (nI c))]) ⟨rfl, rfl, trivial⟩ (v3 h1f h2fc)

set_option maxRecDepth 10000 in
set_option maxHeartbeats 4000000 in
theorem r239d {d : Nat} {I : Nat → Nat → Int32} {D : Nat → Nat → UInt64} {R : Nat → Nat → Option Nat} {Q : j_Po} {c : Nat}  (hd : 0 ≤ d)
    (v1 : Q none w1 ((j_u I 260 46 1), D, RR R)) : j_W 239 d 0 0 0 0 33 [some (.ref 260), some (.int (nI c))] [] w1 (I, D, RR R) Q := by
  refine q_aload_n d239_33 rfl ?_
  refine q_iconst (v := 1) (by decide) d239_34 ?_
  refine q_putZ d239_35 (fs10_357 239 rfl) (Or.inl rfl) rfl (Or.inr rfl) (lt_w1 rfl) sh260 ?_
  exact q_ret d239_38 rfl (Nat.le_refl _) (Nat.le_refl _) v1

set_option maxRecDepth 10000 in
set_option maxHeartbeats 4000000 in
theorem r239f {d : Nat} {I : Nat → Nat → Int32} {D : Nat → Nat → UInt64} {R : Nat → Nat → Option Nat} {Q : j_Po} {c : Nat} {T : Nat → Nat} {n : Nat} {s t1 : PSt} {p : Nat} {v : Nat} (h43 : I 260 43 = nI v) (hv : v < 6) (hc : c < 5) (hd : 7 ≤ d)
    (v1 : ∀ m F, MRj m ((13 + c), v) (nI ((300 + (10 * c)) + v)) F)
    (v2 : pz s < 96)
    (v3 : RRG T n p s I D)
    (v4 : ∀ J1 : Nat → Nat → Int32, (RRG T n p (addP s (13 + c) v) J1 D) → (RRg I D J1 D) → nxP T n (addP s (13 + c) v) t1)
    (v5 : ∀ J1 : Nat → Nat → Int32, (RRG T n p (addP s (13 + c) v) J1 D) → (RRg I D J1 D) → okP n (addP s (13 + c) v))
    (v6 : ∀ J1 : Nat → Nat → Int32, (RRG T n p (addP s (13 + c) v) J1 D) → (RRg I D J1 D) → RRG T n p (addP s (13 + c) v) J1 D)
    (v7 : ∀ J1 : Nat → Nat → Int32, (RRG T n p (addP s (13 + c) v) J1 D) → (RRg I D J1 D) → 6 ≤ 6)
    (v8 : ∀ J1 : Nat → Nat → Int32, (RRG T n p (addP s (13 + c) v) J1 D) → (RRg I D J1 D) → ∀ J4 : Nat → Nat → Int32, (RRs T n p t1 J4 D) → (RRg J1 D J4 D) → Q none w1 (J4, D, RR R)) : j_W 239 d 0 0 0 0 39 [some (.ref 260), some (.int (nI c))] [] w1 (I, D, RR R) Q := by
  refine q_aload_n d239_39 rfl ?_
  refine q_sipush (v := 300) (by decide) d239_40 ?_
  refine q_bipush (v := 10) (by decide) d239_43 ?_
  refine q_iload_n d239_45 rfl ?_
  refine q_imul d239_46 ?_
  refine r_int (y := (nI (10 * c))) (pk_mul 10 c) ?_
  refine q_iadd d239_47 ?_
  refine r_int (y := (nI (300 + (10 * c)))) (nI_add 300 (10 * c)) ?_
  refine q_aload_n d239_48 rfl ?_
  refine q_getI d239_49 (fs10_388 239 rfl) rfl (lt_w1 rfl) sh260 ?_
  refine r_int (y := (nI v)) (show I 260 43 = (nI v) from h43) ?_
  refine q_iadd d239_52 ?_
  refine r_int (y := (nI ((300 + (10 * c)) + v))) (nI_add (300 + (10 * c)) v) ?_
  refine q_invV (o := 260) (ci := 10) (av := [.int (nI ((300 + (10 * c)) + v))]) (rest := []) (d' := 0) (mc' := 0) (ms' := 0) d239_53 (cv10_429 239 rfl) rfl (by decide) rfl rfl (by omega) (Nat.le_of_ble_eq_true rfl) (Nat.le_of_ble_eq_true rfl) (lt_w1 rfl) sh260 (Nat.le_refl _) (Nat.le_refl _) ?_
  refine rr_mark (a := (13 + c)) (w := v) (x := (nI ((300 + (10 * c)) + v))) (T := T) (n := n) (dep := p) (s := s) v1 v2 v3 (fun J1 h2 h3 => ?_)
  show j_W 239 d 0 0 0 0 56 [some (.ref 260), some (.int (nI c))] [] w1 (J1, D, RR R) Q
  refine q_aload_n d239_56 rfl ?_
  refine q_invV (o := 260) (ci := 10) (av := []) (rest := []) (d' := 6) (mc' := 0) (ms' := 0) d239_57 (cv10_421 239 rfl) rfl (by decide) rfl rfl (by omega) (Nat.le_of_ble_eq_true rfl) (Nat.le_of_ble_eq_true rfl) (lt_w1 rfl) sh260 (Nat.le_refl _) (Nat.le_refl _) ?_
  refine rr_next (T := T) (n := n) (dep := p) (s := (addP s (13 + c) v)) (s' := t1) (v4 J1 h2 h3) (v5 J1 h2 h3) (v6 J1 h2 h3) (v7 J1 h2 h3) (fun J4 h5 h6 => ?_)
  show j_W 239 d 0 0 0 0 60 [some (.ref 260), some (.int (nI c))] [] w1 (J4, D, RR R) Q
  exact q_ret d239_60 rfl (Nat.le_refl _) (Nat.le_refl _) (v8 J1 h2 h3 J4 h5 h6)

