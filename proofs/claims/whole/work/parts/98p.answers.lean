/-! answers -/
theorem pl_ne {x : UInt64} : pl x ≠ 0x8000000000000000 := by
  unfold pl
  split
  · decide
  · intro e
    subst e
    exact absurd (show deq 0x8000000000000000 FP.dconst0 = true by decide +kernel) (by assumption)
theorem kp_ne {k : Int32} {x : UInt64} : kp k x ≠ 0x8000000000000000 := by
  unfold kp
  repeat' split
  all_goals exact pl_ne
def ansV (v : Vl) : Int64 := if v.1 = 0 then v.2.toInt64 else ((-20) - nI (v.1 / 32) : Int32).toInt64
theorem n32_d : ∀ w, w < 200 → nI w / 32 = nI (w / 32) := by decide +kernel
theorem ans_l : ∀ e, e < 7 → ((-20) - (nI e : Int32).toInt64 : Int64) = ((-20) - nI e : Int32).toInt64 := by decide +kernel
set_option maxRecDepth 10000 in
set_option maxHeartbeats 4000000 in
theorem u56 {d : Nat} {I : Nat → Nat → Int32} {D : Nat → Nat → UInt64} {R : Nat → Nat → Option Nat} {Q : j_Po} {x : UInt64} {w : Nat}   (hd : 1 ≤ d)
    (v1 : (¬ (nI w) = 0) → Q (some (.long ((((-20) - ((nI w) / 32)) : Int32).toInt64))) w1 (I, D, RR R))
    (v2 : ((nI w) = 0) → okD x)
    (v3 : ((nI w) = 0) → Q (some (.long (x : UInt64).toInt64)) w1 (I, D, RR R)) : j_Call d 56 [.double x, .int (nI w)] w1 (I, D, RR R) 0 0 Q := by
  refine q_enter (L := [some (.double x), none, some (.int (nI w))]) j_m56 (Nat.le_of_ble_eq_true rfl) rfl ?_
  refine q_iload_n d56_0 rfl ?_
  refine q_if_ne (tgt := 11) d56_1 rfl (fun h1t => ?_) (fun h1f => ?_)
  ·
    refine q_bipush (v := (-20)) (by decide) d56_11 ?_
    refine q_iload_n d56_13 rfl ?_
    refine q_invS (av := [.int (nI w)]) (rest := [.int (-20)]) (d' := 0) (mc' := 0) (ms' := 0) d56_14 (cv9_121 56 rfl) rfl rfl (by omega) (Nat.le_of_ble_eq_true rfl) (Nat.le_of_ble_eq_true rfl) (Nat.le_refl _) (Nat.le_refl _) ?_
    refine u53 (Nat.zero_le _)  ?_
    show j_W 56 d 0 0 0 0 17 [some (.double x), none, some (.int (nI w))] [.int ((nI w) / 32), .int (-20)] w1 (I, D, RR R) Q
    refine q_isub d56_17 ?_
    refine q_i2l d56_18 ?_
    exact q_lret d56_19 rfl (Nat.le_refl _) (Nat.le_refl _) (v1 h1t)
  ·
    refine q_dload_n d56_4 rfl ?_
    refine q_invS (av := [.double x]) (rest := []) (d' := 0) (mc' := 0) (ms' := 0) d56_5 (cv9_267 56 rfl) rfl rfl (by omega) (Nat.le_of_ble_eq_true rfl) (Nat.le_of_ble_eq_true rfl) (Nat.le_refl _) (Nat.le_refl _) ?_
    refine fpB (v2 h1f) ?_
    show j_W 56 d 0 0 0 0 8 [some (.double x), none, some (.int (nI w))] [.long (x : UInt64).toInt64] w1 (I, D, RR R) Q
    refine q_goto (tgt := 19) d56_8 rfl ?_
    exact q_lret d56_19 rfl (Nat.le_refl _) (Nat.le_refl _) (v3 h1f)

section AN
variable {β : Bd} {η : VEnv} {d : Nat} {I : Nat → Nat → Int32} {D : Nat → Nat → UInt64} {R : Nat → Nat → Option Nat} {Q : j_Po}
theorem c56 {x : UInt64} {v : Vl} (hd : 1 ≤ d) (hv : VR (nI v.1) x v) (hk : v.1 = 0 → v.2 ≠ 0x8000000000000000) (hq : Q (some (.long (ansV v))) w1 (I, D, RR R)) : j_Call d 56 [.double x, .int (nI v.1)] w1 (I, D, RR R) 0 0 Q := by
  obtain ⟨-, h2, h3, h4⟩ := hv
  refine u56 hd (fun h => ?_) (fun h => ⟨h2 ((nI_z h4).mp h) ▸ h3, h2 ((nI_z h4).mp h) ▸ hk ((nI_z h4).mp h)⟩) (fun h => ?_)
  · have e1 : ansV v = ((-20) - nI (v.1 / 32) : Int32).toInt64 := if_neg (fun q => h ((nI_z h4).mpr q))
    rw [n32_d _ h4, ← e1]; exact hq
  · have e1 : ansV v = v.2.toInt64 := if_pos ((nI_z h4).mp h)
    rw [h2 ((nI_z h4).mp h), ← e1]; exact hq
theorem c201 {e b : Int32} {x : UInt64} {v : Vl} (hd : 3 ≤ d) (hv : VQ e b x v) (hq : Q (some (.long (ansV v))) w1 (I, D, RR R)) : j_Call d 201 [.double x, .int e] w1 (I, D, RR R) 0 0 Q := by
  have hz := hv.z
  refine s201 hd (fun h => ?_) (fun h _ => ?_) (fun h h2 => ?_)
  · have e1 : ansV v = ((-20) - nI (v.1 / 32) : Int32).toInt64 := if_neg (fun q => h (hz.mpr q))
    rw [hv.1, ans_l _ (by have := hv.2.2.2.1; omega), ← e1]; exact hq
  · have e1 : ansV v = v.2.toInt64 := if_pos (hz.mp h)
    rw [(hv.2.2.1 (hz.mp h)).1, ← e1]; exact hq
  · have := deq_self (fi_nn (hv.2.2.1 (hz.mp h)).2.1)
    rw [h2] at this; cases this
theorem val_ne (hV : BV β) {c : Nat} (hc : c < 24) (hη : bZ β c = 0 → (η c).1 = 0 → (η c).2 ≠ 0x8000000000000000) (h : (val β η c).1 = 0) : (val β η c).2 ≠ 0x8000000000000000 := by
  rw [val_eq hV η hc] at h ⊢
  by_cases hz : bZ β c = 0
  · rw [if_pos hz] at h ⊢; exact hη hz h
  · rw [if_neg hz] at h ⊢
    unfold finV at h ⊢
    split
    · exact kp_ne
    · rename_i g; rw [if_neg g] at h; exact absurd h g
theorem env_ne {c : Nat} : (env β c).1 = 0 → (env β c).2 ≠ 0x8000000000000000 := by
  unfold env
  split
  · exact fun _ => kp_ne
  · intro h; exact absurd h (by simp only; omega)
theorem sup_ne {t i j c : Nat} (hη : ∀ c, (η c).1 = 0 → (η c).2 ≠ 0x8000000000000000) : (supV β η t i j c).1 = 0 → (supV β η t i j c).2 ≠ 0x8000000000000000 := by
  unfold supV
  by_cases e : c = b1 β t
  · subst e; rw [fu_s]; exact fun _ => kp_ne
  · rw [fu_n e]
    cases b2 β t with
    | none => exact hη c
    | some o =>
      by_cases e2 : c = o
      · subst e2; simp only [fu_s]; exact fun _ => kp_ne
      · simp only [fu_n e2]; exact hη c
end AN
/-- whom a wrong blames -/
def blV (w : Nat) : Int32 := if w = 0 then -1 else nI (w % 32)
theorem n32_m : ∀ w, w < 200 → nI w - nI w / 32 * 32 = nI (w % 32) := by decide +kernel
theorem u54x {d : Nat} {I : Nat → Nat → Int32} {D : Nat → Nat → UInt64} {R : Nat → Nat → Option Nat} {Q : j_Po} {w : Nat} (hw : w < 200) (hq : Q (some (.int (blV w))) w1 (I, D, RR R)) : j_Call d 54 [.int (nI w)] w1 (I, D, RR R) 0 0 Q := by
  have z := nI_z hw
  refine u54 (Nat.zero_le _) (fun h => ?_) (fun h => ?_)
  · rw [n32_m w hw]
    unfold blV at hq; rw [if_neg (fun q => h (z.mpr q))] at hq; exact hq
  · unfold blV at hq; rw [if_pos (z.mp h)] at hq; exact hq
set_option maxRecDepth 10000 in
set_option maxHeartbeats 4000000 in
theorem u55e {d : Nat} {I : Nat → Nat → Int32} {D : Nat → Nat → UInt64} {R : Nat → Nat → Option Nat} {Q : j_Po} {a : Int32}   (hd : 1 ≤ d)
    (v1 : ∀ k1 : Nat, (k1 < 24) → (a = nI k1) → j_W 55 d 0 0 0 0 11 [some (.ref 0), some (.int (nI k1)), none] [] w1 (I, D, RR R) Q)
    (v2 : (¬ (∃ k : Nat, k < 24 ∧ a = nI k)) → Q (some (.long (-2))) w1 (I, D, RR R)) : j_Call d 55 [.ref 0, .int a] w1 (I, D, RR R) 0 0 Q := by
  refine q_enter (L := [some (.ref 0), some (.int a), none]) j_m55 (Nat.le_of_ble_eq_true rfl) rfl ?_
  refine q_iload_n d55_0 rfl ?_
  refine q_invS (av := [.int a]) (rest := []) (d' := 0) (mc' := 0) (ms' := 0) d55_1 (cv9_60 55 rfl) rfl rfl (by omega) (Nat.le_of_ble_eq_true rfl) (Nat.le_of_ble_eq_true rfl) (Nat.le_refl _) (Nat.le_refl _) ?_
  refine r12  (fun k1 h1 h1e => ?_) (fun h1 => ?_)
  ·
    subst h1e
    show j_W 55 d 0 0 0 0 4 [some (.ref 0), some (.int (nI k1)), none] [.int 1] w1 (I, D, RR R) Q
    refine q_if_ne (tgt := 11) d55_4 rfl (fun _ => ?_) (fun h => absurd h (by decide))
    exact r_sub (L' := [some (.ref 0), some (.int (nI k1)), none]) ⟨rfl, rfl, trivial⟩ (v1 k1 h1 rfl)
  ·
    show j_W 55 d 0 0 0 0 4 [some (.ref 0), some (.int a), none] [.int 0] w1 (I, D, RR R) Q
    refine q_if_ne (tgt := 11) d55_4 rfl (fun h => absurd h (by decide)) (fun _ => ?_)
    refine q_ldcL (v := (-2)) d55_7 (kc9_127 55 rfl) ?_
    exact q_lret d55_10 rfl (Nat.le_refl _) (Nat.le_refl _) (v2 h1)

set_option maxRecDepth 10000 in
set_option maxHeartbeats 4000000 in
theorem u55g {d : Nat} {I : Nat → Nat → Int32} {D : Nat → Nat → UInt64} {R : Nat → Nat → Option Nat} {Q : j_Po} {c : Nat} {β : Bd} (hR : WFR R) (hV : BV β) (hC : CB β I D R) (hN : NM β I) (hO : OrdB β I) (hc : c < 24) (hd : 50 ≤ d)
    (v1 : c < 24)
    (v2 : 40 ≤ 40)
    (v3 : ∀ J1 : Nat → Nat → Int32, ∀ E2 : Nat → Nat → UInt64, (FRc I D J1 E2) → (LC J1 E2 0 c (val β (env β) c)) → 1 ≤ 1)
    (v4 : ∀ J1 : Nat → Nat → Int32, ∀ E2 : Nat → Nat → UInt64, (FRc I D J1 E2) → (LC J1 E2 0 c (val β (env β) c)) → VR (nI ((val β (env β) c).1)) (E2 213 c) (val β (env β) c))
    (v5 : ∀ J1 : Nat → Nat → Int32, ∀ E2 : Nat → Nat → UInt64, (FRc I D J1 E2) → (LC J1 E2 0 c (val β (env β) c)) → (val β (env β) c).1 = 0 → (val β (env β) c).2 ≠ 0x8000000000000000)
    (v6 : ∀ J1 : Nat → Nat → Int32, ∀ E2 : Nat → Nat → UInt64, (FRc I D J1 E2) → (LC J1 E2 0 c (val β (env β) c)) → Q (some (.long (ansV (val β (env β) c)))) w1 (J1, E2, RR R)) : j_W 55 d 0 0 0 0 11 [some (.ref 0), some (.int (nI c)), none] [] w1 (I, D, RR R) Q := by
  refine q_aload_n d55_11 rfl ?_
  refine q_iload_n d55_12 rfl ?_
  refine q_invV (o := 0) (ci := 9) (av := [.int (nI c)]) (rest := []) (d' := 40) (mc' := 0) (ms' := 0) d55_13 (cv9_117 55 rfl) rfl (by decide) rfl rfl (by omega) (Nat.le_of_ble_eq_true rfl) (Nat.le_of_ble_eq_true rfl) (lt_w1 rfl) sh0 (Nat.le_refl _) (Nat.le_refl _) ?_
  refine c33 hR hV hC hN hO v1 v2 (fun J1 E2 h3 h4 => ?_)
  show j_W 55 d 0 0 0 0 16 [some (.ref 0), some (.int (nI c)), none] [.int (nI ((val β (env β) c).1))] w1 (J1, E2, RR R) Q
  refine q_istore_n (L' := [some (.ref 0), some (.int (nI c)), some (.int (nI ((val β (env β) c).1)))]) d55_16 (Nat.le_of_ble_eq_true rfl) rfl ?_
  refine q_aload_n d55_17 rfl ?_
  refine q_getR (x := 107) d55_18 (fs9_46 55 rfl) rfl (lt_w1 rfl) sh0 (rs0_0 R) (by decide) ?_
  refine q_getR (x := 212) d55_21 (fs9_129 55 rfl) rfl (lt_w1 rfl) sh107 (rs107_3 R) (by decide) ?_
  refine q_iconst (v := 0) (by decide) d55_24 ?_
  refine q_aaload (c := 3) (a := 0) (x := 213) d55_25 (lt_w1 rfl) sh212 (by decide) rfl (by decide) (rm212 (k := 0) R (by decide)) (by decide) ?_
  refine q_iload_n d55_26 rfl ?_
  refine q_daload (a := c) d55_27 (lt_w1 rfl) sh213 rfl (by omega) ?_
  refine q_iload_n d55_28 rfl ?_
  refine q_invS (av := [.double (E2 213 c), .int (nI ((val β (env β) c).1))]) (rest := []) (d' := 1) (mc' := 0) (ms' := 0) d55_29 (cv9_132 55 rfl) rfl rfl (by omega) (Nat.le_of_ble_eq_true rfl) (Nat.le_of_ble_eq_true rfl) (Nat.le_refl _) (Nat.le_refl _) ?_
  refine c56 (v := (val β (env β) c)) (v3 J1 E2 h3 h4) (v4 J1 E2 h3 h4) (v5 J1 E2 h3 h4) ?_
  show j_W 55 d 0 0 0 0 32 [some (.ref 0), some (.int (nI c)), some (.int (nI ((val β (env β) c).1)))] [.long (ansV (val β (env β) c))] w1 (J1, E2, RR R) Q
  exact q_lret d55_32 rfl (Nat.le_refl _) (Nat.le_refl _) (v6 J1 E2 h3 h4)

set_option maxRecDepth 10000 in
set_option maxHeartbeats 4000000 in
theorem u198e {d : Nat} {I : Nat → Nat → Int32} {D : Nat → Nat → UInt64} {R : Nat → Nat → Option Nat} {Q : j_Po} {a : Int32}   (hd : 2 ≤ d)
    (v1 : ∀ k1 : Nat, (k1 < 24) → (a = nI k1) → j_W 198 d 0 0 0 0 11 [some (.ref 260), some (.int (nI k1)), none, none] [] w1 (I, D, RR R) Q)
    (v2 : (¬ (∃ k : Nat, k < 24 ∧ a = nI k)) → Q (some (.long (-2))) w1 (I, D, RR R)) : j_Call d 198 [.ref 260, .int a] w1 (I, D, RR R) 0 0 Q := by
  refine q_enter (L := [some (.ref 260), some (.int a), none, none]) j_m198 (Nat.le_of_ble_eq_true rfl) rfl ?_
  refine q_iload_n d198_0 rfl ?_
  refine q_invS (av := [.int a]) (rest := []) (d' := 1) (mc' := 0) (ms' := 0) d198_1 (cv10_312 198 rfl) rfl rfl (by omega) (Nat.le_of_ble_eq_true rfl) (Nat.le_of_ble_eq_true rfl) (Nat.le_refl _) (Nat.le_refl _) ?_
  refine r167 (Nat.le_refl _)  (fun k1 h1 h1e => ?_) (fun h1 => ?_)
  ·
    subst h1e
    show j_W 198 d 0 0 0 0 4 [some (.ref 260), some (.int (nI k1)), none, none] [.int 1] w1 (I, D, RR R) Q
    refine q_if_ne (tgt := 11) d198_4 rfl (fun _ => ?_) (fun h => absurd h (by decide))
    exact r_sub (L' := [some (.ref 260), some (.int (nI k1)), none, none]) ⟨rfl, rfl, trivial⟩ (v1 k1 h1 rfl)
  ·
    show j_W 198 d 0 0 0 0 4 [some (.ref 260), some (.int a), none, none] [.int 0] w1 (I, D, RR R) Q
    refine q_if_ne (tgt := 11) d198_4 rfl (fun h => absurd h (by decide)) (fun _ => ?_)
    refine q_ldcL (v := (-2)) d198_7 (kc10_326 198 rfl) ?_
    exact q_lret d198_10 rfl (Nat.le_refl _) (Nat.le_refl _) (v2 h1)

set_option maxRecDepth 10000 in
set_option maxHeartbeats 4000000 in
theorem u199 {d : Nat} {I : Nat → Nat → Int32} {D : Nat → Nat → UInt64} {R : Nat → Nat → Option Nat} {Q : j_Po} {c : Nat} {β : Bd} {η : VEnv} (hV : BV β) (hc : c < 24) (hd : 80 ≤ d)
    (v1 : RSt β I D)
    (v2 : RIn β I D η)
    (v3 : c < 24)
    (v4 : 70 ≤ 70)
    (v5 : ∀ J1 : Nat → Nat → Int32, ∀ E2 : Nat → Nat → UInt64, (FRr I D J1 E2) → (VQ (J1 380 c) (J1 388 c) (E2 372 c) (val β η c)) → Q (some (.double (E2 372 c))) w1 (J1, E2, RR R)) : j_Call d 199 [.ref 260, .int (nI c)] w1 (I, D, RR R) 0 0 Q := by
  refine q_enter (L := [some (.ref 260), some (.int (nI c))]) j_m199 (Nat.le_of_ble_eq_true rfl) rfl ?_
  refine q_aload_n d199_0 rfl ?_
  refine q_iload_n d199_1 rfl ?_
  refine q_invV (o := 260) (ci := 10) (av := [.int (nI c)]) (rest := []) (d' := 70) (mc' := 0) (ms' := 0) d199_2 (cv10_296 199 rfl) rfl (by decide) rfl rfl (by omega) (Nat.le_of_ble_eq_true rfl) (Nat.le_of_ble_eq_true rfl) (lt_w1 rfl) sh260 (Nat.le_refl _) (Nat.le_refl _) ?_
  refine c189 (η := η) hV v1 v2 v3 v4 (fun J1 E2 h3 h4 => ?_)
  show j_W 199 d 0 0 0 0 5 [some (.ref 260), some (.int (nI c))] [] w1 (J1, E2, RR R) Q
  refine q_aload_n d199_5 rfl ?_
  refine q_getR (x := 371) d199_6 (fs10_75 199 rfl) rfl (lt_w1 rfl) sh260 (rs260_20 R) (by decide) ?_
  refine q_iconst (v := 0) (by decide) d199_9 ?_
  refine q_aaload (c := 3) (a := 0) (x := 372) d199_10 (lt_w1 rfl) sh371 (by decide) rfl (by decide) (rm371 (k := 0) R (by decide)) (by decide) ?_
  refine q_iload_n d199_11 rfl ?_
  refine q_daload (a := c) d199_12 (lt_w1 rfl) sh372 rfl (by omega) ?_
  exact q_dret d199_13 rfl (Nat.le_refl _) (Nat.le_refl _) (v5 J1 E2 h3 h4)

set_option maxRecDepth 10000 in
set_option maxHeartbeats 4000000 in
theorem u200 {d : Nat} {I : Nat → Nat → Int32} {D : Nat → Nat → UInt64} {R : Nat → Nat → Option Nat} {Q : j_Po} {c : Nat}  (hc : c < 24) (hd : 0 ≤ d)
    (v1 : Q (some (.int (I 380 c))) w1 (I, D, RR R)) : j_Call d 200 [.ref 260, .int (nI c)] w1 (I, D, RR R) 0 0 Q := by
  refine q_enter (L := [some (.ref 260), some (.int (nI c))]) j_m200 (Nat.le_of_ble_eq_true rfl) rfl ?_
  refine q_aload_n d200_0 rfl ?_
  refine q_getR (x := 379) d200_1 (fs10_78 200 rfl) rfl (lt_w1 rfl) sh260 (rs260_21 R) (by decide) ?_
  refine q_iconst (v := 0) (by decide) d200_4 ?_
  refine q_aaload (c := 4) (a := 0) (x := 380) d200_5 (lt_w1 rfl) sh379 (by decide) rfl (by decide) (rm379 (k := 0) R (by decide)) (by decide) ?_
  refine q_iload_n d200_6 rfl ?_
  refine q_iaload (a := c) d200_7 (lt_w1 rfl) sh380 rfl (by omega) ?_
  exact q_iret d200_8 rfl (Nat.le_refl _) (Nat.le_refl _) v1

theorem c199 {β : Bd} {I : Nat → Nat → Int32} {D : Nat → Nat → UInt64} {R : Nat → Nat → Option Nat} {Q : j_Po} (hV : BV β) (hS : RSt β I D) {η : VEnv} (hI : RIn β I D η) {d c : Nat} (hc : c < 24) (hd : 80 ≤ d) (hq : ∀ J E, FRr I D J E → VQ (J 380 c) (J 388 c) (E 372 c) (val β η c) → Q (some (.double (E 372 c))) w1 (J, E, RR R)) : j_Call d 199 [.ref 260, .int (nI c)] w1 (I, D, RR R) 0 0 Q := u199 hV hc hd hS hI hc (Nat.le_refl _) hq
set_option maxRecDepth 10000 in
set_option maxHeartbeats 4000000 in
theorem u198g {d : Nat} {I : Nat → Nat → Int32} {D : Nat → Nat → UInt64} {R : Nat → Nat → Option Nat} {Q : j_Po} {c : Nat} {β : Bd} {η : VEnv} (hV : BV β) (hc : c < 24) (hd : 90 ≤ d)
    (v1 : RSt β I D)
    (v2 : RIn β I D η)
    (v3 : c < 24)
    (v4 : 80 ≤ 80)
    (v5 : ∀ J1 : Nat → Nat → Int32, ∀ E2 : Nat → Nat → UInt64, (FRr I D J1 E2) → (VQ (J1 380 c) (J1 388 c) (E2 372 c) (val β η c)) → 0 ≤ 0)
    (v6 : ∀ J1 : Nat → Nat → Int32, ∀ E2 : Nat → Nat → UInt64, (FRr I D J1 E2) → (VQ (J1 380 c) (J1 388 c) (E2 372 c) (val β η c)) → 3 ≤ 3)
    (v7 : ∀ J1 : Nat → Nat → Int32, ∀ E2 : Nat → Nat → UInt64, (FRr I D J1 E2) → (VQ (J1 380 c) (J1 388 c) (E2 372 c) (val β η c)) → VQ (J1 380 c) (J1 388 c) (E2 372 c) (val β η c))
    (v8 : ∀ J1 : Nat → Nat → Int32, ∀ E2 : Nat → Nat → UInt64, (FRr I D J1 E2) → (VQ (J1 380 c) (J1 388 c) (E2 372 c) (val β η c)) → Q (some (.long (ansV (val β η c)))) w1 (J1, E2, RR R)) : j_W 198 d 0 0 0 0 11 [some (.ref 260), some (.int (nI c)), none, none] [] w1 (I, D, RR R) Q := by
  refine q_aload_n d198_11 rfl ?_
  refine q_iload_n d198_12 rfl ?_
  refine q_invV (o := 260) (ci := 10) (av := [.int (nI c)]) (rest := []) (d' := 80) (mc' := 0) (ms' := 0) d198_13 (cv10_328 198 rfl) rfl (by decide) rfl rfl (by omega) (Nat.le_of_ble_eq_true rfl) (Nat.le_of_ble_eq_true rfl) (lt_w1 rfl) sh260 (Nat.le_refl _) (Nat.le_refl _) ?_
  refine c199 (η := η) hV v1 v2 v3 v4 (fun J1 E2 h3 h4 => ?_)
  show j_W 198 d 0 0 0 0 16 [some (.ref 260), some (.int (nI c)), none, none] [.double (E2 372 c)] w1 (J1, E2, RR R) Q
  refine q_dstore_n (L' := [some (.ref 260), some (.int (nI c)), some (.double (E2 372 c)), none]) d198_16 (Nat.le_of_ble_eq_true rfl) rfl ?_
  refine q_dload_n d198_17 rfl ?_
  refine q_aload_n d198_18 rfl ?_
  refine q_iload_n d198_19 rfl ?_
  refine q_invV (o := 260) (ci := 10) (av := [.int (nI c)]) (rest := [.double (E2 372 c)]) (d' := 0) (mc' := 0) (ms' := 0) d198_20 (cv10_332 198 rfl) rfl (by decide) rfl rfl (by omega) (Nat.le_of_ble_eq_true rfl) (Nat.le_of_ble_eq_true rfl) (lt_w1 rfl) sh260 (Nat.le_refl _) (Nat.le_refl _) ?_
  refine u200 v3 (v5 J1 E2 h3 h4) ?_
  show j_W 198 d 0 0 0 0 23 [some (.ref 260), some (.int (nI c)), some (.double (E2 372 c)), none] [.int (J1 380 c), .double (E2 372 c)] w1 (J1, E2, RR R) Q
  refine q_invS (av := [.double (E2 372 c), .int (J1 380 c)]) (rest := []) (d' := 3) (mc' := 0) (ms' := 0) d198_23 (cv10_335 198 rfl) rfl rfl (by omega) (Nat.le_of_ble_eq_true rfl) (Nat.le_of_ble_eq_true rfl) (Nat.le_refl _) (Nat.le_refl _) ?_
  refine c201 (v := (val β η c)) (b := (J1 388 c)) (v6 J1 E2 h3 h4) (v7 J1 E2 h3 h4) ?_
  show j_W 198 d 0 0 0 0 26 [some (.ref 260), some (.int (nI c)), some (.double (E2 372 c)), none] [.long (ansV (val β η c))] w1 (J1, E2, RR R) Q
  exact q_lret d198_26 rfl (Nat.le_refl _) (Nat.le_refl _) (v8 J1 E2 h3 h4)

set_option maxRecDepth 10000 in
set_option maxHeartbeats 4000000 in
theorem u25 {d : Nat} {I : Nat → Nat → Int32} {D : Nat → Nat → UInt64} {R : Nat → Nat → Option Nat} {Q : j_Po} {g : Nat}  (hg : isG g) (hd : 0 ≤ d)
    (v1 : ((I g 5) ≤ 0) → Q (some (.int 1)) w1 (I, D, RR R))
    (v2 : (¬ (I g 5) ≤ 0) → Q (some (.int (I g 5))) w1 (I, D, RR R)) : j_Call d 25 [.ref g] w1 (I, D, RR R) 0 0 Q := by
  refine q_enter (L := [some (.ref g)]) j_m25 (Nat.le_of_ble_eq_true rfl) rfl ?_
  refine q_aload_n d25_0 rfl ?_
  refine q_getI d25_1 (fs3_35 25 rfl) rfl (isG_lt hg) (isG_sh hg) ?_
  refine q_if_le (tgt := 14) d25_4 rfl (fun h1t => ?_) (fun h1f => ?_)
  ·
    refine q_iconst (v := 1) (by decide) d25_14 ?_
    exact q_iret d25_15 rfl (Nat.le_refl _) (Nat.le_refl _) (v1 h1t)
  ·
    refine q_aload_n d25_7 rfl ?_
    refine q_getI d25_8 (fs3_35 25 rfl) rfl (isG_lt hg) (isG_sh hg) ?_
    refine q_goto (tgt := 15) d25_11 rfl ?_
    exact q_iret d25_15 rfl (Nat.le_refl _) (Nat.le_refl _) (v2 h1f)

set_option maxRecDepth 10000 in
set_option maxHeartbeats 4000000 in
theorem u118 {d : Nat} {I : Nat → Nat → Int32} {D : Nat → Nat → UInt64} {R : Nat → Nat → Option Nat} {Q : j_Po} {a : Int32} {i : Int32} {j : Int32}  (hR : WFR R) (hd : 1 ≤ d)
    (v1 : ∀ k1 : Nat, (k1 < 6) → (a = nI k1) → (¬ (I ((R 113 k1).getD 0) 0) = 0) → (i < 0) → Q (some (.int (-2))) w1 (I, D, RR R))
    (v2 : ∀ k1 : Nat, (k1 < 6) → (a = nI k1) → (¬ (I ((R 113 k1).getD 0) 0) = 0) → (¬ i < 0) → ((I ((R 113 k1).getD 0) 4) ≤ i) → Q (some (.int (-2))) w1 (I, D, RR R))
    (v3 : ∀ k1 : Nat, (k1 < 6) → (a = nI k1) → (¬ (I ((R 113 k1).getD 0) 0) = 0) → (¬ i < 0) → (¬ (I ((R 113 k1).getD 0) 4) ≤ i) → (j < 0) → Q (some (.int (-2))) w1 (I, D, RR R))
    (v4 : ∀ k1 : Nat, (k1 < 6) → (a = nI k1) → (¬ (I ((R 113 k1).getD 0) 0) = 0) → (¬ i < 0) → (¬ (I ((R 113 k1).getD 0) 4) ≤ i) → (¬ j < 0) → ((I ((R 113 k1).getD 0) 5) ≤ 0) → (j < 1) → Q (some (.int 1)) w1 (I, D, RR R))
    (v5 : ∀ k1 : Nat, (k1 < 6) → (a = nI k1) → (¬ (I ((R 113 k1).getD 0) 0) = 0) → (¬ i < 0) → (¬ (I ((R 113 k1).getD 0) 4) ≤ i) → (¬ j < 0) → ((I ((R 113 k1).getD 0) 5) ≤ 0) → (¬ j < 1) → Q (some (.int (-2))) w1 (I, D, RR R))
    (v6 : ∀ k1 : Nat, (k1 < 6) → (a = nI k1) → (¬ (I ((R 113 k1).getD 0) 0) = 0) → (¬ i < 0) → (¬ (I ((R 113 k1).getD 0) 4) ≤ i) → (¬ j < 0) → (¬ (I ((R 113 k1).getD 0) 5) ≤ 0) → (j < (I ((R 113 k1).getD 0) 5)) → Q (some (.int 1)) w1 (I, D, RR R))
    (v7 : ∀ k1 : Nat, (k1 < 6) → (a = nI k1) → (¬ (I ((R 113 k1).getD 0) 0) = 0) → (¬ i < 0) → (¬ (I ((R 113 k1).getD 0) 4) ≤ i) → (¬ j < 0) → (¬ (I ((R 113 k1).getD 0) 5) ≤ 0) → (¬ j < (I ((R 113 k1).getD 0) 5)) → Q (some (.int (-2))) w1 (I, D, RR R))
    (v8 : ∀ k1 : Nat, (k1 < 6) → (a = nI k1) → ((I ((R 113 k1).getD 0) 0) = 0) → Q (some (.int (-3))) w1 (I, D, RR R))
    (v9 : (¬ (∃ k : Nat, k < 6 ∧ a = nI k)) → Q (some (.int (-2))) w1 (I, D, RR R)) : j_Call d 118 [.ref 0, .int a, .int i, .int j] w1 (I, D, RR R) 0 0 Q := by
  refine q_enter (L := [some (.ref 0), some (.int a), some (.int i), some (.int j), none]) j_m118 (Nat.le_of_ble_eq_true rfl) rfl ?_
  refine q_iload_n d118_0 rfl ?_
  refine q_invS (av := [.int a]) (rest := []) (d' := 0) (mc' := 0) (ms' := 0) d118_1 (cv9_183 118 rfl) rfl rfl (by omega) (Nat.le_of_ble_eq_true rfl) (Nat.le_of_ble_eq_true rfl) (Nat.le_refl _) (Nat.le_refl _) ?_
  refine r39  (fun k1 h1 h1e => ?_) (fun h1 => ?_)
  ·
    subst h1e
    show j_W 118 d 0 0 0 0 4 [some (.ref 0), some (.int (nI k1)), some (.int i), some (.int j), none] [.int 1] w1 (I, D, RR R) Q
    refine q_if_ne (tgt := 10) d118_4 rfl (fun _ => ?_) (fun h => absurd h (by decide))
    refine q_aload_n d118_10 rfl ?_
    refine q_getR (x := 108) d118_11 (fs9_53 118 rfl) rfl (lt_w1 rfl) sh0 (rs0_1 R) (by decide) ?_
    refine q_getR (x := 113) d118_14 (fs9_197 118 rfl) rfl (lt_w1 rfl) sh108 (rs108_4 R) (by decide) ?_
    refine q_iload_n d118_17 rfl ?_
    have g3 := hR.g k1 (by omega)
    refine q_aaload (c := 7) (a := k1) (x := ((R 113 k1).getD 0)) d118_18 (lt_w1 rfl) sh113 (by decide) rfl (by omega) ((RR_d rfl).trans g3.1) (lt1000 (isG_lt g3.2)) ?_
    refine q_astore (L' := [some (.ref 0), some (.int (nI k1)), some (.int i), some (.int j), some (.ref ((R 113 k1).getD 0))]) d118_19 (Nat.le_of_ble_eq_true rfl) (Nat.ne_of_lt (Nat.lt_trans (lt1000 (isG_lt g3.2)) (by decide))) rfl ?_
    refine q_aload d118_21 rfl ?_
    refine q_getI d118_23 (fs9_231 118 rfl) rfl (isG_lt g3.2) (isG_sh g3.2) ?_
    refine q_if_ne (tgt := 32) d118_26 rfl (fun h4t => ?_) (fun h4f => ?_)
    ·
      refine q_iload_n d118_32 rfl ?_
      refine q_if_lt (tgt := 58) d118_33 rfl (fun h5t => ?_) (fun h5f => ?_)
      ·
        refine q_bipush (v := (-2)) (by decide) d118_58 ?_
        refine q_goto (tgt := 64) d118_60 rfl ?_
        exact q_iret d118_64 rfl (Nat.le_refl _) (Nat.le_refl _) (v1 k1 h1 rfl h4t h5t)
      ·
        refine q_iload_n d118_36 rfl ?_
        refine q_aload d118_37 rfl ?_
        refine q_getI d118_39 (fs9_286 118 rfl) rfl (isG_lt g3.2) (isG_sh g3.2) ?_
        refine q_icmp_ge (tgt := 58) d118_42 rfl (fun h6t => ?_) (fun h6f => ?_)
        ·
          refine q_bipush (v := (-2)) (by decide) d118_58 ?_
          refine q_goto (tgt := 64) d118_60 rfl ?_
          exact q_iret d118_64 rfl (Nat.le_refl _) (Nat.le_refl _) (v2 k1 h1 rfl h4t h5f h6t)
        ·
          refine q_iload_n d118_45 rfl ?_
          refine q_if_lt (tgt := 58) d118_46 rfl (fun h7t => ?_) (fun h7f => ?_)
          ·
            refine q_bipush (v := (-2)) (by decide) d118_58 ?_
            refine q_goto (tgt := 64) d118_60 rfl ?_
            exact q_iret d118_64 rfl (Nat.le_refl _) (Nat.le_refl _) (v3 k1 h1 rfl h4t h5f h6f h7t)
          ·
            refine q_iload_n d118_49 rfl ?_
            refine q_aload d118_50 rfl ?_
            refine q_invV (o := ((R 113 k1).getD 0)) (ci := 3) (av := []) (rest := [.int j]) (d' := 0) (mc' := 0) (ms' := 0) d118_52 (cv9_396 118 rfl) rfl (by decide) rfl rfl (by omega) (Nat.le_of_ble_eq_true rfl) (Nat.le_of_ble_eq_true rfl) (isG_lt g3.2) (isG_sh g3.2) (Nat.le_refl _) (Nat.le_refl _) ?_
            refine u25 (g := ((R 113 k1).getD 0)) g3.2 (Nat.le_refl _) (fun c8 => ?_) (fun c9 => ?_)
            ·
              show j_W 118 d 0 0 0 0 55 [some (.ref 0), some (.int (nI k1)), some (.int i), some (.int j), some (.ref ((R 113 k1).getD 0))] [.int 1, .int j] w1 (I, D, RR R) Q
              refine q_icmp_lt (tgt := 63) d118_55 rfl (fun h10t => ?_) (fun h10f => ?_)
              ·
                refine q_iconst (v := 1) (by decide) d118_63 ?_
                exact q_iret d118_64 rfl (Nat.le_refl _) (Nat.le_refl _) (v4 k1 h1 rfl h4t h5f h6f h7f c8 h10t)
              ·
                refine q_bipush (v := (-2)) (by decide) d118_58 ?_
                refine q_goto (tgt := 64) d118_60 rfl ?_
                exact q_iret d118_64 rfl (Nat.le_refl _) (Nat.le_refl _) (v5 k1 h1 rfl h4t h5f h6f h7f c8 h10f)
            ·
              show j_W 118 d 0 0 0 0 55 [some (.ref 0), some (.int (nI k1)), some (.int i), some (.int j), some (.ref ((R 113 k1).getD 0))] [.int (I ((R 113 k1).getD 0) 5), .int j] w1 (I, D, RR R) Q
              refine q_icmp_lt (tgt := 63) d118_55 rfl (fun h11t => ?_) (fun h11f => ?_)
              ·
                refine q_iconst (v := 1) (by decide) d118_63 ?_
                exact q_iret d118_64 rfl (Nat.le_refl _) (Nat.le_refl _) (v6 k1 h1 rfl h4t h5f h6f h7f c9 h11t)
              ·
                refine q_bipush (v := (-2)) (by decide) d118_58 ?_
                refine q_goto (tgt := 64) d118_60 rfl ?_
                exact q_iret d118_64 rfl (Nat.le_refl _) (Nat.le_refl _) (v7 k1 h1 rfl h4t h5f h6f h7f c9 h11f)
    ·
      refine q_bipush (v := (-3)) (by decide) d118_29 ?_
      exact q_iret d118_31 rfl (Nat.le_refl _) (Nat.le_refl _) (v8 k1 h1 rfl h4f)
  ·
    show j_W 118 d 0 0 0 0 4 [some (.ref 0), some (.int a), some (.int i), some (.int j), none] [.int 0] w1 (I, D, RR R) Q
    refine q_if_ne (tgt := 10) d118_4 rfl (fun h => absurd h (by decide)) (fun _ => ?_)
    refine q_bipush (v := (-2)) (by decide) d118_7 ?_
    exact q_iret d118_9 rfl (Nat.le_refl _) (Nat.le_refl _) (v9 h1)

set_option maxRecDepth 10000 in
set_option maxHeartbeats 4000000 in
theorem u256 {d : Nat} {I : Nat → Nat → Int32} {D : Nat → Nat → UInt64} {R : Nat → Nat → Option Nat} {Q : j_Po} {a : Int32} {i : Int32} {j : Int32}   (hd : 2 ≤ d)
    (v1 : ∀ k1 : Nat, (k1 < 6) → (a = nI k1) → (¬ (I 315 k1) = 0) → ((¬ i < (0 : Int32) ∧ ¬ ((I 319 (2 * k1)) - 1) < i)) → (¬ (I 318 k1) = (-1)) → ((¬ j < (0 : Int32) ∧ ¬ ((I 319 ((2 * k1) + 1)) - 1) < j)) → Q (some (.int 0)) w1 (I, D, RR R))
    (v2 : ∀ k1 : Nat, (k1 < 6) → (a = nI k1) → (¬ (I 315 k1) = 0) → ((¬ i < (0 : Int32) ∧ ¬ ((I 319 (2 * k1)) - 1) < i)) → (¬ (I 318 k1) = (-1)) → (¬ ((¬ j < (0 : Int32) ∧ ¬ ((I 319 ((2 * k1) + 1)) - 1) < j))) → Q (some (.int (-2))) w1 (I, D, RR R))
    (v3 : ∀ k1 : Nat, (k1 < 6) → (a = nI k1) → (¬ (I 315 k1) = 0) → ((¬ i < (0 : Int32) ∧ ¬ ((I 319 (2 * k1)) - 1) < i)) → ((I 318 k1) = (-1)) → ((¬ j < (0 : Int32) ∧ ¬ (0 : Int32) < j)) → Q (some (.int 0)) w1 (I, D, RR R))
    (v4 : ∀ k1 : Nat, (k1 < 6) → (a = nI k1) → (¬ (I 315 k1) = 0) → ((¬ i < (0 : Int32) ∧ ¬ ((I 319 (2 * k1)) - 1) < i)) → ((I 318 k1) = (-1)) → (¬ ((¬ j < (0 : Int32) ∧ ¬ (0 : Int32) < j))) → Q (some (.int (-2))) w1 (I, D, RR R))
    (v5 : ∀ k1 : Nat, (k1 < 6) → (a = nI k1) → (¬ (I 315 k1) = 0) → (¬ ((¬ i < (0 : Int32) ∧ ¬ ((I 319 (2 * k1)) - 1) < i))) → Q (some (.int (-2))) w1 (I, D, RR R))
    (v6 : ∀ k1 : Nat, (k1 < 6) → (a = nI k1) → ((I 315 k1) = 0) → Q (some (.int (-3))) w1 (I, D, RR R))
    (v7 : (¬ (∃ k : Nat, k < 6 ∧ a = nI k)) → Q (some (.int (-2))) w1 (I, D, RR R)) : j_Call d 256 [.ref 260, .int a, .int i, .int j] w1 (I, D, RR R) 0 0 Q := by
  refine q_enter (L := [some (.ref 260), some (.int a), some (.int i), some (.int j)]) j_m256 (Nat.le_of_ble_eq_true rfl) rfl ?_
  refine q_iload_n d256_0 rfl ?_
  refine q_invS (av := [.int a]) (rest := []) (d' := 1) (mc' := 0) (ms' := 0) d256_1 (cv10_480 256 rfl) rfl rfl (by omega) (Nat.le_of_ble_eq_true rfl) (Nat.le_of_ble_eq_true rfl) (Nat.le_refl _) (Nat.le_refl _) ?_
  refine r249 (Nat.le_refl _)  (fun k1 h1 h1e => ?_) (fun h1 => ?_)
  ·
    subst h1e
    show j_W 256 d 0 0 0 0 4 [some (.ref 260), some (.int (nI k1)), some (.int i), some (.int j)] [.int 1] w1 (I, D, RR R) Q
    refine q_if_ne (tgt := 10) d256_4 rfl (fun _ => ?_) (fun h => absurd h (by decide))
    refine q_aload_n d256_10 rfl ?_
    refine q_getR (x := 315) d256_11 (fs10_34 256 rfl) rfl (lt_w1 rfl) sh260 (rs260_6 R) (by decide) ?_
    refine q_iload_n d256_14 rfl ?_
    refine q_zaload (a := k1) d256_15 (lt_w1 rfl) sh315 rfl (by omega) ?_
    refine q_if_ne (tgt := 22) d256_16 rfl (fun h2t => ?_) (fun h2f => ?_)
    ·
      refine q_iload_n d256_22 rfl ?_
      refine q_iconst (v := 0) (by decide) d256_23 ?_
      refine q_aload_n d256_24 rfl ?_
      refine q_getR (x := 319) d256_25 (fs10_46 256 rfl) rfl (lt_w1 rfl) sh260 (rs260_10 R) (by decide) ?_
      refine q_iconst (v := 2) (by decide) d256_28 ?_
      refine q_iload_n d256_29 rfl ?_
      refine q_imul d256_30 ?_
      refine r_int (y := (nI (2 * k1))) (pk_mul 2 k1) ?_
      refine q_iaload (a := (2 * k1)) d256_31 (lt_w1 rfl) sh319 rfl (by omega) ?_
      refine q_iconst (v := 1) (by decide) d256_32 ?_
      refine q_isub d256_33 ?_
      refine q_invS (av := [.int i, .int 0, .int ((I 319 (2 * k1)) - 1)]) (rest := []) (d' := 0) (mc' := 0) (ms' := 0) d256_34 (cv10_183 256 rfl) rfl rfl (by omega) (Nat.le_of_ble_eq_true rfl) (Nat.le_of_ble_eq_true rfl) (Nat.le_refl _) (Nat.le_refl _) ?_
      refine p168  (fun h3 => ?_) (fun h3 => ?_)
      ·
        show j_W 256 d 0 0 0 0 37 [some (.ref 260), some (.int (nI k1)), some (.int i), some (.int j)] [.int 1] w1 (I, D, RR R) Q
        refine q_if_eq (tgt := 78) d256_37 rfl (fun h => absurd h (by decide)) (fun _ => ?_)
        refine q_iload_n d256_40 rfl ?_
        refine q_iconst (v := 0) (by decide) d256_41 ?_
        refine q_aload_n d256_42 rfl ?_
        refine q_getR (x := 318) d256_43 (fs10_43 256 rfl) rfl (lt_w1 rfl) sh260 (rs260_9 R) (by decide) ?_
        refine q_iload_n d256_46 rfl ?_
        refine q_iaload (a := k1) d256_47 (lt_w1 rfl) sh318 rfl (by omega) ?_
        refine q_iconst (v := (-1)) (by decide) d256_48 ?_
        refine q_icmp_ne (tgt := 56) d256_49 rfl (fun h4t => ?_) (fun h4f => ?_)
        ·
          refine q_aload_n d256_56 rfl ?_
          refine q_getR (x := 319) d256_57 (fs10_46 256 rfl) rfl (lt_w1 rfl) sh260 (rs260_10 R) (by decide) ?_
          refine q_iconst (v := 2) (by decide) d256_60 ?_
          refine q_iload_n d256_61 rfl ?_
          refine q_imul d256_62 ?_
          refine r_int (y := (nI (2 * k1))) (pk_mul 2 k1) ?_
          refine q_iconst (v := 1) (by decide) d256_63 ?_
          refine q_iadd d256_64 ?_
          refine r_int (y := (nI ((2 * k1) + 1))) (nI_add (2 * k1) 1) ?_
          refine q_iaload (a := ((2 * k1) + 1)) d256_65 (lt_w1 rfl) sh319 rfl (by omega) ?_
          refine q_iconst (v := 1) (by decide) d256_66 ?_
          refine q_isub d256_67 ?_
          refine q_invS (av := [.int j, .int 0, .int ((I 319 ((2 * k1) + 1)) - 1)]) (rest := []) (d' := 0) (mc' := 0) (ms' := 0) d256_68 (cv10_183 256 rfl) rfl rfl (by omega) (Nat.le_of_ble_eq_true rfl) (Nat.le_of_ble_eq_true rfl) (Nat.le_refl _) (Nat.le_refl _) ?_
          refine p168  (fun h5 => ?_) (fun h5 => ?_)
          ·
            show j_W 256 d 0 0 0 0 71 [some (.ref 260), some (.int (nI k1)), some (.int i), some (.int j)] [.int 1] w1 (I, D, RR R) Q
            refine q_if_eq (tgt := 78) d256_71 rfl (fun h => absurd h (by decide)) (fun _ => ?_)
            refine q_iconst (v := 0) (by decide) d256_74 ?_
            refine q_goto (tgt := 80) d256_75 rfl ?_
            exact q_iret d256_80 rfl (Nat.le_refl _) (Nat.le_refl _) (v1 k1 h1 rfl h2t h3 h4t h5)
          ·
            show j_W 256 d 0 0 0 0 71 [some (.ref 260), some (.int (nI k1)), some (.int i), some (.int j)] [.int 0] w1 (I, D, RR R) Q
            refine q_if_eq (tgt := 78) d256_71 rfl (fun _ => ?_) (fun h => absurd h (by decide))
            refine q_bipush (v := (-2)) (by decide) d256_78 ?_
            exact q_iret d256_80 rfl (Nat.le_refl _) (Nat.le_refl _) (v2 k1 h1 rfl h2t h3 h4t h5)
        ·
          refine q_iconst (v := 0) (by decide) d256_52 ?_
          refine q_goto (tgt := 68) d256_53 rfl ?_
          refine q_invS (av := [.int j, .int 0, .int 0]) (rest := []) (d' := 0) (mc' := 0) (ms' := 0) d256_68 (cv10_183 256 rfl) rfl rfl (by omega) (Nat.le_of_ble_eq_true rfl) (Nat.le_of_ble_eq_true rfl) (Nat.le_refl _) (Nat.le_refl _) ?_
          refine p168  (fun h6 => ?_) (fun h6 => ?_)
          ·
            show j_W 256 d 0 0 0 0 71 [some (.ref 260), some (.int (nI k1)), some (.int i), some (.int j)] [.int 1] w1 (I, D, RR R) Q
            refine q_if_eq (tgt := 78) d256_71 rfl (fun h => absurd h (by decide)) (fun _ => ?_)
            refine q_iconst (v := 0) (by decide) d256_74 ?_
            refine q_goto (tgt := 80) d256_75 rfl ?_
            exact q_iret d256_80 rfl (Nat.le_refl _) (Nat.le_refl _) (v3 k1 h1 rfl h2t h3 h4f h6)
          ·
            show j_W 256 d 0 0 0 0 71 [some (.ref 260), some (.int (nI k1)), some (.int i), some (.int j)] [.int 0] w1 (I, D, RR R) Q
            refine q_if_eq (tgt := 78) d256_71 rfl (fun _ => ?_) (fun h => absurd h (by decide))
            refine q_bipush (v := (-2)) (by decide) d256_78 ?_
            exact q_iret d256_80 rfl (Nat.le_refl _) (Nat.le_refl _) (v4 k1 h1 rfl h2t h3 h4f h6)
      ·
        show j_W 256 d 0 0 0 0 37 [some (.ref 260), some (.int (nI k1)), some (.int i), some (.int j)] [.int 0] w1 (I, D, RR R) Q
        refine q_if_eq (tgt := 78) d256_37 rfl (fun _ => ?_) (fun h => absurd h (by decide))
        refine q_bipush (v := (-2)) (by decide) d256_78 ?_
        exact q_iret d256_80 rfl (Nat.le_refl _) (Nat.le_refl _) (v5 k1 h1 rfl h2t h3)
    ·
      refine q_bipush (v := (-3)) (by decide) d256_19 ?_
      exact q_iret d256_21 rfl (Nat.le_refl _) (Nat.le_refl _) (v6 k1 h1 rfl h2f)
  ·
    show j_W 256 d 0 0 0 0 4 [some (.ref 260), some (.int a), some (.int i), some (.int j)] [.int 0] w1 (I, D, RR R) Q
    refine q_if_ne (tgt := 10) d256_4 rfl (fun h => absurd h (by decide)) (fun _ => ?_)
    refine q_bipush (v := (-2)) (by decide) d256_7 ?_
    exact q_iret d256_9 rfl (Nat.le_refl _) (Nat.le_refl _) (v7 h1)

/-- a case of a laid table -/
def okC (β : Bd) (a i j : Int32) : Prop := ∃ t, t < 6 ∧ a = nI t ∧ bL β t = true ∧ (∃ k, k < bm β t ∧ i = nI k) ∧ ∃ k, k < wd β t ∧ j = nI k
def rfV (β : Bd) (a : Int32) : Int32 := if ∃ t, t < 6 ∧ a = nI t ∧ bL β t = false then -3 else -2
theorem rfV_2 {β : Bd} {a : Int32} : rfV β a = -2 ∨ rfV β a = -3 := by unfold rfV; split <;> simp
section RF
variable {β : Bd} {d : Nat} {I : Nat → Nat → Int32} {D : Nat → Nat → UInt64} {R : Nat → Nat → Option Nat} {Q : j_Po} {a i j : Int32}
theorem rf_n (h : ¬ ∃ k : Nat, k < 6 ∧ a = nI k) : rfV β a = -2 := if_neg (fun ⟨t, h1, h2, _⟩ => h ⟨t, h1, h2⟩)
theorem rf_3 {t : Nat} (ht : t < 6) (hl : bL β t = false) : rfV β (nI t) = -3 := if_pos ⟨t, ht, rfl, hl⟩
theorem rf_l {t : Nat} (ht : t < 6) (hl : bL β t = true) : rfV β (nI t) = -2 := if_neg (fun ⟨u, h1, h2, h3⟩ => by
  rw [← (nI_eqN (by omega) (by omega)).mp h2, hl] at h3; cases h3)
theorem ok_n (h : ¬ ∃ k : Nat, k < 6 ∧ a = nI k) : ¬ okC β a i j := fun ⟨t, h1, h2, _⟩ => h ⟨t, h1, h2⟩
theorem ok_f {t : Nat} (ht : t < 6) (hl : bL β t = false) : ¬ okC β (nI t) i j := fun ⟨u, h1, h2, h3, _⟩ => by
  rw [← (nI_eqN (by omega) (by omega)).mp h2, hl] at h3; cases h3
theorem ok_i {t : Nat} (ht : t < 6) (hi : ¬ ∃ k, k < bm β t ∧ i = nI k) : ¬ okC β (nI t) i j := fun ⟨u, h1, h2, _, h3, _⟩ => by
  rw [← (nI_eqN (by omega) (by omega)).mp h2] at h3; exact hi h3
theorem ok_j {t : Nat} (ht : t < 6) (hj : ¬ ∃ k, k < wd β t ∧ j = nI k) : ¬ okC β (nI t) i j := fun ⟨u, h1, h2, _, _, h3⟩ => by
  rw [← (nI_eqN (by omega) (by omega)).mp h2] at h3; exact hj h3
theorem in_k {n : Nat} {i : Int32} (hn : n < 100) : (¬ i < 0 ∧ i < nI n) ↔ ∃ k, k < n ∧ i = nI k := by
  constructor
  · rintro ⟨h1, h2⟩
    obtain ⟨k, hk, rfl⟩ := nI_rng (z := n) (Int32.not_lt.mp h1) (Int32.le_of_lt h2) (by omega)
    exact ⟨k, (nI_ltI (by omega) (by omega)).mp h2, rfl⟩
  · rintro ⟨k, h1, rfl⟩
    exact ⟨fun h => by
      have := (nI_ltI (a := k) (b := 0) (by omega) (by decide)).mp h
      omega, (nI_ltI (by omega) (by omega)).mpr h1⟩
theorem c118 (hR : WFR R) (hV : BV β) (hC : CB β I D R) (hd : 1 ≤ d) (h1 : okC β a i j → Q (some (.int 1)) w1 (I, D, RR R)) (h2 : ¬ okC β a i j → Q (some (.int (rfV β a))) w1 (I, D, RR R)) : j_Call d 118 [.ref 0, .int a, .int i, .int j] w1 (I, D, RR R) 0 0 Q := by
  have two : ∀ {t : Nat}, t < 6 → ¬ I (go R t) 0 = 0 → ¬ okC β (nI t) i j → Q (some (.int (rfV β (nI t)))) w1 (I, D, RR R) → Q (some (.int (-2))) w1 (I, D, RR R) := fun {t} ht hl _ h => by
    have e := (hC.2 t ht).1
    cases hb : bL β t with
    | false => rw [hb] at e; exact absurd e hl
    | true => rw [rf_l ht hb] at h; exact h
  have laid : ∀ {t : Nat}, t < 6 → ¬ I (go R t) 0 = 0 → bL β t = true := fun {t} ht hl => by
    have e := (hC.2 t ht).1
    cases hb : bL β t with
    | false => rw [hb] at e; exact absurd e hl
    | true => rfl
  have sz : ∀ {t : Nat}, t < 6 → ¬ I (go R t) 0 = 0 → I (go R t) 4 = nI (bm β t) ∧ bm β t ≤ 8 ∧ ((I (go R t) 5 ≤ 0 ∧ wd β t = 1) ∨ (¬ I (go R t) 5 ≤ 0 ∧ I (go R t) 5 = nI (wd β t))) ∧ wd β t ≤ 8 := fun {t} ht hl => by
    have hl := laid ht hl
    obtain ⟨-, -, -, e4, e5, -⟩ := (hC.2 t ht).2 hl
    obtain ⟨-, -, -, -, -, v6, v7, v8, v9, -⟩ := hV.2.1 t ht hl
    refine ⟨e4, v6, ?_, ?_⟩
    · unfold wd
      by_cases hb : b2 β t = none
      · rw [if_pos hb, e5, v7 hb]; exact Or.inl ⟨by decide, rfl⟩
      · rw [if_neg hb, e5]
        have := v8 hb
        exact Or.inr ⟨fun h => by
          have := (nI_leI (a := bn β t) (b := 0) (by omega) (by decide)).mp h
          omega, rfl⟩
    · unfold wd; split <;> omega
  refine u118 hR hd (fun t ht e hl hi => ?_) (fun t ht e hl hi hi2 => ?_) (fun t ht e hl hi hi2 hj => ?_) (fun t ht e hl hi hi2 hj h5 hj2 => ?_) (fun t ht e hl hi hi2 hj h5 hj2 => ?_) (fun t ht e hl hi hi2 hj h5 hj2 => ?_) (fun t ht e hl hi hi2 hj h5 hj2 => ?_) (fun t ht e hl => ?_) (fun h => ?_)
  · subst e
    obtain ⟨s1, s2, s3, s4⟩ := sz ht hl
    have ho := ok_i (j := j) ht (fun h => ((in_k (n := bm β t) (by omega)).mpr h).1 hi)
    exact two ht hl ho (h2 ho)
  · subst e
    obtain ⟨s1, s2, s3, s4⟩ := sz ht hl
    have hi2 : I (go R t) 4 ≤ i := hi2
    rw [s1] at hi2
    have ho := ok_i (j := j) ht (fun h => absurd ((in_k (n := bm β t) (by omega)).mpr h).2 (Int32.not_lt.mpr hi2))
    exact two ht hl ho (h2 ho)
  · subst e
    obtain ⟨s1, s2, s3, s4⟩ := sz ht hl
    have ho := ok_j (i := i) ht (fun h => ((in_k (n := wd β t) (by omega)).mpr h).1 hj)
    exact two ht hl ho (h2 ho)
  · subst e
    obtain ⟨s1, s2, s3, s4⟩ := sz ht hl
    have hi2 : ¬ I (go R t) 4 ≤ i := hi2
    have h5 : I (go R t) 5 ≤ 0 := h5
    rw [s1] at hi2
    have ew : wd β t = 1 := s3.elim (fun h => h.2) (fun h => absurd h5 h.1)
    exact h1 ⟨t, ht, rfl, laid ht hl, (in_k (by omega)).mp ⟨hi, Int32.not_le.mp hi2⟩, (in_k (by omega)).mp ⟨hj, by rw [ew]; exact hj2⟩⟩
  · subst e
    obtain ⟨s1, s2, s3, s4⟩ := sz ht hl
    have h5 : I (go R t) 5 ≤ 0 := h5
    have ew : wd β t = 1 := s3.elim (fun h => h.2) (fun h => absurd h5 h.1)
    have ho := ok_j (i := i) ht (fun h => hj2 (by have := ((in_k (n := wd β t) (by omega)).mpr h).2; rw [ew] at this; exact this))
    exact two ht hl ho (h2 ho)
  · subst e
    obtain ⟨s1, s2, s3, s4⟩ := sz ht hl
    have hi2 : ¬ I (go R t) 4 ≤ i := hi2
    have h5 : ¬ I (go R t) 5 ≤ 0 := h5
    have hj2 : j < I (go R t) 5 := hj2
    rw [s1] at hi2
    have ew : I (go R t) 5 = nI (wd β t) := s3.elim (fun h => absurd h.1 h5) (fun h => h.2)
    rw [ew] at hj2
    exact h1 ⟨t, ht, rfl, laid ht hl, (in_k (by omega)).mp ⟨hi, Int32.not_le.mp hi2⟩, (in_k (by omega)).mp ⟨hj, hj2⟩⟩
  · subst e
    obtain ⟨s1, s2, s3, s4⟩ := sz ht hl
    have h5 : ¬ I (go R t) 5 ≤ 0 := h5
    have hj2 : ¬ j < I (go R t) 5 := hj2
    have ew : I (go R t) 5 = nI (wd β t) := s3.elim (fun h => absurd h.1 h5) (fun h => h.2)
    rw [ew] at hj2
    have ho := ok_j (i := i) ht (fun h => hj2 ((in_k (n := wd β t) (by omega)).mpr h).2)
    exact two ht hl ho (h2 ho)
  · subst e
    have e0 := (hC.2 t ht).1
    have hb : bL β t = false := by
      cases hb : bL β t with
      | false => rfl
      | true => rw [hb] at e0; exact absurd (e0.symm.trans hl) (by decide)
    have := h2 (ok_f ht hb)
    rw [rf_3 ht hb] at this; exact this
  · have := h2 (ok_n h)
    rw [rf_n h] at this; exact this
theorem in_1 : ∀ n, n < 9 → 1 ≤ n → nI n - 1 = nI (n - 1) := by decide
theorem in_k1 {n : Nat} {i : Int32} (h1 : 1 ≤ n) (h8 : n ≤ 8) : (¬ i < (0 : Int32) ∧ ¬ (nI n - 1) < i) ↔ ∃ k, k < n ∧ i = nI k := by
  rw [← in_k (by omega), in_1 n (by omega) h1]
  constructor
  · rintro ⟨a, b⟩
    obtain ⟨k, hk, rfl⟩ := nI_rng (z := n - 1) (Int32.not_lt.mp a) (Int32.not_lt.mp b) (by omega)
    exact ⟨a, (nI_ltI (by omega) (by omega)).mpr (by omega)⟩
  · rintro ⟨a, b⟩
    obtain ⟨k, hk, rfl⟩ := nI_rng (z := n) (Int32.not_lt.mp a) (Int32.le_of_lt b) (by omega)
    have := (nI_ltI (by omega) (by omega)).mp b
    exact ⟨a, fun h => by have := (nI_ltI (by omega) (by omega)).mp h; omega⟩
theorem c256 (hV : BV β) (hS : RSt β I D) (hd : 2 ≤ d) (h1 : okC β a i j → Q (some (.int 0)) w1 (I, D, RR R)) (h2 : ¬ okC β a i j → Q (some (.int (rfV β a))) w1 (I, D, RR R)) : j_Call d 256 [.ref 260, .int a, .int i, .int j] w1 (I, D, RR R) 0 0 Q := by
  have laid : ∀ {t : Nat}, t < 6 → ¬ I 315 t = 0 → bL β t = true := fun {t} ht hl => by
    have e := (hS.2 t ht).1
    cases hb : bL β t with
    | false => rw [hb] at e; exact absurd e hl
    | true => rfl
  have two : ∀ {t : Nat}, t < 6 → ¬ I 315 t = 0 → Q (some (.int (rfV β (nI t)))) w1 (I, D, RR R) → Q (some (.int (-2))) w1 (I, D, RR R) := fun {t} ht hl h => by
    rw [rf_l ht (laid ht hl)] at h; exact h
  have sz : ∀ {t : Nat}, t < 6 → ¬ I 315 t = 0 → I 319 (2 * t) = nI (bm β t) ∧ 1 ≤ bm β t ∧ bm β t ≤ 8 ∧ ((I 318 t = -1 ∧ wd β t = 1) ∨ (¬ I 318 t = -1 ∧ I 319 (2 * t + 1) = nI (wd β t) ∧ 1 ≤ wd β t ∧ wd β t ≤ 8)) := fun {t} ht hl => by
    have hl := laid ht hl
    obtain ⟨-, -, e3, e4, e5, -⟩ := (hS.2 t ht).2 hl
    obtain ⟨-, -, -, v4, v5, v6, v7, v8, v9, -⟩ := hV.2.1 t ht hl
    refine ⟨e4, v5, v6, ?_⟩
    unfold wd
    cases hb : b2 β t with
    | none => rw [hb] at e3; exact Or.inl ⟨e3, if_pos rfl⟩
    | some o =>
      rw [hb] at e3
      have := v8 (by rw [hb]; exact fun h => by cases h)
      have o1 := (v4 o hb).1
      rw [if_neg (fun h => by cases h)]
      exact Or.inr ⟨fun h => nI_ne_m1 (f := o) (by omega) (e3.symm.trans h), e5, this, v9⟩
  refine u256 hd (fun t ht e hl hi h318 hj => ?_) (fun t ht e hl hi h318 hj => ?_) (fun t ht e hl hi h318 hj => ?_) (fun t ht e hl hi h318 hj => ?_) (fun t ht e hl hi => ?_) (fun t ht e hl => ?_) (fun h => ?_)
  · subst e
    obtain ⟨s1, s2, s3, s4⟩ := sz ht hl
    obtain ⟨w1', w2, w3⟩ := s4.elim (fun h => absurd h.1 h318) (fun h => h.2)
    rw [s1] at hi
    rw [w1'] at hj
    exact h1 ⟨t, ht, rfl, laid ht hl, (in_k1 s2 s3).mp hi, (in_k1 w2 w3).mp hj⟩
  · subst e
    obtain ⟨s1, s2, s3, s4⟩ := sz ht hl
    obtain ⟨w1', w2, w3⟩ := s4.elim (fun h => absurd h.1 h318) (fun h => h.2)
    rw [w1'] at hj
    exact two ht hl (h2 (ok_j ht (fun h => hj ((in_k1 w2 w3).mpr h))))
  · subst e
    obtain ⟨s1, s2, s3, s4⟩ := sz ht hl
    have ew : wd β t = 1 := s4.elim (fun h => h.2) (fun h => absurd h318 h.1)
    rw [s1] at hi
    exact h1 ⟨t, ht, rfl, laid ht hl, (in_k1 s2 s3).mp hi, by rw [ew]; exact (in_k1 (n := 1) (by decide) (by decide)).mp hj⟩
  · subst e
    obtain ⟨s1, s2, s3, s4⟩ := sz ht hl
    have ew : wd β t = 1 := s4.elim (fun h => h.2) (fun h => absurd h318 h.1)
    exact two ht hl (h2 (ok_j ht (fun h => hj (by rw [ew] at h; exact (in_k1 (n := 1) (by decide) (by decide)).mpr h))))
  · subst e
    obtain ⟨s1, s2, s3, s4⟩ := sz ht hl
    rw [s1] at hi
    exact two ht hl (h2 (ok_i ht (fun h => hi ((in_k1 s2 s3).mpr h))))
  · subst e
    have e0 := (hS.2 t ht).1
    have hb : bL β t = false := by
      cases hb : bL β t with
      | false => rfl
      | true => rw [hb] at e0; exact absurd (e0.symm.trans hl) (by decide)
    have := h2 (ok_f ht hb)
    rw [rf_3 ht hb] at this; exact this
  · have := h2 (ok_n h)
    rw [rf_n h] at this; exact this
end RF
set_option maxRecDepth 10000 in
set_option maxHeartbeats 4000000 in
theorem u120e {d : Nat} {I : Nat → Nat → Int32} {D : Nat → Nat → UInt64} {R : Nat → Nat → Option Nat} {Q : j_Po} {a : Int32} {i : Int32} {j : Int32} {β : Bd} (hR : WFR R) (hV : BV β) (hC : CB β I D R) (hd : 2 ≤ d)
    (v1 : 1 ≤ 1)
    (v2 : (okC β a i j) → j_W 120 d 0 0 0 0 20 [some (.ref 0), some (.int a), some (.int i), some (.int j), none] [] w1 (I, D, RR R) Q)
    (v3 : (¬ okC β a i j) → ((rfV β a) = 1) → j_W 120 d 0 0 0 0 20 [some (.ref 0), some (.int a), some (.int i), some (.int j), none] [] w1 (I, D, RR R) Q)
    (v4 : (¬ okC β a i j) → (¬ (rfV β a) = 1) → Q (some (.int (rfV β a))) w1 (I, D, RR R)) : j_Call d 120 [.ref 0, .int a, .int i, .int j] w1 (I, D, RR R) 0 0 Q := by
  refine q_enter (L := [some (.ref 0), some (.int a), some (.int i), some (.int j), none]) j_m120 (Nat.le_of_ble_eq_true rfl) rfl ?_
  refine q_aload_n d120_0 rfl ?_
  refine q_iload_n d120_1 rfl ?_
  refine q_iload_n d120_2 rfl ?_
  refine q_iload_n d120_3 rfl ?_
  refine q_invV (o := 0) (ci := 9) (av := [.int a, .int i, .int j]) (rest := []) (d' := 1) (mc' := 0) (ms' := 0) d120_4 (cv9_235 120 rfl) rfl (by decide) rfl rfl (by omega) (Nat.le_of_ble_eq_true rfl) (Nat.le_of_ble_eq_true rfl) (lt_w1 rfl) sh0 (Nat.le_refl _) (Nat.le_refl _) ?_
  refine c118 hR hV hC v1 (fun h1 => ?_) (fun h1 => ?_)
  ·
    show j_W 120 d 0 0 0 0 7 [some (.ref 0), some (.int a), some (.int i), some (.int j), none] [.int 1] w1 (I, D, RR R) Q
    refine q_istore (L' := [some (.ref 0), some (.int a), some (.int i), some (.int j), some (.int 1)]) d120_7 (Nat.le_of_ble_eq_true rfl) rfl ?_
    refine q_iload d120_9 rfl ?_
    refine q_iconst (v := 1) (by decide) d120_11 ?_
    refine q_icmp_eq (tgt := 20) d120_12 rfl (fun _ => ?_) (fun h => absurd h (by decide))
    exact r_sub (L' := [some (.ref 0), some (.int a), some (.int i), some (.int j), none]) ⟨rfl, rfl, rfl, rfl, trivial⟩ (v2 h1)
  ·
    show j_W 120 d 0 0 0 0 7 [some (.ref 0), some (.int a), some (.int i), some (.int j), none] [.int (rfV β a)] w1 (I, D, RR R) Q
    refine q_istore (L' := [some (.ref 0), some (.int a), some (.int i), some (.int j), some (.int (rfV β a))]) d120_7 (Nat.le_of_ble_eq_true rfl) rfl ?_
    refine q_iload d120_9 rfl ?_
    refine q_iconst (v := 1) (by decide) d120_11 ?_
    refine q_icmp_eq (tgt := 20) d120_12 rfl (fun h2t => ?_) (fun h2f => ?_)
    ·
      exact r_sub (L' := [some (.ref 0), some (.int a), some (.int i), some (.int j), none]) ⟨rfl, rfl, rfl, rfl, trivial⟩ (v3 h1 h2t)
    ·
      refine q_iload d120_15 rfl ?_
      refine q_goto (tgt := 30) d120_17 rfl ?_
      exact q_iret d120_30 rfl (Nat.le_refl _) (Nat.le_refl _) (v4 h1 h2f)

set_option maxRecDepth 10000 in
set_option maxHeartbeats 4000000 in
theorem u258e {d : Nat} {I : Nat → Nat → Int32} {D : Nat → Nat → UInt64} {R : Nat → Nat → Option Nat} {Q : j_Po} {a : Int32} {i : Int32} {j : Int32} {β : Bd} (hV : BV β) (hS : RSt β I D) (hd : 3 ≤ d)
    (v1 : 2 ≤ 2)
    (v2 : (okC β a i j) → j_W 258 d 0 0 0 0 17 [some (.ref 260), some (.int a), some (.int i), some (.int j), none] [] w1 (I, D, RR R) Q)
    (v3 : (¬ okC β a i j) → ((rfV β a) = 0) → j_W 258 d 0 0 0 0 17 [some (.ref 260), some (.int a), some (.int i), some (.int j), none] [] w1 (I, D, RR R) Q)
    (v4 : (¬ okC β a i j) → (¬ (rfV β a) = 0) → Q (some (.int (rfV β a))) w1 (I, D, RR R)) : j_Call d 258 [.ref 260, .int a, .int i, .int j] w1 (I, D, RR R) 0 0 Q := by
  refine q_enter (L := [some (.ref 260), some (.int a), some (.int i), some (.int j), none]) j_m258 (Nat.le_of_ble_eq_true rfl) rfl ?_
  refine q_aload_n d258_0 rfl ?_
  refine q_iload_n d258_1 rfl ?_
  refine q_iload_n d258_2 rfl ?_
  refine q_iload_n d258_3 rfl ?_
  refine q_invV (o := 260) (ci := 10) (av := [.int a, .int i, .int j]) (rest := []) (d' := 2) (mc' := 0) (ms' := 0) d258_4 (cv10_491 258 rfl) rfl (by decide) rfl rfl (by omega) (Nat.le_of_ble_eq_true rfl) (Nat.le_of_ble_eq_true rfl) (lt_w1 rfl) sh260 (Nat.le_refl _) (Nat.le_refl _) ?_
  refine c256 hV hS v1 (fun h1 => ?_) (fun h1 => ?_)
  ·
    show j_W 258 d 0 0 0 0 7 [some (.ref 260), some (.int a), some (.int i), some (.int j), none] [.int 0] w1 (I, D, RR R) Q
    refine q_istore (L' := [some (.ref 260), some (.int a), some (.int i), some (.int j), some (.int 0)]) d258_7 (Nat.le_of_ble_eq_true rfl) rfl ?_
    refine q_iload d258_9 rfl ?_
    refine q_if_eq (tgt := 17) d258_11 rfl (fun _ => ?_) (fun h => absurd h (by decide))
    exact r_sub (L' := [some (.ref 260), some (.int a), some (.int i), some (.int j), none]) ⟨rfl, rfl, rfl, rfl, trivial⟩ (v2 h1)
  ·
    show j_W 258 d 0 0 0 0 7 [some (.ref 260), some (.int a), some (.int i), some (.int j), none] [.int (rfV β a)] w1 (I, D, RR R) Q
    refine q_istore (L' := [some (.ref 260), some (.int a), some (.int i), some (.int j), some (.int (rfV β a))]) d258_7 (Nat.le_of_ble_eq_true rfl) rfl ?_
    refine q_iload d258_9 rfl ?_
    refine q_if_eq (tgt := 17) d258_11 rfl (fun h2t => ?_) (fun h2f => ?_)
    ·
      exact r_sub (L' := [some (.ref 260), some (.int a), some (.int i), some (.int j), none]) ⟨rfl, rfl, rfl, rfl, trivial⟩ (v3 h1 h2t)
    ·
      refine q_iload d258_14 rfl ?_
      exact q_iret d258_16 rfl (Nat.le_refl _) (Nat.le_refl _) (v4 h1 h2f)

set_option maxRecDepth 10000 in
set_option maxHeartbeats 4000000 in
theorem u117e {d : Nat} {I : Nat → Nat → Int32} {D : Nat → Nat → UInt64} {R : Nat → Nat → Option Nat} {Q : j_Po} {a : Int32} {i : Int32} {j : Int32} {β : Bd} (hR : WFR R) (hV : BV β) (hC : CB β I D R) (hd : 2 ≤ d)
    (v1 : 1 ≤ 1)
    (v2 : (okC β a i j) → j_W 117 d 0 0 0 0 19 [some (.ref 0), some (.int a), some (.int i), some (.int j), none, none] [] w1 (I, D, RR R) Q)
    (v3 : (¬ okC β a i j) → ((rfV β a) = 1) → j_W 117 d 0 0 0 0 19 [some (.ref 0), some (.int a), some (.int i), some (.int j), none, none] [] w1 (I, D, RR R) Q)
    (v4 : (¬ okC β a i j) → (¬ (rfV β a) = 1) → Q (some (.long (((rfV β a) : Int32).toInt64))) w1 (I, D, RR R)) : j_Call d 117 [.ref 0, .int a, .int i, .int j] w1 (I, D, RR R) 0 0 Q := by
  refine q_enter (L := [some (.ref 0), some (.int a), some (.int i), some (.int j), none, none]) j_m117 (Nat.le_of_ble_eq_true rfl) rfl ?_
  refine q_aload_n d117_0 rfl ?_
  refine q_iload_n d117_1 rfl ?_
  refine q_iload_n d117_2 rfl ?_
  refine q_iload_n d117_3 rfl ?_
  refine q_invV (o := 0) (ci := 9) (av := [.int a, .int i, .int j]) (rest := []) (d' := 1) (mc' := 0) (ms' := 0) d117_4 (cv9_235 117 rfl) rfl (by decide) rfl rfl (by omega) (Nat.le_of_ble_eq_true rfl) (Nat.le_of_ble_eq_true rfl) (lt_w1 rfl) sh0 (Nat.le_refl _) (Nat.le_refl _) ?_
  refine c118 hR hV hC v1 (fun h1 => ?_) (fun h1 => ?_)
  ·
    show j_W 117 d 0 0 0 0 7 [some (.ref 0), some (.int a), some (.int i), some (.int j), none, none] [.int 1] w1 (I, D, RR R) Q
    refine q_istore (L' := [some (.ref 0), some (.int a), some (.int i), some (.int j), some (.int 1), none]) d117_7 (Nat.le_of_ble_eq_true rfl) rfl ?_
    refine q_iload d117_9 rfl ?_
    refine q_iconst (v := 1) (by decide) d117_11 ?_
    refine q_icmp_eq (tgt := 19) d117_12 rfl (fun _ => ?_) (fun h => absurd h (by decide))
    exact r_sub (L' := [some (.ref 0), some (.int a), some (.int i), some (.int j), none, none]) ⟨rfl, rfl, rfl, rfl, trivial⟩ (v2 h1)
  ·
    show j_W 117 d 0 0 0 0 7 [some (.ref 0), some (.int a), some (.int i), some (.int j), none, none] [.int (rfV β a)] w1 (I, D, RR R) Q
    refine q_istore (L' := [some (.ref 0), some (.int a), some (.int i), some (.int j), some (.int (rfV β a)), none]) d117_7 (Nat.le_of_ble_eq_true rfl) rfl ?_
    refine q_iload d117_9 rfl ?_
    refine q_iconst (v := 1) (by decide) d117_11 ?_
    refine q_icmp_eq (tgt := 19) d117_12 rfl (fun h2t => ?_) (fun h2f => ?_)
    ·
      exact r_sub (L' := [some (.ref 0), some (.int a), some (.int i), some (.int j), none, none]) ⟨rfl, rfl, rfl, rfl, trivial⟩ (v3 h1 h2t)
    ·
      refine q_iload d117_15 rfl ?_
      refine q_i2l d117_17 ?_
      exact q_lret d117_18 rfl (Nat.le_refl _) (Nat.le_refl _) (v4 h1 h2f)

set_option maxRecDepth 10000 in
set_option maxHeartbeats 4000000 in
theorem u255e {d : Nat} {I : Nat → Nat → Int32} {D : Nat → Nat → UInt64} {R : Nat → Nat → Option Nat} {Q : j_Po} {a : Int32} {i : Int32} {j : Int32} {β : Bd} (hV : BV β) (hS : RSt β I D) (hd : 3 ≤ d)
    (v1 : 2 ≤ 2)
    (v2 : (okC β a i j) → j_W 255 d 0 0 0 0 18 [some (.ref 260), some (.int a), some (.int i), some (.int j), none] [] w1 (I, D, RR R) Q)
    (v3 : (¬ okC β a i j) → ((rfV β a) = 0) → j_W 255 d 0 0 0 0 18 [some (.ref 260), some (.int a), some (.int i), some (.int j), none] [] w1 (I, D, RR R) Q)
    (v4 : (¬ okC β a i j) → (¬ (rfV β a) = 0) → Q (some (.long (((rfV β a) : Int32).toInt64))) w1 (I, D, RR R)) : j_Call d 255 [.ref 260, .int a, .int i, .int j] w1 (I, D, RR R) 0 0 Q := by
  refine q_enter (L := [some (.ref 260), some (.int a), some (.int i), some (.int j), none]) j_m255 (Nat.le_of_ble_eq_true rfl) rfl ?_
  refine q_aload_n d255_0 rfl ?_
  refine q_iload_n d255_1 rfl ?_
  refine q_iload_n d255_2 rfl ?_
  refine q_iload_n d255_3 rfl ?_
  refine q_invV (o := 260) (ci := 10) (av := [.int a, .int i, .int j]) (rest := []) (d' := 2) (mc' := 0) (ms' := 0) d255_4 (cv10_491 255 rfl) rfl (by decide) rfl rfl (by omega) (Nat.le_of_ble_eq_true rfl) (Nat.le_of_ble_eq_true rfl) (lt_w1 rfl) sh260 (Nat.le_refl _) (Nat.le_refl _) ?_
  refine c256 hV hS v1 (fun h1 => ?_) (fun h1 => ?_)
  ·
    show j_W 255 d 0 0 0 0 7 [some (.ref 260), some (.int a), some (.int i), some (.int j), none] [.int 0] w1 (I, D, RR R) Q
    refine q_istore (L' := [some (.ref 260), some (.int a), some (.int i), some (.int j), some (.int 0)]) d255_7 (Nat.le_of_ble_eq_true rfl) rfl ?_
    refine q_iload d255_9 rfl ?_
    refine q_if_eq (tgt := 18) d255_11 rfl (fun _ => ?_) (fun h => absurd h (by decide))
    exact r_sub (L' := [some (.ref 260), some (.int a), some (.int i), some (.int j), none]) ⟨rfl, rfl, rfl, rfl, trivial⟩ (v2 h1)
  ·
    show j_W 255 d 0 0 0 0 7 [some (.ref 260), some (.int a), some (.int i), some (.int j), none] [.int (rfV β a)] w1 (I, D, RR R) Q
    refine q_istore (L' := [some (.ref 260), some (.int a), some (.int i), some (.int j), some (.int (rfV β a))]) d255_7 (Nat.le_of_ble_eq_true rfl) rfl ?_
    refine q_iload d255_9 rfl ?_
    refine q_if_eq (tgt := 18) d255_11 rfl (fun h2t => ?_) (fun h2f => ?_)
    ·
      exact r_sub (L' := [some (.ref 260), some (.int a), some (.int i), some (.int j), none]) ⟨rfl, rfl, rfl, rfl, trivial⟩ (v3 h1 h2t)
    ·
      refine q_iload d255_14 rfl ?_
      refine q_i2l d255_16 ?_
      exact q_lret d255_17 rfl (Nat.le_refl _) (Nat.le_refl _) (v4 h1 h2f)

set_option maxRecDepth 10000 in
set_option maxHeartbeats 4000000 in
theorem u120g {d : Nat} {I : Nat → Nat → Int32} {D : Nat → Nat → UInt64} {R : Nat → Nat → Option Nat} {Q : j_Po} {t : Nat} {i : Nat} {j : Nat} {β : Bd} (hR : WFR R) (hV : BV β) (hC : CB β I D R) (hN : NM β I) (hO : OrdB β I) (ht : t < 6) (hl : bL β t = true) (hi : i < bm β t) (hj : j < wd β t) (hd : 50 ≤ d)
    (v1 : t < 6)
    (v2 : bL β t = true)
    (v3 : i < bm β t)
    (v4 : j < wd β t)
    (v5 : 40 ≤ 40)
    (v6 : ∀ J1 : Nat → Nat → Int32, ∀ E2 : Nat → Nat → UInt64, (FRc I D J1 E2) → (LC J1 E2 1 (bO β t) (val β (supV β (env β) t i j) (bO β t))) → (val β (supV β (env β) t i j) (bO β t)).1 < 200)
    (v7 : ∀ J1 : Nat → Nat → Int32, ∀ E2 : Nat → Nat → UInt64, (FRc I D J1 E2) → (LC J1 E2 1 (bO β t) (val β (supV β (env β) t i j) (bO β t))) → Q (some (.int (blV ((val β (supV β (env β) t i j) (bO β t)).1)))) w1 (J1, E2, RR R)) : j_W 120 d 0 0 0 0 20 [some (.ref 0), some (.int (nI t)), some (.int (nI i)), some (.int (nI j)), none] [] w1 (I, D, RR R) Q := by
  refine q_aload_n d120_20 rfl ?_
  refine q_iload_n d120_21 rfl ?_
  refine q_iload_n d120_22 rfl ?_
  refine q_iload_n d120_23 rfl ?_
  refine q_invV (o := 0) (ci := 9) (av := [.int (nI t), .int (nI i), .int (nI j)]) (rest := []) (d' := 40) (mc' := 0) (ms' := 0) d120_24 (cv9_239 120 rfl) rfl (by decide) rfl rfl (by omega) (Nat.le_of_ble_eq_true rfl) (Nat.le_of_ble_eq_true rfl) (lt_w1 rfl) sh0 (Nat.le_refl _) (Nat.le_refl _) ?_
  refine c119 hR hV hC hN hO v1 v2 v3 v4 v5 (fun J1 E2 h3 h4 => ?_)
  show j_W 120 d 0 0 0 0 27 [some (.ref 0), some (.int (nI t)), some (.int (nI i)), some (.int (nI j)), none] [.int (nI ((val β (supV β (env β) t i j) (bO β t)).1))] w1 (J1, E2, RR R) Q
  refine q_invS (av := [.int (nI ((val β (supV β (env β) t i j) (bO β t)).1))]) (rest := []) (d' := 0) (mc' := 0) (ms' := 0) d120_27 (cv9_124 120 rfl) rfl rfl (by omega) (Nat.le_of_ble_eq_true rfl) (Nat.le_of_ble_eq_true rfl) (Nat.le_refl _) (Nat.le_refl _) ?_
  refine u54x (v6 J1 E2 h3 h4) ?_
  show j_W 120 d 0 0 0 0 30 [some (.ref 0), some (.int (nI t)), some (.int (nI i)), some (.int (nI j)), none] [.int (blV ((val β (supV β (env β) t i j) (bO β t)).1))] w1 (J1, E2, RR R) Q
  exact q_iret d120_30 rfl (Nat.le_refl _) (Nat.le_refl _) (v7 J1 E2 h3 h4)

set_option maxRecDepth 10000 in
set_option maxHeartbeats 4000000 in
theorem u258g {d : Nat} {I : Nat → Nat → Int32} {D : Nat → Nat → UInt64} {R : Nat → Nat → Option Nat} {Q : j_Po} {t : Nat} {i : Nat} {j : Nat} {β : Bd} (hV : BV β) (ht : t < 6) (hl : bL β t = true) (hi : i < bm β t) (hj : j < wd β t) (hd : 80 ≤ d)
    (v1 : RSt β I D)
    (v2 : RIn β I D (env β))
    (v3 : t < 6)
    (v4 : bL β t = true)
    (v5 : i < bm β t)
    (v6 : j < wd β t)
    (v7 : 70 ≤ 70)
    (v8 : ∀ J1 : Nat → Nat → Int32, ∀ E2 : Nat → Nat → UInt64, (FRr I D J1 E2) → (VQ (J1 260 31) (J1 260 32) (E2 260 30) (val β (supV β (env β) t i j) (bO β t))) → Q (some (.int (J1 260 32))) w1 (J1, E2, RR R)) : j_W 258 d 0 0 0 0 17 [some (.ref 260), some (.int (nI t)), some (.int (nI i)), some (.int (nI j)), none] [] w1 (I, D, RR R) Q := by
  refine q_aload_n d258_17 rfl ?_
  refine q_iload_n d258_18 rfl ?_
  refine q_iload_n d258_19 rfl ?_
  refine q_iload_n d258_20 rfl ?_
  refine q_invV (o := 260) (ci := 10) (av := [.int (nI t), .int (nI i), .int (nI j)]) (rest := []) (d' := 70) (mc' := 0) (ms' := 0) d258_21 (cv10_495 258 rfl) rfl (by decide) rfl rfl (by omega) (Nat.le_of_ble_eq_true rfl) (Nat.le_of_ble_eq_true rfl) (lt_w1 rfl) sh260 (Nat.le_refl _) (Nat.le_refl _) ?_
  refine c257 (η := env β) hV v1 v2 v3 v4 v5 v6 v7 (fun J1 E2 h3 h4 => ?_)
  show j_W 258 d 0 0 0 0 24 [some (.ref 260), some (.int (nI t)), some (.int (nI i)), some (.int (nI j)), none] [] w1 (J1, E2, RR R) Q
  refine q_aload_n d258_24 rfl ?_
  refine q_getI d258_25 (fs10_289 258 rfl) rfl (lt_w1 rfl) sh260 ?_
  exact q_iret d258_28 rfl (Nat.le_refl _) (Nat.le_refl _) (v8 J1 E2 h3 h4)

set_option maxRecDepth 10000 in
set_option maxHeartbeats 4000000 in
theorem u255g {d : Nat} {I : Nat → Nat → Int32} {D : Nat → Nat → UInt64} {R : Nat → Nat → Option Nat} {Q : j_Po} {t : Nat} {i : Nat} {j : Nat} {β : Bd} (hV : BV β) (ht : t < 6) (hl : bL β t = true) (hi : i < bm β t) (hj : j < wd β t) (hd : 80 ≤ d)
    (v1 : RSt β I D)
    (v2 : RIn β I D (env β))
    (v3 : t < 6)
    (v4 : bL β t = true)
    (v5 : i < bm β t)
    (v6 : j < wd β t)
    (v7 : 70 ≤ 70)
    (v8 : ∀ J1 : Nat → Nat → Int32, ∀ E2 : Nat → Nat → UInt64, (FRr I D J1 E2) → (VQ (J1 260 31) (J1 260 32) (E2 260 30) (val β (supV β (env β) t i j) (bO β t))) → j_W 255 d 0 0 0 0 25 [some (.ref 260), none, none, none, none] [] w1 (J1, E2, RR R) Q) : j_W 255 d 0 0 0 0 18 [some (.ref 260), some (.int (nI t)), some (.int (nI i)), some (.int (nI j)), none] [] w1 (I, D, RR R) Q := by
  refine q_aload_n d255_18 rfl ?_
  refine q_iload_n d255_19 rfl ?_
  refine q_iload_n d255_20 rfl ?_
  refine q_iload_n d255_21 rfl ?_
  refine q_invV (o := 260) (ci := 10) (av := [.int (nI t), .int (nI i), .int (nI j)]) (rest := []) (d' := 70) (mc' := 0) (ms' := 0) d255_22 (cv10_495 255 rfl) rfl (by decide) rfl rfl (by omega) (Nat.le_of_ble_eq_true rfl) (Nat.le_of_ble_eq_true rfl) (lt_w1 rfl) sh260 (Nat.le_refl _) (Nat.le_refl _) ?_
  refine c257 (η := env β) hV v1 v2 v3 v4 v5 v6 v7 (fun J1 E2 h3 h4 => ?_)
  show j_W 255 d 0 0 0 0 25 [some (.ref 260), some (.int (nI t)), some (.int (nI i)), some (.int (nI j)), none] [] w1 (J1, E2, RR R) Q
  exact r_sub (L' := [some (.ref 260), none, none, none, none]) ⟨rfl, trivial⟩ (v8 J1 E2 h3 h4)

set_option maxRecDepth 10000 in
set_option maxHeartbeats 4000000 in
theorem u255h {d : Nat} {I : Nat → Nat → Int32} {D : Nat → Nat → UInt64} {R : Nat → Nat → Option Nat} {Q : j_Po}  {β : Bd} {t i j : Nat} (hv : VQ (I 260 31) (I 260 32) (D 260 30) (val β (supV β (env β) t i j) (bO β t))) (hd : 4 ≤ d)
    (v1 : 3 ≤ 3)
    (v2 : VQ (I 260 31) (I 260 32) (D 260 30) (val β (supV β (env β) t i j) (bO β t)))
    (v3 : Q (some (.long (ansV (val β (supV β (env β) t i j) (bO β t))))) w1 (I, D, RR R)) : j_W 255 d 0 0 0 0 25 [some (.ref 260), none, none, none, none] [] w1 (I, D, RR R) Q := by
  refine q_aload_n d255_25 rfl ?_
  refine q_getD d255_26 (fs10_282 255 rfl) rfl (lt_w1 rfl) sh260 ?_
  refine q_aload_n d255_29 rfl ?_
  refine q_getI d255_30 (fs10_286 255 rfl) rfl (lt_w1 rfl) sh260 ?_
  refine q_invS (av := [.double (D 260 30), .int (I 260 31)]) (rest := []) (d' := 3) (mc' := 0) (ms' := 0) d255_33 (cv10_335 255 rfl) rfl rfl (by omega) (Nat.le_of_ble_eq_true rfl) (Nat.le_of_ble_eq_true rfl) (Nat.le_refl _) (Nat.le_refl _) ?_
  refine c201 (v := (val β (supV β (env β) t i j) (bO β t))) (b := (I 260 32)) v1 v2 ?_
  show j_W 255 d 0 0 0 0 36 [some (.ref 260), none, none, none, none] [.long (ansV (val β (supV β (env β) t i j) (bO β t)))] w1 (I, D, RR R) Q
  exact q_lret d255_36 rfl (Nat.le_refl _) (Nat.le_refl _) v3

set_option maxRecDepth 10000 in
set_option maxHeartbeats 4000000 in
theorem u117g {d : Nat} {I : Nat → Nat → Int32} {D : Nat → Nat → UInt64} {R : Nat → Nat → Option Nat} {Q : j_Po} {t : Nat} {i : Nat} {j : Nat} {β : Bd} (hR : WFR R) (hV : BV β) (hC : CB β I D R) (hN : NM β I) (hO : OrdB β I) (ht : t < 6) (hl : bL β t = true) (hi : i < bm β t) (hj : j < wd β t) (hd : 50 ≤ d)
    (v1 : t < 6)
    (v2 : bL β t = true)
    (v3 : i < bm β t)
    (v4 : j < wd β t)
    (v5 : 40 ≤ 40)
    (v6 : ∀ J1 : Nat → Nat → Int32, ∀ E2 : Nat → Nat → UInt64, (FRc I D J1 E2) → (LC J1 E2 1 (bO β t) (val β (supV β (env β) t i j) (bO β t))) → j_W 117 d 0 0 0 0 28 [some (.ref 0), some (.int (nI t)), none, none, none, some (.int (nI ((val β (supV β (env β) t i j) (bO β t)).1)))] [] w1 (J1, E2, RR R) Q) : j_W 117 d 0 0 0 0 19 [some (.ref 0), some (.int (nI t)), some (.int (nI i)), some (.int (nI j)), none, none] [] w1 (I, D, RR R) Q := by
  refine q_aload_n d117_19 rfl ?_
  refine q_iload_n d117_20 rfl ?_
  refine q_iload_n d117_21 rfl ?_
  refine q_iload_n d117_22 rfl ?_
  refine q_invV (o := 0) (ci := 9) (av := [.int (nI t), .int (nI i), .int (nI j)]) (rest := []) (d' := 40) (mc' := 0) (ms' := 0) d117_23 (cv9_239 117 rfl) rfl (by decide) rfl rfl (by omega) (Nat.le_of_ble_eq_true rfl) (Nat.le_of_ble_eq_true rfl) (lt_w1 rfl) sh0 (Nat.le_refl _) (Nat.le_refl _) ?_
  refine c119 hR hV hC hN hO v1 v2 v3 v4 v5 (fun J1 E2 h3 h4 => ?_)
  show j_W 117 d 0 0 0 0 26 [some (.ref 0), some (.int (nI t)), some (.int (nI i)), some (.int (nI j)), none, none] [.int (nI ((val β (supV β (env β) t i j) (bO β t)).1))] w1 (J1, E2, RR R) Q
  refine q_istore (L' := [some (.ref 0), some (.int (nI t)), some (.int (nI i)), some (.int (nI j)), none, some (.int (nI ((val β (supV β (env β) t i j) (bO β t)).1)))]) d117_26 (Nat.le_of_ble_eq_true rfl) rfl ?_
  exact r_sub (L' := [some (.ref 0), some (.int (nI t)), none, none, none, some (.int (nI ((val β (supV β (env β) t i j) (bO β t)).1)))]) ⟨rfl, rfl, rfl, trivial⟩ (v6 J1 E2 h3 h4)

set_option maxRecDepth 10000 in
set_option maxHeartbeats 4000000 in
theorem u117h {d : Nat} {I : Nat → Nat → Int32} {D : Nat → Nat → UInt64} {R : Nat → Nat → Option Nat} {Q : j_Po} {t : Nat} {i : Nat} {j : Nat} {β : Bd} (hR : WFR R) (ht : t < 6) (ho : bO β t < 24) (hgo : I ((R 113 t).getD 0) 1 = nI (bO β t)) (hd : 10 ≤ d)
    (v1 : 1 ≤ 1)
    (v2 : VR (nI ((val β (supV β (env β) t i j) (bO β t)).1)) (D 214 (bO β t)) (val β (supV β (env β) t i j) (bO β t)))
    (v3 : (val β (supV β (env β) t i j) (bO β t)).1 = 0 → (val β (supV β (env β) t i j) (bO β t)).2 ≠ 0x8000000000000000)
    (v4 : Q (some (.long (ansV (val β (supV β (env β) t i j) (bO β t))))) w1 (I, D, RR R)) : j_W 117 d 0 0 0 0 28 [some (.ref 0), some (.int (nI t)), none, none, none, some (.int (nI ((val β (supV β (env β) t i j) (bO β t)).1)))] [] w1 (I, D, RR R) Q := by
  refine q_aload_n d117_28 rfl ?_
  refine q_getR (x := 107) d117_29 (fs9_46 117 rfl) rfl (lt_w1 rfl) sh0 (rs0_0 R) (by decide) ?_
  refine q_getR (x := 212) d117_32 (fs9_129 117 rfl) rfl (lt_w1 rfl) sh107 (rs107_3 R) (by decide) ?_
  refine q_iconst (v := 1) (by decide) d117_35 ?_
  refine q_aaload (c := 3) (a := 1) (x := 214) d117_36 (lt_w1 rfl) sh212 (by decide) rfl (by decide) (rm212 (k := 1) R (by decide)) (by decide) ?_
  refine q_aload_n d117_37 rfl ?_
  refine q_getR (x := 108) d117_38 (fs9_53 117 rfl) rfl (lt_w1 rfl) sh0 (rs0_1 R) (by decide) ?_
  refine q_getR (x := 113) d117_41 (fs9_197 117 rfl) rfl (lt_w1 rfl) sh108 (rs108_4 R) (by decide) ?_
  refine q_iload_n d117_44 rfl ?_
  have g2 := hR.g t (by omega)
  refine q_aaload (c := 7) (a := t) (x := ((R 113 t).getD 0)) d117_45 (lt_w1 rfl) sh113 (by decide) rfl (by omega) ((RR_d rfl).trans g2.1) (lt1000 (isG_lt g2.2)) ?_
  refine q_getI d117_46 (fs9_242 117 rfl) rfl (isG_lt g2.2) (isG_sh g2.2) ?_
  refine r_int (y := (nI (bO β t))) (show I ((R 113 t).getD 0) 1 = (nI (bO β t)) from hgo) ?_
  refine q_daload (a := (bO β t)) d117_49 (lt_w1 rfl) sh214 rfl (by omega) ?_
  refine q_iload d117_50 rfl ?_
  refine q_invS (av := [.double (D 214 (bO β t)), .int (nI ((val β (supV β (env β) t i j) (bO β t)).1))]) (rest := []) (d' := 1) (mc' := 0) (ms' := 0) d117_52 (cv9_132 117 rfl) rfl rfl (by omega) (Nat.le_of_ble_eq_true rfl) (Nat.le_of_ble_eq_true rfl) (Nat.le_refl _) (Nat.le_refl _) ?_
  refine c56 (v := (val β (supV β (env β) t i j) (bO β t))) v1 v2 v3 ?_
  show j_W 117 d 0 0 0 0 55 [some (.ref 0), some (.int (nI t)), none, none, none, some (.int (nI ((val β (supV β (env β) t i j) (bO β t)).1)))] [.long (ansV (val β (supV β (env β) t i j) (bO β t)))] w1 (I, D, RR R) Q
  exact q_lret d117_55 rfl (Nat.le_refl _) (Nat.le_refl _) v4

